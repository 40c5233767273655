section
/-! ===== contracts 19 ===== -/
theorem qv_e289254c2 {a : Nat} {j : Int} (hm : ¬ ((a = 41 ∧ j = 0) ∨ a = 42 ∨ (a = 41 ∧ j = 2) ∨ (a = 41 ∧ j = 3) ∨ (a = 41 ∧ j = 4) ∨ (a = 41 ∧ j = 5) ∨ (a = 41 ∧ j = 6) ∨ (a = 41 ∧ j = 7) ∨ (a = 41 ∧ j = 8) ∨ (a = 41 ∧ j = 48) ∨ a = 63 ∨ a = 64)) : ¬ ((a = 41 ∧ j = 8)) := (fun h => hm (Or.inr (Or.inr (Or.inr (Or.inr (Or.inr (Or.inr (Or.inr (Or.inr (Or.inl h))))))))))
theorem q_a3f2481f3 {x0 x1 x2 : Int} (f0 : x0 ≠ (-1)) (f1 : (x0 = (-1)) ∨ (x1 = x0)) (f2 : (x1 = (-1)) ∨ (x2 = x1)) : ¬ x2 = (-1) := by omega
theorem qv_128b34fe0 {a : Nat} {j : Int} (hm : ¬ ((a = 41 ∧ j = 0) ∨ a = 42 ∨ (a = 41 ∧ j = 2) ∨ (a = 41 ∧ j = 3) ∨ (a = 41 ∧ j = 4) ∨ (a = 41 ∧ j = 5) ∨ (a = 41 ∧ j = 6) ∨ (a = 41 ∧ j = 7) ∨ (a = 41 ∧ j = 8) ∨ (a = 41 ∧ j = 48) ∨ a = 63 ∨ a = 64)) : ¬ ((a = 41 ∧ j = 4) ∨ (a = 41 ∧ j = 5) ∨ (a = 41 ∧ j = 6)) := (fun q => q.elim (fun h => hm (Or.inr (Or.inr (Or.inr (Or.inr (Or.inl h)))))) (fun q => q.elim (fun h => hm (Or.inr (Or.inr (Or.inr (Or.inr (Or.inr (Or.inl h))))))) (fun h => hm (Or.inr (Or.inr (Or.inr (Or.inr (Or.inr (Or.inr (Or.inl h))))))))))
theorem qn_518a05c1b {j : Int} : ¬ (((63 : Nat) = 41 ∧ j = 4) ∨ ((63 : Nat) = 41 ∧ j = 5) ∨ ((63 : Nat) = 41 ∧ j = 6)) := (fun q => q.elim (fun h => absurd h.1 (nn rfl)) (fun q => q.elim (fun h => absurd h.1 (nn rfl)) (fun h => absurd h.1 (nn rfl))))
theorem q_ea1a384bf {x0 : Int} (f0 : (x0 = 0) ∨ (x0 ≥ 0 ∧ x0 ≤ 3)) : x0 < 4 := by omega
theorem q_3578ef10e {x0 x1 x2 : Int} (f0 : (x0 ≠ (-1))) (f1 : (x0 = (-1)) ∨ (x1 = x0)) (f2 : (x1 = (-1)) ∨ (x2 = x1)) : ¬ x2 = (-1) := by omega
theorem qv_e4455395c {a : Nat} {j : Int} (hm : ¬ ((a = 41 ∧ j = 0) ∨ a = 42 ∨ (a = 41 ∧ j = 2) ∨ (a = 41 ∧ j = 3) ∨ (a = 41 ∧ j = 4) ∨ (a = 41 ∧ j = 5) ∨ (a = 41 ∧ j = 6) ∨ (a = 41 ∧ j = 7) ∨ (a = 41 ∧ j = 8) ∨ (a = 41 ∧ j = 48) ∨ a = 63 ∨ a = 64)) : ¬ ((a = 41 ∧ j = 5) ∨ (a = 41 ∧ j = 6)) := (fun q => q.elim (fun h => hm (Or.inr (Or.inr (Or.inr (Or.inr (Or.inr (Or.inl h))))))) (fun h => hm (Or.inr (Or.inr (Or.inr (Or.inr (Or.inr (Or.inr (Or.inl h)))))))))
theorem qv_6ad33b000 {a : Nat} {j : Int} (hm : ¬ ((a = 41 ∧ j = 0) ∨ a = 42 ∨ (a = 41 ∧ j = 2) ∨ (a = 41 ∧ j = 3) ∨ (a = 41 ∧ j = 4) ∨ (a = 41 ∧ j = 5) ∨ (a = 41 ∧ j = 6) ∨ (a = 41 ∧ j = 7) ∨ (a = 41 ∧ j = 8) ∨ (a = 41 ∧ j = 48) ∨ a = 63 ∨ a = 64)) : ¬ ((a = 41 ∧ j = 2) ∨ (a = 41 ∧ j = 3) ∨ (a = 41 ∧ j = 4) ∨ (a = 41 ∧ j = 5) ∨ (a = 41 ∧ j = 7) ∨ (a = 41 ∧ j = 8)) := (fun q => q.elim (fun h => hm (Or.inr (Or.inr (Or.inl h)))) (fun q => q.elim (fun h => hm (Or.inr (Or.inr (Or.inr (Or.inl h))))) (fun q => q.elim (fun h => hm (Or.inr (Or.inr (Or.inr (Or.inr (Or.inl h)))))) (fun q => q.elim (fun h => hm (Or.inr (Or.inr (Or.inr (Or.inr (Or.inr (Or.inl h))))))) (fun q => q.elim (fun h => hm (Or.inr (Or.inr (Or.inr (Or.inr (Or.inr (Or.inr (Or.inr (Or.inl h))))))))) (fun h => hm (Or.inr (Or.inr (Or.inr (Or.inr (Or.inr (Or.inr (Or.inr (Or.inr (Or.inl h)))))))))))))))
theorem q_2a2e68b1b {x0 : Int} (f0 : 0 ≤ x0 ∧ x0 ≤ 16) (f1 : x0 ≠ 0) : 0 ≤ x0 - 1 := by omega
theorem q_9750a9c5c {x0 : Int} (f0 : 0 ≤ x0 ∧ x0 ≤ 4) : x0 + 30 < 37 := by omega
theorem q_8e33475e7 {x0 x1 : Int} (f0 : 0 ≤ x0 ∧ x0 ≤ 4) (f1 : ¬ (x1 ≥ x0)) : x1 + 1 ≤ 4 := by omega
theorem q_fe18d6d95 {x0 : Int} (f0 : 0 ≤ x0 ∧ x0 ≤ 50) : (-2147483648) ≤ x0 := by omega
theorem q_5d4e5294a {x0 : Int} (f0 : 0 ≤ x0 ∧ x0 ≤ 50) : x0 ≤ 2147483647 := by omega
theorem q_7e8f1d31c {x0 : Int} (f0 : ¬ (x0 < 0)) : 0 ≤ x0 + 24 := by omega
theorem q_3aa97594e {x0 x1 : Int} (f0 : 0 ≤ x0 ∧ x0 ≤ 6) (f1 : ¬ (x1 > x0 - 1)) : x1 + 24 < 37 := by omega
theorem q_490e7f1d7 {x0 x1 x2 : Int} (f0 : 0 ≤ x0 ∧ x0 ≤ 6) (f1 : ¬ (x1 ≥ 4)) (f2 : ¬ (x2 > x0 - 1)) : 4 * x2 + x1 < 24 := by omega
theorem q_cc0c3eecc {x0 x1 : Int} (f0 : ¬ (x0 < 0)) (f1 : ¬ (x1 < 0)) : 0 ≤ 4 * x1 + x0 := by omega
theorem q_6645f81e3 {x0 x1 x2 : Int} (f0 : 0 ≤ x0 ∧ x0 ≤ 6) (f1 : ¬ (x1 ≥ 4)) (f2 : ¬ (x2 > x0 - 1)) : 4 * x2 + x1 < 37 := by omega
theorem q_8256bb04b {x0 x1 : Int} (f0 : ¬ (x0 < 0)) (f1 : ¬ (x1 < 0)) : 0 ≤ 3 * x1 + x0 := by omega
theorem q_c1df8a943 {x0 x1 x2 : Int} (f0 : 0 ≤ x0 ∧ x0 ≤ 4) (f1 : ¬ (x1 > 2)) (f2 : ¬ (x2 > x0 - 1)) : 3 * x2 + x1 < 12 := by omega
theorem q_18ebff911 {x0 : Int} (f0 : ¬ (x0 < 0)) : 0 ≤ x0 + 30 := by omega
theorem q_ebe6a6f81 {x0 x1 : Int} (f0 : 0 ≤ x0 ∧ x0 ≤ 4) (f1 : ¬ (x1 > x0 - 1)) : x1 + 30 < 37 := by omega
theorem qv_bcc235c24 {a : Nat} {j : Int} (hm : ¬ ((a = 41 ∧ j = 0) ∨ a = 42 ∨ a = 59 ∨ a = 54 ∨ a = 55)) : ¬ (a = 54 ∨ a = 55) := (fun q => q.elim (fun h => hm (Or.inr (Or.inr (Or.inr (Or.inl h))))) (fun h => hm (Or.inr (Or.inr (Or.inr (Or.inr h))))))
theorem c_207_22 : mLk 207 22 = some (.iload_n 2, 1) := rfl
theorem c_207_23 : mLk 207 23 = some (.iconst 4, 1) := rfl
theorem c_207_24 : mLk 207 24 = some (.if_icmp .ge 16, 3) := rfl
theorem c_207_40 : mLk 207 40 = some (.iconst 0, 1) := rfl
theorem c_207_41 : mLk 207 41 = some (.istore_n 2, 1) := rfl
theorem c_207_27 : mLk 207 27 = some (.aload_n 0, 1) := rfl
theorem c_207_28 : mLk 207 28 = some (.getfield 80, 3) := rfl
theorem c_207_31 : mLk 207 31 = some (.iload_n 2, 1) := rfl
theorem c_207_32 : mLk 207 32 = some (.iconst (-1), 1) := rfl
theorem c_207_33 : mLk 207 33 = some (.iastore, 1) := rfl
theorem c_207_34 : mLk 207 34 = some (.iinc 2 1, 3) := rfl
theorem c_207_37 : mLk 207 37 = some (.goto (-15), 3) := rfl
theorem c_207_42 : mLk 207 42 = some (.aload_n 0, 1) := rfl
theorem c_207_43 : mLk 207 43 = some (.invokevirtual 131, 3) := rfl
theorem c_207_46 : mLk 207 46 = some (.ifCond .eq 88, 3) := rfl
theorem c_207_134 : mLk 207 134 = some (.aload_n 0, 1) := rfl
theorem c_207_135 : mLk 207 135 = some (.iload_n 2, 1) := rfl
theorem c_207_136 : mLk 207 136 = some (.invokevirtual 232, 3) := rfl
theorem c_207_139 : mLk 207 139 = some (.istore_n 3, 1) := rfl
theorem c_207_140 : mLk 207 140 = some (.aload_n 0, 1) := rfl
theorem c_207_141 : mLk 207 141 = some (.getfield 102, 3) := rfl
theorem c_207_144 : mLk 207 144 = some (.iconst (-1), 1) := rfl
theorem c_207_145 : mLk 207 145 = some (.if_icmp .eq 5, 3) := rfl
theorem c_207_148 : mLk 207 148 = some (.iload_n 3, 1) := rfl
theorem c_207_149 : mLk 207 149 = some (.ireturn, 1) := rfl
theorem c_207_49 : mLk 207 49 = some (.aload_n 0, 1) := rfl
theorem c_207_50 : mLk 207 50 = some (.invokevirtual 211, 3) := rfl
theorem c_207_53 : mLk 207 53 = some (.ifCond .eq 81, 3) := rfl
theorem c_207_150 : mLk 207 150 = some (.aload_n 0, 1) := rfl
theorem c_207_151 : mLk 207 151 = some (.iload_n 2, 1) := rfl
theorem c_207_152 : mLk 207 152 = some (.putfield 179, 3) := rfl
theorem c_207_155 : mLk 207 155 = some (.aload_n 0, 1) := rfl
theorem c_207_156 : mLk 207 156 = some (.aload_n 0, 1) := rfl
theorem c_207_157 : mLk 207 157 = some (.getfield 80, 3) := rfl
theorem c_207_160 : mLk 207 160 = some (.aload_n 0, 1) := rfl
theorem c_207_161 : mLk 207 161 = some (.getfield 83, 3) := rfl
theorem c_207_164 : mLk 207 164 = some (.iconst 4, 1) := rfl
theorem c_207_165 : mLk 207 165 = some (.invokevirtual 169, 3) := rfl
theorem c_207_168 : mLk 207 168 = some (.iload_n 3, 1) := rfl
theorem c_207_169 : mLk 207 169 = some (.ireturn, 1) := rfl
theorem c_207_56 : mLk 207 56 = some (.aload_n 0, 1) := rfl
theorem c_207_57 : mLk 207 57 = some (.getfield 108, 3) := rfl
theorem c_207_60 : mLk 207 60 = some (.istore_n 3, 1) := rfl
theorem c_207_61 : mLk 207 61 = some (.aload_n 0, 1) := rfl
theorem c_207_62 : mLk 207 62 = some (.iconst 0, 1) := rfl
theorem c_207_63 : mLk 207 63 = some (.iconst 3, 1) := rfl
theorem c_207_64 : mLk 207 64 = some (.invokevirtual 199, 3) := rfl
theorem c_207_67 : mLk 207 67 = some (.istore 4, 2) := rfl
theorem c_207_69 : mLk 207 69 = some (.aload_n 0, 1) := rfl
theorem c_207_70 : mLk 207 70 = some (.invokevirtual 131, 3) := rfl
theorem c_207_73 : mLk 207 73 = some (.ifCond .eq 20, 3) := rfl
theorem c_207_93 : mLk 207 93 = some (.aload_n 0, 1) := rfl
theorem c_207_94 : mLk 207 94 = some (.iconst 0, 1) := rfl
theorem c_207_95 : mLk 207 95 = some (.sipush 9999, 3) := rfl
theorem c_207_98 : mLk 207 98 = some (.invokevirtual 199, 3) := rfl
theorem c_207_101 : mLk 207 101 = some (.istore 5, 2) := rfl
theorem c_207_103 : mLk 207 103 = some (.aload_n 0, 1) := rfl
theorem c_207_104 : mLk 207 104 = some (.bipush 59, 2) := rfl
theorem c_207_106 : mLk 207 106 = some (.invokevirtual 229, 3) := rfl
theorem c_207_109 : mLk 207 109 = some (.aload_n 0, 1) := rfl
theorem c_207_110 : mLk 207 110 = some (.invokevirtual 131, 3) := rfl
theorem c_207_113 : mLk 207 113 = some (.ifCond .ne 6, 3) := rfl
theorem c_207_116 : mLk 207 116 = some (.goto 18, 3) := rfl
theorem c_207_76 : mLk 207 76 = some (.aload_n 0, 1) := rfl
theorem c_207_77 : mLk 207 77 = some (.getfield 80, 3) := rfl
theorem c_207_80 : mLk 207 80 = some (.iload 4, 2) := rfl
theorem c_207_82 : mLk 207 82 = some (.iaload, 1) := rfl
theorem c_207_83 : mLk 207 83 = some (.iconst (-1), 1) := rfl
theorem c_207_84 : mLk 207 84 = some (.if_icmp .eq 9, 3) := rfl
theorem c_207_119 : mLk 207 119 = some (.aload_n 0, 1) := rfl
theorem c_207_120 : mLk 207 120 = some (.getfield 80, 3) := rfl
theorem c_207_123 : mLk 207 123 = some (.iload 4, 2) := rfl
theorem c_207_125 : mLk 207 125 = some (.iload 5, 2) := rfl
theorem c_207_127 : mLk 207 127 = some (.iastore, 1) := rfl
theorem c_207_128 : mLk 207 128 = some (.iinc 2 1, 3) := rfl
theorem c_207_131 : mLk 207 131 = some (.goto (-89), 3) := rfl
theorem c_207_87 : mLk 207 87 = some (.aload_n 0, 1) := rfl
theorem c_207_88 : mLk 207 88 = some (.iconst 2, 1) := rfl
theorem c_207_89 : mLk 207 89 = some (.iload_n 3, 1) := rfl
theorem c_207_90 : mLk 207 90 = some (.invokevirtual 138, 3) := rfl
theorem c_207_0 : mLk 207 0 = some (.aload_n 0, 1) := rfl
theorem c_207_1 : mLk 207 1 = some (.iconst 0, 1) := rfl
theorem c_207_2 : mLk 207 2 = some (.putfield 3, 3) := rfl
theorem c_207_5 : mLk 207 5 = some (.aload_n 0, 1) := rfl
theorem c_207_6 : mLk 207 6 = some (.iload_n 1, 1) := rfl
theorem c_207_7 : mLk 207 7 = some (.invokevirtual 381, 3) := rfl
theorem c_207_10 : mLk 207 10 = some (.ifCond .ne 5, 3) := rfl
theorem c_207_13 : mLk 207 13 = some (.iconst 0, 1) := rfl
theorem c_207_14 : mLk 207 14 = some (.ireturn, 1) := rfl
theorem c_207_15 : mLk 207 15 = some (.aload_n 0, 1) := rfl
theorem c_207_16 : mLk 207 16 = some (.iload_n 1, 1) := rfl
theorem c_207_17 : mLk 207 17 = some (.invokevirtual 207, 3) := rfl
theorem c_207_20 : mLk 207 20 = some (.iconst 0, 1) := rfl
theorem c_207_21 : mLk 207 21 = some (.istore_n 2, 1) := rfl
theorem c_208_26 : mLk 208 26 = some (.iload_n 1, 1) := rfl
theorem c_208_27 : mLk 208 27 = some (.bipush 37, 2) := rfl
theorem c_208_29 : mLk 208 29 = some (.if_icmp .ge 29, 3) := rfl
theorem c_208_58 : mLk 208 58 = some (.aload_n 0, 1) := rfl
theorem c_208_59 : mLk 208 59 = some (.iconst 0, 1) := rfl
theorem c_208_60 : mLk 208 60 = some (.putfield 188, 3) := rfl
theorem c_208_63 : mLk 208 63 = some (.aload_n 0, 1) := rfl
theorem c_208_64 : mLk 208 64 = some (.getfield 182, 3) := rfl
theorem c_208_67 : mLk 208 67 = some (.ireturn, 1) := rfl
theorem c_208_32 : mLk 208 32 = some (.aload_n 0, 1) := rfl
theorem c_208_33 : mLk 208 33 = some (.getfield 65, 3) := rfl
theorem c_208_36 : mLk 208 36 = some (.iload_n 1, 1) := rfl
theorem c_208_37 : mLk 208 37 = some (.aload_n 0, 1) := rfl
theorem c_208_38 : mLk 208 38 = some (.getfield 71, 3) := rfl
theorem c_208_41 : mLk 208 41 = some (.bipush 37, 2) := rfl
theorem c_208_43 : mLk 208 43 = some (.aload_n 0, 1) := rfl
theorem c_208_44 : mLk 208 44 = some (.getfield 182, 3) := rfl
theorem c_208_47 : mLk 208 47 = some (.imul, 1) := rfl
theorem c_208_48 : mLk 208 48 = some (.iload_n 1, 1) := rfl
theorem c_208_49 : mLk 208 49 = some (.iadd, 1) := rfl
theorem c_208_50 : mLk 208 50 = some (.iaload, 1) := rfl
theorem c_208_51 : mLk 208 51 = some (.iastore, 1) := rfl
theorem c_208_52 : mLk 208 52 = some (.iinc 1 1, 3) := rfl
theorem c_208_55 : mLk 208 55 = some (.goto (-29), 3) := rfl
theorem c_208_24 : mLk 208 24 = some (.iconst 0, 1) := rfl
theorem c_208_25 : mLk 208 25 = some (.istore_n 1, 1) := rfl
theorem c_208_0 : mLk 208 0 = some (.aload_n 0, 1) := rfl
theorem c_208_1 : mLk 208 1 = some (.iconst 0, 1) := rfl
theorem c_208_2 : mLk 208 2 = some (.putfield 3, 3) := rfl
theorem c_208_5 : mLk 208 5 = some (.aload_n 0, 1) := rfl
theorem c_208_6 : mLk 208 6 = some (.getfield 182, 3) := rfl
theorem c_208_9 : mLk 208 9 = some (.ifCond .ne 5, 3) := rfl
theorem c_208_14 : mLk 208 14 = some (.aload_n 0, 1) := rfl
theorem c_208_15 : mLk 208 15 = some (.dup, 1) := rfl
theorem c_208_16 : mLk 208 16 = some (.getfield 182, 3) := rfl
theorem c_208_19 : mLk 208 19 = some (.iconst 1, 1) := rfl
theorem c_208_20 : mLk 208 20 = some (.isub, 1) := rfl
theorem c_208_21 : mLk 208 21 = some (.putfield 182, 3) := rfl
theorem c_208_12 : mLk 208 12 = some (.iconst (-1), 1) := rfl
theorem c_208_13 : mLk 208 13 = some (.ireturn, 1) := rfl
theorem c_209_4 : mLk 209 4 = some (.iload_n 2, 1) := rfl
theorem c_209_5 : mLk 209 5 = some (.aload_n 0, 1) := rfl
theorem c_209_6 : mLk 209 6 = some (.getfield 157, 3) := rfl
theorem c_209_9 : mLk 209 9 = some (.if_icmp .ge 27, 3) := rfl
theorem c_209_36 : mLk 209 36 = some (.iload_n 1, 1) := rfl
theorem c_209_37 : mLk 209 37 = some (.ireturn, 1) := rfl
theorem c_209_12 : mLk 209 12 = some (.iload_n 1, 1) := rfl
theorem c_209_13 : mLk 209 13 = some (.aload_n 0, 1) := rfl
theorem c_209_14 : mLk 209 14 = some (.iload_n 2, 1) := rfl
theorem c_209_15 : mLk 209 15 = some (.invokevirtual 343, 3) := rfl
theorem c_209_18 : mLk 209 18 = some (.ifCond .ne 9, 3) := rfl
theorem c_209_27 : mLk 209 27 = some (.iconst 0, 1) := rfl
theorem c_209_28 : mLk 209 28 = some (.ior, 1) := rfl
theorem c_209_29 : mLk 209 29 = some (.istore_n 1, 1) := rfl
theorem c_209_30 : mLk 209 30 = some (.iinc 2 1, 3) := rfl
theorem c_209_33 : mLk 209 33 = some (.goto (-29), 3) := rfl
theorem c_209_21 : mLk 209 21 = some (.iconst 1, 1) := rfl
theorem c_209_22 : mLk 209 22 = some (.iload_n 2, 1) := rfl
theorem c_209_23 : mLk 209 23 = some (.ishl, 1) := rfl
theorem c_209_24 : mLk 209 24 = some (.goto 4, 3) := rfl
theorem c_209_0 : mLk 209 0 = some (.iconst 0, 1) := rfl
theorem c_209_1 : mLk 209 1 = some (.istore_n 1, 1) := rfl
theorem c_209_2 : mLk 209 2 = some (.iconst 0, 1) := rfl
theorem c_209_3 : mLk 209 3 = some (.istore_n 2, 1) := rfl
theorem c_210_4 : mLk 210 4 = some (.iload_n 2, 1) := rfl
theorem c_210_5 : mLk 210 5 = some (.aload_n 0, 1) := rfl
theorem c_210_6 : mLk 210 6 = some (.getfield 163, 3) := rfl
theorem c_210_9 : mLk 210 9 = some (.if_icmp .ge 23, 3) := rfl
theorem c_210_32 : mLk 210 32 = some (.iload_n 1, 1) := rfl
theorem c_210_33 : mLk 210 33 = some (.ireturn, 1) := rfl
theorem c_210_12 : mLk 210 12 = some (.iload_n 1, 1) := rfl
theorem c_210_13 : mLk 210 13 = some (.aload_n 0, 1) := rfl
theorem c_210_14 : mLk 210 14 = some (.getfield 68, 3) := rfl
theorem c_210_17 : mLk 210 17 = some (.bipush 30, 2) := rfl
theorem c_210_19 : mLk 210 19 = some (.iload_n 2, 1) := rfl
theorem c_210_20 : mLk 210 20 = some (.iadd, 1) := rfl
theorem c_210_21 : mLk 210 21 = some (.iaload, 1) := rfl
theorem c_210_22 : mLk 210 22 = some (.iload_n 2, 1) := rfl
theorem c_210_23 : mLk 210 23 = some (.ishl, 1) := rfl
theorem c_210_24 : mLk 210 24 = some (.ior, 1) := rfl
theorem c_210_25 : mLk 210 25 = some (.istore_n 1, 1) := rfl
theorem c_210_26 : mLk 210 26 = some (.iinc 2 1, 3) := rfl
theorem c_210_29 : mLk 210 29 = some (.goto (-25), 3) := rfl
theorem c_210_0 : mLk 210 0 = some (.iconst 0, 1) := rfl
theorem c_210_1 : mLk 210 1 = some (.istore_n 1, 1) := rfl
theorem c_210_2 : mLk 210 2 = some (.iconst 0, 1) := rfl
theorem c_210_3 : mLk 210 3 = some (.istore_n 2, 1) := rfl
theorem c_211_0 : mLk 211 0 = some (.aload_n 0, 1) := rfl
theorem c_211_1 : mLk 211 1 = some (.iconst 0, 1) := rfl
theorem c_211_2 : mLk 211 2 = some (.putfield 3, 3) := rfl
theorem c_211_5 : mLk 211 5 = some (.aload_n 0, 1) := rfl
theorem c_211_6 : mLk 211 6 = some (.iload_n 1, 1) := rfl
theorem c_211_7 : mLk 211 7 = some (.iconst 0, 1) := rfl
theorem c_211_8 : mLk 211 8 = some (.bipush 12, 2) := rfl
theorem c_211_10 : mLk 211 10 = some (.invokestatic 384, 3) := rfl
theorem c_146_0 : mLk 146 0 = some (.iload_n 0, 1) := rfl
theorem c_146_1 : mLk 146 1 = some (.iload_n 1, 1) := rfl
theorem c_146_2 : mLk 146 2 = some (.if_icmp .lt 12, 3) := rfl
theorem c_146_14 : mLk 146 14 = some (.iconst 0, 1) := rfl
theorem c_146_15 : mLk 146 15 = some (.ireturn, 1) := rfl
theorem c_211_13 : mLk 211 13 = some (.iconst 1, 1) := rfl
theorem c_211_14 : mLk 211 14 = some (.iconst 1, 1) := rfl
theorem c_211_15 : mLk 211 15 = some (.invokevirtual 203, 3) := rfl
theorem c_211_18 : mLk 211 18 = some (.ifCond .ne 5, 3) := rfl
theorem c_211_21 : mLk 211 21 = some (.iconst 0, 1) := rfl
theorem c_211_22 : mLk 211 22 = some (.ireturn, 1) := rfl
theorem c_146_5 : mLk 146 5 = some (.iload_n 0, 1) := rfl
theorem c_146_6 : mLk 146 6 = some (.iload_n 2, 1) := rfl
theorem c_146_7 : mLk 146 7 = some (.if_icmp .gt 7, 3) := rfl
theorem c_146_10 : mLk 146 10 = some (.iconst 1, 1) := rfl
theorem c_146_11 : mLk 146 11 = some (.goto 4, 3) := rfl
theorem c_211_23 : mLk 211 23 = some (.aload_n 0, 1) := rfl
theorem c_211_24 : mLk 211 24 = some (.invokevirtual 317, 3) := rfl
theorem c_211_27 : mLk 211 27 = some (.iload_n 1, 1) := rfl
theorem c_211_28 : mLk 211 28 = some (.iconst 4, 1) := rfl
theorem c_211_29 : mLk 211 29 = some (.if_icmp .ge 43, 3) := rfl
theorem c_211_72 : mLk 211 72 = some (.iload_n 1, 1) := rfl
theorem c_211_73 : mLk 211 73 = some (.bipush 8, 2) := rfl
theorem c_211_75 : mLk 211 75 = some (.if_icmp .ge 44, 3) := rfl
theorem c_211_119 : mLk 211 119 = some (.iload_n 1, 1) := rfl
theorem c_211_120 : mLk 211 120 = some (.bipush 10, 2) := rfl
theorem c_211_122 : mLk 211 122 = some (.if_icmp .ge 21, 3) := rfl
theorem c_211_143 : mLk 211 143 = some (.iload_n 1, 1) := rfl
theorem c_211_144 : mLk 211 144 = some (.bipush 10, 2) := rfl
theorem c_211_146 : mLk 211 146 = some (.if_icmp .ne 10, 3) := rfl
theorem c_211_156 : mLk 211 156 = some (.iload_n 1, 1) := rfl
theorem c_211_157 : mLk 211 157 = some (.bipush 11, 2) := rfl
theorem c_211_159 : mLk 211 159 = some (.if_icmp .ne 10, 3) := rfl
theorem c_211_169 : mLk 211 169 = some (.aload_n 0, 1) := rfl
theorem c_211_170 : mLk 211 170 = some (.getfield 179, 3) := rfl
theorem c_211_173 : mLk 211 173 = some (.ireturn, 1) := rfl
theorem c_211_162 : mLk 211 162 = some (.aload_n 0, 1) := rfl
theorem c_211_163 : mLk 211 163 = some (.getfield 176, 3) := rfl
theorem c_211_166 : mLk 211 166 = some (.goto 7, 3) := rfl
theorem c_211_149 : mLk 211 149 = some (.aload_n 0, 1) := rfl
theorem c_211_150 : mLk 211 150 = some (.getfield 188, 3) := rfl
theorem c_211_153 : mLk 211 153 = some (.goto 20, 3) := rfl
theorem c_211_125 : mLk 211 125 = some (.iload_n 1, 1) := rfl
theorem c_211_126 : mLk 211 126 = some (.bipush 8, 2) := rfl
theorem c_211_128 : mLk 211 128 = some (.if_icmp .ne 10, 3) := rfl
theorem c_211_138 : mLk 211 138 = some (.aload_n 0, 1) := rfl
theorem c_211_139 : mLk 211 139 = some (.invokevirtual 393, 3) := rfl
theorem c_211_142 : mLk 211 142 = some (.ireturn, 1) := rfl
theorem c_211_131 : mLk 211 131 = some (.aload_n 0, 1) := rfl
theorem c_211_132 : mLk 211 132 = some (.invokevirtual 390, 3) := rfl
theorem c_211_135 : mLk 211 135 = some (.goto 7, 3) := rfl
theorem c_211_78 : mLk 211 78 = some (.iload_n 1, 1) := rfl
theorem c_211_79 : mLk 211 79 = some (.iconst 5, 1) := rfl
theorem c_211_80 : mLk 211 80 = some (.if_icmp .ne 10, 3) := rfl
theorem c_211_90 : mLk 211 90 = some (.aload_n 0, 1) := rfl
theorem c_211_91 : mLk 211 91 = some (.getfield 68, 3) := rfl
theorem c_211_94 : mLk 211 94 = some (.iload_n 1, 1) := rfl
theorem c_211_95 : mLk 211 95 = some (.iconst 4, 1) := rfl
theorem c_211_96 : mLk 211 96 = some (.if_icmp .ne 8, 3) := rfl
theorem c_211_104 : mLk 211 104 = some (.iload_n 1, 1) := rfl
theorem c_211_105 : mLk 211 105 = some (.bipush 6, 2) := rfl
theorem c_211_107 : mLk 211 107 = some (.if_icmp .ne 8, 3) := rfl
theorem c_211_115 : mLk 211 115 = some (.bipush 36, 2) := rfl
theorem c_211_117 : mLk 211 117 = some (.iaload, 1) := rfl
theorem c_211_118 : mLk 211 118 = some (.ireturn, 1) := rfl
theorem c_211_110 : mLk 211 110 = some (.bipush 35, 2) := rfl
theorem c_211_112 : mLk 211 112 = some (.goto 5, 3) := rfl
theorem c_211_99 : mLk 211 99 = some (.bipush 34, 2) := rfl
theorem c_211_101 : mLk 211 101 = some (.goto 16, 3) := rfl
theorem c_211_83 : mLk 211 83 = some (.aload_n 0, 1) := rfl
theorem c_211_84 : mLk 211 84 = some (.invokevirtual 387, 3) := rfl
theorem c_211_87 : mLk 211 87 = some (.goto 31, 3) := rfl
theorem c_211_32 : mLk 211 32 = some (.iload_n 1, 1) := rfl
theorem c_211_33 : mLk 211 33 = some (.ifCond .ne 10, 3) := rfl
theorem c_211_43 : mLk 211 43 = some (.iload_n 1, 1) := rfl
theorem c_211_44 : mLk 211 44 = some (.iconst 1, 1) := rfl
theorem c_211_45 : mLk 211 45 = some (.if_icmp .ne 10, 3) := rfl
theorem c_211_55 : mLk 211 55 = some (.iload_n 1, 1) := rfl
theorem c_211_56 : mLk 211 56 = some (.iconst 2, 1) := rfl
theorem c_211_57 : mLk 211 57 = some (.if_icmp .ne 10, 3) := rfl
theorem c_211_67 : mLk 211 67 = some (.aload_n 0, 1) := rfl
theorem c_211_68 : mLk 211 68 = some (.getfield 166, 3) := rfl
theorem c_211_71 : mLk 211 71 = some (.ireturn, 1) := rfl
theorem c_211_60 : mLk 211 60 = some (.aload_n 0, 1) := rfl
theorem c_211_61 : mLk 211 61 = some (.getfield 163, 3) := rfl
theorem c_211_64 : mLk 211 64 = some (.goto 7, 3) := rfl
theorem c_211_48 : mLk 211 48 = some (.aload_n 0, 1) := rfl
theorem c_211_49 : mLk 211 49 = some (.getfield 160, 3) := rfl
theorem c_211_52 : mLk 211 52 = some (.goto 19, 3) := rfl
theorem c_211_36 : mLk 211 36 = some (.aload_n 0, 1) := rfl
theorem c_211_37 : mLk 211 37 = some (.getfield 157, 3) := rfl
theorem c_211_40 : mLk 211 40 = some (.goto 31, 3) := rfl
theorem c_213_0 : mLk 213 0 = some (.aload_n 0, 1) := rfl
theorem c_213_1 : mLk 213 1 = some (.iconst 0, 1) := rfl
theorem c_213_2 : mLk 213 2 = some (.putfield 3, 3) := rfl
theorem c_213_5 : mLk 213 5 = some (.aload_n 0, 1) := rfl
theorem c_213_6 : mLk 213 6 = some (.iload_n 1, 1) := rfl
theorem c_213_7 : mLk 213 7 = some (.aload_n 0, 1) := rfl
theorem c_213_8 : mLk 213 8 = some (.getfield 157, 3) := rfl
theorem c_213_11 : mLk 213 11 = some (.invokevirtual 396, 3) := rfl
theorem c_212_0 : mLk 212 0 = some (.aload_n 0, 1) := rfl
theorem c_212_1 : mLk 212 1 = some (.iload_n 1, 1) := rfl
theorem c_212_2 : mLk 212 2 = some (.iconst 0, 1) := rfl
theorem c_212_3 : mLk 212 3 = some (.iload_n 2, 1) := rfl
theorem c_212_4 : mLk 212 4 = some (.iconst 1, 1) := rfl
theorem c_212_5 : mLk 212 5 = some (.isub, 1) := rfl
theorem c_212_6 : mLk 212 6 = some (.invokestatic 384, 3) := rfl
theorem c_212_9 : mLk 212 9 = some (.iconst 1, 1) := rfl
theorem c_212_10 : mLk 212 10 = some (.iconst 0, 1) := rfl
theorem c_212_11 : mLk 212 11 = some (.invokevirtual 203, 3) := rfl
theorem c_212_14 : mLk 212 14 = some (.ireturn, 1) := rfl
theorem c_213_14 : mLk 213 14 = some (.ifCond .eq 19, 3) := rfl
theorem c_213_33 : mLk 213 33 = some (.iconst 0, 1) := rfl
theorem c_213_34 : mLk 213 34 = some (.ireturn, 1) := rfl
theorem c_213_17 : mLk 213 17 = some (.aload_n 0, 1) := rfl
theorem c_213_18 : mLk 213 18 = some (.iload_n 2, 1) := rfl
theorem c_213_19 : mLk 213 19 = some (.iconst 0, 1) := rfl
theorem c_213_20 : mLk 213 20 = some (.bipush 6, 2) := rfl
theorem c_213_22 : mLk 213 22 = some (.invokestatic 384, 3) := rfl
theorem c_213_25 : mLk 213 25 = some (.iconst 2, 1) := rfl
theorem c_213_26 : mLk 213 26 = some (.iconst 1, 1) := rfl
theorem c_213_27 : mLk 213 27 = some (.invokevirtual 203, 3) := rfl
theorem c_213_30 : mLk 213 30 = some (.ifCond .ne 5, 3) := rfl
theorem c_213_35 : mLk 213 35 = some (.aload_n 0, 1) := rfl
theorem c_213_36 : mLk 213 36 = some (.invokevirtual 317, 3) := rfl
theorem c_213_39 : mLk 213 39 = some (.iload_n 2, 1) := rfl
theorem c_213_40 : mLk 213 40 = some (.iconst 4, 1) := rfl
theorem c_213_41 : mLk 213 41 = some (.if_icmp .ge 16, 3) := rfl
theorem c_213_57 : mLk 213 57 = some (.iload_n 2, 1) := rfl
theorem c_213_58 : mLk 213 58 = some (.iconst 4, 1) := rfl
theorem c_213_59 : mLk 213 59 = some (.if_icmp .ne 11, 3) := rfl
theorem c_213_70 : mLk 213 70 = some (.iload_n 2, 1) := rfl
theorem c_213_71 : mLk 213 71 = some (.iconst 5, 1) := rfl
theorem c_213_72 : mLk 213 72 = some (.if_icmp .ne 15, 3) := rfl
theorem c_213_87 : mLk 213 87 = some (.aload_n 0, 1) := rfl
theorem c_213_88 : mLk 213 88 = some (.iload_n 1, 1) := rfl
theorem c_213_89 : mLk 213 89 = some (.invokevirtual 399, 3) := rfl
theorem c_213_92 : mLk 213 92 = some (.ireturn, 1) := rfl
theorem c_213_75 : mLk 213 75 = some (.aload_n 0, 1) := rfl
theorem c_213_76 : mLk 213 76 = some (.getfield 68, 3) := rfl
theorem c_213_79 : mLk 213 79 = some (.bipush 24, 2) := rfl
theorem c_213_81 : mLk 213 81 = some (.iload_n 1, 1) := rfl
theorem c_213_82 : mLk 213 82 = some (.iadd, 1) := rfl
theorem c_213_83 : mLk 213 83 = some (.iaload, 1) := rfl
theorem c_213_84 : mLk 213 84 = some (.goto 8, 3) := rfl
theorem c_213_62 : mLk 213 62 = some (.aload_n 0, 1) := rfl
theorem c_213_63 : mLk 213 63 = some (.iload_n 1, 1) := rfl
theorem c_213_64 : mLk 213 64 = some (.invokevirtual 343, 3) := rfl
theorem c_213_67 : mLk 213 67 = some (.goto 25, 3) := rfl
theorem c_213_44 : mLk 213 44 = some (.aload_n 0, 1) := rfl
theorem c_213_45 : mLk 213 45 = some (.getfield 68, 3) := rfl
theorem c_213_48 : mLk 213 48 = some (.iconst 4, 1) := rfl
theorem c_213_49 : mLk 213 49 = some (.iload_n 1, 1) := rfl
theorem c_213_50 : mLk 213 50 = some (.imul, 1) := rfl
theorem c_213_51 : mLk 213 51 = some (.iload_n 2, 1) := rfl
theorem c_213_52 : mLk 213 52 = some (.iadd, 1) := rfl
theorem c_213_53 : mLk 213 53 = some (.iaload, 1) := rfl
theorem c_213_54 : mLk 213 54 = some (.goto 38, 3) := rfl
theorem c_214_0 : mLk 214 0 = some (.aload_n 0, 1) := rfl
theorem c_214_1 : mLk 214 1 = some (.iconst 0, 1) := rfl
theorem c_214_2 : mLk 214 2 = some (.putfield 3, 3) := rfl
theorem c_214_5 : mLk 214 5 = some (.aload_n 0, 1) := rfl
theorem c_214_6 : mLk 214 6 = some (.iload_n 1, 1) := rfl
theorem c_214_7 : mLk 214 7 = some (.aload_n 0, 1) := rfl
theorem c_214_8 : mLk 214 8 = some (.getfield 160, 3) := rfl
theorem c_214_11 : mLk 214 11 = some (.invokevirtual 396, 3) := rfl
theorem c_214_14 : mLk 214 14 = some (.ifCond .eq 18, 3) := rfl
theorem c_214_32 : mLk 214 32 = some (.iconst 0, 1) := rfl
theorem c_214_33 : mLk 214 33 = some (.ireturn, 1) := rfl
theorem c_214_17 : mLk 214 17 = some (.aload_n 0, 1) := rfl
theorem c_214_18 : mLk 214 18 = some (.iload_n 2, 1) := rfl
theorem c_214_19 : mLk 214 19 = some (.iconst 0, 1) := rfl
theorem c_214_20 : mLk 214 20 = some (.iconst 2, 1) := rfl
theorem c_214_21 : mLk 214 21 = some (.invokestatic 384, 3) := rfl
theorem c_214_24 : mLk 214 24 = some (.iconst 2, 1) := rfl
theorem c_214_25 : mLk 214 25 = some (.iconst 1, 1) := rfl
theorem c_214_26 : mLk 214 26 = some (.invokevirtual 203, 3) := rfl
theorem c_214_29 : mLk 214 29 = some (.ifCond .ne 5, 3) := rfl
theorem c_214_34 : mLk 214 34 = some (.aload_n 0, 1) := rfl
theorem c_214_35 : mLk 214 35 = some (.getfield 35, 3) := rfl
theorem c_214_38 : mLk 214 38 = some (.iconst 3, 1) := rfl
theorem c_214_39 : mLk 214 39 = some (.iload_n 1, 1) := rfl
theorem c_214_40 : mLk 214 40 = some (.imul, 1) := rfl
theorem c_214_41 : mLk 214 41 = some (.iload_n 2, 1) := rfl
theorem c_214_42 : mLk 214 42 = some (.iadd, 1) := rfl
theorem c_214_43 : mLk 214 43 = some (.iaload, 1) := rfl
theorem c_214_44 : mLk 214 44 = some (.ireturn, 1) := rfl
theorem c_215_0 : mLk 215 0 = some (.aload_n 0, 1) := rfl
theorem c_215_1 : mLk 215 1 = some (.iconst 0, 1) := rfl
theorem c_215_2 : mLk 215 2 = some (.putfield 3, 3) := rfl
theorem c_215_5 : mLk 215 5 = some (.aload_n 0, 1) := rfl
theorem c_215_6 : mLk 215 6 = some (.iload_n 1, 1) := rfl
theorem c_215_7 : mLk 215 7 = some (.aload_n 0, 1) := rfl
theorem c_215_8 : mLk 215 8 = some (.getfield 163, 3) := rfl
theorem c_215_11 : mLk 215 11 = some (.invokevirtual 396, 3) := rfl
theorem c_215_14 : mLk 215 14 = some (.ifCond .eq 18, 3) := rfl
theorem c_215_32 : mLk 215 32 = some (.iconst 0, 1) := rfl
theorem c_215_33 : mLk 215 33 = some (.ireturn, 1) := rfl
theorem c_215_17 : mLk 215 17 = some (.aload_n 0, 1) := rfl
theorem c_215_18 : mLk 215 18 = some (.iload_n 2, 1) := rfl
theorem c_215_19 : mLk 215 19 = some (.iconst 0, 1) := rfl
theorem c_215_20 : mLk 215 20 = some (.iconst 1, 1) := rfl
theorem c_215_21 : mLk 215 21 = some (.invokestatic 384, 3) := rfl
theorem c_215_24 : mLk 215 24 = some (.iconst 2, 1) := rfl
theorem c_215_25 : mLk 215 25 = some (.iconst 1, 1) := rfl
theorem c_215_26 : mLk 215 26 = some (.invokevirtual 203, 3) := rfl
theorem c_215_29 : mLk 215 29 = some (.ifCond .ne 5, 3) := rfl
theorem c_215_34 : mLk 215 34 = some (.iload_n 2, 1) := rfl
theorem c_215_35 : mLk 215 35 = some (.ifCond .ne 12, 3) := rfl
theorem c_215_47 : mLk 215 47 = some (.aload_n 0, 1) := rfl
theorem c_215_48 : mLk 215 48 = some (.getfield 65, 3) := rfl
theorem c_215_51 : mLk 215 51 = some (.bipush 30, 2) := rfl
theorem c_215_53 : mLk 215 53 = some (.iload_n 1, 1) := rfl
theorem c_215_54 : mLk 215 54 = some (.iadd, 1) := rfl
theorem c_215_55 : mLk 215 55 = some (.iaload, 1) := rfl
theorem c_215_56 : mLk 215 56 = some (.ireturn, 1) := rfl
theorem c_215_38 : mLk 215 38 = some (.aload_n 0, 1) := rfl
theorem c_215_39 : mLk 215 39 = some (.getfield 38, 3) := rfl
theorem c_215_42 : mLk 215 42 = some (.iload_n 1, 1) := rfl
theorem c_215_43 : mLk 215 43 = some (.iaload, 1) := rfl
theorem c_215_44 : mLk 215 44 = some (.goto 12, 3) := rfl
theorem c_216_0 : mLk 216 0 = some (.aload_n 0, 1) := rfl
theorem c_216_1 : mLk 216 1 = some (.iconst 0, 1) := rfl
theorem c_216_2 : mLk 216 2 = some (.putfield 3, 3) := rfl
theorem c_216_5 : mLk 216 5 = some (.aload_n 0, 1) := rfl
theorem c_216_6 : mLk 216 6 = some (.iload_n 1, 1) := rfl
theorem c_216_7 : mLk 216 7 = some (.aload_n 0, 1) := rfl
theorem c_216_8 : mLk 216 8 = some (.getfield 157, 3) := rfl
theorem c_216_11 : mLk 216 11 = some (.invokevirtual 396, 3) := rfl
theorem c_216_14 : mLk 216 14 = some (.ifCond .ne 5, 3) := rfl
theorem c_216_17 : mLk 216 17 = some (.iconst 0, 1) := rfl
theorem c_216_18 : mLk 216 18 = some (.ireturn, 1) := rfl
theorem c_216_19 : mLk 216 19 = some (.aload_n 0, 1) := rfl
theorem c_216_20 : mLk 216 20 = some (.invokevirtual 317, 3) := rfl
theorem c_216_23 : mLk 216 23 = some (.aload_n 0, 1) := rfl
theorem c_216_24 : mLk 216 24 = some (.iload_n 1, 1) := rfl
theorem c_216_25 : mLk 216 25 = some (.invokevirtual 375, 3) := rfl
theorem c_216_28 : mLk 216 28 = some (.ireturn, 1) := rfl
theorem kf_8_80 : a_lk (kF 8) 80 = some (8, 45) := rfl
theorem km_8_387 : a_lk (kM 8) 387 = some (0, 203) := rfl
theorem km_8_390 : a_lk (kM 8) 390 = some (0, 209) := rfl
theorem km_8_393 : a_lk (kM 8) 393 = some (0, 210) := rfl
theorem km_8_396 : a_lk (kM 8) 396 = some (0, 212) := rfl
theorem km_8_399 : a_lk (kM 8) 399 = some (0, 204) := rfl
set_option maxRecDepth 100000 in
set_option maxHeartbeats 4000000 in
theorem s_207_l {sc : List Int32} {e : Int} {d u P Q : Nat} {c : ME} {a1 : Int} {Z : AR → Prop} (hI : Iv u e P Q c) (ha1 : (-2147483648) ≤ a1 ∧ a1 ≤ 2147483647) (K : ∀ (c2 : ME) (y : Int), Iv u e P Q c2 → (∀ (a : Nat) (j : Int), ¬ ((a = 41 ∧ j = 0) ∨ a = 42 ∨ (a = 41 ∧ j = 2) ∨ (a = 41 ∧ j = 3) ∨ (a = 41 ∧ j = 4) ∨ (a = 41 ∧ j = 5) ∨ (a = 41 ∧ j = 6) ∨ (a = 41 ∧ j = 7) ∨ (a = 41 ∧ j = 8) ∨ (a = 41 ∧ j = 48) ∨ a = 63 ∨ a = 64) → c2 a j = c a j) → (-2147483648) ≤ y ∧ y ≤ 2147483647 → ((c2 41 2 = 0 ∧ a1 ≥ 0 ∧ a1 ≤ c 41 2 ∧ a1 ≤ 60) ∨ (c2 41 2 = c 41 2 ∧ a1 < 0) ∨ (c2 41 2 = c 41 2 ∧ a1 > c 41 2) ∨ (c2 41 2 = c 41 2 ∧ a1 > 60)) → Z (.inl (some (vi y)), Wd P Q P P c2, 0, 0)) : ∀ n : Nat, (∀ (c2 : ME) (v2 : Int), Iv u e P Q c2 → (∀ (a : Nat) (j : Int), ¬ ((a = 41 ∧ j = 0) ∨ a = 42 ∨ (a = 41 ∧ j = 2) ∨ (a = 41 ∧ j = 3) ∨ (a = 41 ∧ j = 4) ∨ (a = 41 ∧ j = 5) ∨ (a = 41 ∧ j = 6) ∨ (a = 41 ∧ j = 7) ∨ (a = 41 ∧ j = 8) ∨ (a = 41 ∧ j = 48) ∨ a = 63 ∨ a = 64) → c2 a j = c a j) → 0 ≤ v2 ∧ v2 ≤ 4 → ((c2 41 2 = 0 ∧ a1 ≥ 0 ∧ a1 ≤ c 41 2 ∧ a1 ≤ 60)) → 1222 - 2 * v2 < (n : Int) → Wp sc (d + 9) 207 22 [(0, .ref 41), (1, vi a1), (2, vi v2)] [] (Wd P Q P P c2) 0 0 Z) ∧ (∀ (c2 : ME) (v2 : Int), Iv u e P Q c2 → (∀ (a : Nat) (j : Int), ¬ ((a = 41 ∧ j = 0) ∨ a = 42 ∨ (a = 41 ∧ j = 2) ∨ (a = 41 ∧ j = 3) ∨ (a = 41 ∧ j = 4) ∨ (a = 41 ∧ j = 5) ∨ (a = 41 ∧ j = 6) ∨ (a = 41 ∧ j = 7) ∨ (a = 41 ∧ j = 8) ∨ (a = 41 ∧ j = 48) ∨ a = 63 ∨ a = 64) → c2 a j = c a j) → (-2147483648) ≤ v2 ∧ v2 ≤ 2147483647 → ((c2 41 2 = 0 ∧ a1 ≥ 0 ∧ a1 ≤ c 41 2 ∧ a1 ≤ 60)) → 1211 - 2 * c2 41 4 < (n : Int) → Wp sc (d + 9) 207 42 [(0, .ref 41), (1, vi a1), (2, vi v2)] [] (Wd P Q P P c2) 0 0 Z) := by
  intro n
  induction n with
  | zero => exact (by exact ⟨by (intro c2 v2 hI2 hF hv2 hx0 hm9; have hP := iv_P hI; have hQ := iv_Q hI; exfalso; omega), by (intro c2 v2 hI2 hF hv2 hx0 hm9; have hP := iv_P hI; have hQ := iv_Q hI; have h_183 := ir_41_4 hI2; exfalso; omega)⟩)
  | succ n ih =>
    have hP := iv_P hI
    have hQ := iv_Q hI
    refine ⟨?_, ?_⟩
    · skip
      intro c2 v2 hI2 hF hv2 hx0 hm9
      have h_1 := ir_41_2 hI
      have h_2 := ir_41_2 hI2
      refine q_iload_n c_207_22 rfl (q_iconst c_207_23 ?_)
      by_cases h_3 : v2 ≥ 4
      · refine v_ic_ge_t (t := 40) c_207_24 rfl ⟨by decide, h_3, (Int.le_trans hv2.2 (by decide))⟩ (q_iconst c_207_40 (q_istore_n c_207_41 (nb_ rfl) (Wp_ls [(0, .ref 41), (1, vi a1), (2, vi 0)] (lsub_cons rfl (lsub_cons rfl (lsub_cons rfl lsub_nil))) ?_)))
        have h_4 := ir_41_4 hI2
        exact ih.2 c2 0 hI2 (fun a j hm => hF a j hm) ⟨by decide, by decide⟩ ⟨by omega, by omega, by omega, by omega⟩ (by omega)
      · refine v_ic_ge_f (t := 40) c_207_24 rfl ⟨(Int.le_trans (by decide) hv2.1), (Int.not_le.mp h_3), by decide⟩ (q_aload_n c_207_27 rfl (v_gr (t := 63) c_207_28 kf_8_80 rfl (nb_ rfl) rfl (q_iload_n c_207_31 rfl (q_iconst c_207_32 (v_is c_207_33 rfl (by decide) (by decide) ⟨hv2.1, by first | exact q_2e808647e h_3 | omega⟩ (v_iinc (v := v2 + 1) c_207_34 rfl (nb_ rfl) rfl (q_goto (t := 22) c_207_37 rfl ?_)))))))
        have hI_5 := iw_63 (j := v2) (v := (-1)) hI2 ⟨by decide, by decide⟩
        refine Wp_ls [(0, .ref 41), (1, vi a1), (2, vi (v2 + 1))] (lsub_cons rfl (lsub_cons rfl (lsub_cons rfl lsub_nil))) ?_
        have h_6 : (up c2 63 v2 (-1)) 41 2 = c2 41 2 := (up_c (nn rfl))
        exact ih.1 (up c2 63 v2 (-1)) (v2 + 1) hI_5 (fun a j hm => (up_b (Decidable.or_iff_not_imp_left.mpr (fun h1 h2 => hm (Or.inr (Or.inr (Or.inr (Or.inr (Or.inr (Or.inr (Or.inr (Or.inr (Or.inr (Or.inr (Or.inl (Decidable.not_not.mp h1))))))))))))))).trans (hF a j hm)) ⟨by first | exact rgp_l hv2.1 (by decide) | omega, by first | exact q_121241f94 h_3 | omega⟩ ⟨by omega, by omega, by omega, by omega⟩ (by omega)
    · skip
      intro c2 v2 hI2 hF hv2 hx0 hm9
      have h_7 := ir_41_2 hI
      have h_8 := ir_41_2 hI2
      have h_9 := ir_41_4 hI2
      refine q_aload_n c_207_42 rfl (v_cv c_207_43 km_8_131 rfl rfl (nb_ rfl) ⟨⟨rfl, rfl⟩, nb_ rfl, rfl⟩ (nb_ rfl) (nb_ rfl) (q_aload_n c_152_0 rfl ?_))
      have h_10 := ir_41_5 hI2
      refine v_gi (z := 5) (v := c2 41 5) c_152_1 kf_8_102 rfl (nb_ rfl) rfl rfl rfl (q_iconst c_152_4 ?_)
      by_cases h_11 : c2 41 5 ≠ (-1)
      · refine v_ic_ne_t (t := 12) c_152_5 rfl ⟨h_11, ⟨(Int.le_trans (by decide) h_10.1), (Int.le_trans h_10.2 (by decide))⟩, by decide, by decide⟩ (q_iconst c_152_12 (v_zret c_152_13 rfl (by decide) (bk_inl (v_if_eq_t (t := 134) c_207_46 rfl (by decide) (q_aload_n c_207_134 rfl (q_iload_n c_207_135 rfl (v_cv c_207_136 km_8_232 rfl rfl (nb_ rfl) ⟨⟨rfl, rfl⟩, nb_ rfl, rfl⟩ (nb_ rfl) (nb_ rfl) (s_164 (a1 := v2) hI2 (show (-2147483648) ≤ v2 ∧ v2 ≤ 2147483647 from hv2) (fun c_12 y_15 hI_13 hF_14 hy_15 => ?_)))))))))
        refine bk_inl (q_istore_n c_207_139 (nb_ rfl) (q_aload_n c_207_140 rfl ?_))
        have kn_16 : Hid (c_12 41 5 = c2 41 5) := hF_14 41 5 (fun h => absurd h.2 (ni rfl))
        refine v_gi (z := 5) (v := c2 41 5) c_207_141 kf_8_102 rfl (nb_ rfl) rfl rfl (hid kn_16) (q_iconst c_207_144 (v_ic_eq_f (t := 150) c_207_145 rfl ⟨by first | exact q_bd023a79f h_10 h_11 | omega, ⟨(Int.le_trans (by decide) h_10.1), (Int.le_trans h_10.2 (by decide))⟩, by decide, by decide⟩ (q_iload_n c_207_148 rfl (q_iret c_207_149 rfl ?_))))
        have kn_17 : Hid (c_12 41 2 = c2 41 2) := hF_14 41 2 (fun h => absurd h.2 (ni rfl))
        have h_18 : c_12 41 2 = c2 41 2 := (hid kn_17)
        exact K c_12 y_15 hI_13 (fun a j hm => (hF_14 a j (qv_e289254c2 hm)).trans (hF a j hm)) hy_15 (Or.inl ⟨by first | (clear ha1 hv2 h_7 h_8 h_9 h_10 h_11; omega) | omega, by first | (clear ha1 hv2 h_7 h_8 h_9 h_10 h_11; omega) | omega, by first | (clear ha1 hv2 h_7 h_8 h_9 h_10 h_11; omega) | omega, by first | (clear ha1 hv2 h_7 h_8 h_9 h_10 h_11; omega) | omega⟩)
      · refine v_ic_ne_f (t := 12) c_152_5 rfl (Decidable.not_not.mp h_11) (q_iconst c_152_8 (q_goto (t := 13) c_152_9 rfl (v_zret c_152_13 rfl (by decide) (bk_inl (v_if_eq_f (t := 134) c_207_46 rfl (by decide) (q_aload_n c_207_49 rfl ?_))))))
        have h_19 := ir_41_3 hI2
        refine v_cv c_207_50 km_8_211 rfl rfl (nb_ rfl) ⟨⟨rfl, rfl⟩, nb_ rfl, rfl⟩ (nb_ rfl) (nb_ rfl) (s_162 hI2 (fun c_20 y_23 hI_21 hF_22 hy_23 h_24 h_25 h_26 => (bk_inl ?_)))
        have h_27 := ir_41_4 hI_21
        by_cases h_28 : y_23 = 0
        · refine v_if_eq_t (t := 134) c_207_53 rfl h_28 (q_aload_n c_207_134 rfl (q_iload_n c_207_135 rfl (v_cv c_207_136 km_8_232 rfl rfl (nb_ rfl) ⟨⟨rfl, rfl⟩, nb_ rfl, rfl⟩ (nb_ rfl) (nb_ rfl) (s_164 (a1 := v2) hI_21 (show (-2147483648) ≤ v2 ∧ v2 ≤ 2147483647 from hv2) (fun c_29 y_32 hI_30 hF_31 hy_32 => (bk_inl (q_istore_n c_207_139 (nb_ rfl) (q_aload_n c_207_140 rfl ?_))))))))
          have kn_33 : Hid (c_20 41 5 = c2 41 5) := hF_22 41 5 (fun h => absurd h.2 (ni rfl))
          have kn_34 : Hid (c_29 41 5 = c2 41 5) := (hF_31 41 5 (fun h => absurd h.2 (ni rfl))).trans (hid kn_33)
          refine v_gi (z := 5) (v := c2 41 5) c_207_141 kf_8_102 rfl (nb_ rfl) rfl rfl (hid kn_34) (q_iconst c_207_144 (v_ic_eq_t (t := 150) c_207_145 rfl (by first | exact q_65c5ff97d h_10 h_11 | omega) (q_aload_n c_207_150 rfl (q_iload_n c_207_151 rfl (v_pi (z := 48) c_207_152 kf_8_179 rfl (nb_ rfl) rfl rfl rfl (by decide) (q_aload_n c_207_155 rfl (q_aload_n c_207_156 rfl ?_)))))))
          refine v_gr (t := 63) c_207_157 kf_8_80 rfl (nb_ rfl) rfl (q_aload_n c_207_160 rfl (v_gr (t := 64) c_207_161 kf_8_83 rfl (nb_ rfl) rfl (q_iconst c_207_164 (v_cv c_207_165 km_8_169 rfl rfl (nb_ rfl) ⟨⟨rfl, rfl⟩, nb_ rfl, rfl⟩ (nb_ rfl) (nb_ rfl) (s_148 (f := 63) (t := 64) (nf := 4) (nt := 4) (n := 4) rfl rfl (by decide) (by decide) (by decide) (by decide) (by decide) (by omega) (bk_inl (q_iload_n c_207_168 rfl (q_iret c_207_169 rfl ?_))))))))
          have hI_35 := iw_41_48 (v := v2) hI_30 ⟨hv2.1, hv2.2⟩
          have hI_36 := cp_63_64 hI_35
          have kn_37 : Hid (c_20 41 2 = c2 41 2) := hF_22 41 2 (fun h => absurd h.2 (ni rfl))
          have kn_38 : Hid (c_29 41 2 = c2 41 2) := (hF_31 41 2 (fun h => absurd h.2 (ni rfl))).trans (hid kn_37)
          have h_39 : (upc (up c_29 41 48 v2) 63 0 64 0 4) 41 2 = c2 41 2 := ((upc_c (by omega)).trans ((up_n (by decide)).trans (hid kn_38)))
          exact K (upc (up c_29 41 48 v2) 63 0 64 0 4) y_32 hI_36 (fun a j hm => (upc_c (fun h => hm (Or.inr (Or.inr (Or.inr (Or.inr (Or.inr (Or.inr (Or.inr (Or.inr (Or.inr (Or.inr (Or.inr h))))))))))))).trans ((up_b (Decidable.or_iff_not_imp_left.mpr (fun h1 h2 => hm (Or.inr (Or.inr (Or.inr (Or.inr (Or.inr (Or.inr (Or.inr (Or.inr (Or.inr (Or.inl ⟨Decidable.not_not.mp h1, h2⟩))))))))))))).trans ((hF_31 a j (qv_e289254c2 hm)).trans ((hF_22 a j (fun h => hm (Or.inr (Or.inr (Or.inr (Or.inr (Or.inl h))))))).trans (hF a j hm))))) hy_32 (Or.inl ⟨by first | (clear ha1 hv2 h_7 h_8 h_9 h_10 h_11 h_19 h_27 h_24 h_28 h_25 h_26; omega) | omega, by first | (clear ha1 hv2 h_7 h_8 h_9 h_10 h_11 h_19 h_27 h_24 h_28 h_25 h_26; omega) | omega, by first | (clear ha1 hv2 h_7 h_8 h_9 h_10 h_11 h_19 h_27 h_24 h_28 h_25 h_26; omega) | omega, by first | (clear ha1 hv2 h_7 h_8 h_9 h_10 h_11 h_19 h_27 h_24 h_28 h_25 h_26; omega) | omega⟩)
        · refine v_if_eq_f (t := 134) c_207_53 rfl ⟨h_28, ⟨(Int.le_trans (by decide) hy_23.1), (Int.le_trans hy_23.2 (by decide))⟩, by decide, by decide⟩ (q_aload_n c_207_56 rfl (v_gi (z := 4) (v := c_20 41 4) c_207_57 kf_8_108 rfl (nb_ rfl) rfl rfl rfl (q_istore_n c_207_60 (nb_ rfl) (q_aload_n c_207_61 rfl (q_iconst c_207_62 (q_iconst c_207_63 ?_))))))
          have kn_40 : Hid (c_20 41 3 = c2 41 3) := hF_22 41 3 (fun h => absurd h.2 (ni rfl))
          have h_41 : c_20 41 3 = c2 41 3 := (hid kn_40)
          have kn_42 : Hid (c_20 41 5 = c2 41 5) := hF_22 41 5 (fun h => absurd h.2 (ni rfl))
          have h_43 : c_20 41 5 = c2 41 5 := (hid kn_42)
          refine v_cv c_207_64 km_8_199 rfl rfl (nb_ rfl) ⟨⟨rfl, rfl⟩, nb_ rfl, rfl⟩ (nb_ rfl) (nb_ rfl) (s_160 (a1 := 0) (a2 := 3) hI_21 (show 0 ≤ 0 ∧ 0 ≤ 1 from ⟨by decide, by decide⟩) (show (-1) ≤ 3 ∧ 3 ≤ 9999 from ⟨by decide, by decide⟩) (fun c_44 y_47 hI_45 hF_46 hy_47 h_48 h_49 h_50 h_51 h_52 => (bk_inl ?_)))
          have h_53 := ir_41_4 hI_45
          have h_54 := ir_41_5 hI_45
          refine q_istore c_207_67 (nb_ rfl) (q_aload_n c_207_69 rfl (v_cv c_207_70 km_8_131 rfl rfl (nb_ rfl) ⟨⟨rfl, rfl⟩, nb_ rfl, rfl⟩ (nb_ rfl) (nb_ rfl) (q_aload_n c_152_0 rfl (v_gi (z := 5) (v := c_44 41 5) c_152_1 kf_8_102 rfl (nb_ rfl) rfl rfl rfl (q_iconst c_152_4 ?_)))))
          by_cases h_55 : c_44 41 5 ≠ (-1)
          · refine v_ic_ne_t (t := 12) c_152_5 rfl ⟨h_55, ⟨(Int.le_trans (by decide) h_54.1), (Int.le_trans h_54.2 (by decide))⟩, by decide, by decide⟩ (q_iconst c_152_12 (v_zret c_152_13 rfl (by decide) (bk_inl (v_if_eq_t (t := 93) c_207_73 rfl (by decide) (q_aload_n c_207_93 rfl (q_iconst c_207_94 (v_sip c_207_95 (by decide) ?_)))))))
            have kn_56 : Hid (c_44 41 3 = c2 41 3) := (hF_46 41 3 qn_97fd72088).trans (hid kn_40)
            have h_57 : c_44 41 3 = c2 41 3 := (hid kn_56)
            refine v_cv c_207_98 km_8_199 rfl rfl (nb_ rfl) ⟨⟨rfl, rfl⟩, nb_ rfl, rfl⟩ (nb_ rfl) (nb_ rfl) (s_160 (a1 := 0) (a2 := 9999) hI_45 (show 0 ≤ 0 ∧ 0 ≤ 1 from ⟨by decide, by decide⟩) (show (-1) ≤ 9999 ∧ 9999 ≤ 9999 from ⟨by decide, by decide⟩) (fun c_58 y_61 hI_59 hF_60 hy_61 h_62 h_63 h_64 h_65 h_66 => (bk_inl ?_)))
            have h_67 := ir_41_4 hI_59
            have h_68 := ir_41_5 hI_59
            refine q_istore c_207_101 (nb_ rfl) (q_aload_n c_207_103 rfl (v_bip c_207_104 (by decide) ?_))
            have kn_69 : Hid (c_58 41 3 = c2 41 3) := (hF_60 41 3 qn_97fd72088).trans (hid kn_56)
            have h_70 : c_58 41 3 = c2 41 3 := (hid kn_69)
            refine v_cv c_207_106 km_8_229 rfl rfl (nb_ rfl) ⟨⟨rfl, rfl⟩, nb_ rfl, rfl⟩ (nb_ rfl) (nb_ rfl) (s_161 (a1 := 59) hI_59 (show 1 ≤ 59 ∧ 59 ≤ 255 from ⟨by decide, by decide⟩) (fun c_71 hI_72 hF_73 h_74 h_75 h_76 h_77 => (bk_inl ?_)))
            have h_78 := ir_41_4 hI_72
            have h_79 := ir_41_5 hI_72
            refine q_aload_n c_207_109 rfl (v_cv c_207_110 km_8_131 rfl rfl (nb_ rfl) ⟨⟨rfl, rfl⟩, nb_ rfl, rfl⟩ (nb_ rfl) (nb_ rfl) (q_aload_n c_152_0 rfl (v_gi (z := 5) (v := c_71 41 5) c_152_1 kf_8_102 rfl (nb_ rfl) rfl rfl rfl (q_iconst c_152_4 (v_ic_ne_t (t := 12) c_152_5 rfl ⟨by first | exact q_a3f2481f3 h_55 h_65 h_76 | omega, ⟨(Int.le_trans (by decide) h_79.1), (Int.le_trans h_79.2 (by decide))⟩, by decide, by decide⟩ (q_iconst c_152_12 (v_zret c_152_13 rfl (by decide) ?_)))))))
            refine bk_inl (v_if_ne_f (t := 119) c_207_113 rfl (by decide) (q_goto (t := 134) c_207_116 rfl (q_aload_n c_207_134 rfl (q_iload_n c_207_135 rfl (v_cv c_207_136 km_8_232 rfl rfl (nb_ rfl) ⟨⟨rfl, rfl⟩, nb_ rfl, rfl⟩ (nb_ rfl) (nb_ rfl) (s_164 (a1 := v2) hI_72 (show (-2147483648) ≤ v2 ∧ v2 ≤ 2147483647 from hv2) (fun c_80 y_83 hI_81 hF_82 hy_83 => (bk_inl (q_istore_n c_207_139 (nb_ rfl) ?_)))))))))
            refine q_aload_n c_207_140 rfl ?_
            have kn_84 : Hid (c_80 41 5 = c_71 41 5) := hF_82 41 5 (fun h => absurd h.2 (ni rfl))
            refine v_gi (z := 5) (v := c_71 41 5) c_207_141 kf_8_102 rfl (nb_ rfl) rfl rfl (hid kn_84) (q_iconst c_207_144 (v_ic_eq_f (t := 150) c_207_145 rfl ⟨by first | exact q_a3f2481f3 h_55 h_65 h_76 | omega, ⟨(Int.le_trans (by decide) h_79.1), (Int.le_trans h_79.2 (by decide))⟩, by decide, by decide⟩ (q_iload_n c_207_148 rfl (q_iret c_207_149 rfl ?_))))
            have kn_85 : Hid (c_20 41 2 = c2 41 2) := hF_22 41 2 (fun h => absurd h.2 (ni rfl))
            have kn_86 : Hid (c_44 41 2 = c2 41 2) := (hF_46 41 2 qn_6151d08e8).trans (hid kn_85)
            have kn_87 : Hid (c_58 41 2 = c2 41 2) := (hF_60 41 2 qn_6151d08e8).trans (hid kn_86)
            have kn_88 : Hid (c_71 41 2 = c2 41 2) := (hF_73 41 2 qn_6151d08e8).trans (hid kn_87)
            have kn_89 : Hid (c_80 41 2 = c2 41 2) := (hF_82 41 2 (fun h => absurd h.2 (ni rfl))).trans (hid kn_88)
            have h_90 : c_80 41 2 = c2 41 2 := (hid kn_89)
            exact K c_80 y_83 hI_81 (fun a j hm => (hF_82 a j (qv_e289254c2 hm)).trans ((hF_73 a j (qv_128b34fe0 hm)).trans ((hF_60 a j (qv_128b34fe0 hm)).trans ((hF_46 a j (qv_128b34fe0 hm)).trans ((hF_22 a j (fun h => hm (Or.inr (Or.inr (Or.inr (Or.inr (Or.inl h))))))).trans (hF a j hm)))))) hy_83 (Or.inl ⟨by first | (clear ha1 hv2 h_7 h_8 h_9 h_10 h_11 h_19 h_27 h_24 h_53 h_48 h_54 h_67 h_62 h_68 h_78 h_74 h_79 h_25 h_26 h_28 h_49 h_50 h_51 h_52 h_55 h_63 h_64 h_65 h_66 h_75 h_76 h_77; omega) | omega, by first | (clear ha1 hv2 h_7 h_8 h_9 h_10 h_11 h_19 h_27 h_24 h_53 h_48 h_54 h_67 h_62 h_68 h_78 h_74 h_79 h_25 h_26 h_28 h_49 h_50 h_51 h_52 h_55 h_63 h_64 h_65 h_66 h_75 h_76 h_77; omega) | omega, by first | (clear ha1 hv2 h_7 h_8 h_9 h_10 h_11 h_19 h_27 h_24 h_53 h_48 h_54 h_67 h_62 h_68 h_78 h_74 h_79 h_25 h_26 h_28 h_49 h_50 h_51 h_52 h_55 h_63 h_64 h_65 h_66 h_75 h_76 h_77; omega) | omega, by first | (clear ha1 hv2 h_7 h_8 h_9 h_10 h_11 h_19 h_27 h_24 h_53 h_48 h_54 h_67 h_62 h_68 h_78 h_74 h_79 h_25 h_26 h_28 h_49 h_50 h_51 h_52 h_55 h_63 h_64 h_65 h_66 h_75 h_76 h_77; omega) | omega⟩)
          · refine v_ic_ne_f (t := 12) c_152_5 rfl (Decidable.not_not.mp h_55) (q_iconst c_152_8 (q_goto (t := 13) c_152_9 rfl (v_zret c_152_13 rfl (by decide) (bk_inl (v_if_eq_f (t := 93) c_207_73 rfl (by decide) (q_aload_n c_207_76 rfl (v_gr (t := 63) c_207_77 kf_8_80 rfl (nb_ rfl) rfl ?_)))))))
            refine q_iload c_207_80 rfl ?_
            have h_91 := ir_63 hI2 y_47
            have kn_92 : Hid (c_20 63 y_47 = c2 63 y_47) := hF_22 63 y_47 (fun h => absurd h.1 (nn rfl))
            have kn_93 : Hid (c_44 63 y_47 = c2 63 y_47) := (hF_46 63 y_47 qn_518a05c1b).trans (hid kn_92)
            refine v_ia (v := c2 63 y_47) c_207_82 rfl (by decide) (by decide) ⟨hy_47.1, by first | exact q_ea1a384bf h_50 | omega⟩ (hid kn_93) (q_iconst c_207_83 ?_)
            by_cases h_94 : c2 63 y_47 = (-1)
            · refine v_ic_eq_t (t := 93) c_207_84 rfl h_94 (q_aload_n c_207_93 rfl (q_iconst c_207_94 (v_sip c_207_95 (by decide) ?_)))
              have kn_95 : Hid (c_44 41 3 = c2 41 3) := (hF_46 41 3 qn_97fd72088).trans (hid kn_40)
              have h_96 : c_44 41 3 = c2 41 3 := (hid kn_95)
              refine v_cv c_207_98 km_8_199 rfl rfl (nb_ rfl) ⟨⟨rfl, rfl⟩, nb_ rfl, rfl⟩ (nb_ rfl) (nb_ rfl) (s_160 (a1 := 0) (a2 := 9999) hI_45 (show 0 ≤ 0 ∧ 0 ≤ 1 from ⟨by decide, by decide⟩) (show (-1) ≤ 9999 ∧ 9999 ≤ 9999 from ⟨by decide, by decide⟩) (fun c_97 y_100 hI_98 hF_99 hy_100 h_101 h_102 h_103 h_104 h_105 => (bk_inl ?_)))
              have h_106 := ir_41_4 hI_98
              have h_107 := ir_41_5 hI_98
              refine q_istore c_207_101 (nb_ rfl) (q_aload_n c_207_103 rfl (v_bip c_207_104 (by decide) ?_))
              have kn_108 : Hid (c_97 41 3 = c2 41 3) := (hF_99 41 3 qn_97fd72088).trans (hid kn_95)
              have h_109 : c_97 41 3 = c2 41 3 := (hid kn_108)
              refine v_cv c_207_106 km_8_229 rfl rfl (nb_ rfl) ⟨⟨rfl, rfl⟩, nb_ rfl, rfl⟩ (nb_ rfl) (nb_ rfl) (s_161 (a1 := 59) hI_98 (show 1 ≤ 59 ∧ 59 ≤ 255 from ⟨by decide, by decide⟩) (fun c_110 hI_111 hF_112 h_113 h_114 h_115 h_116 => (bk_inl ?_)))
              have h_117 := ir_41_4 hI_111
              have h_118 := ir_41_5 hI_111
              refine q_aload_n c_207_109 rfl (v_cv c_207_110 km_8_131 rfl rfl (nb_ rfl) ⟨⟨rfl, rfl⟩, nb_ rfl, rfl⟩ (nb_ rfl) (nb_ rfl) (q_aload_n c_152_0 rfl (v_gi (z := 5) (v := c_110 41 5) c_152_1 kf_8_102 rfl (nb_ rfl) rfl rfl rfl (q_iconst c_152_4 ?_))))
              by_cases h_119 : c_110 41 5 ≠ (-1)
              · refine v_ic_ne_t (t := 12) c_152_5 rfl ⟨h_119, ⟨(Int.le_trans (by decide) h_118.1), (Int.le_trans h_118.2 (by decide))⟩, by decide, by decide⟩ (q_iconst c_152_12 (v_zret c_152_13 rfl (by decide) (bk_inl (v_if_ne_f (t := 119) c_207_113 rfl (by decide) (q_goto (t := 134) c_207_116 rfl (q_aload_n c_207_134 rfl (q_iload_n c_207_135 rfl ?_)))))))
                refine v_cv c_207_136 km_8_232 rfl rfl (nb_ rfl) ⟨⟨rfl, rfl⟩, nb_ rfl, rfl⟩ (nb_ rfl) (nb_ rfl) (s_164 (a1 := v2) hI_111 (show (-2147483648) ≤ v2 ∧ v2 ≤ 2147483647 from hv2) (fun c_120 y_123 hI_121 hF_122 hy_123 => (bk_inl (q_istore_n c_207_139 (nb_ rfl) (q_aload_n c_207_140 rfl ?_)))))
                have kn_124 : Hid (c_120 41 5 = c_110 41 5) := hF_122 41 5 (fun h => absurd h.2 (ni rfl))
                refine v_gi (z := 5) (v := c_110 41 5) c_207_141 kf_8_102 rfl (nb_ rfl) rfl rfl (hid kn_124) (q_iconst c_207_144 (v_ic_eq_f (t := 150) c_207_145 rfl ⟨by first | exact q_bd023a79f h_118 h_119 | omega, ⟨(Int.le_trans (by decide) h_118.1), (Int.le_trans h_118.2 (by decide))⟩, by decide, by decide⟩ (q_iload_n c_207_148 rfl (q_iret c_207_149 rfl ?_))))
                have kn_125 : Hid (c_20 41 2 = c2 41 2) := hF_22 41 2 (fun h => absurd h.2 (ni rfl))
                have kn_126 : Hid (c_44 41 2 = c2 41 2) := (hF_46 41 2 qn_6151d08e8).trans (hid kn_125)
                have kn_127 : Hid (c_97 41 2 = c2 41 2) := (hF_99 41 2 qn_6151d08e8).trans (hid kn_126)
                have kn_128 : Hid (c_110 41 2 = c2 41 2) := (hF_112 41 2 qn_6151d08e8).trans (hid kn_127)
                have kn_129 : Hid (c_120 41 2 = c2 41 2) := (hF_122 41 2 (fun h => absurd h.2 (ni rfl))).trans (hid kn_128)
                have h_130 : c_120 41 2 = c2 41 2 := (hid kn_129)
                exact K c_120 y_123 hI_121 (fun a j hm => (hF_122 a j (qv_e289254c2 hm)).trans ((hF_112 a j (qv_128b34fe0 hm)).trans ((hF_99 a j (qv_128b34fe0 hm)).trans ((hF_46 a j (qv_128b34fe0 hm)).trans ((hF_22 a j (fun h => hm (Or.inr (Or.inr (Or.inr (Or.inr (Or.inl h))))))).trans (hF a j hm)))))) hy_123 (Or.inl ⟨by first | (clear ha1 hv2 h_7 h_8 h_9 h_10 h_11 h_19 h_27 h_24 h_53 h_48 h_54 h_55 h_91 h_94 h_106 h_101 h_107 h_117 h_113 h_118 h_25 h_26 h_28 h_49 h_50 h_51 h_52 h_102 h_103 h_104 h_105 h_114 h_115 h_116 h_119; omega) | omega, by first | (clear ha1 hv2 h_7 h_8 h_9 h_10 h_11 h_19 h_27 h_24 h_53 h_48 h_54 h_55 h_91 h_94 h_106 h_101 h_107 h_117 h_113 h_118 h_25 h_26 h_28 h_49 h_50 h_51 h_52 h_102 h_103 h_104 h_105 h_114 h_115 h_116 h_119; omega) | omega, by first | (clear ha1 hv2 h_7 h_8 h_9 h_10 h_11 h_19 h_27 h_24 h_53 h_48 h_54 h_55 h_91 h_94 h_106 h_101 h_107 h_117 h_113 h_118 h_25 h_26 h_28 h_49 h_50 h_51 h_52 h_102 h_103 h_104 h_105 h_114 h_115 h_116 h_119; omega) | omega, by first | (clear ha1 hv2 h_7 h_8 h_9 h_10 h_11 h_19 h_27 h_24 h_53 h_48 h_54 h_55 h_91 h_94 h_106 h_101 h_107 h_117 h_113 h_118 h_25 h_26 h_28 h_49 h_50 h_51 h_52 h_102 h_103 h_104 h_105 h_114 h_115 h_116 h_119; omega) | omega⟩)
              · refine v_ic_ne_f (t := 12) c_152_5 rfl (Decidable.not_not.mp h_119) (q_iconst c_152_8 (q_goto (t := 13) c_152_9 rfl (v_zret c_152_13 rfl (by decide) (bk_inl (v_if_ne_t (t := 119) c_207_113 rfl (by decide) (q_aload_n c_207_119 rfl (v_gr (t := 63) c_207_120 kf_8_80 rfl (nb_ rfl) rfl ?_)))))))
                refine q_iload c_207_123 rfl (q_iload c_207_125 rfl (v_is c_207_127 rfl (by decide) (by decide) ⟨hy_47.1, by first | exact q_ea1a384bf h_50 | omega⟩ (v_iincx c_207_128 rfl (by decide) (fun y_131 hy_131 => (q_goto (t := 42) c_207_131 rfl ?_)))))
                have hI_132 := iw_63 (j := y_47) (v := y_100) hI_111 ⟨(Int.le_trans (by decide) hy_100.1), hy_100.2⟩
                refine Wp_ls [(0, .ref 41), (1, vi a1), (2, vi y_131)] (lsub_cons rfl (lsub_cons rfl (lsub_cons rfl lsub_nil))) ?_
                have kn_133 : Hid (c_20 41 2 = c2 41 2) := hF_22 41 2 (fun h => absurd h.2 (ni rfl))
                have kn_134 : Hid (c_44 41 2 = c2 41 2) := (hF_46 41 2 qn_6151d08e8).trans (hid kn_133)
                have kn_135 : Hid (c_97 41 2 = c2 41 2) := (hF_99 41 2 qn_6151d08e8).trans (hid kn_134)
                have kn_136 : Hid (c_110 41 2 = c2 41 2) := (hF_112 41 2 qn_6151d08e8).trans (hid kn_135)
                have h_137 : (up c_110 63 y_47 y_100) 41 2 = c2 41 2 := ((up_c (nn rfl)).trans (hid kn_136))
                have h_138 : (up c_110 63 y_47 y_100) 41 4 = c_110 41 4 := (up_c (nn rfl))
                exact ih.2 (up c_110 63 y_47 y_100) y_131 hI_132 (fun a j hm => (up_b (Decidable.or_iff_not_imp_left.mpr (fun h1 h2 => hm (Or.inr (Or.inr (Or.inr (Or.inr (Or.inr (Or.inr (Or.inr (Or.inr (Or.inr (Or.inr (Or.inl (Decidable.not_not.mp h1))))))))))))))).trans ((hF_112 a j (qv_128b34fe0 hm)).trans ((hF_99 a j (qv_128b34fe0 hm)).trans ((hF_46 a j (qv_128b34fe0 hm)).trans ((hF_22 a j (fun h => hm (Or.inr (Or.inr (Or.inr (Or.inr (Or.inl h))))))).trans (hF a j hm)))))) hy_131 ⟨by first | (clear ha1 hv2 h_7 h_8 h_9 h_10 h_11 h_19 h_27 h_24 h_53 h_48 h_54 h_55 h_91 h_94 h_106 h_101 h_107 h_117 h_113 h_118 h_119 h_25 h_26 h_28 h_49 h_50 h_51 h_52 h_102 h_103 h_104 h_105 h_114 h_115 h_116; omega) | omega, by first | (clear ha1 hv2 h_7 h_8 h_9 h_10 h_11 h_19 h_27 h_24 h_53 h_48 h_54 h_55 h_91 h_94 h_106 h_101 h_107 h_117 h_113 h_118 h_119 h_25 h_26 h_28 h_49 h_50 h_51 h_52 h_102 h_103 h_104 h_105 h_114 h_115 h_116; omega) | omega, by first | (clear ha1 hv2 h_7 h_8 h_9 h_10 h_11 h_19 h_27 h_24 h_53 h_48 h_54 h_55 h_91 h_94 h_106 h_101 h_107 h_117 h_113 h_118 h_119 h_25 h_26 h_28 h_49 h_50 h_51 h_52 h_102 h_103 h_104 h_105 h_114 h_115 h_116; omega) | omega, by first | (clear ha1 hv2 h_7 h_8 h_9 h_10 h_11 h_19 h_27 h_24 h_53 h_48 h_54 h_55 h_91 h_94 h_106 h_101 h_107 h_117 h_113 h_118 h_119 h_25 h_26 h_28 h_49 h_50 h_51 h_52 h_102 h_103 h_104 h_105 h_114 h_115 h_116; omega) | omega⟩ (by omega)
            · refine v_ic_eq_f (t := 93) c_207_84 rfl ⟨h_94, ⟨by first | exact q_87765d87e h_91 | omega, by first | exact q_cf71bb2da h_91 | omega⟩, by decide, by decide⟩ (q_aload_n c_207_87 rfl (q_iconst c_207_88 (q_iload_n c_207_89 rfl (v_cv c_207_90 km_8_138 rfl rfl (nb_ rfl) ⟨⟨rfl, rfl⟩, nb_ rfl, rfl⟩ (nb_ rfl) (nb_ rfl) (s_153 (a1 := 2) (a2 := c_20 41 4) hI_45 (show 1 ≤ 2 ∧ 2 ≤ 3 from ⟨by decide, by decide⟩) (show 0 ≤ c_20 41 4 ∧ c_20 41 4 ≤ 605 from h_27) (fun c_139 hI_140 hF_141 h_142 => (bk_inl ?_)))))))
              have h_143 := ir_41_5 hI_140
              refine q_aload_n c_207_93 rfl (q_iconst c_207_94 (v_sip c_207_95 (by decide) ?_))
              have kn_144 : Hid (c_139 41 4 = c_44 41 4) := hF_141 41 4 (fun q => q.elim (fun h => absurd h.2 (ni rfl)) (fun h => absurd h.2 (ni rfl)))
              have h_145 : c_139 41 4 = c_44 41 4 := (hid kn_144)
              have kn_146 : Hid (c_44 41 3 = c2 41 3) := (hF_46 41 3 qn_97fd72088).trans (hid kn_40)
              have kn_147 : Hid (c_139 41 3 = c2 41 3) := (hF_141 41 3 (fun q => q.elim (fun h => absurd h.2 (ni rfl)) (fun h => absurd h.2 (ni rfl)))).trans (hid kn_146)
              have h_148 : c_139 41 3 = c2 41 3 := (hid kn_147)
              refine v_cv c_207_98 km_8_199 rfl rfl (nb_ rfl) ⟨⟨rfl, rfl⟩, nb_ rfl, rfl⟩ (nb_ rfl) (nb_ rfl) (s_160 (a1 := 0) (a2 := 9999) hI_140 (show 0 ≤ 0 ∧ 0 ≤ 1 from ⟨by decide, by decide⟩) (show (-1) ≤ 9999 ∧ 9999 ≤ 9999 from ⟨by decide, by decide⟩) (fun c_149 y_152 hI_150 hF_151 hy_152 h_153 h_154 h_155 h_156 h_157 => (bk_inl ?_)))
              have h_158 := ir_41_4 hI_150
              have h_159 := ir_41_5 hI_150
              refine q_istore c_207_101 (nb_ rfl) (q_aload_n c_207_103 rfl (v_bip c_207_104 (by decide) ?_))
              have kn_160 : Hid (c_149 41 3 = c2 41 3) := (hF_151 41 3 qn_97fd72088).trans (hid kn_147)
              have h_161 : c_149 41 3 = c2 41 3 := (hid kn_160)
              refine v_cv c_207_106 km_8_229 rfl rfl (nb_ rfl) ⟨⟨rfl, rfl⟩, nb_ rfl, rfl⟩ (nb_ rfl) (nb_ rfl) (s_161 (a1 := 59) hI_150 (show 1 ≤ 59 ∧ 59 ≤ 255 from ⟨by decide, by decide⟩) (fun c_162 hI_163 hF_164 h_165 h_166 h_167 h_168 => (bk_inl ?_)))
              have h_169 := ir_41_4 hI_163
              have h_170 := ir_41_5 hI_163
              refine q_aload_n c_207_109 rfl (v_cv c_207_110 km_8_131 rfl rfl (nb_ rfl) ⟨⟨rfl, rfl⟩, nb_ rfl, rfl⟩ (nb_ rfl) (nb_ rfl) (q_aload_n c_152_0 rfl (v_gi (z := 5) (v := c_162 41 5) c_152_1 kf_8_102 rfl (nb_ rfl) rfl rfl rfl (q_iconst c_152_4 (v_ic_ne_t (t := 12) c_152_5 rfl ⟨by first | exact q_3578ef10e h_142 h_156 h_167 | omega, ⟨(Int.le_trans (by decide) h_170.1), (Int.le_trans h_170.2 (by decide))⟩, by decide, by decide⟩ (q_iconst c_152_12 (v_zret c_152_13 rfl (by decide) ?_)))))))
              refine bk_inl (v_if_ne_f (t := 119) c_207_113 rfl (by decide) (q_goto (t := 134) c_207_116 rfl (q_aload_n c_207_134 rfl (q_iload_n c_207_135 rfl (v_cv c_207_136 km_8_232 rfl rfl (nb_ rfl) ⟨⟨rfl, rfl⟩, nb_ rfl, rfl⟩ (nb_ rfl) (nb_ rfl) (s_164 (a1 := v2) hI_163 (show (-2147483648) ≤ v2 ∧ v2 ≤ 2147483647 from hv2) (fun c_171 y_174 hI_172 hF_173 hy_174 => (bk_inl (q_istore_n c_207_139 (nb_ rfl) ?_)))))))))
              refine q_aload_n c_207_140 rfl ?_
              have kn_175 : Hid (c_171 41 5 = c_162 41 5) := hF_173 41 5 (fun h => absurd h.2 (ni rfl))
              refine v_gi (z := 5) (v := c_162 41 5) c_207_141 kf_8_102 rfl (nb_ rfl) rfl rfl (hid kn_175) (q_iconst c_207_144 (v_ic_eq_f (t := 150) c_207_145 rfl ⟨by first | exact q_3578ef10e h_142 h_156 h_167 | omega, ⟨(Int.le_trans (by decide) h_170.1), (Int.le_trans h_170.2 (by decide))⟩, by decide, by decide⟩ (q_iload_n c_207_148 rfl (q_iret c_207_149 rfl ?_))))
              have kn_176 : Hid (c_20 41 2 = c2 41 2) := hF_22 41 2 (fun h => absurd h.2 (ni rfl))
              have kn_177 : Hid (c_44 41 2 = c2 41 2) := (hF_46 41 2 qn_6151d08e8).trans (hid kn_176)
              have kn_178 : Hid (c_139 41 2 = c2 41 2) := (hF_141 41 2 (fun q => q.elim (fun h => absurd h.2 (ni rfl)) (fun h => absurd h.2 (ni rfl)))).trans (hid kn_177)
              have kn_179 : Hid (c_149 41 2 = c2 41 2) := (hF_151 41 2 qn_6151d08e8).trans (hid kn_178)
              have kn_180 : Hid (c_162 41 2 = c2 41 2) := (hF_164 41 2 qn_6151d08e8).trans (hid kn_179)
              have kn_181 : Hid (c_171 41 2 = c2 41 2) := (hF_173 41 2 (fun h => absurd h.2 (ni rfl))).trans (hid kn_180)
              have h_182 : c_171 41 2 = c2 41 2 := (hid kn_181)
              exact K c_171 y_174 hI_172 (fun a j hm => (hF_173 a j (qv_e289254c2 hm)).trans ((hF_164 a j (qv_128b34fe0 hm)).trans ((hF_151 a j (qv_128b34fe0 hm)).trans ((hF_141 a j (qv_e4455395c hm)).trans ((hF_46 a j (qv_128b34fe0 hm)).trans ((hF_22 a j (fun h => hm (Or.inr (Or.inr (Or.inr (Or.inr (Or.inl h))))))).trans (hF a j hm))))))) hy_174 (Or.inl ⟨by first | (clear ha1 hv2 h_7 h_8 h_9 h_10 h_11 h_19 h_27 h_24 h_53 h_48 h_54 h_55 h_91 h_143 h_158 h_153 h_159 h_169 h_165 h_170 h_25 h_26 h_28 h_49 h_50 h_51 h_52 h_94 h_142 h_154 h_155 h_156 h_157 h_166 h_167 h_168; omega) | omega, by first | (clear ha1 hv2 h_7 h_8 h_9 h_10 h_11 h_19 h_27 h_24 h_53 h_48 h_54 h_55 h_91 h_143 h_158 h_153 h_159 h_169 h_165 h_170 h_25 h_26 h_28 h_49 h_50 h_51 h_52 h_94 h_142 h_154 h_155 h_156 h_157 h_166 h_167 h_168; omega) | omega, by first | (clear ha1 hv2 h_7 h_8 h_9 h_10 h_11 h_19 h_27 h_24 h_53 h_48 h_54 h_55 h_91 h_143 h_158 h_153 h_159 h_169 h_165 h_170 h_25 h_26 h_28 h_49 h_50 h_51 h_52 h_94 h_142 h_154 h_155 h_156 h_157 h_166 h_167 h_168; omega) | omega, by first | (clear ha1 hv2 h_7 h_8 h_9 h_10 h_11 h_19 h_27 h_24 h_53 h_48 h_54 h_55 h_91 h_143 h_158 h_153 h_159 h_169 h_165 h_170 h_25 h_26 h_28 h_49 h_50 h_51 h_52 h_94 h_142 h_154 h_155 h_156 h_157 h_166 h_167 h_168; omega) | omega⟩)
set_option maxRecDepth 100000 in
set_option maxHeartbeats 4000000 in
theorem s_207 {sc : List Int32} {e : Int} {d u P Q : Nat} {c : ME} {a1 : Int} {Z : AR → Prop} (hI : Iv u e P Q c) (ha1 : (-2147483648) ≤ a1 ∧ a1 ≤ 2147483647) (K : ∀ (c2 : ME) (y : Int), Iv u e P Q c2 → (∀ (a : Nat) (j : Int), ¬ ((a = 41 ∧ j = 0) ∨ a = 42 ∨ (a = 41 ∧ j = 2) ∨ (a = 41 ∧ j = 3) ∨ (a = 41 ∧ j = 4) ∨ (a = 41 ∧ j = 5) ∨ (a = 41 ∧ j = 6) ∨ (a = 41 ∧ j = 7) ∨ (a = 41 ∧ j = 8) ∨ (a = 41 ∧ j = 48) ∨ a = 63 ∨ a = 64) → c2 a j = c a j) → (-2147483648) ≤ y ∧ y ≤ 2147483647 → ((c2 41 2 = 0 ∧ a1 ≥ 0 ∧ a1 ≤ c 41 2 ∧ a1 ≤ 60) ∨ (c2 41 2 = c 41 2 ∧ a1 < 0) ∨ (c2 41 2 = c 41 2 ∧ a1 > c 41 2) ∨ (c2 41 2 = c 41 2 ∧ a1 > 60)) → Z (.inl (some (vi y)), Wd P Q P P c2, 0, 0)) : Wp sc (d + 9) 207 0 [(0, .ref 41), (1, vi a1)] [] (Wd P Q P P c) 0 0 Z := by
  have hP := iv_P hI
  have hQ := iv_Q hI
  refine q_aload_n c_207_0 rfl (q_iconst c_207_1 (v_pi (z := 0) c_207_2 kf_8_3 rfl (nb_ rfl) rfl rfl rfl (by decide) (q_aload_n c_207_5 rfl (q_iload_n c_207_6 rfl (v_cv c_207_7 km_8_381 rfl rfl (nb_ rfl) ⟨⟨rfl, rfl⟩, nb_ rfl, rfl⟩ (nb_ rfl) (nb_ rfl) (q_aload_n c_205_0 rfl (q_iload_n c_205_1 rfl ?_)))))))
  by_cases h_184 : a1 < 0
  · refine v_if_lt_t (t := 23) c_205_2 rfl ⟨ha1.1, h_184, by decide⟩ (q_iconst c_205_23 (q_iconst c_205_24 (q_iconst c_205_25 (v_cv c_205_26 km_8_203 rfl rfl (nb_ rfl) ⟨⟨rfl, rfl⟩, nb_ rfl, rfl⟩ (nb_ rfl) (nb_ rfl) (q_iload_n c_145_0 rfl (v_if_ne_f (t := 26) c_145_1 rfl (by decide) (q_aload_n c_145_4 rfl ?_)))))))
    refine v_gi (z := 0) (v := 0) c_145_5 kf_8_3 rfl (nb_ rfl) rfl rfl (up_e rfl) (v_if_ne_f (t := 26) c_145_8 rfl (by decide) (q_aload_n c_145_11 rfl (q_iload_n c_145_12 rfl (v_pi (z := 0) c_145_13 kf_8_3 rfl (nb_ rfl) rfl rfl rfl (by decide) (q_aload_n c_145_16 rfl (v_gr (t := 42) c_145_17 kf_8_7 rfl (nb_ rfl) rfl (q_iload_n c_145_20 rfl ?_)))))))
    refine q_dup2 c_145_21 ⟨rfl, rfl⟩ ?_
    have h_185 := ir_42 hI 1
    refine v_ia (v := c 42 1) c_145_22 rfl (by decide) (by decide) (by decide) ((up_c (nn rfl)).trans (up_c (nn rfl))) (q_iconst c_145_23 (v_iadd (v := c 42 1 + 1) c_145_24 rfl (v_nrm (fun y_186 hy_186 => (v_is c_145_25 rfl (by decide) (by decide) (by decide) (q_aload_n c_145_26 rfl (v_gi (z := 0) (v := 1) c_145_27 kf_8_3 rfl (nb_ rfl) rfl rfl ((up_c (nn rfl)).trans (up_e rfl)) (v_if_ne_t (t := 37) c_145_30 rfl (by decide) ?_))))))))
    refine q_iconst c_145_37 (v_zret c_145_38 rfl (by decide) (bk_inl (v_zret c_205_29 rfl (by decide) (bk_inl (v_if_ne_f (t := 15) c_207_10 rfl (by decide) (q_iconst c_207_13 (q_iret c_207_14 rfl ?_)))))))
    have hI_187 := iw_41_0 (v := 0) hI ⟨by decide, by decide⟩
    have hI_188 := iw_41_0 (v := 1) hI_187 ⟨by decide, by decide⟩
    have hI_189 := iw_42 (j := 1) (v := y_186) hI_188 ⟨hy_186.1, hy_186.2⟩
    have h_190 := ir_41_2 hI
    have h_191 : (up (up (up c 41 0 0) 41 0 1) 42 1 y_186) 41 2 = c 41 2 := ((up_c (nn rfl)).trans ((up_n (by decide)).trans (up_n (by decide))))
    exact K (up (up (up c 41 0 0) 41 0 1) 42 1 y_186) 0 hI_189 (fun a j hm => (up_b (Decidable.or_iff_not_imp_left.mpr (fun h1 h2 => hm (Or.inr (Or.inl (Decidable.not_not.mp h1)))))).trans ((up_b (Decidable.or_iff_not_imp_left.mpr (fun h1 h2 => hm (Or.inl ⟨Decidable.not_not.mp h1, h2⟩)))).trans (up_b (Decidable.or_iff_not_imp_left.mpr (fun h1 h2 => hm (Or.inl ⟨Decidable.not_not.mp h1, h2⟩)))))) ⟨by decide, by decide⟩ (Or.inr (Or.inl ⟨by first | assumption | omega, by first | exact q_e97a17f6e h_184 | omega⟩))
  · refine v_if_lt_f (t := 23) c_205_2 rfl ⟨by decide, (Int.not_lt.mp h_184), ha1.2⟩ (q_iload_n c_205_5 rfl (q_aload_n c_205_6 rfl ?_))
    have h_192 := ir_41_2 hI
    refine v_gi (z := 2) (v := c 41 2) c_205_7 kf_8_99 rfl (nb_ rfl) rfl rfl (up_n (by decide)) ?_
    by_cases h_193 : a1 > c 41 2
    · refine v_ic_gt_t (t := 23) c_205_10 rfl ⟨(Int.le_trans (by decide) h_192.1), h_193, ha1.2⟩ (q_iconst c_205_23 (q_iconst c_205_24 (q_iconst c_205_25 (v_cv c_205_26 km_8_203 rfl rfl (nb_ rfl) ⟨⟨rfl, rfl⟩, nb_ rfl, rfl⟩ (nb_ rfl) (nb_ rfl) (q_iload_n c_145_0 rfl (v_if_ne_f (t := 26) c_145_1 rfl (by decide) (q_aload_n c_145_4 rfl ?_)))))))
      refine v_gi (z := 0) (v := 0) c_145_5 kf_8_3 rfl (nb_ rfl) rfl rfl (up_e rfl) (v_if_ne_f (t := 26) c_145_8 rfl (by decide) (q_aload_n c_145_11 rfl (q_iload_n c_145_12 rfl (v_pi (z := 0) c_145_13 kf_8_3 rfl (nb_ rfl) rfl rfl rfl (by decide) (q_aload_n c_145_16 rfl (v_gr (t := 42) c_145_17 kf_8_7 rfl (nb_ rfl) rfl (q_iload_n c_145_20 rfl ?_)))))))
      refine q_dup2 c_145_21 ⟨rfl, rfl⟩ ?_
      have h_194 := ir_42 hI 1
      refine v_ia (v := c 42 1) c_145_22 rfl (by decide) (by decide) (by decide) ((up_c (nn rfl)).trans (up_c (nn rfl))) (q_iconst c_145_23 (v_iadd (v := c 42 1 + 1) c_145_24 rfl (v_nrm (fun y_195 hy_195 => (v_is c_145_25 rfl (by decide) (by decide) (by decide) (q_aload_n c_145_26 rfl (v_gi (z := 0) (v := 1) c_145_27 kf_8_3 rfl (nb_ rfl) rfl rfl ((up_c (nn rfl)).trans (up_e rfl)) (v_if_ne_t (t := 37) c_145_30 rfl (by decide) ?_))))))))
      refine q_iconst c_145_37 (v_zret c_145_38 rfl (by decide) (bk_inl (v_zret c_205_29 rfl (by decide) (bk_inl (v_if_ne_f (t := 15) c_207_10 rfl (by decide) (q_iconst c_207_13 (q_iret c_207_14 rfl ?_)))))))
      have hI_196 := iw_41_0 (v := 0) hI ⟨by decide, by decide⟩
      have hI_197 := iw_41_0 (v := 1) hI_196 ⟨by decide, by decide⟩
      have hI_198 := iw_42 (j := 1) (v := y_195) hI_197 ⟨hy_195.1, hy_195.2⟩
      have h_199 : (up (up (up c 41 0 0) 41 0 1) 42 1 y_195) 41 2 = c 41 2 := ((up_c (nn rfl)).trans ((up_n (by decide)).trans (up_n (by decide))))
      exact K (up (up (up c 41 0 0) 41 0 1) 42 1 y_195) 0 hI_198 (fun a j hm => (up_b (Decidable.or_iff_not_imp_left.mpr (fun h1 h2 => hm (Or.inr (Or.inl (Decidable.not_not.mp h1)))))).trans ((up_b (Decidable.or_iff_not_imp_left.mpr (fun h1 h2 => hm (Or.inl ⟨Decidable.not_not.mp h1, h2⟩)))).trans (up_b (Decidable.or_iff_not_imp_left.mpr (fun h1 h2 => hm (Or.inl ⟨Decidable.not_not.mp h1, h2⟩)))))) ⟨by decide, by decide⟩ (Or.inr (Or.inr (Or.inl ⟨by first | assumption | omega, by first | exact q_0e7f65a30 h_193 | omega⟩)))
    · refine v_ic_gt_f (t := 23) c_205_10 rfl ⟨ha1.1, (Int.not_lt.mp h_193), (Int.le_trans h_192.2 (by decide))⟩ (q_iload_n c_205_13 rfl (v_bip c_205_14 (by decide) ?_))
      by_cases h_200 : a1 > 60
      · refine v_ic_gt_t (t := 23) c_205_16 rfl ⟨by decide, h_200, ha1.2⟩ (q_iconst c_205_23 (q_iconst c_205_24 (q_iconst c_205_25 (v_cv c_205_26 km_8_203 rfl rfl (nb_ rfl) ⟨⟨rfl, rfl⟩, nb_ rfl, rfl⟩ (nb_ rfl) (nb_ rfl) (q_iload_n c_145_0 rfl (v_if_ne_f (t := 26) c_145_1 rfl (by decide) (q_aload_n c_145_4 rfl ?_)))))))
        refine v_gi (z := 0) (v := 0) c_145_5 kf_8_3 rfl (nb_ rfl) rfl rfl (up_e rfl) (v_if_ne_f (t := 26) c_145_8 rfl (by decide) (q_aload_n c_145_11 rfl (q_iload_n c_145_12 rfl (v_pi (z := 0) c_145_13 kf_8_3 rfl (nb_ rfl) rfl rfl rfl (by decide) (q_aload_n c_145_16 rfl (v_gr (t := 42) c_145_17 kf_8_7 rfl (nb_ rfl) rfl (q_iload_n c_145_20 rfl ?_)))))))
        refine q_dup2 c_145_21 ⟨rfl, rfl⟩ ?_
        have h_201 := ir_42 hI 1
        refine v_ia (v := c 42 1) c_145_22 rfl (by decide) (by decide) (by decide) ((up_c (nn rfl)).trans (up_c (nn rfl))) (q_iconst c_145_23 (v_iadd (v := c 42 1 + 1) c_145_24 rfl (v_nrm (fun y_202 hy_202 => (v_is c_145_25 rfl (by decide) (by decide) (by decide) (q_aload_n c_145_26 rfl (v_gi (z := 0) (v := 1) c_145_27 kf_8_3 rfl (nb_ rfl) rfl rfl ((up_c (nn rfl)).trans (up_e rfl)) (v_if_ne_t (t := 37) c_145_30 rfl (by decide) ?_))))))))
        refine q_iconst c_145_37 (v_zret c_145_38 rfl (by decide) (bk_inl (v_zret c_205_29 rfl (by decide) (bk_inl (v_if_ne_f (t := 15) c_207_10 rfl (by decide) (q_iconst c_207_13 (q_iret c_207_14 rfl ?_)))))))
        have hI_203 := iw_41_0 (v := 0) hI ⟨by decide, by decide⟩
        have hI_204 := iw_41_0 (v := 1) hI_203 ⟨by decide, by decide⟩
        have hI_205 := iw_42 (j := 1) (v := y_202) hI_204 ⟨hy_202.1, hy_202.2⟩
        have h_206 : (up (up (up c 41 0 0) 41 0 1) 42 1 y_202) 41 2 = c 41 2 := ((up_c (nn rfl)).trans ((up_n (by decide)).trans (up_n (by decide))))
        exact K (up (up (up c 41 0 0) 41 0 1) 42 1 y_202) 0 hI_205 (fun a j hm => (up_b (Decidable.or_iff_not_imp_left.mpr (fun h1 h2 => hm (Or.inr (Or.inl (Decidable.not_not.mp h1)))))).trans ((up_b (Decidable.or_iff_not_imp_left.mpr (fun h1 h2 => hm (Or.inl ⟨Decidable.not_not.mp h1, h2⟩)))).trans (up_b (Decidable.or_iff_not_imp_left.mpr (fun h1 h2 => hm (Or.inl ⟨Decidable.not_not.mp h1, h2⟩)))))) ⟨by decide, by decide⟩ (Or.inr (Or.inr (Or.inr ⟨by first | assumption | omega, by first | exact q_9336c0ad2 h_200 | omega⟩)))
      · refine v_ic_gt_f (t := 23) c_205_16 rfl ⟨ha1.1, (Int.not_lt.mp h_200), by decide⟩ (q_iconst c_205_19 (q_goto (t := 24) c_205_20 rfl (q_iconst c_205_24 (q_iconst c_205_25 (v_cv c_205_26 km_8_203 rfl rfl (nb_ rfl) ⟨⟨rfl, rfl⟩, nb_ rfl, rfl⟩ (nb_ rfl) (nb_ rfl) (q_iload_n c_145_0 rfl (v_if_ne_t (t := 26) c_145_1 rfl (by decide) ?_)))))))
        refine q_aload_n c_145_26 rfl (v_gi (z := 0) (v := 0) c_145_27 kf_8_3 rfl (nb_ rfl) rfl rfl (up_e rfl) (v_if_ne_f (t := 37) c_145_30 rfl (by decide) (q_iconst c_145_33 (q_goto (t := 38) c_145_34 rfl (v_zret c_145_38 rfl (by decide) (bk_inl (v_zret c_205_29 rfl (by decide) ?_)))))))
        refine bk_inl (v_if_ne_t (t := 15) c_207_10 rfl (by decide) (q_aload_n c_207_15 rfl (q_iload_n c_207_16 rfl ?_)))
        have hI_207 := iw_41_0 (v := 0) hI ⟨by decide, by decide⟩
        refine v_cv c_207_17 km_8_207 rfl rfl (nb_ rfl) ⟨⟨rfl, rfl⟩, nb_ rfl, rfl⟩ (nb_ rfl) (nb_ rfl) (s_163 (a1 := a1) hI_207 (show 0 ≤ a1 ∧ a1 ≤ 600 from ⟨by first | exact q_720657ba9 h_184 | omega, by first | exact q_6d55548be h_200 | omega⟩) (fun c_208 hI_209 hF_210 h_211 => (bk_inl ?_)))
        have h_212 := ir_41_2 hI_209
        have h_213 := ir_41_3 hI_209
        have h_214 := ir_41_4 hI_209
        have h_215 := ir_41_5 hI_209
        have h_216 := ir_41_7 hI_209
        refine q_iconst c_207_20 (q_istore_n c_207_21 (nb_ rfl) (Wp_ls [(0, .ref 41), (1, vi a1), (2, vi 0)] (lsub_cons rfl (lsub_cons rfl (lsub_cons rfl lsub_nil))) ?_))
        exact (s_207_l (sc := sc) (d := d) hI ha1 K 1225).1 c_208 0 hI_209 (fun a j hm => (hF_210 a j (qv_6ad33b000 hm)).trans (up_b (Decidable.or_iff_not_imp_left.mpr (fun h1 h2 => hm (Or.inl ⟨Decidable.not_not.mp h1, h2⟩))))) ⟨by decide, by decide⟩ ⟨by first | exact q_59baff7b3 h_211 h_212 | omega, by first | exact q_720657ba9 h_184 | omega, by first | exact q_0325d56da h_193 | omega, by first | exact q_8be6814e3 h_200 | omega⟩ (by omega)

set_option maxRecDepth 100000 in
set_option maxHeartbeats 4000000 in
theorem s_208b_l {sc : List Int32} {d P Q : Nat} {c : ME} {Z : AR → Prop} (hI : Iv 58 (-1) P Q c) (hq0 : (c 41 35 ≤ 15)) (K : ∀ (c2 : ME) (y : Int), Iv 0 (-1) P Q c2 → (∀ (a : Nat) (j : Int), ¬ ((a = 41 ∧ j = 36) ∨ a = 58) → c2 a j = c a j) → (-1) ≤ y ∧ y ≤ 16 → ((y = c2 41 35)) → Z (.inl (some (vi y)), Wd P Q P P c2, 0, 0)) : ∀ n : Nat, (∀ (c2 : ME) (v1 : Int), Iv 58 (-1) P Q c2 → (∀ (a : Nat) (j : Int), ¬ ((a = 41 ∧ j = 36) ∨ a = 58) → c2 a j = c a j) → 0 ≤ v1 ∧ v1 ≤ 37 → (∀ j : Int, 0 ≤ j → j < v1 → c2 58 j = c 60 (37 * c 41 35 + j)) → 75 - 2 * v1 < (n : Int) → Wp sc (d + 7) 208 26 [(0, .ref 41), (1, vi v1)] [] (Wd P Q P P c2) 0 0 Z) := by
  intro n
  induction n with
  | zero => exact (by intro c2 v1 hI2 hF hv1 hx0 hm9; have hP := iv_P hI; have hQ := iv_Q hI; exfalso; omega)
  | succ n ih =>
    have hP := iv_P hI
    have hQ := iv_Q hI
    intro c2 v1 hI2 hF hv1 hx0 hm9
    have h_1 := ir_41_35 hI
    refine q_iload_n c_208_26 rfl (v_bip c_208_27 (by decide) ?_)
    by_cases h_2 : v1 ≥ 37
    · refine v_ic_ge_t (t := 58) c_208_29 rfl ⟨by decide, h_2, (Int.le_trans hv1.2 (by decide))⟩ (q_aload_n c_208_58 rfl (q_iconst c_208_59 (v_pi (z := 36) c_208_60 kf_8_188 rfl (nb_ rfl) rfl rfl rfl (by decide) (q_aload_n c_208_63 rfl ?_))))
      have kn_3 : Hid (c2 41 35 = c 41 35) := hF 41 35 (fun q => q.elim (fun h => absurd h.2 (ni rfl)) (fun h => absurd h (nn rfl)))
      refine v_gi (z := 35) (v := c 41 35) c_208_64 kf_8_182 rfl (nb_ rfl) rfl rfl ((up_n (by decide)).trans (hid kn_3)) (q_iret c_208_67 rfl ?_)
      have hI_4 := iw_41_36 (v := 0) hI2 ⟨by decide, by decide⟩
      have hI_5 := iv_close hI_4 (fun j hj => by
        have q9 : j % 4 = 0 ∧ 0 ≤ j ∧ j < 24 := hj
        have e9 : ∀ i : Int, 0 ≤ i → i < 37 → (up c2 41 36 0) 58 i = c 60 (37 * c 41 35 + i) := fun i h1 h2 => (up_c (by omega)).trans (hx0 i h1 (by omega))
        rw [e9 j (by omega) (by omega), e9 (j + 1) (by omega) (by omega), e9 (j + 2) (by omega) (by omega), e9 (j + 3) (by omega) (by omega), show 37 * c 41 35 + (j + 1) = 37 * c 41 35 + j + 1 by omega, show 37 * c 41 35 + (j + 2) = 37 * c 41 35 + j + 2 by omega, show 37 * c 41 35 + (j + 3) = 37 * c 41 35 + j + 3 by omega]
        exact iv_r hI 60 (37 * c 41 35 + j) (by rw [ri_60]; have h8 : (37 * c 41 35 + j) / 37 = c 41 35 := (by omega); omega) (by omega))
      have h_6 : (up c2 41 36 0) 41 35 = c 41 35 := ((up_n (by decide)).trans (hid kn_3))
      exact K (up c2 41 36 0) (c 41 35) hI_5 (fun a j hm => (up_b (Decidable.or_iff_not_imp_left.mpr (fun h1 h2 => hm (Or.inl ⟨Decidable.not_not.mp h1, h2⟩)))).trans (hF a j hm)) ⟨(Int.le_trans (by decide) h_1.1), h_1.2⟩ (by first | assumption | omega)
    · refine v_ic_ge_f (t := 58) c_208_29 rfl ⟨(Int.le_trans (by decide) hv1.1), (Int.not_le.mp h_2), by decide⟩ (q_aload_n c_208_32 rfl (v_gr (t := 58) c_208_33 kf_8_65 rfl (nb_ rfl) rfl (q_iload_n c_208_36 rfl (q_aload_n c_208_37 rfl (v_gr (t := 60) c_208_38 kf_8_71 rfl (nb_ rfl) rfl (v_bip c_208_41 (by decide) (q_aload_n c_208_43 rfl ?_)))))))
      have kn_7 : Hid (c2 41 35 = c 41 35) := hF 41 35 (fun q => q.elim (fun h => absurd h.2 (ni rfl)) (fun h => absurd h (nn rfl)))
      refine v_gi (z := 35) (v := c 41 35) c_208_44 kf_8_182 rfl (nb_ rfl) rfl rfl (hid kn_7) (v_imul (v := 37 * c 41 35) c_208_47 (by first | exact q_17d83ab33 | omega) (q_iload_n c_208_48 rfl (v_iadd (v := 37 * c 41 35 + v1) c_208_49 rfl ?_)))
      have h_8 := ir_60 hI (37 * c 41 35 + v1)
      have h_9 : v1 < 24 → 0 ≤ c 60 (37 * c 41 35 + v1) ∧ c 60 (37 * c 41 35 + v1) ≤ 9999 := fun q9 => ir_60_g hI (j := 37 * c 41 35 + v1) (by omega)
      have kn_10 : Hid (c2 60 (37 * c 41 35 + v1) = c 60 (37 * c 41 35 + v1)) := hF 60 (37 * c 41 35 + v1) (fun q => q.elim (fun h => absurd h.1 (nn rfl)) (fun h => absurd h (nn rfl)))
      refine v_ia (v := c 60 (37 * c 41 35 + v1)) c_208_50 rfl (by decide) (by decide) ⟨by first | exact q_6c1724e14 h_1 hv1 | omega, by first | exact q_d8bb91acd h_2 hq0 | omega⟩ (hid kn_10) (v_is c_208_51 rfl (by decide) (by decide) ⟨hv1.1, by first | exact q_3cc4a238e h_2 | omega⟩ (v_iinc (v := v1 + 1) c_208_52 rfl (nb_ rfl) rfl (q_goto (t := 26) c_208_55 rfl ?_)))
      have hI_11 := iw_row (a := 58) (j := v1) (v := c 60 (37 * c 41 35 + v1)) hI2 (by omega) (Or.inl rfl) ⟨by omega, by omega, by omega⟩
      refine Wp_ls [(0, .ref 41), (1, vi (v1 + 1))] (lsub_cons rfl (lsub_cons rfl lsub_nil)) ?_
      have hr_12 : ∀ j : Int, 0 ≤ j → j < v1 + 1 → (up c2 58 v1 (c 60 (37 * c 41 35 + v1))) 58 j = c 60 (37 * c 41 35 + j) := by
        intro j hj1 hj2
        by_cases e9 : j = v1
        · rw [show (up c2 58 v1 (c 60 (37 * c 41 35 + v1))) 58 j = c 60 (37 * c 41 35 + v1) from up_e e9, e9]
        · rw [show (up c2 58 v1 (c 60 (37 * c 41 35 + v1))) 58 j = c2 58 j from up_n e9]; exact hx0 j hj1 (by omega)
      exact ih (up c2 58 v1 (c 60 (37 * c 41 35 + v1))) (v1 + 1) hI_11 (fun a j hm => (up_b (Decidable.or_iff_not_imp_left.mpr (fun h1 h2 => hm (Or.inr (Decidable.not_not.mp h1))))).trans (hF a j hm)) ⟨by first | exact rgp_l hv1.1 (by decide) | omega, by first | exact q_6a0ddf4b6 h_2 | omega⟩ hr_12 (by omega)
set_option maxRecDepth 100000 in
set_option maxHeartbeats 4000000 in
theorem s_208b {sc : List Int32} {d P Q : Nat} {c : ME} {Z : AR → Prop} (hI : Iv 58 (-1) P Q c) (hq0 : (c 41 35 ≤ 15)) (K : ∀ (c2 : ME) (y : Int), Iv 0 (-1) P Q c2 → (∀ (a : Nat) (j : Int), ¬ ((a = 41 ∧ j = 36) ∨ a = 58) → c2 a j = c a j) → (-1) ≤ y ∧ y ≤ 16 → ((y = c2 41 35)) → Z (.inl (some (vi y)), Wd P Q P P c2, 0, 0)) : Wp sc (d + 7) 208 24 [(0, .ref 41)] [] (Wd P Q P P c) 0 0 Z := by
  have hP := iv_P hI
  have hQ := iv_Q hI
  have h_13 := ir_41_35 hI
  refine q_iconst c_208_24 (q_istore_n c_208_25 (nb_ rfl) (Wp_ls [(0, .ref 41), (1, vi 0)] (lsub_cons rfl (lsub_cons rfl lsub_nil)) ?_))
  have hr_14 : ∀ j : Int, 0 ≤ j → j < 0 → c 58 j = c 60 (37 * c 41 35 + j) := by
    intro j hj1 hj2
    omega
  exact (s_208b_l (sc := sc) (d := d) hI hq0 K 78) c 0 hI (fun a j hm => rfl) ⟨by decide, by decide⟩ hr_14 (by omega)
set_option maxRecDepth 100000 in
set_option maxHeartbeats 4000000 in
theorem s_208 {sc : List Int32} {d P Q : Nat} {c : ME} {Z : AR → Prop} (hI : Iv 0 (-1) P Q c)  (K : ∀ (c2 : ME) (y : Int), Iv 0 (-1) P Q c2 → (∀ (a : Nat) (j : Int), ¬ ((a = 41 ∧ j = 0) ∨ (a = 41 ∧ j = 35) ∨ (a = 41 ∧ j = 36) ∨ a = 58) → c2 a j = c a j) → (-1) ≤ y ∧ y ≤ 16 → ((c 41 35 = 0 ∧ c2 41 35 = 0 ∧ y = (-1)) ∨ (c 41 35 > 0 ∧ c2 41 35 = c 41 35 - 1 ∧ y = c2 41 35)) → Z (.inl (some (vi y)), Wd P Q P P c2, 0, 0)) : Wp sc (d + 7) 208 0 [(0, .ref 41)] [] (Wd P Q P P c) 0 0 Z := by
  have hP := iv_P hI
  have hQ := iv_Q hI
  refine q_aload_n c_208_0 rfl (q_iconst c_208_1 (v_pi (z := 0) c_208_2 kf_8_3 rfl (nb_ rfl) rfl rfl rfl (by decide) (q_aload_n c_208_5 rfl ?_)))
  have h_1 := ir_41_35 hI
  refine v_gi (z := 35) (v := c 41 35) c_208_6 kf_8_182 rfl (nb_ rfl) rfl rfl (up_n (by decide)) ?_
  by_cases h_2 : c 41 35 ≠ 0
  · refine v_if_ne_t (t := 14) c_208_9 rfl ⟨h_2, ⟨(Int.le_trans (by decide) h_1.1), (Int.le_trans h_1.2 (by decide))⟩, by decide, by decide⟩ (q_aload_n c_208_14 rfl (q_dup c_208_15 rfl (v_gi (z := 35) (v := c 41 35) c_208_16 kf_8_182 rfl (nb_ rfl) rfl rfl (up_n (by decide)) (q_iconst c_208_19 (v_isub (v := c 41 35 - 1) c_208_20 rfl (v_pi (z := 35) c_208_21 kf_8_182 rfl (nb_ rfl) rfl rfl rfl (by decide) ?_))))))
    have hI_3 := iw_41_0 (v := 0) hI ⟨by decide, by decide⟩
    have hI_4 := iw_41_35 (v := c 41 35 - 1) hI_3 ⟨by first | exact q_2a2e68b1b h_1 h_2 | omega, by first | exact rgm_h h_1.2 (by decide) | omega⟩
    have hw9 : (up (up c 41 0 0) 41 35 (c 41 35 - 1)) 41 35 = c 41 35 - 1 := (up_e rfl)
    refine Wp_ls [(0, .ref 41)] (lsub_cons rfl lsub_nil) ?_
    exact s_208b (iv_open hI_4) (by omega) (fun c9 y9 hI9 hF9 hy9 h9 => K c9 y9 hI9 (fun a j hm => (hF9 a j (by omega)).trans ((up_b (by omega)).trans (up_b (by omega)))) hy9 (by have h8 := hF9 41 35 (by omega); omega))
  · refine v_if_ne_f (t := 14) c_208_9 rfl (Decidable.not_not.mp h_2) (q_iconst c_208_12 (q_iret c_208_13 rfl ?_))
    have hI_5 := iw_41_0 (v := 0) hI ⟨by decide, by decide⟩
    have h_6 : (up c 41 0 0) 41 35 = c 41 35 := (up_n (by decide))
    exact K (up c 41 0 0) (-1) hI_5 (fun a j hm => up_b (Decidable.or_iff_not_imp_left.mpr (fun h1 h2 => hm (Or.inl ⟨Decidable.not_not.mp h1, h2⟩)))) ⟨by decide, by decide⟩ (Or.inl ⟨by first | exact q_bb0e0e122 h_1 h_2 | omega, by first | exact q_bb0e0e122 h_1 h_2 | omega, by first | assumption | omega⟩)

set_option maxRecDepth 100000 in
set_option maxHeartbeats 4000000 in
theorem s_209_l {sc : List Int32} {e : Int} {d u P Q : Nat} {c : ME} {Z : AR → Prop} (hI : Iv u e P Q c)  (K : ∀ (y : Int), (-2147483648) ≤ y ∧ y ≤ 2147483647 → Z (.inl (some (vi y)), Wd P Q P P c, 0, 0)) : ∀ n : Nat, (∀ (v1 : Int) (v2 : Int), (-2147483648) ≤ v1 ∧ v1 ≤ 2147483647 → 0 ≤ v2 ∧ v2 ≤ 6 → 13 - 2 * v2 < (n : Int) → Wp sc (d + 8) 209 4 [(0, .ref 41), (1, vi v1), (2, vi v2)] [] (Wd P Q P P c) 0 0 Z) := by
  intro n
  induction n with
  | zero => exact (by intro v1 v2 hv1 hv2 hm9; have hP := iv_P hI; have hQ := iv_Q hI; exfalso; omega)
  | succ n ih =>
    have hP := iv_P hI
    have hQ := iv_Q hI
    intro v1 v2 hv1 hv2 hm9
    refine q_iload_n c_209_4 rfl (q_aload_n c_209_5 rfl ?_)
    have h_1 := ir_41_20 hI
    refine v_gi (z := 20) (v := c 41 20) c_209_6 kf_8_157 rfl (nb_ rfl) rfl rfl rfl ?_
    by_cases h_2 : v2 ≥ c 41 20
    · refine v_ic_ge_t (t := 36) c_209_9 rfl ⟨(Int.le_trans (by decide) h_1.1), h_2, (Int.le_trans hv2.2 (by decide))⟩ (q_iload_n c_209_36 rfl (q_iret c_209_37 rfl ?_))
      exact K v1 hv1
    · refine v_ic_ge_f (t := 36) c_209_9 rfl ⟨(Int.le_trans (by decide) hv2.1), (Int.not_le.mp h_2), (Int.le_trans h_1.2 (by decide))⟩ (q_iload_n c_209_12 rfl (q_aload_n c_209_13 rfl (q_iload_n c_209_14 rfl ?_)))
      have h_3 := ir_59_g hI (j := 4 * v2) (by first | exact q_aa51b186e h_1 h_2 | omega)
      have h_4 := ir_59_g hI (j := 4 * v2 + 1) (by first | exact q_57851f9de h_1 h_2 | omega)
      have h_5 := ir_59_g hI (j := 4 * v2 + 2) (by first | exact q_7296e74e6 h_1 h_2 | omega)
      have h_6 := ir_59_g hI (j := 4 * v2 + 3) (by first | exact q_b15525c4c h_1 h_2 | omega)
      refine v_cv c_209_15 km_8_343 rfl rfl (nb_ rfl) ⟨⟨rfl, rfl⟩, nb_ rfl, rfl⟩ (nb_ rfl) (nb_ rfl) (s_187 (v1 := c 59 (4 * v2)) (v2 := c 59 (4 * v2 + 1)) (v3 := c 59 (4 * v2 + 2)) (v4 := c 59 (4 * v2 + 3)) (r := c 59 (4 * v2 + 1) + c 59 (4 * v2 + 2) + c 59 (4 * v2 + 3) + c 59 (4 * v2)) (a1 := v2) hI (show 0 ≤ v2 ∧ v2 ≤ 5 from ⟨hv2.1, by first | exact q_d63a8538e h_1 h_2 | omega⟩) (rfl) (rfl) (rfl) (rfl) (by omega) (bk_inl ?_))
      by_cases h_7 : c 59 (4 * v2 + 1) + c 59 (4 * v2 + 2) + c 59 (4 * v2 + 3) + c 59 (4 * v2) ≠ 0
      · refine v_if_ne_t (t := 27) c_209_18 rfl ⟨h_7, ⟨by first | exact q_e052ef40e h_3 h_4 h_5 h_6 | omega, by first | exact q_db9ef1f4a h_3 h_4 h_5 h_6 | omega⟩, by decide, by decide⟩ (q_iconst c_209_27 (v_iorx c_209_28 (fun y_8 hy_8 => (q_istore_n c_209_29 (nb_ rfl) (v_iinc (v := v2 + 1) c_209_30 rfl (nb_ rfl) rfl (q_goto (t := 4) c_209_33 rfl (Wp_ls [(0, .ref 41), (1, vi y_8), (2, vi (v2 + 1))] (lsub_cons rfl (lsub_cons rfl (lsub_cons rfl lsub_nil))) ?_)))))))
        exact ih y_8 (v2 + 1) hy_8 ⟨by first | exact rgp_l hv2.1 (by decide) | omega, by first | exact q_4a76cd9c7 h_1 h_2 | omega⟩ (by omega)
      · refine v_if_ne_f (t := 27) c_209_18 rfl (Decidable.not_not.mp h_7) (q_iconst c_209_21 (q_iload_n c_209_22 rfl (v_shl1 c_209_23 ⟨by omega, by omega⟩ (fun y_9 hy_9 => (q_goto (t := 28) c_209_24 rfl (v_iorx c_209_28 (fun y_10 hy_10 => (q_istore_n c_209_29 (nb_ rfl) (v_iinc (v := v2 + 1) c_209_30 rfl (nb_ rfl) rfl ?_)))))))))
        refine q_goto (t := 4) c_209_33 rfl (Wp_ls [(0, .ref 41), (1, vi y_10), (2, vi (v2 + 1))] (lsub_cons rfl (lsub_cons rfl (lsub_cons rfl lsub_nil))) ?_)
        exact ih y_10 (v2 + 1) hy_10 ⟨by first | exact rgp_l hv2.1 (by decide) | omega, by first | exact q_4a76cd9c7 h_1 h_2 | omega⟩ (by omega)
set_option maxRecDepth 100000 in
set_option maxHeartbeats 4000000 in
theorem s_209 {sc : List Int32} {e : Int} {d u P Q : Nat} {c : ME} {Z : AR → Prop} (hI : Iv u e P Q c)  (K : ∀ (y : Int), (-2147483648) ≤ y ∧ y ≤ 2147483647 → Z (.inl (some (vi y)), Wd P Q P P c, 0, 0)) : Wp sc (d + 8) 209 0 [(0, .ref 41)] [] (Wd P Q P P c) 0 0 Z := by
  have hP := iv_P hI
  have hQ := iv_Q hI
  refine q_iconst c_209_0 (q_istore_n c_209_1 (nb_ rfl) (q_iconst c_209_2 (q_istore_n c_209_3 (nb_ rfl) (Wp_ls [(0, .ref 41), (1, vi 0), (2, vi 0)] (lsub_cons rfl (lsub_cons rfl (lsub_cons rfl lsub_nil))) ?_))))
  exact (s_209_l (sc := sc) (d := d) hI K 16) 0 0 ⟨by decide, by decide⟩ ⟨by decide, by decide⟩ (by omega)

set_option maxRecDepth 100000 in
set_option maxHeartbeats 4000000 in
theorem s_210_l {sc : List Int32} {e : Int} {d u P Q : Nat} {c : ME} {Z : AR → Prop} (hI : Iv u e P Q c)  (K : ∀ (y : Int), (-2147483648) ≤ y ∧ y ≤ 2147483647 → Z (.inl (some (vi y)), Wd P Q P P c, 0, 0)) : ∀ n : Nat, (∀ (v1 : Int) (v2 : Int), (-2147483648) ≤ v1 ∧ v1 ≤ 2147483647 → 0 ≤ v2 ∧ v2 ≤ 4 → 9 - 2 * v2 < (n : Int) → Wp sc (d + 7) 210 4 [(0, .ref 41), (1, vi v1), (2, vi v2)] [] (Wd P Q P P c) 0 0 Z) := by
  intro n
  induction n with
  | zero => exact (by intro v1 v2 hv1 hv2 hm9; have hP := iv_P hI; have hQ := iv_Q hI; exfalso; omega)
  | succ n ih =>
    have hP := iv_P hI
    have hQ := iv_Q hI
    intro v1 v2 hv1 hv2 hm9
    refine q_iload_n c_210_4 rfl (q_aload_n c_210_5 rfl ?_)
    have h_1 := ir_41_22 hI
    refine v_gi (z := 22) (v := c 41 22) c_210_6 kf_8_163 rfl (nb_ rfl) rfl rfl rfl ?_
    by_cases h_2 : v2 ≥ c 41 22
    · refine v_ic_ge_t (t := 32) c_210_9 rfl ⟨(Int.le_trans (by decide) h_1.1), h_2, (Int.le_trans hv2.2 (by decide))⟩ (q_iload_n c_210_32 rfl (q_iret c_210_33 rfl ?_))
      exact K v1 hv1
    · refine v_ic_ge_f (t := 32) c_210_9 rfl ⟨(Int.le_trans (by decide) hv2.1), (Int.not_le.mp h_2), (Int.le_trans h_1.2 (by decide))⟩ (q_iload_n c_210_12 rfl (q_aload_n c_210_13 rfl (v_gr (t := 59) c_210_14 kf_8_68 rfl (nb_ rfl) rfl (v_bip c_210_17 (by decide) (q_iload_n c_210_19 rfl (v_iadd (v := v2 + 30) c_210_20 (by first | exact q_1025bcab1 | omega) ?_))))))
      have h_3 := ir_59 hI (v2 + 30)
      refine v_ia (v := c 59 (v2 + 30)) c_210_21 rfl (by decide) (by decide) ⟨by first | exact rgp_l hv2.1 (by decide) | omega, by first | exact q_9750a9c5c hv2 | omega⟩ rfl (q_iload_n c_210_22 rfl (v_ishlx c_210_23 (fun y_4 hy_4 => (v_iorx c_210_24 (fun y_5 hy_5 => (q_istore_n c_210_25 (nb_ rfl) (v_iinc (v := v2 + 1) c_210_26 rfl (nb_ rfl) rfl (q_goto (t := 4) c_210_29 rfl (Wp_ls [(0, .ref 41), (1, vi y_5), (2, vi (v2 + 1))] (lsub_cons rfl (lsub_cons rfl (lsub_cons rfl lsub_nil))) ?_)))))))))
      exact ih y_5 (v2 + 1) hy_5 ⟨by first | exact rgp_l hv2.1 (by decide) | omega, by first | exact q_8e33475e7 h_1 h_2 | omega⟩ (by omega)
set_option maxRecDepth 100000 in
set_option maxHeartbeats 4000000 in
theorem s_210 {sc : List Int32} {e : Int} {d u P Q : Nat} {c : ME} {Z : AR → Prop} (hI : Iv u e P Q c)  (K : ∀ (y : Int), (-2147483648) ≤ y ∧ y ≤ 2147483647 → Z (.inl (some (vi y)), Wd P Q P P c, 0, 0)) : Wp sc (d + 7) 210 0 [(0, .ref 41)] [] (Wd P Q P P c) 0 0 Z := by
  have hP := iv_P hI
  have hQ := iv_Q hI
  refine q_iconst c_210_0 (q_istore_n c_210_1 (nb_ rfl) (q_iconst c_210_2 (q_istore_n c_210_3 (nb_ rfl) (Wp_ls [(0, .ref 41), (1, vi 0), (2, vi 0)] (lsub_cons rfl (lsub_cons rfl (lsub_cons rfl lsub_nil))) ?_))))
  exact (s_210_l (sc := sc) (d := d) hI K 12) 0 0 ⟨by decide, by decide⟩ ⟨by decide, by decide⟩ (by omega)

set_option maxRecDepth 100000 in
set_option maxHeartbeats 4000000 in
theorem s_211 {sc : List Int32} {d P Q : Nat} {c : ME} {a1 : Int} {Z : AR → Prop} (hI : Iv 0 (-1) P Q c) (ha1 : (-2147483648) ≤ a1 ∧ a1 ≤ 2147483647) (K : ∀ (c2 : ME) (y : Int), Iv 0 (-1) P Q c2 → (∀ (a : Nat) (j : Int), ¬ ((a = 41 ∧ j = 0) ∨ a = 42 ∨ a = 59) → c2 a j = c a j) → (-2147483648) ≤ y ∧ y ≤ 2147483647 → Z (.inl (some (vi y)), Wd P Q P P c2, 0, 0)) : Wp sc (d + 9) 211 0 [(0, .ref 41), (1, vi a1)] [] (Wd P Q P P c) 0 0 Z := by
  have hP := iv_P hI
  have hQ := iv_Q hI
  refine q_aload_n c_211_0 rfl (q_iconst c_211_1 (v_pi (z := 0) c_211_2 kf_8_3 rfl (nb_ rfl) rfl rfl rfl (by decide) (q_aload_n c_211_5 rfl (q_iload_n c_211_6 rfl (q_iconst c_211_7 (v_bip c_211_8 (by decide) (q_call c_211_10 rfl rfl rfl ?_)))))))
  refine q_iload_n c_146_0 rfl (q_iload_n c_146_1 rfl ?_)
  by_cases h_1 : a1 < 0
  · refine v_ic_lt_t (t := 14) c_146_2 rfl ⟨ha1.1, h_1, by decide⟩ (q_iconst c_146_14 (v_zret c_146_15 rfl (by decide) (bk_inl (q_iconst c_211_13 (q_iconst c_211_14 (v_cv c_211_15 km_8_203 rfl rfl (nb_ rfl) ⟨⟨rfl, rfl⟩, nb_ rfl, rfl⟩ (nb_ rfl) (nb_ rfl) (q_iload_n c_145_0 rfl ?_)))))))
    refine v_if_ne_f (t := 26) c_145_1 rfl (by decide) (q_aload_n c_145_4 rfl (v_gi (z := 0) (v := 0) c_145_5 kf_8_3 rfl (nb_ rfl) rfl rfl (up_e rfl) (v_if_ne_f (t := 26) c_145_8 rfl (by decide) (q_aload_n c_145_11 rfl (q_iload_n c_145_12 rfl (v_pi (z := 0) c_145_13 kf_8_3 rfl (nb_ rfl) rfl rfl rfl (by decide) (q_aload_n c_145_16 rfl ?_)))))))
    refine v_gr (t := 42) c_145_17 kf_8_7 rfl (nb_ rfl) rfl (q_iload_n c_145_20 rfl (q_dup2 c_145_21 ⟨rfl, rfl⟩ ?_))
    have h_2 := ir_42 hI 1
    refine v_ia (v := c 42 1) c_145_22 rfl (by decide) (by decide) (by decide) ((up_c (nn rfl)).trans (up_c (nn rfl))) (q_iconst c_145_23 (v_iadd (v := c 42 1 + 1) c_145_24 rfl (v_nrm (fun y_3 hy_3 => (v_is c_145_25 rfl (by decide) (by decide) (by decide) (q_aload_n c_145_26 rfl (v_gi (z := 0) (v := 1) c_145_27 kf_8_3 rfl (nb_ rfl) rfl rfl ((up_c (nn rfl)).trans (up_e rfl)) (v_if_ne_t (t := 37) c_145_30 rfl (by decide) ?_))))))))
    refine q_iconst c_145_37 (v_zret c_145_38 rfl (by decide) (bk_inl (v_if_ne_f (t := 23) c_211_18 rfl (by decide) (q_iconst c_211_21 (q_iret c_211_22 rfl ?_)))))
    have hI_4 := iw_41_0 (v := 0) hI ⟨by decide, by decide⟩
    have hI_5 := iw_41_0 (v := 1) hI_4 ⟨by decide, by decide⟩
    have hI_6 := iw_42 (j := 1) (v := y_3) hI_5 ⟨hy_3.1, hy_3.2⟩
    exact K (up (up (up c 41 0 0) 41 0 1) 42 1 y_3) 0 hI_6 (fun a j hm => (up_b (Decidable.or_iff_not_imp_left.mpr (fun h1 h2 => hm (Or.inr (Or.inl (Decidable.not_not.mp h1)))))).trans ((up_b (Decidable.or_iff_not_imp_left.mpr (fun h1 h2 => hm (Or.inl ⟨Decidable.not_not.mp h1, h2⟩)))).trans (up_b (Decidable.or_iff_not_imp_left.mpr (fun h1 h2 => hm (Or.inl ⟨Decidable.not_not.mp h1, h2⟩)))))) ⟨by decide, by decide⟩
  · refine v_ic_lt_f (t := 14) c_146_2 rfl ⟨by decide, (Int.not_lt.mp h_1), ha1.2⟩ (q_iload_n c_146_5 rfl (q_iload_n c_146_6 rfl ?_))
    by_cases h_7 : a1 > 12
    · refine v_ic_gt_t (t := 14) c_146_7 rfl ⟨by decide, h_7, ha1.2⟩ (q_iconst c_146_14 (v_zret c_146_15 rfl (by decide) (bk_inl (q_iconst c_211_13 (q_iconst c_211_14 (v_cv c_211_15 km_8_203 rfl rfl (nb_ rfl) ⟨⟨rfl, rfl⟩, nb_ rfl, rfl⟩ (nb_ rfl) (nb_ rfl) (q_iload_n c_145_0 rfl ?_)))))))
      refine v_if_ne_f (t := 26) c_145_1 rfl (by decide) (q_aload_n c_145_4 rfl (v_gi (z := 0) (v := 0) c_145_5 kf_8_3 rfl (nb_ rfl) rfl rfl (up_e rfl) (v_if_ne_f (t := 26) c_145_8 rfl (by decide) (q_aload_n c_145_11 rfl (q_iload_n c_145_12 rfl (v_pi (z := 0) c_145_13 kf_8_3 rfl (nb_ rfl) rfl rfl rfl (by decide) (q_aload_n c_145_16 rfl ?_)))))))
      refine v_gr (t := 42) c_145_17 kf_8_7 rfl (nb_ rfl) rfl (q_iload_n c_145_20 rfl (q_dup2 c_145_21 ⟨rfl, rfl⟩ ?_))
      have h_8 := ir_42 hI 1
      refine v_ia (v := c 42 1) c_145_22 rfl (by decide) (by decide) (by decide) ((up_c (nn rfl)).trans (up_c (nn rfl))) (q_iconst c_145_23 (v_iadd (v := c 42 1 + 1) c_145_24 rfl (v_nrm (fun y_9 hy_9 => (v_is c_145_25 rfl (by decide) (by decide) (by decide) (q_aload_n c_145_26 rfl (v_gi (z := 0) (v := 1) c_145_27 kf_8_3 rfl (nb_ rfl) rfl rfl ((up_c (nn rfl)).trans (up_e rfl)) (v_if_ne_t (t := 37) c_145_30 rfl (by decide) ?_))))))))
      refine q_iconst c_145_37 (v_zret c_145_38 rfl (by decide) (bk_inl (v_if_ne_f (t := 23) c_211_18 rfl (by decide) (q_iconst c_211_21 (q_iret c_211_22 rfl ?_)))))
      have hI_10 := iw_41_0 (v := 0) hI ⟨by decide, by decide⟩
      have hI_11 := iw_41_0 (v := 1) hI_10 ⟨by decide, by decide⟩
      have hI_12 := iw_42 (j := 1) (v := y_9) hI_11 ⟨hy_9.1, hy_9.2⟩
      exact K (up (up (up c 41 0 0) 41 0 1) 42 1 y_9) 0 hI_12 (fun a j hm => (up_b (Decidable.or_iff_not_imp_left.mpr (fun h1 h2 => hm (Or.inr (Or.inl (Decidable.not_not.mp h1)))))).trans ((up_b (Decidable.or_iff_not_imp_left.mpr (fun h1 h2 => hm (Or.inl ⟨Decidable.not_not.mp h1, h2⟩)))).trans (up_b (Decidable.or_iff_not_imp_left.mpr (fun h1 h2 => hm (Or.inl ⟨Decidable.not_not.mp h1, h2⟩)))))) ⟨by decide, by decide⟩
    · refine v_ic_gt_f (t := 14) c_146_7 rfl ⟨ha1.1, (Int.not_lt.mp h_7), by decide⟩ (q_iconst c_146_10 (q_goto (t := 15) c_146_11 rfl (v_zret c_146_15 rfl (by decide) (bk_inl (q_iconst c_211_13 (q_iconst c_211_14 (v_cv c_211_15 km_8_203 rfl rfl (nb_ rfl) ⟨⟨rfl, rfl⟩, nb_ rfl, rfl⟩ (nb_ rfl) (nb_ rfl) ?_)))))))
      refine q_iload_n c_145_0 rfl (v_if_ne_t (t := 26) c_145_1 rfl (by decide) (q_aload_n c_145_26 rfl (v_gi (z := 0) (v := 0) c_145_27 kf_8_3 rfl (nb_ rfl) rfl rfl (up_e rfl) (v_if_ne_f (t := 37) c_145_30 rfl (by decide) (q_iconst c_145_33 (q_goto (t := 38) c_145_34 rfl (v_zret c_145_38 rfl (by decide) ?_)))))))
      refine bk_inl (v_if_ne_t (t := 23) c_211_18 rfl (by decide) (q_aload_n c_211_23 rfl ?_))
      have hI_13 := iw_41_0 (v := 0) hI ⟨by decide, by decide⟩
      refine v_cv c_211_24 km_8_317 rfl rfl (nb_ rfl) ⟨⟨rfl, rfl⟩, nb_ rfl, rfl⟩ (nb_ rfl) (nb_ rfl) (s_186 hI_13 (fun c_14 hI_15 hF_16 => (bk_inl (q_iload_n c_211_27 rfl (q_iconst c_211_28 ?_)))))
      by_cases h_17 : a1 ≥ 4
      · refine v_ic_ge_t (t := 72) c_211_29 rfl ⟨by decide, h_17, ha1.2⟩ (q_iload_n c_211_72 rfl (v_bip c_211_73 (by decide) ?_))
        by_cases h_18 : a1 ≥ 8
        · refine v_ic_ge_t (t := 119) c_211_75 rfl ⟨by decide, h_18, ha1.2⟩ (q_iload_n c_211_119 rfl (v_bip c_211_120 (by decide) ?_))
          by_cases h_19 : a1 ≥ 10
          · refine v_ic_ge_t (t := 143) c_211_122 rfl ⟨by decide, h_19, ha1.2⟩ (q_iload_n c_211_143 rfl (v_bip c_211_144 (by decide) ?_))
            by_cases h_20 : a1 ≠ 10
            · refine v_ic_ne_t (t := 156) c_211_146 rfl ⟨h_20, ⟨ha1.1, ha1.2⟩, by decide, by decide⟩ (q_iload_n c_211_156 rfl (v_bip c_211_157 (by decide) ?_))
              by_cases h_21 : a1 ≠ 11
              · refine v_ic_ne_t (t := 169) c_211_159 rfl ⟨h_21, ⟨ha1.1, ha1.2⟩, by decide, by decide⟩ (q_aload_n c_211_169 rfl ?_)
                have h_22 := ir_41_48 hI
                have kn_23 : Hid (c_14 41 48 = c 41 48) := (hF_16 41 48 (fun h => absurd h (nn rfl))).trans (up_n (by decide))
                refine v_gi (z := 48) (v := c 41 48) c_211_170 kf_8_179 rfl (nb_ rfl) rfl rfl (hid kn_23) (q_iret c_211_173 rfl ?_)
                exact K c_14 (c 41 48) hI_15 (fun a j hm => (hF_16 a j (fun h => hm (Or.inr (Or.inr h)))).trans (up_b (Decidable.or_iff_not_imp_left.mpr (fun h1 h2 => hm (Or.inl ⟨Decidable.not_not.mp h1, h2⟩))))) ⟨by first | exact q_cc1935a2a h_22 | omega, by first | exact q_4e52e4576 h_22 | omega⟩
              · refine v_ic_ne_f (t := 169) c_211_159 rfl (Decidable.not_not.mp h_21) (q_aload_n c_211_162 rfl ?_)
                have h_24 := ir_41_47 hI
                have kn_25 : Hid (c_14 41 47 = c 41 47) := (hF_16 41 47 (fun h => absurd h (nn rfl))).trans (up_n (by decide))
                refine v_gi (z := 47) (v := c 41 47) c_211_163 kf_8_176 rfl (nb_ rfl) rfl rfl (hid kn_25) (q_goto (t := 173) c_211_166 rfl (q_iret c_211_173 rfl ?_))
                exact K c_14 (c 41 47) hI_15 (fun a j hm => (hF_16 a j (fun h => hm (Or.inr (Or.inr h)))).trans (up_b (Decidable.or_iff_not_imp_left.mpr (fun h1 h2 => hm (Or.inl ⟨Decidable.not_not.mp h1, h2⟩))))) ⟨by first | exact q_ad61fcb20 h_24 | omega, by first | exact q_68855c780 h_24 | omega⟩
            · refine v_ic_ne_f (t := 156) c_211_146 rfl (Decidable.not_not.mp h_20) (q_aload_n c_211_149 rfl ?_)
              have h_26 := ir_41_36 hI
              have kn_27 : Hid (c_14 41 36 = c 41 36) := (hF_16 41 36 (fun h => absurd h (nn rfl))).trans (up_n (by decide))
              refine v_gi (z := 36) (v := c 41 36) c_211_150 kf_8_188 rfl (nb_ rfl) rfl rfl (hid kn_27) (q_goto (t := 173) c_211_153 rfl (q_iret c_211_173 rfl ?_))
              exact K c_14 (c 41 36) hI_15 (fun a j hm => (hF_16 a j (fun h => hm (Or.inr (Or.inr h)))).trans (up_b (Decidable.or_iff_not_imp_left.mpr (fun h1 h2 => hm (Or.inl ⟨Decidable.not_not.mp h1, h2⟩))))) ⟨by first | exact q_cc1935a2a h_26 | omega, by first | exact q_4e52e4576 h_26 | omega⟩
          · refine v_ic_ge_f (t := 143) c_211_122 rfl ⟨ha1.1, (Int.not_le.mp h_19), by decide⟩ (q_iload_n c_211_125 rfl (v_bip c_211_126 (by decide) ?_))
            by_cases h_28 : a1 ≠ 8
            · refine v_ic_ne_t (t := 138) c_211_128 rfl ⟨h_28, ⟨ha1.1, ha1.2⟩, by decide, by decide⟩ (q_aload_n c_211_138 rfl (v_cv c_211_139 km_8_393 rfl rfl (nb_ rfl) ⟨⟨rfl, rfl⟩, nb_ rfl, rfl⟩ (nb_ rfl) (nb_ rfl) (s_210 hI_15 (fun y_29 hy_29 => (bk_inl (q_iret c_211_142 rfl ?_))))))
              exact K c_14 y_29 hI_15 (fun a j hm => (hF_16 a j (fun h => hm (Or.inr (Or.inr h)))).trans (up_b (Decidable.or_iff_not_imp_left.mpr (fun h1 h2 => hm (Or.inl ⟨Decidable.not_not.mp h1, h2⟩))))) hy_29
            · refine v_ic_ne_f (t := 138) c_211_128 rfl (Decidable.not_not.mp h_28) (q_aload_n c_211_131 rfl (v_cv c_211_132 km_8_390 rfl rfl (nb_ rfl) ⟨⟨rfl, rfl⟩, nb_ rfl, rfl⟩ (nb_ rfl) (nb_ rfl) (s_209 hI_15 (fun y_30 hy_30 => (bk_inl (q_goto (t := 142) c_211_135 rfl (q_iret c_211_142 rfl ?_)))))))
              exact K c_14 y_30 hI_15 (fun a j hm => (hF_16 a j (fun h => hm (Or.inr (Or.inr h)))).trans (up_b (Decidable.or_iff_not_imp_left.mpr (fun h1 h2 => hm (Or.inl ⟨Decidable.not_not.mp h1, h2⟩))))) hy_30
        · refine v_ic_ge_f (t := 119) c_211_75 rfl ⟨ha1.1, (Int.not_le.mp h_18), by decide⟩ (q_iload_n c_211_78 rfl (q_iconst c_211_79 ?_))
          by_cases h_31 : a1 ≠ 5
          · refine v_ic_ne_t (t := 90) c_211_80 rfl ⟨h_31, ⟨ha1.1, ha1.2⟩, by decide, by decide⟩ (q_aload_n c_211_90 rfl (v_gr (t := 59) c_211_91 kf_8_68 rfl (nb_ rfl) rfl (q_iload_n c_211_94 rfl (q_iconst c_211_95 ?_))))
            by_cases h_32 : a1 ≠ 4
            · refine v_ic_ne_t (t := 104) c_211_96 rfl ⟨h_32, ⟨ha1.1, ha1.2⟩, by decide, by decide⟩ (q_iload_n c_211_104 rfl (v_bip c_211_105 (by decide) ?_))
              by_cases h_33 : a1 ≠ 6
              · refine v_ic_ne_t (t := 115) c_211_107 rfl ⟨h_33, ⟨ha1.1, ha1.2⟩, by decide, by decide⟩ (v_bip c_211_115 (by decide) ?_)
                have h_34 := ir_59 hI_15 36
                refine v_ia (v := c_14 59 36) c_211_117 rfl (by decide) (by decide) (by decide) rfl (q_iret c_211_118 rfl ?_)
                exact K c_14 (c_14 59 36) hI_15 (fun a j hm => (hF_16 a j (fun h => hm (Or.inr (Or.inr h)))).trans (up_b (Decidable.or_iff_not_imp_left.mpr (fun h1 h2 => hm (Or.inl ⟨Decidable.not_not.mp h1, h2⟩))))) h_34
              · refine v_ic_ne_f (t := 115) c_211_107 rfl (Decidable.not_not.mp h_33) (v_bip c_211_110 (by decide) (q_goto (t := 117) c_211_112 rfl ?_))
                have h_35 := ir_59 hI_15 35
                refine v_ia (v := c_14 59 35) c_211_117 rfl (by decide) (by decide) (by decide) rfl (q_iret c_211_118 rfl ?_)
                exact K c_14 (c_14 59 35) hI_15 (fun a j hm => (hF_16 a j (fun h => hm (Or.inr (Or.inr h)))).trans (up_b (Decidable.or_iff_not_imp_left.mpr (fun h1 h2 => hm (Or.inl ⟨Decidable.not_not.mp h1, h2⟩))))) h_35
            · refine v_ic_ne_f (t := 104) c_211_96 rfl (Decidable.not_not.mp h_32) (v_bip c_211_99 (by decide) (q_goto (t := 117) c_211_101 rfl ?_))
              have h_36 := ir_59 hI_15 34
              refine v_ia (v := c_14 59 34) c_211_117 rfl (by decide) (by decide) (by decide) rfl (q_iret c_211_118 rfl ?_)
              exact K c_14 (c_14 59 34) hI_15 (fun a j hm => (hF_16 a j (fun h => hm (Or.inr (Or.inr h)))).trans (up_b (Decidable.or_iff_not_imp_left.mpr (fun h1 h2 => hm (Or.inl ⟨Decidable.not_not.mp h1, h2⟩))))) h_36
          · refine v_ic_ne_f (t := 90) c_211_80 rfl (Decidable.not_not.mp h_31) (q_aload_n c_211_83 rfl (v_cv c_211_84 km_8_387 rfl rfl (nb_ rfl) ⟨⟨rfl, rfl⟩, nb_ rfl, rfl⟩ (nb_ rfl) (nb_ rfl) (s_203 hI_15 (fun y_37 hy_37 => (bk_inl (q_goto (t := 118) c_211_87 rfl (q_iret c_211_118 rfl ?_)))))))
            exact K c_14 y_37 hI_15 (fun a j hm => (hF_16 a j (fun h => hm (Or.inr (Or.inr h)))).trans (up_b (Decidable.or_iff_not_imp_left.mpr (fun h1 h2 => hm (Or.inl ⟨Decidable.not_not.mp h1, h2⟩))))) hy_37
      · refine v_ic_ge_f (t := 72) c_211_29 rfl ⟨ha1.1, (Int.not_le.mp h_17), by decide⟩ (q_iload_n c_211_32 rfl ?_)
        by_cases h_38 : a1 ≠ 0
        · refine v_if_ne_t (t := 43) c_211_33 rfl ⟨h_38, ⟨ha1.1, ha1.2⟩, by decide, by decide⟩ (q_iload_n c_211_43 rfl (q_iconst c_211_44 ?_))
          by_cases h_39 : a1 ≠ 1
          · refine v_ic_ne_t (t := 55) c_211_45 rfl ⟨h_39, ⟨ha1.1, ha1.2⟩, by decide, by decide⟩ (q_iload_n c_211_55 rfl (q_iconst c_211_56 ?_))
            by_cases h_40 : a1 ≠ 2
            · refine v_ic_ne_t (t := 67) c_211_57 rfl ⟨h_40, ⟨ha1.1, ha1.2⟩, by decide, by decide⟩ (q_aload_n c_211_67 rfl ?_)
              have h_41 := ir_41_23 hI
              have kn_42 : Hid (c_14 41 23 = c 41 23) := (hF_16 41 23 (fun h => absurd h (nn rfl))).trans (up_n (by decide))
              refine v_gi (z := 23) (v := c 41 23) c_211_68 kf_8_166 rfl (nb_ rfl) rfl rfl (hid kn_42) (q_iret c_211_71 rfl ?_)
              exact K c_14 (c 41 23) hI_15 (fun a j hm => (hF_16 a j (fun h => hm (Or.inr (Or.inr h)))).trans (up_b (Decidable.or_iff_not_imp_left.mpr (fun h1 h2 => hm (Or.inl ⟨Decidable.not_not.mp h1, h2⟩))))) ⟨by first | exact q_fe18d6d95 h_41 | omega, by first | exact q_5d4e5294a h_41 | omega⟩
            · refine v_ic_ne_f (t := 67) c_211_57 rfl (Decidable.not_not.mp h_40) (q_aload_n c_211_60 rfl ?_)
              have h_43 := ir_41_22 hI
              have kn_44 : Hid (c_14 41 22 = c 41 22) := (hF_16 41 22 (fun h => absurd h (nn rfl))).trans (up_n (by decide))
              refine v_gi (z := 22) (v := c 41 22) c_211_61 kf_8_163 rfl (nb_ rfl) rfl rfl (hid kn_44) (q_goto (t := 71) c_211_64 rfl (q_iret c_211_71 rfl ?_))
              exact K c_14 (c 41 22) hI_15 (fun a j hm => (hF_16 a j (fun h => hm (Or.inr (Or.inr h)))).trans (up_b (Decidable.or_iff_not_imp_left.mpr (fun h1 h2 => hm (Or.inl ⟨Decidable.not_not.mp h1, h2⟩))))) ⟨by first | exact q_0bfe68f8e h_43 | omega, by first | exact q_82d4f69ff h_43 | omega⟩
          · refine v_ic_ne_f (t := 55) c_211_45 rfl (Decidable.not_not.mp h_39) (q_aload_n c_211_48 rfl ?_)
            have h_45 := ir_41_21 hI
            have kn_46 : Hid (c_14 41 21 = c 41 21) := (hF_16 41 21 (fun h => absurd h (nn rfl))).trans (up_n (by decide))
            refine v_gi (z := 21) (v := c 41 21) c_211_49 kf_8_160 rfl (nb_ rfl) rfl rfl (hid kn_46) (q_goto (t := 71) c_211_52 rfl (q_iret c_211_71 rfl ?_))
            exact K c_14 (c 41 21) hI_15 (fun a j hm => (hF_16 a j (fun h => hm (Or.inr (Or.inr h)))).trans (up_b (Decidable.or_iff_not_imp_left.mpr (fun h1 h2 => hm (Or.inl ⟨Decidable.not_not.mp h1, h2⟩))))) ⟨by first | exact q_0bfe68f8e h_45 | omega, by first | exact q_82d4f69ff h_45 | omega⟩
        · refine v_if_ne_f (t := 43) c_211_33 rfl (Decidable.not_not.mp h_38) (q_aload_n c_211_36 rfl ?_)
          have h_47 := ir_41_20 hI
          have kn_48 : Hid (c_14 41 20 = c 41 20) := (hF_16 41 20 (fun h => absurd h (nn rfl))).trans (up_n (by decide))
          refine v_gi (z := 20) (v := c 41 20) c_211_37 kf_8_157 rfl (nb_ rfl) rfl rfl (hid kn_48) (q_goto (t := 71) c_211_40 rfl (q_iret c_211_71 rfl ?_))
          exact K c_14 (c 41 20) hI_15 (fun a j hm => (hF_16 a j (fun h => hm (Or.inr (Or.inr h)))).trans (up_b (Decidable.or_iff_not_imp_left.mpr (fun h1 h2 => hm (Or.inl ⟨Decidable.not_not.mp h1, h2⟩))))) ⟨by first | exact q_730ab5169 h_47 | omega, by first | exact q_b289b7db2 h_47 | omega⟩

set_option maxRecDepth 100000 in
set_option maxHeartbeats 4000000 in
theorem s_213 {sc : List Int32} {d P Q : Nat} {c : ME} {a1 : Int} {a2 : Int} {Z : AR → Prop} (hI : Iv 0 (-1) P Q c) (ha1 : (-2147483648) ≤ a1 ∧ a1 ≤ 2147483647) (ha2 : (-2147483648) ≤ a2 ∧ a2 ≤ 2147483647) (K : ∀ (c2 : ME) (y : Int), Iv 0 (-1) P Q c2 → (∀ (a : Nat) (j : Int), ¬ ((a = 41 ∧ j = 0) ∨ a = 42 ∨ a = 59) → c2 a j = c a j) → (-2147483648) ≤ y ∧ y ≤ 2147483647 → Z (.inl (some (vi y)), Wd P Q P P c2, 0, 0)) : Wp sc (d + 9) 213 0 [(0, .ref 41), (1, vi a1), (2, vi a2)] [] (Wd P Q P P c) 0 0 Z := by
  have hP := iv_P hI
  have hQ := iv_Q hI
  refine q_aload_n c_213_0 rfl (q_iconst c_213_1 (v_pi (z := 0) c_213_2 kf_8_3 rfl (nb_ rfl) rfl rfl rfl (by decide) (q_aload_n c_213_5 rfl (q_iload_n c_213_6 rfl (q_aload_n c_213_7 rfl ?_)))))
  have h_1 := ir_41_20 hI
  refine v_gi (z := 20) (v := c 41 20) c_213_8 kf_8_157 rfl (nb_ rfl) rfl rfl (up_n (by decide)) (v_cv c_213_11 km_8_396 rfl rfl (nb_ rfl) ⟨⟨rfl, rfl⟩, nb_ rfl, rfl⟩ (nb_ rfl) (nb_ rfl) (q_aload_n c_212_0 rfl (q_iload_n c_212_1 rfl (q_iconst c_212_2 (q_iload_n c_212_3 rfl (q_iconst c_212_4 (v_isub (v := c 41 20 - 1) c_212_5 rfl ?_)))))))
  refine q_call c_212_6 rfl rfl rfl (q_iload_n c_146_0 rfl (q_iload_n c_146_1 rfl ?_))
  by_cases h_2 : a1 < 0
  · refine v_ic_lt_t (t := 14) c_146_2 rfl ⟨ha1.1, h_2, by decide⟩ (q_iconst c_146_14 (v_zret c_146_15 rfl (by decide) (bk_inl (q_iconst c_212_9 (q_iconst c_212_10 (v_cv c_212_11 km_8_203 rfl rfl (nb_ rfl) ⟨⟨rfl, rfl⟩, nb_ rfl, rfl⟩ (nb_ rfl) (nb_ rfl) (q_iload_n c_145_0 rfl ?_)))))))
    refine v_if_ne_f (t := 26) c_145_1 rfl (by decide) (q_aload_n c_145_4 rfl (v_gi (z := 0) (v := 0) c_145_5 kf_8_3 rfl (nb_ rfl) rfl rfl (up_e rfl) (v_if_ne_f (t := 26) c_145_8 rfl (by decide) (q_aload_n c_145_11 rfl (q_iload_n c_145_12 rfl (v_pi (z := 0) c_145_13 kf_8_3 rfl (nb_ rfl) rfl rfl rfl (by decide) (q_aload_n c_145_16 rfl ?_)))))))
    refine v_gr (t := 42) c_145_17 kf_8_7 rfl (nb_ rfl) rfl (q_iload_n c_145_20 rfl (q_dup2 c_145_21 ⟨rfl, rfl⟩ ?_))
    have h_3 := ir_42 hI 0
    refine v_ia (v := c 42 0) c_145_22 rfl (by decide) (by decide) (by decide) ((up_c (nn rfl)).trans (up_c (nn rfl))) (q_iconst c_145_23 (v_iadd (v := c 42 0 + 1) c_145_24 rfl (v_nrm (fun y_4 hy_4 => (v_is c_145_25 rfl (by decide) (by decide) (by decide) (q_aload_n c_145_26 rfl (v_gi (z := 0) (v := 1) c_145_27 kf_8_3 rfl (nb_ rfl) rfl rfl ((up_c (nn rfl)).trans (up_e rfl)) (v_if_ne_t (t := 37) c_145_30 rfl (by decide) ?_))))))))
    refine q_iconst c_145_37 (v_zret c_145_38 rfl (by decide) (bk_inl (v_zret c_212_14 rfl (by decide) (bk_inl (v_if_eq_t (t := 33) c_213_14 rfl (by decide) (q_iconst c_213_33 (q_iret c_213_34 rfl ?_)))))))
    have hI_5 := iw_41_0 (v := 0) hI ⟨by decide, by decide⟩
    have hI_6 := iw_41_0 (v := 1) hI_5 ⟨by decide, by decide⟩
    have hI_7 := iw_42 (j := 0) (v := y_4) hI_6 ⟨hy_4.1, hy_4.2⟩
    exact K (up (up (up c 41 0 0) 41 0 1) 42 0 y_4) 0 hI_7 (fun a j hm => (up_b (Decidable.or_iff_not_imp_left.mpr (fun h1 h2 => hm (Or.inr (Or.inl (Decidable.not_not.mp h1)))))).trans ((up_b (Decidable.or_iff_not_imp_left.mpr (fun h1 h2 => hm (Or.inl ⟨Decidable.not_not.mp h1, h2⟩)))).trans (up_b (Decidable.or_iff_not_imp_left.mpr (fun h1 h2 => hm (Or.inl ⟨Decidable.not_not.mp h1, h2⟩)))))) ⟨by decide, by decide⟩
  · refine v_ic_lt_f (t := 14) c_146_2 rfl ⟨by decide, (Int.not_lt.mp h_2), ha1.2⟩ (q_iload_n c_146_5 rfl (q_iload_n c_146_6 rfl ?_))
    by_cases h_8 : a1 > c 41 20 - 1
    · refine v_ic_gt_t (t := 14) c_146_7 rfl ⟨by first | exact rgm_l h_1.1 (by decide) | omega, h_8, ha1.2⟩ (q_iconst c_146_14 (v_zret c_146_15 rfl (by decide) (bk_inl (q_iconst c_212_9 (q_iconst c_212_10 (v_cv c_212_11 km_8_203 rfl rfl (nb_ rfl) ⟨⟨rfl, rfl⟩, nb_ rfl, rfl⟩ (nb_ rfl) (nb_ rfl) (q_iload_n c_145_0 rfl ?_)))))))
      refine v_if_ne_f (t := 26) c_145_1 rfl (by decide) (q_aload_n c_145_4 rfl (v_gi (z := 0) (v := 0) c_145_5 kf_8_3 rfl (nb_ rfl) rfl rfl (up_e rfl) (v_if_ne_f (t := 26) c_145_8 rfl (by decide) (q_aload_n c_145_11 rfl (q_iload_n c_145_12 rfl (v_pi (z := 0) c_145_13 kf_8_3 rfl (nb_ rfl) rfl rfl rfl (by decide) (q_aload_n c_145_16 rfl ?_)))))))
      refine v_gr (t := 42) c_145_17 kf_8_7 rfl (nb_ rfl) rfl (q_iload_n c_145_20 rfl (q_dup2 c_145_21 ⟨rfl, rfl⟩ ?_))
      have h_9 := ir_42 hI 0
      refine v_ia (v := c 42 0) c_145_22 rfl (by decide) (by decide) (by decide) ((up_c (nn rfl)).trans (up_c (nn rfl))) (q_iconst c_145_23 (v_iadd (v := c 42 0 + 1) c_145_24 rfl (v_nrm (fun y_10 hy_10 => (v_is c_145_25 rfl (by decide) (by decide) (by decide) (q_aload_n c_145_26 rfl (v_gi (z := 0) (v := 1) c_145_27 kf_8_3 rfl (nb_ rfl) rfl rfl ((up_c (nn rfl)).trans (up_e rfl)) (v_if_ne_t (t := 37) c_145_30 rfl (by decide) ?_))))))))
      refine q_iconst c_145_37 (v_zret c_145_38 rfl (by decide) (bk_inl (v_zret c_212_14 rfl (by decide) (bk_inl (v_if_eq_t (t := 33) c_213_14 rfl (by decide) (q_iconst c_213_33 (q_iret c_213_34 rfl ?_)))))))
      have hI_11 := iw_41_0 (v := 0) hI ⟨by decide, by decide⟩
      have hI_12 := iw_41_0 (v := 1) hI_11 ⟨by decide, by decide⟩
      have hI_13 := iw_42 (j := 0) (v := y_10) hI_12 ⟨hy_10.1, hy_10.2⟩
      exact K (up (up (up c 41 0 0) 41 0 1) 42 0 y_10) 0 hI_13 (fun a j hm => (up_b (Decidable.or_iff_not_imp_left.mpr (fun h1 h2 => hm (Or.inr (Or.inl (Decidable.not_not.mp h1)))))).trans ((up_b (Decidable.or_iff_not_imp_left.mpr (fun h1 h2 => hm (Or.inl ⟨Decidable.not_not.mp h1, h2⟩)))).trans (up_b (Decidable.or_iff_not_imp_left.mpr (fun h1 h2 => hm (Or.inl ⟨Decidable.not_not.mp h1, h2⟩)))))) ⟨by decide, by decide⟩
    · refine v_ic_gt_f (t := 14) c_146_7 rfl ⟨ha1.1, (Int.not_lt.mp h_8), by first | exact rgm_h h_1.2 (by decide) | omega⟩ (q_iconst c_146_10 (q_goto (t := 15) c_146_11 rfl (v_zret c_146_15 rfl (by decide) (bk_inl (q_iconst c_212_9 (q_iconst c_212_10 (v_cv c_212_11 km_8_203 rfl rfl (nb_ rfl) ⟨⟨rfl, rfl⟩, nb_ rfl, rfl⟩ (nb_ rfl) (nb_ rfl) ?_)))))))
      refine q_iload_n c_145_0 rfl (v_if_ne_t (t := 26) c_145_1 rfl (by decide) (q_aload_n c_145_26 rfl (v_gi (z := 0) (v := 0) c_145_27 kf_8_3 rfl (nb_ rfl) rfl rfl (up_e rfl) (v_if_ne_f (t := 37) c_145_30 rfl (by decide) (q_iconst c_145_33 (q_goto (t := 38) c_145_34 rfl (v_zret c_145_38 rfl (by decide) ?_)))))))
      refine bk_inl (v_zret c_212_14 rfl (by decide) (bk_inl (v_if_eq_f (t := 33) c_213_14 rfl (by decide) (q_aload_n c_213_17 rfl (q_iload_n c_213_18 rfl (q_iconst c_213_19 (v_bip c_213_20 (by decide) ?_)))))))
      refine q_call c_213_22 rfl rfl rfl (q_iload_n c_146_0 rfl (q_iload_n c_146_1 rfl ?_))
      by_cases h_14 : a2 < 0
      · refine v_ic_lt_t (t := 14) c_146_2 rfl ⟨ha2.1, h_14, by decide⟩ (q_iconst c_146_14 (v_zret c_146_15 rfl (by decide) (bk_inl (q_iconst c_213_25 (q_iconst c_213_26 (v_cv c_213_27 km_8_203 rfl rfl (nb_ rfl) ⟨⟨rfl, rfl⟩, nb_ rfl, rfl⟩ (nb_ rfl) (nb_ rfl) (q_iload_n c_145_0 rfl ?_)))))))
        refine v_if_ne_f (t := 26) c_145_1 rfl (by decide) (q_aload_n c_145_4 rfl (v_gi (z := 0) (v := 0) c_145_5 kf_8_3 rfl (nb_ rfl) rfl rfl (up_e rfl) (v_if_ne_f (t := 26) c_145_8 rfl (by decide) (q_aload_n c_145_11 rfl (q_iload_n c_145_12 rfl (v_pi (z := 0) c_145_13 kf_8_3 rfl (nb_ rfl) rfl rfl rfl (by decide) (q_aload_n c_145_16 rfl ?_)))))))
        refine v_gr (t := 42) c_145_17 kf_8_7 rfl (nb_ rfl) rfl (q_iload_n c_145_20 rfl (q_dup2 c_145_21 ⟨rfl, rfl⟩ ?_))
        have h_15 := ir_42 hI 1
        refine v_ia (v := c 42 1) c_145_22 rfl (by decide) (by decide) (by decide) ((up_c (nn rfl)).trans (up_c (nn rfl))) (q_iconst c_145_23 (v_iadd (v := c 42 1 + 1) c_145_24 rfl (v_nrm (fun y_16 hy_16 => (v_is c_145_25 rfl (by decide) (by decide) (by decide) (q_aload_n c_145_26 rfl (v_gi (z := 0) (v := 2) c_145_27 kf_8_3 rfl (nb_ rfl) rfl rfl ((up_c (nn rfl)).trans (up_e rfl)) (v_if_ne_t (t := 37) c_145_30 rfl (by decide) ?_))))))))
        refine q_iconst c_145_37 (v_zret c_145_38 rfl (by decide) (bk_inl (v_if_ne_f (t := 35) c_213_30 rfl (by decide) (q_iconst c_213_33 (q_iret c_213_34 rfl ?_)))))
        have hI_17 := iw_41_0 (v := 0) hI ⟨by decide, by decide⟩
        have hI_18 := iw_41_0 (v := 2) hI_17 ⟨by decide, by decide⟩
        have hI_19 := iw_42 (j := 1) (v := y_16) hI_18 ⟨hy_16.1, hy_16.2⟩
        exact K (up (up (up c 41 0 0) 41 0 2) 42 1 y_16) 0 hI_19 (fun a j hm => (up_b (Decidable.or_iff_not_imp_left.mpr (fun h1 h2 => hm (Or.inr (Or.inl (Decidable.not_not.mp h1)))))).trans ((up_b (Decidable.or_iff_not_imp_left.mpr (fun h1 h2 => hm (Or.inl ⟨Decidable.not_not.mp h1, h2⟩)))).trans (up_b (Decidable.or_iff_not_imp_left.mpr (fun h1 h2 => hm (Or.inl ⟨Decidable.not_not.mp h1, h2⟩)))))) ⟨by decide, by decide⟩
      · refine v_ic_lt_f (t := 14) c_146_2 rfl ⟨by decide, (Int.not_lt.mp h_14), ha2.2⟩ (q_iload_n c_146_5 rfl (q_iload_n c_146_6 rfl ?_))
        by_cases h_20 : a2 > 6
        · refine v_ic_gt_t (t := 14) c_146_7 rfl ⟨by decide, h_20, ha2.2⟩ (q_iconst c_146_14 (v_zret c_146_15 rfl (by decide) (bk_inl (q_iconst c_213_25 (q_iconst c_213_26 (v_cv c_213_27 km_8_203 rfl rfl (nb_ rfl) ⟨⟨rfl, rfl⟩, nb_ rfl, rfl⟩ (nb_ rfl) (nb_ rfl) (q_iload_n c_145_0 rfl ?_)))))))
          refine v_if_ne_f (t := 26) c_145_1 rfl (by decide) (q_aload_n c_145_4 rfl (v_gi (z := 0) (v := 0) c_145_5 kf_8_3 rfl (nb_ rfl) rfl rfl (up_e rfl) (v_if_ne_f (t := 26) c_145_8 rfl (by decide) (q_aload_n c_145_11 rfl (q_iload_n c_145_12 rfl (v_pi (z := 0) c_145_13 kf_8_3 rfl (nb_ rfl) rfl rfl rfl (by decide) (q_aload_n c_145_16 rfl ?_)))))))
          refine v_gr (t := 42) c_145_17 kf_8_7 rfl (nb_ rfl) rfl (q_iload_n c_145_20 rfl (q_dup2 c_145_21 ⟨rfl, rfl⟩ ?_))
          have h_21 := ir_42 hI 1
          refine v_ia (v := c 42 1) c_145_22 rfl (by decide) (by decide) (by decide) ((up_c (nn rfl)).trans (up_c (nn rfl))) (q_iconst c_145_23 (v_iadd (v := c 42 1 + 1) c_145_24 rfl (v_nrm (fun y_22 hy_22 => (v_is c_145_25 rfl (by decide) (by decide) (by decide) (q_aload_n c_145_26 rfl (v_gi (z := 0) (v := 2) c_145_27 kf_8_3 rfl (nb_ rfl) rfl rfl ((up_c (nn rfl)).trans (up_e rfl)) (v_if_ne_t (t := 37) c_145_30 rfl (by decide) ?_))))))))
          refine q_iconst c_145_37 (v_zret c_145_38 rfl (by decide) (bk_inl (v_if_ne_f (t := 35) c_213_30 rfl (by decide) (q_iconst c_213_33 (q_iret c_213_34 rfl ?_)))))
          have hI_23 := iw_41_0 (v := 0) hI ⟨by decide, by decide⟩
          have hI_24 := iw_41_0 (v := 2) hI_23 ⟨by decide, by decide⟩
          have hI_25 := iw_42 (j := 1) (v := y_22) hI_24 ⟨hy_22.1, hy_22.2⟩
          exact K (up (up (up c 41 0 0) 41 0 2) 42 1 y_22) 0 hI_25 (fun a j hm => (up_b (Decidable.or_iff_not_imp_left.mpr (fun h1 h2 => hm (Or.inr (Or.inl (Decidable.not_not.mp h1)))))).trans ((up_b (Decidable.or_iff_not_imp_left.mpr (fun h1 h2 => hm (Or.inl ⟨Decidable.not_not.mp h1, h2⟩)))).trans (up_b (Decidable.or_iff_not_imp_left.mpr (fun h1 h2 => hm (Or.inl ⟨Decidable.not_not.mp h1, h2⟩)))))) ⟨by decide, by decide⟩
        · refine v_ic_gt_f (t := 14) c_146_7 rfl ⟨ha2.1, (Int.not_lt.mp h_20), by decide⟩ (q_iconst c_146_10 (q_goto (t := 15) c_146_11 rfl (v_zret c_146_15 rfl (by decide) (bk_inl (q_iconst c_213_25 (q_iconst c_213_26 (v_cv c_213_27 km_8_203 rfl rfl (nb_ rfl) ⟨⟨rfl, rfl⟩, nb_ rfl, rfl⟩ (nb_ rfl) (nb_ rfl) ?_)))))))
          refine q_iload_n c_145_0 rfl (v_if_ne_t (t := 26) c_145_1 rfl (by decide) (q_aload_n c_145_26 rfl (v_gi (z := 0) (v := 0) c_145_27 kf_8_3 rfl (nb_ rfl) rfl rfl (up_e rfl) (v_if_ne_f (t := 37) c_145_30 rfl (by decide) (q_iconst c_145_33 (q_goto (t := 38) c_145_34 rfl (v_zret c_145_38 rfl (by decide) ?_)))))))
          refine bk_inl (v_if_ne_t (t := 35) c_213_30 rfl (by decide) (q_aload_n c_213_35 rfl ?_))
          have hI_26 := iw_41_0 (v := 0) hI ⟨by decide, by decide⟩
          refine v_cv c_213_36 km_8_317 rfl rfl (nb_ rfl) ⟨⟨rfl, rfl⟩, nb_ rfl, rfl⟩ (nb_ rfl) (nb_ rfl) (s_186 hI_26 (fun c_27 hI_28 hF_29 => (bk_inl (q_iload_n c_213_39 rfl (q_iconst c_213_40 ?_)))))
          by_cases h_30 : a2 ≥ 4
          · refine v_ic_ge_t (t := 57) c_213_41 rfl ⟨by decide, h_30, ha2.2⟩ (q_iload_n c_213_57 rfl (q_iconst c_213_58 ?_))
            by_cases h_31 : a2 ≠ 4
            · refine v_ic_ne_t (t := 70) c_213_59 rfl ⟨h_31, ⟨ha2.1, ha2.2⟩, by decide, by decide⟩ (q_iload_n c_213_70 rfl (q_iconst c_213_71 ?_))
              by_cases h_32 : a2 ≠ 5
              · refine v_ic_ne_t (t := 87) c_213_72 rfl ⟨h_32, ⟨ha2.1, ha2.2⟩, by decide, by decide⟩ (q_aload_n c_213_87 rfl (q_iload_n c_213_88 rfl (v_cv c_213_89 km_8_399 rfl rfl (nb_ rfl) ⟨⟨rfl, rfl⟩, nb_ rfl, rfl⟩ (nb_ rfl) (nb_ rfl) (s_204 (a1 := a1) hI_28 (show 0 ≤ a1 ∧ a1 ≤ 5 from ⟨by first | exact q_720657ba9 h_2 | omega, by first | exact q_3a2e67ab0 h_1 h_8 | omega⟩) (fun y_33 hy_33 => (bk_inl (q_iret c_213_92 rfl ?_)))))))
                exact K c_27 y_33 hI_28 (fun a j hm => (hF_29 a j (fun h => hm (Or.inr (Or.inr h)))).trans (up_b (Decidable.or_iff_not_imp_left.mpr (fun h1 h2 => hm (Or.inl ⟨Decidable.not_not.mp h1, h2⟩))))) hy_33
              · refine v_ic_ne_f (t := 87) c_213_72 rfl (Decidable.not_not.mp h_32) (q_aload_n c_213_75 rfl (v_gr (t := 59) c_213_76 kf_8_68 rfl (nb_ rfl) rfl (v_bip c_213_79 (by decide) (q_iload_n c_213_81 rfl (v_iadd (v := a1 + 24) c_213_82 (by first | exact q_1b47056ce | omega) ?_)))))
                have h_34 := ir_59 hI_28 (a1 + 24)
                refine v_ia (v := c_27 59 (a1 + 24)) c_213_83 rfl (by decide) (by decide) ⟨by first | exact q_7e8f1d31c h_2 | omega, by first | exact q_3aa97594e h_1 h_8 | omega⟩ rfl (q_goto (t := 92) c_213_84 rfl (q_iret c_213_92 rfl ?_))
                exact K c_27 (c_27 59 (a1 + 24)) hI_28 (fun a j hm => (hF_29 a j (fun h => hm (Or.inr (Or.inr h)))).trans (up_b (Decidable.or_iff_not_imp_left.mpr (fun h1 h2 => hm (Or.inl ⟨Decidable.not_not.mp h1, h2⟩))))) h_34
            · refine v_ic_ne_f (t := 70) c_213_59 rfl (Decidable.not_not.mp h_31) (q_aload_n c_213_62 rfl (q_iload_n c_213_63 rfl ?_))
              have h_35 := ir_59_g hI_28 (j := 4 * a1) (by first | exact q_b0d0e4535 h_1 h_8 | omega)
              have h_36 := ir_59_g hI_28 (j := 4 * a1 + 1) (by first | exact q_e3354e5e9 h_1 h_8 | omega)
              have h_37 := ir_59_g hI_28 (j := 4 * a1 + 2) (by first | exact q_0a5347bcd h_1 h_8 | omega)
              have h_38 := ir_59_g hI_28 (j := 4 * a1 + 3) (by first | exact q_9939b3b7f h_1 h_8 | omega)
              refine v_cv c_213_64 km_8_343 rfl rfl (nb_ rfl) ⟨⟨rfl, rfl⟩, nb_ rfl, rfl⟩ (nb_ rfl) (nb_ rfl) (s_187 (v1 := c_27 59 (4 * a1)) (v2 := c_27 59 (4 * a1 + 1)) (v3 := c_27 59 (4 * a1 + 2)) (v4 := c_27 59 (4 * a1 + 3)) (r := c_27 59 (4 * a1 + 1) + c_27 59 (4 * a1 + 2) + c_27 59 (4 * a1 + 3) + c_27 59 (4 * a1)) (a1 := a1) hI_28 (show 0 ≤ a1 ∧ a1 ≤ 5 from ⟨by first | exact q_720657ba9 h_2 | omega, by first | exact q_3a2e67ab0 h_1 h_8 | omega⟩) (rfl) (rfl) (rfl) (rfl) (by omega) (bk_inl (q_goto (t := 92) c_213_67 rfl (q_iret c_213_92 rfl ?_))))
              exact K c_27 (c_27 59 (4 * a1 + 1) + c_27 59 (4 * a1 + 2) + c_27 59 (4 * a1 + 3) + c_27 59 (4 * a1)) hI_28 (fun a j hm => (hF_29 a j (fun h => hm (Or.inr (Or.inr h)))).trans (up_b (Decidable.or_iff_not_imp_left.mpr (fun h1 h2 => hm (Or.inl ⟨Decidable.not_not.mp h1, h2⟩))))) ⟨by first | exact q_e052ef40e h_35 h_36 h_37 h_38 | omega, by first | exact q_db9ef1f4a h_35 h_36 h_37 h_38 | omega⟩
          · refine v_ic_ge_f (t := 57) c_213_41 rfl ⟨ha2.1, (Int.not_le.mp h_30), by decide⟩ (q_aload_n c_213_44 rfl (v_gr (t := 59) c_213_45 kf_8_68 rfl (nb_ rfl) rfl (q_iconst c_213_48 (q_iload_n c_213_49 rfl (v_imul (v := 4 * a1) c_213_50 rfl (q_iload_n c_213_51 rfl (v_iadd (v := 4 * a1 + a2) c_213_52 rfl ?_)))))))
            have h_39 := ir_59_g hI_28 (j := 4 * a1 + a2) (by first | exact q_490e7f1d7 h_1 h_30 h_8 | omega)
            refine v_ia (v := c_27 59 (4 * a1 + a2)) c_213_53 rfl (by decide) (by decide) ⟨by first | exact q_cc0c3eecc h_14 h_2 | omega, by first | exact q_6645f81e3 h_1 h_30 h_8 | omega⟩ rfl (q_goto (t := 92) c_213_54 rfl (q_iret c_213_92 rfl ?_))
            exact K c_27 (c_27 59 (4 * a1 + a2)) hI_28 (fun a j hm => (hF_29 a j (fun h => hm (Or.inr (Or.inr h)))).trans (up_b (Decidable.or_iff_not_imp_left.mpr (fun h1 h2 => hm (Or.inl ⟨Decidable.not_not.mp h1, h2⟩))))) ⟨(Int.le_trans (by decide) h_39.1), (Int.le_trans h_39.2 (by decide))⟩

set_option maxRecDepth 100000 in
set_option maxHeartbeats 4000000 in
theorem s_214 {sc : List Int32} {e : Int} {d u P Q : Nat} {c : ME} {a1 : Int} {a2 : Int} {Z : AR → Prop} (hI : Iv u e P Q c) (ha1 : (-2147483648) ≤ a1 ∧ a1 ≤ 2147483647) (ha2 : (-2147483648) ≤ a2 ∧ a2 ≤ 2147483647) (K : ∀ (c2 : ME) (y : Int), Iv u e P Q c2 → (∀ (a : Nat) (j : Int), ¬ ((a = 41 ∧ j = 0) ∨ a = 42) → c2 a j = c a j) → (-2147483648) ≤ y ∧ y ≤ 2147483647 → Z (.inl (some (vi y)), Wd P Q P P c2, 0, 0)) : Wp sc (d + 9) 214 0 [(0, .ref 41), (1, vi a1), (2, vi a2)] [] (Wd P Q P P c) 0 0 Z := by
  have hP := iv_P hI
  have hQ := iv_Q hI
  refine q_aload_n c_214_0 rfl (q_iconst c_214_1 (v_pi (z := 0) c_214_2 kf_8_3 rfl (nb_ rfl) rfl rfl rfl (by decide) (q_aload_n c_214_5 rfl (q_iload_n c_214_6 rfl (q_aload_n c_214_7 rfl ?_)))))
  have h_1 := ir_41_21 hI
  refine v_gi (z := 21) (v := c 41 21) c_214_8 kf_8_160 rfl (nb_ rfl) rfl rfl (up_n (by decide)) (v_cv c_214_11 km_8_396 rfl rfl (nb_ rfl) ⟨⟨rfl, rfl⟩, nb_ rfl, rfl⟩ (nb_ rfl) (nb_ rfl) (q_aload_n c_212_0 rfl (q_iload_n c_212_1 rfl (q_iconst c_212_2 (q_iload_n c_212_3 rfl (q_iconst c_212_4 (v_isub (v := c 41 21 - 1) c_212_5 rfl ?_)))))))
  refine q_call c_212_6 rfl rfl rfl (q_iload_n c_146_0 rfl (q_iload_n c_146_1 rfl ?_))
  by_cases h_2 : a1 < 0
  · refine v_ic_lt_t (t := 14) c_146_2 rfl ⟨ha1.1, h_2, by decide⟩ (q_iconst c_146_14 (v_zret c_146_15 rfl (by decide) (bk_inl (q_iconst c_212_9 (q_iconst c_212_10 (v_cv c_212_11 km_8_203 rfl rfl (nb_ rfl) ⟨⟨rfl, rfl⟩, nb_ rfl, rfl⟩ (nb_ rfl) (nb_ rfl) (q_iload_n c_145_0 rfl ?_)))))))
    refine v_if_ne_f (t := 26) c_145_1 rfl (by decide) (q_aload_n c_145_4 rfl (v_gi (z := 0) (v := 0) c_145_5 kf_8_3 rfl (nb_ rfl) rfl rfl (up_e rfl) (v_if_ne_f (t := 26) c_145_8 rfl (by decide) (q_aload_n c_145_11 rfl (q_iload_n c_145_12 rfl (v_pi (z := 0) c_145_13 kf_8_3 rfl (nb_ rfl) rfl rfl rfl (by decide) (q_aload_n c_145_16 rfl ?_)))))))
    refine v_gr (t := 42) c_145_17 kf_8_7 rfl (nb_ rfl) rfl (q_iload_n c_145_20 rfl (q_dup2 c_145_21 ⟨rfl, rfl⟩ ?_))
    have h_3 := ir_42 hI 0
    refine v_ia (v := c 42 0) c_145_22 rfl (by decide) (by decide) (by decide) ((up_c (nn rfl)).trans (up_c (nn rfl))) (q_iconst c_145_23 (v_iadd (v := c 42 0 + 1) c_145_24 rfl (v_nrm (fun y_4 hy_4 => (v_is c_145_25 rfl (by decide) (by decide) (by decide) (q_aload_n c_145_26 rfl (v_gi (z := 0) (v := 1) c_145_27 kf_8_3 rfl (nb_ rfl) rfl rfl ((up_c (nn rfl)).trans (up_e rfl)) (v_if_ne_t (t := 37) c_145_30 rfl (by decide) ?_))))))))
    refine q_iconst c_145_37 (v_zret c_145_38 rfl (by decide) (bk_inl (v_zret c_212_14 rfl (by decide) (bk_inl (v_if_eq_t (t := 32) c_214_14 rfl (by decide) (q_iconst c_214_32 (q_iret c_214_33 rfl ?_)))))))
    have hI_5 := iw_41_0 (v := 0) hI ⟨by decide, by decide⟩
    have hI_6 := iw_41_0 (v := 1) hI_5 ⟨by decide, by decide⟩
    have hI_7 := iw_42 (j := 0) (v := y_4) hI_6 ⟨hy_4.1, hy_4.2⟩
    exact K (up (up (up c 41 0 0) 41 0 1) 42 0 y_4) 0 hI_7 (fun a j hm => (up_b (Decidable.or_iff_not_imp_left.mpr (fun h1 h2 => hm (Or.inr (Decidable.not_not.mp h1))))).trans ((up_b (Decidable.or_iff_not_imp_left.mpr (fun h1 h2 => hm (Or.inl ⟨Decidable.not_not.mp h1, h2⟩)))).trans (up_b (Decidable.or_iff_not_imp_left.mpr (fun h1 h2 => hm (Or.inl ⟨Decidable.not_not.mp h1, h2⟩)))))) ⟨by decide, by decide⟩
  · refine v_ic_lt_f (t := 14) c_146_2 rfl ⟨by decide, (Int.not_lt.mp h_2), ha1.2⟩ (q_iload_n c_146_5 rfl (q_iload_n c_146_6 rfl ?_))
    by_cases h_8 : a1 > c 41 21 - 1
    · refine v_ic_gt_t (t := 14) c_146_7 rfl ⟨by first | exact rgm_l h_1.1 (by decide) | omega, h_8, ha1.2⟩ (q_iconst c_146_14 (v_zret c_146_15 rfl (by decide) (bk_inl (q_iconst c_212_9 (q_iconst c_212_10 (v_cv c_212_11 km_8_203 rfl rfl (nb_ rfl) ⟨⟨rfl, rfl⟩, nb_ rfl, rfl⟩ (nb_ rfl) (nb_ rfl) (q_iload_n c_145_0 rfl ?_)))))))
      refine v_if_ne_f (t := 26) c_145_1 rfl (by decide) (q_aload_n c_145_4 rfl (v_gi (z := 0) (v := 0) c_145_5 kf_8_3 rfl (nb_ rfl) rfl rfl (up_e rfl) (v_if_ne_f (t := 26) c_145_8 rfl (by decide) (q_aload_n c_145_11 rfl (q_iload_n c_145_12 rfl (v_pi (z := 0) c_145_13 kf_8_3 rfl (nb_ rfl) rfl rfl rfl (by decide) (q_aload_n c_145_16 rfl ?_)))))))
      refine v_gr (t := 42) c_145_17 kf_8_7 rfl (nb_ rfl) rfl (q_iload_n c_145_20 rfl (q_dup2 c_145_21 ⟨rfl, rfl⟩ ?_))
      have h_9 := ir_42 hI 0
      refine v_ia (v := c 42 0) c_145_22 rfl (by decide) (by decide) (by decide) ((up_c (nn rfl)).trans (up_c (nn rfl))) (q_iconst c_145_23 (v_iadd (v := c 42 0 + 1) c_145_24 rfl (v_nrm (fun y_10 hy_10 => (v_is c_145_25 rfl (by decide) (by decide) (by decide) (q_aload_n c_145_26 rfl (v_gi (z := 0) (v := 1) c_145_27 kf_8_3 rfl (nb_ rfl) rfl rfl ((up_c (nn rfl)).trans (up_e rfl)) (v_if_ne_t (t := 37) c_145_30 rfl (by decide) ?_))))))))
      refine q_iconst c_145_37 (v_zret c_145_38 rfl (by decide) (bk_inl (v_zret c_212_14 rfl (by decide) (bk_inl (v_if_eq_t (t := 32) c_214_14 rfl (by decide) (q_iconst c_214_32 (q_iret c_214_33 rfl ?_)))))))
      have hI_11 := iw_41_0 (v := 0) hI ⟨by decide, by decide⟩
      have hI_12 := iw_41_0 (v := 1) hI_11 ⟨by decide, by decide⟩
      have hI_13 := iw_42 (j := 0) (v := y_10) hI_12 ⟨hy_10.1, hy_10.2⟩
      exact K (up (up (up c 41 0 0) 41 0 1) 42 0 y_10) 0 hI_13 (fun a j hm => (up_b (Decidable.or_iff_not_imp_left.mpr (fun h1 h2 => hm (Or.inr (Decidable.not_not.mp h1))))).trans ((up_b (Decidable.or_iff_not_imp_left.mpr (fun h1 h2 => hm (Or.inl ⟨Decidable.not_not.mp h1, h2⟩)))).trans (up_b (Decidable.or_iff_not_imp_left.mpr (fun h1 h2 => hm (Or.inl ⟨Decidable.not_not.mp h1, h2⟩)))))) ⟨by decide, by decide⟩
    · refine v_ic_gt_f (t := 14) c_146_7 rfl ⟨ha1.1, (Int.not_lt.mp h_8), by first | exact rgm_h h_1.2 (by decide) | omega⟩ (q_iconst c_146_10 (q_goto (t := 15) c_146_11 rfl (v_zret c_146_15 rfl (by decide) (bk_inl (q_iconst c_212_9 (q_iconst c_212_10 (v_cv c_212_11 km_8_203 rfl rfl (nb_ rfl) ⟨⟨rfl, rfl⟩, nb_ rfl, rfl⟩ (nb_ rfl) (nb_ rfl) ?_)))))))
      refine q_iload_n c_145_0 rfl (v_if_ne_t (t := 26) c_145_1 rfl (by decide) (q_aload_n c_145_26 rfl (v_gi (z := 0) (v := 0) c_145_27 kf_8_3 rfl (nb_ rfl) rfl rfl (up_e rfl) (v_if_ne_f (t := 37) c_145_30 rfl (by decide) (q_iconst c_145_33 (q_goto (t := 38) c_145_34 rfl (v_zret c_145_38 rfl (by decide) ?_)))))))
      refine bk_inl (v_zret c_212_14 rfl (by decide) (bk_inl (v_if_eq_f (t := 32) c_214_14 rfl (by decide) (q_aload_n c_214_17 rfl (q_iload_n c_214_18 rfl (q_iconst c_214_19 (q_iconst c_214_20 ?_)))))))
      refine q_call c_214_21 rfl rfl rfl (q_iload_n c_146_0 rfl (q_iload_n c_146_1 rfl ?_))
      by_cases h_14 : a2 < 0
      · refine v_ic_lt_t (t := 14) c_146_2 rfl ⟨ha2.1, h_14, by decide⟩ (q_iconst c_146_14 (v_zret c_146_15 rfl (by decide) (bk_inl (q_iconst c_214_24 (q_iconst c_214_25 (v_cv c_214_26 km_8_203 rfl rfl (nb_ rfl) ⟨⟨rfl, rfl⟩, nb_ rfl, rfl⟩ (nb_ rfl) (nb_ rfl) (q_iload_n c_145_0 rfl ?_)))))))
        refine v_if_ne_f (t := 26) c_145_1 rfl (by decide) (q_aload_n c_145_4 rfl (v_gi (z := 0) (v := 0) c_145_5 kf_8_3 rfl (nb_ rfl) rfl rfl (up_e rfl) (v_if_ne_f (t := 26) c_145_8 rfl (by decide) (q_aload_n c_145_11 rfl (q_iload_n c_145_12 rfl (v_pi (z := 0) c_145_13 kf_8_3 rfl (nb_ rfl) rfl rfl rfl (by decide) (q_aload_n c_145_16 rfl ?_)))))))
        refine v_gr (t := 42) c_145_17 kf_8_7 rfl (nb_ rfl) rfl (q_iload_n c_145_20 rfl (q_dup2 c_145_21 ⟨rfl, rfl⟩ ?_))
        have h_15 := ir_42 hI 1
        refine v_ia (v := c 42 1) c_145_22 rfl (by decide) (by decide) (by decide) ((up_c (nn rfl)).trans (up_c (nn rfl))) (q_iconst c_145_23 (v_iadd (v := c 42 1 + 1) c_145_24 rfl (v_nrm (fun y_16 hy_16 => (v_is c_145_25 rfl (by decide) (by decide) (by decide) (q_aload_n c_145_26 rfl (v_gi (z := 0) (v := 2) c_145_27 kf_8_3 rfl (nb_ rfl) rfl rfl ((up_c (nn rfl)).trans (up_e rfl)) (v_if_ne_t (t := 37) c_145_30 rfl (by decide) ?_))))))))
        refine q_iconst c_145_37 (v_zret c_145_38 rfl (by decide) (bk_inl (v_if_ne_f (t := 34) c_214_29 rfl (by decide) (q_iconst c_214_32 (q_iret c_214_33 rfl ?_)))))
        have hI_17 := iw_41_0 (v := 0) hI ⟨by decide, by decide⟩
        have hI_18 := iw_41_0 (v := 2) hI_17 ⟨by decide, by decide⟩
        have hI_19 := iw_42 (j := 1) (v := y_16) hI_18 ⟨hy_16.1, hy_16.2⟩
        exact K (up (up (up c 41 0 0) 41 0 2) 42 1 y_16) 0 hI_19 (fun a j hm => (up_b (Decidable.or_iff_not_imp_left.mpr (fun h1 h2 => hm (Or.inr (Decidable.not_not.mp h1))))).trans ((up_b (Decidable.or_iff_not_imp_left.mpr (fun h1 h2 => hm (Or.inl ⟨Decidable.not_not.mp h1, h2⟩)))).trans (up_b (Decidable.or_iff_not_imp_left.mpr (fun h1 h2 => hm (Or.inl ⟨Decidable.not_not.mp h1, h2⟩)))))) ⟨by decide, by decide⟩
      · refine v_ic_lt_f (t := 14) c_146_2 rfl ⟨by decide, (Int.not_lt.mp h_14), ha2.2⟩ (q_iload_n c_146_5 rfl (q_iload_n c_146_6 rfl ?_))
        by_cases h_20 : a2 > 2
        · refine v_ic_gt_t (t := 14) c_146_7 rfl ⟨by decide, h_20, ha2.2⟩ (q_iconst c_146_14 (v_zret c_146_15 rfl (by decide) (bk_inl (q_iconst c_214_24 (q_iconst c_214_25 (v_cv c_214_26 km_8_203 rfl rfl (nb_ rfl) ⟨⟨rfl, rfl⟩, nb_ rfl, rfl⟩ (nb_ rfl) (nb_ rfl) (q_iload_n c_145_0 rfl ?_)))))))
          refine v_if_ne_f (t := 26) c_145_1 rfl (by decide) (q_aload_n c_145_4 rfl (v_gi (z := 0) (v := 0) c_145_5 kf_8_3 rfl (nb_ rfl) rfl rfl (up_e rfl) (v_if_ne_f (t := 26) c_145_8 rfl (by decide) (q_aload_n c_145_11 rfl (q_iload_n c_145_12 rfl (v_pi (z := 0) c_145_13 kf_8_3 rfl (nb_ rfl) rfl rfl rfl (by decide) (q_aload_n c_145_16 rfl ?_)))))))
          refine v_gr (t := 42) c_145_17 kf_8_7 rfl (nb_ rfl) rfl (q_iload_n c_145_20 rfl (q_dup2 c_145_21 ⟨rfl, rfl⟩ ?_))
          have h_21 := ir_42 hI 1
          refine v_ia (v := c 42 1) c_145_22 rfl (by decide) (by decide) (by decide) ((up_c (nn rfl)).trans (up_c (nn rfl))) (q_iconst c_145_23 (v_iadd (v := c 42 1 + 1) c_145_24 rfl (v_nrm (fun y_22 hy_22 => (v_is c_145_25 rfl (by decide) (by decide) (by decide) (q_aload_n c_145_26 rfl (v_gi (z := 0) (v := 2) c_145_27 kf_8_3 rfl (nb_ rfl) rfl rfl ((up_c (nn rfl)).trans (up_e rfl)) (v_if_ne_t (t := 37) c_145_30 rfl (by decide) ?_))))))))
          refine q_iconst c_145_37 (v_zret c_145_38 rfl (by decide) (bk_inl (v_if_ne_f (t := 34) c_214_29 rfl (by decide) (q_iconst c_214_32 (q_iret c_214_33 rfl ?_)))))
          have hI_23 := iw_41_0 (v := 0) hI ⟨by decide, by decide⟩
          have hI_24 := iw_41_0 (v := 2) hI_23 ⟨by decide, by decide⟩
          have hI_25 := iw_42 (j := 1) (v := y_22) hI_24 ⟨hy_22.1, hy_22.2⟩
          exact K (up (up (up c 41 0 0) 41 0 2) 42 1 y_22) 0 hI_25 (fun a j hm => (up_b (Decidable.or_iff_not_imp_left.mpr (fun h1 h2 => hm (Or.inr (Decidable.not_not.mp h1))))).trans ((up_b (Decidable.or_iff_not_imp_left.mpr (fun h1 h2 => hm (Or.inl ⟨Decidable.not_not.mp h1, h2⟩)))).trans (up_b (Decidable.or_iff_not_imp_left.mpr (fun h1 h2 => hm (Or.inl ⟨Decidable.not_not.mp h1, h2⟩)))))) ⟨by decide, by decide⟩
        · refine v_ic_gt_f (t := 14) c_146_7 rfl ⟨ha2.1, (Int.not_lt.mp h_20), by decide⟩ (q_iconst c_146_10 (q_goto (t := 15) c_146_11 rfl (v_zret c_146_15 rfl (by decide) (bk_inl (q_iconst c_214_24 (q_iconst c_214_25 (v_cv c_214_26 km_8_203 rfl rfl (nb_ rfl) ⟨⟨rfl, rfl⟩, nb_ rfl, rfl⟩ (nb_ rfl) (nb_ rfl) ?_)))))))
          refine q_iload_n c_145_0 rfl (v_if_ne_t (t := 26) c_145_1 rfl (by decide) (q_aload_n c_145_26 rfl (v_gi (z := 0) (v := 0) c_145_27 kf_8_3 rfl (nb_ rfl) rfl rfl (up_e rfl) (v_if_ne_f (t := 37) c_145_30 rfl (by decide) (q_iconst c_145_33 (q_goto (t := 38) c_145_34 rfl (v_zret c_145_38 rfl (by decide) ?_)))))))
          refine bk_inl (v_if_ne_t (t := 34) c_214_29 rfl (by decide) (q_aload_n c_214_34 rfl (v_gr (t := 48) c_214_35 kf_8_35 rfl (nb_ rfl) rfl (q_iconst c_214_38 (q_iload_n c_214_39 rfl (v_imul (v := 3 * a1) c_214_40 rfl (q_iload_n c_214_41 rfl ?_)))))))
          refine v_iadd (v := 3 * a1 + a2) c_214_42 rfl ?_
          have h_26 := ir_48 hI (3 * a1 + a2)
          refine v_ia (v := c 48 (3 * a1 + a2)) c_214_43 rfl (by decide) (by decide) ⟨by first | exact q_8256bb04b h_14 h_2 | omega, by first | exact q_c1df8a943 h_1 h_20 h_8 | omega⟩ (up_c (nn rfl)) (q_iret c_214_44 rfl ?_)
          have hI_27 := iw_41_0 (v := 0) hI ⟨by decide, by decide⟩
          exact K (up c 41 0 0) (c 48 (3 * a1 + a2)) hI_27 (fun a j hm => up_b (Decidable.or_iff_not_imp_left.mpr (fun h1 h2 => hm (Or.inl ⟨Decidable.not_not.mp h1, h2⟩)))) ⟨(Int.le_trans (by decide) h_26.1), (Int.le_trans h_26.2 (by decide))⟩

set_option maxRecDepth 100000 in
set_option maxHeartbeats 4000000 in
theorem s_215 {sc : List Int32} {e : Int} {d u P Q : Nat} {c : ME} {a1 : Int} {a2 : Int} {Z : AR → Prop} (hI : Iv u e P Q c) (ha1 : (-2147483648) ≤ a1 ∧ a1 ≤ 2147483647) (ha2 : (-2147483648) ≤ a2 ∧ a2 ≤ 2147483647) (K : ∀ (c2 : ME) (y : Int), Iv u e P Q c2 → (∀ (a : Nat) (j : Int), ¬ ((a = 41 ∧ j = 0) ∨ a = 42) → c2 a j = c a j) → (-2147483648) ≤ y ∧ y ≤ 2147483647 → Z (.inl (some (vi y)), Wd P Q P P c2, 0, 0)) : Wp sc (d + 9) 215 0 [(0, .ref 41), (1, vi a1), (2, vi a2)] [] (Wd P Q P P c) 0 0 Z := by
  have hP := iv_P hI
  have hQ := iv_Q hI
  refine q_aload_n c_215_0 rfl (q_iconst c_215_1 (v_pi (z := 0) c_215_2 kf_8_3 rfl (nb_ rfl) rfl rfl rfl (by decide) (q_aload_n c_215_5 rfl (q_iload_n c_215_6 rfl (q_aload_n c_215_7 rfl ?_)))))
  have h_1 := ir_41_22 hI
  refine v_gi (z := 22) (v := c 41 22) c_215_8 kf_8_163 rfl (nb_ rfl) rfl rfl (up_n (by decide)) (v_cv c_215_11 km_8_396 rfl rfl (nb_ rfl) ⟨⟨rfl, rfl⟩, nb_ rfl, rfl⟩ (nb_ rfl) (nb_ rfl) (q_aload_n c_212_0 rfl (q_iload_n c_212_1 rfl (q_iconst c_212_2 (q_iload_n c_212_3 rfl (q_iconst c_212_4 (v_isub (v := c 41 22 - 1) c_212_5 rfl ?_)))))))
  refine q_call c_212_6 rfl rfl rfl (q_iload_n c_146_0 rfl (q_iload_n c_146_1 rfl ?_))
  by_cases h_2 : a1 < 0
  · refine v_ic_lt_t (t := 14) c_146_2 rfl ⟨ha1.1, h_2, by decide⟩ (q_iconst c_146_14 (v_zret c_146_15 rfl (by decide) (bk_inl (q_iconst c_212_9 (q_iconst c_212_10 (v_cv c_212_11 km_8_203 rfl rfl (nb_ rfl) ⟨⟨rfl, rfl⟩, nb_ rfl, rfl⟩ (nb_ rfl) (nb_ rfl) (q_iload_n c_145_0 rfl ?_)))))))
    refine v_if_ne_f (t := 26) c_145_1 rfl (by decide) (q_aload_n c_145_4 rfl (v_gi (z := 0) (v := 0) c_145_5 kf_8_3 rfl (nb_ rfl) rfl rfl (up_e rfl) (v_if_ne_f (t := 26) c_145_8 rfl (by decide) (q_aload_n c_145_11 rfl (q_iload_n c_145_12 rfl (v_pi (z := 0) c_145_13 kf_8_3 rfl (nb_ rfl) rfl rfl rfl (by decide) (q_aload_n c_145_16 rfl ?_)))))))
    refine v_gr (t := 42) c_145_17 kf_8_7 rfl (nb_ rfl) rfl (q_iload_n c_145_20 rfl (q_dup2 c_145_21 ⟨rfl, rfl⟩ ?_))
    have h_3 := ir_42 hI 0
    refine v_ia (v := c 42 0) c_145_22 rfl (by decide) (by decide) (by decide) ((up_c (nn rfl)).trans (up_c (nn rfl))) (q_iconst c_145_23 (v_iadd (v := c 42 0 + 1) c_145_24 rfl (v_nrm (fun y_4 hy_4 => (v_is c_145_25 rfl (by decide) (by decide) (by decide) (q_aload_n c_145_26 rfl (v_gi (z := 0) (v := 1) c_145_27 kf_8_3 rfl (nb_ rfl) rfl rfl ((up_c (nn rfl)).trans (up_e rfl)) (v_if_ne_t (t := 37) c_145_30 rfl (by decide) ?_))))))))
    refine q_iconst c_145_37 (v_zret c_145_38 rfl (by decide) (bk_inl (v_zret c_212_14 rfl (by decide) (bk_inl (v_if_eq_t (t := 32) c_215_14 rfl (by decide) (q_iconst c_215_32 (q_iret c_215_33 rfl ?_)))))))
    have hI_5 := iw_41_0 (v := 0) hI ⟨by decide, by decide⟩
    have hI_6 := iw_41_0 (v := 1) hI_5 ⟨by decide, by decide⟩
    have hI_7 := iw_42 (j := 0) (v := y_4) hI_6 ⟨hy_4.1, hy_4.2⟩
    exact K (up (up (up c 41 0 0) 41 0 1) 42 0 y_4) 0 hI_7 (fun a j hm => (up_b (Decidable.or_iff_not_imp_left.mpr (fun h1 h2 => hm (Or.inr (Decidable.not_not.mp h1))))).trans ((up_b (Decidable.or_iff_not_imp_left.mpr (fun h1 h2 => hm (Or.inl ⟨Decidable.not_not.mp h1, h2⟩)))).trans (up_b (Decidable.or_iff_not_imp_left.mpr (fun h1 h2 => hm (Or.inl ⟨Decidable.not_not.mp h1, h2⟩)))))) ⟨by decide, by decide⟩
  · refine v_ic_lt_f (t := 14) c_146_2 rfl ⟨by decide, (Int.not_lt.mp h_2), ha1.2⟩ (q_iload_n c_146_5 rfl (q_iload_n c_146_6 rfl ?_))
    by_cases h_8 : a1 > c 41 22 - 1
    · refine v_ic_gt_t (t := 14) c_146_7 rfl ⟨by first | exact rgm_l h_1.1 (by decide) | omega, h_8, ha1.2⟩ (q_iconst c_146_14 (v_zret c_146_15 rfl (by decide) (bk_inl (q_iconst c_212_9 (q_iconst c_212_10 (v_cv c_212_11 km_8_203 rfl rfl (nb_ rfl) ⟨⟨rfl, rfl⟩, nb_ rfl, rfl⟩ (nb_ rfl) (nb_ rfl) (q_iload_n c_145_0 rfl ?_)))))))
      refine v_if_ne_f (t := 26) c_145_1 rfl (by decide) (q_aload_n c_145_4 rfl (v_gi (z := 0) (v := 0) c_145_5 kf_8_3 rfl (nb_ rfl) rfl rfl (up_e rfl) (v_if_ne_f (t := 26) c_145_8 rfl (by decide) (q_aload_n c_145_11 rfl (q_iload_n c_145_12 rfl (v_pi (z := 0) c_145_13 kf_8_3 rfl (nb_ rfl) rfl rfl rfl (by decide) (q_aload_n c_145_16 rfl ?_)))))))
      refine v_gr (t := 42) c_145_17 kf_8_7 rfl (nb_ rfl) rfl (q_iload_n c_145_20 rfl (q_dup2 c_145_21 ⟨rfl, rfl⟩ ?_))
      have h_9 := ir_42 hI 0
      refine v_ia (v := c 42 0) c_145_22 rfl (by decide) (by decide) (by decide) ((up_c (nn rfl)).trans (up_c (nn rfl))) (q_iconst c_145_23 (v_iadd (v := c 42 0 + 1) c_145_24 rfl (v_nrm (fun y_10 hy_10 => (v_is c_145_25 rfl (by decide) (by decide) (by decide) (q_aload_n c_145_26 rfl (v_gi (z := 0) (v := 1) c_145_27 kf_8_3 rfl (nb_ rfl) rfl rfl ((up_c (nn rfl)).trans (up_e rfl)) (v_if_ne_t (t := 37) c_145_30 rfl (by decide) ?_))))))))
      refine q_iconst c_145_37 (v_zret c_145_38 rfl (by decide) (bk_inl (v_zret c_212_14 rfl (by decide) (bk_inl (v_if_eq_t (t := 32) c_215_14 rfl (by decide) (q_iconst c_215_32 (q_iret c_215_33 rfl ?_)))))))
      have hI_11 := iw_41_0 (v := 0) hI ⟨by decide, by decide⟩
      have hI_12 := iw_41_0 (v := 1) hI_11 ⟨by decide, by decide⟩
      have hI_13 := iw_42 (j := 0) (v := y_10) hI_12 ⟨hy_10.1, hy_10.2⟩
      exact K (up (up (up c 41 0 0) 41 0 1) 42 0 y_10) 0 hI_13 (fun a j hm => (up_b (Decidable.or_iff_not_imp_left.mpr (fun h1 h2 => hm (Or.inr (Decidable.not_not.mp h1))))).trans ((up_b (Decidable.or_iff_not_imp_left.mpr (fun h1 h2 => hm (Or.inl ⟨Decidable.not_not.mp h1, h2⟩)))).trans (up_b (Decidable.or_iff_not_imp_left.mpr (fun h1 h2 => hm (Or.inl ⟨Decidable.not_not.mp h1, h2⟩)))))) ⟨by decide, by decide⟩
    · refine v_ic_gt_f (t := 14) c_146_7 rfl ⟨ha1.1, (Int.not_lt.mp h_8), by first | exact rgm_h h_1.2 (by decide) | omega⟩ (q_iconst c_146_10 (q_goto (t := 15) c_146_11 rfl (v_zret c_146_15 rfl (by decide) (bk_inl (q_iconst c_212_9 (q_iconst c_212_10 (v_cv c_212_11 km_8_203 rfl rfl (nb_ rfl) ⟨⟨rfl, rfl⟩, nb_ rfl, rfl⟩ (nb_ rfl) (nb_ rfl) ?_)))))))
      refine q_iload_n c_145_0 rfl (v_if_ne_t (t := 26) c_145_1 rfl (by decide) (q_aload_n c_145_26 rfl (v_gi (z := 0) (v := 0) c_145_27 kf_8_3 rfl (nb_ rfl) rfl rfl (up_e rfl) (v_if_ne_f (t := 37) c_145_30 rfl (by decide) (q_iconst c_145_33 (q_goto (t := 38) c_145_34 rfl (v_zret c_145_38 rfl (by decide) ?_)))))))
      refine bk_inl (v_zret c_212_14 rfl (by decide) (bk_inl (v_if_eq_f (t := 32) c_215_14 rfl (by decide) (q_aload_n c_215_17 rfl (q_iload_n c_215_18 rfl (q_iconst c_215_19 (q_iconst c_215_20 ?_)))))))
      refine q_call c_215_21 rfl rfl rfl (q_iload_n c_146_0 rfl (q_iload_n c_146_1 rfl ?_))
      by_cases h_14 : a2 < 0
      · refine v_ic_lt_t (t := 14) c_146_2 rfl ⟨ha2.1, h_14, by decide⟩ (q_iconst c_146_14 (v_zret c_146_15 rfl (by decide) (bk_inl (q_iconst c_215_24 (q_iconst c_215_25 (v_cv c_215_26 km_8_203 rfl rfl (nb_ rfl) ⟨⟨rfl, rfl⟩, nb_ rfl, rfl⟩ (nb_ rfl) (nb_ rfl) (q_iload_n c_145_0 rfl ?_)))))))
        refine v_if_ne_f (t := 26) c_145_1 rfl (by decide) (q_aload_n c_145_4 rfl (v_gi (z := 0) (v := 0) c_145_5 kf_8_3 rfl (nb_ rfl) rfl rfl (up_e rfl) (v_if_ne_f (t := 26) c_145_8 rfl (by decide) (q_aload_n c_145_11 rfl (q_iload_n c_145_12 rfl (v_pi (z := 0) c_145_13 kf_8_3 rfl (nb_ rfl) rfl rfl rfl (by decide) (q_aload_n c_145_16 rfl ?_)))))))
        refine v_gr (t := 42) c_145_17 kf_8_7 rfl (nb_ rfl) rfl (q_iload_n c_145_20 rfl (q_dup2 c_145_21 ⟨rfl, rfl⟩ ?_))
        have h_15 := ir_42 hI 1
        refine v_ia (v := c 42 1) c_145_22 rfl (by decide) (by decide) (by decide) ((up_c (nn rfl)).trans (up_c (nn rfl))) (q_iconst c_145_23 (v_iadd (v := c 42 1 + 1) c_145_24 rfl (v_nrm (fun y_16 hy_16 => (v_is c_145_25 rfl (by decide) (by decide) (by decide) (q_aload_n c_145_26 rfl (v_gi (z := 0) (v := 2) c_145_27 kf_8_3 rfl (nb_ rfl) rfl rfl ((up_c (nn rfl)).trans (up_e rfl)) (v_if_ne_t (t := 37) c_145_30 rfl (by decide) ?_))))))))
        refine q_iconst c_145_37 (v_zret c_145_38 rfl (by decide) (bk_inl (v_if_ne_f (t := 34) c_215_29 rfl (by decide) (q_iconst c_215_32 (q_iret c_215_33 rfl ?_)))))
        have hI_17 := iw_41_0 (v := 0) hI ⟨by decide, by decide⟩
        have hI_18 := iw_41_0 (v := 2) hI_17 ⟨by decide, by decide⟩
        have hI_19 := iw_42 (j := 1) (v := y_16) hI_18 ⟨hy_16.1, hy_16.2⟩
        exact K (up (up (up c 41 0 0) 41 0 2) 42 1 y_16) 0 hI_19 (fun a j hm => (up_b (Decidable.or_iff_not_imp_left.mpr (fun h1 h2 => hm (Or.inr (Decidable.not_not.mp h1))))).trans ((up_b (Decidable.or_iff_not_imp_left.mpr (fun h1 h2 => hm (Or.inl ⟨Decidable.not_not.mp h1, h2⟩)))).trans (up_b (Decidable.or_iff_not_imp_left.mpr (fun h1 h2 => hm (Or.inl ⟨Decidable.not_not.mp h1, h2⟩)))))) ⟨by decide, by decide⟩
      · refine v_ic_lt_f (t := 14) c_146_2 rfl ⟨by decide, (Int.not_lt.mp h_14), ha2.2⟩ (q_iload_n c_146_5 rfl (q_iload_n c_146_6 rfl ?_))
        by_cases h_20 : a2 > 1
        · refine v_ic_gt_t (t := 14) c_146_7 rfl ⟨by decide, h_20, ha2.2⟩ (q_iconst c_146_14 (v_zret c_146_15 rfl (by decide) (bk_inl (q_iconst c_215_24 (q_iconst c_215_25 (v_cv c_215_26 km_8_203 rfl rfl (nb_ rfl) ⟨⟨rfl, rfl⟩, nb_ rfl, rfl⟩ (nb_ rfl) (nb_ rfl) (q_iload_n c_145_0 rfl ?_)))))))
          refine v_if_ne_f (t := 26) c_145_1 rfl (by decide) (q_aload_n c_145_4 rfl (v_gi (z := 0) (v := 0) c_145_5 kf_8_3 rfl (nb_ rfl) rfl rfl (up_e rfl) (v_if_ne_f (t := 26) c_145_8 rfl (by decide) (q_aload_n c_145_11 rfl (q_iload_n c_145_12 rfl (v_pi (z := 0) c_145_13 kf_8_3 rfl (nb_ rfl) rfl rfl rfl (by decide) (q_aload_n c_145_16 rfl ?_)))))))
          refine v_gr (t := 42) c_145_17 kf_8_7 rfl (nb_ rfl) rfl (q_iload_n c_145_20 rfl (q_dup2 c_145_21 ⟨rfl, rfl⟩ ?_))
          have h_21 := ir_42 hI 1
          refine v_ia (v := c 42 1) c_145_22 rfl (by decide) (by decide) (by decide) ((up_c (nn rfl)).trans (up_c (nn rfl))) (q_iconst c_145_23 (v_iadd (v := c 42 1 + 1) c_145_24 rfl (v_nrm (fun y_22 hy_22 => (v_is c_145_25 rfl (by decide) (by decide) (by decide) (q_aload_n c_145_26 rfl (v_gi (z := 0) (v := 2) c_145_27 kf_8_3 rfl (nb_ rfl) rfl rfl ((up_c (nn rfl)).trans (up_e rfl)) (v_if_ne_t (t := 37) c_145_30 rfl (by decide) ?_))))))))
          refine q_iconst c_145_37 (v_zret c_145_38 rfl (by decide) (bk_inl (v_if_ne_f (t := 34) c_215_29 rfl (by decide) (q_iconst c_215_32 (q_iret c_215_33 rfl ?_)))))
          have hI_23 := iw_41_0 (v := 0) hI ⟨by decide, by decide⟩
          have hI_24 := iw_41_0 (v := 2) hI_23 ⟨by decide, by decide⟩
          have hI_25 := iw_42 (j := 1) (v := y_22) hI_24 ⟨hy_22.1, hy_22.2⟩
          exact K (up (up (up c 41 0 0) 41 0 2) 42 1 y_22) 0 hI_25 (fun a j hm => (up_b (Decidable.or_iff_not_imp_left.mpr (fun h1 h2 => hm (Or.inr (Decidable.not_not.mp h1))))).trans ((up_b (Decidable.or_iff_not_imp_left.mpr (fun h1 h2 => hm (Or.inl ⟨Decidable.not_not.mp h1, h2⟩)))).trans (up_b (Decidable.or_iff_not_imp_left.mpr (fun h1 h2 => hm (Or.inl ⟨Decidable.not_not.mp h1, h2⟩)))))) ⟨by decide, by decide⟩
        · refine v_ic_gt_f (t := 14) c_146_7 rfl ⟨ha2.1, (Int.not_lt.mp h_20), by decide⟩ (q_iconst c_146_10 (q_goto (t := 15) c_146_11 rfl (v_zret c_146_15 rfl (by decide) (bk_inl (q_iconst c_215_24 (q_iconst c_215_25 (v_cv c_215_26 km_8_203 rfl rfl (nb_ rfl) ⟨⟨rfl, rfl⟩, nb_ rfl, rfl⟩ (nb_ rfl) (nb_ rfl) ?_)))))))
          refine q_iload_n c_145_0 rfl (v_if_ne_t (t := 26) c_145_1 rfl (by decide) (q_aload_n c_145_26 rfl (v_gi (z := 0) (v := 0) c_145_27 kf_8_3 rfl (nb_ rfl) rfl rfl (up_e rfl) (v_if_ne_f (t := 37) c_145_30 rfl (by decide) (q_iconst c_145_33 (q_goto (t := 38) c_145_34 rfl (v_zret c_145_38 rfl (by decide) ?_)))))))
          refine bk_inl (v_if_ne_t (t := 34) c_215_29 rfl (by decide) (q_iload_n c_215_34 rfl ?_))
          by_cases h_26 : a2 ≠ 0
          · refine v_if_ne_t (t := 47) c_215_35 rfl ⟨h_26, ⟨ha2.1, ha2.2⟩, by decide, by decide⟩ (q_aload_n c_215_47 rfl (v_gr (t := 58) c_215_48 kf_8_65 rfl (nb_ rfl) rfl (v_bip c_215_51 (by decide) (q_iload_n c_215_53 rfl (v_iadd (v := a1 + 30) c_215_54 (by first | exact q_1025bcab1 | omega) ?_)))))
            have h_27 := ir_58 hI (a1 + 30)
            refine v_ia (v := c 58 (a1 + 30)) c_215_55 rfl (by decide) (by decide) ⟨by first | exact q_18ebff911 h_2 | omega, by first | exact q_ebe6a6f81 h_1 h_8 | omega⟩ (up_c (nn rfl)) (q_iret c_215_56 rfl ?_)
            have hI_28 := iw_41_0 (v := 0) hI ⟨by decide, by decide⟩
            exact K (up c 41 0 0) (c 58 (a1 + 30)) hI_28 (fun a j hm => up_b (Decidable.or_iff_not_imp_left.mpr (fun h1 h2 => hm (Or.inl ⟨Decidable.not_not.mp h1, h2⟩)))) h_27
          · refine v_if_ne_f (t := 47) c_215_35 rfl (Decidable.not_not.mp h_26) (q_aload_n c_215_38 rfl (v_gr (t := 49) c_215_39 kf_8_38 rfl (nb_ rfl) rfl (q_iload_n c_215_42 rfl ?_)))
            have h_29 := ir_49 hI a1
            refine v_ia (v := c 49 a1) c_215_43 rfl (by decide) (by decide) ⟨by first | exact q_720657ba9 h_2 | omega, by first | exact q_0435250f0 h_1 h_8 | omega⟩ (up_c (nn rfl)) (q_goto (t := 56) c_215_44 rfl (q_iret c_215_56 rfl ?_))
            have hI_30 := iw_41_0 (v := 0) hI ⟨by decide, by decide⟩
            exact K (up c 41 0 0) (c 49 a1) hI_30 (fun a j hm => up_b (Decidable.or_iff_not_imp_left.mpr (fun h1 h2 => hm (Or.inl ⟨Decidable.not_not.mp h1, h2⟩)))) ⟨(Int.le_trans (by decide) h_29.1), (Int.le_trans h_29.2 (by decide))⟩

set_option maxRecDepth 100000 in
set_option maxHeartbeats 4000000 in
theorem s_216 {sc : List Int32} {d P Q : Nat} {c : ME} {a1 : Int} {Z : AR → Prop} (hI : Iv 0 (-1) P Q c) (ha1 : (-2147483648) ≤ a1 ∧ a1 ≤ 2147483647) (K : ∀ (c2 : ME) (y : Int), Iv 0 (-1) P Q c2 → (∀ (a : Nat) (j : Int), ¬ ((a = 41 ∧ j = 0) ∨ a = 42 ∨ a = 59 ∨ a = 54 ∨ a = 55) → c2 a j = c a j) → (-2147483648) ≤ y ∧ y ≤ 2147483647 → Z (.inl (some (vi y)), Wd P Q P P c2, 0, 0)) : Wp sc (d + 12) 216 0 [(0, .ref 41), (1, vi a1)] [] (Wd P Q P P c) 0 0 Z := by
  have hP := iv_P hI
  have hQ := iv_Q hI
  refine q_aload_n c_216_0 rfl (q_iconst c_216_1 (v_pi (z := 0) c_216_2 kf_8_3 rfl (nb_ rfl) rfl rfl rfl (by decide) (q_aload_n c_216_5 rfl (q_iload_n c_216_6 rfl (q_aload_n c_216_7 rfl ?_)))))
  have h_1 := ir_41_20 hI
  refine v_gi (z := 20) (v := c 41 20) c_216_8 kf_8_157 rfl (nb_ rfl) rfl rfl (up_n (by decide)) (v_cv c_216_11 km_8_396 rfl rfl (nb_ rfl) ⟨⟨rfl, rfl⟩, nb_ rfl, rfl⟩ (nb_ rfl) (nb_ rfl) (q_aload_n c_212_0 rfl (q_iload_n c_212_1 rfl (q_iconst c_212_2 (q_iload_n c_212_3 rfl (q_iconst c_212_4 (v_isub (v := c 41 20 - 1) c_212_5 rfl ?_)))))))
  refine q_call c_212_6 rfl rfl rfl (q_iload_n c_146_0 rfl (q_iload_n c_146_1 rfl ?_))
  by_cases h_2 : a1 < 0
  · refine v_ic_lt_t (t := 14) c_146_2 rfl ⟨ha1.1, h_2, by decide⟩ (q_iconst c_146_14 (v_zret c_146_15 rfl (by decide) (bk_inl (q_iconst c_212_9 (q_iconst c_212_10 (v_cv c_212_11 km_8_203 rfl rfl (nb_ rfl) ⟨⟨rfl, rfl⟩, nb_ rfl, rfl⟩ (nb_ rfl) (nb_ rfl) (q_iload_n c_145_0 rfl ?_)))))))
    refine v_if_ne_f (t := 26) c_145_1 rfl (by decide) (q_aload_n c_145_4 rfl (v_gi (z := 0) (v := 0) c_145_5 kf_8_3 rfl (nb_ rfl) rfl rfl (up_e rfl) (v_if_ne_f (t := 26) c_145_8 rfl (by decide) (q_aload_n c_145_11 rfl (q_iload_n c_145_12 rfl (v_pi (z := 0) c_145_13 kf_8_3 rfl (nb_ rfl) rfl rfl rfl (by decide) (q_aload_n c_145_16 rfl ?_)))))))
    refine v_gr (t := 42) c_145_17 kf_8_7 rfl (nb_ rfl) rfl (q_iload_n c_145_20 rfl (q_dup2 c_145_21 ⟨rfl, rfl⟩ ?_))
    have h_3 := ir_42 hI 0
    refine v_ia (v := c 42 0) c_145_22 rfl (by decide) (by decide) (by decide) ((up_c (nn rfl)).trans (up_c (nn rfl))) (q_iconst c_145_23 (v_iadd (v := c 42 0 + 1) c_145_24 rfl (v_nrm (fun y_4 hy_4 => (v_is c_145_25 rfl (by decide) (by decide) (by decide) (q_aload_n c_145_26 rfl (v_gi (z := 0) (v := 1) c_145_27 kf_8_3 rfl (nb_ rfl) rfl rfl ((up_c (nn rfl)).trans (up_e rfl)) (v_if_ne_t (t := 37) c_145_30 rfl (by decide) ?_))))))))
    refine q_iconst c_145_37 (v_zret c_145_38 rfl (by decide) (bk_inl (v_zret c_212_14 rfl (by decide) (bk_inl (v_if_ne_f (t := 19) c_216_14 rfl (by decide) (q_iconst c_216_17 (q_iret c_216_18 rfl ?_)))))))
    have hI_5 := iw_41_0 (v := 0) hI ⟨by decide, by decide⟩
    have hI_6 := iw_41_0 (v := 1) hI_5 ⟨by decide, by decide⟩
    have hI_7 := iw_42 (j := 0) (v := y_4) hI_6 ⟨hy_4.1, hy_4.2⟩
    exact K (up (up (up c 41 0 0) 41 0 1) 42 0 y_4) 0 hI_7 (fun a j hm => (up_b (Decidable.or_iff_not_imp_left.mpr (fun h1 h2 => hm (Or.inr (Or.inl (Decidable.not_not.mp h1)))))).trans ((up_b (Decidable.or_iff_not_imp_left.mpr (fun h1 h2 => hm (Or.inl ⟨Decidable.not_not.mp h1, h2⟩)))).trans (up_b (Decidable.or_iff_not_imp_left.mpr (fun h1 h2 => hm (Or.inl ⟨Decidable.not_not.mp h1, h2⟩)))))) ⟨by decide, by decide⟩
  · refine v_ic_lt_f (t := 14) c_146_2 rfl ⟨by decide, (Int.not_lt.mp h_2), ha1.2⟩ (q_iload_n c_146_5 rfl (q_iload_n c_146_6 rfl ?_))
    by_cases h_8 : a1 > c 41 20 - 1
    · refine v_ic_gt_t (t := 14) c_146_7 rfl ⟨by first | exact rgm_l h_1.1 (by decide) | omega, h_8, ha1.2⟩ (q_iconst c_146_14 (v_zret c_146_15 rfl (by decide) (bk_inl (q_iconst c_212_9 (q_iconst c_212_10 (v_cv c_212_11 km_8_203 rfl rfl (nb_ rfl) ⟨⟨rfl, rfl⟩, nb_ rfl, rfl⟩ (nb_ rfl) (nb_ rfl) (q_iload_n c_145_0 rfl ?_)))))))
      refine v_if_ne_f (t := 26) c_145_1 rfl (by decide) (q_aload_n c_145_4 rfl (v_gi (z := 0) (v := 0) c_145_5 kf_8_3 rfl (nb_ rfl) rfl rfl (up_e rfl) (v_if_ne_f (t := 26) c_145_8 rfl (by decide) (q_aload_n c_145_11 rfl (q_iload_n c_145_12 rfl (v_pi (z := 0) c_145_13 kf_8_3 rfl (nb_ rfl) rfl rfl rfl (by decide) (q_aload_n c_145_16 rfl ?_)))))))
      refine v_gr (t := 42) c_145_17 kf_8_7 rfl (nb_ rfl) rfl (q_iload_n c_145_20 rfl (q_dup2 c_145_21 ⟨rfl, rfl⟩ ?_))
      have h_9 := ir_42 hI 0
      refine v_ia (v := c 42 0) c_145_22 rfl (by decide) (by decide) (by decide) ((up_c (nn rfl)).trans (up_c (nn rfl))) (q_iconst c_145_23 (v_iadd (v := c 42 0 + 1) c_145_24 rfl (v_nrm (fun y_10 hy_10 => (v_is c_145_25 rfl (by decide) (by decide) (by decide) (q_aload_n c_145_26 rfl (v_gi (z := 0) (v := 1) c_145_27 kf_8_3 rfl (nb_ rfl) rfl rfl ((up_c (nn rfl)).trans (up_e rfl)) (v_if_ne_t (t := 37) c_145_30 rfl (by decide) ?_))))))))
      refine q_iconst c_145_37 (v_zret c_145_38 rfl (by decide) (bk_inl (v_zret c_212_14 rfl (by decide) (bk_inl (v_if_ne_f (t := 19) c_216_14 rfl (by decide) (q_iconst c_216_17 (q_iret c_216_18 rfl ?_)))))))
      have hI_11 := iw_41_0 (v := 0) hI ⟨by decide, by decide⟩
      have hI_12 := iw_41_0 (v := 1) hI_11 ⟨by decide, by decide⟩
      have hI_13 := iw_42 (j := 0) (v := y_10) hI_12 ⟨hy_10.1, hy_10.2⟩
      exact K (up (up (up c 41 0 0) 41 0 1) 42 0 y_10) 0 hI_13 (fun a j hm => (up_b (Decidable.or_iff_not_imp_left.mpr (fun h1 h2 => hm (Or.inr (Or.inl (Decidable.not_not.mp h1)))))).trans ((up_b (Decidable.or_iff_not_imp_left.mpr (fun h1 h2 => hm (Or.inl ⟨Decidable.not_not.mp h1, h2⟩)))).trans (up_b (Decidable.or_iff_not_imp_left.mpr (fun h1 h2 => hm (Or.inl ⟨Decidable.not_not.mp h1, h2⟩)))))) ⟨by decide, by decide⟩
    · refine v_ic_gt_f (t := 14) c_146_7 rfl ⟨ha1.1, (Int.not_lt.mp h_8), by first | exact rgm_h h_1.2 (by decide) | omega⟩ (q_iconst c_146_10 (q_goto (t := 15) c_146_11 rfl (v_zret c_146_15 rfl (by decide) (bk_inl (q_iconst c_212_9 (q_iconst c_212_10 (v_cv c_212_11 km_8_203 rfl rfl (nb_ rfl) ⟨⟨rfl, rfl⟩, nb_ rfl, rfl⟩ (nb_ rfl) (nb_ rfl) ?_)))))))
      refine q_iload_n c_145_0 rfl (v_if_ne_t (t := 26) c_145_1 rfl (by decide) (q_aload_n c_145_26 rfl (v_gi (z := 0) (v := 0) c_145_27 kf_8_3 rfl (nb_ rfl) rfl rfl (up_e rfl) (v_if_ne_f (t := 37) c_145_30 rfl (by decide) (q_iconst c_145_33 (q_goto (t := 38) c_145_34 rfl (v_zret c_145_38 rfl (by decide) ?_)))))))
      refine bk_inl (v_zret c_212_14 rfl (by decide) (bk_inl (v_if_ne_t (t := 19) c_216_14 rfl (by decide) (q_aload_n c_216_19 rfl ?_))))
      have hI_14 := iw_41_0 (v := 0) hI ⟨by decide, by decide⟩
      refine v_cv c_216_20 km_8_317 rfl rfl (nb_ rfl) ⟨⟨rfl, rfl⟩, nb_ rfl, rfl⟩ (nb_ rfl) (nb_ rfl) (s_186 hI_14 (fun c_15 hI_16 hF_17 => (bk_inl (q_aload_n c_216_23 rfl (q_iload_n c_216_24 rfl (v_cv c_216_25 km_8_375 rfl rfl (nb_ rfl) ⟨⟨rfl, rfl⟩, nb_ rfl, rfl⟩ (nb_ rfl) (nb_ rfl) (s_196 (a1 := a1) hI_16 (show 0 ≤ a1 ∧ a1 ≤ 5 from ⟨by first | exact q_720657ba9 h_2 | omega, by first | exact q_3a2e67ab0 h_1 h_8 | omega⟩) (fun c_18 y_21 hI_19 hF_20 hy_21 => (bk_inl (q_iret c_216_28 rfl ?_))))))))))
      exact K c_18 y_21 hI_19 (fun a j hm => (hF_20 a j (qv_bcc235c24 hm)).trans ((hF_17 a j (fun h => hm (Or.inr (Or.inr (Or.inl h))))).trans (up_b (Decidable.or_iff_not_imp_left.mpr (fun h1 h2 => hm (Or.inl ⟨Decidable.not_not.mp h1, h2⟩)))))) ⟨(Int.le_trans (by decide) hy_21.1), (Int.le_trans hy_21.2 (by decide))⟩
end
section
/-! ===== contracts 20 ===== -/
theorem qv_60f9bb275 {a : Nat} {j : Int} (hm : ¬ ((a = 41 ∧ j = 0) ∨ a = 42 ∨ a = 54 ∨ a = 55)) : ¬ (a = 54 ∨ a = 55) := (fun q => q.elim (fun h => hm (Or.inr (Or.inr (Or.inl h)))) (fun h => hm (Or.inr (Or.inr (Or.inr h)))))
theorem q_c6184d3d7 {x0 x1 : Int} (f0 : ¬ (x0 < 0)) (f1 : ¬ (x1 < 0)) : 0 ≤ 4 * x0 + x1 := by omega
theorem q_9e2b4593f {x0 x1 x2 : Int} (f0 : 0 ≤ x0 ∧ x0 ≤ 6) (f1 : ¬ (x1 > x0 - 1)) (f2 : ¬ (x2 > 4)) : 4 * x1 + x2 < 37 := by omega
theorem c_217_0 : mLk 217 0 = some (.aload_n 0, 1) := rfl
theorem c_217_1 : mLk 217 1 = some (.iconst 0, 1) := rfl
theorem c_217_2 : mLk 217 2 = some (.putfield 3, 3) := rfl
theorem c_217_5 : mLk 217 5 = some (.aload_n 0, 1) := rfl
theorem c_217_6 : mLk 217 6 = some (.iload_n 1, 1) := rfl
theorem c_217_7 : mLk 217 7 = some (.iconst 0, 1) := rfl
theorem c_217_8 : mLk 217 8 = some (.sipush 9999, 3) := rfl
theorem c_217_11 : mLk 217 11 = some (.invokestatic 384, 3) := rfl
theorem c_217_14 : mLk 217 14 = some (.ifCond .eq 75, 3) := rfl
theorem c_217_89 : mLk 217 89 = some (.iconst 0, 1) := rfl
theorem c_217_90 : mLk 217 90 = some (.iconst 1, 1) := rfl
theorem c_217_91 : mLk 217 91 = some (.iconst 1, 1) := rfl
theorem c_217_92 : mLk 217 92 = some (.invokevirtual 203, 3) := rfl
theorem c_217_95 : mLk 217 95 = some (.ifCond .ne 5, 3) := rfl
theorem c_217_98 : mLk 217 98 = some (.iconst 0, 1) := rfl
theorem c_217_99 : mLk 217 99 = some (.ireturn, 1) := rfl
theorem c_217_17 : mLk 217 17 = some (.iload_n 2, 1) := rfl
theorem c_217_18 : mLk 217 18 = some (.iconst 0, 1) := rfl
theorem c_217_19 : mLk 217 19 = some (.sipush 9999, 3) := rfl
theorem c_217_22 : mLk 217 22 = some (.invokestatic 384, 3) := rfl
theorem c_217_25 : mLk 217 25 = some (.ifCond .eq 64, 3) := rfl
theorem c_217_28 : mLk 217 28 = some (.iload_n 3, 1) := rfl
theorem c_217_29 : mLk 217 29 = some (.iconst 0, 1) := rfl
theorem c_217_30 : mLk 217 30 = some (.sipush 9999, 3) := rfl
theorem c_217_33 : mLk 217 33 = some (.invokestatic 384, 3) := rfl
theorem c_217_36 : mLk 217 36 = some (.ifCond .eq 53, 3) := rfl
theorem c_217_39 : mLk 217 39 = some (.iload 4, 2) := rfl
theorem c_217_41 : mLk 217 41 = some (.iconst 0, 1) := rfl
theorem c_217_42 : mLk 217 42 = some (.sipush 9999, 3) := rfl
theorem c_217_45 : mLk 217 45 = some (.invokestatic 384, 3) := rfl
theorem c_217_48 : mLk 217 48 = some (.ifCond .eq 41, 3) := rfl
theorem c_217_51 : mLk 217 51 = some (.iload 5, 2) := rfl
theorem c_217_53 : mLk 217 53 = some (.iconst 0, 1) := rfl
theorem c_217_54 : mLk 217 54 = some (.sipush 400, 3) := rfl
theorem c_217_57 : mLk 217 57 = some (.invokestatic 384, 3) := rfl
theorem c_217_60 : mLk 217 60 = some (.ifCond .eq 29, 3) := rfl
theorem c_217_63 : mLk 217 63 = some (.iload 6, 2) := rfl
theorem c_217_65 : mLk 217 65 = some (.iconst 0, 1) := rfl
theorem c_217_66 : mLk 217 66 = some (.sipush 400, 3) := rfl
theorem c_217_69 : mLk 217 69 = some (.invokestatic 384, 3) := rfl
theorem c_217_72 : mLk 217 72 = some (.ifCond .eq 17, 3) := rfl
theorem c_217_75 : mLk 217 75 = some (.iload 7, 2) := rfl
theorem c_217_77 : mLk 217 77 = some (.iconst 0, 1) := rfl
theorem c_217_78 : mLk 217 78 = some (.iconst 5, 1) := rfl
theorem c_217_79 : mLk 217 79 = some (.invokestatic 384, 3) := rfl
theorem c_217_82 : mLk 217 82 = some (.ifCond .eq 7, 3) := rfl
theorem c_217_85 : mLk 217 85 = some (.iconst 1, 1) := rfl
theorem c_217_86 : mLk 217 86 = some (.goto 4, 3) := rfl
theorem c_217_100 : mLk 217 100 = some (.aload_n 0, 1) := rfl
theorem c_217_101 : mLk 217 101 = some (.iload_n 1, 1) := rfl
theorem c_217_102 : mLk 217 102 = some (.iload_n 2, 1) := rfl
theorem c_217_103 : mLk 217 103 = some (.iload_n 3, 1) := rfl
theorem c_217_104 : mLk 217 104 = some (.iload 4, 2) := rfl
theorem c_217_106 : mLk 217 106 = some (.iload 5, 2) := rfl
theorem c_217_108 : mLk 217 108 = some (.iload 6, 2) := rfl
theorem c_217_110 : mLk 217 110 = some (.iload 7, 2) := rfl
theorem c_217_112 : mLk 217 112 = some (.invokevirtual 359, 3) := rfl
theorem c_217_115 : mLk 217 115 = some (.ireturn, 1) := rfl
theorem c_218_0 : mLk 218 0 = some (.aload_n 0, 1) := rfl
theorem c_218_1 : mLk 218 1 = some (.iconst 0, 1) := rfl
theorem c_218_2 : mLk 218 2 = some (.putfield 3, 3) := rfl
theorem c_218_5 : mLk 218 5 = some (.aload_n 0, 1) := rfl
theorem c_218_6 : mLk 218 6 = some (.iload_n 1, 1) := rfl
theorem c_218_7 : mLk 218 7 = some (.aload_n 0, 1) := rfl
theorem c_218_8 : mLk 218 8 = some (.getfield 160, 3) := rfl
theorem c_218_11 : mLk 218 11 = some (.invokevirtual 396, 3) := rfl
theorem c_218_14 : mLk 218 14 = some (.ifCond .eq 30, 3) := rfl
theorem c_218_44 : mLk 218 44 = some (.iconst 0, 1) := rfl
theorem c_218_45 : mLk 218 45 = some (.ireturn, 1) := rfl
theorem c_218_17 : mLk 218 17 = some (.aload_n 0, 1) := rfl
theorem c_218_18 : mLk 218 18 = some (.iload_n 2, 1) := rfl
theorem c_218_19 : mLk 218 19 = some (.aload_n 0, 1) := rfl
theorem c_218_20 : mLk 218 20 = some (.getfield 157, 3) := rfl
theorem c_218_23 : mLk 218 23 = some (.invokevirtual 396, 3) := rfl
theorem c_218_26 : mLk 218 26 = some (.ifCond .eq 18, 3) := rfl
theorem c_218_29 : mLk 218 29 = some (.aload_n 0, 1) := rfl
theorem c_218_30 : mLk 218 30 = some (.iload_n 3, 1) := rfl
theorem c_218_31 : mLk 218 31 = some (.iconst 0, 1) := rfl
theorem c_218_32 : mLk 218 32 = some (.iconst 4, 1) := rfl
theorem c_218_33 : mLk 218 33 = some (.invokestatic 384, 3) := rfl
theorem c_218_36 : mLk 218 36 = some (.iconst 2, 1) := rfl
theorem c_218_37 : mLk 218 37 = some (.iconst 1, 1) := rfl
theorem c_218_38 : mLk 218 38 = some (.invokevirtual 203, 3) := rfl
theorem c_218_41 : mLk 218 41 = some (.ifCond .ne 5, 3) := rfl
theorem c_218_46 : mLk 218 46 = some (.aload_n 0, 1) := rfl
theorem c_218_47 : mLk 218 47 = some (.invokevirtual 317, 3) := rfl
theorem c_218_50 : mLk 218 50 = some (.aload_n 0, 1) := rfl
theorem c_218_51 : mLk 218 51 = some (.getfield 68, 3) := rfl
theorem c_218_54 : mLk 218 54 = some (.bipush 35, 2) := rfl
theorem c_218_56 : mLk 218 56 = some (.iaload, 1) := rfl
theorem c_218_57 : mLk 218 57 = some (.istore 4, 2) := rfl
theorem c_218_59 : mLk 218 59 = some (.aload_n 0, 1) := rfl
theorem c_218_60 : mLk 218 60 = some (.iload_n 1, 1) := rfl
theorem c_218_61 : mLk 218 61 = some (.iload_n 2, 1) := rfl
theorem c_218_62 : mLk 218 62 = some (.invokevirtual 335, 3) := rfl
theorem c_218_65 : mLk 218 65 = some (.pop, 1) := rfl
theorem c_218_66 : mLk 218 66 = some (.iload_n 3, 1) := rfl
theorem c_218_67 : mLk 218 67 = some (.iconst 4, 1) := rfl
theorem c_218_68 : mLk 218 68 = some (.if_icmp .ne 16, 3) := rfl
theorem c_218_84 : mLk 218 84 = some (.aload_n 0, 1) := rfl
theorem c_218_85 : mLk 218 85 = some (.getfield 68, 3) := rfl
theorem c_218_88 : mLk 218 88 = some (.iconst 4, 1) := rfl
theorem c_218_89 : mLk 218 89 = some (.iload_n 2, 1) := rfl
theorem c_218_90 : mLk 218 90 = some (.imul, 1) := rfl
theorem c_218_91 : mLk 218 91 = some (.iload_n 3, 1) := rfl
theorem c_218_92 : mLk 218 92 = some (.iadd, 1) := rfl
theorem c_218_93 : mLk 218 93 = some (.iaload, 1) := rfl
theorem c_218_94 : mLk 218 94 = some (.ireturn, 1) := rfl
theorem c_218_71 : mLk 218 71 = some (.aload_n 0, 1) := rfl
theorem c_218_72 : mLk 218 72 = some (.getfield 68, 3) := rfl
theorem c_218_75 : mLk 218 75 = some (.bipush 35, 2) := rfl
theorem c_218_77 : mLk 218 77 = some (.iaload, 1) := rfl
theorem c_218_78 : mLk 218 78 = some (.iload 4, 2) := rfl
theorem c_218_80 : mLk 218 80 = some (.isub, 1) := rfl
theorem c_218_81 : mLk 218 81 = some (.goto 13, 3) := rfl
theorem c_219_0 : mLk 219 0 = some (.aload_n 0, 1) := rfl
theorem c_219_1 : mLk 219 1 = some (.iconst 0, 1) := rfl
theorem c_219_2 : mLk 219 2 = some (.putfield 3, 3) := rfl
theorem c_219_5 : mLk 219 5 = some (.aload_n 0, 1) := rfl
theorem c_219_6 : mLk 219 6 = some (.iload_n 1, 1) := rfl
theorem c_219_7 : mLk 219 7 = some (.aload_n 0, 1) := rfl
theorem c_219_8 : mLk 219 8 = some (.getfield 163, 3) := rfl
theorem c_219_11 : mLk 219 11 = some (.invokevirtual 396, 3) := rfl
theorem c_219_14 : mLk 219 14 = some (.ifCond .eq 30, 3) := rfl
theorem c_219_44 : mLk 219 44 = some (.iconst 0, 1) := rfl
theorem c_219_45 : mLk 219 45 = some (.ireturn, 1) := rfl
theorem c_219_17 : mLk 219 17 = some (.aload_n 0, 1) := rfl
theorem c_219_18 : mLk 219 18 = some (.iload_n 2, 1) := rfl
theorem c_219_19 : mLk 219 19 = some (.aload_n 0, 1) := rfl
theorem c_219_20 : mLk 219 20 = some (.getfield 157, 3) := rfl
theorem c_219_23 : mLk 219 23 = some (.invokevirtual 396, 3) := rfl
theorem c_219_26 : mLk 219 26 = some (.ifCond .eq 18, 3) := rfl
theorem c_219_29 : mLk 219 29 = some (.aload_n 0, 1) := rfl
theorem c_219_30 : mLk 219 30 = some (.iload_n 3, 1) := rfl
theorem c_219_31 : mLk 219 31 = some (.iconst 0, 1) := rfl
theorem c_219_32 : mLk 219 32 = some (.iconst 4, 1) := rfl
theorem c_219_33 : mLk 219 33 = some (.invokestatic 384, 3) := rfl
theorem c_219_36 : mLk 219 36 = some (.iconst 2, 1) := rfl
theorem c_219_37 : mLk 219 37 = some (.iconst 1, 1) := rfl
theorem c_219_38 : mLk 219 38 = some (.invokevirtual 203, 3) := rfl
theorem c_219_41 : mLk 219 41 = some (.ifCond .ne 5, 3) := rfl
theorem c_219_46 : mLk 219 46 = some (.aload_n 0, 1) := rfl
theorem c_219_47 : mLk 219 47 = some (.invokevirtual 317, 3) := rfl
theorem c_219_50 : mLk 219 50 = some (.iload_n 3, 1) := rfl
theorem c_219_51 : mLk 219 51 = some (.iconst 4, 1) := rfl
theorem c_219_52 : mLk 219 52 = some (.if_icmp .ne 12, 3) := rfl
theorem c_219_64 : mLk 219 64 = some (.aload_n 0, 1) := rfl
theorem c_219_65 : mLk 219 65 = some (.iload_n 1, 1) := rfl
theorem c_219_66 : mLk 219 66 = some (.iload_n 2, 1) := rfl
theorem c_219_67 : mLk 219 67 = some (.iload_n 3, 1) := rfl
theorem c_219_68 : mLk 219 68 = some (.invokevirtual 363, 3) := rfl
theorem c_219_71 : mLk 219 71 = some (.ireturn, 1) := rfl
theorem c_219_55 : mLk 219 55 = some (.aload_n 0, 1) := rfl
theorem c_219_56 : mLk 219 56 = some (.iload_n 1, 1) := rfl
theorem c_219_57 : mLk 219 57 = some (.iload_n 2, 1) := rfl
theorem c_219_58 : mLk 219 58 = some (.invokevirtual 366, 3) := rfl
theorem c_219_61 : mLk 219 61 = some (.goto 10, 3) := rfl
theorem c_220_55 : mLk 220 55 = some (.iload 4, 2) := rfl
theorem c_220_57 : mLk 220 57 = some (.bipush 99, 2) := rfl
theorem c_220_59 : mLk 220 59 = some (.if_icmp .gt 36, 3) := rfl
theorem c_220_95 : mLk 220 95 = some (.iconst (-1), 1) := rfl
theorem c_220_96 : mLk 220 96 = some (.ireturn, 1) := rfl
theorem c_220_62 : mLk 220 62 = some (.aload_n 0, 1) := rfl
theorem c_220_63 : mLk 220 63 = some (.iload_n 1, 1) := rfl
theorem c_220_64 : mLk 220 64 = some (.invokevirtual 343, 3) := rfl
theorem c_220_67 : mLk 220 67 = some (.ifCond .le 28, 3) := rfl
theorem c_220_70 : mLk 220 70 = some (.aload_n 0, 1) := rfl
theorem c_220_71 : mLk 220 71 = some (.iload_n 1, 1) := rfl
theorem c_220_72 : mLk 220 72 = some (.invokevirtual 399, 3) := rfl
theorem c_220_75 : mLk 220 75 = some (.iload_n 3, 1) := rfl
theorem c_220_76 : mLk 220 76 = some (.if_icmp .lt 6, 3) := rfl
theorem c_220_82 : mLk 220 82 = some (.aload_n 0, 1) := rfl
theorem c_220_83 : mLk 220 83 = some (.iload_n 2, 1) := rfl
theorem c_220_84 : mLk 220 84 = some (.iload_n 1, 1) := rfl
theorem c_220_85 : mLk 220 85 = some (.invokevirtual 335, 3) := rfl
theorem c_220_88 : mLk 220 88 = some (.pop, 1) := rfl
theorem c_220_89 : mLk 220 89 = some (.iinc 4 1, 3) := rfl
theorem c_220_92 : mLk 220 92 = some (.goto (-37), 3) := rfl
theorem c_220_79 : mLk 220 79 = some (.iload 4, 2) := rfl
theorem c_220_81 : mLk 220 81 = some (.ireturn, 1) := rfl
theorem c_220_0 : mLk 220 0 = some (.aload_n 0, 1) := rfl
theorem c_220_1 : mLk 220 1 = some (.iconst 0, 1) := rfl
theorem c_220_2 : mLk 220 2 = some (.putfield 3, 3) := rfl
theorem c_220_5 : mLk 220 5 = some (.aload_n 0, 1) := rfl
theorem c_220_6 : mLk 220 6 = some (.iload_n 1, 1) := rfl
theorem c_220_7 : mLk 220 7 = some (.aload_n 0, 1) := rfl
theorem c_220_8 : mLk 220 8 = some (.getfield 157, 3) := rfl
theorem c_220_11 : mLk 220 11 = some (.invokevirtual 396, 3) := rfl
theorem c_220_14 : mLk 220 14 = some (.ifCond .eq 32, 3) := rfl
theorem c_220_46 : mLk 220 46 = some (.iconst 0, 1) := rfl
theorem c_220_47 : mLk 220 47 = some (.ireturn, 1) := rfl
theorem c_220_17 : mLk 220 17 = some (.aload_n 0, 1) := rfl
theorem c_220_18 : mLk 220 18 = some (.iload_n 2, 1) := rfl
theorem c_220_19 : mLk 220 19 = some (.aload_n 0, 1) := rfl
theorem c_220_20 : mLk 220 20 = some (.getfield 160, 3) := rfl
theorem c_220_23 : mLk 220 23 = some (.invokevirtual 396, 3) := rfl
theorem c_220_26 : mLk 220 26 = some (.ifCond .eq 20, 3) := rfl
theorem c_220_29 : mLk 220 29 = some (.aload_n 0, 1) := rfl
theorem c_220_30 : mLk 220 30 = some (.iload_n 3, 1) := rfl
theorem c_220_31 : mLk 220 31 = some (.iconst 0, 1) := rfl
theorem c_220_32 : mLk 220 32 = some (.sipush 1000, 3) := rfl
theorem c_220_35 : mLk 220 35 = some (.invokestatic 384, 3) := rfl
theorem c_220_38 : mLk 220 38 = some (.iconst 2, 1) := rfl
theorem c_220_39 : mLk 220 39 = some (.iconst 1, 1) := rfl
theorem c_220_40 : mLk 220 40 = some (.invokevirtual 203, 3) := rfl
theorem c_220_43 : mLk 220 43 = some (.ifCond .ne 5, 3) := rfl
theorem c_220_48 : mLk 220 48 = some (.aload_n 0, 1) := rfl
theorem c_220_49 : mLk 220 49 = some (.invokevirtual 317, 3) := rfl
theorem c_220_52 : mLk 220 52 = some (.iconst 0, 1) := rfl
theorem c_220_53 : mLk 220 53 = some (.istore 4, 2) := rfl
set_option maxRecDepth 100000 in
set_option maxHeartbeats 4000000 in
theorem s_217 {sc : List Int32} {e : Int} {d u P Q : Nat} {c : ME} {a1 : Int} {a2 : Int} {a3 : Int} {a4 : Int} {a5 : Int} {a6 : Int} {a7 : Int} {Z : AR → Prop} (hI : Iv u e P Q c) (ha1 : (-2147483648) ≤ a1 ∧ a1 ≤ 2147483647) (ha2 : (-2147483648) ≤ a2 ∧ a2 ≤ 2147483647) (ha3 : (-2147483648) ≤ a3 ∧ a3 ≤ 2147483647) (ha4 : (-2147483648) ≤ a4 ∧ a4 ≤ 2147483647) (ha5 : (-2147483648) ≤ a5 ∧ a5 ≤ 2147483647) (ha6 : (-2147483648) ≤ a6 ∧ a6 ≤ 2147483647) (ha7 : (-2147483648) ≤ a7 ∧ a7 ≤ 2147483647) (K : ∀ (c2 : ME) (y : Int), Iv u e P Q c2 → (∀ (a : Nat) (j : Int), ¬ ((a = 41 ∧ j = 0) ∨ a = 42 ∨ a = 54 ∨ a = 55) → c2 a j = c a j) → (-2147483648) ≤ y ∧ y ≤ 2147483647 → Z (.inl (some (vi y)), Wd P Q P P c2, 0, 0)) : Wp sc (d + 11) 217 0 [(0, .ref 41), (1, vi a1), (2, vi a2), (3, vi a3), (4, vi a4), (5, vi a5), (6, vi a6), (7, vi a7)] [] (Wd P Q P P c) 0 0 Z := by
  have hP := iv_P hI
  have hQ := iv_Q hI
  refine q_aload_n c_217_0 rfl (q_iconst c_217_1 (v_pi (z := 0) c_217_2 kf_8_3 rfl (nb_ rfl) rfl rfl rfl (by decide) (q_aload_n c_217_5 rfl (q_iload_n c_217_6 rfl (q_iconst c_217_7 (v_sip c_217_8 (by decide) (q_call c_217_11 rfl rfl rfl ?_)))))))
  refine q_iload_n c_146_0 rfl (q_iload_n c_146_1 rfl ?_)
  by_cases h_1 : a1 < 0
  · refine v_ic_lt_t (t := 14) c_146_2 rfl ⟨ha1.1, h_1, by decide⟩ (q_iconst c_146_14 (v_zret c_146_15 rfl (by decide) (bk_inl (v_if_eq_t (t := 89) c_217_14 rfl (by decide) (q_iconst c_217_89 (q_iconst c_217_90 (q_iconst c_217_91 ?_)))))))
    refine v_cv c_217_92 km_8_203 rfl rfl (nb_ rfl) ⟨⟨rfl, rfl⟩, nb_ rfl, rfl⟩ (nb_ rfl) (nb_ rfl) (q_iload_n c_145_0 rfl (v_if_ne_f (t := 26) c_145_1 rfl (by decide) (q_aload_n c_145_4 rfl (v_gi (z := 0) (v := 0) c_145_5 kf_8_3 rfl (nb_ rfl) rfl rfl (up_e rfl) (v_if_ne_f (t := 26) c_145_8 rfl (by decide) (q_aload_n c_145_11 rfl (q_iload_n c_145_12 rfl ?_)))))))
    refine v_pi (z := 0) c_145_13 kf_8_3 rfl (nb_ rfl) rfl rfl rfl (by decide) (q_aload_n c_145_16 rfl (v_gr (t := 42) c_145_17 kf_8_7 rfl (nb_ rfl) rfl (q_iload_n c_145_20 rfl (q_dup2 c_145_21 ⟨rfl, rfl⟩ ?_))))
    have h_2 := ir_42 hI 1
    refine v_ia (v := c 42 1) c_145_22 rfl (by decide) (by decide) (by decide) ((up_c (nn rfl)).trans (up_c (nn rfl))) (q_iconst c_145_23 (v_iadd (v := c 42 1 + 1) c_145_24 rfl (v_nrm (fun y_3 hy_3 => (v_is c_145_25 rfl (by decide) (by decide) (by decide) (q_aload_n c_145_26 rfl (v_gi (z := 0) (v := 1) c_145_27 kf_8_3 rfl (nb_ rfl) rfl rfl ((up_c (nn rfl)).trans (up_e rfl)) (v_if_ne_t (t := 37) c_145_30 rfl (by decide) ?_))))))))
    refine q_iconst c_145_37 (v_zret c_145_38 rfl (by decide) (bk_inl (v_if_ne_f (t := 100) c_217_95 rfl (by decide) (q_iconst c_217_98 (q_iret c_217_99 rfl ?_)))))
    have hI_4 := iw_41_0 (v := 0) hI ⟨by decide, by decide⟩
    have hI_5 := iw_41_0 (v := 1) hI_4 ⟨by decide, by decide⟩
    have hI_6 := iw_42 (j := 1) (v := y_3) hI_5 ⟨hy_3.1, hy_3.2⟩
    exact K (up (up (up c 41 0 0) 41 0 1) 42 1 y_3) 0 hI_6 (fun a j hm => (up_b (Decidable.or_iff_not_imp_left.mpr (fun h1 h2 => hm (Or.inr (Or.inl (Decidable.not_not.mp h1)))))).trans ((up_b (Decidable.or_iff_not_imp_left.mpr (fun h1 h2 => hm (Or.inl ⟨Decidable.not_not.mp h1, h2⟩)))).trans (up_b (Decidable.or_iff_not_imp_left.mpr (fun h1 h2 => hm (Or.inl ⟨Decidable.not_not.mp h1, h2⟩)))))) ⟨by decide, by decide⟩
  · refine v_ic_lt_f (t := 14) c_146_2 rfl ⟨by decide, (Int.not_lt.mp h_1), ha1.2⟩ (q_iload_n c_146_5 rfl (q_iload_n c_146_6 rfl ?_))
    by_cases h_7 : a1 > 9999
    · refine v_ic_gt_t (t := 14) c_146_7 rfl ⟨by decide, h_7, ha1.2⟩ (q_iconst c_146_14 (v_zret c_146_15 rfl (by decide) (bk_inl (v_if_eq_t (t := 89) c_217_14 rfl (by decide) (q_iconst c_217_89 (q_iconst c_217_90 (q_iconst c_217_91 ?_)))))))
      refine v_cv c_217_92 km_8_203 rfl rfl (nb_ rfl) ⟨⟨rfl, rfl⟩, nb_ rfl, rfl⟩ (nb_ rfl) (nb_ rfl) (q_iload_n c_145_0 rfl (v_if_ne_f (t := 26) c_145_1 rfl (by decide) (q_aload_n c_145_4 rfl (v_gi (z := 0) (v := 0) c_145_5 kf_8_3 rfl (nb_ rfl) rfl rfl (up_e rfl) (v_if_ne_f (t := 26) c_145_8 rfl (by decide) (q_aload_n c_145_11 rfl (q_iload_n c_145_12 rfl ?_)))))))
      refine v_pi (z := 0) c_145_13 kf_8_3 rfl (nb_ rfl) rfl rfl rfl (by decide) (q_aload_n c_145_16 rfl (v_gr (t := 42) c_145_17 kf_8_7 rfl (nb_ rfl) rfl (q_iload_n c_145_20 rfl (q_dup2 c_145_21 ⟨rfl, rfl⟩ ?_))))
      have h_8 := ir_42 hI 1
      refine v_ia (v := c 42 1) c_145_22 rfl (by decide) (by decide) (by decide) ((up_c (nn rfl)).trans (up_c (nn rfl))) (q_iconst c_145_23 (v_iadd (v := c 42 1 + 1) c_145_24 rfl (v_nrm (fun y_9 hy_9 => (v_is c_145_25 rfl (by decide) (by decide) (by decide) (q_aload_n c_145_26 rfl (v_gi (z := 0) (v := 1) c_145_27 kf_8_3 rfl (nb_ rfl) rfl rfl ((up_c (nn rfl)).trans (up_e rfl)) (v_if_ne_t (t := 37) c_145_30 rfl (by decide) ?_))))))))
      refine q_iconst c_145_37 (v_zret c_145_38 rfl (by decide) (bk_inl (v_if_ne_f (t := 100) c_217_95 rfl (by decide) (q_iconst c_217_98 (q_iret c_217_99 rfl ?_)))))
      have hI_10 := iw_41_0 (v := 0) hI ⟨by decide, by decide⟩
      have hI_11 := iw_41_0 (v := 1) hI_10 ⟨by decide, by decide⟩
      have hI_12 := iw_42 (j := 1) (v := y_9) hI_11 ⟨hy_9.1, hy_9.2⟩
      exact K (up (up (up c 41 0 0) 41 0 1) 42 1 y_9) 0 hI_12 (fun a j hm => (up_b (Decidable.or_iff_not_imp_left.mpr (fun h1 h2 => hm (Or.inr (Or.inl (Decidable.not_not.mp h1)))))).trans ((up_b (Decidable.or_iff_not_imp_left.mpr (fun h1 h2 => hm (Or.inl ⟨Decidable.not_not.mp h1, h2⟩)))).trans (up_b (Decidable.or_iff_not_imp_left.mpr (fun h1 h2 => hm (Or.inl ⟨Decidable.not_not.mp h1, h2⟩)))))) ⟨by decide, by decide⟩
    · refine v_ic_gt_f (t := 14) c_146_7 rfl ⟨ha1.1, (Int.not_lt.mp h_7), by decide⟩ (q_iconst c_146_10 (q_goto (t := 15) c_146_11 rfl (v_zret c_146_15 rfl (by decide) (bk_inl (v_if_eq_f (t := 89) c_217_14 rfl (by decide) (q_iload_n c_217_17 rfl (q_iconst c_217_18 ?_)))))))
      refine v_sip c_217_19 (by decide) (q_call c_217_22 rfl rfl rfl (q_iload_n c_146_0 rfl (q_iload_n c_146_1 rfl ?_)))
      by_cases h_13 : a2 < 0
      · refine v_ic_lt_t (t := 14) c_146_2 rfl ⟨ha2.1, h_13, by decide⟩ (q_iconst c_146_14 (v_zret c_146_15 rfl (by decide) (bk_inl (v_if_eq_t (t := 89) c_217_25 rfl (by decide) (q_iconst c_217_89 (q_iconst c_217_90 (q_iconst c_217_91 ?_)))))))
        refine v_cv c_217_92 km_8_203 rfl rfl (nb_ rfl) ⟨⟨rfl, rfl⟩, nb_ rfl, rfl⟩ (nb_ rfl) (nb_ rfl) (q_iload_n c_145_0 rfl (v_if_ne_f (t := 26) c_145_1 rfl (by decide) (q_aload_n c_145_4 rfl (v_gi (z := 0) (v := 0) c_145_5 kf_8_3 rfl (nb_ rfl) rfl rfl (up_e rfl) (v_if_ne_f (t := 26) c_145_8 rfl (by decide) (q_aload_n c_145_11 rfl (q_iload_n c_145_12 rfl ?_)))))))
        refine v_pi (z := 0) c_145_13 kf_8_3 rfl (nb_ rfl) rfl rfl rfl (by decide) (q_aload_n c_145_16 rfl (v_gr (t := 42) c_145_17 kf_8_7 rfl (nb_ rfl) rfl (q_iload_n c_145_20 rfl (q_dup2 c_145_21 ⟨rfl, rfl⟩ ?_))))
        have h_14 := ir_42 hI 1
        refine v_ia (v := c 42 1) c_145_22 rfl (by decide) (by decide) (by decide) ((up_c (nn rfl)).trans (up_c (nn rfl))) (q_iconst c_145_23 (v_iadd (v := c 42 1 + 1) c_145_24 rfl (v_nrm (fun y_15 hy_15 => (v_is c_145_25 rfl (by decide) (by decide) (by decide) (q_aload_n c_145_26 rfl (v_gi (z := 0) (v := 1) c_145_27 kf_8_3 rfl (nb_ rfl) rfl rfl ((up_c (nn rfl)).trans (up_e rfl)) (v_if_ne_t (t := 37) c_145_30 rfl (by decide) ?_))))))))
        refine q_iconst c_145_37 (v_zret c_145_38 rfl (by decide) (bk_inl (v_if_ne_f (t := 100) c_217_95 rfl (by decide) (q_iconst c_217_98 (q_iret c_217_99 rfl ?_)))))
        have hI_16 := iw_41_0 (v := 0) hI ⟨by decide, by decide⟩
        have hI_17 := iw_41_0 (v := 1) hI_16 ⟨by decide, by decide⟩
        have hI_18 := iw_42 (j := 1) (v := y_15) hI_17 ⟨hy_15.1, hy_15.2⟩
        exact K (up (up (up c 41 0 0) 41 0 1) 42 1 y_15) 0 hI_18 (fun a j hm => (up_b (Decidable.or_iff_not_imp_left.mpr (fun h1 h2 => hm (Or.inr (Or.inl (Decidable.not_not.mp h1)))))).trans ((up_b (Decidable.or_iff_not_imp_left.mpr (fun h1 h2 => hm (Or.inl ⟨Decidable.not_not.mp h1, h2⟩)))).trans (up_b (Decidable.or_iff_not_imp_left.mpr (fun h1 h2 => hm (Or.inl ⟨Decidable.not_not.mp h1, h2⟩)))))) ⟨by decide, by decide⟩
      · refine v_ic_lt_f (t := 14) c_146_2 rfl ⟨by decide, (Int.not_lt.mp h_13), ha2.2⟩ (q_iload_n c_146_5 rfl (q_iload_n c_146_6 rfl ?_))
        by_cases h_19 : a2 > 9999
        · refine v_ic_gt_t (t := 14) c_146_7 rfl ⟨by decide, h_19, ha2.2⟩ (q_iconst c_146_14 (v_zret c_146_15 rfl (by decide) (bk_inl (v_if_eq_t (t := 89) c_217_25 rfl (by decide) (q_iconst c_217_89 (q_iconst c_217_90 (q_iconst c_217_91 ?_)))))))
          refine v_cv c_217_92 km_8_203 rfl rfl (nb_ rfl) ⟨⟨rfl, rfl⟩, nb_ rfl, rfl⟩ (nb_ rfl) (nb_ rfl) (q_iload_n c_145_0 rfl (v_if_ne_f (t := 26) c_145_1 rfl (by decide) (q_aload_n c_145_4 rfl (v_gi (z := 0) (v := 0) c_145_5 kf_8_3 rfl (nb_ rfl) rfl rfl (up_e rfl) (v_if_ne_f (t := 26) c_145_8 rfl (by decide) (q_aload_n c_145_11 rfl (q_iload_n c_145_12 rfl ?_)))))))
          refine v_pi (z := 0) c_145_13 kf_8_3 rfl (nb_ rfl) rfl rfl rfl (by decide) (q_aload_n c_145_16 rfl (v_gr (t := 42) c_145_17 kf_8_7 rfl (nb_ rfl) rfl (q_iload_n c_145_20 rfl (q_dup2 c_145_21 ⟨rfl, rfl⟩ ?_))))
          have h_20 := ir_42 hI 1
          refine v_ia (v := c 42 1) c_145_22 rfl (by decide) (by decide) (by decide) ((up_c (nn rfl)).trans (up_c (nn rfl))) (q_iconst c_145_23 (v_iadd (v := c 42 1 + 1) c_145_24 rfl (v_nrm (fun y_21 hy_21 => (v_is c_145_25 rfl (by decide) (by decide) (by decide) (q_aload_n c_145_26 rfl (v_gi (z := 0) (v := 1) c_145_27 kf_8_3 rfl (nb_ rfl) rfl rfl ((up_c (nn rfl)).trans (up_e rfl)) (v_if_ne_t (t := 37) c_145_30 rfl (by decide) ?_))))))))
          refine q_iconst c_145_37 (v_zret c_145_38 rfl (by decide) (bk_inl (v_if_ne_f (t := 100) c_217_95 rfl (by decide) (q_iconst c_217_98 (q_iret c_217_99 rfl ?_)))))
          have hI_22 := iw_41_0 (v := 0) hI ⟨by decide, by decide⟩
          have hI_23 := iw_41_0 (v := 1) hI_22 ⟨by decide, by decide⟩
          have hI_24 := iw_42 (j := 1) (v := y_21) hI_23 ⟨hy_21.1, hy_21.2⟩
          exact K (up (up (up c 41 0 0) 41 0 1) 42 1 y_21) 0 hI_24 (fun a j hm => (up_b (Decidable.or_iff_not_imp_left.mpr (fun h1 h2 => hm (Or.inr (Or.inl (Decidable.not_not.mp h1)))))).trans ((up_b (Decidable.or_iff_not_imp_left.mpr (fun h1 h2 => hm (Or.inl ⟨Decidable.not_not.mp h1, h2⟩)))).trans (up_b (Decidable.or_iff_not_imp_left.mpr (fun h1 h2 => hm (Or.inl ⟨Decidable.not_not.mp h1, h2⟩)))))) ⟨by decide, by decide⟩
        · refine v_ic_gt_f (t := 14) c_146_7 rfl ⟨ha2.1, (Int.not_lt.mp h_19), by decide⟩ (q_iconst c_146_10 (q_goto (t := 15) c_146_11 rfl (v_zret c_146_15 rfl (by decide) (bk_inl (v_if_eq_f (t := 89) c_217_25 rfl (by decide) (q_iload_n c_217_28 rfl (q_iconst c_217_29 ?_)))))))
          refine v_sip c_217_30 (by decide) (q_call c_217_33 rfl rfl rfl (q_iload_n c_146_0 rfl (q_iload_n c_146_1 rfl ?_)))
          by_cases h_25 : a3 < 0
          · refine v_ic_lt_t (t := 14) c_146_2 rfl ⟨ha3.1, h_25, by decide⟩ (q_iconst c_146_14 (v_zret c_146_15 rfl (by decide) (bk_inl (v_if_eq_t (t := 89) c_217_36 rfl (by decide) (q_iconst c_217_89 (q_iconst c_217_90 (q_iconst c_217_91 ?_)))))))
            refine v_cv c_217_92 km_8_203 rfl rfl (nb_ rfl) ⟨⟨rfl, rfl⟩, nb_ rfl, rfl⟩ (nb_ rfl) (nb_ rfl) (q_iload_n c_145_0 rfl (v_if_ne_f (t := 26) c_145_1 rfl (by decide) (q_aload_n c_145_4 rfl (v_gi (z := 0) (v := 0) c_145_5 kf_8_3 rfl (nb_ rfl) rfl rfl (up_e rfl) (v_if_ne_f (t := 26) c_145_8 rfl (by decide) (q_aload_n c_145_11 rfl (q_iload_n c_145_12 rfl ?_)))))))
            refine v_pi (z := 0) c_145_13 kf_8_3 rfl (nb_ rfl) rfl rfl rfl (by decide) (q_aload_n c_145_16 rfl (v_gr (t := 42) c_145_17 kf_8_7 rfl (nb_ rfl) rfl (q_iload_n c_145_20 rfl (q_dup2 c_145_21 ⟨rfl, rfl⟩ ?_))))
            have h_26 := ir_42 hI 1
            refine v_ia (v := c 42 1) c_145_22 rfl (by decide) (by decide) (by decide) ((up_c (nn rfl)).trans (up_c (nn rfl))) (q_iconst c_145_23 (v_iadd (v := c 42 1 + 1) c_145_24 rfl (v_nrm (fun y_27 hy_27 => (v_is c_145_25 rfl (by decide) (by decide) (by decide) (q_aload_n c_145_26 rfl (v_gi (z := 0) (v := 1) c_145_27 kf_8_3 rfl (nb_ rfl) rfl rfl ((up_c (nn rfl)).trans (up_e rfl)) (v_if_ne_t (t := 37) c_145_30 rfl (by decide) ?_))))))))
            refine q_iconst c_145_37 (v_zret c_145_38 rfl (by decide) (bk_inl (v_if_ne_f (t := 100) c_217_95 rfl (by decide) (q_iconst c_217_98 (q_iret c_217_99 rfl ?_)))))
            have hI_28 := iw_41_0 (v := 0) hI ⟨by decide, by decide⟩
            have hI_29 := iw_41_0 (v := 1) hI_28 ⟨by decide, by decide⟩
            have hI_30 := iw_42 (j := 1) (v := y_27) hI_29 ⟨hy_27.1, hy_27.2⟩
            exact K (up (up (up c 41 0 0) 41 0 1) 42 1 y_27) 0 hI_30 (fun a j hm => (up_b (Decidable.or_iff_not_imp_left.mpr (fun h1 h2 => hm (Or.inr (Or.inl (Decidable.not_not.mp h1)))))).trans ((up_b (Decidable.or_iff_not_imp_left.mpr (fun h1 h2 => hm (Or.inl ⟨Decidable.not_not.mp h1, h2⟩)))).trans (up_b (Decidable.or_iff_not_imp_left.mpr (fun h1 h2 => hm (Or.inl ⟨Decidable.not_not.mp h1, h2⟩)))))) ⟨by decide, by decide⟩
          · refine v_ic_lt_f (t := 14) c_146_2 rfl ⟨by decide, (Int.not_lt.mp h_25), ha3.2⟩ (q_iload_n c_146_5 rfl (q_iload_n c_146_6 rfl ?_))
            by_cases h_31 : a3 > 9999
            · refine v_ic_gt_t (t := 14) c_146_7 rfl ⟨by decide, h_31, ha3.2⟩ (q_iconst c_146_14 (v_zret c_146_15 rfl (by decide) (bk_inl (v_if_eq_t (t := 89) c_217_36 rfl (by decide) (q_iconst c_217_89 (q_iconst c_217_90 (q_iconst c_217_91 ?_)))))))
              refine v_cv c_217_92 km_8_203 rfl rfl (nb_ rfl) ⟨⟨rfl, rfl⟩, nb_ rfl, rfl⟩ (nb_ rfl) (nb_ rfl) (q_iload_n c_145_0 rfl (v_if_ne_f (t := 26) c_145_1 rfl (by decide) (q_aload_n c_145_4 rfl (v_gi (z := 0) (v := 0) c_145_5 kf_8_3 rfl (nb_ rfl) rfl rfl (up_e rfl) (v_if_ne_f (t := 26) c_145_8 rfl (by decide) (q_aload_n c_145_11 rfl (q_iload_n c_145_12 rfl ?_)))))))
              refine v_pi (z := 0) c_145_13 kf_8_3 rfl (nb_ rfl) rfl rfl rfl (by decide) (q_aload_n c_145_16 rfl (v_gr (t := 42) c_145_17 kf_8_7 rfl (nb_ rfl) rfl (q_iload_n c_145_20 rfl (q_dup2 c_145_21 ⟨rfl, rfl⟩ ?_))))
              have h_32 := ir_42 hI 1
              refine v_ia (v := c 42 1) c_145_22 rfl (by decide) (by decide) (by decide) ((up_c (nn rfl)).trans (up_c (nn rfl))) (q_iconst c_145_23 (v_iadd (v := c 42 1 + 1) c_145_24 rfl (v_nrm (fun y_33 hy_33 => (v_is c_145_25 rfl (by decide) (by decide) (by decide) (q_aload_n c_145_26 rfl (v_gi (z := 0) (v := 1) c_145_27 kf_8_3 rfl (nb_ rfl) rfl rfl ((up_c (nn rfl)).trans (up_e rfl)) (v_if_ne_t (t := 37) c_145_30 rfl (by decide) ?_))))))))
              refine q_iconst c_145_37 (v_zret c_145_38 rfl (by decide) (bk_inl (v_if_ne_f (t := 100) c_217_95 rfl (by decide) (q_iconst c_217_98 (q_iret c_217_99 rfl ?_)))))
              have hI_34 := iw_41_0 (v := 0) hI ⟨by decide, by decide⟩
              have hI_35 := iw_41_0 (v := 1) hI_34 ⟨by decide, by decide⟩
              have hI_36 := iw_42 (j := 1) (v := y_33) hI_35 ⟨hy_33.1, hy_33.2⟩
              exact K (up (up (up c 41 0 0) 41 0 1) 42 1 y_33) 0 hI_36 (fun a j hm => (up_b (Decidable.or_iff_not_imp_left.mpr (fun h1 h2 => hm (Or.inr (Or.inl (Decidable.not_not.mp h1)))))).trans ((up_b (Decidable.or_iff_not_imp_left.mpr (fun h1 h2 => hm (Or.inl ⟨Decidable.not_not.mp h1, h2⟩)))).trans (up_b (Decidable.or_iff_not_imp_left.mpr (fun h1 h2 => hm (Or.inl ⟨Decidable.not_not.mp h1, h2⟩)))))) ⟨by decide, by decide⟩
            · refine v_ic_gt_f (t := 14) c_146_7 rfl ⟨ha3.1, (Int.not_lt.mp h_31), by decide⟩ (q_iconst c_146_10 (q_goto (t := 15) c_146_11 rfl (v_zret c_146_15 rfl (by decide) (bk_inl (v_if_eq_f (t := 89) c_217_36 rfl (by decide) (q_iload c_217_39 rfl (q_iconst c_217_41 ?_)))))))
              refine v_sip c_217_42 (by decide) (q_call c_217_45 rfl rfl rfl (q_iload_n c_146_0 rfl (q_iload_n c_146_1 rfl ?_)))
              by_cases h_37 : a4 < 0
              · refine v_ic_lt_t (t := 14) c_146_2 rfl ⟨ha4.1, h_37, by decide⟩ (q_iconst c_146_14 (v_zret c_146_15 rfl (by decide) (bk_inl (v_if_eq_t (t := 89) c_217_48 rfl (by decide) (q_iconst c_217_89 (q_iconst c_217_90 (q_iconst c_217_91 ?_)))))))
                refine v_cv c_217_92 km_8_203 rfl rfl (nb_ rfl) ⟨⟨rfl, rfl⟩, nb_ rfl, rfl⟩ (nb_ rfl) (nb_ rfl) (q_iload_n c_145_0 rfl (v_if_ne_f (t := 26) c_145_1 rfl (by decide) (q_aload_n c_145_4 rfl (v_gi (z := 0) (v := 0) c_145_5 kf_8_3 rfl (nb_ rfl) rfl rfl (up_e rfl) (v_if_ne_f (t := 26) c_145_8 rfl (by decide) (q_aload_n c_145_11 rfl (q_iload_n c_145_12 rfl ?_)))))))
                refine v_pi (z := 0) c_145_13 kf_8_3 rfl (nb_ rfl) rfl rfl rfl (by decide) (q_aload_n c_145_16 rfl (v_gr (t := 42) c_145_17 kf_8_7 rfl (nb_ rfl) rfl (q_iload_n c_145_20 rfl (q_dup2 c_145_21 ⟨rfl, rfl⟩ ?_))))
                have h_38 := ir_42 hI 1
                refine v_ia (v := c 42 1) c_145_22 rfl (by decide) (by decide) (by decide) ((up_c (nn rfl)).trans (up_c (nn rfl))) (q_iconst c_145_23 (v_iadd (v := c 42 1 + 1) c_145_24 rfl (v_nrm (fun y_39 hy_39 => (v_is c_145_25 rfl (by decide) (by decide) (by decide) (q_aload_n c_145_26 rfl (v_gi (z := 0) (v := 1) c_145_27 kf_8_3 rfl (nb_ rfl) rfl rfl ((up_c (nn rfl)).trans (up_e rfl)) (v_if_ne_t (t := 37) c_145_30 rfl (by decide) ?_))))))))
                refine q_iconst c_145_37 (v_zret c_145_38 rfl (by decide) (bk_inl (v_if_ne_f (t := 100) c_217_95 rfl (by decide) (q_iconst c_217_98 (q_iret c_217_99 rfl ?_)))))
                have hI_40 := iw_41_0 (v := 0) hI ⟨by decide, by decide⟩
                have hI_41 := iw_41_0 (v := 1) hI_40 ⟨by decide, by decide⟩
                have hI_42 := iw_42 (j := 1) (v := y_39) hI_41 ⟨hy_39.1, hy_39.2⟩
                exact K (up (up (up c 41 0 0) 41 0 1) 42 1 y_39) 0 hI_42 (fun a j hm => (up_b (Decidable.or_iff_not_imp_left.mpr (fun h1 h2 => hm (Or.inr (Or.inl (Decidable.not_not.mp h1)))))).trans ((up_b (Decidable.or_iff_not_imp_left.mpr (fun h1 h2 => hm (Or.inl ⟨Decidable.not_not.mp h1, h2⟩)))).trans (up_b (Decidable.or_iff_not_imp_left.mpr (fun h1 h2 => hm (Or.inl ⟨Decidable.not_not.mp h1, h2⟩)))))) ⟨by decide, by decide⟩
              · refine v_ic_lt_f (t := 14) c_146_2 rfl ⟨by decide, (Int.not_lt.mp h_37), ha4.2⟩ (q_iload_n c_146_5 rfl (q_iload_n c_146_6 rfl ?_))
                by_cases h_43 : a4 > 9999
                · refine v_ic_gt_t (t := 14) c_146_7 rfl ⟨by decide, h_43, ha4.2⟩ (q_iconst c_146_14 (v_zret c_146_15 rfl (by decide) (bk_inl (v_if_eq_t (t := 89) c_217_48 rfl (by decide) (q_iconst c_217_89 (q_iconst c_217_90 (q_iconst c_217_91 ?_)))))))
                  refine v_cv c_217_92 km_8_203 rfl rfl (nb_ rfl) ⟨⟨rfl, rfl⟩, nb_ rfl, rfl⟩ (nb_ rfl) (nb_ rfl) (q_iload_n c_145_0 rfl (v_if_ne_f (t := 26) c_145_1 rfl (by decide) (q_aload_n c_145_4 rfl (v_gi (z := 0) (v := 0) c_145_5 kf_8_3 rfl (nb_ rfl) rfl rfl (up_e rfl) (v_if_ne_f (t := 26) c_145_8 rfl (by decide) (q_aload_n c_145_11 rfl (q_iload_n c_145_12 rfl ?_)))))))
                  refine v_pi (z := 0) c_145_13 kf_8_3 rfl (nb_ rfl) rfl rfl rfl (by decide) (q_aload_n c_145_16 rfl (v_gr (t := 42) c_145_17 kf_8_7 rfl (nb_ rfl) rfl (q_iload_n c_145_20 rfl (q_dup2 c_145_21 ⟨rfl, rfl⟩ ?_))))
                  have h_44 := ir_42 hI 1
                  refine v_ia (v := c 42 1) c_145_22 rfl (by decide) (by decide) (by decide) ((up_c (nn rfl)).trans (up_c (nn rfl))) (q_iconst c_145_23 (v_iadd (v := c 42 1 + 1) c_145_24 rfl (v_nrm (fun y_45 hy_45 => (v_is c_145_25 rfl (by decide) (by decide) (by decide) (q_aload_n c_145_26 rfl (v_gi (z := 0) (v := 1) c_145_27 kf_8_3 rfl (nb_ rfl) rfl rfl ((up_c (nn rfl)).trans (up_e rfl)) (v_if_ne_t (t := 37) c_145_30 rfl (by decide) ?_))))))))
                  refine q_iconst c_145_37 (v_zret c_145_38 rfl (by decide) (bk_inl (v_if_ne_f (t := 100) c_217_95 rfl (by decide) (q_iconst c_217_98 (q_iret c_217_99 rfl ?_)))))
                  have hI_46 := iw_41_0 (v := 0) hI ⟨by decide, by decide⟩
                  have hI_47 := iw_41_0 (v := 1) hI_46 ⟨by decide, by decide⟩
                  have hI_48 := iw_42 (j := 1) (v := y_45) hI_47 ⟨hy_45.1, hy_45.2⟩
                  exact K (up (up (up c 41 0 0) 41 0 1) 42 1 y_45) 0 hI_48 (fun a j hm => (up_b (Decidable.or_iff_not_imp_left.mpr (fun h1 h2 => hm (Or.inr (Or.inl (Decidable.not_not.mp h1)))))).trans ((up_b (Decidable.or_iff_not_imp_left.mpr (fun h1 h2 => hm (Or.inl ⟨Decidable.not_not.mp h1, h2⟩)))).trans (up_b (Decidable.or_iff_not_imp_left.mpr (fun h1 h2 => hm (Or.inl ⟨Decidable.not_not.mp h1, h2⟩)))))) ⟨by decide, by decide⟩
                · refine v_ic_gt_f (t := 14) c_146_7 rfl ⟨ha4.1, (Int.not_lt.mp h_43), by decide⟩ (q_iconst c_146_10 (q_goto (t := 15) c_146_11 rfl (v_zret c_146_15 rfl (by decide) (bk_inl (v_if_eq_f (t := 89) c_217_48 rfl (by decide) (q_iload c_217_51 rfl (q_iconst c_217_53 ?_)))))))
                  refine v_sip c_217_54 (by decide) (q_call c_217_57 rfl rfl rfl (q_iload_n c_146_0 rfl (q_iload_n c_146_1 rfl ?_)))
                  by_cases h_49 : a5 < 0
                  · refine v_ic_lt_t (t := 14) c_146_2 rfl ⟨ha5.1, h_49, by decide⟩ (q_iconst c_146_14 (v_zret c_146_15 rfl (by decide) (bk_inl (v_if_eq_t (t := 89) c_217_60 rfl (by decide) (q_iconst c_217_89 (q_iconst c_217_90 (q_iconst c_217_91 ?_)))))))
                    refine v_cv c_217_92 km_8_203 rfl rfl (nb_ rfl) ⟨⟨rfl, rfl⟩, nb_ rfl, rfl⟩ (nb_ rfl) (nb_ rfl) (q_iload_n c_145_0 rfl (v_if_ne_f (t := 26) c_145_1 rfl (by decide) (q_aload_n c_145_4 rfl (v_gi (z := 0) (v := 0) c_145_5 kf_8_3 rfl (nb_ rfl) rfl rfl (up_e rfl) (v_if_ne_f (t := 26) c_145_8 rfl (by decide) (q_aload_n c_145_11 rfl (q_iload_n c_145_12 rfl ?_)))))))
                    refine v_pi (z := 0) c_145_13 kf_8_3 rfl (nb_ rfl) rfl rfl rfl (by decide) (q_aload_n c_145_16 rfl (v_gr (t := 42) c_145_17 kf_8_7 rfl (nb_ rfl) rfl (q_iload_n c_145_20 rfl (q_dup2 c_145_21 ⟨rfl, rfl⟩ ?_))))
                    have h_50 := ir_42 hI 1
                    refine v_ia (v := c 42 1) c_145_22 rfl (by decide) (by decide) (by decide) ((up_c (nn rfl)).trans (up_c (nn rfl))) (q_iconst c_145_23 (v_iadd (v := c 42 1 + 1) c_145_24 rfl (v_nrm (fun y_51 hy_51 => (v_is c_145_25 rfl (by decide) (by decide) (by decide) (q_aload_n c_145_26 rfl (v_gi (z := 0) (v := 1) c_145_27 kf_8_3 rfl (nb_ rfl) rfl rfl ((up_c (nn rfl)).trans (up_e rfl)) (v_if_ne_t (t := 37) c_145_30 rfl (by decide) ?_))))))))
                    refine q_iconst c_145_37 (v_zret c_145_38 rfl (by decide) (bk_inl (v_if_ne_f (t := 100) c_217_95 rfl (by decide) (q_iconst c_217_98 (q_iret c_217_99 rfl ?_)))))
                    have hI_52 := iw_41_0 (v := 0) hI ⟨by decide, by decide⟩
                    have hI_53 := iw_41_0 (v := 1) hI_52 ⟨by decide, by decide⟩
                    have hI_54 := iw_42 (j := 1) (v := y_51) hI_53 ⟨hy_51.1, hy_51.2⟩
                    exact K (up (up (up c 41 0 0) 41 0 1) 42 1 y_51) 0 hI_54 (fun a j hm => (up_b (Decidable.or_iff_not_imp_left.mpr (fun h1 h2 => hm (Or.inr (Or.inl (Decidable.not_not.mp h1)))))).trans ((up_b (Decidable.or_iff_not_imp_left.mpr (fun h1 h2 => hm (Or.inl ⟨Decidable.not_not.mp h1, h2⟩)))).trans (up_b (Decidable.or_iff_not_imp_left.mpr (fun h1 h2 => hm (Or.inl ⟨Decidable.not_not.mp h1, h2⟩)))))) ⟨by decide, by decide⟩
                  · refine v_ic_lt_f (t := 14) c_146_2 rfl ⟨by decide, (Int.not_lt.mp h_49), ha5.2⟩ (q_iload_n c_146_5 rfl (q_iload_n c_146_6 rfl ?_))
                    by_cases h_55 : a5 > 400
                    · refine v_ic_gt_t (t := 14) c_146_7 rfl ⟨by decide, h_55, ha5.2⟩ (q_iconst c_146_14 (v_zret c_146_15 rfl (by decide) (bk_inl (v_if_eq_t (t := 89) c_217_60 rfl (by decide) (q_iconst c_217_89 (q_iconst c_217_90 (q_iconst c_217_91 ?_)))))))
                      refine v_cv c_217_92 km_8_203 rfl rfl (nb_ rfl) ⟨⟨rfl, rfl⟩, nb_ rfl, rfl⟩ (nb_ rfl) (nb_ rfl) (q_iload_n c_145_0 rfl (v_if_ne_f (t := 26) c_145_1 rfl (by decide) (q_aload_n c_145_4 rfl (v_gi (z := 0) (v := 0) c_145_5 kf_8_3 rfl (nb_ rfl) rfl rfl (up_e rfl) (v_if_ne_f (t := 26) c_145_8 rfl (by decide) (q_aload_n c_145_11 rfl (q_iload_n c_145_12 rfl ?_)))))))
                      refine v_pi (z := 0) c_145_13 kf_8_3 rfl (nb_ rfl) rfl rfl rfl (by decide) (q_aload_n c_145_16 rfl (v_gr (t := 42) c_145_17 kf_8_7 rfl (nb_ rfl) rfl (q_iload_n c_145_20 rfl (q_dup2 c_145_21 ⟨rfl, rfl⟩ ?_))))
                      have h_56 := ir_42 hI 1
                      refine v_ia (v := c 42 1) c_145_22 rfl (by decide) (by decide) (by decide) ((up_c (nn rfl)).trans (up_c (nn rfl))) (q_iconst c_145_23 (v_iadd (v := c 42 1 + 1) c_145_24 rfl (v_nrm (fun y_57 hy_57 => (v_is c_145_25 rfl (by decide) (by decide) (by decide) (q_aload_n c_145_26 rfl (v_gi (z := 0) (v := 1) c_145_27 kf_8_3 rfl (nb_ rfl) rfl rfl ((up_c (nn rfl)).trans (up_e rfl)) (v_if_ne_t (t := 37) c_145_30 rfl (by decide) ?_))))))))
                      refine q_iconst c_145_37 (v_zret c_145_38 rfl (by decide) (bk_inl (v_if_ne_f (t := 100) c_217_95 rfl (by decide) (q_iconst c_217_98 (q_iret c_217_99 rfl ?_)))))
                      have hI_58 := iw_41_0 (v := 0) hI ⟨by decide, by decide⟩
                      have hI_59 := iw_41_0 (v := 1) hI_58 ⟨by decide, by decide⟩
                      have hI_60 := iw_42 (j := 1) (v := y_57) hI_59 ⟨hy_57.1, hy_57.2⟩
                      exact K (up (up (up c 41 0 0) 41 0 1) 42 1 y_57) 0 hI_60 (fun a j hm => (up_b (Decidable.or_iff_not_imp_left.mpr (fun h1 h2 => hm (Or.inr (Or.inl (Decidable.not_not.mp h1)))))).trans ((up_b (Decidable.or_iff_not_imp_left.mpr (fun h1 h2 => hm (Or.inl ⟨Decidable.not_not.mp h1, h2⟩)))).trans (up_b (Decidable.or_iff_not_imp_left.mpr (fun h1 h2 => hm (Or.inl ⟨Decidable.not_not.mp h1, h2⟩)))))) ⟨by decide, by decide⟩
                    · refine v_ic_gt_f (t := 14) c_146_7 rfl ⟨ha5.1, (Int.not_lt.mp h_55), by decide⟩ (q_iconst c_146_10 (q_goto (t := 15) c_146_11 rfl (v_zret c_146_15 rfl (by decide) (bk_inl (v_if_eq_f (t := 89) c_217_60 rfl (by decide) (q_iload c_217_63 rfl (q_iconst c_217_65 ?_)))))))
                      refine v_sip c_217_66 (by decide) (q_call c_217_69 rfl rfl rfl (q_iload_n c_146_0 rfl (q_iload_n c_146_1 rfl ?_)))
                      by_cases h_61 : a6 < 0
                      · refine v_ic_lt_t (t := 14) c_146_2 rfl ⟨ha6.1, h_61, by decide⟩ (q_iconst c_146_14 (v_zret c_146_15 rfl (by decide) (bk_inl (v_if_eq_t (t := 89) c_217_72 rfl (by decide) (q_iconst c_217_89 (q_iconst c_217_90 (q_iconst c_217_91 ?_)))))))
                        refine v_cv c_217_92 km_8_203 rfl rfl (nb_ rfl) ⟨⟨rfl, rfl⟩, nb_ rfl, rfl⟩ (nb_ rfl) (nb_ rfl) (q_iload_n c_145_0 rfl (v_if_ne_f (t := 26) c_145_1 rfl (by decide) (q_aload_n c_145_4 rfl (v_gi (z := 0) (v := 0) c_145_5 kf_8_3 rfl (nb_ rfl) rfl rfl (up_e rfl) (v_if_ne_f (t := 26) c_145_8 rfl (by decide) (q_aload_n c_145_11 rfl (q_iload_n c_145_12 rfl ?_)))))))
                        refine v_pi (z := 0) c_145_13 kf_8_3 rfl (nb_ rfl) rfl rfl rfl (by decide) (q_aload_n c_145_16 rfl (v_gr (t := 42) c_145_17 kf_8_7 rfl (nb_ rfl) rfl (q_iload_n c_145_20 rfl (q_dup2 c_145_21 ⟨rfl, rfl⟩ ?_))))
                        have h_62 := ir_42 hI 1
                        refine v_ia (v := c 42 1) c_145_22 rfl (by decide) (by decide) (by decide) ((up_c (nn rfl)).trans (up_c (nn rfl))) (q_iconst c_145_23 (v_iadd (v := c 42 1 + 1) c_145_24 rfl (v_nrm (fun y_63 hy_63 => (v_is c_145_25 rfl (by decide) (by decide) (by decide) (q_aload_n c_145_26 rfl (v_gi (z := 0) (v := 1) c_145_27 kf_8_3 rfl (nb_ rfl) rfl rfl ((up_c (nn rfl)).trans (up_e rfl)) (v_if_ne_t (t := 37) c_145_30 rfl (by decide) ?_))))))))
                        refine q_iconst c_145_37 (v_zret c_145_38 rfl (by decide) (bk_inl (v_if_ne_f (t := 100) c_217_95 rfl (by decide) (q_iconst c_217_98 (q_iret c_217_99 rfl ?_)))))
                        have hI_64 := iw_41_0 (v := 0) hI ⟨by decide, by decide⟩
                        have hI_65 := iw_41_0 (v := 1) hI_64 ⟨by decide, by decide⟩
                        have hI_66 := iw_42 (j := 1) (v := y_63) hI_65 ⟨hy_63.1, hy_63.2⟩
                        exact K (up (up (up c 41 0 0) 41 0 1) 42 1 y_63) 0 hI_66 (fun a j hm => (up_b (Decidable.or_iff_not_imp_left.mpr (fun h1 h2 => hm (Or.inr (Or.inl (Decidable.not_not.mp h1)))))).trans ((up_b (Decidable.or_iff_not_imp_left.mpr (fun h1 h2 => hm (Or.inl ⟨Decidable.not_not.mp h1, h2⟩)))).trans (up_b (Decidable.or_iff_not_imp_left.mpr (fun h1 h2 => hm (Or.inl ⟨Decidable.not_not.mp h1, h2⟩)))))) ⟨by decide, by decide⟩
                      · refine v_ic_lt_f (t := 14) c_146_2 rfl ⟨by decide, (Int.not_lt.mp h_61), ha6.2⟩ (q_iload_n c_146_5 rfl (q_iload_n c_146_6 rfl ?_))
                        by_cases h_67 : a6 > 400
                        · refine v_ic_gt_t (t := 14) c_146_7 rfl ⟨by decide, h_67, ha6.2⟩ (q_iconst c_146_14 (v_zret c_146_15 rfl (by decide) (bk_inl (v_if_eq_t (t := 89) c_217_72 rfl (by decide) (q_iconst c_217_89 (q_iconst c_217_90 (q_iconst c_217_91 ?_)))))))
                          refine v_cv c_217_92 km_8_203 rfl rfl (nb_ rfl) ⟨⟨rfl, rfl⟩, nb_ rfl, rfl⟩ (nb_ rfl) (nb_ rfl) (q_iload_n c_145_0 rfl (v_if_ne_f (t := 26) c_145_1 rfl (by decide) (q_aload_n c_145_4 rfl (v_gi (z := 0) (v := 0) c_145_5 kf_8_3 rfl (nb_ rfl) rfl rfl (up_e rfl) (v_if_ne_f (t := 26) c_145_8 rfl (by decide) (q_aload_n c_145_11 rfl (q_iload_n c_145_12 rfl ?_)))))))
                          refine v_pi (z := 0) c_145_13 kf_8_3 rfl (nb_ rfl) rfl rfl rfl (by decide) (q_aload_n c_145_16 rfl (v_gr (t := 42) c_145_17 kf_8_7 rfl (nb_ rfl) rfl (q_iload_n c_145_20 rfl (q_dup2 c_145_21 ⟨rfl, rfl⟩ ?_))))
                          have h_68 := ir_42 hI 1
                          refine v_ia (v := c 42 1) c_145_22 rfl (by decide) (by decide) (by decide) ((up_c (nn rfl)).trans (up_c (nn rfl))) (q_iconst c_145_23 (v_iadd (v := c 42 1 + 1) c_145_24 rfl (v_nrm (fun y_69 hy_69 => (v_is c_145_25 rfl (by decide) (by decide) (by decide) (q_aload_n c_145_26 rfl (v_gi (z := 0) (v := 1) c_145_27 kf_8_3 rfl (nb_ rfl) rfl rfl ((up_c (nn rfl)).trans (up_e rfl)) (v_if_ne_t (t := 37) c_145_30 rfl (by decide) ?_))))))))
                          refine q_iconst c_145_37 (v_zret c_145_38 rfl (by decide) (bk_inl (v_if_ne_f (t := 100) c_217_95 rfl (by decide) (q_iconst c_217_98 (q_iret c_217_99 rfl ?_)))))
                          have hI_70 := iw_41_0 (v := 0) hI ⟨by decide, by decide⟩
                          have hI_71 := iw_41_0 (v := 1) hI_70 ⟨by decide, by decide⟩
                          have hI_72 := iw_42 (j := 1) (v := y_69) hI_71 ⟨hy_69.1, hy_69.2⟩
                          exact K (up (up (up c 41 0 0) 41 0 1) 42 1 y_69) 0 hI_72 (fun a j hm => (up_b (Decidable.or_iff_not_imp_left.mpr (fun h1 h2 => hm (Or.inr (Or.inl (Decidable.not_not.mp h1)))))).trans ((up_b (Decidable.or_iff_not_imp_left.mpr (fun h1 h2 => hm (Or.inl ⟨Decidable.not_not.mp h1, h2⟩)))).trans (up_b (Decidable.or_iff_not_imp_left.mpr (fun h1 h2 => hm (Or.inl ⟨Decidable.not_not.mp h1, h2⟩)))))) ⟨by decide, by decide⟩
                        · refine v_ic_gt_f (t := 14) c_146_7 rfl ⟨ha6.1, (Int.not_lt.mp h_67), by decide⟩ (q_iconst c_146_10 (q_goto (t := 15) c_146_11 rfl (v_zret c_146_15 rfl (by decide) (bk_inl (v_if_eq_f (t := 89) c_217_72 rfl (by decide) (q_iload c_217_75 rfl (q_iconst c_217_77 ?_)))))))
                          refine q_iconst c_217_78 (q_call c_217_79 rfl rfl rfl (q_iload_n c_146_0 rfl (q_iload_n c_146_1 rfl ?_)))
                          by_cases h_73 : a7 < 0
                          · refine v_ic_lt_t (t := 14) c_146_2 rfl ⟨ha7.1, h_73, by decide⟩ (q_iconst c_146_14 (v_zret c_146_15 rfl (by decide) (bk_inl (v_if_eq_t (t := 89) c_217_82 rfl (by decide) (q_iconst c_217_89 (q_iconst c_217_90 (q_iconst c_217_91 ?_)))))))
                            refine v_cv c_217_92 km_8_203 rfl rfl (nb_ rfl) ⟨⟨rfl, rfl⟩, nb_ rfl, rfl⟩ (nb_ rfl) (nb_ rfl) (q_iload_n c_145_0 rfl (v_if_ne_f (t := 26) c_145_1 rfl (by decide) (q_aload_n c_145_4 rfl (v_gi (z := 0) (v := 0) c_145_5 kf_8_3 rfl (nb_ rfl) rfl rfl (up_e rfl) (v_if_ne_f (t := 26) c_145_8 rfl (by decide) (q_aload_n c_145_11 rfl (q_iload_n c_145_12 rfl ?_)))))))
                            refine v_pi (z := 0) c_145_13 kf_8_3 rfl (nb_ rfl) rfl rfl rfl (by decide) (q_aload_n c_145_16 rfl (v_gr (t := 42) c_145_17 kf_8_7 rfl (nb_ rfl) rfl (q_iload_n c_145_20 rfl (q_dup2 c_145_21 ⟨rfl, rfl⟩ ?_))))
                            have h_74 := ir_42 hI 1
                            refine v_ia (v := c 42 1) c_145_22 rfl (by decide) (by decide) (by decide) ((up_c (nn rfl)).trans (up_c (nn rfl))) (q_iconst c_145_23 (v_iadd (v := c 42 1 + 1) c_145_24 rfl (v_nrm (fun y_75 hy_75 => (v_is c_145_25 rfl (by decide) (by decide) (by decide) (q_aload_n c_145_26 rfl (v_gi (z := 0) (v := 1) c_145_27 kf_8_3 rfl (nb_ rfl) rfl rfl ((up_c (nn rfl)).trans (up_e rfl)) (v_if_ne_t (t := 37) c_145_30 rfl (by decide) ?_))))))))
                            refine q_iconst c_145_37 (v_zret c_145_38 rfl (by decide) (bk_inl (v_if_ne_f (t := 100) c_217_95 rfl (by decide) (q_iconst c_217_98 (q_iret c_217_99 rfl ?_)))))
                            have hI_76 := iw_41_0 (v := 0) hI ⟨by decide, by decide⟩
                            have hI_77 := iw_41_0 (v := 1) hI_76 ⟨by decide, by decide⟩
                            have hI_78 := iw_42 (j := 1) (v := y_75) hI_77 ⟨hy_75.1, hy_75.2⟩
                            exact K (up (up (up c 41 0 0) 41 0 1) 42 1 y_75) 0 hI_78 (fun a j hm => (up_b (Decidable.or_iff_not_imp_left.mpr (fun h1 h2 => hm (Or.inr (Or.inl (Decidable.not_not.mp h1)))))).trans ((up_b (Decidable.or_iff_not_imp_left.mpr (fun h1 h2 => hm (Or.inl ⟨Decidable.not_not.mp h1, h2⟩)))).trans (up_b (Decidable.or_iff_not_imp_left.mpr (fun h1 h2 => hm (Or.inl ⟨Decidable.not_not.mp h1, h2⟩)))))) ⟨by decide, by decide⟩
                          · refine v_ic_lt_f (t := 14) c_146_2 rfl ⟨by decide, (Int.not_lt.mp h_73), ha7.2⟩ (q_iload_n c_146_5 rfl (q_iload_n c_146_6 rfl ?_))
                            by_cases h_79 : a7 > 5
                            · refine v_ic_gt_t (t := 14) c_146_7 rfl ⟨by decide, h_79, ha7.2⟩ (q_iconst c_146_14 (v_zret c_146_15 rfl (by decide) (bk_inl (v_if_eq_t (t := 89) c_217_82 rfl (by decide) (q_iconst c_217_89 (q_iconst c_217_90 (q_iconst c_217_91 ?_)))))))
                              refine v_cv c_217_92 km_8_203 rfl rfl (nb_ rfl) ⟨⟨rfl, rfl⟩, nb_ rfl, rfl⟩ (nb_ rfl) (nb_ rfl) (q_iload_n c_145_0 rfl (v_if_ne_f (t := 26) c_145_1 rfl (by decide) (q_aload_n c_145_4 rfl (v_gi (z := 0) (v := 0) c_145_5 kf_8_3 rfl (nb_ rfl) rfl rfl (up_e rfl) (v_if_ne_f (t := 26) c_145_8 rfl (by decide) (q_aload_n c_145_11 rfl (q_iload_n c_145_12 rfl ?_)))))))
                              refine v_pi (z := 0) c_145_13 kf_8_3 rfl (nb_ rfl) rfl rfl rfl (by decide) (q_aload_n c_145_16 rfl (v_gr (t := 42) c_145_17 kf_8_7 rfl (nb_ rfl) rfl (q_iload_n c_145_20 rfl (q_dup2 c_145_21 ⟨rfl, rfl⟩ ?_))))
                              have h_80 := ir_42 hI 1
                              refine v_ia (v := c 42 1) c_145_22 rfl (by decide) (by decide) (by decide) ((up_c (nn rfl)).trans (up_c (nn rfl))) (q_iconst c_145_23 (v_iadd (v := c 42 1 + 1) c_145_24 rfl (v_nrm (fun y_81 hy_81 => (v_is c_145_25 rfl (by decide) (by decide) (by decide) (q_aload_n c_145_26 rfl (v_gi (z := 0) (v := 1) c_145_27 kf_8_3 rfl (nb_ rfl) rfl rfl ((up_c (nn rfl)).trans (up_e rfl)) (v_if_ne_t (t := 37) c_145_30 rfl (by decide) ?_))))))))
                              refine q_iconst c_145_37 (v_zret c_145_38 rfl (by decide) (bk_inl (v_if_ne_f (t := 100) c_217_95 rfl (by decide) (q_iconst c_217_98 (q_iret c_217_99 rfl ?_)))))
                              have hI_82 := iw_41_0 (v := 0) hI ⟨by decide, by decide⟩
                              have hI_83 := iw_41_0 (v := 1) hI_82 ⟨by decide, by decide⟩
                              have hI_84 := iw_42 (j := 1) (v := y_81) hI_83 ⟨hy_81.1, hy_81.2⟩
                              exact K (up (up (up c 41 0 0) 41 0 1) 42 1 y_81) 0 hI_84 (fun a j hm => (up_b (Decidable.or_iff_not_imp_left.mpr (fun h1 h2 => hm (Or.inr (Or.inl (Decidable.not_not.mp h1)))))).trans ((up_b (Decidable.or_iff_not_imp_left.mpr (fun h1 h2 => hm (Or.inl ⟨Decidable.not_not.mp h1, h2⟩)))).trans (up_b (Decidable.or_iff_not_imp_left.mpr (fun h1 h2 => hm (Or.inl ⟨Decidable.not_not.mp h1, h2⟩)))))) ⟨by decide, by decide⟩
                            · refine v_ic_gt_f (t := 14) c_146_7 rfl ⟨ha7.1, (Int.not_lt.mp h_79), by decide⟩ (q_iconst c_146_10 (q_goto (t := 15) c_146_11 rfl (v_zret c_146_15 rfl (by decide) (bk_inl (v_if_eq_f (t := 89) c_217_82 rfl (by decide) (q_iconst c_217_85 (q_goto (t := 90) c_217_86 rfl ?_)))))))
                              refine q_iconst c_217_90 (q_iconst c_217_91 (v_cv c_217_92 km_8_203 rfl rfl (nb_ rfl) ⟨⟨rfl, rfl⟩, nb_ rfl, rfl⟩ (nb_ rfl) (nb_ rfl) (q_iload_n c_145_0 rfl (v_if_ne_t (t := 26) c_145_1 rfl (by decide) (q_aload_n c_145_26 rfl (v_gi (z := 0) (v := 0) c_145_27 kf_8_3 rfl (nb_ rfl) rfl rfl (up_e rfl) (v_if_ne_f (t := 37) c_145_30 rfl (by decide) ?_)))))))
                              refine q_iconst c_145_33 (q_goto (t := 38) c_145_34 rfl (v_zret c_145_38 rfl (by decide) (bk_inl (v_if_ne_t (t := 100) c_217_95 rfl (by decide) (q_aload_n c_217_100 rfl (q_iload_n c_217_101 rfl (q_iload_n c_217_102 rfl ?_)))))))
                              refine q_iload_n c_217_103 rfl (q_iload c_217_104 rfl (q_iload c_217_106 rfl (q_iload c_217_108 rfl (q_iload c_217_110 rfl ?_))))
                              have hI_85 := iw_41_0 (v := 0) hI ⟨by decide, by decide⟩
                              refine v_cv c_217_112 km_8_359 rfl rfl (nb_ rfl) ⟨⟨rfl, rfl⟩, nb_ rfl, rfl⟩ (nb_ rfl) (nb_ rfl) (s_195 (a1 := a1) (a2 := a2) (a3 := a3) (a4 := a4) (a5 := a5) (a6 := a6) (a7 := a7) hI_85 (show 0 ≤ a1 ∧ a1 ≤ 9999 from ⟨by first | exact q_720657ba9 h_1 | omega, by first | exact q_72f86bfab h_7 | omega⟩) (show 0 ≤ a2 ∧ a2 ≤ 9999 from ⟨by first | exact q_720657ba9 h_13 | omega, by first | exact q_72f86bfab h_19 | omega⟩) (show 0 ≤ a3 ∧ a3 ≤ 9999 from ⟨by first | exact q_720657ba9 h_25 | omega, by first | exact q_72f86bfab h_31 | omega⟩) (show 0 ≤ a4 ∧ a4 ≤ 9999 from ⟨by first | exact q_720657ba9 h_37 | omega, by first | exact q_72f86bfab h_43 | omega⟩) (show (-2147483648) ≤ a5 ∧ a5 ≤ 2147483647 from ha5) (show (-2147483648) ≤ a6 ∧ a6 ≤ 2147483647 from ha6) (show (-2147483648) ≤ a7 ∧ a7 ≤ 2147483647 from ha7) (fun c_86 y_89 hI_87 hF_88 hy_89 => (bk_inl (q_iret c_217_115 rfl ?_))))
                              exact K c_86 y_89 hI_87 (fun a j hm => (hF_88 a j (qv_60f9bb275 hm)).trans (up_b (Decidable.or_iff_not_imp_left.mpr (fun h1 h2 => hm (Or.inl ⟨Decidable.not_not.mp h1, h2⟩))))) ⟨(Int.le_trans (by decide) hy_89.1), (Int.le_trans hy_89.2 (by decide))⟩

set_option maxRecDepth 100000 in
set_option maxHeartbeats 4000000 in
theorem s_218 {sc : List Int32} {d P Q : Nat} {c : ME} {a1 : Int} {a2 : Int} {a3 : Int} {Z : AR → Prop} (hI : Iv 0 (-1) P Q c) (ha1 : (-2147483648) ≤ a1 ∧ a1 ≤ 2147483647) (ha2 : (-2147483648) ≤ a2 ∧ a2 ≤ 2147483647) (ha3 : (-2147483648) ≤ a3 ∧ a3 ≤ 2147483647) (K : ∀ (c2 : ME) (y : Int), Iv 0 (-1) P Q c2 → (∀ (a : Nat) (j : Int), ¬ ((a = 41 ∧ j = 0) ∨ a = 42 ∨ a = 59) → c2 a j = c a j) → (-2147483648) ≤ y ∧ y ≤ 2147483647 → Z (.inl (some (vi y)), Wd P Q P P c2, 0, 0)) : Wp sc (d + 9) 218 0 [(0, .ref 41), (1, vi a1), (2, vi a2), (3, vi a3)] [] (Wd P Q P P c) 0 0 Z := by
  have hP := iv_P hI
  have hQ := iv_Q hI
  refine q_aload_n c_218_0 rfl (q_iconst c_218_1 (v_pi (z := 0) c_218_2 kf_8_3 rfl (nb_ rfl) rfl rfl rfl (by decide) (q_aload_n c_218_5 rfl (q_iload_n c_218_6 rfl (q_aload_n c_218_7 rfl ?_)))))
  have h_1 := ir_41_21 hI
  refine v_gi (z := 21) (v := c 41 21) c_218_8 kf_8_160 rfl (nb_ rfl) rfl rfl (up_n (by decide)) (v_cv c_218_11 km_8_396 rfl rfl (nb_ rfl) ⟨⟨rfl, rfl⟩, nb_ rfl, rfl⟩ (nb_ rfl) (nb_ rfl) (q_aload_n c_212_0 rfl (q_iload_n c_212_1 rfl (q_iconst c_212_2 (q_iload_n c_212_3 rfl (q_iconst c_212_4 (v_isub (v := c 41 21 - 1) c_212_5 rfl ?_)))))))
  refine q_call c_212_6 rfl rfl rfl (q_iload_n c_146_0 rfl (q_iload_n c_146_1 rfl ?_))
  by_cases h_2 : a1 < 0
  · refine v_ic_lt_t (t := 14) c_146_2 rfl ⟨ha1.1, h_2, by decide⟩ (q_iconst c_146_14 (v_zret c_146_15 rfl (by decide) (bk_inl (q_iconst c_212_9 (q_iconst c_212_10 (v_cv c_212_11 km_8_203 rfl rfl (nb_ rfl) ⟨⟨rfl, rfl⟩, nb_ rfl, rfl⟩ (nb_ rfl) (nb_ rfl) (q_iload_n c_145_0 rfl ?_)))))))
    refine v_if_ne_f (t := 26) c_145_1 rfl (by decide) (q_aload_n c_145_4 rfl (v_gi (z := 0) (v := 0) c_145_5 kf_8_3 rfl (nb_ rfl) rfl rfl (up_e rfl) (v_if_ne_f (t := 26) c_145_8 rfl (by decide) (q_aload_n c_145_11 rfl (q_iload_n c_145_12 rfl (v_pi (z := 0) c_145_13 kf_8_3 rfl (nb_ rfl) rfl rfl rfl (by decide) (q_aload_n c_145_16 rfl ?_)))))))
    refine v_gr (t := 42) c_145_17 kf_8_7 rfl (nb_ rfl) rfl (q_iload_n c_145_20 rfl (q_dup2 c_145_21 ⟨rfl, rfl⟩ ?_))
    have h_3 := ir_42 hI 0
    refine v_ia (v := c 42 0) c_145_22 rfl (by decide) (by decide) (by decide) ((up_c (nn rfl)).trans (up_c (nn rfl))) (q_iconst c_145_23 (v_iadd (v := c 42 0 + 1) c_145_24 rfl (v_nrm (fun y_4 hy_4 => (v_is c_145_25 rfl (by decide) (by decide) (by decide) (q_aload_n c_145_26 rfl (v_gi (z := 0) (v := 1) c_145_27 kf_8_3 rfl (nb_ rfl) rfl rfl ((up_c (nn rfl)).trans (up_e rfl)) (v_if_ne_t (t := 37) c_145_30 rfl (by decide) ?_))))))))
    refine q_iconst c_145_37 (v_zret c_145_38 rfl (by decide) (bk_inl (v_zret c_212_14 rfl (by decide) (bk_inl (v_if_eq_t (t := 44) c_218_14 rfl (by decide) (q_iconst c_218_44 (q_iret c_218_45 rfl ?_)))))))
    have hI_5 := iw_41_0 (v := 0) hI ⟨by decide, by decide⟩
    have hI_6 := iw_41_0 (v := 1) hI_5 ⟨by decide, by decide⟩
    have hI_7 := iw_42 (j := 0) (v := y_4) hI_6 ⟨hy_4.1, hy_4.2⟩
    exact K (up (up (up c 41 0 0) 41 0 1) 42 0 y_4) 0 hI_7 (fun a j hm => (up_b (Decidable.or_iff_not_imp_left.mpr (fun h1 h2 => hm (Or.inr (Or.inl (Decidable.not_not.mp h1)))))).trans ((up_b (Decidable.or_iff_not_imp_left.mpr (fun h1 h2 => hm (Or.inl ⟨Decidable.not_not.mp h1, h2⟩)))).trans (up_b (Decidable.or_iff_not_imp_left.mpr (fun h1 h2 => hm (Or.inl ⟨Decidable.not_not.mp h1, h2⟩)))))) ⟨by decide, by decide⟩
  · refine v_ic_lt_f (t := 14) c_146_2 rfl ⟨by decide, (Int.not_lt.mp h_2), ha1.2⟩ (q_iload_n c_146_5 rfl (q_iload_n c_146_6 rfl ?_))
    by_cases h_8 : a1 > c 41 21 - 1
    · refine v_ic_gt_t (t := 14) c_146_7 rfl ⟨by first | exact rgm_l h_1.1 (by decide) | omega, h_8, ha1.2⟩ (q_iconst c_146_14 (v_zret c_146_15 rfl (by decide) (bk_inl (q_iconst c_212_9 (q_iconst c_212_10 (v_cv c_212_11 km_8_203 rfl rfl (nb_ rfl) ⟨⟨rfl, rfl⟩, nb_ rfl, rfl⟩ (nb_ rfl) (nb_ rfl) (q_iload_n c_145_0 rfl ?_)))))))
      refine v_if_ne_f (t := 26) c_145_1 rfl (by decide) (q_aload_n c_145_4 rfl (v_gi (z := 0) (v := 0) c_145_5 kf_8_3 rfl (nb_ rfl) rfl rfl (up_e rfl) (v_if_ne_f (t := 26) c_145_8 rfl (by decide) (q_aload_n c_145_11 rfl (q_iload_n c_145_12 rfl (v_pi (z := 0) c_145_13 kf_8_3 rfl (nb_ rfl) rfl rfl rfl (by decide) (q_aload_n c_145_16 rfl ?_)))))))
      refine v_gr (t := 42) c_145_17 kf_8_7 rfl (nb_ rfl) rfl (q_iload_n c_145_20 rfl (q_dup2 c_145_21 ⟨rfl, rfl⟩ ?_))
      have h_9 := ir_42 hI 0
      refine v_ia (v := c 42 0) c_145_22 rfl (by decide) (by decide) (by decide) ((up_c (nn rfl)).trans (up_c (nn rfl))) (q_iconst c_145_23 (v_iadd (v := c 42 0 + 1) c_145_24 rfl (v_nrm (fun y_10 hy_10 => (v_is c_145_25 rfl (by decide) (by decide) (by decide) (q_aload_n c_145_26 rfl (v_gi (z := 0) (v := 1) c_145_27 kf_8_3 rfl (nb_ rfl) rfl rfl ((up_c (nn rfl)).trans (up_e rfl)) (v_if_ne_t (t := 37) c_145_30 rfl (by decide) ?_))))))))
      refine q_iconst c_145_37 (v_zret c_145_38 rfl (by decide) (bk_inl (v_zret c_212_14 rfl (by decide) (bk_inl (v_if_eq_t (t := 44) c_218_14 rfl (by decide) (q_iconst c_218_44 (q_iret c_218_45 rfl ?_)))))))
      have hI_11 := iw_41_0 (v := 0) hI ⟨by decide, by decide⟩
      have hI_12 := iw_41_0 (v := 1) hI_11 ⟨by decide, by decide⟩
      have hI_13 := iw_42 (j := 0) (v := y_10) hI_12 ⟨hy_10.1, hy_10.2⟩
      exact K (up (up (up c 41 0 0) 41 0 1) 42 0 y_10) 0 hI_13 (fun a j hm => (up_b (Decidable.or_iff_not_imp_left.mpr (fun h1 h2 => hm (Or.inr (Or.inl (Decidable.not_not.mp h1)))))).trans ((up_b (Decidable.or_iff_not_imp_left.mpr (fun h1 h2 => hm (Or.inl ⟨Decidable.not_not.mp h1, h2⟩)))).trans (up_b (Decidable.or_iff_not_imp_left.mpr (fun h1 h2 => hm (Or.inl ⟨Decidable.not_not.mp h1, h2⟩)))))) ⟨by decide, by decide⟩
    · refine v_ic_gt_f (t := 14) c_146_7 rfl ⟨ha1.1, (Int.not_lt.mp h_8), by first | exact rgm_h h_1.2 (by decide) | omega⟩ (q_iconst c_146_10 (q_goto (t := 15) c_146_11 rfl (v_zret c_146_15 rfl (by decide) (bk_inl (q_iconst c_212_9 (q_iconst c_212_10 (v_cv c_212_11 km_8_203 rfl rfl (nb_ rfl) ⟨⟨rfl, rfl⟩, nb_ rfl, rfl⟩ (nb_ rfl) (nb_ rfl) ?_)))))))
      refine q_iload_n c_145_0 rfl (v_if_ne_t (t := 26) c_145_1 rfl (by decide) (q_aload_n c_145_26 rfl (v_gi (z := 0) (v := 0) c_145_27 kf_8_3 rfl (nb_ rfl) rfl rfl (up_e rfl) (v_if_ne_f (t := 37) c_145_30 rfl (by decide) (q_iconst c_145_33 (q_goto (t := 38) c_145_34 rfl (v_zret c_145_38 rfl (by decide) ?_)))))))
      refine bk_inl (v_zret c_212_14 rfl (by decide) (bk_inl (v_if_eq_f (t := 44) c_218_14 rfl (by decide) (q_aload_n c_218_17 rfl (q_iload_n c_218_18 rfl (q_aload_n c_218_19 rfl ?_))))))
      have h_14 := ir_41_20 hI
      refine v_gi (z := 20) (v := c 41 20) c_218_20 kf_8_157 rfl (nb_ rfl) rfl rfl (up_n (by decide)) (v_cv c_218_23 km_8_396 rfl rfl (nb_ rfl) ⟨⟨rfl, rfl⟩, nb_ rfl, rfl⟩ (nb_ rfl) (nb_ rfl) (q_aload_n c_212_0 rfl (q_iload_n c_212_1 rfl (q_iconst c_212_2 (q_iload_n c_212_3 rfl (q_iconst c_212_4 (v_isub (v := c 41 20 - 1) c_212_5 rfl ?_)))))))
      refine q_call c_212_6 rfl rfl rfl (q_iload_n c_146_0 rfl (q_iload_n c_146_1 rfl ?_))
      by_cases h_15 : a2 < 0
      · refine v_ic_lt_t (t := 14) c_146_2 rfl ⟨ha2.1, h_15, by decide⟩ (q_iconst c_146_14 (v_zret c_146_15 rfl (by decide) (bk_inl (q_iconst c_212_9 (q_iconst c_212_10 (v_cv c_212_11 km_8_203 rfl rfl (nb_ rfl) ⟨⟨rfl, rfl⟩, nb_ rfl, rfl⟩ (nb_ rfl) (nb_ rfl) (q_iload_n c_145_0 rfl ?_)))))))
        refine v_if_ne_f (t := 26) c_145_1 rfl (by decide) (q_aload_n c_145_4 rfl (v_gi (z := 0) (v := 0) c_145_5 kf_8_3 rfl (nb_ rfl) rfl rfl (up_e rfl) (v_if_ne_f (t := 26) c_145_8 rfl (by decide) (q_aload_n c_145_11 rfl (q_iload_n c_145_12 rfl (v_pi (z := 0) c_145_13 kf_8_3 rfl (nb_ rfl) rfl rfl rfl (by decide) (q_aload_n c_145_16 rfl ?_)))))))
        refine v_gr (t := 42) c_145_17 kf_8_7 rfl (nb_ rfl) rfl (q_iload_n c_145_20 rfl (q_dup2 c_145_21 ⟨rfl, rfl⟩ ?_))
        have h_16 := ir_42 hI 0
        refine v_ia (v := c 42 0) c_145_22 rfl (by decide) (by decide) (by decide) ((up_c (nn rfl)).trans (up_c (nn rfl))) (q_iconst c_145_23 (v_iadd (v := c 42 0 + 1) c_145_24 rfl (v_nrm (fun y_17 hy_17 => (v_is c_145_25 rfl (by decide) (by decide) (by decide) (q_aload_n c_145_26 rfl (v_gi (z := 0) (v := 1) c_145_27 kf_8_3 rfl (nb_ rfl) rfl rfl ((up_c (nn rfl)).trans (up_e rfl)) (v_if_ne_t (t := 37) c_145_30 rfl (by decide) ?_))))))))
        refine q_iconst c_145_37 (v_zret c_145_38 rfl (by decide) (bk_inl (v_zret c_212_14 rfl (by decide) (bk_inl (v_if_eq_t (t := 44) c_218_26 rfl (by decide) (q_iconst c_218_44 (q_iret c_218_45 rfl ?_)))))))
        have hI_18 := iw_41_0 (v := 0) hI ⟨by decide, by decide⟩
        have hI_19 := iw_41_0 (v := 1) hI_18 ⟨by decide, by decide⟩
        have hI_20 := iw_42 (j := 0) (v := y_17) hI_19 ⟨hy_17.1, hy_17.2⟩
        exact K (up (up (up c 41 0 0) 41 0 1) 42 0 y_17) 0 hI_20 (fun a j hm => (up_b (Decidable.or_iff_not_imp_left.mpr (fun h1 h2 => hm (Or.inr (Or.inl (Decidable.not_not.mp h1)))))).trans ((up_b (Decidable.or_iff_not_imp_left.mpr (fun h1 h2 => hm (Or.inl ⟨Decidable.not_not.mp h1, h2⟩)))).trans (up_b (Decidable.or_iff_not_imp_left.mpr (fun h1 h2 => hm (Or.inl ⟨Decidable.not_not.mp h1, h2⟩)))))) ⟨by decide, by decide⟩
      · refine v_ic_lt_f (t := 14) c_146_2 rfl ⟨by decide, (Int.not_lt.mp h_15), ha2.2⟩ (q_iload_n c_146_5 rfl (q_iload_n c_146_6 rfl ?_))
        by_cases h_21 : a2 > c 41 20 - 1
        · refine v_ic_gt_t (t := 14) c_146_7 rfl ⟨by first | exact rgm_l h_14.1 (by decide) | omega, h_21, ha2.2⟩ (q_iconst c_146_14 (v_zret c_146_15 rfl (by decide) (bk_inl (q_iconst c_212_9 (q_iconst c_212_10 (v_cv c_212_11 km_8_203 rfl rfl (nb_ rfl) ⟨⟨rfl, rfl⟩, nb_ rfl, rfl⟩ (nb_ rfl) (nb_ rfl) (q_iload_n c_145_0 rfl ?_)))))))
          refine v_if_ne_f (t := 26) c_145_1 rfl (by decide) (q_aload_n c_145_4 rfl (v_gi (z := 0) (v := 0) c_145_5 kf_8_3 rfl (nb_ rfl) rfl rfl (up_e rfl) (v_if_ne_f (t := 26) c_145_8 rfl (by decide) (q_aload_n c_145_11 rfl (q_iload_n c_145_12 rfl (v_pi (z := 0) c_145_13 kf_8_3 rfl (nb_ rfl) rfl rfl rfl (by decide) (q_aload_n c_145_16 rfl ?_)))))))
          refine v_gr (t := 42) c_145_17 kf_8_7 rfl (nb_ rfl) rfl (q_iload_n c_145_20 rfl (q_dup2 c_145_21 ⟨rfl, rfl⟩ ?_))
          have h_22 := ir_42 hI 0
          refine v_ia (v := c 42 0) c_145_22 rfl (by decide) (by decide) (by decide) ((up_c (nn rfl)).trans (up_c (nn rfl))) (q_iconst c_145_23 (v_iadd (v := c 42 0 + 1) c_145_24 rfl (v_nrm (fun y_23 hy_23 => (v_is c_145_25 rfl (by decide) (by decide) (by decide) (q_aload_n c_145_26 rfl (v_gi (z := 0) (v := 1) c_145_27 kf_8_3 rfl (nb_ rfl) rfl rfl ((up_c (nn rfl)).trans (up_e rfl)) (v_if_ne_t (t := 37) c_145_30 rfl (by decide) ?_))))))))
          refine q_iconst c_145_37 (v_zret c_145_38 rfl (by decide) (bk_inl (v_zret c_212_14 rfl (by decide) (bk_inl (v_if_eq_t (t := 44) c_218_26 rfl (by decide) (q_iconst c_218_44 (q_iret c_218_45 rfl ?_)))))))
          have hI_24 := iw_41_0 (v := 0) hI ⟨by decide, by decide⟩
          have hI_25 := iw_41_0 (v := 1) hI_24 ⟨by decide, by decide⟩
          have hI_26 := iw_42 (j := 0) (v := y_23) hI_25 ⟨hy_23.1, hy_23.2⟩
          exact K (up (up (up c 41 0 0) 41 0 1) 42 0 y_23) 0 hI_26 (fun a j hm => (up_b (Decidable.or_iff_not_imp_left.mpr (fun h1 h2 => hm (Or.inr (Or.inl (Decidable.not_not.mp h1)))))).trans ((up_b (Decidable.or_iff_not_imp_left.mpr (fun h1 h2 => hm (Or.inl ⟨Decidable.not_not.mp h1, h2⟩)))).trans (up_b (Decidable.or_iff_not_imp_left.mpr (fun h1 h2 => hm (Or.inl ⟨Decidable.not_not.mp h1, h2⟩)))))) ⟨by decide, by decide⟩
        · refine v_ic_gt_f (t := 14) c_146_7 rfl ⟨ha2.1, (Int.not_lt.mp h_21), by first | exact rgm_h h_14.2 (by decide) | omega⟩ (q_iconst c_146_10 (q_goto (t := 15) c_146_11 rfl (v_zret c_146_15 rfl (by decide) (bk_inl (q_iconst c_212_9 (q_iconst c_212_10 (v_cv c_212_11 km_8_203 rfl rfl (nb_ rfl) ⟨⟨rfl, rfl⟩, nb_ rfl, rfl⟩ (nb_ rfl) (nb_ rfl) ?_)))))))
          refine q_iload_n c_145_0 rfl (v_if_ne_t (t := 26) c_145_1 rfl (by decide) (q_aload_n c_145_26 rfl (v_gi (z := 0) (v := 0) c_145_27 kf_8_3 rfl (nb_ rfl) rfl rfl (up_e rfl) (v_if_ne_f (t := 37) c_145_30 rfl (by decide) (q_iconst c_145_33 (q_goto (t := 38) c_145_34 rfl (v_zret c_145_38 rfl (by decide) ?_)))))))
          refine bk_inl (v_zret c_212_14 rfl (by decide) (bk_inl (v_if_eq_f (t := 44) c_218_26 rfl (by decide) (q_aload_n c_218_29 rfl (q_iload_n c_218_30 rfl (q_iconst c_218_31 (q_iconst c_218_32 ?_)))))))
          refine q_call c_218_33 rfl rfl rfl (q_iload_n c_146_0 rfl (q_iload_n c_146_1 rfl ?_))
          by_cases h_27 : a3 < 0
          · refine v_ic_lt_t (t := 14) c_146_2 rfl ⟨ha3.1, h_27, by decide⟩ (q_iconst c_146_14 (v_zret c_146_15 rfl (by decide) (bk_inl (q_iconst c_218_36 (q_iconst c_218_37 (v_cv c_218_38 km_8_203 rfl rfl (nb_ rfl) ⟨⟨rfl, rfl⟩, nb_ rfl, rfl⟩ (nb_ rfl) (nb_ rfl) (q_iload_n c_145_0 rfl ?_)))))))
            refine v_if_ne_f (t := 26) c_145_1 rfl (by decide) (q_aload_n c_145_4 rfl (v_gi (z := 0) (v := 0) c_145_5 kf_8_3 rfl (nb_ rfl) rfl rfl (up_e rfl) (v_if_ne_f (t := 26) c_145_8 rfl (by decide) (q_aload_n c_145_11 rfl (q_iload_n c_145_12 rfl (v_pi (z := 0) c_145_13 kf_8_3 rfl (nb_ rfl) rfl rfl rfl (by decide) (q_aload_n c_145_16 rfl ?_)))))))
            refine v_gr (t := 42) c_145_17 kf_8_7 rfl (nb_ rfl) rfl (q_iload_n c_145_20 rfl (q_dup2 c_145_21 ⟨rfl, rfl⟩ ?_))
            have h_28 := ir_42 hI 1
            refine v_ia (v := c 42 1) c_145_22 rfl (by decide) (by decide) (by decide) ((up_c (nn rfl)).trans (up_c (nn rfl))) (q_iconst c_145_23 (v_iadd (v := c 42 1 + 1) c_145_24 rfl (v_nrm (fun y_29 hy_29 => (v_is c_145_25 rfl (by decide) (by decide) (by decide) (q_aload_n c_145_26 rfl (v_gi (z := 0) (v := 2) c_145_27 kf_8_3 rfl (nb_ rfl) rfl rfl ((up_c (nn rfl)).trans (up_e rfl)) (v_if_ne_t (t := 37) c_145_30 rfl (by decide) ?_))))))))
            refine q_iconst c_145_37 (v_zret c_145_38 rfl (by decide) (bk_inl (v_if_ne_f (t := 46) c_218_41 rfl (by decide) (q_iconst c_218_44 (q_iret c_218_45 rfl ?_)))))
            have hI_30 := iw_41_0 (v := 0) hI ⟨by decide, by decide⟩
            have hI_31 := iw_41_0 (v := 2) hI_30 ⟨by decide, by decide⟩
            have hI_32 := iw_42 (j := 1) (v := y_29) hI_31 ⟨hy_29.1, hy_29.2⟩
            exact K (up (up (up c 41 0 0) 41 0 2) 42 1 y_29) 0 hI_32 (fun a j hm => (up_b (Decidable.or_iff_not_imp_left.mpr (fun h1 h2 => hm (Or.inr (Or.inl (Decidable.not_not.mp h1)))))).trans ((up_b (Decidable.or_iff_not_imp_left.mpr (fun h1 h2 => hm (Or.inl ⟨Decidable.not_not.mp h1, h2⟩)))).trans (up_b (Decidable.or_iff_not_imp_left.mpr (fun h1 h2 => hm (Or.inl ⟨Decidable.not_not.mp h1, h2⟩)))))) ⟨by decide, by decide⟩
          · refine v_ic_lt_f (t := 14) c_146_2 rfl ⟨by decide, (Int.not_lt.mp h_27), ha3.2⟩ (q_iload_n c_146_5 rfl (q_iload_n c_146_6 rfl ?_))
            by_cases h_33 : a3 > 4
            · refine v_ic_gt_t (t := 14) c_146_7 rfl ⟨by decide, h_33, ha3.2⟩ (q_iconst c_146_14 (v_zret c_146_15 rfl (by decide) (bk_inl (q_iconst c_218_36 (q_iconst c_218_37 (v_cv c_218_38 km_8_203 rfl rfl (nb_ rfl) ⟨⟨rfl, rfl⟩, nb_ rfl, rfl⟩ (nb_ rfl) (nb_ rfl) (q_iload_n c_145_0 rfl ?_)))))))
              refine v_if_ne_f (t := 26) c_145_1 rfl (by decide) (q_aload_n c_145_4 rfl (v_gi (z := 0) (v := 0) c_145_5 kf_8_3 rfl (nb_ rfl) rfl rfl (up_e rfl) (v_if_ne_f (t := 26) c_145_8 rfl (by decide) (q_aload_n c_145_11 rfl (q_iload_n c_145_12 rfl (v_pi (z := 0) c_145_13 kf_8_3 rfl (nb_ rfl) rfl rfl rfl (by decide) (q_aload_n c_145_16 rfl ?_)))))))
              refine v_gr (t := 42) c_145_17 kf_8_7 rfl (nb_ rfl) rfl (q_iload_n c_145_20 rfl (q_dup2 c_145_21 ⟨rfl, rfl⟩ ?_))
              have h_34 := ir_42 hI 1
              refine v_ia (v := c 42 1) c_145_22 rfl (by decide) (by decide) (by decide) ((up_c (nn rfl)).trans (up_c (nn rfl))) (q_iconst c_145_23 (v_iadd (v := c 42 1 + 1) c_145_24 rfl (v_nrm (fun y_35 hy_35 => (v_is c_145_25 rfl (by decide) (by decide) (by decide) (q_aload_n c_145_26 rfl (v_gi (z := 0) (v := 2) c_145_27 kf_8_3 rfl (nb_ rfl) rfl rfl ((up_c (nn rfl)).trans (up_e rfl)) (v_if_ne_t (t := 37) c_145_30 rfl (by decide) ?_))))))))
              refine q_iconst c_145_37 (v_zret c_145_38 rfl (by decide) (bk_inl (v_if_ne_f (t := 46) c_218_41 rfl (by decide) (q_iconst c_218_44 (q_iret c_218_45 rfl ?_)))))
              have hI_36 := iw_41_0 (v := 0) hI ⟨by decide, by decide⟩
              have hI_37 := iw_41_0 (v := 2) hI_36 ⟨by decide, by decide⟩
              have hI_38 := iw_42 (j := 1) (v := y_35) hI_37 ⟨hy_35.1, hy_35.2⟩
              exact K (up (up (up c 41 0 0) 41 0 2) 42 1 y_35) 0 hI_38 (fun a j hm => (up_b (Decidable.or_iff_not_imp_left.mpr (fun h1 h2 => hm (Or.inr (Or.inl (Decidable.not_not.mp h1)))))).trans ((up_b (Decidable.or_iff_not_imp_left.mpr (fun h1 h2 => hm (Or.inl ⟨Decidable.not_not.mp h1, h2⟩)))).trans (up_b (Decidable.or_iff_not_imp_left.mpr (fun h1 h2 => hm (Or.inl ⟨Decidable.not_not.mp h1, h2⟩)))))) ⟨by decide, by decide⟩
            · refine v_ic_gt_f (t := 14) c_146_7 rfl ⟨ha3.1, (Int.not_lt.mp h_33), by decide⟩ (q_iconst c_146_10 (q_goto (t := 15) c_146_11 rfl (v_zret c_146_15 rfl (by decide) (bk_inl (q_iconst c_218_36 (q_iconst c_218_37 (v_cv c_218_38 km_8_203 rfl rfl (nb_ rfl) ⟨⟨rfl, rfl⟩, nb_ rfl, rfl⟩ (nb_ rfl) (nb_ rfl) ?_)))))))
              refine q_iload_n c_145_0 rfl (v_if_ne_t (t := 26) c_145_1 rfl (by decide) (q_aload_n c_145_26 rfl (v_gi (z := 0) (v := 0) c_145_27 kf_8_3 rfl (nb_ rfl) rfl rfl (up_e rfl) (v_if_ne_f (t := 37) c_145_30 rfl (by decide) (q_iconst c_145_33 (q_goto (t := 38) c_145_34 rfl (v_zret c_145_38 rfl (by decide) ?_)))))))
              refine bk_inl (v_if_ne_t (t := 46) c_218_41 rfl (by decide) (q_aload_n c_218_46 rfl ?_))
              have hI_39 := iw_41_0 (v := 0) hI ⟨by decide, by decide⟩
              refine v_cv c_218_47 km_8_317 rfl rfl (nb_ rfl) ⟨⟨rfl, rfl⟩, nb_ rfl, rfl⟩ (nb_ rfl) (nb_ rfl) (s_186 hI_39 (fun c_40 hI_41 hF_42 => (bk_inl (q_aload_n c_218_50 rfl (v_gr (t := 59) c_218_51 kf_8_68 rfl (nb_ rfl) rfl (v_bip c_218_54 (by decide) ?_))))))
              have h_43 := ir_59 hI_41 35
              refine v_ia (v := c_40 59 35) c_218_56 rfl (by decide) (by decide) (by decide) rfl (q_istore c_218_57 (nb_ rfl) (q_aload_n c_218_59 rfl (q_iload_n c_218_60 rfl (q_iload_n c_218_61 rfl (v_cv c_218_62 km_8_335 rfl rfl (nb_ rfl) ⟨⟨rfl, rfl⟩, nb_ rfl, rfl⟩ (nb_ rfl) (nb_ rfl) (s_188 (a1 := a1) (a2 := a2) hI_41 (show 0 ≤ a1 ∧ a1 ≤ 3 from ⟨by first | exact q_720657ba9 h_2 | omega, by first | exact q_1b5e4f74b h_1 h_8 | omega⟩) (show 0 ≤ a2 ∧ a2 ≤ 5 from ⟨by first | exact q_720657ba9 h_15 | omega, by first | exact q_3a2e67ab0 h_14 h_21 | omega⟩) (fun c_44 y_47 hI_45 hF_46 hy_47 => (bk_inl (q_pop c_218_65 rfl ?_)))))))))
              refine q_iload_n c_218_66 rfl (q_iconst c_218_67 ?_)
              by_cases h_48 : a3 ≠ 4
              · refine v_ic_ne_t (t := 84) c_218_68 rfl ⟨h_48, ⟨ha3.1, ha3.2⟩, by decide, by decide⟩ (q_aload_n c_218_84 rfl (v_gr (t := 59) c_218_85 kf_8_68 rfl (nb_ rfl) rfl (q_iconst c_218_88 (q_iload_n c_218_89 rfl (v_imul (v := 4 * a2) c_218_90 rfl (q_iload_n c_218_91 rfl (v_iadd (v := 4 * a2 + a3) c_218_92 rfl ?_)))))))
                have h_49 := ir_59_g hI_45 (j := 4 * a2 + a3) (by first | exact q_e0f71dbae h_14 h_21 h_33 h_48 | omega)
                refine v_ia (v := c_44 59 (4 * a2 + a3)) c_218_93 rfl (by decide) (by decide) ⟨by first | exact q_c6184d3d7 h_15 h_27 | omega, by first | exact q_9e2b4593f h_14 h_21 h_33 | omega⟩ rfl (q_iret c_218_94 rfl ?_)
                exact K c_44 (c_44 59 (4 * a2 + a3)) hI_45 (fun a j hm => (hF_46 a j (fun h => hm (Or.inr (Or.inr h)))).trans ((hF_42 a j (fun h => hm (Or.inr (Or.inr h)))).trans (up_b (Decidable.or_iff_not_imp_left.mpr (fun h1 h2 => hm (Or.inl ⟨Decidable.not_not.mp h1, h2⟩)))))) ⟨(Int.le_trans (by decide) h_49.1), (Int.le_trans h_49.2 (by decide))⟩
              · refine v_ic_ne_f (t := 84) c_218_68 rfl (Decidable.not_not.mp h_48) (q_aload_n c_218_71 rfl (v_gr (t := 59) c_218_72 kf_8_68 rfl (nb_ rfl) rfl (v_bip c_218_75 (by decide) ?_)))
                have h_50 := ir_59 hI_45 35
                refine v_ia (v := c_44 59 35) c_218_77 rfl (by decide) (by decide) (by decide) rfl (q_iload c_218_78 rfl (v_isub (v := c_44 59 35 - c_40 59 35) c_218_80 (by first | exact q_888803a02 | omega) (v_nrm (fun y_51 hy_51 => (q_goto (t := 94) c_218_81 rfl (q_iret c_218_94 rfl ?_))))))
                exact K c_44 y_51 hI_45 (fun a j hm => (hF_46 a j (fun h => hm (Or.inr (Or.inr h)))).trans ((hF_42 a j (fun h => hm (Or.inr (Or.inr h)))).trans (up_b (Decidable.or_iff_not_imp_left.mpr (fun h1 h2 => hm (Or.inl ⟨Decidable.not_not.mp h1, h2⟩)))))) hy_51

set_option maxRecDepth 100000 in
set_option maxHeartbeats 4000000 in
theorem s_219 {sc : List Int32} {d P Q : Nat} {c : ME} {a1 : Int} {a2 : Int} {a3 : Int} {Z : AR → Prop} (hI : Iv 0 (-1) P Q c) (ha1 : (-2147483648) ≤ a1 ∧ a1 ≤ 2147483647) (ha2 : (-2147483648) ≤ a2 ∧ a2 ≤ 2147483647) (ha3 : (-2147483648) ≤ a3 ∧ a3 ≤ 2147483647) (K : ∀ (c2 : ME) (y : Int), Iv 0 (-1) P Q c2 → (∀ (a : Nat) (j : Int), ¬ ((a = 41 ∧ j = 0) ∨ a = 42 ∨ a = 59) → c2 a j = c a j) → (-2147483648) ≤ y ∧ y ≤ 2147483647 → Z (.inl (some (vi y)), Wd P Q P P c2, 0, 0)) : Wp sc (d + 9) 219 0 [(0, .ref 41), (1, vi a1), (2, vi a2), (3, vi a3)] [] (Wd P Q P P c) 0 0 Z := by
  have hP := iv_P hI
  have hQ := iv_Q hI
  refine q_aload_n c_219_0 rfl (q_iconst c_219_1 (v_pi (z := 0) c_219_2 kf_8_3 rfl (nb_ rfl) rfl rfl rfl (by decide) (q_aload_n c_219_5 rfl (q_iload_n c_219_6 rfl (q_aload_n c_219_7 rfl ?_)))))
  have h_1 := ir_41_22 hI
  refine v_gi (z := 22) (v := c 41 22) c_219_8 kf_8_163 rfl (nb_ rfl) rfl rfl (up_n (by decide)) (v_cv c_219_11 km_8_396 rfl rfl (nb_ rfl) ⟨⟨rfl, rfl⟩, nb_ rfl, rfl⟩ (nb_ rfl) (nb_ rfl) (q_aload_n c_212_0 rfl (q_iload_n c_212_1 rfl (q_iconst c_212_2 (q_iload_n c_212_3 rfl (q_iconst c_212_4 (v_isub (v := c 41 22 - 1) c_212_5 rfl ?_)))))))
  refine q_call c_212_6 rfl rfl rfl (q_iload_n c_146_0 rfl (q_iload_n c_146_1 rfl ?_))
  by_cases h_2 : a1 < 0
  · refine v_ic_lt_t (t := 14) c_146_2 rfl ⟨ha1.1, h_2, by decide⟩ (q_iconst c_146_14 (v_zret c_146_15 rfl (by decide) (bk_inl (q_iconst c_212_9 (q_iconst c_212_10 (v_cv c_212_11 km_8_203 rfl rfl (nb_ rfl) ⟨⟨rfl, rfl⟩, nb_ rfl, rfl⟩ (nb_ rfl) (nb_ rfl) (q_iload_n c_145_0 rfl ?_)))))))
    refine v_if_ne_f (t := 26) c_145_1 rfl (by decide) (q_aload_n c_145_4 rfl (v_gi (z := 0) (v := 0) c_145_5 kf_8_3 rfl (nb_ rfl) rfl rfl (up_e rfl) (v_if_ne_f (t := 26) c_145_8 rfl (by decide) (q_aload_n c_145_11 rfl (q_iload_n c_145_12 rfl (v_pi (z := 0) c_145_13 kf_8_3 rfl (nb_ rfl) rfl rfl rfl (by decide) (q_aload_n c_145_16 rfl ?_)))))))
    refine v_gr (t := 42) c_145_17 kf_8_7 rfl (nb_ rfl) rfl (q_iload_n c_145_20 rfl (q_dup2 c_145_21 ⟨rfl, rfl⟩ ?_))
    have h_3 := ir_42 hI 0
    refine v_ia (v := c 42 0) c_145_22 rfl (by decide) (by decide) (by decide) ((up_c (nn rfl)).trans (up_c (nn rfl))) (q_iconst c_145_23 (v_iadd (v := c 42 0 + 1) c_145_24 rfl (v_nrm (fun y_4 hy_4 => (v_is c_145_25 rfl (by decide) (by decide) (by decide) (q_aload_n c_145_26 rfl (v_gi (z := 0) (v := 1) c_145_27 kf_8_3 rfl (nb_ rfl) rfl rfl ((up_c (nn rfl)).trans (up_e rfl)) (v_if_ne_t (t := 37) c_145_30 rfl (by decide) ?_))))))))
    refine q_iconst c_145_37 (v_zret c_145_38 rfl (by decide) (bk_inl (v_zret c_212_14 rfl (by decide) (bk_inl (v_if_eq_t (t := 44) c_219_14 rfl (by decide) (q_iconst c_219_44 (q_iret c_219_45 rfl ?_)))))))
    have hI_5 := iw_41_0 (v := 0) hI ⟨by decide, by decide⟩
    have hI_6 := iw_41_0 (v := 1) hI_5 ⟨by decide, by decide⟩
    have hI_7 := iw_42 (j := 0) (v := y_4) hI_6 ⟨hy_4.1, hy_4.2⟩
    exact K (up (up (up c 41 0 0) 41 0 1) 42 0 y_4) 0 hI_7 (fun a j hm => (up_b (Decidable.or_iff_not_imp_left.mpr (fun h1 h2 => hm (Or.inr (Or.inl (Decidable.not_not.mp h1)))))).trans ((up_b (Decidable.or_iff_not_imp_left.mpr (fun h1 h2 => hm (Or.inl ⟨Decidable.not_not.mp h1, h2⟩)))).trans (up_b (Decidable.or_iff_not_imp_left.mpr (fun h1 h2 => hm (Or.inl ⟨Decidable.not_not.mp h1, h2⟩)))))) ⟨by decide, by decide⟩
  · refine v_ic_lt_f (t := 14) c_146_2 rfl ⟨by decide, (Int.not_lt.mp h_2), ha1.2⟩ (q_iload_n c_146_5 rfl (q_iload_n c_146_6 rfl ?_))
    by_cases h_8 : a1 > c 41 22 - 1
    · refine v_ic_gt_t (t := 14) c_146_7 rfl ⟨by first | exact rgm_l h_1.1 (by decide) | omega, h_8, ha1.2⟩ (q_iconst c_146_14 (v_zret c_146_15 rfl (by decide) (bk_inl (q_iconst c_212_9 (q_iconst c_212_10 (v_cv c_212_11 km_8_203 rfl rfl (nb_ rfl) ⟨⟨rfl, rfl⟩, nb_ rfl, rfl⟩ (nb_ rfl) (nb_ rfl) (q_iload_n c_145_0 rfl ?_)))))))
      refine v_if_ne_f (t := 26) c_145_1 rfl (by decide) (q_aload_n c_145_4 rfl (v_gi (z := 0) (v := 0) c_145_5 kf_8_3 rfl (nb_ rfl) rfl rfl (up_e rfl) (v_if_ne_f (t := 26) c_145_8 rfl (by decide) (q_aload_n c_145_11 rfl (q_iload_n c_145_12 rfl (v_pi (z := 0) c_145_13 kf_8_3 rfl (nb_ rfl) rfl rfl rfl (by decide) (q_aload_n c_145_16 rfl ?_)))))))
      refine v_gr (t := 42) c_145_17 kf_8_7 rfl (nb_ rfl) rfl (q_iload_n c_145_20 rfl (q_dup2 c_145_21 ⟨rfl, rfl⟩ ?_))
      have h_9 := ir_42 hI 0
      refine v_ia (v := c 42 0) c_145_22 rfl (by decide) (by decide) (by decide) ((up_c (nn rfl)).trans (up_c (nn rfl))) (q_iconst c_145_23 (v_iadd (v := c 42 0 + 1) c_145_24 rfl (v_nrm (fun y_10 hy_10 => (v_is c_145_25 rfl (by decide) (by decide) (by decide) (q_aload_n c_145_26 rfl (v_gi (z := 0) (v := 1) c_145_27 kf_8_3 rfl (nb_ rfl) rfl rfl ((up_c (nn rfl)).trans (up_e rfl)) (v_if_ne_t (t := 37) c_145_30 rfl (by decide) ?_))))))))
      refine q_iconst c_145_37 (v_zret c_145_38 rfl (by decide) (bk_inl (v_zret c_212_14 rfl (by decide) (bk_inl (v_if_eq_t (t := 44) c_219_14 rfl (by decide) (q_iconst c_219_44 (q_iret c_219_45 rfl ?_)))))))
      have hI_11 := iw_41_0 (v := 0) hI ⟨by decide, by decide⟩
      have hI_12 := iw_41_0 (v := 1) hI_11 ⟨by decide, by decide⟩
      have hI_13 := iw_42 (j := 0) (v := y_10) hI_12 ⟨hy_10.1, hy_10.2⟩
      exact K (up (up (up c 41 0 0) 41 0 1) 42 0 y_10) 0 hI_13 (fun a j hm => (up_b (Decidable.or_iff_not_imp_left.mpr (fun h1 h2 => hm (Or.inr (Or.inl (Decidable.not_not.mp h1)))))).trans ((up_b (Decidable.or_iff_not_imp_left.mpr (fun h1 h2 => hm (Or.inl ⟨Decidable.not_not.mp h1, h2⟩)))).trans (up_b (Decidable.or_iff_not_imp_left.mpr (fun h1 h2 => hm (Or.inl ⟨Decidable.not_not.mp h1, h2⟩)))))) ⟨by decide, by decide⟩
    · refine v_ic_gt_f (t := 14) c_146_7 rfl ⟨ha1.1, (Int.not_lt.mp h_8), by first | exact rgm_h h_1.2 (by decide) | omega⟩ (q_iconst c_146_10 (q_goto (t := 15) c_146_11 rfl (v_zret c_146_15 rfl (by decide) (bk_inl (q_iconst c_212_9 (q_iconst c_212_10 (v_cv c_212_11 km_8_203 rfl rfl (nb_ rfl) ⟨⟨rfl, rfl⟩, nb_ rfl, rfl⟩ (nb_ rfl) (nb_ rfl) ?_)))))))
      refine q_iload_n c_145_0 rfl (v_if_ne_t (t := 26) c_145_1 rfl (by decide) (q_aload_n c_145_26 rfl (v_gi (z := 0) (v := 0) c_145_27 kf_8_3 rfl (nb_ rfl) rfl rfl (up_e rfl) (v_if_ne_f (t := 37) c_145_30 rfl (by decide) (q_iconst c_145_33 (q_goto (t := 38) c_145_34 rfl (v_zret c_145_38 rfl (by decide) ?_)))))))
      refine bk_inl (v_zret c_212_14 rfl (by decide) (bk_inl (v_if_eq_f (t := 44) c_219_14 rfl (by decide) (q_aload_n c_219_17 rfl (q_iload_n c_219_18 rfl (q_aload_n c_219_19 rfl ?_))))))
      have h_14 := ir_41_20 hI
      refine v_gi (z := 20) (v := c 41 20) c_219_20 kf_8_157 rfl (nb_ rfl) rfl rfl (up_n (by decide)) (v_cv c_219_23 km_8_396 rfl rfl (nb_ rfl) ⟨⟨rfl, rfl⟩, nb_ rfl, rfl⟩ (nb_ rfl) (nb_ rfl) (q_aload_n c_212_0 rfl (q_iload_n c_212_1 rfl (q_iconst c_212_2 (q_iload_n c_212_3 rfl (q_iconst c_212_4 (v_isub (v := c 41 20 - 1) c_212_5 rfl ?_)))))))
      refine q_call c_212_6 rfl rfl rfl (q_iload_n c_146_0 rfl (q_iload_n c_146_1 rfl ?_))
      by_cases h_15 : a2 < 0
      · refine v_ic_lt_t (t := 14) c_146_2 rfl ⟨ha2.1, h_15, by decide⟩ (q_iconst c_146_14 (v_zret c_146_15 rfl (by decide) (bk_inl (q_iconst c_212_9 (q_iconst c_212_10 (v_cv c_212_11 km_8_203 rfl rfl (nb_ rfl) ⟨⟨rfl, rfl⟩, nb_ rfl, rfl⟩ (nb_ rfl) (nb_ rfl) (q_iload_n c_145_0 rfl ?_)))))))
        refine v_if_ne_f (t := 26) c_145_1 rfl (by decide) (q_aload_n c_145_4 rfl (v_gi (z := 0) (v := 0) c_145_5 kf_8_3 rfl (nb_ rfl) rfl rfl (up_e rfl) (v_if_ne_f (t := 26) c_145_8 rfl (by decide) (q_aload_n c_145_11 rfl (q_iload_n c_145_12 rfl (v_pi (z := 0) c_145_13 kf_8_3 rfl (nb_ rfl) rfl rfl rfl (by decide) (q_aload_n c_145_16 rfl ?_)))))))
        refine v_gr (t := 42) c_145_17 kf_8_7 rfl (nb_ rfl) rfl (q_iload_n c_145_20 rfl (q_dup2 c_145_21 ⟨rfl, rfl⟩ ?_))
        have h_16 := ir_42 hI 0
        refine v_ia (v := c 42 0) c_145_22 rfl (by decide) (by decide) (by decide) ((up_c (nn rfl)).trans (up_c (nn rfl))) (q_iconst c_145_23 (v_iadd (v := c 42 0 + 1) c_145_24 rfl (v_nrm (fun y_17 hy_17 => (v_is c_145_25 rfl (by decide) (by decide) (by decide) (q_aload_n c_145_26 rfl (v_gi (z := 0) (v := 1) c_145_27 kf_8_3 rfl (nb_ rfl) rfl rfl ((up_c (nn rfl)).trans (up_e rfl)) (v_if_ne_t (t := 37) c_145_30 rfl (by decide) ?_))))))))
        refine q_iconst c_145_37 (v_zret c_145_38 rfl (by decide) (bk_inl (v_zret c_212_14 rfl (by decide) (bk_inl (v_if_eq_t (t := 44) c_219_26 rfl (by decide) (q_iconst c_219_44 (q_iret c_219_45 rfl ?_)))))))
        have hI_18 := iw_41_0 (v := 0) hI ⟨by decide, by decide⟩
        have hI_19 := iw_41_0 (v := 1) hI_18 ⟨by decide, by decide⟩
        have hI_20 := iw_42 (j := 0) (v := y_17) hI_19 ⟨hy_17.1, hy_17.2⟩
        exact K (up (up (up c 41 0 0) 41 0 1) 42 0 y_17) 0 hI_20 (fun a j hm => (up_b (Decidable.or_iff_not_imp_left.mpr (fun h1 h2 => hm (Or.inr (Or.inl (Decidable.not_not.mp h1)))))).trans ((up_b (Decidable.or_iff_not_imp_left.mpr (fun h1 h2 => hm (Or.inl ⟨Decidable.not_not.mp h1, h2⟩)))).trans (up_b (Decidable.or_iff_not_imp_left.mpr (fun h1 h2 => hm (Or.inl ⟨Decidable.not_not.mp h1, h2⟩)))))) ⟨by decide, by decide⟩
      · refine v_ic_lt_f (t := 14) c_146_2 rfl ⟨by decide, (Int.not_lt.mp h_15), ha2.2⟩ (q_iload_n c_146_5 rfl (q_iload_n c_146_6 rfl ?_))
        by_cases h_21 : a2 > c 41 20 - 1
        · refine v_ic_gt_t (t := 14) c_146_7 rfl ⟨by first | exact rgm_l h_14.1 (by decide) | omega, h_21, ha2.2⟩ (q_iconst c_146_14 (v_zret c_146_15 rfl (by decide) (bk_inl (q_iconst c_212_9 (q_iconst c_212_10 (v_cv c_212_11 km_8_203 rfl rfl (nb_ rfl) ⟨⟨rfl, rfl⟩, nb_ rfl, rfl⟩ (nb_ rfl) (nb_ rfl) (q_iload_n c_145_0 rfl ?_)))))))
          refine v_if_ne_f (t := 26) c_145_1 rfl (by decide) (q_aload_n c_145_4 rfl (v_gi (z := 0) (v := 0) c_145_5 kf_8_3 rfl (nb_ rfl) rfl rfl (up_e rfl) (v_if_ne_f (t := 26) c_145_8 rfl (by decide) (q_aload_n c_145_11 rfl (q_iload_n c_145_12 rfl (v_pi (z := 0) c_145_13 kf_8_3 rfl (nb_ rfl) rfl rfl rfl (by decide) (q_aload_n c_145_16 rfl ?_)))))))
          refine v_gr (t := 42) c_145_17 kf_8_7 rfl (nb_ rfl) rfl (q_iload_n c_145_20 rfl (q_dup2 c_145_21 ⟨rfl, rfl⟩ ?_))
          have h_22 := ir_42 hI 0
          refine v_ia (v := c 42 0) c_145_22 rfl (by decide) (by decide) (by decide) ((up_c (nn rfl)).trans (up_c (nn rfl))) (q_iconst c_145_23 (v_iadd (v := c 42 0 + 1) c_145_24 rfl (v_nrm (fun y_23 hy_23 => (v_is c_145_25 rfl (by decide) (by decide) (by decide) (q_aload_n c_145_26 rfl (v_gi (z := 0) (v := 1) c_145_27 kf_8_3 rfl (nb_ rfl) rfl rfl ((up_c (nn rfl)).trans (up_e rfl)) (v_if_ne_t (t := 37) c_145_30 rfl (by decide) ?_))))))))
          refine q_iconst c_145_37 (v_zret c_145_38 rfl (by decide) (bk_inl (v_zret c_212_14 rfl (by decide) (bk_inl (v_if_eq_t (t := 44) c_219_26 rfl (by decide) (q_iconst c_219_44 (q_iret c_219_45 rfl ?_)))))))
          have hI_24 := iw_41_0 (v := 0) hI ⟨by decide, by decide⟩
          have hI_25 := iw_41_0 (v := 1) hI_24 ⟨by decide, by decide⟩
          have hI_26 := iw_42 (j := 0) (v := y_23) hI_25 ⟨hy_23.1, hy_23.2⟩
          exact K (up (up (up c 41 0 0) 41 0 1) 42 0 y_23) 0 hI_26 (fun a j hm => (up_b (Decidable.or_iff_not_imp_left.mpr (fun h1 h2 => hm (Or.inr (Or.inl (Decidable.not_not.mp h1)))))).trans ((up_b (Decidable.or_iff_not_imp_left.mpr (fun h1 h2 => hm (Or.inl ⟨Decidable.not_not.mp h1, h2⟩)))).trans (up_b (Decidable.or_iff_not_imp_left.mpr (fun h1 h2 => hm (Or.inl ⟨Decidable.not_not.mp h1, h2⟩)))))) ⟨by decide, by decide⟩
        · refine v_ic_gt_f (t := 14) c_146_7 rfl ⟨ha2.1, (Int.not_lt.mp h_21), by first | exact rgm_h h_14.2 (by decide) | omega⟩ (q_iconst c_146_10 (q_goto (t := 15) c_146_11 rfl (v_zret c_146_15 rfl (by decide) (bk_inl (q_iconst c_212_9 (q_iconst c_212_10 (v_cv c_212_11 km_8_203 rfl rfl (nb_ rfl) ⟨⟨rfl, rfl⟩, nb_ rfl, rfl⟩ (nb_ rfl) (nb_ rfl) ?_)))))))
          refine q_iload_n c_145_0 rfl (v_if_ne_t (t := 26) c_145_1 rfl (by decide) (q_aload_n c_145_26 rfl (v_gi (z := 0) (v := 0) c_145_27 kf_8_3 rfl (nb_ rfl) rfl rfl (up_e rfl) (v_if_ne_f (t := 37) c_145_30 rfl (by decide) (q_iconst c_145_33 (q_goto (t := 38) c_145_34 rfl (v_zret c_145_38 rfl (by decide) ?_)))))))
          refine bk_inl (v_zret c_212_14 rfl (by decide) (bk_inl (v_if_eq_f (t := 44) c_219_26 rfl (by decide) (q_aload_n c_219_29 rfl (q_iload_n c_219_30 rfl (q_iconst c_219_31 (q_iconst c_219_32 ?_)))))))
          refine q_call c_219_33 rfl rfl rfl (q_iload_n c_146_0 rfl (q_iload_n c_146_1 rfl ?_))
          by_cases h_27 : a3 < 0
          · refine v_ic_lt_t (t := 14) c_146_2 rfl ⟨ha3.1, h_27, by decide⟩ (q_iconst c_146_14 (v_zret c_146_15 rfl (by decide) (bk_inl (q_iconst c_219_36 (q_iconst c_219_37 (v_cv c_219_38 km_8_203 rfl rfl (nb_ rfl) ⟨⟨rfl, rfl⟩, nb_ rfl, rfl⟩ (nb_ rfl) (nb_ rfl) (q_iload_n c_145_0 rfl ?_)))))))
            refine v_if_ne_f (t := 26) c_145_1 rfl (by decide) (q_aload_n c_145_4 rfl (v_gi (z := 0) (v := 0) c_145_5 kf_8_3 rfl (nb_ rfl) rfl rfl (up_e rfl) (v_if_ne_f (t := 26) c_145_8 rfl (by decide) (q_aload_n c_145_11 rfl (q_iload_n c_145_12 rfl (v_pi (z := 0) c_145_13 kf_8_3 rfl (nb_ rfl) rfl rfl rfl (by decide) (q_aload_n c_145_16 rfl ?_)))))))
            refine v_gr (t := 42) c_145_17 kf_8_7 rfl (nb_ rfl) rfl (q_iload_n c_145_20 rfl (q_dup2 c_145_21 ⟨rfl, rfl⟩ ?_))
            have h_28 := ir_42 hI 1
            refine v_ia (v := c 42 1) c_145_22 rfl (by decide) (by decide) (by decide) ((up_c (nn rfl)).trans (up_c (nn rfl))) (q_iconst c_145_23 (v_iadd (v := c 42 1 + 1) c_145_24 rfl (v_nrm (fun y_29 hy_29 => (v_is c_145_25 rfl (by decide) (by decide) (by decide) (q_aload_n c_145_26 rfl (v_gi (z := 0) (v := 2) c_145_27 kf_8_3 rfl (nb_ rfl) rfl rfl ((up_c (nn rfl)).trans (up_e rfl)) (v_if_ne_t (t := 37) c_145_30 rfl (by decide) ?_))))))))
            refine q_iconst c_145_37 (v_zret c_145_38 rfl (by decide) (bk_inl (v_if_ne_f (t := 46) c_219_41 rfl (by decide) (q_iconst c_219_44 (q_iret c_219_45 rfl ?_)))))
            have hI_30 := iw_41_0 (v := 0) hI ⟨by decide, by decide⟩
            have hI_31 := iw_41_0 (v := 2) hI_30 ⟨by decide, by decide⟩
            have hI_32 := iw_42 (j := 1) (v := y_29) hI_31 ⟨hy_29.1, hy_29.2⟩
            exact K (up (up (up c 41 0 0) 41 0 2) 42 1 y_29) 0 hI_32 (fun a j hm => (up_b (Decidable.or_iff_not_imp_left.mpr (fun h1 h2 => hm (Or.inr (Or.inl (Decidable.not_not.mp h1)))))).trans ((up_b (Decidable.or_iff_not_imp_left.mpr (fun h1 h2 => hm (Or.inl ⟨Decidable.not_not.mp h1, h2⟩)))).trans (up_b (Decidable.or_iff_not_imp_left.mpr (fun h1 h2 => hm (Or.inl ⟨Decidable.not_not.mp h1, h2⟩)))))) ⟨by decide, by decide⟩
          · refine v_ic_lt_f (t := 14) c_146_2 rfl ⟨by decide, (Int.not_lt.mp h_27), ha3.2⟩ (q_iload_n c_146_5 rfl (q_iload_n c_146_6 rfl ?_))
            by_cases h_33 : a3 > 4
            · refine v_ic_gt_t (t := 14) c_146_7 rfl ⟨by decide, h_33, ha3.2⟩ (q_iconst c_146_14 (v_zret c_146_15 rfl (by decide) (bk_inl (q_iconst c_219_36 (q_iconst c_219_37 (v_cv c_219_38 km_8_203 rfl rfl (nb_ rfl) ⟨⟨rfl, rfl⟩, nb_ rfl, rfl⟩ (nb_ rfl) (nb_ rfl) (q_iload_n c_145_0 rfl ?_)))))))
              refine v_if_ne_f (t := 26) c_145_1 rfl (by decide) (q_aload_n c_145_4 rfl (v_gi (z := 0) (v := 0) c_145_5 kf_8_3 rfl (nb_ rfl) rfl rfl (up_e rfl) (v_if_ne_f (t := 26) c_145_8 rfl (by decide) (q_aload_n c_145_11 rfl (q_iload_n c_145_12 rfl (v_pi (z := 0) c_145_13 kf_8_3 rfl (nb_ rfl) rfl rfl rfl (by decide) (q_aload_n c_145_16 rfl ?_)))))))
              refine v_gr (t := 42) c_145_17 kf_8_7 rfl (nb_ rfl) rfl (q_iload_n c_145_20 rfl (q_dup2 c_145_21 ⟨rfl, rfl⟩ ?_))
              have h_34 := ir_42 hI 1
              refine v_ia (v := c 42 1) c_145_22 rfl (by decide) (by decide) (by decide) ((up_c (nn rfl)).trans (up_c (nn rfl))) (q_iconst c_145_23 (v_iadd (v := c 42 1 + 1) c_145_24 rfl (v_nrm (fun y_35 hy_35 => (v_is c_145_25 rfl (by decide) (by decide) (by decide) (q_aload_n c_145_26 rfl (v_gi (z := 0) (v := 2) c_145_27 kf_8_3 rfl (nb_ rfl) rfl rfl ((up_c (nn rfl)).trans (up_e rfl)) (v_if_ne_t (t := 37) c_145_30 rfl (by decide) ?_))))))))
              refine q_iconst c_145_37 (v_zret c_145_38 rfl (by decide) (bk_inl (v_if_ne_f (t := 46) c_219_41 rfl (by decide) (q_iconst c_219_44 (q_iret c_219_45 rfl ?_)))))
              have hI_36 := iw_41_0 (v := 0) hI ⟨by decide, by decide⟩
              have hI_37 := iw_41_0 (v := 2) hI_36 ⟨by decide, by decide⟩
              have hI_38 := iw_42 (j := 1) (v := y_35) hI_37 ⟨hy_35.1, hy_35.2⟩
              exact K (up (up (up c 41 0 0) 41 0 2) 42 1 y_35) 0 hI_38 (fun a j hm => (up_b (Decidable.or_iff_not_imp_left.mpr (fun h1 h2 => hm (Or.inr (Or.inl (Decidable.not_not.mp h1)))))).trans ((up_b (Decidable.or_iff_not_imp_left.mpr (fun h1 h2 => hm (Or.inl ⟨Decidable.not_not.mp h1, h2⟩)))).trans (up_b (Decidable.or_iff_not_imp_left.mpr (fun h1 h2 => hm (Or.inl ⟨Decidable.not_not.mp h1, h2⟩)))))) ⟨by decide, by decide⟩
            · refine v_ic_gt_f (t := 14) c_146_7 rfl ⟨ha3.1, (Int.not_lt.mp h_33), by decide⟩ (q_iconst c_146_10 (q_goto (t := 15) c_146_11 rfl (v_zret c_146_15 rfl (by decide) (bk_inl (q_iconst c_219_36 (q_iconst c_219_37 (v_cv c_219_38 km_8_203 rfl rfl (nb_ rfl) ⟨⟨rfl, rfl⟩, nb_ rfl, rfl⟩ (nb_ rfl) (nb_ rfl) ?_)))))))
              refine q_iload_n c_145_0 rfl (v_if_ne_t (t := 26) c_145_1 rfl (by decide) (q_aload_n c_145_26 rfl (v_gi (z := 0) (v := 0) c_145_27 kf_8_3 rfl (nb_ rfl) rfl rfl (up_e rfl) (v_if_ne_f (t := 37) c_145_30 rfl (by decide) (q_iconst c_145_33 (q_goto (t := 38) c_145_34 rfl (v_zret c_145_38 rfl (by decide) ?_)))))))
              refine bk_inl (v_if_ne_t (t := 46) c_219_41 rfl (by decide) (q_aload_n c_219_46 rfl ?_))
              have hI_39 := iw_41_0 (v := 0) hI ⟨by decide, by decide⟩
              refine v_cv c_219_47 km_8_317 rfl rfl (nb_ rfl) ⟨⟨rfl, rfl⟩, nb_ rfl, rfl⟩ (nb_ rfl) (nb_ rfl) (s_186 hI_39 (fun c_40 hI_41 hF_42 => (bk_inl (q_iload_n c_219_50 rfl (q_iconst c_219_51 ?_)))))
              by_cases h_43 : a3 ≠ 4
              · refine v_ic_ne_t (t := 64) c_219_52 rfl ⟨h_43, ⟨ha3.1, ha3.2⟩, by decide, by decide⟩ (q_aload_n c_219_64 rfl (q_iload_n c_219_65 rfl (q_iload_n c_219_66 rfl (q_iload_n c_219_67 rfl ?_))))
                have h_44 := ir_49 hI a1
                have kn_45 : Hid (c_40 49 a1 = c 49 a1) := (hF_42 49 a1 (fun h => absurd h (nn rfl))).trans (up_c (nn rfl))
                have h_46 := ir_59 hI_41 (a1 + 30)
                have h_47 := ir_59_g hI_41 (j := 4 * a2 + a3) (by first | exact q_e0f71dbae h_14 h_21 h_33 h_43 | omega)
                have h_48 := fal_rng (m := c 49 a1) (t := c_40 59 (a1 + 30)) (g := a3) (x := c_40 59 (4 * a2 + a3)) (by first | exact q_c6ed8760d h_47 | omega)
                refine v_cv c_219_68 km_8_363 rfl rfl (nb_ rfl) ⟨⟨rfl, rfl⟩, nb_ rfl, rfl⟩ (nb_ rfl) (nb_ rfl) (s_189 (v1 := c 49 a1) (v2 := c_40 59 (a1 + 30)) (v3 := c_40 59 (4 * a2 + a3)) (r := (fal (c 49 a1) (c_40 59 (a1 + 30)) a3 (c_40 59 (4 * a2 + a3)))) (a1 := a1) (a2 := a2) (a3 := a3) hI_41 (show 0 ≤ a1 ∧ a1 ≤ 3 from ⟨by first | exact q_720657ba9 h_2 | omega, by first | exact q_1b5e4f74b h_1 h_8 | omega⟩) (show 0 ≤ a2 ∧ a2 ≤ 5 from ⟨by first | exact q_720657ba9 h_15 | omega, by first | exact q_3a2e67ab0 h_14 h_21 | omega⟩) (show 0 ≤ a3 ∧ a3 ≤ 3 from ⟨by first | exact q_720657ba9 h_27 | omega, by first | exact q_adb162ac9 h_33 h_43 | omega⟩) ((hid kn_45)) (rfl) (rfl) rfl (bk_inl (q_iret c_219_71 rfl ?_)))
                exact K c_40 (fal (c 49 a1) (c_40 59 (a1 + 30)) a3 (c_40 59 (4 * a2 + a3))) hI_41 (fun a j hm => (hF_42 a j (fun h => hm (Or.inr (Or.inr h)))).trans (up_b (Decidable.or_iff_not_imp_left.mpr (fun h1 h2 => hm (Or.inl ⟨Decidable.not_not.mp h1, h2⟩))))) ⟨by first | exact q_fda856264 h_48 | omega, by first | exact q_4bf067e8d h_47 h_48 | omega⟩
              · refine v_ic_ne_f (t := 64) c_219_52 rfl (Decidable.not_not.mp h_43) (q_aload_n c_219_55 rfl (q_iload_n c_219_56 rfl (q_iload_n c_219_57 rfl ?_)))
                have h_49 := ir_49 hI a1
                have kn_50 : Hid (c_40 49 a1 = c 49 a1) := (hF_42 49 a1 (fun h => absurd h (nn rfl))).trans (up_c (nn rfl))
                have h_51 := ir_59 hI_41 (a1 + 30)
                have h_52 := ir_59_g hI_41 (j := 4 * a2) (by first | exact q_b0d0e4535 h_14 h_21 | omega)
                have h_53 := ir_59_g hI_41 (j := 4 * a2 + 1) (by first | exact q_e3354e5e9 h_14 h_21 | omega)
                have h_54 := ir_59_g hI_41 (j := 4 * a2 + 2) (by first | exact q_0a5347bcd h_14 h_21 | omega)
                have h_55 := ir_59_g hI_41 (j := 4 * a2 + 3) (by first | exact q_9939b3b7f h_14 h_21 | omega)
                have h_56 := fal_rng (m := c 49 a1) (t := c_40 59 (a1 + 30)) (g := 0) (x := c_40 59 (4 * a2)) (by first | exact q_c6ed8760d h_52 | omega)
                have h_57 := fal_rng (m := c 49 a1) (t := c_40 59 (a1 + 30)) (g := 1) (x := c_40 59 (4 * a2 + 1)) (by first | exact q_c6ed8760d h_53 | omega)
                have h_58 := fal_rng (m := c 49 a1) (t := c_40 59 (a1 + 30)) (g := 2) (x := c_40 59 (4 * a2 + 2)) (by first | exact q_c6ed8760d h_54 | omega)
                have h_59 := fal_rng (m := c 49 a1) (t := c_40 59 (a1 + 30)) (g := 3) (x := c_40 59 (4 * a2 + 3)) (by first | exact q_c6ed8760d h_55 | omega)
                refine v_cv c_219_58 km_8_366 rfl rfl (nb_ rfl) ⟨⟨rfl, rfl⟩, nb_ rfl, rfl⟩ (nb_ rfl) (nb_ rfl) (s_190 (v1 := c 49 a1) (v2 := c_40 59 (a1 + 30)) (v3 := c_40 59 (4 * a2)) (v4 := c_40 59 (4 * a2 + 1)) (v5 := c_40 59 (4 * a2 + 2)) (v6 := c_40 59 (4 * a2 + 3)) (r := (fal (c 49 a1) (c_40 59 (a1 + 30)) 0 (c_40 59 (4 * a2))) + (fal (c 49 a1) (c_40 59 (a1 + 30)) 1 (c_40 59 (4 * a2 + 1))) + (fal (c 49 a1) (c_40 59 (a1 + 30)) 2 (c_40 59 (4 * a2 + 2))) + (fal (c 49 a1) (c_40 59 (a1 + 30)) 3 (c_40 59 (4 * a2 + 3)))) (a1 := a1) (a2 := a2) hI_41 (show 0 ≤ a1 ∧ a1 ≤ 3 from ⟨by first | exact q_720657ba9 h_2 | omega, by first | exact q_1b5e4f74b h_1 h_8 | omega⟩) (show 0 ≤ a2 ∧ a2 ≤ 5 from ⟨by first | exact q_720657ba9 h_15 | omega, by first | exact q_3a2e67ab0 h_14 h_21 | omega⟩) ((hid kn_50)) (rfl) (rfl) (rfl) (rfl) (rfl) rfl (bk_inl (q_goto (t := 71) c_219_61 rfl (q_iret c_219_71 rfl ?_))))
                exact K c_40 ((fal (c 49 a1) (c_40 59 (a1 + 30)) 0 (c_40 59 (4 * a2))) + (fal (c 49 a1) (c_40 59 (a1 + 30)) 1 (c_40 59 (4 * a2 + 1))) + (fal (c 49 a1) (c_40 59 (a1 + 30)) 2 (c_40 59 (4 * a2 + 2))) + (fal (c 49 a1) (c_40 59 (a1 + 30)) 3 (c_40 59 (4 * a2 + 3)))) hI_41 (fun a j hm => (hF_42 a j (fun h => hm (Or.inr (Or.inr h)))).trans (up_b (Decidable.or_iff_not_imp_left.mpr (fun h1 h2 => hm (Or.inl ⟨Decidable.not_not.mp h1, h2⟩))))) ⟨by first | exact q_c0b7ed1c9 h_56 h_57 h_58 h_59 | omega, by first | exact q_c7a0dd24d h_52 h_53 h_54 h_55 h_56 h_57 h_58 h_59 | omega⟩

set_option maxRecDepth 100000 in
set_option maxHeartbeats 4000000 in
theorem s_220_l {sc : List Int32} {d P Q : Nat} {c : ME} {a1 : Int} {a2 : Int} {a3 : Int} {Z : AR → Prop} (hI : Iv 0 (-1) P Q c) (ha1 : (-2147483648) ≤ a1 ∧ a1 ≤ 2147483647) (ha2 : (-2147483648) ≤ a2 ∧ a2 ≤ 2147483647) (ha3 : (-2147483648) ≤ a3 ∧ a3 ≤ 2147483647) (K : ∀ (c2 : ME) (y : Int), Iv 0 (-1) P Q c2 → (∀ (a : Nat) (j : Int), ¬ ((a = 41 ∧ j = 0) ∨ a = 42 ∨ a = 59) → c2 a j = c a j) → (-2147483648) ≤ y ∧ y ≤ 2147483647 → Z (.inl (some (vi y)), Wd P Q P P c2, 0, 0)) : ∀ n : Nat, (∀ (c2 : ME) (v4 : Int), Iv 0 (-1) P Q c2 → (∀ (a : Nat) (j : Int), ¬ ((a = 41 ∧ j = 0) ∨ a = 42 ∨ a = 59) → c2 a j = c a j) → 0 ≤ v4 ∧ v4 ≤ 100 → ((a1 ≥ 0 ∧ a1 ≤ 5)) → ((a2 ≥ 0 ∧ a2 ≤ 3)) → 201 - 2 * v4 < (n : Int) → Wp sc (d + 9) 220 55 [(0, .ref 41), (1, vi a1), (2, vi a2), (3, vi a3), (4, vi v4)] [] (Wd P Q P P c2) 0 0 Z) := by
  intro n
  induction n with
  | zero => exact (by intro c2 v4 hI2 hF hv4 hx0 hx1 hm9; have hP := iv_P hI; have hQ := iv_Q hI; exfalso; omega)
  | succ n ih =>
    have hP := iv_P hI
    have hQ := iv_Q hI
    intro c2 v4 hI2 hF hv4 hx0 hx1 hm9
    refine q_iload c_220_55 rfl (v_bip c_220_57 (by decide) ?_)
    by_cases h_1 : v4 > 99
    · refine v_ic_gt_t (t := 95) c_220_59 rfl ⟨by decide, h_1, (Int.le_trans hv4.2 (by decide))⟩ (q_iconst c_220_95 (q_iret c_220_96 rfl ?_))
      exact K c2 (-1) hI2 (fun a j hm => hF a j hm) ⟨by decide, by decide⟩
    · refine v_ic_gt_f (t := 95) c_220_59 rfl ⟨(Int.le_trans (by decide) hv4.1), (Int.not_lt.mp h_1), by decide⟩ (q_aload_n c_220_62 rfl (q_iload_n c_220_63 rfl ?_))
      have h_2 := ir_59_g hI2 (j := 4 * a1) (by omega)
      have h_3 := ir_59_g hI2 (j := 4 * a1 + 1) (by omega)
      have h_4 := ir_59_g hI2 (j := 4 * a1 + 2) (by omega)
      have h_5 := ir_59_g hI2 (j := 4 * a1 + 3) (by omega)
      refine v_cv c_220_64 km_8_343 rfl rfl (nb_ rfl) ⟨⟨rfl, rfl⟩, nb_ rfl, rfl⟩ (nb_ rfl) (nb_ rfl) (s_187 (v1 := c2 59 (4 * a1)) (v2 := c2 59 (4 * a1 + 1)) (v3 := c2 59 (4 * a1 + 2)) (v4 := c2 59 (4 * a1 + 3)) (r := c2 59 (4 * a1 + 1) + c2 59 (4 * a1 + 2) + c2 59 (4 * a1 + 3) + c2 59 (4 * a1)) (a1 := a1) hI2 (show 0 ≤ a1 ∧ a1 ≤ 5 from ⟨by omega, by omega⟩) (rfl) (rfl) (rfl) (rfl) (by omega) (bk_inl ?_))
      by_cases h_6 : c2 59 (4 * a1 + 1) + c2 59 (4 * a1 + 2) + c2 59 (4 * a1 + 3) + c2 59 (4 * a1) ≤ 0
      · refine v_if_le_t (t := 95) c_220_67 rfl ⟨by first | exact q_e052ef40e h_2 h_3 h_4 h_5 | omega, h_6, by decide⟩ (q_iconst c_220_95 (q_iret c_220_96 rfl ?_))
        exact K c2 (-1) hI2 (fun a j hm => hF a j hm) ⟨by decide, by decide⟩
      · refine v_if_le_f (t := 95) c_220_67 rfl ⟨by decide, (Int.not_le.mp h_6), by first | exact q_db9ef1f4a h_2 h_3 h_4 h_5 | omega⟩ (q_aload_n c_220_70 rfl (q_iload_n c_220_71 rfl (v_cv c_220_72 km_8_399 rfl rfl (nb_ rfl) ⟨⟨rfl, rfl⟩, nb_ rfl, rfl⟩ (nb_ rfl) (nb_ rfl) (s_204 (a1 := a1) hI2 (show 0 ≤ a1 ∧ a1 ≤ 5 from ⟨by omega, by omega⟩) (fun y_7 hy_7 => (bk_inl (q_iload_n c_220_75 rfl ?_)))))))
        by_cases h_8 : y_7 < a3
        · refine v_ic_lt_t (t := 82) c_220_76 rfl ⟨hy_7.1, h_8, ha3.2⟩ (q_aload_n c_220_82 rfl (q_iload_n c_220_83 rfl (q_iload_n c_220_84 rfl (v_cv c_220_85 km_8_335 rfl rfl (nb_ rfl) ⟨⟨rfl, rfl⟩, nb_ rfl, rfl⟩ (nb_ rfl) (nb_ rfl) (s_188 (a1 := a2) (a2 := a1) hI2 (show 0 ≤ a2 ∧ a2 ≤ 3 from ⟨by omega, by omega⟩) (show 0 ≤ a1 ∧ a1 ≤ 5 from ⟨by omega, by omega⟩) (fun c_9 y_12 hI_10 hF_11 hy_12 => (bk_inl (q_pop c_220_88 rfl (v_iinc (v := v4 + 1) c_220_89 rfl (nb_ rfl) rfl ?_)))))))))
          refine q_goto (t := 55) c_220_92 rfl (Wp_ls [(0, .ref 41), (1, vi a1), (2, vi a2), (3, vi a3), (4, vi (v4 + 1))] (lsub_cons rfl (lsub_cons rfl (lsub_cons rfl (lsub_cons rfl (lsub_cons rfl lsub_nil))))) ?_)
          exact ih c_9 (v4 + 1) hI_10 (fun a j hm => (hF_11 a j (fun h => hm (Or.inr (Or.inr h)))).trans (hF a j hm)) ⟨by first | exact rgp_l hv4.1 (by decide) | omega, by first | exact q_1eecf77db h_1 | omega⟩ ⟨by omega, by omega⟩ ⟨by omega, by omega⟩ (by omega)
        · refine v_ic_lt_f (t := 82) c_220_76 rfl ⟨ha3.1, (Int.not_lt.mp h_8), hy_7.2⟩ (q_iload c_220_79 rfl (q_iret c_220_81 rfl ?_))
          exact K c2 v4 hI2 (fun a j hm => hF a j hm) ⟨(Int.le_trans (by decide) hv4.1), (Int.le_trans hv4.2 (by decide))⟩
set_option maxRecDepth 100000 in
set_option maxHeartbeats 4000000 in
theorem s_220 {sc : List Int32} {d P Q : Nat} {c : ME} {a1 : Int} {a2 : Int} {a3 : Int} {Z : AR → Prop} (hI : Iv 0 (-1) P Q c) (ha1 : (-2147483648) ≤ a1 ∧ a1 ≤ 2147483647) (ha2 : (-2147483648) ≤ a2 ∧ a2 ≤ 2147483647) (ha3 : (-2147483648) ≤ a3 ∧ a3 ≤ 2147483647) (K : ∀ (c2 : ME) (y : Int), Iv 0 (-1) P Q c2 → (∀ (a : Nat) (j : Int), ¬ ((a = 41 ∧ j = 0) ∨ a = 42 ∨ a = 59) → c2 a j = c a j) → (-2147483648) ≤ y ∧ y ≤ 2147483647 → Z (.inl (some (vi y)), Wd P Q P P c2, 0, 0)) : Wp sc (d + 9) 220 0 [(0, .ref 41), (1, vi a1), (2, vi a2), (3, vi a3)] [] (Wd P Q P P c) 0 0 Z := by
  have hP := iv_P hI
  have hQ := iv_Q hI
  refine q_aload_n c_220_0 rfl (q_iconst c_220_1 (v_pi (z := 0) c_220_2 kf_8_3 rfl (nb_ rfl) rfl rfl rfl (by decide) (q_aload_n c_220_5 rfl (q_iload_n c_220_6 rfl (q_aload_n c_220_7 rfl ?_)))))
  have h_13 := ir_41_20 hI
  refine v_gi (z := 20) (v := c 41 20) c_220_8 kf_8_157 rfl (nb_ rfl) rfl rfl (up_n (by decide)) (v_cv c_220_11 km_8_396 rfl rfl (nb_ rfl) ⟨⟨rfl, rfl⟩, nb_ rfl, rfl⟩ (nb_ rfl) (nb_ rfl) (q_aload_n c_212_0 rfl (q_iload_n c_212_1 rfl (q_iconst c_212_2 (q_iload_n c_212_3 rfl (q_iconst c_212_4 (v_isub (v := c 41 20 - 1) c_212_5 rfl ?_)))))))
  refine q_call c_212_6 rfl rfl rfl (q_iload_n c_146_0 rfl (q_iload_n c_146_1 rfl ?_))
  by_cases h_14 : a1 < 0
  · refine v_ic_lt_t (t := 14) c_146_2 rfl ⟨ha1.1, h_14, by decide⟩ (q_iconst c_146_14 (v_zret c_146_15 rfl (by decide) (bk_inl (q_iconst c_212_9 (q_iconst c_212_10 (v_cv c_212_11 km_8_203 rfl rfl (nb_ rfl) ⟨⟨rfl, rfl⟩, nb_ rfl, rfl⟩ (nb_ rfl) (nb_ rfl) (q_iload_n c_145_0 rfl ?_)))))))
    refine v_if_ne_f (t := 26) c_145_1 rfl (by decide) (q_aload_n c_145_4 rfl (v_gi (z := 0) (v := 0) c_145_5 kf_8_3 rfl (nb_ rfl) rfl rfl (up_e rfl) (v_if_ne_f (t := 26) c_145_8 rfl (by decide) (q_aload_n c_145_11 rfl (q_iload_n c_145_12 rfl (v_pi (z := 0) c_145_13 kf_8_3 rfl (nb_ rfl) rfl rfl rfl (by decide) (q_aload_n c_145_16 rfl ?_)))))))
    refine v_gr (t := 42) c_145_17 kf_8_7 rfl (nb_ rfl) rfl (q_iload_n c_145_20 rfl (q_dup2 c_145_21 ⟨rfl, rfl⟩ ?_))
    have h_15 := ir_42 hI 0
    refine v_ia (v := c 42 0) c_145_22 rfl (by decide) (by decide) (by decide) ((up_c (nn rfl)).trans (up_c (nn rfl))) (q_iconst c_145_23 (v_iadd (v := c 42 0 + 1) c_145_24 rfl (v_nrm (fun y_16 hy_16 => (v_is c_145_25 rfl (by decide) (by decide) (by decide) (q_aload_n c_145_26 rfl (v_gi (z := 0) (v := 1) c_145_27 kf_8_3 rfl (nb_ rfl) rfl rfl ((up_c (nn rfl)).trans (up_e rfl)) (v_if_ne_t (t := 37) c_145_30 rfl (by decide) ?_))))))))
    refine q_iconst c_145_37 (v_zret c_145_38 rfl (by decide) (bk_inl (v_zret c_212_14 rfl (by decide) (bk_inl (v_if_eq_t (t := 46) c_220_14 rfl (by decide) (q_iconst c_220_46 (q_iret c_220_47 rfl ?_)))))))
    have hI_17 := iw_41_0 (v := 0) hI ⟨by decide, by decide⟩
    have hI_18 := iw_41_0 (v := 1) hI_17 ⟨by decide, by decide⟩
    have hI_19 := iw_42 (j := 0) (v := y_16) hI_18 ⟨hy_16.1, hy_16.2⟩
    exact K (up (up (up c 41 0 0) 41 0 1) 42 0 y_16) 0 hI_19 (fun a j hm => (up_b (Decidable.or_iff_not_imp_left.mpr (fun h1 h2 => hm (Or.inr (Or.inl (Decidable.not_not.mp h1)))))).trans ((up_b (Decidable.or_iff_not_imp_left.mpr (fun h1 h2 => hm (Or.inl ⟨Decidable.not_not.mp h1, h2⟩)))).trans (up_b (Decidable.or_iff_not_imp_left.mpr (fun h1 h2 => hm (Or.inl ⟨Decidable.not_not.mp h1, h2⟩)))))) ⟨by decide, by decide⟩
  · refine v_ic_lt_f (t := 14) c_146_2 rfl ⟨by decide, (Int.not_lt.mp h_14), ha1.2⟩ (q_iload_n c_146_5 rfl (q_iload_n c_146_6 rfl ?_))
    by_cases h_20 : a1 > c 41 20 - 1
    · refine v_ic_gt_t (t := 14) c_146_7 rfl ⟨by first | exact rgm_l h_13.1 (by decide) | omega, h_20, ha1.2⟩ (q_iconst c_146_14 (v_zret c_146_15 rfl (by decide) (bk_inl (q_iconst c_212_9 (q_iconst c_212_10 (v_cv c_212_11 km_8_203 rfl rfl (nb_ rfl) ⟨⟨rfl, rfl⟩, nb_ rfl, rfl⟩ (nb_ rfl) (nb_ rfl) (q_iload_n c_145_0 rfl ?_)))))))
      refine v_if_ne_f (t := 26) c_145_1 rfl (by decide) (q_aload_n c_145_4 rfl (v_gi (z := 0) (v := 0) c_145_5 kf_8_3 rfl (nb_ rfl) rfl rfl (up_e rfl) (v_if_ne_f (t := 26) c_145_8 rfl (by decide) (q_aload_n c_145_11 rfl (q_iload_n c_145_12 rfl (v_pi (z := 0) c_145_13 kf_8_3 rfl (nb_ rfl) rfl rfl rfl (by decide) (q_aload_n c_145_16 rfl ?_)))))))
      refine v_gr (t := 42) c_145_17 kf_8_7 rfl (nb_ rfl) rfl (q_iload_n c_145_20 rfl (q_dup2 c_145_21 ⟨rfl, rfl⟩ ?_))
      have h_21 := ir_42 hI 0
      refine v_ia (v := c 42 0) c_145_22 rfl (by decide) (by decide) (by decide) ((up_c (nn rfl)).trans (up_c (nn rfl))) (q_iconst c_145_23 (v_iadd (v := c 42 0 + 1) c_145_24 rfl (v_nrm (fun y_22 hy_22 => (v_is c_145_25 rfl (by decide) (by decide) (by decide) (q_aload_n c_145_26 rfl (v_gi (z := 0) (v := 1) c_145_27 kf_8_3 rfl (nb_ rfl) rfl rfl ((up_c (nn rfl)).trans (up_e rfl)) (v_if_ne_t (t := 37) c_145_30 rfl (by decide) ?_))))))))
      refine q_iconst c_145_37 (v_zret c_145_38 rfl (by decide) (bk_inl (v_zret c_212_14 rfl (by decide) (bk_inl (v_if_eq_t (t := 46) c_220_14 rfl (by decide) (q_iconst c_220_46 (q_iret c_220_47 rfl ?_)))))))
      have hI_23 := iw_41_0 (v := 0) hI ⟨by decide, by decide⟩
      have hI_24 := iw_41_0 (v := 1) hI_23 ⟨by decide, by decide⟩
      have hI_25 := iw_42 (j := 0) (v := y_22) hI_24 ⟨hy_22.1, hy_22.2⟩
      exact K (up (up (up c 41 0 0) 41 0 1) 42 0 y_22) 0 hI_25 (fun a j hm => (up_b (Decidable.or_iff_not_imp_left.mpr (fun h1 h2 => hm (Or.inr (Or.inl (Decidable.not_not.mp h1)))))).trans ((up_b (Decidable.or_iff_not_imp_left.mpr (fun h1 h2 => hm (Or.inl ⟨Decidable.not_not.mp h1, h2⟩)))).trans (up_b (Decidable.or_iff_not_imp_left.mpr (fun h1 h2 => hm (Or.inl ⟨Decidable.not_not.mp h1, h2⟩)))))) ⟨by decide, by decide⟩
    · refine v_ic_gt_f (t := 14) c_146_7 rfl ⟨ha1.1, (Int.not_lt.mp h_20), by first | exact rgm_h h_13.2 (by decide) | omega⟩ (q_iconst c_146_10 (q_goto (t := 15) c_146_11 rfl (v_zret c_146_15 rfl (by decide) (bk_inl (q_iconst c_212_9 (q_iconst c_212_10 (v_cv c_212_11 km_8_203 rfl rfl (nb_ rfl) ⟨⟨rfl, rfl⟩, nb_ rfl, rfl⟩ (nb_ rfl) (nb_ rfl) ?_)))))))
      refine q_iload_n c_145_0 rfl (v_if_ne_t (t := 26) c_145_1 rfl (by decide) (q_aload_n c_145_26 rfl (v_gi (z := 0) (v := 0) c_145_27 kf_8_3 rfl (nb_ rfl) rfl rfl (up_e rfl) (v_if_ne_f (t := 37) c_145_30 rfl (by decide) (q_iconst c_145_33 (q_goto (t := 38) c_145_34 rfl (v_zret c_145_38 rfl (by decide) ?_)))))))
      refine bk_inl (v_zret c_212_14 rfl (by decide) (bk_inl (v_if_eq_f (t := 46) c_220_14 rfl (by decide) (q_aload_n c_220_17 rfl (q_iload_n c_220_18 rfl (q_aload_n c_220_19 rfl ?_))))))
      have h_26 := ir_41_21 hI
      refine v_gi (z := 21) (v := c 41 21) c_220_20 kf_8_160 rfl (nb_ rfl) rfl rfl (up_n (by decide)) (v_cv c_220_23 km_8_396 rfl rfl (nb_ rfl) ⟨⟨rfl, rfl⟩, nb_ rfl, rfl⟩ (nb_ rfl) (nb_ rfl) (q_aload_n c_212_0 rfl (q_iload_n c_212_1 rfl (q_iconst c_212_2 (q_iload_n c_212_3 rfl (q_iconst c_212_4 (v_isub (v := c 41 21 - 1) c_212_5 rfl ?_)))))))
      refine q_call c_212_6 rfl rfl rfl (q_iload_n c_146_0 rfl (q_iload_n c_146_1 rfl ?_))
      by_cases h_27 : a2 < 0
      · refine v_ic_lt_t (t := 14) c_146_2 rfl ⟨ha2.1, h_27, by decide⟩ (q_iconst c_146_14 (v_zret c_146_15 rfl (by decide) (bk_inl (q_iconst c_212_9 (q_iconst c_212_10 (v_cv c_212_11 km_8_203 rfl rfl (nb_ rfl) ⟨⟨rfl, rfl⟩, nb_ rfl, rfl⟩ (nb_ rfl) (nb_ rfl) (q_iload_n c_145_0 rfl ?_)))))))
        refine v_if_ne_f (t := 26) c_145_1 rfl (by decide) (q_aload_n c_145_4 rfl (v_gi (z := 0) (v := 0) c_145_5 kf_8_3 rfl (nb_ rfl) rfl rfl (up_e rfl) (v_if_ne_f (t := 26) c_145_8 rfl (by decide) (q_aload_n c_145_11 rfl (q_iload_n c_145_12 rfl (v_pi (z := 0) c_145_13 kf_8_3 rfl (nb_ rfl) rfl rfl rfl (by decide) (q_aload_n c_145_16 rfl ?_)))))))
        refine v_gr (t := 42) c_145_17 kf_8_7 rfl (nb_ rfl) rfl (q_iload_n c_145_20 rfl (q_dup2 c_145_21 ⟨rfl, rfl⟩ ?_))
        have h_28 := ir_42 hI 0
        refine v_ia (v := c 42 0) c_145_22 rfl (by decide) (by decide) (by decide) ((up_c (nn rfl)).trans (up_c (nn rfl))) (q_iconst c_145_23 (v_iadd (v := c 42 0 + 1) c_145_24 rfl (v_nrm (fun y_29 hy_29 => (v_is c_145_25 rfl (by decide) (by decide) (by decide) (q_aload_n c_145_26 rfl (v_gi (z := 0) (v := 1) c_145_27 kf_8_3 rfl (nb_ rfl) rfl rfl ((up_c (nn rfl)).trans (up_e rfl)) (v_if_ne_t (t := 37) c_145_30 rfl (by decide) ?_))))))))
        refine q_iconst c_145_37 (v_zret c_145_38 rfl (by decide) (bk_inl (v_zret c_212_14 rfl (by decide) (bk_inl (v_if_eq_t (t := 46) c_220_26 rfl (by decide) (q_iconst c_220_46 (q_iret c_220_47 rfl ?_)))))))
        have hI_30 := iw_41_0 (v := 0) hI ⟨by decide, by decide⟩
        have hI_31 := iw_41_0 (v := 1) hI_30 ⟨by decide, by decide⟩
        have hI_32 := iw_42 (j := 0) (v := y_29) hI_31 ⟨hy_29.1, hy_29.2⟩
        exact K (up (up (up c 41 0 0) 41 0 1) 42 0 y_29) 0 hI_32 (fun a j hm => (up_b (Decidable.or_iff_not_imp_left.mpr (fun h1 h2 => hm (Or.inr (Or.inl (Decidable.not_not.mp h1)))))).trans ((up_b (Decidable.or_iff_not_imp_left.mpr (fun h1 h2 => hm (Or.inl ⟨Decidable.not_not.mp h1, h2⟩)))).trans (up_b (Decidable.or_iff_not_imp_left.mpr (fun h1 h2 => hm (Or.inl ⟨Decidable.not_not.mp h1, h2⟩)))))) ⟨by decide, by decide⟩
      · refine v_ic_lt_f (t := 14) c_146_2 rfl ⟨by decide, (Int.not_lt.mp h_27), ha2.2⟩ (q_iload_n c_146_5 rfl (q_iload_n c_146_6 rfl ?_))
        by_cases h_33 : a2 > c 41 21 - 1
        · refine v_ic_gt_t (t := 14) c_146_7 rfl ⟨by first | exact rgm_l h_26.1 (by decide) | omega, h_33, ha2.2⟩ (q_iconst c_146_14 (v_zret c_146_15 rfl (by decide) (bk_inl (q_iconst c_212_9 (q_iconst c_212_10 (v_cv c_212_11 km_8_203 rfl rfl (nb_ rfl) ⟨⟨rfl, rfl⟩, nb_ rfl, rfl⟩ (nb_ rfl) (nb_ rfl) (q_iload_n c_145_0 rfl ?_)))))))
          refine v_if_ne_f (t := 26) c_145_1 rfl (by decide) (q_aload_n c_145_4 rfl (v_gi (z := 0) (v := 0) c_145_5 kf_8_3 rfl (nb_ rfl) rfl rfl (up_e rfl) (v_if_ne_f (t := 26) c_145_8 rfl (by decide) (q_aload_n c_145_11 rfl (q_iload_n c_145_12 rfl (v_pi (z := 0) c_145_13 kf_8_3 rfl (nb_ rfl) rfl rfl rfl (by decide) (q_aload_n c_145_16 rfl ?_)))))))
          refine v_gr (t := 42) c_145_17 kf_8_7 rfl (nb_ rfl) rfl (q_iload_n c_145_20 rfl (q_dup2 c_145_21 ⟨rfl, rfl⟩ ?_))
          have h_34 := ir_42 hI 0
          refine v_ia (v := c 42 0) c_145_22 rfl (by decide) (by decide) (by decide) ((up_c (nn rfl)).trans (up_c (nn rfl))) (q_iconst c_145_23 (v_iadd (v := c 42 0 + 1) c_145_24 rfl (v_nrm (fun y_35 hy_35 => (v_is c_145_25 rfl (by decide) (by decide) (by decide) (q_aload_n c_145_26 rfl (v_gi (z := 0) (v := 1) c_145_27 kf_8_3 rfl (nb_ rfl) rfl rfl ((up_c (nn rfl)).trans (up_e rfl)) (v_if_ne_t (t := 37) c_145_30 rfl (by decide) ?_))))))))
          refine q_iconst c_145_37 (v_zret c_145_38 rfl (by decide) (bk_inl (v_zret c_212_14 rfl (by decide) (bk_inl (v_if_eq_t (t := 46) c_220_26 rfl (by decide) (q_iconst c_220_46 (q_iret c_220_47 rfl ?_)))))))
          have hI_36 := iw_41_0 (v := 0) hI ⟨by decide, by decide⟩
          have hI_37 := iw_41_0 (v := 1) hI_36 ⟨by decide, by decide⟩
          have hI_38 := iw_42 (j := 0) (v := y_35) hI_37 ⟨hy_35.1, hy_35.2⟩
          exact K (up (up (up c 41 0 0) 41 0 1) 42 0 y_35) 0 hI_38 (fun a j hm => (up_b (Decidable.or_iff_not_imp_left.mpr (fun h1 h2 => hm (Or.inr (Or.inl (Decidable.not_not.mp h1)))))).trans ((up_b (Decidable.or_iff_not_imp_left.mpr (fun h1 h2 => hm (Or.inl ⟨Decidable.not_not.mp h1, h2⟩)))).trans (up_b (Decidable.or_iff_not_imp_left.mpr (fun h1 h2 => hm (Or.inl ⟨Decidable.not_not.mp h1, h2⟩)))))) ⟨by decide, by decide⟩
        · refine v_ic_gt_f (t := 14) c_146_7 rfl ⟨ha2.1, (Int.not_lt.mp h_33), by first | exact rgm_h h_26.2 (by decide) | omega⟩ (q_iconst c_146_10 (q_goto (t := 15) c_146_11 rfl (v_zret c_146_15 rfl (by decide) (bk_inl (q_iconst c_212_9 (q_iconst c_212_10 (v_cv c_212_11 km_8_203 rfl rfl (nb_ rfl) ⟨⟨rfl, rfl⟩, nb_ rfl, rfl⟩ (nb_ rfl) (nb_ rfl) ?_)))))))
          refine q_iload_n c_145_0 rfl (v_if_ne_t (t := 26) c_145_1 rfl (by decide) (q_aload_n c_145_26 rfl (v_gi (z := 0) (v := 0) c_145_27 kf_8_3 rfl (nb_ rfl) rfl rfl (up_e rfl) (v_if_ne_f (t := 37) c_145_30 rfl (by decide) (q_iconst c_145_33 (q_goto (t := 38) c_145_34 rfl (v_zret c_145_38 rfl (by decide) ?_)))))))
          refine bk_inl (v_zret c_212_14 rfl (by decide) (bk_inl (v_if_eq_f (t := 46) c_220_26 rfl (by decide) (q_aload_n c_220_29 rfl (q_iload_n c_220_30 rfl (q_iconst c_220_31 (v_sip c_220_32 (by decide) ?_)))))))
          refine q_call c_220_35 rfl rfl rfl (q_iload_n c_146_0 rfl (q_iload_n c_146_1 rfl ?_))
          by_cases h_39 : a3 < 0
          · refine v_ic_lt_t (t := 14) c_146_2 rfl ⟨ha3.1, h_39, by decide⟩ (q_iconst c_146_14 (v_zret c_146_15 rfl (by decide) (bk_inl (q_iconst c_220_38 (q_iconst c_220_39 (v_cv c_220_40 km_8_203 rfl rfl (nb_ rfl) ⟨⟨rfl, rfl⟩, nb_ rfl, rfl⟩ (nb_ rfl) (nb_ rfl) (q_iload_n c_145_0 rfl ?_)))))))
            refine v_if_ne_f (t := 26) c_145_1 rfl (by decide) (q_aload_n c_145_4 rfl (v_gi (z := 0) (v := 0) c_145_5 kf_8_3 rfl (nb_ rfl) rfl rfl (up_e rfl) (v_if_ne_f (t := 26) c_145_8 rfl (by decide) (q_aload_n c_145_11 rfl (q_iload_n c_145_12 rfl (v_pi (z := 0) c_145_13 kf_8_3 rfl (nb_ rfl) rfl rfl rfl (by decide) (q_aload_n c_145_16 rfl ?_)))))))
            refine v_gr (t := 42) c_145_17 kf_8_7 rfl (nb_ rfl) rfl (q_iload_n c_145_20 rfl (q_dup2 c_145_21 ⟨rfl, rfl⟩ ?_))
            have h_40 := ir_42 hI 1
            refine v_ia (v := c 42 1) c_145_22 rfl (by decide) (by decide) (by decide) ((up_c (nn rfl)).trans (up_c (nn rfl))) (q_iconst c_145_23 (v_iadd (v := c 42 1 + 1) c_145_24 rfl (v_nrm (fun y_41 hy_41 => (v_is c_145_25 rfl (by decide) (by decide) (by decide) (q_aload_n c_145_26 rfl (v_gi (z := 0) (v := 2) c_145_27 kf_8_3 rfl (nb_ rfl) rfl rfl ((up_c (nn rfl)).trans (up_e rfl)) (v_if_ne_t (t := 37) c_145_30 rfl (by decide) ?_))))))))
            refine q_iconst c_145_37 (v_zret c_145_38 rfl (by decide) (bk_inl (v_if_ne_f (t := 48) c_220_43 rfl (by decide) (q_iconst c_220_46 (q_iret c_220_47 rfl ?_)))))
            have hI_42 := iw_41_0 (v := 0) hI ⟨by decide, by decide⟩
            have hI_43 := iw_41_0 (v := 2) hI_42 ⟨by decide, by decide⟩
            have hI_44 := iw_42 (j := 1) (v := y_41) hI_43 ⟨hy_41.1, hy_41.2⟩
            exact K (up (up (up c 41 0 0) 41 0 2) 42 1 y_41) 0 hI_44 (fun a j hm => (up_b (Decidable.or_iff_not_imp_left.mpr (fun h1 h2 => hm (Or.inr (Or.inl (Decidable.not_not.mp h1)))))).trans ((up_b (Decidable.or_iff_not_imp_left.mpr (fun h1 h2 => hm (Or.inl ⟨Decidable.not_not.mp h1, h2⟩)))).trans (up_b (Decidable.or_iff_not_imp_left.mpr (fun h1 h2 => hm (Or.inl ⟨Decidable.not_not.mp h1, h2⟩)))))) ⟨by decide, by decide⟩
          · refine v_ic_lt_f (t := 14) c_146_2 rfl ⟨by decide, (Int.not_lt.mp h_39), ha3.2⟩ (q_iload_n c_146_5 rfl (q_iload_n c_146_6 rfl ?_))
            by_cases h_45 : a3 > 1000
            · refine v_ic_gt_t (t := 14) c_146_7 rfl ⟨by decide, h_45, ha3.2⟩ (q_iconst c_146_14 (v_zret c_146_15 rfl (by decide) (bk_inl (q_iconst c_220_38 (q_iconst c_220_39 (v_cv c_220_40 km_8_203 rfl rfl (nb_ rfl) ⟨⟨rfl, rfl⟩, nb_ rfl, rfl⟩ (nb_ rfl) (nb_ rfl) (q_iload_n c_145_0 rfl ?_)))))))
              refine v_if_ne_f (t := 26) c_145_1 rfl (by decide) (q_aload_n c_145_4 rfl (v_gi (z := 0) (v := 0) c_145_5 kf_8_3 rfl (nb_ rfl) rfl rfl (up_e rfl) (v_if_ne_f (t := 26) c_145_8 rfl (by decide) (q_aload_n c_145_11 rfl (q_iload_n c_145_12 rfl (v_pi (z := 0) c_145_13 kf_8_3 rfl (nb_ rfl) rfl rfl rfl (by decide) (q_aload_n c_145_16 rfl ?_)))))))
              refine v_gr (t := 42) c_145_17 kf_8_7 rfl (nb_ rfl) rfl (q_iload_n c_145_20 rfl (q_dup2 c_145_21 ⟨rfl, rfl⟩ ?_))
              have h_46 := ir_42 hI 1
              refine v_ia (v := c 42 1) c_145_22 rfl (by decide) (by decide) (by decide) ((up_c (nn rfl)).trans (up_c (nn rfl))) (q_iconst c_145_23 (v_iadd (v := c 42 1 + 1) c_145_24 rfl (v_nrm (fun y_47 hy_47 => (v_is c_145_25 rfl (by decide) (by decide) (by decide) (q_aload_n c_145_26 rfl (v_gi (z := 0) (v := 2) c_145_27 kf_8_3 rfl (nb_ rfl) rfl rfl ((up_c (nn rfl)).trans (up_e rfl)) (v_if_ne_t (t := 37) c_145_30 rfl (by decide) ?_))))))))
              refine q_iconst c_145_37 (v_zret c_145_38 rfl (by decide) (bk_inl (v_if_ne_f (t := 48) c_220_43 rfl (by decide) (q_iconst c_220_46 (q_iret c_220_47 rfl ?_)))))
              have hI_48 := iw_41_0 (v := 0) hI ⟨by decide, by decide⟩
              have hI_49 := iw_41_0 (v := 2) hI_48 ⟨by decide, by decide⟩
              have hI_50 := iw_42 (j := 1) (v := y_47) hI_49 ⟨hy_47.1, hy_47.2⟩
              exact K (up (up (up c 41 0 0) 41 0 2) 42 1 y_47) 0 hI_50 (fun a j hm => (up_b (Decidable.or_iff_not_imp_left.mpr (fun h1 h2 => hm (Or.inr (Or.inl (Decidable.not_not.mp h1)))))).trans ((up_b (Decidable.or_iff_not_imp_left.mpr (fun h1 h2 => hm (Or.inl ⟨Decidable.not_not.mp h1, h2⟩)))).trans (up_b (Decidable.or_iff_not_imp_left.mpr (fun h1 h2 => hm (Or.inl ⟨Decidable.not_not.mp h1, h2⟩)))))) ⟨by decide, by decide⟩
            · refine v_ic_gt_f (t := 14) c_146_7 rfl ⟨ha3.1, (Int.not_lt.mp h_45), by decide⟩ (q_iconst c_146_10 (q_goto (t := 15) c_146_11 rfl (v_zret c_146_15 rfl (by decide) (bk_inl (q_iconst c_220_38 (q_iconst c_220_39 (v_cv c_220_40 km_8_203 rfl rfl (nb_ rfl) ⟨⟨rfl, rfl⟩, nb_ rfl, rfl⟩ (nb_ rfl) (nb_ rfl) ?_)))))))
              refine q_iload_n c_145_0 rfl (v_if_ne_t (t := 26) c_145_1 rfl (by decide) (q_aload_n c_145_26 rfl (v_gi (z := 0) (v := 0) c_145_27 kf_8_3 rfl (nb_ rfl) rfl rfl (up_e rfl) (v_if_ne_f (t := 37) c_145_30 rfl (by decide) (q_iconst c_145_33 (q_goto (t := 38) c_145_34 rfl (v_zret c_145_38 rfl (by decide) ?_)))))))
              refine bk_inl (v_if_ne_t (t := 48) c_220_43 rfl (by decide) (q_aload_n c_220_48 rfl ?_))
              have hI_51 := iw_41_0 (v := 0) hI ⟨by decide, by decide⟩
              refine v_cv c_220_49 km_8_317 rfl rfl (nb_ rfl) ⟨⟨rfl, rfl⟩, nb_ rfl, rfl⟩ (nb_ rfl) (nb_ rfl) (s_186 hI_51 (fun c_52 hI_53 hF_54 => (bk_inl (q_iconst c_220_52 (q_istore c_220_53 (nb_ rfl) (Wp_ls [(0, .ref 41), (1, vi a1), (2, vi a2), (3, vi a3), (4, vi 0)] (lsub_cons rfl (lsub_cons rfl (lsub_cons rfl (lsub_cons rfl (lsub_cons rfl lsub_nil))))) ?_))))))
              exact (s_220_l (sc := sc) (d := d) hI ha1 ha2 ha3 K 204) c_52 0 hI_53 (fun a j hm => (hF_54 a j (fun h => hm (Or.inr (Or.inr h)))).trans (up_b (Decidable.or_iff_not_imp_left.mpr (fun h1 h2 => hm (Or.inl ⟨Decidable.not_not.mp h1, h2⟩))))) ⟨by decide, by decide⟩ ⟨by first | exact q_720657ba9 h_14 | omega, by first | exact q_3a2e67ab0 h_13 h_20 | omega⟩ ⟨by first | exact q_720657ba9 h_27 | omega, by first | exact q_1b5e4f74b h_26 h_33 | omega⟩ (by omega)
end
section
/-! ===== contracts 21 ===== -/
theorem qn_9656212e3 : ¬ (((41 : Nat) = 41 ∧ (47 : Int) = 0) ∨ (41 : Nat) = 42 ∨ (41 : Nat) = 59) := (fun q => q.elim (fun h => absurd h.2 (ni rfl)) (fun q => q.elim (fun h => absurd h (nn rfl)) (fun h => absurd h (nn rfl))))
theorem qn_e16c4d0f0 {j : Int} : ¬ (((62 : Nat) = 41 ∧ j = 0) ∨ (62 : Nat) = 42 ∨ (62 : Nat) = 59) := (fun q => q.elim (fun h => absurd h.1 (nn rfl)) (fun q => q.elim (fun h => absurd h (nn rfl)) (fun h => absurd h (nn rfl))))
theorem qn_556c7ab22 {j : Int} : ¬ (((49 : Nat) = 41 ∧ j = 0) ∨ (49 : Nat) = 42 ∨ (49 : Nat) = 59) := (fun q => q.elim (fun h => absurd h.1 (nn rfl)) (fun q => q.elim (fun h => absurd h (nn rfl)) (fun h => absurd h (nn rfl))))
theorem q_eb3a7ad7a {x0 : Int} (f0 : 0 ≤ x0 ∧ x0 ≤ 3) : 0 ≤ x0 := by omega
theorem q_c99d6ea93 {x0 : Int} (f0 : 0 ≤ x0 ∧ x0 ≤ 3) : x0 ≤ 3 := by omega
theorem q_9182abc2f {x0 : Int} : (x0) + 30 = x0 + 30 := by omega
theorem q_fe383d6ec {x0 x1 x2 x3 x4 x5 x6 x7 : Int} (f0 : 0 ≤ x0 ∧ x0 ≤ x1) (f1 : 0 ≤ x2 ∧ x2 ≤ x3) (f2 : 0 ≤ x4 ∧ x4 ≤ x5) (f3 : 0 ≤ x6 ∧ x6 ≤ x7) : (-2147483648) ≤ x3 + x5 + x7 + x1 - x0 - x2 - x4 - x6 := by omega
theorem q_4e357606a {x0 x1 x2 x3 x4 x5 x6 x7 : Int} (f0 : 0 ≤ x0 ∧ x0 ≤ x1) (f1 : 0 ≤ x2 ∧ x2 ≤ x3) (f2 : 0 ≤ x4 ∧ x4 ≤ x5) (f3 : 0 ≤ x6 ∧ x6 ≤ x7) (f4 : x1 + x3 + x5 + x7 ≤ 9999) : x3 + x5 + x7 + x1 - x0 - x2 - x4 - x6 ≤ 2147483647 := by omega
theorem q_c7ae86183 {x0 x1 : Int} (f0 : 0 ≤ x0 ∧ x0 ≤ x1) (f1 : 0 ≤ x1 ∧ x1 ≤ 9999) : x0 ≤ 9999 := by omega
theorem q_711100589 {x0 x1 x2 x3 x4 x5 x6 x7 : Int} (f0 : 0 ≤ x0 ∧ x0 ≤ x1) (f1 : 0 ≤ x2 ∧ x2 ≤ x3) (f2 : 0 ≤ x4 ∧ x4 ≤ x5) (f3 : 0 ≤ x6 ∧ x6 ≤ x7) (f4 : x1 + x3 + x5 + x7 ≤ 9999) : x0 + x2 + x4 + x6 ≤ 9999 := by omega
theorem q_1fe14b988 {x0 x1 : Int} (f0 : ¬ (x0 ≥ x1)) (f1 : 0 ≤ x0 ∧ x0 ≤ 8) : 0 ≤ x1 := by omega
theorem q_a748dd594 {x0 x1 : Int} (f0 : 0 ≤ x0 ∧ x0 ≤ 8) (f1 : x1 ≤ x0) : x1 ≤ 8 := by omega
theorem q_d894f56d7 {x0 x1 : Int} (f0 : ¬ (x0 > x1)) (f1 : 1 ≤ x0 ∧ x0 ≤ 64) : 0 ≤ x1 := by omega
theorem qn_1a460b46b : ¬ (((41 : Nat) = 41 ∧ (22 : Int) = 0) ∨ (41 : Nat) = 42 ∨ (41 : Nat) = 59) := (fun q => q.elim (fun h => absurd h.2 (ni rfl)) (fun q => q.elim (fun h => absurd h (nn rfl)) (fun h => absurd h (nn rfl))))
theorem qn_110b29ed6 : ¬ (((41 : Nat) = 41 ∧ (20 : Int) = 0) ∨ (41 : Nat) = 42 ∨ (41 : Nat) = 59) := (fun q => q.elim (fun h => absurd h.2 (ni rfl)) (fun q => q.elim (fun h => absurd h (nn rfl)) (fun h => absurd h (nn rfl))))
theorem q_6b730c0e0 {x0 x1 : Int} (f0 : 0 ≤ x0 ∧ x0 ≤ 4) (f1 : 0 ≤ x1 ∧ x1 < x0) : x1 ≤ 3 := by omega
theorem q_37f19ee02 {x0 x1 x2 x3 : Int} (f0 : 0 ≤ x0 ∧ x0 < x1) (f1 : 0 ≤ x2 ∧ x2 < x3) : (-2147483648) ≤ x0 + 10 * x2 := by omega
theorem q_112b0dcbc {x0 x1 x2 x3 : Int} (f0 : 0 ≤ x0 ∧ x0 ≤ 4) (f1 : 0 ≤ x1 ∧ x1 < x2) (f2 : 0 ≤ x2 ∧ x2 ≤ 6) (f3 : 0 ≤ x3 ∧ x3 < x0) : x1 + 10 * x3 ≤ 2147483647 := by omega
theorem q_d5c4fed04 {x0 x1 : Int} (f0 : 0 ≤ x0 ∧ x0 ≤ 6) (f1 : 0 ≤ x1 ∧ x1 < x0) : x1 ≤ 5 := by omega
theorem q_263c88b99 {x0 x1 : Int} (f0 : ¬ (x0 ≤ x1)) (f1 : 0 ≤ x1 ∧ x1 ≤ 2147483647) : 0 ≤ x0 := by omega
theorem q_238d50ffa {x0 x1 x2 : Int} (f0 : 0 ≤ x0 ∧ x0 ≤ 6) (f1 : 0 ≤ x1 ∧ x1 < x0) (f2 : 0 ≤ x2 ∧ x2 ≤ 3) : 4 * x1 + x2 < 24 := by omega
theorem c_221_53 : mLk 221 53 = some (.iload_n 3, 1) := rfl
theorem c_221_54 : mLk 221 54 = some (.iload_n 2, 1) := rfl
theorem c_221_55 : mLk 221 55 = some (.if_icmp .ge 48, 3) := rfl
theorem c_221_103 : mLk 221 103 = some (.iload_n 2, 1) := rfl
theorem c_221_104 : mLk 221 104 = some (.aload_n 0, 1) := rfl
theorem c_221_105 : mLk 221 105 = some (.getfield 176, 3) := rfl
theorem c_221_108 : mLk 221 108 = some (.if_icmp .ne 11, 3) := rfl
theorem c_221_119 : mLk 221 119 = some (.aload_n 0, 1) := rfl
theorem c_221_120 : mLk 221 120 = some (.iload_n 1, 1) := rfl
theorem c_221_121 : mLk 221 121 = some (.invokevirtual 343, 3) := rfl
theorem c_221_124 : mLk 221 124 = some (.aload_n 0, 1) := rfl
theorem c_221_125 : mLk 221 125 = some (.aload_n 0, 1) := rfl
theorem c_221_126 : mLk 221 126 = some (.getfield 77, 3) := rfl
theorem c_221_129 : mLk 221 129 = some (.iload_n 2, 1) := rfl
theorem c_221_130 : mLk 221 130 = some (.iaload, 1) := rfl
theorem c_221_131 : mLk 221 131 = some (.iload_n 1, 1) := rfl
theorem c_221_132 : mLk 221 132 = some (.invokevirtual 366, 3) := rfl
theorem c_221_136 : mLk 221 136 = some (.ireturn, 1) := rfl
theorem c_221_111 : mLk 221 111 = some (.aload_n 0, 1) := rfl
theorem c_221_112 : mLk 221 112 = some (.iload_n 1, 1) := rfl
theorem c_221_113 : mLk 221 113 = some (.invokevirtual 343, 3) := rfl
theorem c_221_116 : mLk 221 116 = some (.goto 20, 3) := rfl
theorem c_221_58 : mLk 221 58 = some (.iconst 0, 1) := rfl
theorem c_221_59 : mLk 221 59 = some (.istore 4, 2) := rfl
theorem c_221_61 : mLk 221 61 = some (.iload 4, 2) := rfl
theorem c_221_63 : mLk 221 63 = some (.iconst 4, 1) := rfl
theorem c_221_64 : mLk 221 64 = some (.if_icmp .ge 33, 3) := rfl
theorem c_221_67 : mLk 221 67 = some (.aload_n 0, 1) := rfl
theorem c_221_68 : mLk 221 68 = some (.getfield 68, 3) := rfl
theorem c_221_71 : mLk 221 71 = some (.iconst 4, 1) := rfl
theorem c_221_72 : mLk 221 72 = some (.iload_n 1, 1) := rfl
theorem c_221_73 : mLk 221 73 = some (.imul, 1) := rfl
theorem c_221_74 : mLk 221 74 = some (.iload 4, 2) := rfl
theorem c_221_76 : mLk 221 76 = some (.iadd, 1) := rfl
theorem c_221_77 : mLk 221 77 = some (.aload_n 0, 1) := rfl
theorem c_221_78 : mLk 221 78 = some (.aload_n 0, 1) := rfl
theorem c_221_79 : mLk 221 79 = some (.getfield 77, 3) := rfl
theorem c_221_82 : mLk 221 82 = some (.iload_n 3, 1) := rfl
theorem c_221_83 : mLk 221 83 = some (.iaload, 1) := rfl
theorem c_221_84 : mLk 221 84 = some (.iload_n 1, 1) := rfl
theorem c_221_85 : mLk 221 85 = some (.iload 4, 2) := rfl
theorem c_221_87 : mLk 221 87 = some (.invokevirtual 363, 3) := rfl
theorem c_221_90 : mLk 221 90 = some (.iastore, 1) := rfl
theorem c_221_91 : mLk 221 91 = some (.iinc 4 1, 3) := rfl
theorem c_221_94 : mLk 221 94 = some (.goto (-33), 3) := rfl
theorem c_221_97 : mLk 221 97 = some (.iinc 3 1, 3) := rfl
theorem c_221_100 : mLk 221 100 = some (.goto (-47), 3) := rfl
theorem c_221_0 : mLk 221 0 = some (.aload_n 0, 1) := rfl
theorem c_221_1 : mLk 221 1 = some (.iconst 0, 1) := rfl
theorem c_221_2 : mLk 221 2 = some (.putfield 3, 3) := rfl
theorem c_221_5 : mLk 221 5 = some (.aload_n 0, 1) := rfl
theorem c_221_6 : mLk 221 6 = some (.iload_n 1, 1) := rfl
theorem c_221_7 : mLk 221 7 = some (.aload_n 0, 1) := rfl
theorem c_221_8 : mLk 221 8 = some (.getfield 157, 3) := rfl
theorem c_221_11 : mLk 221 11 = some (.invokevirtual 396, 3) := rfl
theorem c_221_14 : mLk 221 14 = some (.ifCond .eq 21, 3) := rfl
theorem c_221_35 : mLk 221 35 = some (.iconst 0, 1) := rfl
theorem c_221_36 : mLk 221 36 = some (.ireturn, 1) := rfl
theorem c_221_17 : mLk 221 17 = some (.aload_n 0, 1) := rfl
theorem c_221_18 : mLk 221 18 = some (.iload_n 2, 1) := rfl
theorem c_221_19 : mLk 221 19 = some (.ifCond .lt 7, 3) := rfl
theorem c_221_26 : mLk 221 26 = some (.iconst 0, 1) := rfl
theorem c_221_27 : mLk 221 27 = some (.iconst 2, 1) := rfl
theorem c_221_28 : mLk 221 28 = some (.iconst 1, 1) := rfl
theorem c_221_29 : mLk 221 29 = some (.invokevirtual 203, 3) := rfl
theorem c_221_32 : mLk 221 32 = some (.ifCond .ne 5, 3) := rfl
theorem c_221_22 : mLk 221 22 = some (.iconst 1, 1) := rfl
theorem c_221_23 : mLk 221 23 = some (.goto 4, 3) := rfl
theorem c_221_37 : mLk 221 37 = some (.iload_n 2, 1) := rfl
theorem c_221_38 : mLk 221 38 = some (.aload_n 0, 1) := rfl
theorem c_221_39 : mLk 221 39 = some (.getfield 176, 3) := rfl
theorem c_221_42 : mLk 221 42 = some (.if_icmp .le 5, 3) := rfl
theorem c_221_47 : mLk 221 47 = some (.aload_n 0, 1) := rfl
theorem c_221_48 : mLk 221 48 = some (.invokevirtual 317, 3) := rfl
theorem c_221_51 : mLk 221 51 = some (.iconst 0, 1) := rfl
theorem c_221_52 : mLk 221 52 = some (.istore_n 3, 1) := rfl
theorem c_221_45 : mLk 221 45 = some (.iconst (-1), 1) := rfl
theorem c_221_46 : mLk 221 46 = some (.ireturn, 1) := rfl
theorem c_223_4 : mLk 223 4 = some (.iload_n 3, 1) := rfl
theorem c_223_5 : mLk 223 5 = some (.aload_n 0, 1) := rfl
theorem c_223_6 : mLk 223 6 = some (.getfield 157, 3) := rfl
theorem c_223_9 : mLk 223 9 = some (.if_icmp .ge 23, 3) := rfl
theorem c_223_32 : mLk 223 32 = some (.iload_n 2, 1) := rfl
theorem c_223_33 : mLk 223 33 = some (.ireturn, 1) := rfl
theorem c_223_12 : mLk 223 12 = some (.iload_n 2, 1) := rfl
theorem c_223_13 : mLk 223 13 = some (.iload_n 1, 1) := rfl
theorem c_223_14 : mLk 223 14 = some (.iload_n 3, 1) := rfl
theorem c_223_15 : mLk 223 15 = some (.ishr, 1) := rfl
theorem c_223_16 : mLk 223 16 = some (.iconst 1, 1) := rfl
theorem c_223_17 : mLk 223 17 = some (.iand, 1) := rfl
theorem c_223_18 : mLk 223 18 = some (.aload_n 0, 1) := rfl
theorem c_223_19 : mLk 223 19 = some (.iload_n 3, 1) := rfl
theorem c_223_20 : mLk 223 20 = some (.invokevirtual 343, 3) := rfl
theorem c_223_24 : mLk 223 24 = some (.iadd, 1) := rfl
theorem c_223_25 : mLk 223 25 = some (.istore_n 2, 1) := rfl
theorem c_223_26 : mLk 223 26 = some (.iinc 3 1, 3) := rfl
theorem c_223_29 : mLk 223 29 = some (.goto (-25), 3) := rfl
theorem c_223_0 : mLk 223 0 = some (.iconst 0, 1) := rfl
theorem c_223_1 : mLk 223 1 = some (.istore_n 2, 1) := rfl
theorem c_223_2 : mLk 223 2 = some (.iconst 0, 1) := rfl
theorem c_223_3 : mLk 223 3 = some (.istore_n 3, 1) := rfl
theorem c_224_4 : mLk 224 4 = some (.iload_n 3, 1) := rfl
theorem c_224_5 : mLk 224 5 = some (.aload_n 0, 1) := rfl
theorem c_224_6 : mLk 224 6 = some (.getfield 157, 3) := rfl
theorem c_224_9 : mLk 224 9 = some (.if_icmp .ge 23, 3) := rfl
theorem c_224_32 : mLk 224 32 = some (.iload_n 2, 1) := rfl
theorem c_224_33 : mLk 224 33 = some (.ireturn, 1) := rfl
theorem c_224_12 : mLk 224 12 = some (.iload_n 2, 1) := rfl
theorem c_224_13 : mLk 224 13 = some (.iload_n 1, 1) := rfl
theorem c_224_14 : mLk 224 14 = some (.iload_n 3, 1) := rfl
theorem c_224_15 : mLk 224 15 = some (.ishr, 1) := rfl
theorem c_224_16 : mLk 224 16 = some (.iconst 1, 1) := rfl
theorem c_224_17 : mLk 224 17 = some (.iand, 1) := rfl
theorem c_224_18 : mLk 224 18 = some (.aload_n 0, 1) := rfl
theorem c_224_19 : mLk 224 19 = some (.iload_n 3, 1) := rfl
theorem c_224_20 : mLk 224 20 = some (.invokevirtual 375, 3) := rfl
theorem c_224_23 : mLk 224 23 = some (.imul, 1) := rfl
theorem c_224_24 : mLk 224 24 = some (.iadd, 1) := rfl
theorem c_224_25 : mLk 224 25 = some (.istore_n 2, 1) := rfl
theorem c_224_26 : mLk 224 26 = some (.iinc 3 1, 3) := rfl
theorem c_224_29 : mLk 224 29 = some (.goto (-25), 3) := rfl
theorem c_224_0 : mLk 224 0 = some (.iconst 0, 1) := rfl
theorem c_224_1 : mLk 224 1 = some (.istore_n 2, 1) := rfl
theorem c_224_2 : mLk 224 2 = some (.iconst 0, 1) := rfl
theorem c_224_3 : mLk 224 3 = some (.istore_n 3, 1) := rfl
theorem c_226_0 : mLk 226 0 = some (.iconst 2, 1) := rfl
theorem c_226_1 : mLk 226 1 = some (.aload_n 0, 1) := rfl
theorem c_226_2 : mLk 226 2 = some (.iload_n 2, 1) := rfl
theorem c_226_3 : mLk 226 3 = some (.invokevirtual 408, 3) := rfl
theorem c_226_6 : mLk 226 6 = some (.imul, 1) := rfl
theorem c_226_7 : mLk 226 7 = some (.aload_n 0, 1) := rfl
theorem c_226_8 : mLk 226 8 = some (.iload_n 1, 1) := rfl
theorem c_226_9 : mLk 226 9 = some (.invokevirtual 408, 3) := rfl
theorem c_226_12 : mLk 226 12 = some (.isub, 1) := rfl
theorem c_226_13 : mLk 226 13 = some (.invokestatic 411, 3) := rfl
theorem c_225_0 : mLk 225 0 = some (.iload_n 0, 1) := rfl
theorem c_225_1 : mLk 225 1 = some (.ifCond .ge 8, 3) := rfl
theorem c_225_9 : mLk 225 9 = some (.iload_n 0, 1) := rfl
theorem c_225_10 : mLk 225 10 = some (.ireturn, 1) := rfl
theorem c_226_16 : mLk 226 16 = some (.ireturn, 1) := rfl
theorem c_225_4 : mLk 225 4 = some (.iload_n 0, 1) := rfl
theorem c_225_5 : mLk 225 5 = some (.ineg, 1) := rfl
theorem c_225_6 : mLk 225 6 = some (.goto 4, 3) := rfl
theorem c_227_59 : mLk 227 59 = some (.iload 5, 2) := rfl
theorem c_227_61 : mLk 227 61 = some (.iload_n 1, 1) := rfl
theorem c_227_62 : mLk 227 62 = some (.if_icmp .gt 55, 3) := rfl
theorem c_227_117 : mLk 227 117 = some (.iload_n 2, 1) := rfl
theorem c_227_118 : mLk 227 118 = some (.ifCond .ne 13, 3) := rfl
theorem c_227_131 : mLk 227 131 = some (.iload 4, 2) := rfl
theorem c_227_133 : mLk 227 133 = some (.ireturn, 1) := rfl
theorem c_227_121 : mLk 227 121 = some (.aload_n 0, 1) := rfl
theorem c_227_122 : mLk 227 122 = some (.iload_n 1, 1) := rfl
theorem c_227_123 : mLk 227 123 = some (.iload 4, 2) := rfl
theorem c_227_125 : mLk 227 125 = some (.invokevirtual 405, 3) := rfl
theorem c_227_128 : mLk 227 128 = some (.goto 5, 3) := rfl
theorem c_227_65 : mLk 227 65 = some (.iload 5, 2) := rfl
theorem c_227_67 : mLk 227 67 = some (.iload_n 1, 1) := rfl
theorem c_227_68 : mLk 227 68 = some (.iconst (-1), 1) := rfl
theorem c_227_69 : mLk 227 69 = some (.ixor, 1) := rfl
theorem c_227_70 : mLk 227 70 = some (.iand, 1) := rfl
theorem c_227_71 : mLk 227 71 = some (.ifCond .ne 40, 3) := rfl
theorem c_227_111 : mLk 227 111 = some (.iinc 5 1, 3) := rfl
theorem c_227_114 : mLk 227 114 = some (.goto (-55), 3) := rfl
theorem c_227_74 : mLk 227 74 = some (.iload 5, 2) := rfl
theorem c_227_76 : mLk 227 76 = some (.iload_n 3, 1) := rfl
theorem c_227_77 : mLk 227 77 = some (.iand, 1) := rfl
theorem c_227_78 : mLk 227 78 = some (.ifCond .ne 6, 3) := rfl
theorem c_227_84 : mLk 227 84 = some (.iload 4, 2) := rfl
theorem c_227_86 : mLk 227 86 = some (.iconst (-1), 1) := rfl
theorem c_227_87 : mLk 227 87 = some (.if_icmp .eq 20, 3) := rfl
theorem c_227_107 : mLk 227 107 = some (.iload 5, 2) := rfl
theorem c_227_109 : mLk 227 109 = some (.istore 4, 2) := rfl
theorem c_227_90 : mLk 227 90 = some (.aload_n 0, 1) := rfl
theorem c_227_91 : mLk 227 91 = some (.iload_n 1, 1) := rfl
theorem c_227_92 : mLk 227 92 = some (.iload 5, 2) := rfl
theorem c_227_94 : mLk 227 94 = some (.invokevirtual 405, 3) := rfl
theorem c_227_97 : mLk 227 97 = some (.aload_n 0, 1) := rfl
theorem c_227_98 : mLk 227 98 = some (.iload_n 1, 1) := rfl
theorem c_227_99 : mLk 227 99 = some (.iload 4, 2) := rfl
theorem c_227_101 : mLk 227 101 = some (.invokevirtual 405, 3) := rfl
theorem c_227_104 : mLk 227 104 = some (.if_icmp .ge 7, 3) := rfl
theorem c_227_81 : mLk 227 81 = some (.goto 30, 3) := rfl
theorem c_227_0 : mLk 227 0 = some (.aload_n 0, 1) := rfl
theorem c_227_1 : mLk 227 1 = some (.iconst 0, 1) := rfl
theorem c_227_2 : mLk 227 2 = some (.putfield 3, 3) := rfl
theorem c_227_5 : mLk 227 5 = some (.aload_n 0, 1) := rfl
theorem c_227_6 : mLk 227 6 = some (.aload_n 0, 1) := rfl
theorem c_227_7 : mLk 227 7 = some (.iload_n 1, 1) := rfl
theorem c_227_8 : mLk 227 8 = some (.invokevirtual 402, 3) := rfl
theorem c_222_0 : mLk 222 0 = some (.iload_n 1, 1) := rfl
theorem c_222_1 : mLk 222 1 = some (.ifCond .lt 17, 3) := rfl
theorem c_222_18 : mLk 222 18 = some (.iconst 0, 1) := rfl
theorem c_222_19 : mLk 222 19 = some (.ireturn, 1) := rfl
theorem c_227_11 : mLk 227 11 = some (.ifCond .eq 16, 3) := rfl
theorem c_227_27 : mLk 227 27 = some (.iconst 0, 1) := rfl
theorem c_227_28 : mLk 227 28 = some (.iconst 1, 1) := rfl
theorem c_227_29 : mLk 227 29 = some (.iconst 1, 1) := rfl
theorem c_227_30 : mLk 227 30 = some (.invokevirtual 203, 3) := rfl
theorem c_227_33 : mLk 227 33 = some (.ifCond .ne 5, 3) := rfl
theorem c_227_36 : mLk 227 36 = some (.iconst 0, 1) := rfl
theorem c_227_37 : mLk 227 37 = some (.ireturn, 1) := rfl
theorem c_222_4 : mLk 222 4 = some (.iload_n 1, 1) := rfl
theorem c_222_5 : mLk 222 5 = some (.iconst 1, 1) := rfl
theorem c_222_6 : mLk 222 6 = some (.aload_n 0, 1) := rfl
theorem c_222_7 : mLk 222 7 = some (.getfield 157, 3) := rfl
theorem c_222_10 : mLk 222 10 = some (.ishl, 1) := rfl
theorem c_222_11 : mLk 222 11 = some (.if_icmp .ge 7, 3) := rfl
theorem c_222_14 : mLk 222 14 = some (.iconst 1, 1) := rfl
theorem c_222_15 : mLk 222 15 = some (.goto 4, 3) := rfl
theorem c_227_14 : mLk 227 14 = some (.iload_n 2, 1) := rfl
theorem c_227_15 : mLk 227 15 = some (.iconst 0, 1) := rfl
theorem c_227_16 : mLk 227 16 = some (.iconst 1, 1) := rfl
theorem c_227_17 : mLk 227 17 = some (.invokestatic 384, 3) := rfl
theorem c_227_20 : mLk 227 20 = some (.ifCond .eq 7, 3) := rfl
theorem c_227_23 : mLk 227 23 = some (.iconst 1, 1) := rfl
theorem c_227_24 : mLk 227 24 = some (.goto 4, 3) := rfl
theorem c_227_38 : mLk 227 38 = some (.iload_n 1, 1) := rfl
theorem c_227_39 : mLk 227 39 = some (.ifCond .ne 5, 3) := rfl
theorem c_227_44 : mLk 227 44 = some (.aload_n 0, 1) := rfl
theorem c_227_45 : mLk 227 45 = some (.invokevirtual 317, 3) := rfl
theorem c_227_48 : mLk 227 48 = some (.iload_n 1, 1) := rfl
theorem c_227_49 : mLk 227 49 = some (.iload_n 1, 1) := rfl
theorem c_227_50 : mLk 227 50 = some (.ineg, 1) := rfl
theorem c_227_51 : mLk 227 51 = some (.iand, 1) := rfl
theorem c_227_52 : mLk 227 52 = some (.istore_n 3, 1) := rfl
theorem c_227_53 : mLk 227 53 = some (.iconst (-1), 1) := rfl
theorem c_227_54 : mLk 227 54 = some (.istore 4, 2) := rfl
theorem c_227_56 : mLk 227 56 = some (.iconst 1, 1) := rfl
theorem c_227_57 : mLk 227 57 = some (.istore 5, 2) := rfl
theorem c_227_42 : mLk 227 42 = some (.iconst 0, 1) := rfl
theorem c_227_43 : mLk 227 43 = some (.ireturn, 1) := rfl
theorem c_228_69 : mLk 228 69 = some (.iload 6, 2) := rfl
theorem c_228_71 : mLk 228 71 = some (.iload 4, 2) := rfl
theorem c_228_73 : mLk 228 73 = some (.if_icmp .gt 76, 3) := rfl
theorem c_228_149 : mLk 228 149 = some (.iload_n 3, 1) := rfl
theorem c_228_150 : mLk 228 150 = some (.ifCond .ne 12, 3) := rfl
theorem c_228_162 : mLk 228 162 = some (.iload_n 3, 1) := rfl
theorem c_228_163 : mLk 228 163 = some (.iconst 1, 1) := rfl
theorem c_228_164 : mLk 228 164 = some (.if_icmp .ne 12, 3) := rfl
theorem c_228_176 : mLk 228 176 = some (.iload 5, 2) := rfl
theorem c_228_178 : mLk 228 178 = some (.ireturn, 1) := rfl
theorem c_228_167 : mLk 228 167 = some (.aload_n 0, 1) := rfl
theorem c_228_168 : mLk 228 168 = some (.iload 5, 2) := rfl
theorem c_228_170 : mLk 228 170 = some (.invokevirtual 408, 3) := rfl
theorem c_228_173 : mLk 228 173 = some (.goto 5, 3) := rfl
theorem c_228_153 : mLk 228 153 = some (.aload_n 0, 1) := rfl
theorem c_228_154 : mLk 228 154 = some (.iload 5, 2) := rfl
theorem c_228_156 : mLk 228 156 = some (.invokevirtual 414, 3) := rfl
theorem c_228_159 : mLk 228 159 = some (.goto 19, 3) := rfl
theorem c_228_76 : mLk 228 76 = some (.iload 6, 2) := rfl
theorem c_228_78 : mLk 228 78 = some (.iload 4, 2) := rfl
theorem c_228_80 : mLk 228 80 = some (.iconst (-1), 1) := rfl
theorem c_228_81 : mLk 228 81 = some (.ixor, 1) := rfl
theorem c_228_82 : mLk 228 82 = some (.iand, 1) := rfl
theorem c_228_83 : mLk 228 83 = some (.ifCond .ne 60, 3) := rfl
theorem c_228_143 : mLk 228 143 = some (.iinc 6 1, 3) := rfl
theorem c_228_146 : mLk 228 146 = some (.goto (-77), 3) := rfl
theorem c_228_86 : mLk 228 86 = some (.aload_n 0, 1) := rfl
theorem c_228_87 : mLk 228 87 = some (.iload 6, 2) := rfl
theorem c_228_89 : mLk 228 89 = some (.invokevirtual 408, 3) := rfl
theorem c_228_92 : mLk 228 92 = some (.iload_n 2, 1) := rfl
theorem c_228_93 : mLk 228 93 = some (.if_icmp .le 6, 3) := rfl
theorem c_228_99 : mLk 228 99 = some (.aload_n 0, 1) := rfl
theorem c_228_100 : mLk 228 100 = some (.iload 6, 2) := rfl
theorem c_228_102 : mLk 228 102 = some (.invokevirtual 414, 3) := rfl
theorem c_228_105 : mLk 228 105 = some (.aload_n 0, 1) := rfl
theorem c_228_106 : mLk 228 106 = some (.iload 5, 2) := rfl
theorem c_228_108 : mLk 228 108 = some (.invokevirtual 414, 3) := rfl
theorem c_228_111 : mLk 228 111 = some (.isub, 1) := rfl
theorem c_228_112 : mLk 228 112 = some (.istore 7, 2) := rfl
theorem c_228_114 : mLk 228 114 = some (.iload 7, 2) := rfl
theorem c_228_116 : mLk 228 116 = some (.ifCond .gt 23, 3) := rfl
theorem c_228_139 : mLk 228 139 = some (.iload 6, 2) := rfl
theorem c_228_141 : mLk 228 141 = some (.istore 5, 2) := rfl
theorem c_228_119 : mLk 228 119 = some (.iload 7, 2) := rfl
theorem c_228_121 : mLk 228 121 = some (.ifCond .ne 22, 3) := rfl
theorem c_228_124 : mLk 228 124 = some (.aload_n 0, 1) := rfl
theorem c_228_125 : mLk 228 125 = some (.iload 6, 2) := rfl
theorem c_228_127 : mLk 228 127 = some (.invokevirtual 408, 3) := rfl
theorem c_228_130 : mLk 228 130 = some (.aload_n 0, 1) := rfl
theorem c_228_131 : mLk 228 131 = some (.iload 5, 2) := rfl
theorem c_228_133 : mLk 228 133 = some (.invokevirtual 408, 3) := rfl
theorem c_228_136 : mLk 228 136 = some (.if_icmp .ge 7, 3) := rfl
theorem c_228_96 : mLk 228 96 = some (.goto 47, 3) := rfl
theorem c_228_0 : mLk 228 0 = some (.aload_n 0, 1) := rfl
theorem c_228_1 : mLk 228 1 = some (.iconst 0, 1) := rfl
theorem c_228_2 : mLk 228 2 = some (.putfield 3, 3) := rfl
theorem c_228_5 : mLk 228 5 = some (.aload_n 0, 1) := rfl
theorem c_228_6 : mLk 228 6 = some (.aload_n 0, 1) := rfl
theorem c_228_7 : mLk 228 7 = some (.iload_n 1, 1) := rfl
theorem c_228_8 : mLk 228 8 = some (.invokevirtual 402, 3) := rfl
theorem c_228_11 : mLk 228 11 = some (.ifCond .eq 27, 3) := rfl
theorem c_228_38 : mLk 228 38 = some (.iconst 0, 1) := rfl
theorem c_228_39 : mLk 228 39 = some (.iconst 1, 1) := rfl
theorem c_228_40 : mLk 228 40 = some (.iconst 1, 1) := rfl
theorem c_228_41 : mLk 228 41 = some (.invokevirtual 203, 3) := rfl
theorem c_228_44 : mLk 228 44 = some (.ifCond .ne 5, 3) := rfl
theorem c_228_47 : mLk 228 47 = some (.iconst 0, 1) := rfl
theorem c_228_48 : mLk 228 48 = some (.ireturn, 1) := rfl
theorem c_228_14 : mLk 228 14 = some (.iload_n 2, 1) := rfl
theorem c_228_15 : mLk 228 15 = some (.iconst 0, 1) := rfl
theorem c_228_16 : mLk 228 16 = some (.ldc_w 413, 3) := rfl
theorem c_228_19 : mLk 228 19 = some (.invokestatic 384, 3) := rfl
theorem c_228_22 : mLk 228 22 = some (.ifCond .eq 16, 3) := rfl
theorem c_228_25 : mLk 228 25 = some (.iload_n 3, 1) := rfl
theorem c_228_26 : mLk 228 26 = some (.iconst 0, 1) := rfl
theorem c_228_27 : mLk 228 27 = some (.iconst 2, 1) := rfl
theorem c_228_28 : mLk 228 28 = some (.invokestatic 384, 3) := rfl
theorem c_228_31 : mLk 228 31 = some (.ifCond .eq 7, 3) := rfl
theorem c_228_34 : mLk 228 34 = some (.iconst 1, 1) := rfl
theorem c_228_35 : mLk 228 35 = some (.goto 4, 3) := rfl
theorem c_228_49 : mLk 228 49 = some (.aload_n 0, 1) := rfl
theorem c_228_50 : mLk 228 50 = some (.invokevirtual 317, 3) := rfl
theorem c_228_53 : mLk 228 53 = some (.iload_n 1, 1) := rfl
theorem c_228_54 : mLk 228 54 = some (.aload_n 0, 1) := rfl
theorem c_228_55 : mLk 228 55 = some (.invokevirtual 390, 3) := rfl
theorem c_228_58 : mLk 228 58 = some (.iconst (-1), 1) := rfl
theorem c_228_59 : mLk 228 59 = some (.ixor, 1) := rfl
theorem c_228_60 : mLk 228 60 = some (.iand, 1) := rfl
theorem c_228_61 : mLk 228 61 = some (.istore 4, 2) := rfl
theorem c_228_63 : mLk 228 63 = some (.iconst 0, 1) := rfl
theorem c_228_64 : mLk 228 64 = some (.istore 5, 2) := rfl
theorem c_228_66 : mLk 228 66 = some (.iconst 1, 1) := rfl
theorem c_228_67 : mLk 228 67 = some (.istore 6, 2) := rfl
theorem c_229_12 : mLk 229 12 = some (.iload_n 3, 1) := rfl
theorem c_229_13 : mLk 229 13 = some (.iconst 4, 1) := rfl
theorem c_229_14 : mLk 229 14 = some (.if_icmp .ge 37, 3) := rfl
theorem c_229_51 : mLk 229 51 = some (.iconst 1, 1) := rfl
theorem c_229_52 : mLk 229 52 = some (.ireturn, 1) := rfl
theorem c_229_17 : mLk 229 17 = some (.aload_n 0, 1) := rfl
theorem c_229_18 : mLk 229 18 = some (.getfield 83, 3) := rfl
theorem c_229_21 : mLk 229 21 = some (.iload_n 3, 1) := rfl
theorem c_229_22 : mLk 229 22 = some (.iaload, 1) := rfl
theorem c_229_23 : mLk 229 23 = some (.iconst (-1), 1) := rfl
theorem c_229_24 : mLk 229 24 = some (.if_icmp .eq 21, 3) := rfl
theorem c_229_45 : mLk 229 45 = some (.iinc 3 1, 3) := rfl
theorem c_229_48 : mLk 229 48 = some (.goto (-36), 3) := rfl
theorem c_229_27 : mLk 229 27 = some (.aload_n 0, 1) := rfl
theorem c_229_28 : mLk 229 28 = some (.iload_n 1, 1) := rfl
theorem c_229_29 : mLk 229 29 = some (.iload_n 2, 1) := rfl
theorem c_229_30 : mLk 229 30 = some (.iload_n 3, 1) := rfl
theorem c_229_31 : mLk 229 31 = some (.invokevirtual 363, 3) := rfl
theorem c_229_34 : mLk 229 34 = some (.aload_n 0, 1) := rfl
theorem c_229_35 : mLk 229 35 = some (.getfield 83, 3) := rfl
theorem c_229_38 : mLk 229 38 = some (.iload_n 3, 1) := rfl
theorem c_229_39 : mLk 229 39 = some (.iaload, 1) := rfl
theorem c_229_40 : mLk 229 40 = some (.if_icmp .eq 5, 3) := rfl
theorem c_229_43 : mLk 229 43 = some (.iconst 0, 1) := rfl
theorem c_229_44 : mLk 229 44 = some (.ireturn, 1) := rfl
theorem c_229_0 : mLk 229 0 = some (.aload_n 0, 1) := rfl
theorem c_229_1 : mLk 229 1 = some (.iload_n 2, 1) := rfl
theorem c_229_2 : mLk 229 2 = some (.invokevirtual 343, 3) := rfl
theorem c_229_5 : mLk 229 5 = some (.ifCond .ne 5, 3) := rfl
theorem c_229_10 : mLk 229 10 = some (.iconst 0, 1) := rfl
theorem c_229_11 : mLk 229 11 = some (.istore_n 3, 1) := rfl
theorem c_229_8 : mLk 229 8 = some (.iconst 0, 1) := rfl
theorem c_229_9 : mLk 229 9 = some (.ireturn, 1) := rfl
theorem c_230_33 : mLk 230 33 = some (.iload 4, 2) := rfl
theorem c_230_35 : mLk 230 35 = some (.aload_n 0, 1) := rfl
theorem c_230_36 : mLk 230 36 = some (.getfield 163, 3) := rfl
theorem c_230_39 : mLk 230 39 = some (.aload_n 0, 1) := rfl
theorem c_230_40 : mLk 230 40 = some (.getfield 157, 3) := rfl
theorem c_230_43 : mLk 230 43 = some (.imul, 1) := rfl
theorem c_230_44 : mLk 230 44 = some (.if_icmp .ge 64, 3) := rfl
theorem c_230_108 : mLk 230 108 = some (.iload_n 1, 1) := rfl
theorem c_230_109 : mLk 230 109 = some (.ifCond .ne 7, 3) := rfl
theorem c_230_116 : mLk 230 116 = some (.iload_n 3, 1) := rfl
theorem c_230_117 : mLk 230 117 = some (.ireturn, 1) := rfl
theorem c_230_112 : mLk 230 112 = some (.iload_n 2, 1) := rfl
theorem c_230_113 : mLk 230 113 = some (.goto 4, 3) := rfl
theorem c_230_47 : mLk 230 47 = some (.aload_n 0, 1) := rfl
theorem c_230_48 : mLk 230 48 = some (.iload 4, 2) := rfl
theorem c_230_50 : mLk 230 50 = some (.aload_n 0, 1) := rfl
theorem c_230_51 : mLk 230 51 = some (.getfield 157, 3) := rfl
theorem c_230_54 : mLk 230 54 = some (.idiv, 1) := rfl
theorem c_230_55 : mLk 230 55 = some (.iload 4, 2) := rfl
theorem c_230_57 : mLk 230 57 = some (.aload_n 0, 1) := rfl
theorem c_230_58 : mLk 230 58 = some (.getfield 157, 3) := rfl
theorem c_230_61 : mLk 230 61 = some (.irem, 1) := rfl
theorem c_230_62 : mLk 230 62 = some (.invokevirtual 417, 3) := rfl
theorem c_230_65 : mLk 230 65 = some (.ifCond .ne 6, 3) := rfl
theorem c_230_71 : mLk 230 71 = some (.iinc 2 1, 3) := rfl
theorem c_230_74 : mLk 230 74 = some (.iload_n 3, 1) := rfl
theorem c_230_75 : mLk 230 75 = some (.iconst (-1), 1) := rfl
theorem c_230_76 : mLk 230 76 = some (.if_icmp .ne 24, 3) := rfl
theorem c_230_100 : mLk 230 100 = some (.iload_n 3, 1) := rfl
theorem c_230_101 : mLk 230 101 = some (.istore_n 3, 1) := rfl
theorem c_230_102 : mLk 230 102 = some (.iinc 4 1, 3) := rfl
theorem c_230_105 : mLk 230 105 = some (.goto (-72), 3) := rfl
theorem c_230_79 : mLk 230 79 = some (.bipush 10, 2) := rfl
theorem c_230_81 : mLk 230 81 = some (.iload 4, 2) := rfl
theorem c_230_83 : mLk 230 83 = some (.aload_n 0, 1) := rfl
theorem c_230_84 : mLk 230 84 = some (.getfield 157, 3) := rfl
theorem c_230_87 : mLk 230 87 = some (.idiv, 1) := rfl
theorem c_230_88 : mLk 230 88 = some (.imul, 1) := rfl
theorem c_230_89 : mLk 230 89 = some (.iload 4, 2) := rfl
theorem c_230_91 : mLk 230 91 = some (.aload_n 0, 1) := rfl
theorem c_230_92 : mLk 230 92 = some (.getfield 157, 3) := rfl
theorem c_230_95 : mLk 230 95 = some (.irem, 1) := rfl
theorem c_230_96 : mLk 230 96 = some (.iadd, 1) := rfl
theorem c_230_97 : mLk 230 97 = some (.goto 4, 3) := rfl
theorem c_230_68 : mLk 230 68 = some (.goto 34, 3) := rfl
theorem c_230_0 : mLk 230 0 = some (.aload_n 0, 1) := rfl
theorem c_230_1 : mLk 230 1 = some (.iconst 0, 1) := rfl
theorem c_230_2 : mLk 230 2 = some (.putfield 3, 3) := rfl
theorem c_230_5 : mLk 230 5 = some (.aload_n 0, 1) := rfl
theorem c_230_6 : mLk 230 6 = some (.iload_n 1, 1) := rfl
theorem c_230_7 : mLk 230 7 = some (.iconst 0, 1) := rfl
theorem c_230_8 : mLk 230 8 = some (.iconst 1, 1) := rfl
theorem c_230_9 : mLk 230 9 = some (.invokestatic 384, 3) := rfl
theorem c_230_12 : mLk 230 12 = some (.iconst 1, 1) := rfl
theorem c_230_13 : mLk 230 13 = some (.iconst 1, 1) := rfl
theorem c_230_14 : mLk 230 14 = some (.invokevirtual 203, 3) := rfl
theorem c_230_17 : mLk 230 17 = some (.ifCond .ne 5, 3) := rfl
theorem c_230_20 : mLk 230 20 = some (.iconst 0, 1) := rfl
theorem c_230_21 : mLk 230 21 = some (.ireturn, 1) := rfl
theorem c_230_22 : mLk 230 22 = some (.aload_n 0, 1) := rfl
theorem c_230_23 : mLk 230 23 = some (.invokevirtual 317, 3) := rfl
theorem c_230_26 : mLk 230 26 = some (.iconst 0, 1) := rfl
theorem c_230_27 : mLk 230 27 = some (.istore_n 2, 1) := rfl
theorem c_230_28 : mLk 230 28 = some (.iconst (-1), 1) := rfl
theorem c_230_29 : mLk 230 29 = some (.istore_n 3, 1) := rfl
theorem c_230_30 : mLk 230 30 = some (.iconst 0, 1) := rfl
theorem c_230_31 : mLk 230 31 = some (.istore 4, 2) := rfl
theorem c_231_4 : mLk 231 4 = some (.iload_n 3, 1) := rfl
theorem c_231_5 : mLk 231 5 = some (.aload_n 0, 1) := rfl
theorem c_231_6 : mLk 231 6 = some (.getfield 163, 3) := rfl
theorem c_231_9 : mLk 231 9 = some (.aload_n 0, 1) := rfl
theorem c_231_10 : mLk 231 10 = some (.getfield 157, 3) := rfl
theorem c_231_13 : mLk 231 13 = some (.imul, 1) := rfl
theorem c_231_14 : mLk 231 14 = some (.if_icmp .ge 140, 3) := rfl
theorem c_231_154 : mLk 231 154 = some (.iload_n 2, 1) := rfl
theorem c_231_155 : mLk 231 155 = some (.ireturn, 1) := rfl
theorem c_231_17 : mLk 231 17 = some (.aload_n 0, 1) := rfl
theorem c_231_18 : mLk 231 18 = some (.iload_n 3, 1) := rfl
theorem c_231_19 : mLk 231 19 = some (.aload_n 0, 1) := rfl
theorem c_231_20 : mLk 231 20 = some (.getfield 157, 3) := rfl
theorem c_231_23 : mLk 231 23 = some (.idiv, 1) := rfl
theorem c_231_24 : mLk 231 24 = some (.iload_n 3, 1) := rfl
theorem c_231_25 : mLk 231 25 = some (.aload_n 0, 1) := rfl
theorem c_231_26 : mLk 231 26 = some (.getfield 157, 3) := rfl
theorem c_231_29 : mLk 231 29 = some (.irem, 1) := rfl
theorem c_231_30 : mLk 231 30 = some (.invokevirtual 417, 3) := rfl
theorem c_231_33 : mLk 231 33 = some (.ifCond .ne 6, 3) := rfl
theorem c_231_39 : mLk 231 39 = some (.iconst 0, 1) := rfl
theorem c_231_40 : mLk 231 40 = some (.istore 4, 2) := rfl
theorem c_231_42 : mLk 231 42 = some (.iconst 0, 1) := rfl
theorem c_231_43 : mLk 231 43 = some (.istore 5, 2) := rfl
theorem c_231_36 : mLk 231 36 = some (.goto 112, 3) := rfl
theorem c_231_148 : mLk 231 148 = some (.iinc 3 1, 3) := rfl
theorem c_231_151 : mLk 231 151 = some (.goto (-147), 3) := rfl
theorem c_231_45 : mLk 231 45 = some (.iload 5, 2) := rfl
theorem c_231_47 : mLk 231 47 = some (.aload_n 0, 1) := rfl
theorem c_231_48 : mLk 231 48 = some (.getfield 163, 3) := rfl
theorem c_231_51 : mLk 231 51 = some (.aload_n 0, 1) := rfl
theorem c_231_52 : mLk 231 52 = some (.getfield 157, 3) := rfl
theorem c_231_55 : mLk 231 55 = some (.imul, 1) := rfl
theorem c_231_56 : mLk 231 56 = some (.if_icmp .ge 79, 3) := rfl
theorem c_231_135 : mLk 231 135 = some (.iload 4, 2) := rfl
theorem c_231_137 : mLk 231 137 = some (.iload_n 2, 1) := rfl
theorem c_231_138 : mLk 231 138 = some (.if_icmp .le 8, 3) := rfl
theorem c_231_146 : mLk 231 146 = some (.iload_n 2, 1) := rfl
theorem c_231_147 : mLk 231 147 = some (.istore_n 2, 1) := rfl
theorem c_231_141 : mLk 231 141 = some (.iload 4, 2) := rfl
theorem c_231_143 : mLk 231 143 = some (.goto 4, 3) := rfl
theorem c_231_59 : mLk 231 59 = some (.iload 4, 2) := rfl
theorem c_231_61 : mLk 231 61 = some (.aload_n 0, 1) := rfl
theorem c_231_62 : mLk 231 62 = some (.iload 5, 2) := rfl
theorem c_231_64 : mLk 231 64 = some (.aload_n 0, 1) := rfl
theorem c_231_65 : mLk 231 65 = some (.getfield 157, 3) := rfl
theorem c_231_68 : mLk 231 68 = some (.idiv, 1) := rfl
theorem c_231_69 : mLk 231 69 = some (.iload 5, 2) := rfl
theorem c_231_71 : mLk 231 71 = some (.aload_n 0, 1) := rfl
theorem c_231_72 : mLk 231 72 = some (.getfield 157, 3) := rfl
theorem c_231_75 : mLk 231 75 = some (.irem, 1) := rfl
theorem c_231_76 : mLk 231 76 = some (.invokevirtual 417, 3) := rfl
theorem c_231_79 : mLk 231 79 = some (.ifCond .eq 46, 3) := rfl
theorem c_231_125 : mLk 231 125 = some (.iconst 0, 1) := rfl
theorem c_231_126 : mLk 231 126 = some (.iadd, 1) := rfl
theorem c_231_127 : mLk 231 127 = some (.istore 4, 2) := rfl
theorem c_231_129 : mLk 231 129 = some (.iinc 5 1, 3) := rfl
theorem c_231_132 : mLk 231 132 = some (.goto (-87), 3) := rfl
theorem c_231_82 : mLk 231 82 = some (.aload_n 0, 1) := rfl
theorem c_231_83 : mLk 231 83 = some (.iload 5, 2) := rfl
theorem c_231_85 : mLk 231 85 = some (.aload_n 0, 1) := rfl
theorem c_231_86 : mLk 231 86 = some (.getfield 157, 3) := rfl
theorem c_231_89 : mLk 231 89 = some (.idiv, 1) := rfl
theorem c_231_90 : mLk 231 90 = some (.iload 5, 2) := rfl
theorem c_231_92 : mLk 231 92 = some (.aload_n 0, 1) := rfl
theorem c_231_93 : mLk 231 93 = some (.getfield 157, 3) := rfl
theorem c_231_96 : mLk 231 96 = some (.irem, 1) := rfl
theorem c_231_97 : mLk 231 97 = some (.iload_n 1, 1) := rfl
theorem c_231_98 : mLk 231 98 = some (.invokevirtual 363, 3) := rfl
theorem c_231_101 : mLk 231 101 = some (.aload_n 0, 1) := rfl
theorem c_231_102 : mLk 231 102 = some (.iload_n 3, 1) := rfl
theorem c_231_103 : mLk 231 103 = some (.aload_n 0, 1) := rfl
theorem c_231_104 : mLk 231 104 = some (.getfield 157, 3) := rfl
theorem c_231_107 : mLk 231 107 = some (.idiv, 1) := rfl
theorem c_231_108 : mLk 231 108 = some (.iload_n 3, 1) := rfl
theorem c_231_109 : mLk 231 109 = some (.aload_n 0, 1) := rfl
theorem c_231_110 : mLk 231 110 = some (.getfield 157, 3) := rfl
theorem c_231_113 : mLk 231 113 = some (.irem, 1) := rfl
theorem c_231_114 : mLk 231 114 = some (.iload_n 1, 1) := rfl
theorem c_231_115 : mLk 231 115 = some (.invokevirtual 363, 3) := rfl
theorem c_231_118 : mLk 231 118 = some (.if_icmp .ne 7, 3) := rfl
theorem c_231_121 : mLk 231 121 = some (.iconst 1, 1) := rfl
theorem c_231_122 : mLk 231 122 = some (.goto 4, 3) := rfl
theorem c_231_0 : mLk 231 0 = some (.iconst 0, 1) := rfl
theorem c_231_1 : mLk 231 1 = some (.istore_n 2, 1) := rfl
theorem c_231_2 : mLk 231 2 = some (.iconst 0, 1) := rfl
theorem c_231_3 : mLk 231 3 = some (.istore_n 3, 1) := rfl
theorem km_8_402 : a_lk (kM 8) 402 = some (0, 222) := rfl
theorem km_8_405 : a_lk (kM 8) 405 = some (0, 226) := rfl
theorem km_8_408 : a_lk (kM 8) 408 = some (0, 223) := rfl
theorem km_8_414 : a_lk (kM 8) 414 = some (0, 224) := rfl
theorem km_8_417 : a_lk (kM 8) 417 = some (0, 229) := rfl
set_option maxRecDepth 100000 in
set_option maxHeartbeats 4000000 in
theorem s_221_l {sc : List Int32} {d P Q : Nat} {c : ME} {a1 : Int} {a2 : Int} {Z : AR → Prop} (hI : Iv 0 (-1) P Q c) (ha1 : (-2147483648) ≤ a1 ∧ a1 ≤ 2147483647) (ha2 : (-2147483648) ≤ a2 ∧ a2 ≤ 2147483647) (K : ∀ (c2 : ME) (y : Int), Iv 0 (-1) P Q c2 → (∀ (a : Nat) (j : Int), ¬ ((a = 41 ∧ j = 0) ∨ a = 42 ∨ a = 59) → c2 a j = c a j) → (-2147483648) ≤ y ∧ y ≤ 2147483647 → Z (.inl (some (vi y)), Wd P Q P P c2, 0, 0)) : ∀ n : Nat, (∀ (c2 : ME) (v3 : Int), Iv 0 (-1) P Q c2 → (∀ (a : Nat) (j : Int), ¬ ((a = 41 ∧ j = 0) ∨ a = 42 ∨ a = 59) → c2 a j = c a j) → 0 ≤ v3 ∧ v3 ≤ 8 → ((a2 ≤ c 41 47)) → ((a1 ≥ 0 ∧ a1 ≤ 5)) → ((a2 ≥ 0 ∧ a2 ≤ 8)) → 17 - 2 * v3 < (n : Int) → Wp sc (d + 9) 221 53 [(0, .ref 41), (1, vi a1), (2, vi a2), (3, vi v3)] [] (Wd P Q P P c2) 0 0 Z) := by
  intro n
  induction n with
  | zero => exact (by intro c2 v3 hI2 hF hv3 hx0 hx1 hx2 hm9; have hP := iv_P hI; have hQ := iv_Q hI; exfalso; omega)
  | succ n ih =>
    have hP := iv_P hI
    have hQ := iv_Q hI
    intro c2 v3 hI2 hF hv3 hx0 hx1 hx2 hm9
    have h_1 := ir_41_47 hI
    have hIo : Iv 59 (-1) P Q c2 := iv_open hI2
    have hsum_2 := ir_59_r hI2 (by decide) (j := a1) (by omega)
    have h_3 := ir_59_g hI2 (j := 4 * a1) (by omega)
    have h_4 := ir_59_g hI2 (j := 4 * a1 + 1) (by omega)
    have h_5 := ir_59_g hI2 (j := 4 * a1 + 2) (by omega)
    have h_6 := ir_59_g hI2 (j := 4 * a1 + 3) (by omega)
    refine q_iload_n c_221_53 rfl (q_iload_n c_221_54 rfl ?_)
    by_cases h_7 : v3 ≥ a2
    · refine v_ic_ge_t (t := 103) c_221_55 rfl ⟨ha2.1, h_7, (Int.le_trans hv3.2 (by decide))⟩ (q_iload_n c_221_103 rfl (q_aload_n c_221_104 rfl ?_))
      have kn_8 : Hid (c2 41 47 = c 41 47) := hF 41 47 qn_9656212e3
      refine v_gi (z := 47) (v := c 41 47) c_221_105 kf_8_176 rfl (nb_ rfl) rfl rfl (hid kn_8) ?_
      by_cases h_9 : a2 ≠ c 41 47
      · refine v_ic_ne_t (t := 119) c_221_108 rfl ⟨h_9, ⟨ha2.1, ha2.2⟩, (Int.le_trans (by decide) h_1.1), (Int.le_trans h_1.2 (by decide))⟩ (q_aload_n c_221_119 rfl (q_iload_n c_221_120 rfl (v_cv c_221_121 km_8_343 rfl rfl (nb_ rfl) ⟨⟨rfl, rfl⟩, nb_ rfl, rfl⟩ (nb_ rfl) (nb_ rfl) (s_187 (v1 := c2 59 (4 * a1)) (v2 := c2 59 (4 * a1 + 1)) (v3 := c2 59 (4 * a1 + 2)) (v4 := c2 59 (4 * a1 + 3)) (r := c2 59 (4 * a1 + 1) + c2 59 (4 * a1 + 2) + c2 59 (4 * a1 + 3) + c2 59 (4 * a1)) (a1 := a1) hIo (show 0 ≤ a1 ∧ a1 ≤ 5 from ⟨by first | (clear ha1 ha2 hv3 hx0 hx2 h_1 h_3 h_4 h_5 h_6 hsum_2 h_7 h_9; omega) | omega, by first | (clear ha1 ha2 hv3 hx0 hx2 h_1 h_3 h_4 h_5 h_6 hsum_2 h_7 h_9; omega) | omega⟩) (rfl) (rfl) (rfl) (rfl) (by omega) (bk_inl (q_aload_n c_221_124 rfl (q_aload_n c_221_125 rfl (v_gr (t := 62) c_221_126 kf_8_77 rfl (nb_ rfl) rfl ?_))))))))
        refine q_iload_n c_221_129 rfl ?_
        have h_10 := ir_62 hI a2
        have kn_11 : Hid (c2 62 a2 = c 62 a2) := hF 62 a2 qn_e16c4d0f0
        refine v_ia (v := c 62 a2) c_221_130 rfl (by decide) (by decide) ⟨by first | (clear ha1 ha2 hv3 hx0 hx1 h_1 h_3 h_4 h_5 h_6 hsum_2 h_7 h_10 h_9; omega) | omega, by first | (clear ha1 ha2 hv3 hx1 hx2 h_3 h_4 h_5 h_6 hsum_2 h_7 h_10; omega) | omega⟩ (hid kn_11) (q_iload_n c_221_131 rfl ?_)
        have h_12 := ir_49 hI (c 62 a2)
        have kn_13 : Hid (c2 49 (c 62 a2) = c 49 (c 62 a2)) := hF 49 (c 62 a2) qn_556c7ab22
        have h_14 := ir_59 hI2 (c 62 a2 + 30)
        have h_15 := fal_rng (m := c 49 (c 62 a2)) (t := c2 59 (c 62 a2 + 30)) (g := 0) (x := c2 59 (4 * a1)) (by first | exact q_c6ed8760d h_3 | omega)
        have h_16 := fal_rng (m := c 49 (c 62 a2)) (t := c2 59 (c 62 a2 + 30)) (g := 1) (x := c2 59 (4 * a1 + 1)) (by first | exact q_c6ed8760d h_4 | omega)
        have h_17 := fal_rng (m := c 49 (c 62 a2)) (t := c2 59 (c 62 a2 + 30)) (g := 2) (x := c2 59 (4 * a1 + 2)) (by first | exact q_c6ed8760d h_5 | omega)
        have h_18 := fal_rng (m := c 49 (c 62 a2)) (t := c2 59 (c 62 a2 + 30)) (g := 3) (x := c2 59 (4 * a1 + 3)) (by first | exact q_c6ed8760d h_6 | omega)
        refine v_cv c_221_132 km_8_366 rfl rfl (nb_ rfl) ⟨⟨rfl, rfl⟩, nb_ rfl, rfl⟩ (nb_ rfl) (nb_ rfl) (s_190 (v1 := c 49 (c 62 a2)) (v2 := c2 59 (c 62 a2 + 30)) (v3 := c2 59 (4 * a1)) (v4 := c2 59 (4 * a1 + 1)) (v5 := c2 59 (4 * a1 + 2)) (v6 := c2 59 (4 * a1 + 3)) (r := (fal (c 49 (c 62 a2)) (c2 59 (c 62 a2 + 30)) 0 (c2 59 (4 * a1))) + (fal (c 49 (c 62 a2)) (c2 59 (c 62 a2 + 30)) 1 (c2 59 (4 * a1 + 1))) + (fal (c 49 (c 62 a2)) (c2 59 (c 62 a2 + 30)) 2 (c2 59 (4 * a1 + 2))) + (fal (c 49 (c 62 a2)) (c2 59 (c 62 a2 + 30)) 3 (c2 59 (4 * a1 + 3)))) (a1 := c 62 a2) (a2 := a1) hIo (show 0 ≤ c 62 a2 ∧ c 62 a2 ≤ 3 from ⟨by first | exact q_eb3a7ad7a h_10 | omega, by first | exact q_c99d6ea93 h_10 | omega⟩) (show 0 ≤ a1 ∧ a1 ≤ 5 from ⟨by first | (clear ha1 ha2 hv3 hx0 hx2 h_1 h_3 h_4 h_5 h_6 hsum_2 h_7 h_10 h_9; omega) | omega, by first | (clear ha1 ha2 hv3 hx0 hx2 h_1 h_3 h_4 h_5 h_6 hsum_2 h_7 h_10 h_9; omega) | omega⟩) ((congrArg (c2 49) (show (c 62 a2) = c 62 a2 from by first | exact q_ef0f4cfe4 | assumption | exact Int.le_antisymm (by omega) (by omega))).trans (hid kn_13)) ((congrArg (c2 59) (show (c 62 a2) + 30 = c 62 a2 + 30 from by first | exact q_9182abc2f | assumption | exact Int.le_antisymm (by omega) (by omega)))) (rfl) (rfl) (rfl) (rfl) rfl (bk_inl ?_))
        refine v_isub (v := c2 59 (4 * a1 + 1) + c2 59 (4 * a1 + 2) + c2 59 (4 * a1 + 3) + c2 59 (4 * a1) - (fal (c 49 (c 62 a2)) (c2 59 (c 62 a2 + 30)) 0 (c2 59 (4 * a1))) - (fal (c 49 (c 62 a2)) (c2 59 (c 62 a2 + 30)) 1 (c2 59 (4 * a1 + 1))) - (fal (c 49 (c 62 a2)) (c2 59 (c 62 a2 + 30)) 2 (c2 59 (4 * a1 + 2))) - (fal (c 49 (c 62 a2)) (c2 59 (c 62 a2 + 30)) 3 (c2 59 (4 * a1 + 3)))) rfl (by first | exact q_c8918bba8 | omega) (q_iret c_221_136 rfl ?_)
        exact K c2 (c2 59 (4 * a1 + 1) + c2 59 (4 * a1 + 2) + c2 59 (4 * a1 + 3) + c2 59 (4 * a1) - (fal (c 49 (c 62 a2)) (c2 59 (c 62 a2 + 30)) 0 (c2 59 (4 * a1))) - (fal (c 49 (c 62 a2)) (c2 59 (c 62 a2 + 30)) 1 (c2 59 (4 * a1 + 1))) - (fal (c 49 (c 62 a2)) (c2 59 (c 62 a2 + 30)) 2 (c2 59 (4 * a1 + 2))) - (fal (c 49 (c 62 a2)) (c2 59 (c 62 a2 + 30)) 3 (c2 59 (4 * a1 + 3)))) hI2 (fun a j hm => hF a j hm) ⟨by first | exact q_fe383d6ec h_15 h_16 h_17 h_18 | omega, by first | exact q_4e357606a h_15 h_16 h_17 h_18 hsum_2 | omega⟩
      · refine v_ic_ne_f (t := 119) c_221_108 rfl (Decidable.not_not.mp h_9) (q_aload_n c_221_111 rfl (q_iload_n c_221_112 rfl (v_cv c_221_113 km_8_343 rfl rfl (nb_ rfl) ⟨⟨rfl, rfl⟩, nb_ rfl, rfl⟩ (nb_ rfl) (nb_ rfl) (s_187 (v1 := c2 59 (4 * a1)) (v2 := c2 59 (4 * a1 + 1)) (v3 := c2 59 (4 * a1 + 2)) (v4 := c2 59 (4 * a1 + 3)) (r := c2 59 (4 * a1 + 1) + c2 59 (4 * a1 + 2) + c2 59 (4 * a1 + 3) + c2 59 (4 * a1)) (a1 := a1) hIo (show 0 ≤ a1 ∧ a1 ≤ 5 from ⟨by first | (clear ha1 ha2 hv3 hx0 hx2 h_1 h_3 h_4 h_5 h_6 hsum_2 h_7 h_9; omega) | omega, by first | (clear ha1 ha2 hv3 hx0 hx2 h_1 h_3 h_4 h_5 h_6 hsum_2 h_7 h_9; omega) | omega⟩) (rfl) (rfl) (rfl) (rfl) (by omega) (bk_inl (q_goto (t := 136) c_221_116 rfl (q_iret c_221_136 rfl ?_)))))))
        exact K c2 (c2 59 (4 * a1 + 1) + c2 59 (4 * a1 + 2) + c2 59 (4 * a1 + 3) + c2 59 (4 * a1)) hI2 (fun a j hm => hF a j hm) ⟨by first | exact q_e052ef40e h_3 h_4 h_5 h_6 | omega, by first | exact q_6719c4bfd hsum_2 | omega⟩
    · refine v_ic_ge_f (t := 103) c_221_55 rfl ⟨(Int.le_trans (by decide) hv3.1), (Int.not_le.mp h_7), ha2.2⟩ (q_iconst c_221_58 (q_istore c_221_59 (nb_ rfl) (q_iload c_221_61 rfl (q_iconst c_221_63 (v_ic_ge_f (t := 97) c_221_64 rfl (by decide) (q_aload_n c_221_67 rfl (v_gr (t := 59) c_221_68 kf_8_68 rfl (nb_ rfl) rfl ?_)))))))
      refine q_iconst c_221_71 (q_iload_n c_221_72 rfl (v_imul (v := 4 * a1) c_221_73 rfl (q_iload c_221_74 rfl (v_iadd (v := 4 * a1) c_221_76 (by first | exact q_8baad3eb5 | omega) (q_aload_n c_221_77 rfl (q_aload_n c_221_78 rfl (v_gr (t := 62) c_221_79 kf_8_77 rfl (nb_ rfl) rfl ?_)))))))
      refine q_iload_n c_221_82 rfl ?_
      have h_19 := ir_62 hI v3
      have kn_20 : Hid (c2 62 v3 = c 62 v3) := hF 62 v3 qn_e16c4d0f0
      refine v_ia (v := c 62 v3) c_221_83 rfl (by decide) (by decide) ⟨hv3.1, by first | (clear ha1 ha2 hv3 hx0 hx1 h_1 h_3 h_4 h_5 h_6 hsum_2 h_19; omega) | omega⟩ (hid kn_20) (q_iload_n c_221_84 rfl (q_iload c_221_85 rfl ?_))
      have h_21 := ir_49 hI (c 62 v3)
      have kn_22 : Hid (c2 49 (c 62 v3) = c 49 (c 62 v3)) := hF 49 (c 62 v3) qn_556c7ab22
      have h_23 := ir_59 hI2 (c 62 v3 + 30)
      have h_24 := fal_rng (m := c 49 (c 62 v3)) (t := c2 59 (c 62 v3 + 30)) (g := 0) (x := c2 59 (4 * a1)) (by first | exact q_c6ed8760d h_3 | omega)
      refine v_cv c_221_87 km_8_363 rfl rfl (nb_ rfl) ⟨⟨rfl, rfl⟩, nb_ rfl, rfl⟩ (nb_ rfl) (nb_ rfl) (s_189 (v1 := c 49 (c 62 v3)) (v2 := c2 59 (c 62 v3 + 30)) (v3 := c2 59 (4 * a1)) (r := (fal (c 49 (c 62 v3)) (c2 59 (c 62 v3 + 30)) 0 (c2 59 (4 * a1)))) (a1 := c 62 v3) (a2 := a1) (a3 := 0) hIo (show 0 ≤ c 62 v3 ∧ c 62 v3 ≤ 3 from ⟨by first | exact q_eb3a7ad7a h_19 | omega, by first | exact q_c99d6ea93 h_19 | omega⟩) (show 0 ≤ a1 ∧ a1 ≤ 5 from ⟨by first | (clear ha1 ha2 hv3 hx0 hx2 h_1 h_3 h_4 h_5 h_6 hsum_2 h_7 h_19; omega) | omega, by first | (clear ha1 ha2 hv3 hx0 hx2 h_1 h_3 h_4 h_5 h_6 hsum_2 h_7 h_19; omega) | omega⟩) (show 0 ≤ 0 ∧ 0 ≤ 3 from ⟨by decide, by decide⟩) ((congrArg (c2 49) (show (c 62 v3) = c 62 v3 from by first | exact q_ef0f4cfe4 | omega)).trans (hid kn_22)) ((congrArg (c2 59) (show (c 62 v3) + 30 = c 62 v3 + 30 from by first | exact q_9182abc2f | omega))) ((congrArg (c2 59) (show 4 * a1 + 0 = 4 * a1 from by first | exact q_8baad3eb5 | omega))) rfl (bk_inl (v_is c_221_90 rfl (by decide) (by decide) ⟨by first | (clear ha1 ha2 hv3 hx0 hx2 h_1 h_3 h_4 h_5 h_6 hsum_2 h_7 h_19 h_21 h_23 h_24; omega) | omega, by first | (clear ha1 ha2 hv3 hx0 hx2 h_1 h_3 h_4 h_5 h_6 hsum_2 h_7 h_19 h_21 h_23 h_24; omega) | omega⟩ (v_iinc (v := 1) c_221_91 rfl (nb_ rfl) (by decide) (q_goto (t := 61) c_221_94 rfl (q_iload c_221_61 rfl (q_iconst c_221_63 (v_ic_ge_f (t := 97) c_221_64 rfl (by decide) ?_))))))))
      refine q_aload_n c_221_67 rfl (v_gr (t := 59) c_221_68 kf_8_68 rfl (nb_ rfl) rfl (q_iconst c_221_71 (q_iload_n c_221_72 rfl (v_imul (v := 4 * a1) c_221_73 rfl (q_iload c_221_74 rfl (v_iadd (v := 4 * a1 + 1) c_221_76 rfl (q_aload_n c_221_77 rfl ?_)))))))
      refine q_aload_n c_221_78 rfl (v_gr (t := 62) c_221_79 kf_8_77 rfl (nb_ rfl) rfl (q_iload_n c_221_82 rfl (v_ia (v := c 62 v3) c_221_83 rfl (by decide) (by decide) ⟨hv3.1, by first | (clear ha1 ha2 hv3 hx0 hx1 h_1 h_3 h_4 h_5 h_6 hsum_2 h_19 h_21 h_23 h_24; omega) | omega⟩ ((up_c (nn rfl)).trans (hid kn_20)) (q_iload_n c_221_84 rfl (q_iload c_221_85 rfl ?_)))))
      have hI_25 := iwr0 (a := 59) (j := 4 * a1) (v := (fal (c 49 (c 62 v3)) (c2 59 (c 62 v3 + 30)) 0 (c2 59 (4 * a1)))) hIo (by decide) ⟨by first | exact q_47ff97009 h_24 | omega, by first | exact q_c7ae86183 h_24 h_3 | omega⟩
      have h_26 := fal_rng (m := c 49 (c 62 v3)) (t := c2 59 (c 62 v3 + 30)) (g := 1) (x := c2 59 (4 * a1 + 1)) (by first | exact q_c6ed8760d h_4 | omega)
      refine v_cv c_221_87 km_8_363 rfl rfl (nb_ rfl) ⟨⟨rfl, rfl⟩, nb_ rfl, rfl⟩ (nb_ rfl) (nb_ rfl) (s_189 (v1 := c 49 (c 62 v3)) (v2 := c2 59 (c 62 v3 + 30)) (v3 := c2 59 (4 * a1 + 1)) (r := (fal (c 49 (c 62 v3)) (c2 59 (c 62 v3 + 30)) 1 (c2 59 (4 * a1 + 1)))) (a1 := c 62 v3) (a2 := a1) (a3 := 1) hI_25 (show 0 ≤ c 62 v3 ∧ c 62 v3 ≤ 3 from ⟨by first | exact q_eb3a7ad7a h_19 | omega, by first | exact q_c99d6ea93 h_19 | omega⟩) (show 0 ≤ a1 ∧ a1 ≤ 5 from ⟨by first | (clear ha1 ha2 hv3 hx0 hx2 h_1 h_3 h_4 h_5 h_6 hsum_2 h_7 h_19 h_21 h_23 h_24; omega) | omega, by first | (clear ha1 ha2 hv3 hx0 hx2 h_1 h_3 h_4 h_5 h_6 hsum_2 h_7 h_19 h_21 h_23 h_24; omega) | omega⟩) (show 0 ≤ 1 ∧ 1 ≤ 3 from ⟨by decide, by decide⟩) ((congrArg ((up c2 59 (4 * a1) (fal (c 49 (c 62 v3)) (c2 59 (c 62 v3 + 30)) 0 (c2 59 (4 * a1)))) 49) (show (c 62 v3) = c 62 v3 from by first | exact q_ef0f4cfe4 | omega)).trans ((up_c (nn rfl)).trans (hid kn_22))) ((congrArg ((up c2 59 (4 * a1) (fal (c 49 (c 62 v3)) (c2 59 (c 62 v3 + 30)) 0 (c2 59 (4 * a1)))) 59) (show (c 62 v3) + 30 = c 62 v3 + 30 from by first | exact q_9182abc2f | omega)).trans (up_n (ne_g (by first | (clear ha1 ha2 hv3 hx0 hx2 h_1 h_3 h_4 h_5 h_6 hsum_2 h_7 h_21 h_23 h_24; omega) | omega)))) ((up_n (by first | exact ne_a0 (by decide) | omega))) rfl (bk_inl ?_))
      refine v_is c_221_90 rfl (by decide) (by decide) ⟨by first | (clear ha1 ha2 hv3 hx0 hx2 h_1 h_3 h_4 h_5 h_6 hsum_2 h_7 h_19 h_21 h_23 h_24 h_26; omega) | omega, by first | (clear ha1 ha2 hv3 hx0 hx2 h_1 h_3 h_4 h_5 h_6 hsum_2 h_7 h_19 h_21 h_23 h_24 h_26; omega) | omega⟩ (v_iinc (v := 2) c_221_91 rfl (nb_ rfl) (by decide) (q_goto (t := 61) c_221_94 rfl (q_iload c_221_61 rfl (q_iconst c_221_63 (v_ic_ge_f (t := 97) c_221_64 rfl (by decide) (q_aload_n c_221_67 rfl (v_gr (t := 59) c_221_68 kf_8_68 rfl (nb_ rfl) rfl ?_)))))))
      refine q_iconst c_221_71 (q_iload_n c_221_72 rfl (v_imul (v := 4 * a1) c_221_73 rfl (q_iload c_221_74 rfl (v_iadd (v := 4 * a1 + 2) c_221_76 rfl (q_aload_n c_221_77 rfl (q_aload_n c_221_78 rfl (v_gr (t := 62) c_221_79 kf_8_77 rfl (nb_ rfl) rfl ?_)))))))
      refine q_iload_n c_221_82 rfl (v_ia (v := c 62 v3) c_221_83 rfl (by decide) (by decide) ⟨hv3.1, by first | (clear ha1 ha2 hv3 hx0 hx1 h_1 h_3 h_4 h_5 h_6 hsum_2 h_19 h_21 h_23 h_24 h_26; omega) | omega⟩ ((up_c (nn rfl)).trans ((up_c (nn rfl)).trans (hid kn_20))) (q_iload_n c_221_84 rfl (q_iload c_221_85 rfl ?_)))
      have hI_27 := iwr0 (a := 59) (j := 4 * a1 + 1) (v := (fal (c 49 (c 62 v3)) (c2 59 (c 62 v3 + 30)) 1 (c2 59 (4 * a1 + 1)))) hI_25 (by decide) ⟨by first | exact q_47ff97009 h_26 | omega, by first | exact q_c7ae86183 h_26 h_4 | omega⟩
      have h_28 := fal_rng (m := c 49 (c 62 v3)) (t := c2 59 (c 62 v3 + 30)) (g := 2) (x := c2 59 (4 * a1 + 2)) (by first | exact q_c6ed8760d h_5 | omega)
      refine v_cv c_221_87 km_8_363 rfl rfl (nb_ rfl) ⟨⟨rfl, rfl⟩, nb_ rfl, rfl⟩ (nb_ rfl) (nb_ rfl) (s_189 (v1 := c 49 (c 62 v3)) (v2 := c2 59 (c 62 v3 + 30)) (v3 := c2 59 (4 * a1 + 2)) (r := (fal (c 49 (c 62 v3)) (c2 59 (c 62 v3 + 30)) 2 (c2 59 (4 * a1 + 2)))) (a1 := c 62 v3) (a2 := a1) (a3 := 2) hI_27 (show 0 ≤ c 62 v3 ∧ c 62 v3 ≤ 3 from ⟨by first | exact q_eb3a7ad7a h_19 | omega, by first | exact q_c99d6ea93 h_19 | omega⟩) (show 0 ≤ a1 ∧ a1 ≤ 5 from ⟨by first | (clear ha1 ha2 hv3 hx0 hx2 h_1 h_3 h_4 h_5 h_6 hsum_2 h_7 h_19 h_21 h_23 h_24 h_26; omega) | omega, by first | (clear ha1 ha2 hv3 hx0 hx2 h_1 h_3 h_4 h_5 h_6 hsum_2 h_7 h_19 h_21 h_23 h_24 h_26; omega) | omega⟩) (show 0 ≤ 2 ∧ 2 ≤ 3 from ⟨by decide, by decide⟩) ((congrArg ((up (up c2 59 (4 * a1) (fal (c 49 (c 62 v3)) (c2 59 (c 62 v3 + 30)) 0 (c2 59 (4 * a1)))) 59 (4 * a1 + 1) (fal (c 49 (c 62 v3)) (c2 59 (c 62 v3 + 30)) 1 (c2 59 (4 * a1 + 1)))) 49) (show (c 62 v3) = c 62 v3 from by first | exact q_ef0f4cfe4 | omega)).trans ((up_c (nn rfl)).trans ((up_c (nn rfl)).trans (hid kn_22)))) ((congrArg ((up (up c2 59 (4 * a1) (fal (c 49 (c 62 v3)) (c2 59 (c 62 v3 + 30)) 0 (c2 59 (4 * a1)))) 59 (4 * a1 + 1) (fal (c 49 (c 62 v3)) (c2 59 (c 62 v3 + 30)) 1 (c2 59 (4 * a1 + 1)))) 59) (show (c 62 v3) + 30 = c 62 v3 + 30 from by first | exact q_9182abc2f | omega)).trans ((up_n (ne_g (by first | (clear ha1 ha2 hv3 hx0 hx2 h_1 h_3 h_4 h_5 h_6 hsum_2 h_7 h_21 h_23 h_24 h_26; omega) | omega))).trans (up_n (ne_g (by first | (clear ha1 ha2 hv3 hx0 hx2 h_1 h_3 h_4 h_5 h_6 hsum_2 h_7 h_21 h_23 h_24 h_26; omega) | omega))))) (((up_n (by first | exact ne_aa (by decide) | omega)).trans (up_n (by first | exact ne_a0 (by decide) | omega)))) rfl ?_)
      refine bk_inl (v_is c_221_90 rfl (by decide) (by decide) ⟨by first | (clear ha1 ha2 hv3 hx0 hx2 h_1 h_3 h_4 h_5 h_6 hsum_2 h_7 h_19 h_21 h_23 h_24 h_26 h_28; omega) | omega, by first | (clear ha1 ha2 hv3 hx0 hx2 h_1 h_3 h_4 h_5 h_6 hsum_2 h_7 h_19 h_21 h_23 h_24 h_26 h_28; omega) | omega⟩ (v_iinc (v := 3) c_221_91 rfl (nb_ rfl) (by decide) (q_goto (t := 61) c_221_94 rfl (q_iload c_221_61 rfl (q_iconst c_221_63 (v_ic_ge_f (t := 97) c_221_64 rfl (by decide) (q_aload_n c_221_67 rfl ?_)))))))
      refine v_gr (t := 59) c_221_68 kf_8_68 rfl (nb_ rfl) rfl (q_iconst c_221_71 (q_iload_n c_221_72 rfl (v_imul (v := 4 * a1) c_221_73 rfl (q_iload c_221_74 rfl (v_iadd (v := 4 * a1 + 3) c_221_76 rfl (q_aload_n c_221_77 rfl (q_aload_n c_221_78 rfl ?_)))))))
      refine v_gr (t := 62) c_221_79 kf_8_77 rfl (nb_ rfl) rfl (q_iload_n c_221_82 rfl (v_ia (v := c 62 v3) c_221_83 rfl (by decide) (by decide) ⟨hv3.1, by first | (clear ha1 ha2 hv3 hx0 hx1 h_1 h_3 h_4 h_5 h_6 hsum_2 h_19 h_21 h_23 h_24 h_26 h_28; omega) | omega⟩ ((up_c (nn rfl)).trans ((up_c (nn rfl)).trans ((up_c (nn rfl)).trans (hid kn_20)))) (q_iload_n c_221_84 rfl (q_iload c_221_85 rfl ?_))))
      have hI_29 := iwr0 (a := 59) (j := 4 * a1 + 2) (v := (fal (c 49 (c 62 v3)) (c2 59 (c 62 v3 + 30)) 2 (c2 59 (4 * a1 + 2)))) hI_27 (by decide) ⟨by first | exact q_47ff97009 h_28 | omega, by first | exact q_c7ae86183 h_28 h_5 | omega⟩
      have h_30 := fal_rng (m := c 49 (c 62 v3)) (t := c2 59 (c 62 v3 + 30)) (g := 3) (x := c2 59 (4 * a1 + 3)) (by first | exact q_c6ed8760d h_6 | omega)
      refine v_cv c_221_87 km_8_363 rfl rfl (nb_ rfl) ⟨⟨rfl, rfl⟩, nb_ rfl, rfl⟩ (nb_ rfl) (nb_ rfl) (s_189 (v1 := c 49 (c 62 v3)) (v2 := c2 59 (c 62 v3 + 30)) (v3 := c2 59 (4 * a1 + 3)) (r := (fal (c 49 (c 62 v3)) (c2 59 (c 62 v3 + 30)) 3 (c2 59 (4 * a1 + 3)))) (a1 := c 62 v3) (a2 := a1) (a3 := 3) hI_29 (show 0 ≤ c 62 v3 ∧ c 62 v3 ≤ 3 from ⟨by first | exact q_eb3a7ad7a h_19 | omega, by first | exact q_c99d6ea93 h_19 | omega⟩) (show 0 ≤ a1 ∧ a1 ≤ 5 from ⟨by first | (clear ha1 ha2 hv3 hx0 hx2 h_1 h_3 h_4 h_5 h_6 hsum_2 h_7 h_19 h_21 h_23 h_24 h_26 h_28; omega) | omega, by first | (clear ha1 ha2 hv3 hx0 hx2 h_1 h_3 h_4 h_5 h_6 hsum_2 h_7 h_19 h_21 h_23 h_24 h_26 h_28; omega) | omega⟩) (show 0 ≤ 3 ∧ 3 ≤ 3 from ⟨by decide, by decide⟩) ((congrArg ((up (up (up c2 59 (4 * a1) (fal (c 49 (c 62 v3)) (c2 59 (c 62 v3 + 30)) 0 (c2 59 (4 * a1)))) 59 (4 * a1 + 1) (fal (c 49 (c 62 v3)) (c2 59 (c 62 v3 + 30)) 1 (c2 59 (4 * a1 + 1)))) 59 (4 * a1 + 2) (fal (c 49 (c 62 v3)) (c2 59 (c 62 v3 + 30)) 2 (c2 59 (4 * a1 + 2)))) 49) (show (c 62 v3) = c 62 v3 from by first | exact q_ef0f4cfe4 | omega)).trans ((up_c (nn rfl)).trans ((up_c (nn rfl)).trans ((up_c (nn rfl)).trans (hid kn_22))))) ((congrArg ((up (up (up c2 59 (4 * a1) (fal (c 49 (c 62 v3)) (c2 59 (c 62 v3 + 30)) 0 (c2 59 (4 * a1)))) 59 (4 * a1 + 1) (fal (c 49 (c 62 v3)) (c2 59 (c 62 v3 + 30)) 1 (c2 59 (4 * a1 + 1)))) 59 (4 * a1 + 2) (fal (c 49 (c 62 v3)) (c2 59 (c 62 v3 + 30)) 2 (c2 59 (4 * a1 + 2)))) 59) (show (c 62 v3) + 30 = c 62 v3 + 30 from by first | exact q_9182abc2f | omega)).trans ((up_n (ne_g (by first | (clear ha1 ha2 hv3 hx0 hx2 h_1 h_3 h_4 h_5 h_6 hsum_2 h_7 h_21 h_23 h_24 h_26 h_28; omega) | omega))).trans ((up_n (ne_g (by first | (clear ha1 ha2 hv3 hx0 hx2 h_1 h_3 h_4 h_5 h_6 hsum_2 h_7 h_21 h_23 h_24 h_26 h_28; omega) | omega))).trans (up_n (ne_g (by first | (clear ha1 ha2 hv3 hx0 hx2 h_1 h_3 h_4 h_5 h_6 hsum_2 h_7 h_21 h_23 h_24 h_26 h_28; omega) | omega)))))) (((up_n (by first | exact ne_aa (by decide) | omega)).trans ((up_n (by first | exact ne_aa (by decide) | omega)).trans (up_n (by first | exact ne_a0 (by decide) | omega))))) rfl ?_)
      refine bk_inl (v_is c_221_90 rfl (by decide) (by decide) ⟨by first | (clear ha1 ha2 hv3 hx0 hx2 h_1 h_3 h_4 h_5 h_6 hsum_2 h_7 h_19 h_21 h_23 h_24 h_26 h_28 h_30; omega) | omega, by first | (clear ha1 ha2 hv3 hx0 hx2 h_1 h_3 h_4 h_5 h_6 hsum_2 h_7 h_19 h_21 h_23 h_24 h_26 h_28 h_30; omega) | omega⟩ (v_iinc (v := 4) c_221_91 rfl (nb_ rfl) (by decide) (Wp_ls [(4, vi 4), (0, .ref 41), (1, vi a1), (2, vi a2), (3, vi v3)] (lsub_cons rfl (lsub_cons rfl (lsub_cons rfl (lsub_cons rfl (lsub_cons rfl lsub_nil))))) (q_goto (t := 61) c_221_94 rfl (q_iload c_221_61 rfl (q_iconst c_221_63 (v_ic_ge_t (t := 97) c_221_64 rfl (by decide) ?_)))))))
      refine v_iinc (v := v3 + 1) c_221_97 rfl (nb_ rfl) rfl (q_goto (t := 53) c_221_100 rfl ?_)
      have hI_31 := iwr0 (a := 59) (j := 4 * a1 + 3) (v := (fal (c 49 (c 62 v3)) (c2 59 (c 62 v3 + 30)) 3 (c2 59 (4 * a1 + 3)))) hI_29 (by decide) ⟨by first | exact q_47ff97009 h_30 | omega, by first | exact q_c7ae86183 h_30 h_6 | omega⟩
      have hr_32 : ∀ j : Int, rs 59 j → (up (up (up (up c2 59 (4 * a1) (fal (c 49 (c 62 v3)) (c2 59 (c 62 v3 + 30)) 0 (c2 59 (4 * a1)))) 59 (4 * a1 + 1) (fal (c 49 (c 62 v3)) (c2 59 (c 62 v3 + 30)) 1 (c2 59 (4 * a1 + 1)))) 59 (4 * a1 + 2) (fal (c 49 (c 62 v3)) (c2 59 (c 62 v3 + 30)) 2 (c2 59 (4 * a1 + 2)))) 59 (4 * a1 + 3) (fal (c 49 (c 62 v3)) (c2 59 (c 62 v3 + 30)) 3 (c2 59 (4 * a1 + 3)))) 59 j + (up (up (up (up c2 59 (4 * a1) (fal (c 49 (c 62 v3)) (c2 59 (c 62 v3 + 30)) 0 (c2 59 (4 * a1)))) 59 (4 * a1 + 1) (fal (c 49 (c 62 v3)) (c2 59 (c 62 v3 + 30)) 1 (c2 59 (4 * a1 + 1)))) 59 (4 * a1 + 2) (fal (c 49 (c 62 v3)) (c2 59 (c 62 v3 + 30)) 2 (c2 59 (4 * a1 + 2)))) 59 (4 * a1 + 3) (fal (c 49 (c 62 v3)) (c2 59 (c 62 v3 + 30)) 3 (c2 59 (4 * a1 + 3)))) 59 (j + 1) + (up (up (up (up c2 59 (4 * a1) (fal (c 49 (c 62 v3)) (c2 59 (c 62 v3 + 30)) 0 (c2 59 (4 * a1)))) 59 (4 * a1 + 1) (fal (c 49 (c 62 v3)) (c2 59 (c 62 v3 + 30)) 1 (c2 59 (4 * a1 + 1)))) 59 (4 * a1 + 2) (fal (c 49 (c 62 v3)) (c2 59 (c 62 v3 + 30)) 2 (c2 59 (4 * a1 + 2)))) 59 (4 * a1 + 3) (fal (c 49 (c 62 v3)) (c2 59 (c 62 v3 + 30)) 3 (c2 59 (4 * a1 + 3)))) 59 (j + 2) + (up (up (up (up c2 59 (4 * a1) (fal (c 49 (c 62 v3)) (c2 59 (c 62 v3 + 30)) 0 (c2 59 (4 * a1)))) 59 (4 * a1 + 1) (fal (c 49 (c 62 v3)) (c2 59 (c 62 v3 + 30)) 1 (c2 59 (4 * a1 + 1)))) 59 (4 * a1 + 2) (fal (c 49 (c 62 v3)) (c2 59 (c 62 v3 + 30)) 2 (c2 59 (4 * a1 + 2)))) 59 (4 * a1 + 3) (fal (c 49 (c 62 v3)) (c2 59 (c 62 v3 + 30)) 3 (c2 59 (4 * a1 + 3)))) 59 (j + 3) ≤ 9999 := by
        intro j9 hj9
        obtain ⟨k9, rfl, hk9⟩ := rs_59 hj9
        by_cases e_33 : k9 = a1
        · skip
          have h_34 : (up (up (up (up c2 59 (4 * a1) (fal (c 49 (c 62 v3)) (c2 59 (c 62 v3 + 30)) 0 (c2 59 (4 * a1)))) 59 (4 * a1 + 1) (fal (c 49 (c 62 v3)) (c2 59 (c 62 v3 + 30)) 1 (c2 59 (4 * a1 + 1)))) 59 (4 * a1 + 2) (fal (c 49 (c 62 v3)) (c2 59 (c 62 v3 + 30)) 2 (c2 59 (4 * a1 + 2)))) 59 (4 * a1 + 3) (fal (c 49 (c 62 v3)) (c2 59 (c 62 v3 + 30)) 3 (c2 59 (4 * a1 + 3)))) 59 (4 * k9) = (fal (c 49 (c 62 v3)) (c2 59 (c 62 v3 + 30)) 0 (c2 59 (4 * a1))) := (congrArg ((up (up (up (up c2 59 (4 * a1) (fal (c 49 (c 62 v3)) (c2 59 (c 62 v3 + 30)) 0 (c2 59 (4 * a1)))) 59 (4 * a1 + 1) (fal (c 49 (c 62 v3)) (c2 59 (c 62 v3 + 30)) 1 (c2 59 (4 * a1 + 1)))) 59 (4 * a1 + 2) (fal (c 49 (c 62 v3)) (c2 59 (c 62 v3 + 30)) 2 (c2 59 (4 * a1 + 2)))) 59 (4 * a1 + 3) (fal (c 49 (c 62 v3)) (c2 59 (c 62 v3 + 30)) 3 (c2 59 (4 * a1 + 3)))) 59) (show 4 * k9 = 4 * a1 from congrArg (fun z : Int => 4 * z) e_33)).trans ((up_n (by first | exact ne_0a (by decide) | omega)).trans ((up_n (by first | exact ne_0a (by decide) | omega)).trans ((up_n (by first | exact ne_0a (by decide) | omega)).trans (up_e rfl))))
          have h_35 : (up (up (up (up c2 59 (4 * a1) (fal (c 49 (c 62 v3)) (c2 59 (c 62 v3 + 30)) 0 (c2 59 (4 * a1)))) 59 (4 * a1 + 1) (fal (c 49 (c 62 v3)) (c2 59 (c 62 v3 + 30)) 1 (c2 59 (4 * a1 + 1)))) 59 (4 * a1 + 2) (fal (c 49 (c 62 v3)) (c2 59 (c 62 v3 + 30)) 2 (c2 59 (4 * a1 + 2)))) 59 (4 * a1 + 3) (fal (c 49 (c 62 v3)) (c2 59 (c 62 v3 + 30)) 3 (c2 59 (4 * a1 + 3)))) 59 (4 * k9 + 1) = (fal (c 49 (c 62 v3)) (c2 59 (c 62 v3 + 30)) 1 (c2 59 (4 * a1 + 1))) := (congrArg ((up (up (up (up c2 59 (4 * a1) (fal (c 49 (c 62 v3)) (c2 59 (c 62 v3 + 30)) 0 (c2 59 (4 * a1)))) 59 (4 * a1 + 1) (fal (c 49 (c 62 v3)) (c2 59 (c 62 v3 + 30)) 1 (c2 59 (4 * a1 + 1)))) 59 (4 * a1 + 2) (fal (c 49 (c 62 v3)) (c2 59 (c 62 v3 + 30)) 2 (c2 59 (4 * a1 + 2)))) 59 (4 * a1 + 3) (fal (c 49 (c 62 v3)) (c2 59 (c 62 v3 + 30)) 3 (c2 59 (4 * a1 + 3)))) 59) (show 4 * k9 + 1 = 4 * a1 + 1 from congrArg (fun z : Int => 4 * z + 1) e_33)).trans ((up_n (by first | exact ne_aa (by decide) | omega)).trans ((up_n (by first | exact ne_aa (by decide) | omega)).trans (up_e rfl)))
          have h_36 : (up (up (up (up c2 59 (4 * a1) (fal (c 49 (c 62 v3)) (c2 59 (c 62 v3 + 30)) 0 (c2 59 (4 * a1)))) 59 (4 * a1 + 1) (fal (c 49 (c 62 v3)) (c2 59 (c 62 v3 + 30)) 1 (c2 59 (4 * a1 + 1)))) 59 (4 * a1 + 2) (fal (c 49 (c 62 v3)) (c2 59 (c 62 v3 + 30)) 2 (c2 59 (4 * a1 + 2)))) 59 (4 * a1 + 3) (fal (c 49 (c 62 v3)) (c2 59 (c 62 v3 + 30)) 3 (c2 59 (4 * a1 + 3)))) 59 (4 * k9 + 2) = (fal (c 49 (c 62 v3)) (c2 59 (c 62 v3 + 30)) 2 (c2 59 (4 * a1 + 2))) := (congrArg ((up (up (up (up c2 59 (4 * a1) (fal (c 49 (c 62 v3)) (c2 59 (c 62 v3 + 30)) 0 (c2 59 (4 * a1)))) 59 (4 * a1 + 1) (fal (c 49 (c 62 v3)) (c2 59 (c 62 v3 + 30)) 1 (c2 59 (4 * a1 + 1)))) 59 (4 * a1 + 2) (fal (c 49 (c 62 v3)) (c2 59 (c 62 v3 + 30)) 2 (c2 59 (4 * a1 + 2)))) 59 (4 * a1 + 3) (fal (c 49 (c 62 v3)) (c2 59 (c 62 v3 + 30)) 3 (c2 59 (4 * a1 + 3)))) 59) (show 4 * k9 + 2 = 4 * a1 + 2 from congrArg (fun z : Int => 4 * z + 2) e_33)).trans ((up_n (by first | exact ne_aa (by decide) | omega)).trans (up_e rfl))
          have h_37 : (up (up (up (up c2 59 (4 * a1) (fal (c 49 (c 62 v3)) (c2 59 (c 62 v3 + 30)) 0 (c2 59 (4 * a1)))) 59 (4 * a1 + 1) (fal (c 49 (c 62 v3)) (c2 59 (c 62 v3 + 30)) 1 (c2 59 (4 * a1 + 1)))) 59 (4 * a1 + 2) (fal (c 49 (c 62 v3)) (c2 59 (c 62 v3 + 30)) 2 (c2 59 (4 * a1 + 2)))) 59 (4 * a1 + 3) (fal (c 49 (c 62 v3)) (c2 59 (c 62 v3 + 30)) 3 (c2 59 (4 * a1 + 3)))) 59 (4 * k9 + 3) = (fal (c 49 (c 62 v3)) (c2 59 (c 62 v3 + 30)) 3 (c2 59 (4 * a1 + 3))) := (congrArg ((up (up (up (up c2 59 (4 * a1) (fal (c 49 (c 62 v3)) (c2 59 (c 62 v3 + 30)) 0 (c2 59 (4 * a1)))) 59 (4 * a1 + 1) (fal (c 49 (c 62 v3)) (c2 59 (c 62 v3 + 30)) 1 (c2 59 (4 * a1 + 1)))) 59 (4 * a1 + 2) (fal (c 49 (c 62 v3)) (c2 59 (c 62 v3 + 30)) 2 (c2 59 (4 * a1 + 2)))) 59 (4 * a1 + 3) (fal (c 49 (c 62 v3)) (c2 59 (c 62 v3 + 30)) 3 (c2 59 (4 * a1 + 3)))) 59) (show 4 * k9 + 3 = 4 * a1 + 3 from congrArg (fun z : Int => 4 * z + 3) e_33)).trans (up_e rfl)
          exact sm4 h_34 h_35 h_36 h_37 (by first | exact q_711100589 h_24 h_26 h_28 h_30 hsum_2 | omega)
        have h_38 := iv_r hI2 59 (4 * k9) hj9 (by omega)
        have h_39 := ir_59_g hI2 (j := 4 * k9) (by first | exact q_9f1d5ffdc hk9 | omega)
        have h_40 : (up (up (up (up c2 59 (4 * a1) (fal (c 49 (c 62 v3)) (c2 59 (c 62 v3 + 30)) 0 (c2 59 (4 * a1)))) 59 (4 * a1 + 1) (fal (c 49 (c 62 v3)) (c2 59 (c 62 v3 + 30)) 1 (c2 59 (4 * a1 + 1)))) 59 (4 * a1 + 2) (fal (c 49 (c 62 v3)) (c2 59 (c 62 v3 + 30)) 2 (c2 59 (4 * a1 + 2)))) 59 (4 * a1 + 3) (fal (c 49 (c 62 v3)) (c2 59 (c 62 v3 + 30)) 3 (c2 59 (4 * a1 + 3)))) 59 (4 * k9) = c2 59 (4 * k9) := ((up_n (by first | exact q_8ac71c5f3 | omega)).trans ((up_n (by first | exact q_c037f51da | omega)).trans ((up_n (by first | exact q_b2cb8bf87 | omega)).trans (up_n (by first | exact q_336fb6678 e_33 | omega)))))
        have h_41 := ir_59_g hI2 (j := 4 * k9 + 1) (by first | exact q_0a2ee6f8f hk9 | omega)
        have h_42 : (up (up (up (up c2 59 (4 * a1) (fal (c 49 (c 62 v3)) (c2 59 (c 62 v3 + 30)) 0 (c2 59 (4 * a1)))) 59 (4 * a1 + 1) (fal (c 49 (c 62 v3)) (c2 59 (c 62 v3 + 30)) 1 (c2 59 (4 * a1 + 1)))) 59 (4 * a1 + 2) (fal (c 49 (c 62 v3)) (c2 59 (c 62 v3 + 30)) 2 (c2 59 (4 * a1 + 2)))) 59 (4 * a1 + 3) (fal (c 49 (c 62 v3)) (c2 59 (c 62 v3 + 30)) 3 (c2 59 (4 * a1 + 3)))) 59 (4 * k9 + 1) = c2 59 (4 * k9 + 1) := ((up_n (by first | exact q_7c6b1b09a | omega)).trans ((up_n (by first | exact q_3650b790c | omega)).trans ((up_n (by first | exact q_52b51d728 e_33 | omega)).trans (up_n (by first | exact q_e5bcc673e | omega)))))
        have h_43 := ir_59_g hI2 (j := 4 * k9 + 2) (by first | exact q_e07a293a2 hk9 | omega)
        have h_44 : (up (up (up (up c2 59 (4 * a1) (fal (c 49 (c 62 v3)) (c2 59 (c 62 v3 + 30)) 0 (c2 59 (4 * a1)))) 59 (4 * a1 + 1) (fal (c 49 (c 62 v3)) (c2 59 (c 62 v3 + 30)) 1 (c2 59 (4 * a1 + 1)))) 59 (4 * a1 + 2) (fal (c 49 (c 62 v3)) (c2 59 (c 62 v3 + 30)) 2 (c2 59 (4 * a1 + 2)))) 59 (4 * a1 + 3) (fal (c 49 (c 62 v3)) (c2 59 (c 62 v3 + 30)) 3 (c2 59 (4 * a1 + 3)))) 59 (4 * k9 + 2) = c2 59 (4 * k9 + 2) := ((up_n (by first | exact q_91c5bd343 | omega)).trans ((up_n (by first | exact q_27892e29e e_33 | omega)).trans ((up_n (by first | exact q_08c3d7060 | omega)).trans (up_n (by first | exact q_ae83e86ba | omega)))))
        have h_45 := ir_59_g hI2 (j := 4 * k9 + 3) (by first | exact q_d09cb0b73 hk9 | omega)
        have h_46 : (up (up (up (up c2 59 (4 * a1) (fal (c 49 (c 62 v3)) (c2 59 (c 62 v3 + 30)) 0 (c2 59 (4 * a1)))) 59 (4 * a1 + 1) (fal (c 49 (c 62 v3)) (c2 59 (c 62 v3 + 30)) 1 (c2 59 (4 * a1 + 1)))) 59 (4 * a1 + 2) (fal (c 49 (c 62 v3)) (c2 59 (c 62 v3 + 30)) 2 (c2 59 (4 * a1 + 2)))) 59 (4 * a1 + 3) (fal (c 49 (c 62 v3)) (c2 59 (c 62 v3 + 30)) 3 (c2 59 (4 * a1 + 3)))) 59 (4 * k9 + 3) = c2 59 (4 * k9 + 3) := ((up_n (by first | exact q_2db9f474b e_33 | omega)).trans ((up_n (by first | exact q_28d70e8e5 | omega)).trans ((up_n (by first | exact q_6d5c6886e | omega)).trans (up_n (by first | exact q_b6789388a | omega)))))
        exact sm4 h_40 h_42 h_44 h_46 h_38
      have hI_47 := iv_close hI_31 hr_32
      refine Wp_ls [(0, .ref 41), (1, vi a1), (2, vi a2), (3, vi (v3 + 1))] (lsub_cons rfl (lsub_cons rfl (lsub_cons rfl (lsub_cons rfl lsub_nil)))) ?_
      exact ih (up (up (up (up c2 59 (4 * a1) (fal (c 49 (c 62 v3)) (c2 59 (c 62 v3 + 30)) 0 (c2 59 (4 * a1)))) 59 (4 * a1 + 1) (fal (c 49 (c 62 v3)) (c2 59 (c 62 v3 + 30)) 1 (c2 59 (4 * a1 + 1)))) 59 (4 * a1 + 2) (fal (c 49 (c 62 v3)) (c2 59 (c 62 v3 + 30)) 2 (c2 59 (4 * a1 + 2)))) 59 (4 * a1 + 3) (fal (c 49 (c 62 v3)) (c2 59 (c 62 v3 + 30)) 3 (c2 59 (4 * a1 + 3)))) (v3 + 1) hI_47 (fun a j hm => (up_b (Decidable.or_iff_not_imp_left.mpr (fun h1 h2 => hm (Or.inr (Or.inr (Decidable.not_not.mp h1)))))).trans ((up_b (Decidable.or_iff_not_imp_left.mpr (fun h1 h2 => hm (Or.inr (Or.inr (Decidable.not_not.mp h1)))))).trans ((up_b (Decidable.or_iff_not_imp_left.mpr (fun h1 h2 => hm (Or.inr (Or.inr (Decidable.not_not.mp h1)))))).trans ((up_b (Decidable.or_iff_not_imp_left.mpr (fun h1 h2 => hm (Or.inr (Or.inr (Decidable.not_not.mp h1)))))).trans (hF a j hm))))) ⟨by first | exact rgp_l hv3.1 (by decide) | omega, by first | (clear ha1 ha2 hv3 hx0 hx1 h_1 h_3 h_4 h_5 h_6 hsum_2 h_19 h_21 h_23 h_24 h_26 h_28 h_30; omega) | omega⟩ (by first | (clear ha1 ha2 hv3 hx1 hx2 h_1 h_3 h_4 h_5 h_6 hsum_2 h_7 h_19 h_21 h_23 h_24 h_26 h_28 h_30; omega) | omega) ⟨by first | (clear ha1 ha2 hv3 hx0 hx2 h_1 h_3 h_4 h_5 h_6 hsum_2 h_7 h_19 h_21 h_23 h_24 h_26 h_28 h_30; omega) | omega, by first | (clear ha1 ha2 hv3 hx0 hx2 h_1 h_3 h_4 h_5 h_6 hsum_2 h_7 h_19 h_21 h_23 h_24 h_26 h_28 h_30; omega) | omega⟩ ⟨by first | exact q_1fe14b988 h_7 hv3 | omega, by first | (clear ha1 ha2 hv3 hx0 hx1 h_1 h_3 h_4 h_5 h_6 hsum_2 h_7 h_19 h_21 h_23 h_24 h_26 h_28 h_30; omega) | omega⟩ (by omega)
set_option maxRecDepth 100000 in
set_option maxHeartbeats 4000000 in
theorem s_221 {sc : List Int32} {d P Q : Nat} {c : ME} {a1 : Int} {a2 : Int} {Z : AR → Prop} (hI : Iv 0 (-1) P Q c) (ha1 : (-2147483648) ≤ a1 ∧ a1 ≤ 2147483647) (ha2 : (-2147483648) ≤ a2 ∧ a2 ≤ 2147483647) (K : ∀ (c2 : ME) (y : Int), Iv 0 (-1) P Q c2 → (∀ (a : Nat) (j : Int), ¬ ((a = 41 ∧ j = 0) ∨ a = 42 ∨ a = 59) → c2 a j = c a j) → (-2147483648) ≤ y ∧ y ≤ 2147483647 → Z (.inl (some (vi y)), Wd P Q P P c2, 0, 0)) : Wp sc (d + 9) 221 0 [(0, .ref 41), (1, vi a1), (2, vi a2)] [] (Wd P Q P P c) 0 0 Z := by
  have hP := iv_P hI
  have hQ := iv_Q hI
  refine q_aload_n c_221_0 rfl (q_iconst c_221_1 (v_pi (z := 0) c_221_2 kf_8_3 rfl (nb_ rfl) rfl rfl rfl (by decide) (q_aload_n c_221_5 rfl (q_iload_n c_221_6 rfl (q_aload_n c_221_7 rfl ?_)))))
  have h_48 := ir_41_20 hI
  refine v_gi (z := 20) (v := c 41 20) c_221_8 kf_8_157 rfl (nb_ rfl) rfl rfl (up_n (by decide)) (v_cv c_221_11 km_8_396 rfl rfl (nb_ rfl) ⟨⟨rfl, rfl⟩, nb_ rfl, rfl⟩ (nb_ rfl) (nb_ rfl) (q_aload_n c_212_0 rfl (q_iload_n c_212_1 rfl (q_iconst c_212_2 (q_iload_n c_212_3 rfl (q_iconst c_212_4 (v_isub (v := c 41 20 - 1) c_212_5 rfl ?_)))))))
  refine q_call c_212_6 rfl rfl rfl (q_iload_n c_146_0 rfl (q_iload_n c_146_1 rfl ?_))
  by_cases h_49 : a1 < 0
  · refine v_ic_lt_t (t := 14) c_146_2 rfl ⟨ha1.1, h_49, by decide⟩ (q_iconst c_146_14 (v_zret c_146_15 rfl (by decide) (bk_inl (q_iconst c_212_9 (q_iconst c_212_10 (v_cv c_212_11 km_8_203 rfl rfl (nb_ rfl) ⟨⟨rfl, rfl⟩, nb_ rfl, rfl⟩ (nb_ rfl) (nb_ rfl) (q_iload_n c_145_0 rfl ?_)))))))
    refine v_if_ne_f (t := 26) c_145_1 rfl (by decide) (q_aload_n c_145_4 rfl (v_gi (z := 0) (v := 0) c_145_5 kf_8_3 rfl (nb_ rfl) rfl rfl (up_e rfl) (v_if_ne_f (t := 26) c_145_8 rfl (by decide) (q_aload_n c_145_11 rfl (q_iload_n c_145_12 rfl (v_pi (z := 0) c_145_13 kf_8_3 rfl (nb_ rfl) rfl rfl rfl (by decide) (q_aload_n c_145_16 rfl ?_)))))))
    refine v_gr (t := 42) c_145_17 kf_8_7 rfl (nb_ rfl) rfl (q_iload_n c_145_20 rfl (q_dup2 c_145_21 ⟨rfl, rfl⟩ ?_))
    have h_50 := ir_42 hI 0
    refine v_ia (v := c 42 0) c_145_22 rfl (by decide) (by decide) (by decide) ((up_c (nn rfl)).trans (up_c (nn rfl))) (q_iconst c_145_23 (v_iadd (v := c 42 0 + 1) c_145_24 rfl (v_nrm (fun y_51 hy_51 => (v_is c_145_25 rfl (by decide) (by decide) (by decide) (q_aload_n c_145_26 rfl (v_gi (z := 0) (v := 1) c_145_27 kf_8_3 rfl (nb_ rfl) rfl rfl ((up_c (nn rfl)).trans (up_e rfl)) (v_if_ne_t (t := 37) c_145_30 rfl (by decide) ?_))))))))
    refine q_iconst c_145_37 (v_zret c_145_38 rfl (by decide) (bk_inl (v_zret c_212_14 rfl (by decide) (bk_inl (v_if_eq_t (t := 35) c_221_14 rfl (by decide) (q_iconst c_221_35 (q_iret c_221_36 rfl ?_)))))))
    have hI_52 := iw_41_0 (v := 0) hI ⟨by decide, by decide⟩
    have hI_53 := iw_41_0 (v := 1) hI_52 ⟨by decide, by decide⟩
    have hI_54 := iw_42 (j := 0) (v := y_51) hI_53 ⟨hy_51.1, hy_51.2⟩
    exact K (up (up (up c 41 0 0) 41 0 1) 42 0 y_51) 0 hI_54 (fun a j hm => (up_b (Decidable.or_iff_not_imp_left.mpr (fun h1 h2 => hm (Or.inr (Or.inl (Decidable.not_not.mp h1)))))).trans ((up_b (Decidable.or_iff_not_imp_left.mpr (fun h1 h2 => hm (Or.inl ⟨Decidable.not_not.mp h1, h2⟩)))).trans (up_b (Decidable.or_iff_not_imp_left.mpr (fun h1 h2 => hm (Or.inl ⟨Decidable.not_not.mp h1, h2⟩)))))) ⟨by decide, by decide⟩
  · refine v_ic_lt_f (t := 14) c_146_2 rfl ⟨by decide, (Int.not_lt.mp h_49), ha1.2⟩ (q_iload_n c_146_5 rfl (q_iload_n c_146_6 rfl ?_))
    by_cases h_55 : a1 > c 41 20 - 1
    · refine v_ic_gt_t (t := 14) c_146_7 rfl ⟨by first | exact rgm_l h_48.1 (by decide) | omega, h_55, ha1.2⟩ (q_iconst c_146_14 (v_zret c_146_15 rfl (by decide) (bk_inl (q_iconst c_212_9 (q_iconst c_212_10 (v_cv c_212_11 km_8_203 rfl rfl (nb_ rfl) ⟨⟨rfl, rfl⟩, nb_ rfl, rfl⟩ (nb_ rfl) (nb_ rfl) (q_iload_n c_145_0 rfl ?_)))))))
      refine v_if_ne_f (t := 26) c_145_1 rfl (by decide) (q_aload_n c_145_4 rfl (v_gi (z := 0) (v := 0) c_145_5 kf_8_3 rfl (nb_ rfl) rfl rfl (up_e rfl) (v_if_ne_f (t := 26) c_145_8 rfl (by decide) (q_aload_n c_145_11 rfl (q_iload_n c_145_12 rfl (v_pi (z := 0) c_145_13 kf_8_3 rfl (nb_ rfl) rfl rfl rfl (by decide) (q_aload_n c_145_16 rfl ?_)))))))
      refine v_gr (t := 42) c_145_17 kf_8_7 rfl (nb_ rfl) rfl (q_iload_n c_145_20 rfl (q_dup2 c_145_21 ⟨rfl, rfl⟩ ?_))
      have h_56 := ir_42 hI 0
      refine v_ia (v := c 42 0) c_145_22 rfl (by decide) (by decide) (by decide) ((up_c (nn rfl)).trans (up_c (nn rfl))) (q_iconst c_145_23 (v_iadd (v := c 42 0 + 1) c_145_24 rfl (v_nrm (fun y_57 hy_57 => (v_is c_145_25 rfl (by decide) (by decide) (by decide) (q_aload_n c_145_26 rfl (v_gi (z := 0) (v := 1) c_145_27 kf_8_3 rfl (nb_ rfl) rfl rfl ((up_c (nn rfl)).trans (up_e rfl)) (v_if_ne_t (t := 37) c_145_30 rfl (by decide) ?_))))))))
      refine q_iconst c_145_37 (v_zret c_145_38 rfl (by decide) (bk_inl (v_zret c_212_14 rfl (by decide) (bk_inl (v_if_eq_t (t := 35) c_221_14 rfl (by decide) (q_iconst c_221_35 (q_iret c_221_36 rfl ?_)))))))
      have hI_58 := iw_41_0 (v := 0) hI ⟨by decide, by decide⟩
      have hI_59 := iw_41_0 (v := 1) hI_58 ⟨by decide, by decide⟩
      have hI_60 := iw_42 (j := 0) (v := y_57) hI_59 ⟨hy_57.1, hy_57.2⟩
      exact K (up (up (up c 41 0 0) 41 0 1) 42 0 y_57) 0 hI_60 (fun a j hm => (up_b (Decidable.or_iff_not_imp_left.mpr (fun h1 h2 => hm (Or.inr (Or.inl (Decidable.not_not.mp h1)))))).trans ((up_b (Decidable.or_iff_not_imp_left.mpr (fun h1 h2 => hm (Or.inl ⟨Decidable.not_not.mp h1, h2⟩)))).trans (up_b (Decidable.or_iff_not_imp_left.mpr (fun h1 h2 => hm (Or.inl ⟨Decidable.not_not.mp h1, h2⟩)))))) ⟨by decide, by decide⟩
    · refine v_ic_gt_f (t := 14) c_146_7 rfl ⟨ha1.1, (Int.not_lt.mp h_55), by first | exact rgm_h h_48.2 (by decide) | omega⟩ (q_iconst c_146_10 (q_goto (t := 15) c_146_11 rfl (v_zret c_146_15 rfl (by decide) (bk_inl (q_iconst c_212_9 (q_iconst c_212_10 (v_cv c_212_11 km_8_203 rfl rfl (nb_ rfl) ⟨⟨rfl, rfl⟩, nb_ rfl, rfl⟩ (nb_ rfl) (nb_ rfl) ?_)))))))
      refine q_iload_n c_145_0 rfl (v_if_ne_t (t := 26) c_145_1 rfl (by decide) (q_aload_n c_145_26 rfl (v_gi (z := 0) (v := 0) c_145_27 kf_8_3 rfl (nb_ rfl) rfl rfl (up_e rfl) (v_if_ne_f (t := 37) c_145_30 rfl (by decide) (q_iconst c_145_33 (q_goto (t := 38) c_145_34 rfl (v_zret c_145_38 rfl (by decide) ?_)))))))
      refine bk_inl (v_zret c_212_14 rfl (by decide) (bk_inl (v_if_eq_f (t := 35) c_221_14 rfl (by decide) (q_aload_n c_221_17 rfl (q_iload_n c_221_18 rfl ?_)))))
      by_cases h_61 : a2 < 0
      · refine v_if_lt_t (t := 26) c_221_19 rfl ⟨ha2.1, h_61, by decide⟩ (q_iconst c_221_26 (q_iconst c_221_27 (q_iconst c_221_28 (v_cv c_221_29 km_8_203 rfl rfl (nb_ rfl) ⟨⟨rfl, rfl⟩, nb_ rfl, rfl⟩ (nb_ rfl) (nb_ rfl) (q_iload_n c_145_0 rfl (v_if_ne_f (t := 26) c_145_1 rfl (by decide) (q_aload_n c_145_4 rfl ?_)))))))
        refine v_gi (z := 0) (v := 0) c_145_5 kf_8_3 rfl (nb_ rfl) rfl rfl (up_e rfl) (v_if_ne_f (t := 26) c_145_8 rfl (by decide) (q_aload_n c_145_11 rfl (q_iload_n c_145_12 rfl (v_pi (z := 0) c_145_13 kf_8_3 rfl (nb_ rfl) rfl rfl rfl (by decide) (q_aload_n c_145_16 rfl (v_gr (t := 42) c_145_17 kf_8_7 rfl (nb_ rfl) rfl (q_iload_n c_145_20 rfl ?_)))))))
        refine q_dup2 c_145_21 ⟨rfl, rfl⟩ ?_
        have h_62 := ir_42 hI 1
        refine v_ia (v := c 42 1) c_145_22 rfl (by decide) (by decide) (by decide) ((up_c (nn rfl)).trans (up_c (nn rfl))) (q_iconst c_145_23 (v_iadd (v := c 42 1 + 1) c_145_24 rfl (v_nrm (fun y_63 hy_63 => (v_is c_145_25 rfl (by decide) (by decide) (by decide) (q_aload_n c_145_26 rfl (v_gi (z := 0) (v := 2) c_145_27 kf_8_3 rfl (nb_ rfl) rfl rfl ((up_c (nn rfl)).trans (up_e rfl)) (v_if_ne_t (t := 37) c_145_30 rfl (by decide) ?_))))))))
        refine q_iconst c_145_37 (v_zret c_145_38 rfl (by decide) (bk_inl (v_if_ne_f (t := 37) c_221_32 rfl (by decide) (q_iconst c_221_35 (q_iret c_221_36 rfl ?_)))))
        have hI_64 := iw_41_0 (v := 0) hI ⟨by decide, by decide⟩
        have hI_65 := iw_41_0 (v := 2) hI_64 ⟨by decide, by decide⟩
        have hI_66 := iw_42 (j := 1) (v := y_63) hI_65 ⟨hy_63.1, hy_63.2⟩
        exact K (up (up (up c 41 0 0) 41 0 2) 42 1 y_63) 0 hI_66 (fun a j hm => (up_b (Decidable.or_iff_not_imp_left.mpr (fun h1 h2 => hm (Or.inr (Or.inl (Decidable.not_not.mp h1)))))).trans ((up_b (Decidable.or_iff_not_imp_left.mpr (fun h1 h2 => hm (Or.inl ⟨Decidable.not_not.mp h1, h2⟩)))).trans (up_b (Decidable.or_iff_not_imp_left.mpr (fun h1 h2 => hm (Or.inl ⟨Decidable.not_not.mp h1, h2⟩)))))) ⟨by decide, by decide⟩
      · refine v_if_lt_f (t := 26) c_221_19 rfl ⟨by decide, (Int.not_lt.mp h_61), ha2.2⟩ (q_iconst c_221_22 (q_goto (t := 27) c_221_23 rfl (q_iconst c_221_27 (q_iconst c_221_28 (v_cv c_221_29 km_8_203 rfl rfl (nb_ rfl) ⟨⟨rfl, rfl⟩, nb_ rfl, rfl⟩ (nb_ rfl) (nb_ rfl) (q_iload_n c_145_0 rfl (v_if_ne_t (t := 26) c_145_1 rfl (by decide) ?_)))))))
        refine q_aload_n c_145_26 rfl (v_gi (z := 0) (v := 0) c_145_27 kf_8_3 rfl (nb_ rfl) rfl rfl (up_e rfl) (v_if_ne_f (t := 37) c_145_30 rfl (by decide) (q_iconst c_145_33 (q_goto (t := 38) c_145_34 rfl (v_zret c_145_38 rfl (by decide) (bk_inl (v_if_ne_t (t := 37) c_221_32 rfl (by decide) ?_)))))))
        refine q_iload_n c_221_37 rfl (q_aload_n c_221_38 rfl ?_)
        have h_67 := ir_41_47 hI
        refine v_gi (z := 47) (v := c 41 47) c_221_39 kf_8_176 rfl (nb_ rfl) rfl rfl (up_n (by decide)) ?_
        by_cases h_68 : a2 ≤ c 41 47
        · refine v_ic_le_t (t := 47) c_221_42 rfl ⟨ha2.1, h_68, (Int.le_trans h_67.2 (by decide))⟩ (q_aload_n c_221_47 rfl ?_)
          have hI_69 := iw_41_0 (v := 0) hI ⟨by decide, by decide⟩
          refine v_cv c_221_48 km_8_317 rfl rfl (nb_ rfl) ⟨⟨rfl, rfl⟩, nb_ rfl, rfl⟩ (nb_ rfl) (nb_ rfl) (s_186 hI_69 (fun c_70 hI_71 hF_72 => (bk_inl (q_iconst c_221_51 (q_istore_n c_221_52 (nb_ rfl) (Wp_ls [(0, .ref 41), (1, vi a1), (2, vi a2), (3, vi 0)] (lsub_cons rfl (lsub_cons rfl (lsub_cons rfl (lsub_cons rfl lsub_nil)))) ?_))))))
          exact (s_221_l (sc := sc) (d := d) hI ha1 ha2 K 20) c_70 0 hI_71 (fun a j hm => (hF_72 a j (fun h => hm (Or.inr (Or.inr h)))).trans (up_b (Decidable.or_iff_not_imp_left.mpr (fun h1 h2 => hm (Or.inl ⟨Decidable.not_not.mp h1, h2⟩))))) ⟨by decide, by decide⟩ (by first | exact q_514734711 h_68 | omega) ⟨by first | exact q_720657ba9 h_49 | omega, by first | exact q_3a2e67ab0 h_48 h_55 | omega⟩ ⟨by first | exact q_720657ba9 h_61 | omega, by first | exact q_a748dd594 h_67 h_68 | omega⟩ (by omega)
        · refine v_ic_le_f (t := 47) c_221_42 rfl ⟨(Int.le_trans (by decide) h_67.1), (Int.not_le.mp h_68), ha2.2⟩ (q_iconst c_221_45 (q_iret c_221_46 rfl ?_))
          have hI_73 := iw_41_0 (v := 0) hI ⟨by decide, by decide⟩
          exact K (up c 41 0 0) (-1) hI_73 (fun a j hm => up_b (Decidable.or_iff_not_imp_left.mpr (fun h1 h2 => hm (Or.inl ⟨Decidable.not_not.mp h1, h2⟩)))) ⟨by decide, by decide⟩

set_option maxRecDepth 100000 in
set_option maxHeartbeats 4000000 in
theorem s_223_l {sc : List Int32} {e : Int} {d u P Q : Nat} {c : ME} {a1 : Int} {Z : AR → Prop} (hI : Iv u e P Q c) (ha1 : (-2147483648) ≤ a1 ∧ a1 ≤ 2147483647) (K : ∀ (y : Int), (-2147483648) ≤ y ∧ y ≤ 2147483647 → Z (.inl (some (vi y)), Wd P Q P P c, 0, 0)) : ∀ n : Nat, (∀ (v2 : Int) (v3 : Int), (-2147483648) ≤ v2 ∧ v2 ≤ 2147483647 → 0 ≤ v3 ∧ v3 ≤ 6 → 13 - 2 * v3 < (n : Int) → Wp sc (d + 8) 223 4 [(0, .ref 41), (1, vi a1), (2, vi v2), (3, vi v3)] [] (Wd P Q P P c) 0 0 Z) := by
  intro n
  induction n with
  | zero => exact (by intro v2 v3 hv2 hv3 hm9; have hP := iv_P hI; have hQ := iv_Q hI; exfalso; omega)
  | succ n ih =>
    have hP := iv_P hI
    have hQ := iv_Q hI
    intro v2 v3 hv2 hv3 hm9
    refine q_iload_n c_223_4 rfl (q_aload_n c_223_5 rfl ?_)
    have h_1 := ir_41_20 hI
    refine v_gi (z := 20) (v := c 41 20) c_223_6 kf_8_157 rfl (nb_ rfl) rfl rfl rfl ?_
    by_cases h_2 : v3 ≥ c 41 20
    · refine v_ic_ge_t (t := 32) c_223_9 rfl ⟨(Int.le_trans (by decide) h_1.1), h_2, (Int.le_trans hv3.2 (by decide))⟩ (q_iload_n c_223_32 rfl (q_iret c_223_33 rfl ?_))
      exact K v2 hv2
    · refine v_ic_ge_f (t := 32) c_223_9 rfl ⟨(Int.le_trans (by decide) hv3.1), (Int.not_le.mp h_2), (Int.le_trans h_1.2 (by decide))⟩ (q_iload_n c_223_12 rfl (q_iload_n c_223_13 rfl (q_iload_n c_223_14 rfl (v_ishrx c_223_15 (fun y_3 hy_3 => (q_iconst c_223_16 (v_iandx c_223_17 (fun y_4 hy_4 => (q_aload_n c_223_18 rfl ?_)))))))))
      refine q_iload_n c_223_19 rfl ?_
      have h_5 := ir_59_g hI (j := 4 * v3) (by first | exact q_aa51b186e h_1 h_2 | omega)
      have h_6 := ir_59_g hI (j := 4 * v3 + 1) (by first | exact q_57851f9de h_1 h_2 | omega)
      have h_7 := ir_59_g hI (j := 4 * v3 + 2) (by first | exact q_7296e74e6 h_1 h_2 | omega)
      have h_8 := ir_59_g hI (j := 4 * v3 + 3) (by first | exact q_b15525c4c h_1 h_2 | omega)
      refine v_cv c_223_20 km_8_343 rfl rfl (nb_ rfl) ⟨⟨rfl, rfl⟩, nb_ rfl, rfl⟩ (nb_ rfl) (nb_ rfl) (s_187 (v1 := c 59 (4 * v3)) (v2 := c 59 (4 * v3 + 1)) (v3 := c 59 (4 * v3 + 2)) (v4 := c 59 (4 * v3 + 3)) (r := c 59 (4 * v3 + 1) + c 59 (4 * v3 + 2) + c 59 (4 * v3 + 3) + c 59 (4 * v3)) (a1 := v3) hI (show 0 ≤ v3 ∧ v3 ≤ 5 from ⟨hv3.1, by first | exact q_d63a8538e h_1 h_2 | omega⟩) (rfl) (rfl) (rfl) (rfl) (by omega) (bk_inl (v_imul (v := (y_4 * (c 59 (4 * v3 + 1) + c 59 (4 * v3 + 2) + c 59 (4 * v3 + 3) + c 59 (4 * v3)))) rfl rfl (v_nrm (fun y_9 hy_9 => (v_iadd (v := v2 + y_9) c_223_24 rfl (v_nrm (fun y_10 hy_10 => (q_istore_n c_223_25 (nb_ rfl) (v_iinc (v := v3 + 1) c_223_26 rfl (nb_ rfl) rfl ?_))))))))))
      refine q_goto (t := 4) c_223_29 rfl (Wp_ls [(0, .ref 41), (1, vi a1), (2, vi y_10), (3, vi (v3 + 1))] (lsub_cons rfl (lsub_cons rfl (lsub_cons rfl (lsub_cons rfl lsub_nil)))) ?_)
      exact ih y_10 (v3 + 1) hy_10 ⟨by first | exact rgp_l hv3.1 (by decide) | omega, by first | exact q_4a76cd9c7 h_1 h_2 | omega⟩ (by omega)
set_option maxRecDepth 100000 in
set_option maxHeartbeats 4000000 in
theorem s_223 {sc : List Int32} {e : Int} {d u P Q : Nat} {c : ME} {a1 : Int} {Z : AR → Prop} (hI : Iv u e P Q c) (ha1 : (-2147483648) ≤ a1 ∧ a1 ≤ 2147483647) (K : ∀ (y : Int), (-2147483648) ≤ y ∧ y ≤ 2147483647 → Z (.inl (some (vi y)), Wd P Q P P c, 0, 0)) : Wp sc (d + 8) 223 0 [(0, .ref 41), (1, vi a1)] [] (Wd P Q P P c) 0 0 Z := by
  have hP := iv_P hI
  have hQ := iv_Q hI
  refine q_iconst c_223_0 (q_istore_n c_223_1 (nb_ rfl) (q_iconst c_223_2 (q_istore_n c_223_3 (nb_ rfl) (Wp_ls [(0, .ref 41), (1, vi a1), (2, vi 0), (3, vi 0)] (lsub_cons rfl (lsub_cons rfl (lsub_cons rfl (lsub_cons rfl lsub_nil)))) ?_))))
  exact (s_223_l (sc := sc) (d := d) hI ha1 K 16) 0 0 ⟨by decide, by decide⟩ ⟨by decide, by decide⟩ (by omega)

set_option maxRecDepth 100000 in
set_option maxHeartbeats 4000000 in
theorem s_224_l {sc : List Int32} {e : Int} {d u P Q : Nat} {c : ME} {a1 : Int} {Z : AR → Prop} (hI : Iv u e P Q c) (ha1 : (-2147483648) ≤ a1 ∧ a1 ≤ 2147483647) (K : ∀ (c2 : ME) (y : Int), Iv u e P Q c2 → (∀ (a : Nat) (j : Int), ¬ (a = 54 ∨ a = 55) → c2 a j = c a j) → (-2147483648) ≤ y ∧ y ≤ 2147483647 → Z (.inl (some (vi y)), Wd P Q P P c2, 0, 0)) : ∀ n : Nat, (∀ (c2 : ME) (v2 : Int) (v3 : Int), Iv u e P Q c2 → (∀ (a : Nat) (j : Int), ¬ (a = 54 ∨ a = 55) → c2 a j = c a j) → (-2147483648) ≤ v2 ∧ v2 ≤ 2147483647 → 0 ≤ v3 ∧ v3 ≤ 6 → 13 - 2 * v3 < (n : Int) → Wp sc (d + 12) 224 4 [(0, .ref 41), (1, vi a1), (2, vi v2), (3, vi v3)] [] (Wd P Q P P c2) 0 0 Z) := by
  intro n
  induction n with
  | zero => exact (by intro c2 v2 v3 hI2 hF hv2 hv3 hm9; have hP := iv_P hI; have hQ := iv_Q hI; exfalso; omega)
  | succ n ih =>
    have hP := iv_P hI
    have hQ := iv_Q hI
    intro c2 v2 v3 hI2 hF hv2 hv3 hm9
    refine q_iload_n c_224_4 rfl (q_aload_n c_224_5 rfl ?_)
    have h_1 := ir_41_20 hI
    have kn_2 : Hid (c2 41 20 = c 41 20) := hF 41 20 (fun q => q.elim (fun h => absurd h (nn rfl)) (fun h => absurd h (nn rfl)))
    refine v_gi (z := 20) (v := c 41 20) c_224_6 kf_8_157 rfl (nb_ rfl) rfl rfl (hid kn_2) ?_
    by_cases h_3 : v3 ≥ c 41 20
    · refine v_ic_ge_t (t := 32) c_224_9 rfl ⟨by first | exact q_730ab5169 h_1 | omega, h_3, (Int.le_trans hv3.2 (by decide))⟩ (q_iload_n c_224_32 rfl (q_iret c_224_33 rfl ?_))
      exact K c2 v2 hI2 (fun a j hm => hF a j hm) hv2
    · refine v_ic_ge_f (t := 32) c_224_9 rfl ⟨(Int.le_trans (by decide) hv3.1), (Int.not_le.mp h_3), by first | exact q_b289b7db2 h_1 | omega⟩ (q_iload_n c_224_12 rfl (q_iload_n c_224_13 rfl (q_iload_n c_224_14 rfl (v_ishrx c_224_15 (fun y_4 hy_4 => (q_iconst c_224_16 (v_iandx c_224_17 (fun y_5 hy_5 => (q_aload_n c_224_18 rfl ?_)))))))))
      refine q_iload_n c_224_19 rfl (v_cv c_224_20 km_8_375 rfl rfl (nb_ rfl) ⟨⟨rfl, rfl⟩, nb_ rfl, rfl⟩ (nb_ rfl) (nb_ rfl) (s_196 (a1 := v3) hI2 (show 0 ≤ v3 ∧ v3 ≤ 5 from ⟨hv3.1, by first | exact q_d63a8538e h_1 h_3 | omega⟩) (fun c_6 y_9 hI_7 hF_8 hy_9 => (bk_inl (v_imul (v := (y_5 * y_9)) c_224_23 rfl (v_nrm (fun y_10 hy_10 => (v_iadd (v := v2 + y_10) c_224_24 rfl (v_nrm (fun y_11 hy_11 => (q_istore_n c_224_25 (nb_ rfl) ?_)))))))))))
      refine v_iinc (v := v3 + 1) c_224_26 rfl (nb_ rfl) rfl (q_goto (t := 4) c_224_29 rfl (Wp_ls [(0, .ref 41), (1, vi a1), (2, vi y_11), (3, vi (v3 + 1))] (lsub_cons rfl (lsub_cons rfl (lsub_cons rfl (lsub_cons rfl lsub_nil)))) ?_))
      exact ih c_6 y_11 (v3 + 1) hI_7 (fun a j hm => (hF_8 a j hm).trans (hF a j hm)) hy_11 ⟨by first | exact rgp_l hv3.1 (by decide) | omega, by first | exact q_4a76cd9c7 h_1 h_3 | omega⟩ (by omega)
set_option maxRecDepth 100000 in
set_option maxHeartbeats 4000000 in
theorem s_224 {sc : List Int32} {e : Int} {d u P Q : Nat} {c : ME} {a1 : Int} {Z : AR → Prop} (hI : Iv u e P Q c) (ha1 : (-2147483648) ≤ a1 ∧ a1 ≤ 2147483647) (K : ∀ (c2 : ME) (y : Int), Iv u e P Q c2 → (∀ (a : Nat) (j : Int), ¬ (a = 54 ∨ a = 55) → c2 a j = c a j) → (-2147483648) ≤ y ∧ y ≤ 2147483647 → Z (.inl (some (vi y)), Wd P Q P P c2, 0, 0)) : Wp sc (d + 12) 224 0 [(0, .ref 41), (1, vi a1)] [] (Wd P Q P P c) 0 0 Z := by
  have hP := iv_P hI
  have hQ := iv_Q hI
  refine q_iconst c_224_0 (q_istore_n c_224_1 (nb_ rfl) (q_iconst c_224_2 (q_istore_n c_224_3 (nb_ rfl) (Wp_ls [(0, .ref 41), (1, vi a1), (2, vi 0), (3, vi 0)] (lsub_cons rfl (lsub_cons rfl (lsub_cons rfl (lsub_cons rfl lsub_nil)))) ?_))))
  exact (s_224_l (sc := sc) (d := d) hI ha1 K 16) c 0 0 hI (fun a j hm => rfl) ⟨by decide, by decide⟩ ⟨by decide, by decide⟩ (by omega)

set_option maxRecDepth 100000 in
set_option maxHeartbeats 4000000 in
theorem s_226 {sc : List Int32} {e : Int} {d u P Q : Nat} {c : ME} {a1 : Int} {a2 : Int} {Z : AR → Prop} (hI : Iv u e P Q c) (ha1 : (-2147483648) ≤ a1 ∧ a1 ≤ 2147483647) (ha2 : (-2147483648) ≤ a2 ∧ a2 ≤ 2147483647) (K : ∀ (y : Int), (-2147483648) ≤ y ∧ y ≤ 2147483647 → Z (.inl (some (vi y)), Wd P Q P P c, 0, 0)) : Wp sc (d + 9) 226 0 [(0, .ref 41), (1, vi a1), (2, vi a2)] [] (Wd P Q P P c) 0 0 Z := by
  have hP := iv_P hI
  have hQ := iv_Q hI
  refine q_iconst c_226_0 (q_aload_n c_226_1 rfl (q_iload_n c_226_2 rfl (v_cv c_226_3 km_8_408 rfl rfl (nb_ rfl) ⟨⟨rfl, rfl⟩, nb_ rfl, rfl⟩ (nb_ rfl) (nb_ rfl) (s_223 (a1 := a2) hI (show (-2147483648) ≤ a2 ∧ a2 ≤ 2147483647 from ha2) (fun y_1 hy_1 => (bk_inl (v_imul (v := 2 * y_1) c_226_6 rfl (v_nrm (fun y_2 hy_2 => (q_aload_n c_226_7 rfl ?_))))))))))
  refine q_iload_n c_226_8 rfl (v_cv c_226_9 km_8_408 rfl rfl (nb_ rfl) ⟨⟨rfl, rfl⟩, nb_ rfl, rfl⟩ (nb_ rfl) (nb_ rfl) (s_223 (a1 := a1) hI (show (-2147483648) ≤ a1 ∧ a1 ≤ 2147483647 from ha1) (fun y_3 hy_3 => (bk_inl (v_isub (v := y_2 - y_3) c_226_12 rfl (v_nrm (fun y_4 hy_4 => (q_call c_226_13 rfl rfl rfl (q_iload_n c_225_0 rfl ?_)))))))))
  by_cases h_5 : y_4 ≥ 0
  · refine v_if_ge_t (t := 9) c_225_1 rfl ⟨by decide, h_5, hy_4.2⟩ (q_iload_n c_225_9 rfl (q_iret c_225_10 rfl (bk_inl (q_iret c_226_16 rfl ?_))))
    exact K y_4 hy_4
  · refine v_if_ge_f (t := 9) c_225_1 rfl ⟨hy_4.1, (Int.not_le.mp h_5), by decide⟩ (q_iload_n c_225_4 rfl (v_ineg (v := 0 - y_4) c_225_5 (by omega) (v_nrm (fun y_6 hy_6 => (q_goto (t := 10) c_225_6 rfl (q_iret c_225_10 rfl (bk_inl (q_iret c_226_16 rfl ?_))))))))
    exact K y_6 hy_6

set_option maxRecDepth 100000 in
set_option maxHeartbeats 4000000 in
theorem s_227_l {sc : List Int32} {d P Q : Nat} {c : ME} {a1 : Int} {a2 : Int} {Z : AR → Prop} (hI : Iv 0 (-1) P Q c) (ha1 : (-2147483648) ≤ a1 ∧ a1 ≤ 2147483647) (ha2 : (-2147483648) ≤ a2 ∧ a2 ≤ 2147483647) (K : ∀ (c2 : ME) (y : Int), Iv 0 (-1) P Q c2 → (∀ (a : Nat) (j : Int), ¬ ((a = 41 ∧ j = 0) ∨ a = 42 ∨ a = 59) → c2 a j = c a j) → (-2147483648) ≤ y ∧ y ≤ 2147483647 → Z (.inl (some (vi y)), Wd P Q P P c2, 0, 0)) : ∀ n : Nat, (∀ (c2 : ME) (v3 : Int) (v4 : Int) (v5 : Int), Iv 0 (-1) P Q c2 → (∀ (a : Nat) (j : Int), ¬ ((a = 41 ∧ j = 0) ∨ a = 42 ∨ a = 59) → c2 a j = c a j) → (-2147483648) ≤ v3 ∧ v3 ≤ 2147483647 → (-1) ≤ v4 ∧ v4 ≤ 64 → 1 ≤ v5 ∧ v5 ≤ 64 → ((a1 ≥ 0 ∧ a1 ≤ 63)) → 129 - 2 * v5 < (n : Int) → Wp sc (d + 10) 227 59 [(0, .ref 41), (1, vi a1), (2, vi a2), (3, vi v3), (4, vi v4), (5, vi v5)] [] (Wd P Q P P c2) 0 0 Z) := by
  intro n
  induction n with
  | zero => exact (by intro c2 v3 v4 v5 hI2 hF hv3 hv4 hv5 hx0 hm9; have hP := iv_P hI; have hQ := iv_Q hI; exfalso; omega)
  | succ n ih =>
    have hP := iv_P hI
    have hQ := iv_Q hI
    intro c2 v3 v4 v5 hI2 hF hv3 hv4 hv5 hx0 hm9
    refine q_iload c_227_59 rfl (q_iload_n c_227_61 rfl ?_)
    by_cases h_1 : v5 > a1
    · refine v_ic_gt_t (t := 117) c_227_62 rfl ⟨ha1.1, h_1, (Int.le_trans hv5.2 (by decide))⟩ (q_iload_n c_227_117 rfl ?_)
      by_cases h_2 : a2 ≠ 0
      · refine v_if_ne_t (t := 131) c_227_118 rfl ⟨h_2, ⟨ha2.1, ha2.2⟩, by decide, by decide⟩ (q_iload c_227_131 rfl (q_iret c_227_133 rfl ?_))
        exact K c2 v4 hI2 (fun a j hm => hF a j hm) ⟨(Int.le_trans (by decide) hv4.1), (Int.le_trans hv4.2 (by decide))⟩
      · refine v_if_ne_f (t := 131) c_227_118 rfl (Decidable.not_not.mp h_2) (q_aload_n c_227_121 rfl (q_iload_n c_227_122 rfl (q_iload c_227_123 rfl (v_cv c_227_125 km_8_405 rfl rfl (nb_ rfl) ⟨⟨rfl, rfl⟩, nb_ rfl, rfl⟩ (nb_ rfl) (nb_ rfl) (s_226 (a1 := a1) (a2 := v4) hI2 (show (-2147483648) ≤ a1 ∧ a1 ≤ 2147483647 from ha1) (show (-2147483648) ≤ v4 ∧ v4 ≤ 2147483647 from ⟨(Int.le_trans (by decide) hv4.1), (Int.le_trans hv4.2 (by decide))⟩) (fun y_3 hy_3 => (bk_inl (q_goto (t := 133) c_227_128 rfl (q_iret c_227_133 rfl ?_)))))))))
        exact K c2 y_3 hI2 (fun a j hm => hF a j hm) hy_3
    · refine v_ic_gt_f (t := 117) c_227_62 rfl ⟨(Int.le_trans (by decide) hv5.1), (Int.not_lt.mp h_1), ha1.2⟩ (q_iload c_227_65 rfl (q_iload_n c_227_67 rfl (q_iconst c_227_68 (v_ixorx c_227_69 (fun y_4 hy_4 => (v_iandl c_227_70 ⟨by omega, by omega⟩ (fun y_5 hy_5 => ?_)))))))
      by_cases h_6 : y_5 ≠ 0
      · refine v_if_ne_t (t := 111) c_227_71 rfl ⟨h_6, ⟨by omega, by omega⟩, by decide, by decide⟩ (v_iinc (v := v5 + 1) c_227_111 rfl (nb_ rfl) rfl (q_goto (t := 59) c_227_114 rfl (Wp_ls [(0, .ref 41), (1, vi a1), (2, vi a2), (3, vi v3), (4, vi v4), (5, vi (v5 + 1))] (lsub_cons rfl (lsub_cons rfl (lsub_cons rfl (lsub_cons rfl (lsub_cons rfl (lsub_cons rfl lsub_nil)))))) ?_)))
        exact ih c2 v3 v4 (v5 + 1) hI2 (fun a j hm => hF a j hm) hv3 hv4 ⟨by first | exact rgp_l hv5.1 (by decide) | omega, by first | (clear ha1 ha2 hv3 hv4 hv5 h_6; omega) | omega⟩ ⟨by first | exact q_d894f56d7 h_1 hv5 | omega, by first | (clear ha1 ha2 hv3 hv4 hv5 h_1 h_6; omega) | omega⟩ (by omega)
      · refine v_if_ne_f (t := 111) c_227_71 rfl (Decidable.not_not.mp h_6) (q_iload c_227_74 rfl (q_iload_n c_227_76 rfl (v_iandl c_227_77 ⟨by omega, by omega⟩ (fun y_7 hy_7 => ?_))))
        by_cases h_8 : y_7 ≠ 0
        · refine v_if_ne_t (t := 84) c_227_78 rfl ⟨h_8, ⟨by omega, by omega⟩, by decide, by decide⟩ (q_iload c_227_84 rfl (q_iconst c_227_86 ?_))
          by_cases h_9 : v4 = (-1)
          · refine v_ic_eq_t (t := 107) c_227_87 rfl h_9 (q_iload c_227_107 rfl (q_istore c_227_109 (nb_ rfl) (v_iinc (v := v5 + 1) c_227_111 rfl (nb_ rfl) rfl (q_goto (t := 59) c_227_114 rfl (Wp_ls [(0, .ref 41), (1, vi a1), (2, vi a2), (3, vi v3), (4, vi v5), (5, vi (v5 + 1))] (lsub_cons rfl (lsub_cons rfl (lsub_cons rfl (lsub_cons rfl (lsub_cons rfl (lsub_cons rfl lsub_nil)))))) ?_)))))
            exact ih c2 v3 v5 (v5 + 1) hI2 (fun a j hm => hF a j hm) hv3 ⟨(Int.le_trans (by decide) hv5.1), hv5.2⟩ ⟨by first | exact rgp_l hv5.1 (by decide) | omega, by first | (clear ha1 ha2 hv3 hv4 hv5 h_6 h_9 h_8; omega) | omega⟩ ⟨by first | exact q_d894f56d7 h_1 hv5 | omega, by first | (clear ha1 ha2 hv3 hv4 hv5 h_1 h_6 h_9 h_8; omega) | omega⟩ (by omega)
          · refine v_ic_eq_f (t := 107) c_227_87 rfl ⟨h_9, ⟨(Int.le_trans (by decide) hv4.1), (Int.le_trans hv4.2 (by decide))⟩, by decide, by decide⟩ (q_aload_n c_227_90 rfl (q_iload_n c_227_91 rfl (q_iload c_227_92 rfl (v_cv c_227_94 km_8_405 rfl rfl (nb_ rfl) ⟨⟨rfl, rfl⟩, nb_ rfl, rfl⟩ (nb_ rfl) (nb_ rfl) (s_226 (a1 := a1) (a2 := v5) hI2 (show (-2147483648) ≤ a1 ∧ a1 ≤ 2147483647 from ha1) (show (-2147483648) ≤ v5 ∧ v5 ≤ 2147483647 from ⟨(Int.le_trans (by decide) hv5.1), (Int.le_trans hv5.2 (by decide))⟩) (fun y_10 hy_10 => (bk_inl (q_aload_n c_227_97 rfl (q_iload_n c_227_98 rfl ?_)))))))))
            refine q_iload c_227_99 rfl (v_cv c_227_101 km_8_405 rfl rfl (nb_ rfl) ⟨⟨rfl, rfl⟩, nb_ rfl, rfl⟩ (nb_ rfl) (nb_ rfl) (s_226 (a1 := a1) (a2 := v4) hI2 (show (-2147483648) ≤ a1 ∧ a1 ≤ 2147483647 from ha1) (show (-2147483648) ≤ v4 ∧ v4 ≤ 2147483647 from ⟨(Int.le_trans (by decide) hv4.1), (Int.le_trans hv4.2 (by decide))⟩) (fun y_11 hy_11 => (bk_inl ?_))))
            by_cases h_12 : y_10 ≥ y_11
            · refine v_ic_ge_t (t := 111) c_227_104 rfl ⟨hy_11.1, h_12, hy_10.2⟩ (v_iinc (v := v5 + 1) c_227_111 rfl (nb_ rfl) rfl (q_goto (t := 59) c_227_114 rfl (Wp_ls [(0, .ref 41), (1, vi a1), (2, vi a2), (3, vi v3), (4, vi v4), (5, vi (v5 + 1))] (lsub_cons rfl (lsub_cons rfl (lsub_cons rfl (lsub_cons rfl (lsub_cons rfl (lsub_cons rfl lsub_nil)))))) ?_)))
              exact ih c2 v3 v4 (v5 + 1) hI2 (fun a j hm => hF a j hm) hv3 hv4 ⟨by first | exact rgp_l hv5.1 (by decide) | omega, by first | (clear ha1 ha2 hv3 hv4 hv5 h_6 h_12 h_8 h_9; omega) | omega⟩ ⟨by first | exact q_d894f56d7 h_1 hv5 | omega, by first | (clear ha1 ha2 hv3 hv4 hv5 h_1 h_6 h_12 h_8 h_9; omega) | omega⟩ (by omega)
            · refine v_ic_ge_f (t := 111) c_227_104 rfl ⟨hy_10.1, (Int.not_le.mp h_12), hy_11.2⟩ (q_iload c_227_107 rfl (q_istore c_227_109 (nb_ rfl) (v_iinc (v := v5 + 1) c_227_111 rfl (nb_ rfl) rfl (q_goto (t := 59) c_227_114 rfl (Wp_ls [(0, .ref 41), (1, vi a1), (2, vi a2), (3, vi v3), (4, vi v5), (5, vi (v5 + 1))] (lsub_cons rfl (lsub_cons rfl (lsub_cons rfl (lsub_cons rfl (lsub_cons rfl (lsub_cons rfl lsub_nil)))))) ?_)))))
              exact ih c2 v3 v5 (v5 + 1) hI2 (fun a j hm => hF a j hm) hv3 ⟨(Int.le_trans (by decide) hv5.1), hv5.2⟩ ⟨by first | exact rgp_l hv5.1 (by decide) | omega, by first | (clear ha1 ha2 hv3 hv4 hv5 h_6 h_12 h_8 h_9; omega) | omega⟩ ⟨by first | exact q_d894f56d7 h_1 hv5 | omega, by first | (clear ha1 ha2 hv3 hv4 hv5 h_1 h_6 h_12 h_8 h_9; omega) | omega⟩ (by omega)
        · refine v_if_ne_f (t := 84) c_227_78 rfl (Decidable.not_not.mp h_8) (q_goto (t := 111) c_227_81 rfl (v_iinc (v := v5 + 1) c_227_111 rfl (nb_ rfl) rfl (q_goto (t := 59) c_227_114 rfl (Wp_ls [(0, .ref 41), (1, vi a1), (2, vi a2), (3, vi v3), (4, vi v4), (5, vi (v5 + 1))] (lsub_cons rfl (lsub_cons rfl (lsub_cons rfl (lsub_cons rfl (lsub_cons rfl (lsub_cons rfl lsub_nil)))))) ?_))))
          exact ih c2 v3 v4 (v5 + 1) hI2 (fun a j hm => hF a j hm) hv3 hv4 ⟨by first | exact rgp_l hv5.1 (by decide) | omega, by omega⟩ ⟨by first | exact q_d894f56d7 h_1 hv5 | omega, by omega⟩ (by omega)
set_option maxRecDepth 100000 in
set_option maxHeartbeats 4000000 in
theorem s_227 {sc : List Int32} {d P Q : Nat} {c : ME} {a1 : Int} {a2 : Int} {Z : AR → Prop} (hI : Iv 0 (-1) P Q c) (ha1 : (-2147483648) ≤ a1 ∧ a1 ≤ 2147483647) (ha2 : (-2147483648) ≤ a2 ∧ a2 ≤ 2147483647) (K : ∀ (c2 : ME) (y : Int), Iv 0 (-1) P Q c2 → (∀ (a : Nat) (j : Int), ¬ ((a = 41 ∧ j = 0) ∨ a = 42 ∨ a = 59) → c2 a j = c a j) → (-2147483648) ≤ y ∧ y ≤ 2147483647 → Z (.inl (some (vi y)), Wd P Q P P c2, 0, 0)) : Wp sc (d + 10) 227 0 [(0, .ref 41), (1, vi a1), (2, vi a2)] [] (Wd P Q P P c) 0 0 Z := by
  have hP := iv_P hI
  have hQ := iv_Q hI
  refine q_aload_n c_227_0 rfl (q_iconst c_227_1 (v_pi (z := 0) c_227_2 kf_8_3 rfl (nb_ rfl) rfl rfl rfl (by decide) (q_aload_n c_227_5 rfl (q_aload_n c_227_6 rfl (q_iload_n c_227_7 rfl (v_cv c_227_8 km_8_402 rfl rfl (nb_ rfl) ⟨⟨rfl, rfl⟩, nb_ rfl, rfl⟩ (nb_ rfl) (nb_ rfl) (q_iload_n c_222_0 rfl ?_)))))))
  by_cases h_13 : a1 < 0
  · refine v_if_lt_t (t := 18) c_222_1 rfl ⟨ha1.1, h_13, by decide⟩ (q_iconst c_222_18 (v_zret c_222_19 rfl (by decide) (bk_inl (v_if_eq_t (t := 27) c_227_11 rfl (by decide) (q_iconst c_227_27 (q_iconst c_227_28 (q_iconst c_227_29 ?_)))))))
    refine v_cv c_227_30 km_8_203 rfl rfl (nb_ rfl) ⟨⟨rfl, rfl⟩, nb_ rfl, rfl⟩ (nb_ rfl) (nb_ rfl) (q_iload_n c_145_0 rfl (v_if_ne_f (t := 26) c_145_1 rfl (by decide) (q_aload_n c_145_4 rfl (v_gi (z := 0) (v := 0) c_145_5 kf_8_3 rfl (nb_ rfl) rfl rfl (up_e rfl) (v_if_ne_f (t := 26) c_145_8 rfl (by decide) (q_aload_n c_145_11 rfl (q_iload_n c_145_12 rfl ?_)))))))
    refine v_pi (z := 0) c_145_13 kf_8_3 rfl (nb_ rfl) rfl rfl rfl (by decide) (q_aload_n c_145_16 rfl (v_gr (t := 42) c_145_17 kf_8_7 rfl (nb_ rfl) rfl (q_iload_n c_145_20 rfl (q_dup2 c_145_21 ⟨rfl, rfl⟩ ?_))))
    have h_14 := ir_42 hI 1
    refine v_ia (v := c 42 1) c_145_22 rfl (by decide) (by decide) (by decide) ((up_c (nn rfl)).trans (up_c (nn rfl))) (q_iconst c_145_23 (v_iadd (v := c 42 1 + 1) c_145_24 rfl (v_nrm (fun y_15 hy_15 => (v_is c_145_25 rfl (by decide) (by decide) (by decide) (q_aload_n c_145_26 rfl (v_gi (z := 0) (v := 1) c_145_27 kf_8_3 rfl (nb_ rfl) rfl rfl ((up_c (nn rfl)).trans (up_e rfl)) (v_if_ne_t (t := 37) c_145_30 rfl (by decide) ?_))))))))
    refine q_iconst c_145_37 (v_zret c_145_38 rfl (by decide) (bk_inl (v_if_ne_f (t := 38) c_227_33 rfl (by decide) (q_iconst c_227_36 (q_iret c_227_37 rfl ?_)))))
    have hI_16 := iw_41_0 (v := 0) hI ⟨by decide, by decide⟩
    have hI_17 := iw_41_0 (v := 1) hI_16 ⟨by decide, by decide⟩
    have hI_18 := iw_42 (j := 1) (v := y_15) hI_17 ⟨hy_15.1, hy_15.2⟩
    exact K (up (up (up c 41 0 0) 41 0 1) 42 1 y_15) 0 hI_18 (fun a j hm => (up_b (Decidable.or_iff_not_imp_left.mpr (fun h1 h2 => hm (Or.inr (Or.inl (Decidable.not_not.mp h1)))))).trans ((up_b (Decidable.or_iff_not_imp_left.mpr (fun h1 h2 => hm (Or.inl ⟨Decidable.not_not.mp h1, h2⟩)))).trans (up_b (Decidable.or_iff_not_imp_left.mpr (fun h1 h2 => hm (Or.inl ⟨Decidable.not_not.mp h1, h2⟩)))))) ⟨by decide, by decide⟩
  · refine v_if_lt_f (t := 18) c_222_1 rfl ⟨by decide, (Int.not_lt.mp h_13), ha1.2⟩ (q_iload_n c_222_4 rfl (q_iconst c_222_5 (q_aload_n c_222_6 rfl ?_)))
    have h_19 := ir_41_20 hI
    refine v_gi (z := 20) (v := c 41 20) c_222_7 kf_8_157 rfl (nb_ rfl) rfl rfl (up_n (by decide)) (v_shl1 c_222_10 ⟨by omega, by omega⟩ (fun y_20 hy_20 => ?_))
    by_cases h_21 : a1 ≥ y_20
    · refine v_ic_ge_t (t := 18) c_222_11 rfl ⟨(Int.le_trans (by decide) hy_20.1), h_21, ha1.2⟩ (q_iconst c_222_18 (v_zret c_222_19 rfl (by decide) (bk_inl (v_if_eq_t (t := 27) c_227_11 rfl (by decide) (q_iconst c_227_27 (q_iconst c_227_28 (q_iconst c_227_29 ?_)))))))
      refine v_cv c_227_30 km_8_203 rfl rfl (nb_ rfl) ⟨⟨rfl, rfl⟩, nb_ rfl, rfl⟩ (nb_ rfl) (nb_ rfl) (q_iload_n c_145_0 rfl (v_if_ne_f (t := 26) c_145_1 rfl (by decide) (q_aload_n c_145_4 rfl (v_gi (z := 0) (v := 0) c_145_5 kf_8_3 rfl (nb_ rfl) rfl rfl (up_e rfl) (v_if_ne_f (t := 26) c_145_8 rfl (by decide) (q_aload_n c_145_11 rfl (q_iload_n c_145_12 rfl ?_)))))))
      refine v_pi (z := 0) c_145_13 kf_8_3 rfl (nb_ rfl) rfl rfl rfl (by decide) (q_aload_n c_145_16 rfl (v_gr (t := 42) c_145_17 kf_8_7 rfl (nb_ rfl) rfl (q_iload_n c_145_20 rfl (q_dup2 c_145_21 ⟨rfl, rfl⟩ ?_))))
      have h_22 := ir_42 hI 1
      refine v_ia (v := c 42 1) c_145_22 rfl (by decide) (by decide) (by decide) ((up_c (nn rfl)).trans (up_c (nn rfl))) (q_iconst c_145_23 (v_iadd (v := c 42 1 + 1) c_145_24 rfl (v_nrm (fun y_23 hy_23 => (v_is c_145_25 rfl (by decide) (by decide) (by decide) (q_aload_n c_145_26 rfl (v_gi (z := 0) (v := 1) c_145_27 kf_8_3 rfl (nb_ rfl) rfl rfl ((up_c (nn rfl)).trans (up_e rfl)) (v_if_ne_t (t := 37) c_145_30 rfl (by decide) ?_))))))))
      refine q_iconst c_145_37 (v_zret c_145_38 rfl (by decide) (bk_inl (v_if_ne_f (t := 38) c_227_33 rfl (by decide) (q_iconst c_227_36 (q_iret c_227_37 rfl ?_)))))
      have hI_24 := iw_41_0 (v := 0) hI ⟨by decide, by decide⟩
      have hI_25 := iw_41_0 (v := 1) hI_24 ⟨by decide, by decide⟩
      have hI_26 := iw_42 (j := 1) (v := y_23) hI_25 ⟨hy_23.1, hy_23.2⟩
      exact K (up (up (up c 41 0 0) 41 0 1) 42 1 y_23) 0 hI_26 (fun a j hm => (up_b (Decidable.or_iff_not_imp_left.mpr (fun h1 h2 => hm (Or.inr (Or.inl (Decidable.not_not.mp h1)))))).trans ((up_b (Decidable.or_iff_not_imp_left.mpr (fun h1 h2 => hm (Or.inl ⟨Decidable.not_not.mp h1, h2⟩)))).trans (up_b (Decidable.or_iff_not_imp_left.mpr (fun h1 h2 => hm (Or.inl ⟨Decidable.not_not.mp h1, h2⟩)))))) ⟨by decide, by decide⟩
    · refine v_ic_ge_f (t := 18) c_222_11 rfl ⟨ha1.1, (Int.not_le.mp h_21), (Int.le_trans hy_20.2 (by decide))⟩ (q_iconst c_222_14 (q_goto (t := 19) c_222_15 rfl (v_zret c_222_19 rfl (by decide) (bk_inl (v_if_eq_f (t := 27) c_227_11 rfl (by decide) (q_iload_n c_227_14 rfl (q_iconst c_227_15 ?_)))))))
      refine q_iconst c_227_16 (q_call c_227_17 rfl rfl rfl (q_iload_n c_146_0 rfl (q_iload_n c_146_1 rfl ?_)))
      by_cases h_27 : a2 < 0
      · refine v_ic_lt_t (t := 14) c_146_2 rfl ⟨ha2.1, h_27, by decide⟩ (q_iconst c_146_14 (v_zret c_146_15 rfl (by decide) (bk_inl (v_if_eq_t (t := 27) c_227_20 rfl (by decide) (q_iconst c_227_27 (q_iconst c_227_28 (q_iconst c_227_29 ?_)))))))
        refine v_cv c_227_30 km_8_203 rfl rfl (nb_ rfl) ⟨⟨rfl, rfl⟩, nb_ rfl, rfl⟩ (nb_ rfl) (nb_ rfl) (q_iload_n c_145_0 rfl (v_if_ne_f (t := 26) c_145_1 rfl (by decide) (q_aload_n c_145_4 rfl (v_gi (z := 0) (v := 0) c_145_5 kf_8_3 rfl (nb_ rfl) rfl rfl (up_e rfl) (v_if_ne_f (t := 26) c_145_8 rfl (by decide) (q_aload_n c_145_11 rfl (q_iload_n c_145_12 rfl ?_)))))))
        refine v_pi (z := 0) c_145_13 kf_8_3 rfl (nb_ rfl) rfl rfl rfl (by decide) (q_aload_n c_145_16 rfl (v_gr (t := 42) c_145_17 kf_8_7 rfl (nb_ rfl) rfl (q_iload_n c_145_20 rfl (q_dup2 c_145_21 ⟨rfl, rfl⟩ ?_))))
        have h_28 := ir_42 hI 1
        refine v_ia (v := c 42 1) c_145_22 rfl (by decide) (by decide) (by decide) ((up_c (nn rfl)).trans (up_c (nn rfl))) (q_iconst c_145_23 (v_iadd (v := c 42 1 + 1) c_145_24 rfl (v_nrm (fun y_29 hy_29 => (v_is c_145_25 rfl (by decide) (by decide) (by decide) (q_aload_n c_145_26 rfl (v_gi (z := 0) (v := 1) c_145_27 kf_8_3 rfl (nb_ rfl) rfl rfl ((up_c (nn rfl)).trans (up_e rfl)) (v_if_ne_t (t := 37) c_145_30 rfl (by decide) ?_))))))))
        refine q_iconst c_145_37 (v_zret c_145_38 rfl (by decide) (bk_inl (v_if_ne_f (t := 38) c_227_33 rfl (by decide) (q_iconst c_227_36 (q_iret c_227_37 rfl ?_)))))
        have hI_30 := iw_41_0 (v := 0) hI ⟨by decide, by decide⟩
        have hI_31 := iw_41_0 (v := 1) hI_30 ⟨by decide, by decide⟩
        have hI_32 := iw_42 (j := 1) (v := y_29) hI_31 ⟨hy_29.1, hy_29.2⟩
        exact K (up (up (up c 41 0 0) 41 0 1) 42 1 y_29) 0 hI_32 (fun a j hm => (up_b (Decidable.or_iff_not_imp_left.mpr (fun h1 h2 => hm (Or.inr (Or.inl (Decidable.not_not.mp h1)))))).trans ((up_b (Decidable.or_iff_not_imp_left.mpr (fun h1 h2 => hm (Or.inl ⟨Decidable.not_not.mp h1, h2⟩)))).trans (up_b (Decidable.or_iff_not_imp_left.mpr (fun h1 h2 => hm (Or.inl ⟨Decidable.not_not.mp h1, h2⟩)))))) ⟨by decide, by decide⟩
      · refine v_ic_lt_f (t := 14) c_146_2 rfl ⟨by decide, (Int.not_lt.mp h_27), ha2.2⟩ (q_iload_n c_146_5 rfl (q_iload_n c_146_6 rfl ?_))
        by_cases h_33 : a2 > 1
        · refine v_ic_gt_t (t := 14) c_146_7 rfl ⟨by decide, h_33, ha2.2⟩ (q_iconst c_146_14 (v_zret c_146_15 rfl (by decide) (bk_inl (v_if_eq_t (t := 27) c_227_20 rfl (by decide) (q_iconst c_227_27 (q_iconst c_227_28 (q_iconst c_227_29 ?_)))))))
          refine v_cv c_227_30 km_8_203 rfl rfl (nb_ rfl) ⟨⟨rfl, rfl⟩, nb_ rfl, rfl⟩ (nb_ rfl) (nb_ rfl) (q_iload_n c_145_0 rfl (v_if_ne_f (t := 26) c_145_1 rfl (by decide) (q_aload_n c_145_4 rfl (v_gi (z := 0) (v := 0) c_145_5 kf_8_3 rfl (nb_ rfl) rfl rfl (up_e rfl) (v_if_ne_f (t := 26) c_145_8 rfl (by decide) (q_aload_n c_145_11 rfl (q_iload_n c_145_12 rfl ?_)))))))
          refine v_pi (z := 0) c_145_13 kf_8_3 rfl (nb_ rfl) rfl rfl rfl (by decide) (q_aload_n c_145_16 rfl (v_gr (t := 42) c_145_17 kf_8_7 rfl (nb_ rfl) rfl (q_iload_n c_145_20 rfl (q_dup2 c_145_21 ⟨rfl, rfl⟩ ?_))))
          have h_34 := ir_42 hI 1
          refine v_ia (v := c 42 1) c_145_22 rfl (by decide) (by decide) (by decide) ((up_c (nn rfl)).trans (up_c (nn rfl))) (q_iconst c_145_23 (v_iadd (v := c 42 1 + 1) c_145_24 rfl (v_nrm (fun y_35 hy_35 => (v_is c_145_25 rfl (by decide) (by decide) (by decide) (q_aload_n c_145_26 rfl (v_gi (z := 0) (v := 1) c_145_27 kf_8_3 rfl (nb_ rfl) rfl rfl ((up_c (nn rfl)).trans (up_e rfl)) (v_if_ne_t (t := 37) c_145_30 rfl (by decide) ?_))))))))
          refine q_iconst c_145_37 (v_zret c_145_38 rfl (by decide) (bk_inl (v_if_ne_f (t := 38) c_227_33 rfl (by decide) (q_iconst c_227_36 (q_iret c_227_37 rfl ?_)))))
          have hI_36 := iw_41_0 (v := 0) hI ⟨by decide, by decide⟩
          have hI_37 := iw_41_0 (v := 1) hI_36 ⟨by decide, by decide⟩
          have hI_38 := iw_42 (j := 1) (v := y_35) hI_37 ⟨hy_35.1, hy_35.2⟩
          exact K (up (up (up c 41 0 0) 41 0 1) 42 1 y_35) 0 hI_38 (fun a j hm => (up_b (Decidable.or_iff_not_imp_left.mpr (fun h1 h2 => hm (Or.inr (Or.inl (Decidable.not_not.mp h1)))))).trans ((up_b (Decidable.or_iff_not_imp_left.mpr (fun h1 h2 => hm (Or.inl ⟨Decidable.not_not.mp h1, h2⟩)))).trans (up_b (Decidable.or_iff_not_imp_left.mpr (fun h1 h2 => hm (Or.inl ⟨Decidable.not_not.mp h1, h2⟩)))))) ⟨by decide, by decide⟩
        · refine v_ic_gt_f (t := 14) c_146_7 rfl ⟨ha2.1, (Int.not_lt.mp h_33), by decide⟩ (q_iconst c_146_10 (q_goto (t := 15) c_146_11 rfl (v_zret c_146_15 rfl (by decide) (bk_inl (v_if_eq_f (t := 27) c_227_20 rfl (by decide) (q_iconst c_227_23 (q_goto (t := 28) c_227_24 rfl ?_)))))))
          refine q_iconst c_227_28 (q_iconst c_227_29 (v_cv c_227_30 km_8_203 rfl rfl (nb_ rfl) ⟨⟨rfl, rfl⟩, nb_ rfl, rfl⟩ (nb_ rfl) (nb_ rfl) (q_iload_n c_145_0 rfl (v_if_ne_t (t := 26) c_145_1 rfl (by decide) (q_aload_n c_145_26 rfl (v_gi (z := 0) (v := 0) c_145_27 kf_8_3 rfl (nb_ rfl) rfl rfl (up_e rfl) (v_if_ne_f (t := 37) c_145_30 rfl (by decide) ?_)))))))
          refine q_iconst c_145_33 (q_goto (t := 38) c_145_34 rfl (v_zret c_145_38 rfl (by decide) (bk_inl (v_if_ne_t (t := 38) c_227_33 rfl (by decide) (q_iload_n c_227_38 rfl ?_)))))
          by_cases h_39 : a1 ≠ 0
          · refine v_if_ne_t (t := 44) c_227_39 rfl ⟨h_39, ⟨ha1.1, ha1.2⟩, by decide, by decide⟩ (q_aload_n c_227_44 rfl ?_)
            have hI_40 := iw_41_0 (v := 0) hI ⟨by decide, by decide⟩
            refine v_cv c_227_45 km_8_317 rfl rfl (nb_ rfl) ⟨⟨rfl, rfl⟩, nb_ rfl, rfl⟩ (nb_ rfl) (nb_ rfl) (s_186 hI_40 (fun c_41 hI_42 hF_43 => (bk_inl (q_iload_n c_227_48 rfl (q_iload_n c_227_49 rfl (v_ineg (v := 0 - a1) c_227_50 (by omega) (v_iandl c_227_51 ⟨by omega, by omega⟩ (fun y_44 hy_44 => (q_istore_n c_227_52 (nb_ rfl) (q_iconst c_227_53 ?_))))))))))
            refine q_istore c_227_54 (nb_ rfl) (q_iconst c_227_56 (q_istore c_227_57 (nb_ rfl) (Wp_ls [(0, .ref 41), (1, vi a1), (2, vi a2), (3, vi y_44), (4, vi (-1)), (5, vi 1)] (lsub_cons rfl (lsub_cons rfl (lsub_cons rfl (lsub_cons rfl (lsub_cons rfl (lsub_cons rfl lsub_nil)))))) ?_)))
            exact (s_227_l (sc := sc) (d := d) hI ha1 ha2 K 130) c_41 y_44 (-1) 1 hI_42 (fun a j hm => (hF_43 a j (fun h => hm (Or.inr (Or.inr h)))).trans (up_b (Decidable.or_iff_not_imp_left.mpr (fun h1 h2 => hm (Or.inl ⟨Decidable.not_not.mp h1, h2⟩))))) ⟨by first | (clear ha1 ha2 h_13 h_19 h_21 h_27 h_33 h_39; omega) | omega, by first | (clear ha1 ha2 h_13 h_19 h_27 h_33 h_39; omega) | omega⟩ ⟨by decide, by decide⟩ ⟨by decide, by decide⟩ ⟨by first | exact q_720657ba9 h_13 | omega, by first | (clear ha1 ha2 h_13 h_19 h_27 h_33 h_39; omega) | omega⟩ (by omega)
          · refine v_if_ne_f (t := 44) c_227_39 rfl (Decidable.not_not.mp h_39) (q_iconst c_227_42 (q_iret c_227_43 rfl ?_))
            have hI_45 := iw_41_0 (v := 0) hI ⟨by decide, by decide⟩
            exact K (up c 41 0 0) 0 hI_45 (fun a j hm => up_b (Decidable.or_iff_not_imp_left.mpr (fun h1 h2 => hm (Or.inl ⟨Decidable.not_not.mp h1, h2⟩)))) ⟨by decide, by decide⟩

set_option maxRecDepth 100000 in
set_option maxHeartbeats 4000000 in
theorem s_228_l {sc : List Int32} {d P Q : Nat} {c : ME} {a1 : Int} {a2 : Int} {a3 : Int} {Z : AR → Prop} (hI : Iv 0 (-1) P Q c) (ha1 : (-2147483648) ≤ a1 ∧ a1 ≤ 2147483647) (ha2 : (-2147483648) ≤ a2 ∧ a2 ≤ 2147483647) (ha3 : (-2147483648) ≤ a3 ∧ a3 ≤ 2147483647) (K : ∀ (c2 : ME) (y : Int), Iv 0 (-1) P Q c2 → (∀ (a : Nat) (j : Int), ¬ ((a = 41 ∧ j = 0) ∨ a = 42 ∨ a = 59 ∨ a = 54 ∨ a = 55) → c2 a j = c a j) → (-2147483648) ≤ y ∧ y ≤ 2147483647 → Z (.inl (some (vi y)), Wd P Q P P c2, 0, 0)) : ∀ n : Nat, (∀ (c2 : ME) (v4 : Int) (v5 : Int) (v6 : Int), Iv 0 (-1) P Q c2 → (∀ (a : Nat) (j : Int), ¬ ((a = 41 ∧ j = 0) ∨ a = 42 ∨ a = 59 ∨ a = 54 ∨ a = 55) → c2 a j = c a j) → 0 ≤ v4 ∧ v4 ≤ 63 → 0 ≤ v5 ∧ v5 ≤ 64 → 1 ≤ v6 ∧ v6 ≤ 64 → 129 - 2 * v6 < (n : Int) → Wp sc (d + 13) 228 69 [(0, .ref 41), (1, vi a1), (2, vi a2), (3, vi a3), (4, vi v4), (5, vi v5), (6, vi v6)] [] (Wd P Q P P c2) 0 0 Z) := by
  intro n
  induction n with
  | zero => exact (by intro c2 v4 v5 v6 hI2 hF hv4 hv5 hv6 hm9; have hP := iv_P hI; have hQ := iv_Q hI; exfalso; omega)
  | succ n ih =>
    have hP := iv_P hI
    have hQ := iv_Q hI
    intro c2 v4 v5 v6 hI2 hF hv4 hv5 hv6 hm9
    refine q_iload c_228_69 rfl (q_iload c_228_71 rfl ?_)
    by_cases h_1 : v6 > v4
    · refine v_ic_gt_t (t := 149) c_228_73 rfl ⟨(Int.le_trans (by decide) hv4.1), h_1, (Int.le_trans hv6.2 (by decide))⟩ (q_iload_n c_228_149 rfl ?_)
      by_cases h_2 : a3 ≠ 0
      · refine v_if_ne_t (t := 162) c_228_150 rfl ⟨h_2, ⟨ha3.1, ha3.2⟩, by decide, by decide⟩ (q_iload_n c_228_162 rfl (q_iconst c_228_163 ?_))
        by_cases h_3 : a3 ≠ 1
        · refine v_ic_ne_t (t := 176) c_228_164 rfl ⟨h_3, ⟨ha3.1, ha3.2⟩, by decide, by decide⟩ (q_iload c_228_176 rfl (q_iret c_228_178 rfl ?_))
          exact K c2 v5 hI2 (fun a j hm => hF a j hm) ⟨(Int.le_trans (by decide) hv5.1), (Int.le_trans hv5.2 (by decide))⟩
        · refine v_ic_ne_f (t := 176) c_228_164 rfl (Decidable.not_not.mp h_3) (q_aload_n c_228_167 rfl (q_iload c_228_168 rfl (v_cv c_228_170 km_8_408 rfl rfl (nb_ rfl) ⟨⟨rfl, rfl⟩, nb_ rfl, rfl⟩ (nb_ rfl) (nb_ rfl) (s_223 (a1 := v5) hI2 (show (-2147483648) ≤ v5 ∧ v5 ≤ 2147483647 from ⟨(Int.le_trans (by decide) hv5.1), (Int.le_trans hv5.2 (by decide))⟩) (fun y_4 hy_4 => (bk_inl (q_goto (t := 178) c_228_173 rfl (q_iret c_228_178 rfl ?_))))))))
          exact K c2 y_4 hI2 (fun a j hm => hF a j hm) hy_4
      · refine v_if_ne_f (t := 162) c_228_150 rfl (Decidable.not_not.mp h_2) (q_aload_n c_228_153 rfl (q_iload c_228_154 rfl (v_cv c_228_156 km_8_414 rfl rfl (nb_ rfl) ⟨⟨rfl, rfl⟩, nb_ rfl, rfl⟩ (nb_ rfl) (nb_ rfl) (s_224 (a1 := v5) hI2 (show (-2147483648) ≤ v5 ∧ v5 ≤ 2147483647 from ⟨(Int.le_trans (by decide) hv5.1), (Int.le_trans hv5.2 (by decide))⟩) (fun c_5 y_8 hI_6 hF_7 hy_8 => (bk_inl (q_goto (t := 178) c_228_159 rfl (q_iret c_228_178 rfl ?_))))))))
        exact K c_5 y_8 hI_6 (fun a j hm => (hF_7 a j (qv_bcc235c24 hm)).trans (hF a j hm)) hy_8
    · refine v_ic_gt_f (t := 149) c_228_73 rfl ⟨(Int.le_trans (by decide) hv6.1), (Int.not_lt.mp h_1), (Int.le_trans hv4.2 (by decide))⟩ (q_iload c_228_76 rfl (q_iload c_228_78 rfl (q_iconst c_228_80 (v_ixorx c_228_81 (fun y_9 hy_9 => (v_iandl c_228_82 ⟨by omega, by omega⟩ (fun y_10 hy_10 => ?_)))))))
      by_cases h_11 : y_10 ≠ 0
      · refine v_if_ne_t (t := 143) c_228_83 rfl ⟨h_11, ⟨by omega, by omega⟩, by decide, by decide⟩ (v_iinc (v := v6 + 1) c_228_143 rfl (nb_ rfl) rfl (q_goto (t := 69) c_228_146 rfl (Wp_ls [(0, .ref 41), (1, vi a1), (2, vi a2), (3, vi a3), (4, vi v4), (5, vi v5), (6, vi (v6 + 1))] (lsub_cons rfl (lsub_cons rfl (lsub_cons rfl (lsub_cons rfl (lsub_cons rfl (lsub_cons rfl (lsub_cons rfl lsub_nil))))))) ?_)))
        exact ih c2 v4 v5 (v6 + 1) hI2 (fun a j hm => hF a j hm) hv4 hv5 ⟨by first | exact rgp_l hv6.1 (by decide) | omega, by first | exact q_8ed797edd h_1 hv4 | omega⟩ (by omega)
      · refine v_if_ne_f (t := 143) c_228_83 rfl (Decidable.not_not.mp h_11) (q_aload_n c_228_86 rfl (q_iload c_228_87 rfl (v_cv c_228_89 km_8_408 rfl rfl (nb_ rfl) ⟨⟨rfl, rfl⟩, nb_ rfl, rfl⟩ (nb_ rfl) (nb_ rfl) (s_223 (a1 := v6) hI2 (show (-2147483648) ≤ v6 ∧ v6 ≤ 2147483647 from ⟨(Int.le_trans (by decide) hv6.1), (Int.le_trans hv6.2 (by decide))⟩) (fun y_12 hy_12 => (bk_inl (q_iload_n c_228_92 rfl ?_)))))))
        by_cases h_13 : y_12 ≤ a2
        · refine v_ic_le_t (t := 99) c_228_93 rfl ⟨hy_12.1, h_13, ha2.2⟩ (q_aload_n c_228_99 rfl (q_iload c_228_100 rfl (v_cv c_228_102 km_8_414 rfl rfl (nb_ rfl) ⟨⟨rfl, rfl⟩, nb_ rfl, rfl⟩ (nb_ rfl) (nb_ rfl) (s_224 (a1 := v6) hI2 (show (-2147483648) ≤ v6 ∧ v6 ≤ 2147483647 from ⟨(Int.le_trans (by decide) hv6.1), (Int.le_trans hv6.2 (by decide))⟩) (fun c_14 y_17 hI_15 hF_16 hy_17 => (bk_inl (q_aload_n c_228_105 rfl (q_iload c_228_106 rfl (v_cv c_228_108 km_8_414 rfl rfl (nb_ rfl) ⟨⟨rfl, rfl⟩, nb_ rfl, rfl⟩ (nb_ rfl) (nb_ rfl) (s_224 (a1 := v5) hI_15 (show (-2147483648) ≤ v5 ∧ v5 ≤ 2147483647 from ⟨(Int.le_trans (by decide) hv5.1), (Int.le_trans hv5.2 (by decide))⟩) (fun c_18 y_21 hI_19 hF_20 hy_21 => ?_)))))))))))
          refine bk_inl (v_isub (v := y_17 - y_21) c_228_111 rfl (v_nrm (fun y_22 hy_22 => (q_istore c_228_112 (nb_ rfl) (q_iload c_228_114 rfl ?_)))))
          by_cases h_23 : y_22 > 0
          · refine v_if_gt_t (t := 139) c_228_116 rfl ⟨by decide, h_23, hy_22.2⟩ (q_iload c_228_139 rfl (q_istore c_228_141 (nb_ rfl) (v_iinc (v := v6 + 1) c_228_143 rfl (nb_ rfl) rfl (q_goto (t := 69) c_228_146 rfl (Wp_ls [(0, .ref 41), (1, vi a1), (2, vi a2), (3, vi a3), (4, vi v4), (5, vi v6), (6, vi (v6 + 1))] (lsub_cons rfl (lsub_cons rfl (lsub_cons rfl (lsub_cons rfl (lsub_cons rfl (lsub_cons rfl (lsub_cons rfl lsub_nil))))))) ?_)))))
            exact ih c_18 v4 v6 (v6 + 1) hI_19 (fun a j hm => (hF_20 a j (qv_bcc235c24 hm)).trans ((hF_16 a j (qv_bcc235c24 hm)).trans (hF a j hm))) hv4 ⟨(Int.le_trans (by decide) hv6.1), hv6.2⟩ ⟨by first | exact rgp_l hv6.1 (by decide) | omega, by first | exact q_8ed797edd h_1 hv4 | omega⟩ (by omega)
          · refine v_if_gt_f (t := 139) c_228_116 rfl ⟨hy_22.1, (Int.not_lt.mp h_23), by decide⟩ (q_iload c_228_119 rfl ?_)
            by_cases h_24 : y_22 ≠ 0
            · refine v_if_ne_t (t := 143) c_228_121 rfl ⟨h_24, ⟨hy_22.1, hy_22.2⟩, by decide, by decide⟩ (v_iinc (v := v6 + 1) c_228_143 rfl (nb_ rfl) rfl (q_goto (t := 69) c_228_146 rfl (Wp_ls [(0, .ref 41), (1, vi a1), (2, vi a2), (3, vi a3), (4, vi v4), (5, vi v5), (6, vi (v6 + 1))] (lsub_cons rfl (lsub_cons rfl (lsub_cons rfl (lsub_cons rfl (lsub_cons rfl (lsub_cons rfl (lsub_cons rfl lsub_nil))))))) ?_)))
              exact ih c_18 v4 v5 (v6 + 1) hI_19 (fun a j hm => (hF_20 a j (qv_bcc235c24 hm)).trans ((hF_16 a j (qv_bcc235c24 hm)).trans (hF a j hm))) hv4 hv5 ⟨by first | exact rgp_l hv6.1 (by decide) | omega, by first | exact q_8ed797edd h_1 hv4 | omega⟩ (by omega)
            · refine v_if_ne_f (t := 143) c_228_121 rfl (Decidable.not_not.mp h_24) (q_aload_n c_228_124 rfl (q_iload c_228_125 rfl (v_cv c_228_127 km_8_408 rfl rfl (nb_ rfl) ⟨⟨rfl, rfl⟩, nb_ rfl, rfl⟩ (nb_ rfl) (nb_ rfl) (s_223 (a1 := v6) hI_19 (show (-2147483648) ≤ v6 ∧ v6 ≤ 2147483647 from ⟨(Int.le_trans (by decide) hv6.1), (Int.le_trans hv6.2 (by decide))⟩) (fun y_25 hy_25 => (bk_inl (q_aload_n c_228_130 rfl (q_iload c_228_131 rfl (v_cv c_228_133 km_8_408 rfl rfl (nb_ rfl) ⟨⟨rfl, rfl⟩, nb_ rfl, rfl⟩ (nb_ rfl) (nb_ rfl) (s_223 (a1 := v5) hI_19 (show (-2147483648) ≤ v5 ∧ v5 ≤ 2147483647 from ⟨(Int.le_trans (by decide) hv5.1), (Int.le_trans hv5.2 (by decide))⟩) (fun y_26 hy_26 => ?_)))))))))))
              refine bk_inl ?_
              by_cases h_27 : y_25 ≥ y_26
              · refine v_ic_ge_t (t := 143) c_228_136 rfl ⟨hy_26.1, h_27, hy_25.2⟩ (v_iinc (v := v6 + 1) c_228_143 rfl (nb_ rfl) rfl (q_goto (t := 69) c_228_146 rfl (Wp_ls [(0, .ref 41), (1, vi a1), (2, vi a2), (3, vi a3), (4, vi v4), (5, vi v5), (6, vi (v6 + 1))] (lsub_cons rfl (lsub_cons rfl (lsub_cons rfl (lsub_cons rfl (lsub_cons rfl (lsub_cons rfl (lsub_cons rfl lsub_nil))))))) ?_)))
                exact ih c_18 v4 v5 (v6 + 1) hI_19 (fun a j hm => (hF_20 a j (qv_bcc235c24 hm)).trans ((hF_16 a j (qv_bcc235c24 hm)).trans (hF a j hm))) hv4 hv5 ⟨by first | exact rgp_l hv6.1 (by decide) | omega, by first | exact q_8ed797edd h_1 hv4 | omega⟩ (by omega)
              · refine v_ic_ge_f (t := 143) c_228_136 rfl ⟨hy_25.1, (Int.not_le.mp h_27), hy_26.2⟩ (q_iload c_228_139 rfl (q_istore c_228_141 (nb_ rfl) (v_iinc (v := v6 + 1) c_228_143 rfl (nb_ rfl) rfl (q_goto (t := 69) c_228_146 rfl (Wp_ls [(0, .ref 41), (1, vi a1), (2, vi a2), (3, vi a3), (4, vi v4), (5, vi v6), (6, vi (v6 + 1))] (lsub_cons rfl (lsub_cons rfl (lsub_cons rfl (lsub_cons rfl (lsub_cons rfl (lsub_cons rfl (lsub_cons rfl lsub_nil))))))) ?_)))))
                exact ih c_18 v4 v6 (v6 + 1) hI_19 (fun a j hm => (hF_20 a j (qv_bcc235c24 hm)).trans ((hF_16 a j (qv_bcc235c24 hm)).trans (hF a j hm))) hv4 ⟨(Int.le_trans (by decide) hv6.1), hv6.2⟩ ⟨by first | exact rgp_l hv6.1 (by decide) | omega, by first | exact q_8ed797edd h_1 hv4 | omega⟩ (by omega)
        · refine v_ic_le_f (t := 99) c_228_93 rfl ⟨ha2.1, (Int.not_le.mp h_13), hy_12.2⟩ (q_goto (t := 143) c_228_96 rfl (v_iinc (v := v6 + 1) c_228_143 rfl (nb_ rfl) rfl (q_goto (t := 69) c_228_146 rfl (Wp_ls [(0, .ref 41), (1, vi a1), (2, vi a2), (3, vi a3), (4, vi v4), (5, vi v5), (6, vi (v6 + 1))] (lsub_cons rfl (lsub_cons rfl (lsub_cons rfl (lsub_cons rfl (lsub_cons rfl (lsub_cons rfl (lsub_cons rfl lsub_nil))))))) ?_))))
          exact ih c2 v4 v5 (v6 + 1) hI2 (fun a j hm => hF a j hm) hv4 hv5 ⟨by first | exact rgp_l hv6.1 (by decide) | omega, by first | exact q_8ed797edd h_1 hv4 | omega⟩ (by omega)
set_option maxRecDepth 100000 in
set_option maxHeartbeats 4000000 in
theorem s_228 {sc : List Int32} {d P Q : Nat} {c : ME} {a1 : Int} {a2 : Int} {a3 : Int} {Z : AR → Prop} (hI : Iv 0 (-1) P Q c) (ha1 : (-2147483648) ≤ a1 ∧ a1 ≤ 2147483647) (ha2 : (-2147483648) ≤ a2 ∧ a2 ≤ 2147483647) (ha3 : (-2147483648) ≤ a3 ∧ a3 ≤ 2147483647) (K : ∀ (c2 : ME) (y : Int), Iv 0 (-1) P Q c2 → (∀ (a : Nat) (j : Int), ¬ ((a = 41 ∧ j = 0) ∨ a = 42 ∨ a = 59 ∨ a = 54 ∨ a = 55) → c2 a j = c a j) → (-2147483648) ≤ y ∧ y ≤ 2147483647 → Z (.inl (some (vi y)), Wd P Q P P c2, 0, 0)) : Wp sc (d + 13) 228 0 [(0, .ref 41), (1, vi a1), (2, vi a2), (3, vi a3)] [] (Wd P Q P P c) 0 0 Z := by
  have hP := iv_P hI
  have hQ := iv_Q hI
  refine q_aload_n c_228_0 rfl (q_iconst c_228_1 (v_pi (z := 0) c_228_2 kf_8_3 rfl (nb_ rfl) rfl rfl rfl (by decide) (q_aload_n c_228_5 rfl (q_aload_n c_228_6 rfl (q_iload_n c_228_7 rfl (v_cv c_228_8 km_8_402 rfl rfl (nb_ rfl) ⟨⟨rfl, rfl⟩, nb_ rfl, rfl⟩ (nb_ rfl) (nb_ rfl) (q_iload_n c_222_0 rfl ?_)))))))
  by_cases h_28 : a1 < 0
  · refine v_if_lt_t (t := 18) c_222_1 rfl ⟨ha1.1, h_28, by decide⟩ (q_iconst c_222_18 (v_zret c_222_19 rfl (by decide) (bk_inl (v_if_eq_t (t := 38) c_228_11 rfl (by decide) (q_iconst c_228_38 (q_iconst c_228_39 (q_iconst c_228_40 ?_)))))))
    refine v_cv c_228_41 km_8_203 rfl rfl (nb_ rfl) ⟨⟨rfl, rfl⟩, nb_ rfl, rfl⟩ (nb_ rfl) (nb_ rfl) (q_iload_n c_145_0 rfl (v_if_ne_f (t := 26) c_145_1 rfl (by decide) (q_aload_n c_145_4 rfl (v_gi (z := 0) (v := 0) c_145_5 kf_8_3 rfl (nb_ rfl) rfl rfl (up_e rfl) (v_if_ne_f (t := 26) c_145_8 rfl (by decide) (q_aload_n c_145_11 rfl (q_iload_n c_145_12 rfl ?_)))))))
    refine v_pi (z := 0) c_145_13 kf_8_3 rfl (nb_ rfl) rfl rfl rfl (by decide) (q_aload_n c_145_16 rfl (v_gr (t := 42) c_145_17 kf_8_7 rfl (nb_ rfl) rfl (q_iload_n c_145_20 rfl (q_dup2 c_145_21 ⟨rfl, rfl⟩ ?_))))
    have h_29 := ir_42 hI 1
    refine v_ia (v := c 42 1) c_145_22 rfl (by decide) (by decide) (by decide) ((up_c (nn rfl)).trans (up_c (nn rfl))) (q_iconst c_145_23 (v_iadd (v := c 42 1 + 1) c_145_24 rfl (v_nrm (fun y_30 hy_30 => (v_is c_145_25 rfl (by decide) (by decide) (by decide) (q_aload_n c_145_26 rfl (v_gi (z := 0) (v := 1) c_145_27 kf_8_3 rfl (nb_ rfl) rfl rfl ((up_c (nn rfl)).trans (up_e rfl)) (v_if_ne_t (t := 37) c_145_30 rfl (by decide) ?_))))))))
    refine q_iconst c_145_37 (v_zret c_145_38 rfl (by decide) (bk_inl (v_if_ne_f (t := 49) c_228_44 rfl (by decide) (q_iconst c_228_47 (q_iret c_228_48 rfl ?_)))))
    have hI_31 := iw_41_0 (v := 0) hI ⟨by decide, by decide⟩
    have hI_32 := iw_41_0 (v := 1) hI_31 ⟨by decide, by decide⟩
    have hI_33 := iw_42 (j := 1) (v := y_30) hI_32 ⟨hy_30.1, hy_30.2⟩
    exact K (up (up (up c 41 0 0) 41 0 1) 42 1 y_30) 0 hI_33 (fun a j hm => (up_b (Decidable.or_iff_not_imp_left.mpr (fun h1 h2 => hm (Or.inr (Or.inl (Decidable.not_not.mp h1)))))).trans ((up_b (Decidable.or_iff_not_imp_left.mpr (fun h1 h2 => hm (Or.inl ⟨Decidable.not_not.mp h1, h2⟩)))).trans (up_b (Decidable.or_iff_not_imp_left.mpr (fun h1 h2 => hm (Or.inl ⟨Decidable.not_not.mp h1, h2⟩)))))) ⟨by decide, by decide⟩
  · refine v_if_lt_f (t := 18) c_222_1 rfl ⟨by decide, (Int.not_lt.mp h_28), ha1.2⟩ (q_iload_n c_222_4 rfl (q_iconst c_222_5 (q_aload_n c_222_6 rfl ?_)))
    have h_34 := ir_41_20 hI
    refine v_gi (z := 20) (v := c 41 20) c_222_7 kf_8_157 rfl (nb_ rfl) rfl rfl (up_n (by decide)) (v_shl1 c_222_10 ⟨by omega, by omega⟩ (fun y_35 hy_35 => ?_))
    by_cases h_36 : a1 ≥ y_35
    · refine v_ic_ge_t (t := 18) c_222_11 rfl ⟨(Int.le_trans (by decide) hy_35.1), h_36, ha1.2⟩ (q_iconst c_222_18 (v_zret c_222_19 rfl (by decide) (bk_inl (v_if_eq_t (t := 38) c_228_11 rfl (by decide) (q_iconst c_228_38 (q_iconst c_228_39 (q_iconst c_228_40 ?_)))))))
      refine v_cv c_228_41 km_8_203 rfl rfl (nb_ rfl) ⟨⟨rfl, rfl⟩, nb_ rfl, rfl⟩ (nb_ rfl) (nb_ rfl) (q_iload_n c_145_0 rfl (v_if_ne_f (t := 26) c_145_1 rfl (by decide) (q_aload_n c_145_4 rfl (v_gi (z := 0) (v := 0) c_145_5 kf_8_3 rfl (nb_ rfl) rfl rfl (up_e rfl) (v_if_ne_f (t := 26) c_145_8 rfl (by decide) (q_aload_n c_145_11 rfl (q_iload_n c_145_12 rfl ?_)))))))
      refine v_pi (z := 0) c_145_13 kf_8_3 rfl (nb_ rfl) rfl rfl rfl (by decide) (q_aload_n c_145_16 rfl (v_gr (t := 42) c_145_17 kf_8_7 rfl (nb_ rfl) rfl (q_iload_n c_145_20 rfl (q_dup2 c_145_21 ⟨rfl, rfl⟩ ?_))))
      have h_37 := ir_42 hI 1
      refine v_ia (v := c 42 1) c_145_22 rfl (by decide) (by decide) (by decide) ((up_c (nn rfl)).trans (up_c (nn rfl))) (q_iconst c_145_23 (v_iadd (v := c 42 1 + 1) c_145_24 rfl (v_nrm (fun y_38 hy_38 => (v_is c_145_25 rfl (by decide) (by decide) (by decide) (q_aload_n c_145_26 rfl (v_gi (z := 0) (v := 1) c_145_27 kf_8_3 rfl (nb_ rfl) rfl rfl ((up_c (nn rfl)).trans (up_e rfl)) (v_if_ne_t (t := 37) c_145_30 rfl (by decide) ?_))))))))
      refine q_iconst c_145_37 (v_zret c_145_38 rfl (by decide) (bk_inl (v_if_ne_f (t := 49) c_228_44 rfl (by decide) (q_iconst c_228_47 (q_iret c_228_48 rfl ?_)))))
      have hI_39 := iw_41_0 (v := 0) hI ⟨by decide, by decide⟩
      have hI_40 := iw_41_0 (v := 1) hI_39 ⟨by decide, by decide⟩
      have hI_41 := iw_42 (j := 1) (v := y_38) hI_40 ⟨hy_38.1, hy_38.2⟩
      exact K (up (up (up c 41 0 0) 41 0 1) 42 1 y_38) 0 hI_41 (fun a j hm => (up_b (Decidable.or_iff_not_imp_left.mpr (fun h1 h2 => hm (Or.inr (Or.inl (Decidable.not_not.mp h1)))))).trans ((up_b (Decidable.or_iff_not_imp_left.mpr (fun h1 h2 => hm (Or.inl ⟨Decidable.not_not.mp h1, h2⟩)))).trans (up_b (Decidable.or_iff_not_imp_left.mpr (fun h1 h2 => hm (Or.inl ⟨Decidable.not_not.mp h1, h2⟩)))))) ⟨by decide, by decide⟩
    · refine v_ic_ge_f (t := 18) c_222_11 rfl ⟨ha1.1, (Int.not_le.mp h_36), (Int.le_trans hy_35.2 (by decide))⟩ (q_iconst c_222_14 (q_goto (t := 19) c_222_15 rfl (v_zret c_222_19 rfl (by decide) (bk_inl (v_if_eq_f (t := 38) c_228_11 rfl (by decide) (q_iload_n c_228_14 rfl (q_iconst c_228_15 ?_)))))))
      refine v_ldcw (n := 99999) c_228_16 rfl (by decide +kernel) (q_call c_228_19 rfl rfl rfl (q_iload_n c_146_0 rfl (q_iload_n c_146_1 rfl ?_)))
      by_cases h_42 : a2 < 0
      · refine v_ic_lt_t (t := 14) c_146_2 rfl ⟨ha2.1, h_42, by decide⟩ (q_iconst c_146_14 (v_zret c_146_15 rfl (by decide) (bk_inl (v_if_eq_t (t := 38) c_228_22 rfl (by decide) (q_iconst c_228_38 (q_iconst c_228_39 (q_iconst c_228_40 ?_)))))))
        refine v_cv c_228_41 km_8_203 rfl rfl (nb_ rfl) ⟨⟨rfl, rfl⟩, nb_ rfl, rfl⟩ (nb_ rfl) (nb_ rfl) (q_iload_n c_145_0 rfl (v_if_ne_f (t := 26) c_145_1 rfl (by decide) (q_aload_n c_145_4 rfl (v_gi (z := 0) (v := 0) c_145_5 kf_8_3 rfl (nb_ rfl) rfl rfl (up_e rfl) (v_if_ne_f (t := 26) c_145_8 rfl (by decide) (q_aload_n c_145_11 rfl (q_iload_n c_145_12 rfl ?_)))))))
        refine v_pi (z := 0) c_145_13 kf_8_3 rfl (nb_ rfl) rfl rfl rfl (by decide) (q_aload_n c_145_16 rfl (v_gr (t := 42) c_145_17 kf_8_7 rfl (nb_ rfl) rfl (q_iload_n c_145_20 rfl (q_dup2 c_145_21 ⟨rfl, rfl⟩ ?_))))
        have h_43 := ir_42 hI 1
        refine v_ia (v := c 42 1) c_145_22 rfl (by decide) (by decide) (by decide) ((up_c (nn rfl)).trans (up_c (nn rfl))) (q_iconst c_145_23 (v_iadd (v := c 42 1 + 1) c_145_24 rfl (v_nrm (fun y_44 hy_44 => (v_is c_145_25 rfl (by decide) (by decide) (by decide) (q_aload_n c_145_26 rfl (v_gi (z := 0) (v := 1) c_145_27 kf_8_3 rfl (nb_ rfl) rfl rfl ((up_c (nn rfl)).trans (up_e rfl)) (v_if_ne_t (t := 37) c_145_30 rfl (by decide) ?_))))))))
        refine q_iconst c_145_37 (v_zret c_145_38 rfl (by decide) (bk_inl (v_if_ne_f (t := 49) c_228_44 rfl (by decide) (q_iconst c_228_47 (q_iret c_228_48 rfl ?_)))))
        have hI_45 := iw_41_0 (v := 0) hI ⟨by decide, by decide⟩
        have hI_46 := iw_41_0 (v := 1) hI_45 ⟨by decide, by decide⟩
        have hI_47 := iw_42 (j := 1) (v := y_44) hI_46 ⟨hy_44.1, hy_44.2⟩
        exact K (up (up (up c 41 0 0) 41 0 1) 42 1 y_44) 0 hI_47 (fun a j hm => (up_b (Decidable.or_iff_not_imp_left.mpr (fun h1 h2 => hm (Or.inr (Or.inl (Decidable.not_not.mp h1)))))).trans ((up_b (Decidable.or_iff_not_imp_left.mpr (fun h1 h2 => hm (Or.inl ⟨Decidable.not_not.mp h1, h2⟩)))).trans (up_b (Decidable.or_iff_not_imp_left.mpr (fun h1 h2 => hm (Or.inl ⟨Decidable.not_not.mp h1, h2⟩)))))) ⟨by decide, by decide⟩
      · refine v_ic_lt_f (t := 14) c_146_2 rfl ⟨by decide, (Int.not_lt.mp h_42), ha2.2⟩ (q_iload_n c_146_5 rfl (q_iload_n c_146_6 rfl ?_))
        by_cases h_48 : a2 > 99999
        · refine v_ic_gt_t (t := 14) c_146_7 rfl ⟨by decide, h_48, ha2.2⟩ (q_iconst c_146_14 (v_zret c_146_15 rfl (by decide) (bk_inl (v_if_eq_t (t := 38) c_228_22 rfl (by decide) (q_iconst c_228_38 (q_iconst c_228_39 (q_iconst c_228_40 ?_)))))))
          refine v_cv c_228_41 km_8_203 rfl rfl (nb_ rfl) ⟨⟨rfl, rfl⟩, nb_ rfl, rfl⟩ (nb_ rfl) (nb_ rfl) (q_iload_n c_145_0 rfl (v_if_ne_f (t := 26) c_145_1 rfl (by decide) (q_aload_n c_145_4 rfl (v_gi (z := 0) (v := 0) c_145_5 kf_8_3 rfl (nb_ rfl) rfl rfl (up_e rfl) (v_if_ne_f (t := 26) c_145_8 rfl (by decide) (q_aload_n c_145_11 rfl (q_iload_n c_145_12 rfl ?_)))))))
          refine v_pi (z := 0) c_145_13 kf_8_3 rfl (nb_ rfl) rfl rfl rfl (by decide) (q_aload_n c_145_16 rfl (v_gr (t := 42) c_145_17 kf_8_7 rfl (nb_ rfl) rfl (q_iload_n c_145_20 rfl (q_dup2 c_145_21 ⟨rfl, rfl⟩ ?_))))
          have h_49 := ir_42 hI 1
          refine v_ia (v := c 42 1) c_145_22 rfl (by decide) (by decide) (by decide) ((up_c (nn rfl)).trans (up_c (nn rfl))) (q_iconst c_145_23 (v_iadd (v := c 42 1 + 1) c_145_24 rfl (v_nrm (fun y_50 hy_50 => (v_is c_145_25 rfl (by decide) (by decide) (by decide) (q_aload_n c_145_26 rfl (v_gi (z := 0) (v := 1) c_145_27 kf_8_3 rfl (nb_ rfl) rfl rfl ((up_c (nn rfl)).trans (up_e rfl)) (v_if_ne_t (t := 37) c_145_30 rfl (by decide) ?_))))))))
          refine q_iconst c_145_37 (v_zret c_145_38 rfl (by decide) (bk_inl (v_if_ne_f (t := 49) c_228_44 rfl (by decide) (q_iconst c_228_47 (q_iret c_228_48 rfl ?_)))))
          have hI_51 := iw_41_0 (v := 0) hI ⟨by decide, by decide⟩
          have hI_52 := iw_41_0 (v := 1) hI_51 ⟨by decide, by decide⟩
          have hI_53 := iw_42 (j := 1) (v := y_50) hI_52 ⟨hy_50.1, hy_50.2⟩
          exact K (up (up (up c 41 0 0) 41 0 1) 42 1 y_50) 0 hI_53 (fun a j hm => (up_b (Decidable.or_iff_not_imp_left.mpr (fun h1 h2 => hm (Or.inr (Or.inl (Decidable.not_not.mp h1)))))).trans ((up_b (Decidable.or_iff_not_imp_left.mpr (fun h1 h2 => hm (Or.inl ⟨Decidable.not_not.mp h1, h2⟩)))).trans (up_b (Decidable.or_iff_not_imp_left.mpr (fun h1 h2 => hm (Or.inl ⟨Decidable.not_not.mp h1, h2⟩)))))) ⟨by decide, by decide⟩
        · refine v_ic_gt_f (t := 14) c_146_7 rfl ⟨ha2.1, (Int.not_lt.mp h_48), by decide⟩ (q_iconst c_146_10 (q_goto (t := 15) c_146_11 rfl (v_zret c_146_15 rfl (by decide) (bk_inl (v_if_eq_f (t := 38) c_228_22 rfl (by decide) (q_iload_n c_228_25 rfl (q_iconst c_228_26 ?_)))))))
          refine q_iconst c_228_27 (q_call c_228_28 rfl rfl rfl (q_iload_n c_146_0 rfl (q_iload_n c_146_1 rfl ?_)))
          by_cases h_54 : a3 < 0
          · refine v_ic_lt_t (t := 14) c_146_2 rfl ⟨ha3.1, h_54, by decide⟩ (q_iconst c_146_14 (v_zret c_146_15 rfl (by decide) (bk_inl (v_if_eq_t (t := 38) c_228_31 rfl (by decide) (q_iconst c_228_38 (q_iconst c_228_39 (q_iconst c_228_40 ?_)))))))
            refine v_cv c_228_41 km_8_203 rfl rfl (nb_ rfl) ⟨⟨rfl, rfl⟩, nb_ rfl, rfl⟩ (nb_ rfl) (nb_ rfl) (q_iload_n c_145_0 rfl (v_if_ne_f (t := 26) c_145_1 rfl (by decide) (q_aload_n c_145_4 rfl (v_gi (z := 0) (v := 0) c_145_5 kf_8_3 rfl (nb_ rfl) rfl rfl (up_e rfl) (v_if_ne_f (t := 26) c_145_8 rfl (by decide) (q_aload_n c_145_11 rfl (q_iload_n c_145_12 rfl ?_)))))))
            refine v_pi (z := 0) c_145_13 kf_8_3 rfl (nb_ rfl) rfl rfl rfl (by decide) (q_aload_n c_145_16 rfl (v_gr (t := 42) c_145_17 kf_8_7 rfl (nb_ rfl) rfl (q_iload_n c_145_20 rfl (q_dup2 c_145_21 ⟨rfl, rfl⟩ ?_))))
            have h_55 := ir_42 hI 1
            refine v_ia (v := c 42 1) c_145_22 rfl (by decide) (by decide) (by decide) ((up_c (nn rfl)).trans (up_c (nn rfl))) (q_iconst c_145_23 (v_iadd (v := c 42 1 + 1) c_145_24 rfl (v_nrm (fun y_56 hy_56 => (v_is c_145_25 rfl (by decide) (by decide) (by decide) (q_aload_n c_145_26 rfl (v_gi (z := 0) (v := 1) c_145_27 kf_8_3 rfl (nb_ rfl) rfl rfl ((up_c (nn rfl)).trans (up_e rfl)) (v_if_ne_t (t := 37) c_145_30 rfl (by decide) ?_))))))))
            refine q_iconst c_145_37 (v_zret c_145_38 rfl (by decide) (bk_inl (v_if_ne_f (t := 49) c_228_44 rfl (by decide) (q_iconst c_228_47 (q_iret c_228_48 rfl ?_)))))
            have hI_57 := iw_41_0 (v := 0) hI ⟨by decide, by decide⟩
            have hI_58 := iw_41_0 (v := 1) hI_57 ⟨by decide, by decide⟩
            have hI_59 := iw_42 (j := 1) (v := y_56) hI_58 ⟨hy_56.1, hy_56.2⟩
            exact K (up (up (up c 41 0 0) 41 0 1) 42 1 y_56) 0 hI_59 (fun a j hm => (up_b (Decidable.or_iff_not_imp_left.mpr (fun h1 h2 => hm (Or.inr (Or.inl (Decidable.not_not.mp h1)))))).trans ((up_b (Decidable.or_iff_not_imp_left.mpr (fun h1 h2 => hm (Or.inl ⟨Decidable.not_not.mp h1, h2⟩)))).trans (up_b (Decidable.or_iff_not_imp_left.mpr (fun h1 h2 => hm (Or.inl ⟨Decidable.not_not.mp h1, h2⟩)))))) ⟨by decide, by decide⟩
          · refine v_ic_lt_f (t := 14) c_146_2 rfl ⟨by decide, (Int.not_lt.mp h_54), ha3.2⟩ (q_iload_n c_146_5 rfl (q_iload_n c_146_6 rfl ?_))
            by_cases h_60 : a3 > 2
            · refine v_ic_gt_t (t := 14) c_146_7 rfl ⟨by decide, h_60, ha3.2⟩ (q_iconst c_146_14 (v_zret c_146_15 rfl (by decide) (bk_inl (v_if_eq_t (t := 38) c_228_31 rfl (by decide) (q_iconst c_228_38 (q_iconst c_228_39 (q_iconst c_228_40 ?_)))))))
              refine v_cv c_228_41 km_8_203 rfl rfl (nb_ rfl) ⟨⟨rfl, rfl⟩, nb_ rfl, rfl⟩ (nb_ rfl) (nb_ rfl) (q_iload_n c_145_0 rfl (v_if_ne_f (t := 26) c_145_1 rfl (by decide) (q_aload_n c_145_4 rfl (v_gi (z := 0) (v := 0) c_145_5 kf_8_3 rfl (nb_ rfl) rfl rfl (up_e rfl) (v_if_ne_f (t := 26) c_145_8 rfl (by decide) (q_aload_n c_145_11 rfl (q_iload_n c_145_12 rfl ?_)))))))
              refine v_pi (z := 0) c_145_13 kf_8_3 rfl (nb_ rfl) rfl rfl rfl (by decide) (q_aload_n c_145_16 rfl (v_gr (t := 42) c_145_17 kf_8_7 rfl (nb_ rfl) rfl (q_iload_n c_145_20 rfl (q_dup2 c_145_21 ⟨rfl, rfl⟩ ?_))))
              have h_61 := ir_42 hI 1
              refine v_ia (v := c 42 1) c_145_22 rfl (by decide) (by decide) (by decide) ((up_c (nn rfl)).trans (up_c (nn rfl))) (q_iconst c_145_23 (v_iadd (v := c 42 1 + 1) c_145_24 rfl (v_nrm (fun y_62 hy_62 => (v_is c_145_25 rfl (by decide) (by decide) (by decide) (q_aload_n c_145_26 rfl (v_gi (z := 0) (v := 1) c_145_27 kf_8_3 rfl (nb_ rfl) rfl rfl ((up_c (nn rfl)).trans (up_e rfl)) (v_if_ne_t (t := 37) c_145_30 rfl (by decide) ?_))))))))
              refine q_iconst c_145_37 (v_zret c_145_38 rfl (by decide) (bk_inl (v_if_ne_f (t := 49) c_228_44 rfl (by decide) (q_iconst c_228_47 (q_iret c_228_48 rfl ?_)))))
              have hI_63 := iw_41_0 (v := 0) hI ⟨by decide, by decide⟩
              have hI_64 := iw_41_0 (v := 1) hI_63 ⟨by decide, by decide⟩
              have hI_65 := iw_42 (j := 1) (v := y_62) hI_64 ⟨hy_62.1, hy_62.2⟩
              exact K (up (up (up c 41 0 0) 41 0 1) 42 1 y_62) 0 hI_65 (fun a j hm => (up_b (Decidable.or_iff_not_imp_left.mpr (fun h1 h2 => hm (Or.inr (Or.inl (Decidable.not_not.mp h1)))))).trans ((up_b (Decidable.or_iff_not_imp_left.mpr (fun h1 h2 => hm (Or.inl ⟨Decidable.not_not.mp h1, h2⟩)))).trans (up_b (Decidable.or_iff_not_imp_left.mpr (fun h1 h2 => hm (Or.inl ⟨Decidable.not_not.mp h1, h2⟩)))))) ⟨by decide, by decide⟩
            · refine v_ic_gt_f (t := 14) c_146_7 rfl ⟨ha3.1, (Int.not_lt.mp h_60), by decide⟩ (q_iconst c_146_10 (q_goto (t := 15) c_146_11 rfl (v_zret c_146_15 rfl (by decide) (bk_inl (v_if_eq_f (t := 38) c_228_31 rfl (by decide) (q_iconst c_228_34 (q_goto (t := 39) c_228_35 rfl ?_)))))))
              refine q_iconst c_228_39 (q_iconst c_228_40 (v_cv c_228_41 km_8_203 rfl rfl (nb_ rfl) ⟨⟨rfl, rfl⟩, nb_ rfl, rfl⟩ (nb_ rfl) (nb_ rfl) (q_iload_n c_145_0 rfl (v_if_ne_t (t := 26) c_145_1 rfl (by decide) (q_aload_n c_145_26 rfl (v_gi (z := 0) (v := 0) c_145_27 kf_8_3 rfl (nb_ rfl) rfl rfl (up_e rfl) (v_if_ne_f (t := 37) c_145_30 rfl (by decide) ?_)))))))
              refine q_iconst c_145_33 (q_goto (t := 38) c_145_34 rfl (v_zret c_145_38 rfl (by decide) (bk_inl (v_if_ne_t (t := 49) c_228_44 rfl (by decide) (q_aload_n c_228_49 rfl ?_)))))
              have hI_66 := iw_41_0 (v := 0) hI ⟨by decide, by decide⟩
              refine v_cv c_228_50 km_8_317 rfl rfl (nb_ rfl) ⟨⟨rfl, rfl⟩, nb_ rfl, rfl⟩ (nb_ rfl) (nb_ rfl) (s_186 hI_66 (fun c_67 hI_68 hF_69 => (bk_inl (q_iload_n c_228_53 rfl (q_aload_n c_228_54 rfl (v_cv c_228_55 km_8_390 rfl rfl (nb_ rfl) ⟨⟨rfl, rfl⟩, nb_ rfl, rfl⟩ (nb_ rfl) (nb_ rfl) (s_209 hI_68 (fun y_70 hy_70 => (bk_inl (q_iconst c_228_58 (v_ixorx c_228_59 (fun y_71 hy_71 => ?_))))))))))))
              refine v_iandl c_228_60 ⟨by omega, by omega⟩ (fun y_72 hy_72 => (q_istore c_228_61 (nb_ rfl) (q_iconst c_228_63 (q_istore c_228_64 (nb_ rfl) (q_iconst c_228_66 (q_istore c_228_67 (nb_ rfl) (Wp_ls [(0, .ref 41), (1, vi a1), (2, vi a2), (3, vi a3), (4, vi y_72), (5, vi 0), (6, vi 1)] (lsub_cons rfl (lsub_cons rfl (lsub_cons rfl (lsub_cons rfl (lsub_cons rfl (lsub_cons rfl (lsub_cons rfl lsub_nil))))))) ?_)))))))
              exact (s_228_l (sc := sc) (d := d) hI ha1 ha2 ha3 K 130) c_67 y_72 0 1 hI_68 (fun a j hm => (hF_69 a j (fun h => hm (Or.inr (Or.inr (Or.inl h))))).trans (up_b (Decidable.or_iff_not_imp_left.mpr (fun h1 h2 => hm (Or.inl ⟨Decidable.not_not.mp h1, h2⟩))))) ⟨by omega, by omega⟩ ⟨by decide, by decide⟩ ⟨by decide, by decide⟩ (by omega)

set_option maxRecDepth 100000 in
set_option maxHeartbeats 4000000 in
theorem s_229_l {sc : List Int32} {e : Int} {d u P Q : Nat} {c : ME} {a1 : Int} {a2 : Int} {Z : AR → Prop} (hI : Iv u e P Q c) (ha1 : 0 ≤ a1 ∧ a1 ≤ 3) (ha2 : 0 ≤ a2 ∧ a2 ≤ 5) (K : ∀ (y : Int), 0 ≤ y ∧ y ≤ 1 → Z (.inl (some (vi y)), Wd P Q P P c, 0, 0)) : ∀ n : Nat, (∀ (v3 : Int), 0 ≤ v3 ∧ v3 ≤ 4 → 9 - 2 * v3 < (n : Int) → Wp sc (d + 8) 229 12 [(0, .ref 41), (1, vi a1), (2, vi a2), (3, vi v3)] [] (Wd P Q P P c) 0 0 Z) := by
  intro n
  induction n with
  | zero => exact (by intro v3 hv3 hm9; have hP := iv_P hI; have hQ := iv_Q hI; exfalso; omega)
  | succ n ih =>
    have hP := iv_P hI
    have hQ := iv_Q hI
    intro v3 hv3 hm9
    refine q_iload_n c_229_12 rfl (q_iconst c_229_13 ?_)
    by_cases h_1 : v3 ≥ 4
    · refine v_ic_ge_t (t := 51) c_229_14 rfl ⟨by decide, h_1, (Int.le_trans hv3.2 (by decide))⟩ (q_iconst c_229_51 (v_zret c_229_52 rfl (by decide) ?_))
      exact K 1 ⟨by decide, by decide⟩
    · refine v_ic_ge_f (t := 51) c_229_14 rfl ⟨(Int.le_trans (by decide) hv3.1), (Int.not_le.mp h_1), by decide⟩ (q_aload_n c_229_17 rfl (v_gr (t := 64) c_229_18 kf_8_83 rfl (nb_ rfl) rfl (q_iload_n c_229_21 rfl ?_)))
      have h_2 := ir_64 hI v3
      refine v_ia (v := c 64 v3) c_229_22 rfl (by decide) (by decide) ⟨hv3.1, by first | exact q_2e808647e h_1 | omega⟩ rfl (q_iconst c_229_23 ?_)
      by_cases h_3 : c 64 v3 = (-1)
      · refine v_ic_eq_t (t := 45) c_229_24 rfl h_3 (v_iinc (v := v3 + 1) c_229_45 rfl (nb_ rfl) rfl (q_goto (t := 12) c_229_48 rfl (Wp_ls [(0, .ref 41), (1, vi a1), (2, vi a2), (3, vi (v3 + 1))] (lsub_cons rfl (lsub_cons rfl (lsub_cons rfl (lsub_cons rfl lsub_nil)))) ?_)))
        exact ih (v3 + 1) ⟨by first | exact rgp_l hv3.1 (by decide) | omega, by first | exact q_121241f94 h_1 | omega⟩ (by omega)
      · refine v_ic_eq_f (t := 45) c_229_24 rfl ⟨h_3, ⟨(Int.le_trans (by decide) h_2.1), (Int.le_trans h_2.2 (by decide))⟩, by decide, by decide⟩ (q_aload_n c_229_27 rfl (q_iload_n c_229_28 rfl (q_iload_n c_229_29 rfl (q_iload_n c_229_30 rfl ?_))))
        have h_4 := ir_49 hI a1
        have h_5 := ir_59 hI (a1 + 30)
        have h_6 := ir_59_g hI (j := 4 * a2 + v3) (by first | exact q_e3e978779 h_1 ha2 | omega)
        have h_7 := fal_rng (m := c 49 a1) (t := c 59 (a1 + 30)) (g := v3) (x := c 59 (4 * a2 + v3)) (by first | exact q_c6ed8760d h_6 | omega)
        refine v_cv c_229_31 km_8_363 rfl rfl (nb_ rfl) ⟨⟨rfl, rfl⟩, nb_ rfl, rfl⟩ (nb_ rfl) (nb_ rfl) (s_189 (v1 := c 49 a1) (v2 := c 59 (a1 + 30)) (v3 := c 59 (4 * a2 + v3)) (r := (fal (c 49 a1) (c 59 (a1 + 30)) v3 (c 59 (4 * a2 + v3)))) (a1 := a1) (a2 := a2) (a3 := v3) hI (show 0 ≤ a1 ∧ a1 ≤ 3 from ha1) (show 0 ≤ a2 ∧ a2 ≤ 5 from ha2) (show 0 ≤ v3 ∧ v3 ≤ 3 from ⟨hv3.1, by first | exact q_482ef8d41 h_1 | omega⟩) (rfl) (rfl) (rfl) rfl (bk_inl (q_aload_n c_229_34 rfl (v_gr (t := 64) c_229_35 kf_8_83 rfl (nb_ rfl) rfl (q_iload_n c_229_38 rfl (v_ia (v := c 64 v3) c_229_39 rfl (by decide) (by decide) ⟨hv3.1, by first | exact q_2e808647e h_1 | omega⟩ rfl ?_))))))
        by_cases h_8 : (fal (c 49 a1) (c 59 (a1 + 30)) v3 (c 59 (4 * a2 + v3))) = c 64 v3
        · refine v_ic_eq_t (t := 45) c_229_40 rfl h_8 (v_iinc (v := v3 + 1) c_229_45 rfl (nb_ rfl) rfl (q_goto (t := 12) c_229_48 rfl (Wp_ls [(0, .ref 41), (1, vi a1), (2, vi a2), (3, vi (v3 + 1))] (lsub_cons rfl (lsub_cons rfl (lsub_cons rfl (lsub_cons rfl lsub_nil)))) ?_)))
          exact ih (v3 + 1) ⟨by first | exact rgp_l hv3.1 (by decide) | omega, by first | exact q_121241f94 h_1 | omega⟩ (by omega)
        · refine v_ic_eq_f (t := 45) c_229_40 rfl ⟨h_8, ⟨by first | exact q_fda856264 h_7 | omega, by first | exact q_4bf067e8d h_6 h_7 | omega⟩, (Int.le_trans (by decide) h_2.1), (Int.le_trans h_2.2 (by decide))⟩ (q_iconst c_229_43 (v_zret c_229_44 rfl (by decide) ?_))
          exact K 0 ⟨by decide, by decide⟩
set_option maxRecDepth 100000 in
set_option maxHeartbeats 4000000 in
theorem s_229 {sc : List Int32} {e : Int} {d u P Q : Nat} {c : ME} {a1 : Int} {a2 : Int} {Z : AR → Prop} (hI : Iv u e P Q c) (ha1 : 0 ≤ a1 ∧ a1 ≤ 3) (ha2 : 0 ≤ a2 ∧ a2 ≤ 5) (K : ∀ (y : Int), 0 ≤ y ∧ y ≤ 1 → Z (.inl (some (vi y)), Wd P Q P P c, 0, 0)) : Wp sc (d + 8) 229 0 [(0, .ref 41), (1, vi a1), (2, vi a2)] [] (Wd P Q P P c) 0 0 Z := by
  have hP := iv_P hI
  have hQ := iv_Q hI
  refine q_aload_n c_229_0 rfl (q_iload_n c_229_1 rfl ?_)
  have h_9 := ir_59_g hI (j := 4 * a2) (by first | exact q_9f1d5ffdc ha2 | omega)
  have h_10 := ir_59_g hI (j := 4 * a2 + 1) (by first | exact q_0a2ee6f8f ha2 | omega)
  have h_11 := ir_59_g hI (j := 4 * a2 + 2) (by first | exact q_e07a293a2 ha2 | omega)
  have h_12 := ir_59_g hI (j := 4 * a2 + 3) (by first | exact q_d09cb0b73 ha2 | omega)
  refine v_cv c_229_2 km_8_343 rfl rfl (nb_ rfl) ⟨⟨rfl, rfl⟩, nb_ rfl, rfl⟩ (nb_ rfl) (nb_ rfl) (s_187 (v1 := c 59 (4 * a2)) (v2 := c 59 (4 * a2 + 1)) (v3 := c 59 (4 * a2 + 2)) (v4 := c 59 (4 * a2 + 3)) (r := c 59 (4 * a2 + 1) + c 59 (4 * a2 + 2) + c 59 (4 * a2 + 3) + c 59 (4 * a2)) (a1 := a2) hI (show 0 ≤ a2 ∧ a2 ≤ 5 from ha2) (rfl) (rfl) (rfl) (rfl) (by omega) (bk_inl ?_))
  by_cases h_13 : c 59 (4 * a2 + 1) + c 59 (4 * a2 + 2) + c 59 (4 * a2 + 3) + c 59 (4 * a2) ≠ 0
  · refine v_if_ne_t (t := 10) c_229_5 rfl ⟨h_13, ⟨by first | exact q_8c4697e7c h_10 h_11 h_12 h_9 | omega, by first | exact q_46d991406 h_10 h_11 h_12 h_9 | omega⟩, by decide, by decide⟩ (q_iconst c_229_10 (q_istore_n c_229_11 (nb_ rfl) (Wp_ls [(0, .ref 41), (1, vi a1), (2, vi a2), (3, vi 0)] (lsub_cons rfl (lsub_cons rfl (lsub_cons rfl (lsub_cons rfl lsub_nil)))) ?_)))
    exact (s_229_l (sc := sc) (d := d) hI ha1 ha2 K 12) 0 ⟨by decide, by decide⟩ (by omega)
  · refine v_if_ne_f (t := 10) c_229_5 rfl (Decidable.not_not.mp h_13) (q_iconst c_229_8 (v_zret c_229_9 rfl (by decide) ?_))
    exact K 0 ⟨by decide, by decide⟩

set_option maxRecDepth 100000 in
set_option maxHeartbeats 4000000 in
theorem s_230_l {sc : List Int32} {d P Q : Nat} {c : ME} {a1 : Int} {Z : AR → Prop} (hI : Iv 0 (-1) P Q c) (ha1 : (-2147483648) ≤ a1 ∧ a1 ≤ 2147483647) (K : ∀ (c2 : ME) (y : Int), Iv 0 (-1) P Q c2 → (∀ (a : Nat) (j : Int), ¬ ((a = 41 ∧ j = 0) ∨ a = 42 ∨ a = 59) → c2 a j = c a j) → (-2147483648) ≤ y ∧ y ≤ 2147483647 → Z (.inl (some (vi y)), Wd P Q P P c2, 0, 0)) : ∀ n : Nat, (∀ (c2 : ME) (v2 : Int) (v3 : Int) (v4 : Int), Iv 0 (-1) P Q c2 → (∀ (a : Nat) (j : Int), ¬ ((a = 41 ∧ j = 0) ∨ a = 42 ∨ a = 59) → c2 a j = c a j) → (-2147483648) ≤ v2 ∧ v2 ≤ 2147483647 → (-2147483648) ≤ v3 ∧ v3 ≤ 2147483647 → 0 ≤ v4 ∧ v4 ≤ 24 → 49 - 2 * v4 < (n : Int) → Wp sc (d + 9) 230 33 [(0, .ref 41), (1, vi a1), (2, vi v2), (3, vi v3), (4, vi v4)] [] (Wd P Q P P c2) 0 0 Z) := by
  intro n
  induction n with
  | zero => exact (by intro c2 v2 v3 v4 hI2 hF hv2 hv3 hv4 hm9; have hP := iv_P hI; have hQ := iv_Q hI; exfalso; omega)
  | succ n ih =>
    have hP := iv_P hI
    have hQ := iv_Q hI
    intro c2 v2 v3 v4 hI2 hF hv2 hv3 hv4 hm9
    refine q_iload c_230_33 rfl (q_aload_n c_230_35 rfl ?_)
    have h_1 := ir_41_22 hI
    have kn_2 : Hid (c2 41 22 = c 41 22) := hF 41 22 qn_1a460b46b
    refine v_gi (z := 22) (v := c 41 22) c_230_36 kf_8_163 rfl (nb_ rfl) rfl rfl (hid kn_2) (q_aload_n c_230_39 rfl ?_)
    have h_3 := ir_41_20 hI
    have kn_4 : Hid (c2 41 20 = c 41 20) := hF 41 20 qn_110b29ed6
    refine v_gi (z := 20) (v := c 41 20) c_230_40 kf_8_157 rfl (nb_ rfl) rfl rfl (hid kn_4) ?_
    have h_5 : 0 ≤ (c 41 22) * (c 41 20) ∧ (c 41 22) * (c 41 20) ≤ 6 * (c 41 22) := mul_bd (by omega) (by omega) (by omega)
    have h_6 : 0 ≤ (c 41 22) * (c 41 20) ∧ (c 41 22) * (c 41 20) ≤ 4 * (c 41 20) := mul_bd2 (by omega) (by omega) (by omega)
    refine v_imul (v := ((c 41 22) * (c 41 20))) c_230_43 rfl ?_
    by_cases h_7 : v4 ≥ ((c 41 22) * (c 41 20))
    · refine v_ic_ge_t (t := 108) c_230_44 rfl ⟨by omega, h_7, (Int.le_trans hv4.2 (by decide))⟩ (q_iload_n c_230_108 rfl ?_)
      by_cases h_8 : a1 ≠ 0
      · refine v_if_ne_t (t := 116) c_230_109 rfl ⟨h_8, ⟨ha1.1, ha1.2⟩, by decide, by decide⟩ (q_iload_n c_230_116 rfl (q_iret c_230_117 rfl ?_))
        exact K c2 v3 hI2 (fun a j hm => hF a j hm) hv3
      · refine v_if_ne_f (t := 116) c_230_109 rfl (Decidable.not_not.mp h_8) (q_iload_n c_230_112 rfl (q_goto (t := 117) c_230_113 rfl (q_iret c_230_117 rfl ?_)))
        exact K c2 v2 hI2 (fun a j hm => hF a j hm) hv2
    · refine v_ic_ge_f (t := 108) c_230_44 rfl ⟨(Int.le_trans (by decide) hv4.1), (Int.not_le.mp h_7), by omega⟩ (q_aload_n c_230_47 rfl (q_iload c_230_48 rfl (q_aload_n c_230_50 rfl (v_gi (z := 20) (v := c 41 20) c_230_51 kf_8_157 rfl (nb_ rfl) rfl rfl (hid kn_4) ?_))))
      have h_9 : 0 ≤ (v4 / (c 41 20)) ∧ (v4 / (c 41 20)) < c 41 22 := div_lt (by omega) (by omega) (by omega)
      refine v_idiv (v := (v4 / (c 41 20))) c_230_54 (by omega) rfl (q_iload c_230_55 rfl (q_aload_n c_230_57 rfl (v_gi (z := 20) (v := c 41 20) c_230_58 kf_8_157 rfl (nb_ rfl) rfl rfl (hid kn_4) ?_)))
      have h_10 : 0 ≤ (v4 % (c 41 20)) ∧ (v4 % (c 41 20)) < c 41 20 := rem_bd (by omega)
      refine v_irem (v := (v4 % (c 41 20))) c_230_61 (by omega) rfl (v_cv c_230_62 km_8_417 rfl rfl (nb_ rfl) ⟨⟨rfl, rfl⟩, nb_ rfl, rfl⟩ (nb_ rfl) (nb_ rfl) (s_229 (a1 := (v4 / (c 41 20))) (a2 := (v4 % (c 41 20))) hI2 (show 0 ≤ (v4 / (c 41 20)) ∧ (v4 / (c 41 20)) ≤ 3 from ⟨by first | exact q_c4fec1d75 h_9 | omega, by first | exact q_6b730c0e0 h_1 h_9 | omega⟩) (show 0 ≤ (v4 % (c 41 20)) ∧ (v4 % (c 41 20)) ≤ 5 from ⟨by first | exact q_c4fec1d75 h_10 | omega, by first | exact q_5fbbc52e7 h_10 h_3 | omega⟩) (fun y_11 hy_11 => (bk_inl ?_))))
      by_cases h_12 : y_11 ≠ 0
      · refine v_if_ne_t (t := 71) c_230_65 rfl ⟨h_12, ⟨(Int.le_trans (by decide) hy_11.1), (Int.le_trans hy_11.2 (by decide))⟩, by decide, by decide⟩ (v_iincx c_230_71 rfl (by decide) (fun y_13 hy_13 => (q_iload_n c_230_74 rfl (q_iconst c_230_75 ?_))))
        by_cases h_14 : v3 ≠ (-1)
        · refine v_ic_ne_t (t := 100) c_230_76 rfl ⟨h_14, ⟨hv3.1, hv3.2⟩, by decide, by decide⟩ (q_iload_n c_230_100 rfl (q_istore_n c_230_101 (nb_ rfl) (v_iinc (v := v4 + 1) c_230_102 rfl (nb_ rfl) rfl (q_goto (t := 33) c_230_105 rfl (Wp_ls [(0, .ref 41), (1, vi a1), (2, vi y_13), (3, vi v3), (4, vi (v4 + 1))] (lsub_cons rfl (lsub_cons rfl (lsub_cons rfl (lsub_cons rfl (lsub_cons rfl lsub_nil))))) ?_)))))
          exact ih c2 y_13 v3 (v4 + 1) hI2 (fun a j hm => hF a j hm) hy_13 hv3 ⟨by first | exact rgp_l hv4.1 (by decide) | omega, by first | (clear ha1 hv2 hv3 hv4 h_1 h_5 h_9 h_10 h_12 h_14; omega) | omega⟩ (by omega)
        · refine v_ic_ne_f (t := 100) c_230_76 rfl (Decidable.not_not.mp h_14) (v_bip c_230_79 (by decide) (q_iload c_230_81 rfl (q_aload_n c_230_83 rfl (v_gi (z := 20) (v := c 41 20) c_230_84 kf_8_157 rfl (nb_ rfl) rfl rfl (hid kn_4) ?_))))
          have h_15 : 0 ≤ (v4 / (c 41 20)) ∧ (v4 / (c 41 20)) < c 41 22 := div_lt (by omega) (by omega) (by omega)
          refine v_idiv (v := (v4 / (c 41 20))) c_230_87 (by omega) rfl (v_imul (v := 10 * (v4 / (c 41 20))) c_230_88 rfl (q_iload c_230_89 rfl (q_aload_n c_230_91 rfl (v_gi (z := 20) (v := c 41 20) c_230_92 kf_8_157 rfl (nb_ rfl) rfl rfl (hid kn_4) ?_))))
          have h_16 : 0 ≤ (v4 % (c 41 20)) ∧ (v4 % (c 41 20)) < c 41 20 := rem_bd (by omega)
          refine v_irem (v := (v4 % (c 41 20))) c_230_95 (by omega) rfl (v_iadd (v := (v4 % (c 41 20)) + 10 * (v4 / (c 41 20))) c_230_96 (by first | exact q_022711c41 | omega) (q_goto (t := 101) c_230_97 rfl (q_istore_n c_230_101 (nb_ rfl) (v_iinc (v := v4 + 1) c_230_102 rfl (nb_ rfl) rfl (q_goto (t := 33) c_230_105 rfl (Wp_ls [(0, .ref 41), (1, vi a1), (2, vi y_13), (3, vi ((v4 % (c 41 20)) + 10 * (v4 / (c 41 20)))), (4, vi (v4 + 1))] (lsub_cons rfl (lsub_cons rfl (lsub_cons rfl (lsub_cons rfl (lsub_cons rfl lsub_nil))))) ?_))))))
          exact ih c2 y_13 ((v4 % (c 41 20)) + 10 * (v4 / (c 41 20))) (v4 + 1) hI2 (fun a j hm => hF a j hm) hy_13 ⟨by first | exact q_37f19ee02 h_10 h_9 | omega, by first | exact q_112b0dcbc h_1 h_10 h_3 h_9 | omega⟩ ⟨by first | exact rgp_l hv4.1 (by decide) | omega, by first | (clear ha1 hv2 hv3 hv4 h_1 h_5 h_9 h_10 h_14 h_15 h_16 h_12; omega) | omega⟩ (by omega)
      · refine v_if_ne_f (t := 71) c_230_65 rfl (Decidable.not_not.mp h_12) (q_goto (t := 102) c_230_68 rfl (v_iinc (v := v4 + 1) c_230_102 rfl (nb_ rfl) rfl (q_goto (t := 33) c_230_105 rfl (Wp_ls [(0, .ref 41), (1, vi a1), (2, vi v2), (3, vi v3), (4, vi (v4 + 1))] (lsub_cons rfl (lsub_cons rfl (lsub_cons rfl (lsub_cons rfl (lsub_cons rfl lsub_nil))))) ?_))))
        exact ih c2 v2 v3 (v4 + 1) hI2 (fun a j hm => hF a j hm) hv2 hv3 ⟨by first | exact rgp_l hv4.1 (by decide) | omega, by omega⟩ (by omega)
set_option maxRecDepth 100000 in
set_option maxHeartbeats 4000000 in
theorem s_230 {sc : List Int32} {d P Q : Nat} {c : ME} {a1 : Int} {Z : AR → Prop} (hI : Iv 0 (-1) P Q c) (ha1 : (-2147483648) ≤ a1 ∧ a1 ≤ 2147483647) (K : ∀ (c2 : ME) (y : Int), Iv 0 (-1) P Q c2 → (∀ (a : Nat) (j : Int), ¬ ((a = 41 ∧ j = 0) ∨ a = 42 ∨ a = 59) → c2 a j = c a j) → (-2147483648) ≤ y ∧ y ≤ 2147483647 → Z (.inl (some (vi y)), Wd P Q P P c2, 0, 0)) : Wp sc (d + 9) 230 0 [(0, .ref 41), (1, vi a1)] [] (Wd P Q P P c) 0 0 Z := by
  have hP := iv_P hI
  have hQ := iv_Q hI
  refine q_aload_n c_230_0 rfl (q_iconst c_230_1 (v_pi (z := 0) c_230_2 kf_8_3 rfl (nb_ rfl) rfl rfl rfl (by decide) (q_aload_n c_230_5 rfl (q_iload_n c_230_6 rfl (q_iconst c_230_7 (q_iconst c_230_8 (q_call c_230_9 rfl rfl rfl ?_)))))))
  refine q_iload_n c_146_0 rfl (q_iload_n c_146_1 rfl ?_)
  by_cases h_17 : a1 < 0
  · refine v_ic_lt_t (t := 14) c_146_2 rfl ⟨ha1.1, h_17, by decide⟩ (q_iconst c_146_14 (v_zret c_146_15 rfl (by decide) (bk_inl (q_iconst c_230_12 (q_iconst c_230_13 (v_cv c_230_14 km_8_203 rfl rfl (nb_ rfl) ⟨⟨rfl, rfl⟩, nb_ rfl, rfl⟩ (nb_ rfl) (nb_ rfl) (q_iload_n c_145_0 rfl ?_)))))))
    refine v_if_ne_f (t := 26) c_145_1 rfl (by decide) (q_aload_n c_145_4 rfl (v_gi (z := 0) (v := 0) c_145_5 kf_8_3 rfl (nb_ rfl) rfl rfl (up_e rfl) (v_if_ne_f (t := 26) c_145_8 rfl (by decide) (q_aload_n c_145_11 rfl (q_iload_n c_145_12 rfl (v_pi (z := 0) c_145_13 kf_8_3 rfl (nb_ rfl) rfl rfl rfl (by decide) (q_aload_n c_145_16 rfl ?_)))))))
    refine v_gr (t := 42) c_145_17 kf_8_7 rfl (nb_ rfl) rfl (q_iload_n c_145_20 rfl (q_dup2 c_145_21 ⟨rfl, rfl⟩ ?_))
    have h_18 := ir_42 hI 1
    refine v_ia (v := c 42 1) c_145_22 rfl (by decide) (by decide) (by decide) ((up_c (nn rfl)).trans (up_c (nn rfl))) (q_iconst c_145_23 (v_iadd (v := c 42 1 + 1) c_145_24 rfl (v_nrm (fun y_19 hy_19 => (v_is c_145_25 rfl (by decide) (by decide) (by decide) (q_aload_n c_145_26 rfl (v_gi (z := 0) (v := 1) c_145_27 kf_8_3 rfl (nb_ rfl) rfl rfl ((up_c (nn rfl)).trans (up_e rfl)) (v_if_ne_t (t := 37) c_145_30 rfl (by decide) ?_))))))))
    refine q_iconst c_145_37 (v_zret c_145_38 rfl (by decide) (bk_inl (v_if_ne_f (t := 22) c_230_17 rfl (by decide) (q_iconst c_230_20 (q_iret c_230_21 rfl ?_)))))
    have hI_20 := iw_41_0 (v := 0) hI ⟨by decide, by decide⟩
    have hI_21 := iw_41_0 (v := 1) hI_20 ⟨by decide, by decide⟩
    have hI_22 := iw_42 (j := 1) (v := y_19) hI_21 ⟨hy_19.1, hy_19.2⟩
    exact K (up (up (up c 41 0 0) 41 0 1) 42 1 y_19) 0 hI_22 (fun a j hm => (up_b (Decidable.or_iff_not_imp_left.mpr (fun h1 h2 => hm (Or.inr (Or.inl (Decidable.not_not.mp h1)))))).trans ((up_b (Decidable.or_iff_not_imp_left.mpr (fun h1 h2 => hm (Or.inl ⟨Decidable.not_not.mp h1, h2⟩)))).trans (up_b (Decidable.or_iff_not_imp_left.mpr (fun h1 h2 => hm (Or.inl ⟨Decidable.not_not.mp h1, h2⟩)))))) ⟨by decide, by decide⟩
  · refine v_ic_lt_f (t := 14) c_146_2 rfl ⟨by decide, (Int.not_lt.mp h_17), ha1.2⟩ (q_iload_n c_146_5 rfl (q_iload_n c_146_6 rfl ?_))
    by_cases h_23 : a1 > 1
    · refine v_ic_gt_t (t := 14) c_146_7 rfl ⟨by decide, h_23, ha1.2⟩ (q_iconst c_146_14 (v_zret c_146_15 rfl (by decide) (bk_inl (q_iconst c_230_12 (q_iconst c_230_13 (v_cv c_230_14 km_8_203 rfl rfl (nb_ rfl) ⟨⟨rfl, rfl⟩, nb_ rfl, rfl⟩ (nb_ rfl) (nb_ rfl) (q_iload_n c_145_0 rfl ?_)))))))
      refine v_if_ne_f (t := 26) c_145_1 rfl (by decide) (q_aload_n c_145_4 rfl (v_gi (z := 0) (v := 0) c_145_5 kf_8_3 rfl (nb_ rfl) rfl rfl (up_e rfl) (v_if_ne_f (t := 26) c_145_8 rfl (by decide) (q_aload_n c_145_11 rfl (q_iload_n c_145_12 rfl (v_pi (z := 0) c_145_13 kf_8_3 rfl (nb_ rfl) rfl rfl rfl (by decide) (q_aload_n c_145_16 rfl ?_)))))))
      refine v_gr (t := 42) c_145_17 kf_8_7 rfl (nb_ rfl) rfl (q_iload_n c_145_20 rfl (q_dup2 c_145_21 ⟨rfl, rfl⟩ ?_))
      have h_24 := ir_42 hI 1
      refine v_ia (v := c 42 1) c_145_22 rfl (by decide) (by decide) (by decide) ((up_c (nn rfl)).trans (up_c (nn rfl))) (q_iconst c_145_23 (v_iadd (v := c 42 1 + 1) c_145_24 rfl (v_nrm (fun y_25 hy_25 => (v_is c_145_25 rfl (by decide) (by decide) (by decide) (q_aload_n c_145_26 rfl (v_gi (z := 0) (v := 1) c_145_27 kf_8_3 rfl (nb_ rfl) rfl rfl ((up_c (nn rfl)).trans (up_e rfl)) (v_if_ne_t (t := 37) c_145_30 rfl (by decide) ?_))))))))
      refine q_iconst c_145_37 (v_zret c_145_38 rfl (by decide) (bk_inl (v_if_ne_f (t := 22) c_230_17 rfl (by decide) (q_iconst c_230_20 (q_iret c_230_21 rfl ?_)))))
      have hI_26 := iw_41_0 (v := 0) hI ⟨by decide, by decide⟩
      have hI_27 := iw_41_0 (v := 1) hI_26 ⟨by decide, by decide⟩
      have hI_28 := iw_42 (j := 1) (v := y_25) hI_27 ⟨hy_25.1, hy_25.2⟩
      exact K (up (up (up c 41 0 0) 41 0 1) 42 1 y_25) 0 hI_28 (fun a j hm => (up_b (Decidable.or_iff_not_imp_left.mpr (fun h1 h2 => hm (Or.inr (Or.inl (Decidable.not_not.mp h1)))))).trans ((up_b (Decidable.or_iff_not_imp_left.mpr (fun h1 h2 => hm (Or.inl ⟨Decidable.not_not.mp h1, h2⟩)))).trans (up_b (Decidable.or_iff_not_imp_left.mpr (fun h1 h2 => hm (Or.inl ⟨Decidable.not_not.mp h1, h2⟩)))))) ⟨by decide, by decide⟩
    · refine v_ic_gt_f (t := 14) c_146_7 rfl ⟨ha1.1, (Int.not_lt.mp h_23), by decide⟩ (q_iconst c_146_10 (q_goto (t := 15) c_146_11 rfl (v_zret c_146_15 rfl (by decide) (bk_inl (q_iconst c_230_12 (q_iconst c_230_13 (v_cv c_230_14 km_8_203 rfl rfl (nb_ rfl) ⟨⟨rfl, rfl⟩, nb_ rfl, rfl⟩ (nb_ rfl) (nb_ rfl) ?_)))))))
      refine q_iload_n c_145_0 rfl (v_if_ne_t (t := 26) c_145_1 rfl (by decide) (q_aload_n c_145_26 rfl (v_gi (z := 0) (v := 0) c_145_27 kf_8_3 rfl (nb_ rfl) rfl rfl (up_e rfl) (v_if_ne_f (t := 37) c_145_30 rfl (by decide) (q_iconst c_145_33 (q_goto (t := 38) c_145_34 rfl (v_zret c_145_38 rfl (by decide) ?_)))))))
      refine bk_inl (v_if_ne_t (t := 22) c_230_17 rfl (by decide) (q_aload_n c_230_22 rfl ?_))
      have hI_29 := iw_41_0 (v := 0) hI ⟨by decide, by decide⟩
      refine v_cv c_230_23 km_8_317 rfl rfl (nb_ rfl) ⟨⟨rfl, rfl⟩, nb_ rfl, rfl⟩ (nb_ rfl) (nb_ rfl) (s_186 hI_29 (fun c_30 hI_31 hF_32 => (bk_inl (q_iconst c_230_26 (q_istore_n c_230_27 (nb_ rfl) (q_iconst c_230_28 (q_istore_n c_230_29 (nb_ rfl) (q_iconst c_230_30 (q_istore c_230_31 (nb_ rfl) ?_)))))))))
      refine Wp_ls [(0, .ref 41), (1, vi a1), (2, vi 0), (3, vi (-1)), (4, vi 0)] (lsub_cons rfl (lsub_cons rfl (lsub_cons rfl (lsub_cons rfl (lsub_cons rfl lsub_nil))))) ?_
      exact (s_230_l (sc := sc) (d := d) hI ha1 K 52) c_30 0 (-1) 0 hI_31 (fun a j hm => (hF_32 a j (fun h => hm (Or.inr (Or.inr h)))).trans (up_b (Decidable.or_iff_not_imp_left.mpr (fun h1 h2 => hm (Or.inl ⟨Decidable.not_not.mp h1, h2⟩))))) ⟨by decide, by decide⟩ ⟨by decide, by decide⟩ ⟨by decide, by decide⟩ (by omega)

set_option maxRecDepth 100000 in
set_option maxHeartbeats 4000000 in
theorem s_231_l {sc : List Int32} {e : Int} {d u P Q : Nat} {c : ME} {a1 : Int} {Z : AR → Prop} (hI : Iv u e P Q c) (ha1 : 0 ≤ a1 ∧ a1 ≤ 3) (K : ∀ (y : Int), (-2147483648) ≤ y ∧ y ≤ 2147483647 → Z (.inl (some (vi y)), Wd P Q P P c, 0, 0)) : ∀ n : Nat, (∀ (v2 : Int) (v3 : Int), 0 ≤ v2 ∧ v2 ≤ 2147483647 → 0 ≤ v3 ∧ v3 ≤ 25 → 1377 - 53 * v3 < (n : Int) → Wp sc (d + 9) 231 4 [(0, .ref 41), (1, vi a1), (2, vi v2), (3, vi v3)] [] (Wd P Q P P c) 0 0 Z) ∧ (∀ (v2 : Int) (v3 : Int) (v4 : Int) (v5 : Int), 0 ≤ v2 ∧ v2 ≤ 2147483647 → 0 ≤ v3 ∧ v3 ≤ 24 → (-2147483648) ≤ v4 ∧ v4 ≤ 2147483647 → 0 ≤ v5 ∧ v5 ≤ 24 → ((v3 < ((c 41 22) * (c 41 20)))) → 1374 - 53 * v3 - 2 * v5 < (n : Int) → Wp sc (d + 9) 231 45 [(0, .ref 41), (1, vi a1), (2, vi v2), (3, vi v3), (4, vi v4), (5, vi v5)] [] (Wd P Q P P c) 0 0 Z) := by
  intro n
  induction n with
  | zero => exact (by exact ⟨by (intro v2 v3 hv2 hv3 hm9; have hP := iv_P hI; have hQ := iv_Q hI; exfalso; omega), by (intro v2 v3 v4 v5 hv2 hv3 hv4 hv5 hx0 hm9; have hP := iv_P hI; have hQ := iv_Q hI; exfalso; omega)⟩)
  | succ n ih =>
    have hP := iv_P hI
    have hQ := iv_Q hI
    refine ⟨?_, ?_⟩
    · skip
      intro v2 v3 hv2 hv3 hm9
      refine q_iload_n c_231_4 rfl (q_aload_n c_231_5 rfl ?_)
      have h_1 := ir_41_22 hI
      refine v_gi (z := 22) (v := c 41 22) c_231_6 kf_8_163 rfl (nb_ rfl) rfl rfl rfl (q_aload_n c_231_9 rfl ?_)
      have h_2 := ir_41_20 hI
      refine v_gi (z := 20) (v := c 41 20) c_231_10 kf_8_157 rfl (nb_ rfl) rfl rfl rfl ?_
      have h_3 : 0 ≤ (c 41 22) * (c 41 20) ∧ (c 41 22) * (c 41 20) ≤ 6 * (c 41 22) := mul_bd (by omega) (by omega) (by omega)
      have h_4 : 0 ≤ (c 41 22) * (c 41 20) ∧ (c 41 22) * (c 41 20) ≤ 4 * (c 41 20) := mul_bd2 (by omega) (by omega) (by omega)
      refine v_imul (v := ((c 41 22) * (c 41 20))) c_231_13 rfl ?_
      by_cases h_5 : v3 ≥ ((c 41 22) * (c 41 20))
      · refine v_ic_ge_t (t := 154) c_231_14 rfl ⟨by omega, h_5, (Int.le_trans hv3.2 (by decide))⟩ (q_iload_n c_231_154 rfl (q_iret c_231_155 rfl ?_))
        exact K v2 ⟨(Int.le_trans (by decide) hv2.1), hv2.2⟩
      · refine v_ic_ge_f (t := 154) c_231_14 rfl ⟨(Int.le_trans (by decide) hv3.1), (Int.not_le.mp h_5), by omega⟩ (q_aload_n c_231_17 rfl (q_iload_n c_231_18 rfl (q_aload_n c_231_19 rfl (v_gi (z := 20) (v := c 41 20) c_231_20 kf_8_157 rfl (nb_ rfl) rfl rfl rfl ?_))))
        have h_6 : 0 ≤ (v3 / (c 41 20)) ∧ (v3 / (c 41 20)) < c 41 22 := div_lt (by omega) (by omega) (by omega)
        refine v_idiv (v := (v3 / (c 41 20))) c_231_23 (by omega) rfl (q_iload_n c_231_24 rfl (q_aload_n c_231_25 rfl (v_gi (z := 20) (v := c 41 20) c_231_26 kf_8_157 rfl (nb_ rfl) rfl rfl rfl ?_)))
        have h_7 : 0 ≤ (v3 % (c 41 20)) ∧ (v3 % (c 41 20)) < c 41 20 := rem_bd (by omega)
        refine v_irem (v := (v3 % (c 41 20))) c_231_29 (by omega) rfl (v_cv c_231_30 km_8_417 rfl rfl (nb_ rfl) ⟨⟨rfl, rfl⟩, nb_ rfl, rfl⟩ (nb_ rfl) (nb_ rfl) (s_229 (a1 := (v3 / (c 41 20))) (a2 := (v3 % (c 41 20))) hI (show 0 ≤ (v3 / (c 41 20)) ∧ (v3 / (c 41 20)) ≤ 3 from ⟨by first | exact q_c4fec1d75 h_6 | omega, by first | exact q_6b730c0e0 h_1 h_6 | omega⟩) (show 0 ≤ (v3 % (c 41 20)) ∧ (v3 % (c 41 20)) ≤ 5 from ⟨by first | exact q_c4fec1d75 h_7 | omega, by first | exact q_d5c4fed04 h_2 h_7 | omega⟩) (fun y_8 hy_8 => (bk_inl ?_))))
        by_cases h_9 : y_8 ≠ 0
        · refine v_if_ne_t (t := 39) c_231_33 rfl ⟨h_9, ⟨(Int.le_trans (by decide) hy_8.1), (Int.le_trans hy_8.2 (by decide))⟩, by decide, by decide⟩ (q_iconst c_231_39 (q_istore c_231_40 (nb_ rfl) (q_iconst c_231_42 (q_istore c_231_43 (nb_ rfl) (Wp_ls [(0, .ref 41), (1, vi a1), (2, vi v2), (3, vi v3), (4, vi 0), (5, vi 0)] (lsub_cons rfl (lsub_cons rfl (lsub_cons rfl (lsub_cons rfl (lsub_cons rfl (lsub_cons rfl lsub_nil)))))) ?_)))))
          exact ih.2 v2 v3 0 0 hv2 ⟨hv3.1, by first | (clear ha1 hv2 hv3 h_1 h_3 h_6 h_7 h_9; omega) | omega⟩ ⟨by decide, by decide⟩ ⟨by decide, by decide⟩ (by first | exact q_d17d18138 h_5 | omega) (by omega)
        · refine v_if_ne_f (t := 39) c_231_33 rfl (Decidable.not_not.mp h_9) (q_goto (t := 148) c_231_36 rfl (v_iinc (v := v3 + 1) c_231_148 rfl (nb_ rfl) rfl (q_goto (t := 4) c_231_151 rfl (Wp_ls [(0, .ref 41), (1, vi a1), (2, vi v2), (3, vi (v3 + 1))] (lsub_cons rfl (lsub_cons rfl (lsub_cons rfl (lsub_cons rfl lsub_nil)))) ?_))))
          exact ih.1 v2 (v3 + 1) hv2 ⟨by first | exact rgp_l hv3.1 (by decide) | omega, by omega⟩ (by omega)
    · skip
      intro v2 v3 v4 v5 hv2 hv3 hv4 hv5 hx0 hm9
      refine q_iload c_231_45 rfl (q_aload_n c_231_47 rfl ?_)
      have h_10 := ir_41_22 hI
      refine v_gi (z := 22) (v := c 41 22) c_231_48 kf_8_163 rfl (nb_ rfl) rfl rfl rfl (q_aload_n c_231_51 rfl ?_)
      have h_11 := ir_41_20 hI
      refine v_gi (z := 20) (v := c 41 20) c_231_52 kf_8_157 rfl (nb_ rfl) rfl rfl rfl ?_
      have h_12 : 0 ≤ (c 41 22) * (c 41 20) ∧ (c 41 22) * (c 41 20) ≤ 6 * (c 41 22) := mul_bd (by omega) (by omega) (by omega)
      have h_13 : 0 ≤ (c 41 22) * (c 41 20) ∧ (c 41 22) * (c 41 20) ≤ 4 * (c 41 20) := mul_bd2 (by omega) (by omega) (by omega)
      refine v_imul (v := ((c 41 22) * (c 41 20))) c_231_55 rfl ?_
      by_cases h_14 : v5 ≥ ((c 41 22) * (c 41 20))
      · refine v_ic_ge_t (t := 135) c_231_56 rfl ⟨by omega, h_14, (Int.le_trans hv5.2 (by decide))⟩ (q_iload c_231_135 rfl (q_iload_n c_231_137 rfl ?_))
        by_cases h_15 : v4 ≤ v2
        · refine v_ic_le_t (t := 146) c_231_138 rfl ⟨hv4.1, h_15, hv2.2⟩ (q_iload_n c_231_146 rfl (q_istore_n c_231_147 (nb_ rfl) (v_iinc (v := v3 + 1) c_231_148 rfl (nb_ rfl) rfl (q_goto (t := 4) c_231_151 rfl (Wp_ls [(0, .ref 41), (1, vi a1), (2, vi v2), (3, vi (v3 + 1))] (lsub_cons rfl (lsub_cons rfl (lsub_cons rfl (lsub_cons rfl lsub_nil)))) ?_)))))
          exact ih.1 v2 (v3 + 1) hv2 ⟨by first | exact rgp_l hv3.1 (by decide) | omega, by first | exact rgp_h hv3.2 (by decide) | omega⟩ (by omega)
        · refine v_ic_le_f (t := 146) c_231_138 rfl ⟨(Int.le_trans (by decide) hv2.1), (Int.not_le.mp h_15), hv4.2⟩ (q_iload c_231_141 rfl (q_goto (t := 147) c_231_143 rfl (q_istore_n c_231_147 (nb_ rfl) (v_iinc (v := v3 + 1) c_231_148 rfl (nb_ rfl) rfl (q_goto (t := 4) c_231_151 rfl (Wp_ls [(0, .ref 41), (1, vi a1), (2, vi v4), (3, vi (v3 + 1))] (lsub_cons rfl (lsub_cons rfl (lsub_cons rfl (lsub_cons rfl lsub_nil)))) ?_))))))
          exact ih.1 v4 (v3 + 1) ⟨by first | exact q_263c88b99 h_15 hv2 | omega, hv4.2⟩ ⟨by first | exact rgp_l hv3.1 (by decide) | omega, by first | exact rgp_h hv3.2 (by decide) | omega⟩ (by omega)
      · refine v_ic_ge_f (t := 135) c_231_56 rfl ⟨(Int.le_trans (by decide) hv5.1), (Int.not_le.mp h_14), by omega⟩ (q_iload c_231_59 rfl (q_aload_n c_231_61 rfl (q_iload c_231_62 rfl (q_aload_n c_231_64 rfl (v_gi (z := 20) (v := c 41 20) c_231_65 kf_8_157 rfl (nb_ rfl) rfl rfl rfl ?_)))))
        have h_16 : 0 ≤ (v5 / (c 41 20)) ∧ (v5 / (c 41 20)) < c 41 22 := div_lt (by omega) (by omega) (by omega)
        refine v_idiv (v := (v5 / (c 41 20))) c_231_68 (by omega) rfl (q_iload c_231_69 rfl (q_aload_n c_231_71 rfl (v_gi (z := 20) (v := c 41 20) c_231_72 kf_8_157 rfl (nb_ rfl) rfl rfl rfl ?_)))
        have h_17 : 0 ≤ (v5 % (c 41 20)) ∧ (v5 % (c 41 20)) < c 41 20 := rem_bd (by omega)
        refine v_irem (v := (v5 % (c 41 20))) c_231_75 (by omega) rfl (v_cv c_231_76 km_8_417 rfl rfl (nb_ rfl) ⟨⟨rfl, rfl⟩, nb_ rfl, rfl⟩ (nb_ rfl) (nb_ rfl) (s_229 (a1 := (v5 / (c 41 20))) (a2 := (v5 % (c 41 20))) hI (show 0 ≤ (v5 / (c 41 20)) ∧ (v5 / (c 41 20)) ≤ 3 from ⟨by first | exact q_c4fec1d75 h_16 | omega, by first | exact q_6b730c0e0 h_10 h_16 | omega⟩) (show 0 ≤ (v5 % (c 41 20)) ∧ (v5 % (c 41 20)) ≤ 5 from ⟨by first | exact q_c4fec1d75 h_17 | omega, by first | exact q_d5c4fed04 h_11 h_17 | omega⟩) (fun y_18 hy_18 => (bk_inl ?_))))
        by_cases h_19 : y_18 = 0
        · refine v_if_eq_t (t := 125) c_231_79 rfl h_19 (q_iconst c_231_125 (v_iadd (v := v4) c_231_126 (by first | exact q_7038fede5 | omega) (q_istore c_231_127 (nb_ rfl) (v_iinc (v := v5 + 1) c_231_129 rfl (nb_ rfl) rfl (q_goto (t := 45) c_231_132 rfl (Wp_ls [(0, .ref 41), (1, vi a1), (2, vi v2), (3, vi v3), (4, vi v4), (5, vi (v5 + 1))] (lsub_cons rfl (lsub_cons rfl (lsub_cons rfl (lsub_cons rfl (lsub_cons rfl (lsub_cons rfl lsub_nil)))))) ?_))))))
          exact ih.2 v2 v3 v4 (v5 + 1) hv2 hv3 hv4 ⟨by first | exact rgp_l hv5.1 (by decide) | omega, by first | (clear ha1 hv2 hv3 hv4 hv5 hx0 h_10 h_12 h_16 h_17 h_19; omega) | omega⟩ (by first | (clear ha1 hv2 hv3 hv4 hv5 h_10 h_11 h_12 h_13 h_14 h_16 h_17 h_19; omega) | omega) (by omega)
        · refine v_if_eq_f (t := 125) c_231_79 rfl ⟨h_19, ⟨(Int.le_trans (by decide) hy_18.1), (Int.le_trans hy_18.2 (by decide))⟩, by decide, by decide⟩ (q_aload_n c_231_82 rfl (q_iload c_231_83 rfl (q_aload_n c_231_85 rfl (v_gi (z := 20) (v := c 41 20) c_231_86 kf_8_157 rfl (nb_ rfl) rfl rfl rfl ?_))))
          have h_20 : 0 ≤ (v5 / (c 41 20)) ∧ (v5 / (c 41 20)) < c 41 22 := div_lt (by omega) (by omega) (by omega)
          refine v_idiv (v := (v5 / (c 41 20))) c_231_89 (by omega) rfl (q_iload c_231_90 rfl (q_aload_n c_231_92 rfl (v_gi (z := 20) (v := c 41 20) c_231_93 kf_8_157 rfl (nb_ rfl) rfl rfl rfl ?_)))
          have h_21 : 0 ≤ (v5 % (c 41 20)) ∧ (v5 % (c 41 20)) < c 41 20 := rem_bd (by omega)
          refine v_irem (v := (v5 % (c 41 20))) c_231_96 (by omega) rfl (q_iload_n c_231_97 rfl ?_)
          have h_22 := ir_49 hI (v5 / (c 41 20))
          have h_23 := ir_59 hI ((v5 / (c 41 20)) + 30)
          have h_24 := ir_59_g hI (j := 4 * (v5 % (c 41 20)) + a1) (by first | exact q_238d50ffa h_11 h_17 ha1 | omega)
          have h_25 := fal_rng (m := c 49 (v5 / (c 41 20))) (t := c 59 ((v5 / (c 41 20)) + 30)) (g := a1) (x := c 59 (4 * (v5 % (c 41 20)) + a1)) (by first | exact q_c6ed8760d h_24 | omega)
          refine v_cv c_231_98 km_8_363 rfl rfl (nb_ rfl) ⟨⟨rfl, rfl⟩, nb_ rfl, rfl⟩ (nb_ rfl) (nb_ rfl) (s_189 (v1 := c 49 (v5 / (c 41 20))) (v2 := c 59 ((v5 / (c 41 20)) + 30)) (v3 := c 59 (4 * (v5 % (c 41 20)) + a1)) (r := (fal (c 49 (v5 / (c 41 20))) (c 59 ((v5 / (c 41 20)) + 30)) a1 (c 59 (4 * (v5 % (c 41 20)) + a1)))) (a1 := (v5 / (c 41 20))) (a2 := (v5 % (c 41 20))) (a3 := a1) hI (show 0 ≤ (v5 / (c 41 20)) ∧ (v5 / (c 41 20)) ≤ 3 from ⟨by first | exact q_c4fec1d75 h_16 | omega, by first | exact q_6b730c0e0 h_10 h_16 | omega⟩) (show 0 ≤ (v5 % (c 41 20)) ∧ (v5 % (c 41 20)) ≤ 5 from ⟨by first | exact q_c4fec1d75 h_17 | omega, by first | exact q_d5c4fed04 h_11 h_17 | omega⟩) (show 0 ≤ a1 ∧ a1 ≤ 3 from ha1) (rfl) (rfl) (rfl) rfl (bk_inl (q_aload_n c_231_101 rfl (q_iload_n c_231_102 rfl (q_aload_n c_231_103 rfl (v_gi (z := 20) (v := c 41 20) c_231_104 kf_8_157 rfl (nb_ rfl) rfl rfl rfl ?_))))))
          have h_26 : 0 ≤ (v3 / (c 41 20)) ∧ (v3 / (c 41 20)) < c 41 22 := div_lt (by omega) (by omega) (by omega)
          refine v_idiv (v := (v3 / (c 41 20))) c_231_107 (by omega) rfl (q_iload_n c_231_108 rfl (q_aload_n c_231_109 rfl (v_gi (z := 20) (v := c 41 20) c_231_110 kf_8_157 rfl (nb_ rfl) rfl rfl rfl ?_)))
          have h_27 : 0 ≤ (v3 % (c 41 20)) ∧ (v3 % (c 41 20)) < c 41 20 := rem_bd (by omega)
          refine v_irem (v := (v3 % (c 41 20))) c_231_113 (by omega) rfl (q_iload_n c_231_114 rfl ?_)
          have h_28 := ir_49 hI (v3 / (c 41 20))
          have h_29 := ir_59 hI ((v3 / (c 41 20)) + 30)
          have h_30 := ir_59_g hI (j := 4 * (v3 % (c 41 20)) + a1) (by first | exact q_238d50ffa h_11 h_27 ha1 | omega)
          have h_31 := fal_rng (m := c 49 (v3 / (c 41 20))) (t := c 59 ((v3 / (c 41 20)) + 30)) (g := a1) (x := c 59 (4 * (v3 % (c 41 20)) + a1)) (by first | exact q_c6ed8760d h_30 | omega)
          refine v_cv c_231_115 km_8_363 rfl rfl (nb_ rfl) ⟨⟨rfl, rfl⟩, nb_ rfl, rfl⟩ (nb_ rfl) (nb_ rfl) (s_189 (v1 := c 49 (v3 / (c 41 20))) (v2 := c 59 ((v3 / (c 41 20)) + 30)) (v3 := c 59 (4 * (v3 % (c 41 20)) + a1)) (r := (fal (c 49 (v3 / (c 41 20))) (c 59 ((v3 / (c 41 20)) + 30)) a1 (c 59 (4 * (v3 % (c 41 20)) + a1)))) (a1 := (v3 / (c 41 20))) (a2 := (v3 % (c 41 20))) (a3 := a1) hI (show 0 ≤ (v3 / (c 41 20)) ∧ (v3 / (c 41 20)) ≤ 3 from ⟨by first | exact q_c4fec1d75 h_26 | omega, by first | exact q_6b730c0e0 h_10 h_26 | omega⟩) (show 0 ≤ (v3 % (c 41 20)) ∧ (v3 % (c 41 20)) ≤ 5 from ⟨by first | exact q_c4fec1d75 h_27 | omega, by first | exact q_d5c4fed04 h_11 h_27 | omega⟩) (show 0 ≤ a1 ∧ a1 ≤ 3 from ha1) (rfl) (rfl) (rfl) rfl (bk_inl ?_))
          by_cases h_32 : (fal (c 49 (v5 / (c 41 20))) (c 59 ((v5 / (c 41 20)) + 30)) a1 (c 59 (4 * (v5 % (c 41 20)) + a1))) ≠ (fal (c 49 (v3 / (c 41 20))) (c 59 ((v3 / (c 41 20)) + 30)) a1 (c 59 (4 * (v3 % (c 41 20)) + a1)))
          · refine v_ic_ne_t (t := 125) c_231_118 rfl ⟨h_32, ⟨by first | exact q_fda856264 h_25 | omega, by first | exact q_4bf067e8d h_24 h_25 | omega⟩, by first | exact q_fda856264 h_31 | omega, by first | exact q_4bf067e8d h_30 h_31 | omega⟩ (q_iconst c_231_125 (v_iadd (v := v4) c_231_126 (by first | exact q_7038fede5 | omega) (q_istore c_231_127 (nb_ rfl) (v_iinc (v := v5 + 1) c_231_129 rfl (nb_ rfl) rfl (q_goto (t := 45) c_231_132 rfl (Wp_ls [(0, .ref 41), (1, vi a1), (2, vi v2), (3, vi v3), (4, vi v4), (5, vi (v5 + 1))] (lsub_cons rfl (lsub_cons rfl (lsub_cons rfl (lsub_cons rfl (lsub_cons rfl (lsub_cons rfl lsub_nil)))))) ?_))))))
            exact ih.2 v2 v3 v4 (v5 + 1) hv2 hv3 hv4 ⟨by first | exact rgp_l hv5.1 (by decide) | omega, by first | (clear ha1 hv2 hv3 hv4 hv5 hx0 h_10 h_12 h_16 h_17 h_20 h_21 h_22 h_23 h_24 h_25 h_26 h_27 h_28 h_29 h_30 h_31 h_19 h_32; omega) | omega⟩ (by first | (clear ha1 hv2 hv3 hv4 hv5 h_10 h_11 h_12 h_13 h_14 h_16 h_17 h_20 h_21 h_22 h_23 h_24 h_25 h_26 h_27 h_28 h_29 h_30 h_31 h_19 h_32; omega) | omega) (by omega)
          · refine v_ic_ne_f (t := 125) c_231_118 rfl (Decidable.not_not.mp h_32) (q_iconst c_231_121 (q_goto (t := 126) c_231_122 rfl (v_iadd (v := v4 + 1) c_231_126 rfl (v_nrm (fun y_33 hy_33 => (q_istore c_231_127 (nb_ rfl) (v_iinc (v := v5 + 1) c_231_129 rfl (nb_ rfl) rfl (q_goto (t := 45) c_231_132 rfl ?_))))))))
            refine Wp_ls [(0, .ref 41), (1, vi a1), (2, vi v2), (3, vi v3), (4, vi y_33), (5, vi (v5 + 1))] (lsub_cons rfl (lsub_cons rfl (lsub_cons rfl (lsub_cons rfl (lsub_cons rfl (lsub_cons rfl lsub_nil)))))) ?_
            exact ih.2 v2 v3 y_33 (v5 + 1) hv2 hv3 hy_33 ⟨by first | exact rgp_l hv5.1 (by decide) | omega, by first | (clear ha1 hv2 hv3 hv4 hv5 hx0 h_10 h_12 h_16 h_17 h_20 h_21 h_22 h_23 h_24 h_25 h_26 h_27 h_28 h_29 h_30 h_31 h_32 h_19; omega) | omega⟩ (by first | (clear ha1 hv2 hv3 hv4 hv5 h_10 h_11 h_12 h_13 h_14 h_16 h_17 h_20 h_21 h_22 h_23 h_24 h_25 h_26 h_27 h_28 h_29 h_30 h_31 h_32 h_19; omega) | omega) (by omega)
set_option maxRecDepth 100000 in
set_option maxHeartbeats 4000000 in
theorem s_231 {sc : List Int32} {e : Int} {d u P Q : Nat} {c : ME} {a1 : Int} {Z : AR → Prop} (hI : Iv u e P Q c) (ha1 : 0 ≤ a1 ∧ a1 ≤ 3) (K : ∀ (y : Int), (-2147483648) ≤ y ∧ y ≤ 2147483647 → Z (.inl (some (vi y)), Wd P Q P P c, 0, 0)) : Wp sc (d + 9) 231 0 [(0, .ref 41), (1, vi a1)] [] (Wd P Q P P c) 0 0 Z := by
  have hP := iv_P hI
  have hQ := iv_Q hI
  refine q_iconst c_231_0 (q_istore_n c_231_1 (nb_ rfl) (q_iconst c_231_2 (q_istore_n c_231_3 (nb_ rfl) (Wp_ls [(0, .ref 41), (1, vi a1), (2, vi 0), (3, vi 0)] (lsub_cons rfl (lsub_cons rfl (lsub_cons rfl (lsub_cons rfl lsub_nil)))) ?_))))
  exact (s_231_l (sc := sc) (d := d) hI ha1 K 1380).1 0 0 ⟨by decide, by decide⟩ ⟨by decide, by decide⟩ (by omega)
end
