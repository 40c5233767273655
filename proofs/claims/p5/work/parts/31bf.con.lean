/-! ===== contracts 19 ===== -/
theorem qv_e289254c2 {a : Nat} {j : Int} (hm : ¬ ((a = 41 ∧ j = 0) ∨ a = 42 ∨ (a = 41 ∧ j = 2) ∨ (a = 41 ∧ j = 3) ∨ (a = 41 ∧ j = 4) ∨ (a = 41 ∧ j = 5) ∨ (a = 41 ∧ j = 6) ∨ (a = 41 ∧ j = 7) ∨ (a = 41 ∧ j = 8) ∨ (a = 41 ∧ j = 48) ∨ a = 63 ∨ a = 64)) : ¬ ((a = 41 ∧ j = 8)) := (fun h => hm (Or.inr (Or.inr (Or.inr (Or.inr (Or.inr (Or.inr (Or.inr (Or.inr (Or.inl h))))))))))
theorem q_a3f2481f3 {x0 x1 x2 : Int} (f0 : x0 ≠ (-1)) (f1 : (x0 = (-1)) ∨ (x1 = x0)) (f2 : (x1 = (-1)) ∨ (x2 = x1)) : ¬ x2 = (-1) := by omega
theorem qv_128b34fe0 {a : Nat} {j : Int} (hm : ¬ ((a = 41 ∧ j = 0) ∨ a = 42 ∨ (a = 41 ∧ j = 2) ∨ (a = 41 ∧ j = 3) ∨ (a = 41 ∧ j = 4) ∨ (a = 41 ∧ j = 5) ∨ (a = 41 ∧ j = 6) ∨ (a = 41 ∧ j = 7) ∨ (a = 41 ∧ j = 8) ∨ (a = 41 ∧ j = 48) ∨ a = 63 ∨ a = 64)) : ¬ ((a = 41 ∧ j = 4) ∨ (a = 41 ∧ j = 5) ∨ (a = 41 ∧ j = 6)) := (fun q => q.elim (fun h => hm (Or.inr (Or.inr (Or.inr (Or.inr (Or.inl h)))))) (fun q => q.elim (fun h => hm (Or.inr (Or.inr (Or.inr (Or.inr (Or.inr (Or.inl h))))))) (fun h => hm (Or.inr (Or.inr (Or.inr (Or.inr (Or.inr (Or.inr (Or.inl h))))))))))
theorem qn_518a05c1b {j : Int} : ¬ (((63 : Nat) = 41 ∧ j = 4) ∨ ((63 : Nat) = 41 ∧ j = 5) ∨ ((63 : Nat) = 41 ∧ j = 6)) := (fun q => q.elim (fun h => absurd h.1 (nn rfl)) (fun q => q.elim (fun h => absurd h.1 (nn rfl)) (fun h => absurd h.1 (nn rfl))))
theorem q_ea1a384bf {x0 : Int} (f0 : (x0 = 0) ∨ (x0 ≥ 0 ∧ x0 ≤ 3)) : x0 < 4 := by omega
theorem q_3578ef10e {x0 x1 x2 : Int} (f0 : (x0 ≠ (-1))) (f1 : (x0 = (-1)) ∨ (x1 = x0)) (f2 : (x1 = (-1)) ∨ (x2 = x1)) : ¬ x2 = (-1) := by omega
theorem qv_e4455395c {a : Nat} {j : Int} (hm : ¬ ((a = 41 ∧ j = 0) ∨ a = 42 ∨ (a = 41 ∧ j = 2) ∨ (a = 41 ∧ j = 3) ∨ (a = 41 ∧ j = 4) ∨ (a = 41 ∧ j = 5) ∨ (a = 41 ∧ j = 6) ∨ (a = 41 ∧ j = 7) ∨ (a = 41 ∧ j = 8) ∨ (a = 41 ∧ j = 48) ∨ a = 63 ∨ a = 64)) : ¬ ((a = 41 ∧ j = 5) ∨ (a = 41 ∧ j = 6)) := (fun q => q.elim (fun h => hm (Or.inr (Or.inr (Or.inr (Or.inr (Or.inr (Or.inl h))))))) (fun h => hm (Or.inr (Or.inr (Or.inr (Or.inr (Or.inr (Or.inr (Or.inl h)))))))))
theorem qv_6ad33b000 {a : Nat} {j : Int} (hm : ¬ ((a = 41 ∧ j = 0) ∨ a = 42 ∨ (a = 41 ∧ j = 2) ∨ (a = 41 ∧ j = 3) ∨ (a = 41 ∧ j = 4) ∨ (a = 41 ∧ j = 5) ∨ (a = 41 ∧ j = 6) ∨ (a = 41 ∧ j = 7) ∨ (a = 41 ∧ j = 8) ∨ (a = 41 ∧ j = 48) ∨ a = 63 ∨ a = 64)) : ¬ ((a = 41 ∧ j = 2) ∨ (a = 41 ∧ j = 3) ∨ (a = 41 ∧ j = 4) ∨ (a = 41 ∧ j = 5) ∨ (a = 41 ∧ j = 7) ∨ (a = 41 ∧ j = 8)) := (fun q => q.elim (fun h => hm (Or.inr (Or.inr (Or.inl h)))) (fun q => q.elim (fun h => hm (Or.inr (Or.inr (Or.inr (Or.inl h))))) (fun q => q.elim (fun h => hm (Or.inr (Or.inr (Or.inr (Or.inr (Or.inl h)))))) (fun q => q.elim (fun h => hm (Or.inr (Or.inr (Or.inr (Or.inr (Or.inr (Or.inl h))))))) (fun q => q.elim (fun h => hm (Or.inr (Or.inr (Or.inr (Or.inr (Or.inr (Or.inr (Or.inr (Or.inl h))))))))) (fun h => hm (Or.inr (Or.inr (Or.inr (Or.inr (Or.inr (Or.inr (Or.inr (Or.inr (Or.inl h)))))))))))))))
theorem q_2a2e68b1b {x0 : Int} (f0 : 0 ≤ x0 ∧ x0 ≤ 16) (f1 : x0 ≠ 0) : 0 ≤ x0 - 1 := by omega
theorem q_9750a9c5c {x0 : Int} (f0 : 0 ≤ x0 ∧ x0 ≤ 4) : x0 + 30 < 37 := by omega
theorem q_8e33475e7 {x0 x1 : Int} (f0 : 0 ≤ x0 ∧ x0 ≤ 4) (f1 : ¬ (x1 ≥ x0)) : x1 + 1 ≤ 4 := by omega
theorem q_fe18d6d95 {x0 : Int} (f0 : 0 ≤ x0 ∧ x0 ≤ 50) : (-2147483648) ≤ x0 := by omega
theorem q_5d4e5294a {x0 : Int} (f0 : 0 ≤ x0 ∧ x0 ≤ 50) : x0 ≤ 2147483647 := by omega
theorem q_7e8f1d31c {x0 : Int} (f0 : ¬ (x0 < 0)) : 0 ≤ x0 + 24 := by omega
theorem q_3aa97594e {x0 x1 : Int} (f0 : 0 ≤ x0 ∧ x0 ≤ 6) (f1 : ¬ (x1 > x0 - 1)) : x1 + 24 < 37 := by omega
theorem q_490e7f1d7 {x0 x1 x2 : Int} (f0 : 0 ≤ x0 ∧ x0 ≤ 6) (f1 : ¬ (x1 ≥ 4)) (f2 : ¬ (x2 > x0 - 1)) : 4 * x2 + x1 < 24 := by omega
theorem q_cc0c3eecc {x0 x1 : Int} (f0 : ¬ (x0 < 0)) (f1 : ¬ (x1 < 0)) : 0 ≤ 4 * x1 + x0 := by omega
theorem q_6645f81e3 {x0 x1 x2 : Int} (f0 : 0 ≤ x0 ∧ x0 ≤ 6) (f1 : ¬ (x1 ≥ 4)) (f2 : ¬ (x2 > x0 - 1)) : 4 * x2 + x1 < 37 := by omega
theorem q_8256bb04b {x0 x1 : Int} (f0 : ¬ (x0 < 0)) (f1 : ¬ (x1 < 0)) : 0 ≤ 3 * x1 + x0 := by omega
theorem q_c1df8a943 {x0 x1 x2 : Int} (f0 : 0 ≤ x0 ∧ x0 ≤ 4) (f1 : ¬ (x1 > 2)) (f2 : ¬ (x2 > x0 - 1)) : 3 * x2 + x1 < 12 := by omega
theorem q_18ebff911 {x0 : Int} (f0 : ¬ (x0 < 0)) : 0 ≤ x0 + 30 := by omega
theorem q_ebe6a6f81 {x0 x1 : Int} (f0 : 0 ≤ x0 ∧ x0 ≤ 4) (f1 : ¬ (x1 > x0 - 1)) : x1 + 30 < 37 := by omega
theorem qv_bcc235c24 {a : Nat} {j : Int} (hm : ¬ ((a = 41 ∧ j = 0) ∨ a = 42 ∨ a = 59 ∨ a = 54 ∨ a = 55)) : ¬ (a = 54 ∨ a = 55) := (fun q => q.elim (fun h => hm (Or.inr (Or.inr (Or.inr (Or.inl h))))) (fun h => hm (Or.inr (Or.inr (Or.inr (Or.inr h))))))
theorem c_207_22 : mLk 207 22 = some (.iload_n 2, 1) := rfl
theorem c_207_23 : mLk 207 23 = some (.iconst 4, 1) := rfl
theorem c_207_24 : mLk 207 24 = some (.if_icmp .ge 16, 3) := rfl
theorem c_207_40 : mLk 207 40 = some (.iconst 0, 1) := rfl
theorem c_207_41 : mLk 207 41 = some (.istore_n 2, 1) := rfl
theorem c_207_27 : mLk 207 27 = some (.aload_n 0, 1) := rfl
theorem c_207_28 : mLk 207 28 = some (.getfield 80, 3) := rfl
theorem c_207_31 : mLk 207 31 = some (.iload_n 2, 1) := rfl
theorem c_207_32 : mLk 207 32 = some (.iconst (-1), 1) := rfl
theorem c_207_33 : mLk 207 33 = some (.iastore, 1) := rfl
theorem c_207_34 : mLk 207 34 = some (.iinc 2 1, 3) := rfl
theorem c_207_37 : mLk 207 37 = some (.goto (-15), 3) := rfl
theorem c_207_42 : mLk 207 42 = some (.aload_n 0, 1) := rfl
theorem c_207_43 : mLk 207 43 = some (.invokevirtual 131, 3) := rfl
theorem c_207_46 : mLk 207 46 = some (.ifCond .eq 88, 3) := rfl
theorem c_207_134 : mLk 207 134 = some (.aload_n 0, 1) := rfl
theorem c_207_135 : mLk 207 135 = some (.iload_n 2, 1) := rfl
theorem c_207_136 : mLk 207 136 = some (.invokevirtual 232, 3) := rfl
theorem c_207_139 : mLk 207 139 = some (.istore_n 3, 1) := rfl
theorem c_207_140 : mLk 207 140 = some (.aload_n 0, 1) := rfl
theorem c_207_141 : mLk 207 141 = some (.getfield 102, 3) := rfl
theorem c_207_144 : mLk 207 144 = some (.iconst (-1), 1) := rfl
theorem c_207_145 : mLk 207 145 = some (.if_icmp .eq 5, 3) := rfl
theorem c_207_148 : mLk 207 148 = some (.iload_n 3, 1) := rfl
theorem c_207_149 : mLk 207 149 = some (.ireturn, 1) := rfl
theorem c_207_49 : mLk 207 49 = some (.aload_n 0, 1) := rfl
theorem c_207_50 : mLk 207 50 = some (.invokevirtual 211, 3) := rfl
theorem c_207_53 : mLk 207 53 = some (.ifCond .eq 81, 3) := rfl
theorem c_207_150 : mLk 207 150 = some (.aload_n 0, 1) := rfl
theorem c_207_151 : mLk 207 151 = some (.iload_n 2, 1) := rfl
theorem c_207_152 : mLk 207 152 = some (.putfield 179, 3) := rfl
theorem c_207_155 : mLk 207 155 = some (.aload_n 0, 1) := rfl
theorem c_207_156 : mLk 207 156 = some (.aload_n 0, 1) := rfl
theorem c_207_157 : mLk 207 157 = some (.getfield 80, 3) := rfl
theorem c_207_160 : mLk 207 160 = some (.aload_n 0, 1) := rfl
theorem c_207_161 : mLk 207 161 = some (.getfield 83, 3) := rfl
theorem c_207_164 : mLk 207 164 = some (.iconst 4, 1) := rfl
theorem c_207_165 : mLk 207 165 = some (.invokevirtual 169, 3) := rfl
theorem c_207_168 : mLk 207 168 = some (.iload_n 3, 1) := rfl
theorem c_207_169 : mLk 207 169 = some (.ireturn, 1) := rfl
theorem c_207_56 : mLk 207 56 = some (.aload_n 0, 1) := rfl
theorem c_207_57 : mLk 207 57 = some (.getfield 108, 3) := rfl
theorem c_207_60 : mLk 207 60 = some (.istore_n 3, 1) := rfl
theorem c_207_61 : mLk 207 61 = some (.aload_n 0, 1) := rfl
theorem c_207_62 : mLk 207 62 = some (.iconst 0, 1) := rfl
theorem c_207_63 : mLk 207 63 = some (.iconst 3, 1) := rfl
theorem c_207_64 : mLk 207 64 = some (.invokevirtual 199, 3) := rfl
theorem c_207_67 : mLk 207 67 = some (.istore 4, 2) := rfl
theorem c_207_69 : mLk 207 69 = some (.aload_n 0, 1) := rfl
theorem c_207_70 : mLk 207 70 = some (.invokevirtual 131, 3) := rfl
theorem c_207_73 : mLk 207 73 = some (.ifCond .eq 20, 3) := rfl
theorem c_207_93 : mLk 207 93 = some (.aload_n 0, 1) := rfl
theorem c_207_94 : mLk 207 94 = some (.iconst 0, 1) := rfl
theorem c_207_95 : mLk 207 95 = some (.sipush 9999, 3) := rfl
theorem c_207_98 : mLk 207 98 = some (.invokevirtual 199, 3) := rfl
theorem c_207_101 : mLk 207 101 = some (.istore 5, 2) := rfl
theorem c_207_103 : mLk 207 103 = some (.aload_n 0, 1) := rfl
theorem c_207_104 : mLk 207 104 = some (.bipush 59, 2) := rfl
theorem c_207_106 : mLk 207 106 = some (.invokevirtual 229, 3) := rfl
theorem c_207_109 : mLk 207 109 = some (.aload_n 0, 1) := rfl
theorem c_207_110 : mLk 207 110 = some (.invokevirtual 131, 3) := rfl
theorem c_207_113 : mLk 207 113 = some (.ifCond .ne 6, 3) := rfl
theorem c_207_116 : mLk 207 116 = some (.goto 18, 3) := rfl
theorem c_207_76 : mLk 207 76 = some (.aload_n 0, 1) := rfl
theorem c_207_77 : mLk 207 77 = some (.getfield 80, 3) := rfl
theorem c_207_80 : mLk 207 80 = some (.iload 4, 2) := rfl
theorem c_207_82 : mLk 207 82 = some (.iaload, 1) := rfl
theorem c_207_83 : mLk 207 83 = some (.iconst (-1), 1) := rfl
theorem c_207_84 : mLk 207 84 = some (.if_icmp .eq 9, 3) := rfl
theorem c_207_119 : mLk 207 119 = some (.aload_n 0, 1) := rfl
theorem c_207_120 : mLk 207 120 = some (.getfield 80, 3) := rfl
theorem c_207_123 : mLk 207 123 = some (.iload 4, 2) := rfl
theorem c_207_125 : mLk 207 125 = some (.iload 5, 2) := rfl
theorem c_207_127 : mLk 207 127 = some (.iastore, 1) := rfl
theorem c_207_128 : mLk 207 128 = some (.iinc 2 1, 3) := rfl
theorem c_207_131 : mLk 207 131 = some (.goto (-89), 3) := rfl
theorem c_207_87 : mLk 207 87 = some (.aload_n 0, 1) := rfl
theorem c_207_88 : mLk 207 88 = some (.iconst 2, 1) := rfl
theorem c_207_89 : mLk 207 89 = some (.iload_n 3, 1) := rfl
theorem c_207_90 : mLk 207 90 = some (.invokevirtual 138, 3) := rfl
theorem c_207_0 : mLk 207 0 = some (.aload_n 0, 1) := rfl
theorem c_207_1 : mLk 207 1 = some (.iconst 0, 1) := rfl
theorem c_207_2 : mLk 207 2 = some (.putfield 3, 3) := rfl
theorem c_207_5 : mLk 207 5 = some (.aload_n 0, 1) := rfl
theorem c_207_6 : mLk 207 6 = some (.iload_n 1, 1) := rfl
theorem c_207_7 : mLk 207 7 = some (.invokevirtual 381, 3) := rfl
theorem c_207_10 : mLk 207 10 = some (.ifCond .ne 5, 3) := rfl
theorem c_207_13 : mLk 207 13 = some (.iconst 0, 1) := rfl
theorem c_207_14 : mLk 207 14 = some (.ireturn, 1) := rfl
theorem c_207_15 : mLk 207 15 = some (.aload_n 0, 1) := rfl
theorem c_207_16 : mLk 207 16 = some (.iload_n 1, 1) := rfl
theorem c_207_17 : mLk 207 17 = some (.invokevirtual 207, 3) := rfl
theorem c_207_20 : mLk 207 20 = some (.iconst 0, 1) := rfl
theorem c_207_21 : mLk 207 21 = some (.istore_n 2, 1) := rfl
theorem c_208_26 : mLk 208 26 = some (.iload_n 1, 1) := rfl
theorem c_208_27 : mLk 208 27 = some (.bipush 37, 2) := rfl
theorem c_208_29 : mLk 208 29 = some (.if_icmp .ge 29, 3) := rfl
theorem c_208_58 : mLk 208 58 = some (.aload_n 0, 1) := rfl
theorem c_208_59 : mLk 208 59 = some (.iconst 0, 1) := rfl
theorem c_208_60 : mLk 208 60 = some (.putfield 188, 3) := rfl
theorem c_208_63 : mLk 208 63 = some (.aload_n 0, 1) := rfl
theorem c_208_64 : mLk 208 64 = some (.getfield 182, 3) := rfl
theorem c_208_67 : mLk 208 67 = some (.ireturn, 1) := rfl
theorem c_208_32 : mLk 208 32 = some (.aload_n 0, 1) := rfl
theorem c_208_33 : mLk 208 33 = some (.getfield 65, 3) := rfl
theorem c_208_36 : mLk 208 36 = some (.iload_n 1, 1) := rfl
theorem c_208_37 : mLk 208 37 = some (.aload_n 0, 1) := rfl
theorem c_208_38 : mLk 208 38 = some (.getfield 71, 3) := rfl
theorem c_208_41 : mLk 208 41 = some (.bipush 37, 2) := rfl
theorem c_208_43 : mLk 208 43 = some (.aload_n 0, 1) := rfl
theorem c_208_44 : mLk 208 44 = some (.getfield 182, 3) := rfl
theorem c_208_47 : mLk 208 47 = some (.imul, 1) := rfl
theorem c_208_48 : mLk 208 48 = some (.iload_n 1, 1) := rfl
theorem c_208_49 : mLk 208 49 = some (.iadd, 1) := rfl
theorem c_208_50 : mLk 208 50 = some (.iaload, 1) := rfl
theorem c_208_51 : mLk 208 51 = some (.iastore, 1) := rfl
theorem c_208_52 : mLk 208 52 = some (.iinc 1 1, 3) := rfl
theorem c_208_55 : mLk 208 55 = some (.goto (-29), 3) := rfl
theorem c_208_24 : mLk 208 24 = some (.iconst 0, 1) := rfl
theorem c_208_25 : mLk 208 25 = some (.istore_n 1, 1) := rfl
theorem c_208_0 : mLk 208 0 = some (.aload_n 0, 1) := rfl
theorem c_208_1 : mLk 208 1 = some (.iconst 0, 1) := rfl
theorem c_208_2 : mLk 208 2 = some (.putfield 3, 3) := rfl
theorem c_208_5 : mLk 208 5 = some (.aload_n 0, 1) := rfl
theorem c_208_6 : mLk 208 6 = some (.getfield 182, 3) := rfl
theorem c_208_9 : mLk 208 9 = some (.ifCond .ne 5, 3) := rfl
theorem c_208_14 : mLk 208 14 = some (.aload_n 0, 1) := rfl
theorem c_208_15 : mLk 208 15 = some (.dup, 1) := rfl
theorem c_208_16 : mLk 208 16 = some (.getfield 182, 3) := rfl
theorem c_208_19 : mLk 208 19 = some (.iconst 1, 1) := rfl
theorem c_208_20 : mLk 208 20 = some (.isub, 1) := rfl
theorem c_208_21 : mLk 208 21 = some (.putfield 182, 3) := rfl
theorem c_208_12 : mLk 208 12 = some (.iconst (-1), 1) := rfl
theorem c_208_13 : mLk 208 13 = some (.ireturn, 1) := rfl
theorem c_209_4 : mLk 209 4 = some (.iload_n 2, 1) := rfl
theorem c_209_5 : mLk 209 5 = some (.aload_n 0, 1) := rfl
theorem c_209_6 : mLk 209 6 = some (.getfield 157, 3) := rfl
theorem c_209_9 : mLk 209 9 = some (.if_icmp .ge 27, 3) := rfl
theorem c_209_36 : mLk 209 36 = some (.iload_n 1, 1) := rfl
theorem c_209_37 : mLk 209 37 = some (.ireturn, 1) := rfl
theorem c_209_12 : mLk 209 12 = some (.iload_n 1, 1) := rfl
theorem c_209_13 : mLk 209 13 = some (.aload_n 0, 1) := rfl
theorem c_209_14 : mLk 209 14 = some (.iload_n 2, 1) := rfl
theorem c_209_15 : mLk 209 15 = some (.invokevirtual 343, 3) := rfl
theorem c_209_18 : mLk 209 18 = some (.ifCond .ne 9, 3) := rfl
theorem c_209_27 : mLk 209 27 = some (.iconst 0, 1) := rfl
theorem c_209_28 : mLk 209 28 = some (.ior, 1) := rfl
theorem c_209_29 : mLk 209 29 = some (.istore_n 1, 1) := rfl
theorem c_209_30 : mLk 209 30 = some (.iinc 2 1, 3) := rfl
theorem c_209_33 : mLk 209 33 = some (.goto (-29), 3) := rfl
theorem c_209_21 : mLk 209 21 = some (.iconst 1, 1) := rfl
theorem c_209_22 : mLk 209 22 = some (.iload_n 2, 1) := rfl
theorem c_209_23 : mLk 209 23 = some (.ishl, 1) := rfl
theorem c_209_24 : mLk 209 24 = some (.goto 4, 3) := rfl
theorem c_209_0 : mLk 209 0 = some (.iconst 0, 1) := rfl
theorem c_209_1 : mLk 209 1 = some (.istore_n 1, 1) := rfl
theorem c_209_2 : mLk 209 2 = some (.iconst 0, 1) := rfl
theorem c_209_3 : mLk 209 3 = some (.istore_n 2, 1) := rfl
theorem c_210_4 : mLk 210 4 = some (.iload_n 2, 1) := rfl
theorem c_210_5 : mLk 210 5 = some (.aload_n 0, 1) := rfl
theorem c_210_6 : mLk 210 6 = some (.getfield 163, 3) := rfl
theorem c_210_9 : mLk 210 9 = some (.if_icmp .ge 23, 3) := rfl
theorem c_210_32 : mLk 210 32 = some (.iload_n 1, 1) := rfl
theorem c_210_33 : mLk 210 33 = some (.ireturn, 1) := rfl
theorem c_210_12 : mLk 210 12 = some (.iload_n 1, 1) := rfl
theorem c_210_13 : mLk 210 13 = some (.aload_n 0, 1) := rfl
theorem c_210_14 : mLk 210 14 = some (.getfield 68, 3) := rfl
theorem c_210_17 : mLk 210 17 = some (.bipush 30, 2) := rfl
theorem c_210_19 : mLk 210 19 = some (.iload_n 2, 1) := rfl
theorem c_210_20 : mLk 210 20 = some (.iadd, 1) := rfl
theorem c_210_21 : mLk 210 21 = some (.iaload, 1) := rfl
theorem c_210_22 : mLk 210 22 = some (.iload_n 2, 1) := rfl
theorem c_210_23 : mLk 210 23 = some (.ishl, 1) := rfl
theorem c_210_24 : mLk 210 24 = some (.ior, 1) := rfl
theorem c_210_25 : mLk 210 25 = some (.istore_n 1, 1) := rfl
theorem c_210_26 : mLk 210 26 = some (.iinc 2 1, 3) := rfl
theorem c_210_29 : mLk 210 29 = some (.goto (-25), 3) := rfl
theorem c_210_0 : mLk 210 0 = some (.iconst 0, 1) := rfl
theorem c_210_1 : mLk 210 1 = some (.istore_n 1, 1) := rfl
theorem c_210_2 : mLk 210 2 = some (.iconst 0, 1) := rfl
theorem c_210_3 : mLk 210 3 = some (.istore_n 2, 1) := rfl
theorem c_211_0 : mLk 211 0 = some (.aload_n 0, 1) := rfl
theorem c_211_1 : mLk 211 1 = some (.iconst 0, 1) := rfl
theorem c_211_2 : mLk 211 2 = some (.putfield 3, 3) := rfl
theorem c_211_5 : mLk 211 5 = some (.aload_n 0, 1) := rfl
theorem c_211_6 : mLk 211 6 = some (.iload_n 1, 1) := rfl
theorem c_211_7 : mLk 211 7 = some (.iconst 0, 1) := rfl
theorem c_211_8 : mLk 211 8 = some (.bipush 12, 2) := rfl
theorem c_211_10 : mLk 211 10 = some (.invokestatic 384, 3) := rfl
theorem c_146_0 : mLk 146 0 = some (.iload_n 0, 1) := rfl
theorem c_146_1 : mLk 146 1 = some (.iload_n 1, 1) := rfl
theorem c_146_2 : mLk 146 2 = some (.if_icmp .lt 12, 3) := rfl
theorem c_146_14 : mLk 146 14 = some (.iconst 0, 1) := rfl
theorem c_146_15 : mLk 146 15 = some (.ireturn, 1) := rfl
theorem c_211_13 : mLk 211 13 = some (.iconst 1, 1) := rfl
theorem c_211_14 : mLk 211 14 = some (.iconst 1, 1) := rfl
theorem c_211_15 : mLk 211 15 = some (.invokevirtual 203, 3) := rfl
theorem c_211_18 : mLk 211 18 = some (.ifCond .ne 5, 3) := rfl
theorem c_211_21 : mLk 211 21 = some (.iconst 0, 1) := rfl
theorem c_211_22 : mLk 211 22 = some (.ireturn, 1) := rfl
theorem c_146_5 : mLk 146 5 = some (.iload_n 0, 1) := rfl
theorem c_146_6 : mLk 146 6 = some (.iload_n 2, 1) := rfl
theorem c_146_7 : mLk 146 7 = some (.if_icmp .gt 7, 3) := rfl
theorem c_146_10 : mLk 146 10 = some (.iconst 1, 1) := rfl
theorem c_146_11 : mLk 146 11 = some (.goto 4, 3) := rfl
theorem c_211_23 : mLk 211 23 = some (.aload_n 0, 1) := rfl
theorem c_211_24 : mLk 211 24 = some (.invokevirtual 317, 3) := rfl
theorem c_211_27 : mLk 211 27 = some (.iload_n 1, 1) := rfl
theorem c_211_28 : mLk 211 28 = some (.iconst 4, 1) := rfl
theorem c_211_29 : mLk 211 29 = some (.if_icmp .ge 43, 3) := rfl
theorem c_211_72 : mLk 211 72 = some (.iload_n 1, 1) := rfl
theorem c_211_73 : mLk 211 73 = some (.bipush 8, 2) := rfl
theorem c_211_75 : mLk 211 75 = some (.if_icmp .ge 44, 3) := rfl
theorem c_211_119 : mLk 211 119 = some (.iload_n 1, 1) := rfl
theorem c_211_120 : mLk 211 120 = some (.bipush 10, 2) := rfl
theorem c_211_122 : mLk 211 122 = some (.if_icmp .ge 21, 3) := rfl
theorem c_211_143 : mLk 211 143 = some (.iload_n 1, 1) := rfl
theorem c_211_144 : mLk 211 144 = some (.bipush 10, 2) := rfl
theorem c_211_146 : mLk 211 146 = some (.if_icmp .ne 10, 3) := rfl
theorem c_211_156 : mLk 211 156 = some (.iload_n 1, 1) := rfl
theorem c_211_157 : mLk 211 157 = some (.bipush 11, 2) := rfl
theorem c_211_159 : mLk 211 159 = some (.if_icmp .ne 10, 3) := rfl
theorem c_211_169 : mLk 211 169 = some (.aload_n 0, 1) := rfl
theorem c_211_170 : mLk 211 170 = some (.getfield 179, 3) := rfl
theorem c_211_173 : mLk 211 173 = some (.ireturn, 1) := rfl
theorem c_211_162 : mLk 211 162 = some (.aload_n 0, 1) := rfl
theorem c_211_163 : mLk 211 163 = some (.getfield 176, 3) := rfl
theorem c_211_166 : mLk 211 166 = some (.goto 7, 3) := rfl
theorem c_211_149 : mLk 211 149 = some (.aload_n 0, 1) := rfl
theorem c_211_150 : mLk 211 150 = some (.getfield 188, 3) := rfl
theorem c_211_153 : mLk 211 153 = some (.goto 20, 3) := rfl
theorem c_211_125 : mLk 211 125 = some (.iload_n 1, 1) := rfl
theorem c_211_126 : mLk 211 126 = some (.bipush 8, 2) := rfl
theorem c_211_128 : mLk 211 128 = some (.if_icmp .ne 10, 3) := rfl
theorem c_211_138 : mLk 211 138 = some (.aload_n 0, 1) := rfl
theorem c_211_139 : mLk 211 139 = some (.invokevirtual 393, 3) := rfl
theorem c_211_142 : mLk 211 142 = some (.ireturn, 1) := rfl
theorem c_211_131 : mLk 211 131 = some (.aload_n 0, 1) := rfl
theorem c_211_132 : mLk 211 132 = some (.invokevirtual 390, 3) := rfl
theorem c_211_135 : mLk 211 135 = some (.goto 7, 3) := rfl
theorem c_211_78 : mLk 211 78 = some (.iload_n 1, 1) := rfl
theorem c_211_79 : mLk 211 79 = some (.iconst 5, 1) := rfl
theorem c_211_80 : mLk 211 80 = some (.if_icmp .ne 10, 3) := rfl
theorem c_211_90 : mLk 211 90 = some (.aload_n 0, 1) := rfl
theorem c_211_91 : mLk 211 91 = some (.getfield 68, 3) := rfl
theorem c_211_94 : mLk 211 94 = some (.iload_n 1, 1) := rfl
theorem c_211_95 : mLk 211 95 = some (.iconst 4, 1) := rfl
theorem c_211_96 : mLk 211 96 = some (.if_icmp .ne 8, 3) := rfl
theorem c_211_104 : mLk 211 104 = some (.iload_n 1, 1) := rfl
theorem c_211_105 : mLk 211 105 = some (.bipush 6, 2) := rfl
theorem c_211_107 : mLk 211 107 = some (.if_icmp .ne 8, 3) := rfl
theorem c_211_115 : mLk 211 115 = some (.bipush 36, 2) := rfl
theorem c_211_117 : mLk 211 117 = some (.iaload, 1) := rfl
theorem c_211_118 : mLk 211 118 = some (.ireturn, 1) := rfl
theorem c_211_110 : mLk 211 110 = some (.bipush 35, 2) := rfl
theorem c_211_112 : mLk 211 112 = some (.goto 5, 3) := rfl
theorem c_211_99 : mLk 211 99 = some (.bipush 34, 2) := rfl
theorem c_211_101 : mLk 211 101 = some (.goto 16, 3) := rfl
theorem c_211_83 : mLk 211 83 = some (.aload_n 0, 1) := rfl
theorem c_211_84 : mLk 211 84 = some (.invokevirtual 387, 3) := rfl
theorem c_211_87 : mLk 211 87 = some (.goto 31, 3) := rfl
theorem c_211_32 : mLk 211 32 = some (.iload_n 1, 1) := rfl
theorem c_211_33 : mLk 211 33 = some (.ifCond .ne 10, 3) := rfl
theorem c_211_43 : mLk 211 43 = some (.iload_n 1, 1) := rfl
theorem c_211_44 : mLk 211 44 = some (.iconst 1, 1) := rfl
theorem c_211_45 : mLk 211 45 = some (.if_icmp .ne 10, 3) := rfl
theorem c_211_55 : mLk 211 55 = some (.iload_n 1, 1) := rfl
theorem c_211_56 : mLk 211 56 = some (.iconst 2, 1) := rfl
theorem c_211_57 : mLk 211 57 = some (.if_icmp .ne 10, 3) := rfl
theorem c_211_67 : mLk 211 67 = some (.aload_n 0, 1) := rfl
theorem c_211_68 : mLk 211 68 = some (.getfield 166, 3) := rfl
theorem c_211_71 : mLk 211 71 = some (.ireturn, 1) := rfl
theorem c_211_60 : mLk 211 60 = some (.aload_n 0, 1) := rfl
theorem c_211_61 : mLk 211 61 = some (.getfield 163, 3) := rfl
theorem c_211_64 : mLk 211 64 = some (.goto 7, 3) := rfl
theorem c_211_48 : mLk 211 48 = some (.aload_n 0, 1) := rfl
theorem c_211_49 : mLk 211 49 = some (.getfield 160, 3) := rfl
theorem c_211_52 : mLk 211 52 = some (.goto 19, 3) := rfl
theorem c_211_36 : mLk 211 36 = some (.aload_n 0, 1) := rfl
theorem c_211_37 : mLk 211 37 = some (.getfield 157, 3) := rfl
theorem c_211_40 : mLk 211 40 = some (.goto 31, 3) := rfl
theorem c_213_0 : mLk 213 0 = some (.aload_n 0, 1) := rfl
theorem c_213_1 : mLk 213 1 = some (.iconst 0, 1) := rfl
theorem c_213_2 : mLk 213 2 = some (.putfield 3, 3) := rfl
theorem c_213_5 : mLk 213 5 = some (.aload_n 0, 1) := rfl
theorem c_213_6 : mLk 213 6 = some (.iload_n 1, 1) := rfl
theorem c_213_7 : mLk 213 7 = some (.aload_n 0, 1) := rfl
theorem c_213_8 : mLk 213 8 = some (.getfield 157, 3) := rfl
theorem c_213_11 : mLk 213 11 = some (.invokevirtual 396, 3) := rfl
theorem c_212_0 : mLk 212 0 = some (.aload_n 0, 1) := rfl
theorem c_212_1 : mLk 212 1 = some (.iload_n 1, 1) := rfl
theorem c_212_2 : mLk 212 2 = some (.iconst 0, 1) := rfl
theorem c_212_3 : mLk 212 3 = some (.iload_n 2, 1) := rfl
theorem c_212_4 : mLk 212 4 = some (.iconst 1, 1) := rfl
theorem c_212_5 : mLk 212 5 = some (.isub, 1) := rfl
theorem c_212_6 : mLk 212 6 = some (.invokestatic 384, 3) := rfl
theorem c_212_9 : mLk 212 9 = some (.iconst 1, 1) := rfl
theorem c_212_10 : mLk 212 10 = some (.iconst 0, 1) := rfl
theorem c_212_11 : mLk 212 11 = some (.invokevirtual 203, 3) := rfl
theorem c_212_14 : mLk 212 14 = some (.ireturn, 1) := rfl
theorem c_213_14 : mLk 213 14 = some (.ifCond .eq 19, 3) := rfl
theorem c_213_33 : mLk 213 33 = some (.iconst 0, 1) := rfl
theorem c_213_34 : mLk 213 34 = some (.ireturn, 1) := rfl
theorem c_213_17 : mLk 213 17 = some (.aload_n 0, 1) := rfl
theorem c_213_18 : mLk 213 18 = some (.iload_n 2, 1) := rfl
theorem c_213_19 : mLk 213 19 = some (.iconst 0, 1) := rfl
theorem c_213_20 : mLk 213 20 = some (.bipush 6, 2) := rfl
theorem c_213_22 : mLk 213 22 = some (.invokestatic 384, 3) := rfl
theorem c_213_25 : mLk 213 25 = some (.iconst 2, 1) := rfl
theorem c_213_26 : mLk 213 26 = some (.iconst 1, 1) := rfl
theorem c_213_27 : mLk 213 27 = some (.invokevirtual 203, 3) := rfl
theorem c_213_30 : mLk 213 30 = some (.ifCond .ne 5, 3) := rfl
theorem c_213_35 : mLk 213 35 = some (.aload_n 0, 1) := rfl
theorem c_213_36 : mLk 213 36 = some (.invokevirtual 317, 3) := rfl
theorem c_213_39 : mLk 213 39 = some (.iload_n 2, 1) := rfl
theorem c_213_40 : mLk 213 40 = some (.iconst 4, 1) := rfl
theorem c_213_41 : mLk 213 41 = some (.if_icmp .ge 16, 3) := rfl
theorem c_213_57 : mLk 213 57 = some (.iload_n 2, 1) := rfl
theorem c_213_58 : mLk 213 58 = some (.iconst 4, 1) := rfl
theorem c_213_59 : mLk 213 59 = some (.if_icmp .ne 11, 3) := rfl
theorem c_213_70 : mLk 213 70 = some (.iload_n 2, 1) := rfl
theorem c_213_71 : mLk 213 71 = some (.iconst 5, 1) := rfl
theorem c_213_72 : mLk 213 72 = some (.if_icmp .ne 15, 3) := rfl
theorem c_213_87 : mLk 213 87 = some (.aload_n 0, 1) := rfl
theorem c_213_88 : mLk 213 88 = some (.iload_n 1, 1) := rfl
theorem c_213_89 : mLk 213 89 = some (.invokevirtual 399, 3) := rfl
theorem c_213_92 : mLk 213 92 = some (.ireturn, 1) := rfl
theorem c_213_75 : mLk 213 75 = some (.aload_n 0, 1) := rfl
theorem c_213_76 : mLk 213 76 = some (.getfield 68, 3) := rfl
theorem c_213_79 : mLk 213 79 = some (.bipush 24, 2) := rfl
theorem c_213_81 : mLk 213 81 = some (.iload_n 1, 1) := rfl
theorem c_213_82 : mLk 213 82 = some (.iadd, 1) := rfl
theorem c_213_83 : mLk 213 83 = some (.iaload, 1) := rfl
theorem c_213_84 : mLk 213 84 = some (.goto 8, 3) := rfl
theorem c_213_62 : mLk 213 62 = some (.aload_n 0, 1) := rfl
theorem c_213_63 : mLk 213 63 = some (.iload_n 1, 1) := rfl
theorem c_213_64 : mLk 213 64 = some (.invokevirtual 343, 3) := rfl
theorem c_213_67 : mLk 213 67 = some (.goto 25, 3) := rfl
theorem c_213_44 : mLk 213 44 = some (.aload_n 0, 1) := rfl
theorem c_213_45 : mLk 213 45 = some (.getfield 68, 3) := rfl
theorem c_213_48 : mLk 213 48 = some (.iconst 4, 1) := rfl
theorem c_213_49 : mLk 213 49 = some (.iload_n 1, 1) := rfl
theorem c_213_50 : mLk 213 50 = some (.imul, 1) := rfl
theorem c_213_51 : mLk 213 51 = some (.iload_n 2, 1) := rfl
theorem c_213_52 : mLk 213 52 = some (.iadd, 1) := rfl
theorem c_213_53 : mLk 213 53 = some (.iaload, 1) := rfl
theorem c_213_54 : mLk 213 54 = some (.goto 38, 3) := rfl
theorem c_214_0 : mLk 214 0 = some (.aload_n 0, 1) := rfl
theorem c_214_1 : mLk 214 1 = some (.iconst 0, 1) := rfl
theorem c_214_2 : mLk 214 2 = some (.putfield 3, 3) := rfl
theorem c_214_5 : mLk 214 5 = some (.aload_n 0, 1) := rfl
theorem c_214_6 : mLk 214 6 = some (.iload_n 1, 1) := rfl
theorem c_214_7 : mLk 214 7 = some (.aload_n 0, 1) := rfl
theorem c_214_8 : mLk 214 8 = some (.getfield 160, 3) := rfl
theorem c_214_11 : mLk 214 11 = some (.invokevirtual 396, 3) := rfl
theorem c_214_14 : mLk 214 14 = some (.ifCond .eq 18, 3) := rfl
theorem c_214_32 : mLk 214 32 = some (.iconst 0, 1) := rfl
theorem c_214_33 : mLk 214 33 = some (.ireturn, 1) := rfl
theorem c_214_17 : mLk 214 17 = some (.aload_n 0, 1) := rfl
theorem c_214_18 : mLk 214 18 = some (.iload_n 2, 1) := rfl
theorem c_214_19 : mLk 214 19 = some (.iconst 0, 1) := rfl
theorem c_214_20 : mLk 214 20 = some (.iconst 2, 1) := rfl
theorem c_214_21 : mLk 214 21 = some (.invokestatic 384, 3) := rfl
theorem c_214_24 : mLk 214 24 = some (.iconst 2, 1) := rfl
theorem c_214_25 : mLk 214 25 = some (.iconst 1, 1) := rfl
theorem c_214_26 : mLk 214 26 = some (.invokevirtual 203, 3) := rfl
theorem c_214_29 : mLk 214 29 = some (.ifCond .ne 5, 3) := rfl
theorem c_214_34 : mLk 214 34 = some (.aload_n 0, 1) := rfl
theorem c_214_35 : mLk 214 35 = some (.getfield 35, 3) := rfl
theorem c_214_38 : mLk 214 38 = some (.iconst 3, 1) := rfl
theorem c_214_39 : mLk 214 39 = some (.iload_n 1, 1) := rfl
theorem c_214_40 : mLk 214 40 = some (.imul, 1) := rfl
theorem c_214_41 : mLk 214 41 = some (.iload_n 2, 1) := rfl
theorem c_214_42 : mLk 214 42 = some (.iadd, 1) := rfl
theorem c_214_43 : mLk 214 43 = some (.iaload, 1) := rfl
theorem c_214_44 : mLk 214 44 = some (.ireturn, 1) := rfl
theorem c_215_0 : mLk 215 0 = some (.aload_n 0, 1) := rfl
theorem c_215_1 : mLk 215 1 = some (.iconst 0, 1) := rfl
theorem c_215_2 : mLk 215 2 = some (.putfield 3, 3) := rfl
theorem c_215_5 : mLk 215 5 = some (.aload_n 0, 1) := rfl
theorem c_215_6 : mLk 215 6 = some (.iload_n 1, 1) := rfl
theorem c_215_7 : mLk 215 7 = some (.aload_n 0, 1) := rfl
theorem c_215_8 : mLk 215 8 = some (.getfield 163, 3) := rfl
theorem c_215_11 : mLk 215 11 = some (.invokevirtual 396, 3) := rfl
theorem c_215_14 : mLk 215 14 = some (.ifCond .eq 18, 3) := rfl
theorem c_215_32 : mLk 215 32 = some (.iconst 0, 1) := rfl
theorem c_215_33 : mLk 215 33 = some (.ireturn, 1) := rfl
theorem c_215_17 : mLk 215 17 = some (.aload_n 0, 1) := rfl
theorem c_215_18 : mLk 215 18 = some (.iload_n 2, 1) := rfl
theorem c_215_19 : mLk 215 19 = some (.iconst 0, 1) := rfl
theorem c_215_20 : mLk 215 20 = some (.iconst 1, 1) := rfl
theorem c_215_21 : mLk 215 21 = some (.invokestatic 384, 3) := rfl
theorem c_215_24 : mLk 215 24 = some (.iconst 2, 1) := rfl
theorem c_215_25 : mLk 215 25 = some (.iconst 1, 1) := rfl
theorem c_215_26 : mLk 215 26 = some (.invokevirtual 203, 3) := rfl
theorem c_215_29 : mLk 215 29 = some (.ifCond .ne 5, 3) := rfl
theorem c_215_34 : mLk 215 34 = some (.iload_n 2, 1) := rfl
theorem c_215_35 : mLk 215 35 = some (.ifCond .ne 12, 3) := rfl
theorem c_215_47 : mLk 215 47 = some (.aload_n 0, 1) := rfl
theorem c_215_48 : mLk 215 48 = some (.getfield 65, 3) := rfl
theorem c_215_51 : mLk 215 51 = some (.bipush 30, 2) := rfl
theorem c_215_53 : mLk 215 53 = some (.iload_n 1, 1) := rfl
theorem c_215_54 : mLk 215 54 = some (.iadd, 1) := rfl
theorem c_215_55 : mLk 215 55 = some (.iaload, 1) := rfl
theorem c_215_56 : mLk 215 56 = some (.ireturn, 1) := rfl
theorem c_215_38 : mLk 215 38 = some (.aload_n 0, 1) := rfl
theorem c_215_39 : mLk 215 39 = some (.getfield 38, 3) := rfl
theorem c_215_42 : mLk 215 42 = some (.iload_n 1, 1) := rfl
theorem c_215_43 : mLk 215 43 = some (.iaload, 1) := rfl
theorem c_215_44 : mLk 215 44 = some (.goto 12, 3) := rfl
theorem c_216_0 : mLk 216 0 = some (.aload_n 0, 1) := rfl
theorem c_216_1 : mLk 216 1 = some (.iconst 0, 1) := rfl
theorem c_216_2 : mLk 216 2 = some (.putfield 3, 3) := rfl
theorem c_216_5 : mLk 216 5 = some (.aload_n 0, 1) := rfl
theorem c_216_6 : mLk 216 6 = some (.iload_n 1, 1) := rfl
theorem c_216_7 : mLk 216 7 = some (.aload_n 0, 1) := rfl
theorem c_216_8 : mLk 216 8 = some (.getfield 157, 3) := rfl
theorem c_216_11 : mLk 216 11 = some (.invokevirtual 396, 3) := rfl
theorem c_216_14 : mLk 216 14 = some (.ifCond .ne 5, 3) := rfl
theorem c_216_17 : mLk 216 17 = some (.iconst 0, 1) := rfl
theorem c_216_18 : mLk 216 18 = some (.ireturn, 1) := rfl
theorem c_216_19 : mLk 216 19 = some (.aload_n 0, 1) := rfl
theorem c_216_20 : mLk 216 20 = some (.invokevirtual 317, 3) := rfl
theorem c_216_23 : mLk 216 23 = some (.aload_n 0, 1) := rfl
theorem c_216_24 : mLk 216 24 = some (.iload_n 1, 1) := rfl
theorem c_216_25 : mLk 216 25 = some (.invokevirtual 375, 3) := rfl
theorem c_216_28 : mLk 216 28 = some (.ireturn, 1) := rfl
theorem kf_8_80 : a_lk (kF 8) 80 = some (8, 45) := rfl
theorem km_8_387 : a_lk (kM 8) 387 = some (0, 203) := rfl
theorem km_8_390 : a_lk (kM 8) 390 = some (0, 209) := rfl
theorem km_8_393 : a_lk (kM 8) 393 = some (0, 210) := rfl
theorem km_8_396 : a_lk (kM 8) 396 = some (0, 212) := rfl
theorem km_8_399 : a_lk (kM 8) 399 = some (0, 204) := rfl
set_option maxRecDepth 100000 in
set_option maxHeartbeats 4000000 in
theorem s_207_l {sc : List Int32} {e : Int} {d u P Q : Nat} {c : ME} {a1 : Int} {Z : AR → Prop} (hI : Iv u e P Q c) (ha1 : (-2147483648) ≤ a1 ∧ a1 ≤ 2147483647) (K : ∀ (c2 : ME) (y : Int), Iv u e P Q c2 → (∀ (a : Nat) (j : Int), ¬ ((a = 41 ∧ j = 0) ∨ a = 42 ∨ (a = 41 ∧ j = 2) ∨ (a = 41 ∧ j = 3) ∨ (a = 41 ∧ j = 4) ∨ (a = 41 ∧ j = 5) ∨ (a = 41 ∧ j = 6) ∨ (a = 41 ∧ j = 7) ∨ (a = 41 ∧ j = 8) ∨ (a = 41 ∧ j = 48) ∨ a = 63 ∨ a = 64) → c2 a j = c a j) → (-2147483648) ≤ y ∧ y ≤ 2147483647 → ((c2 41 2 = 0 ∧ a1 ≥ 0 ∧ a1 ≤ c 41 2 ∧ a1 ≤ 60) ∨ (c2 41 2 = c 41 2 ∧ a1 < 0) ∨ (c2 41 2 = c 41 2 ∧ a1 > c 41 2) ∨ (c2 41 2 = c 41 2 ∧ a1 > 60)) → Z (.inl (some (vi y)), Wd P Q P P c2, 0, 0)) : ∀ n : Nat, (∀ (c2 : ME) (v2 : Int), Iv u e P Q c2 → (∀ (a : Nat) (j : Int), ¬ ((a = 41 ∧ j = 0) ∨ a = 42 ∨ (a = 41 ∧ j = 2) ∨ (a = 41 ∧ j = 3) ∨ (a = 41 ∧ j = 4) ∨ (a = 41 ∧ j = 5) ∨ (a = 41 ∧ j = 6) ∨ (a = 41 ∧ j = 7) ∨ (a = 41 ∧ j = 8) ∨ (a = 41 ∧ j = 48) ∨ a = 63 ∨ a = 64) → c2 a j = c a j) → 0 ≤ v2 ∧ v2 ≤ 4 → ((c2 41 2 = 0 ∧ a1 ≥ 0 ∧ a1 ≤ c 41 2 ∧ a1 ≤ 60)) → 1222 - 2 * v2 < (n : Int) → Wp sc (d + 9) 207 22 [(0, .ref 41), (1, vi a1), (2, vi v2)] [] (Wd P Q P P c2) 0 0 Z) ∧ (∀ (c2 : ME) (v2 : Int), Iv u e P Q c2 → (∀ (a : Nat) (j : Int), ¬ ((a = 41 ∧ j = 0) ∨ a = 42 ∨ (a = 41 ∧ j = 2) ∨ (a = 41 ∧ j = 3) ∨ (a = 41 ∧ j = 4) ∨ (a = 41 ∧ j = 5) ∨ (a = 41 ∧ j = 6) ∨ (a = 41 ∧ j = 7) ∨ (a = 41 ∧ j = 8) ∨ (a = 41 ∧ j = 48) ∨ a = 63 ∨ a = 64) → c2 a j = c a j) → (-2147483648) ≤ v2 ∧ v2 ≤ 2147483647 → ((c2 41 2 = 0 ∧ a1 ≥ 0 ∧ a1 ≤ c 41 2 ∧ a1 ≤ 60)) → 1211 - 2 * c2 41 4 < (n : Int) → Wp sc (d + 9) 207 42 [(0, .ref 41), (1, vi a1), (2, vi v2)] [] (Wd P Q P P c2) 0 0 Z) := by
  intro n
  induction n with
  | zero => exact (by exact ⟨by (intro c2 v2 hI2 hF hv2 hx0 hm9; have hP := iv_P hI; have hQ := iv_Q hI; exfalso; omega), by (intro c2 v2 hI2 hF hv2 hx0 hm9; have hP := iv_P hI; have hQ := iv_Q hI; have h_183 := ir_41_4 hI2; exfalso; omega)⟩)
  | succ n ih =>
    have hP := iv_P hI
    have hQ := iv_Q hI
    refine ⟨?_, ?_⟩
    · skip
      intro c2 v2 hI2 hF hv2 hx0 hm9
      have h_1 := ir_41_2 hI
      have h_2 := ir_41_2 hI2
      refine q_iload_n c_207_22 rfl (q_iconst c_207_23 ?_)
      by_cases h_3 : v2 ≥ 4
      · refine v_ic_ge_t (t := 40) c_207_24 rfl ⟨of_decide_eq_true rfl, h_3, (ler hv2.2 rfl)⟩ (q_iconst c_207_40 (q_istore_n c_207_41 (Nat.le_of_ble_eq_true rfl) (Wp_ls [(0, .ref 41), (1, vi a1), (2, vi 0)] (lsub_cons rfl (lsub_cons rfl (lsub_cons rfl lsub_nil))) ?_)))
        have h_4 := ir_41_4 hI2
        exact ih.2 c2 0 hI2 (fun a j hm => hF a j hm) ⟨of_decide_eq_true rfl, of_decide_eq_true rfl⟩ ⟨by omega, by omega, by omega, by omega⟩ (by omega)
      · refine v_ic_ge_f (t := 40) c_207_24 rfl ⟨(lel hv2.1 rfl), (Int.not_le.mp h_3), of_decide_eq_true rfl⟩ (q_aload_n c_207_27 rfl (v_gr (t := 63) c_207_28 kf_8_80 rfl (Nat.le_of_ble_eq_true rfl) rfl (q_iload_n c_207_31 rfl (q_iconst c_207_32 (v_is c_207_33 rfl (of_decide_eq_true rfl) (of_decide_eq_true rfl) ⟨hv2.1, (q_2e808647e h_3)⟩ (v_iinc (v := v2 + 1) c_207_34 rfl (Nat.le_of_ble_eq_true rfl) rfl (q_goto (t := 22) c_207_37 rfl ?_)))))))
        have hI_5 := iw_63 (j := v2) (v := (-1)) hI2 ⟨of_decide_eq_true rfl, of_decide_eq_true rfl⟩
        refine Wp_ls [(0, .ref 41), (1, vi a1), (2, vi (v2 + 1))] (lsub_cons rfl (lsub_cons rfl (lsub_cons rfl lsub_nil))) ?_
        have h_6 : (up c2 63 v2 (-1)) 41 2 = c2 41 2 := (up_c (nn rfl))
        exact ih.1 (up c2 63 v2 (-1)) (v2 + 1) hI_5 (fun a j hm => (up_b (Decidable.or_iff_not_imp_left.mpr (fun h1 h2 => hm (Or.inr (Or.inr (Or.inr (Or.inr (Or.inr (Or.inr (Or.inr (Or.inr (Or.inr (Or.inr (Or.inl (Decidable.not_not.mp h1))))))))))))))).trans (hF a j hm)) ⟨(rgp_l hv2.1 (of_decide_eq_true rfl)), (q_121241f94 h_3)⟩ ⟨by omega, by omega, by omega, by omega⟩ (by omega)
    · skip
      intro c2 v2 hI2 hF hv2 hx0 hm9
      have h_7 := ir_41_2 hI
      have h_8 := ir_41_2 hI2
      have h_9 := ir_41_4 hI2
      refine q_aload_n c_207_42 rfl (v_cv c_207_43 km_8_131 rfl rfl (Nat.le_of_ble_eq_true rfl) ⟨⟨rfl, rfl⟩, Nat.le_of_ble_eq_true rfl, rfl⟩ (Nat.le_of_ble_eq_true rfl) (Nat.le_of_ble_eq_true rfl) (q_aload_n c_152_0 rfl ?_))
      have h_10 := ir_41_5 hI2
      refine v_gi (z := 5) (v := c2 41 5) c_152_1 kf_8_102 rfl (Nat.le_of_ble_eq_true rfl) rfl rfl rfl (q_iconst c_152_4 ?_)
      by_cases h_11 : c2 41 5 ≠ (-1)
      · refine v_ic_ne_t (t := 12) c_152_5 rfl ⟨h_11, ⟨(lel h_10.1 rfl), (ler h_10.2 rfl)⟩, of_decide_eq_true rfl, of_decide_eq_true rfl⟩ (q_iconst c_152_12 (v_zret c_152_13 rfl (of_decide_eq_true rfl) (bk_inl (v_if_eq_t (t := 134) c_207_46 rfl (of_decide_eq_true rfl) (q_aload_n c_207_134 rfl (q_iload_n c_207_135 rfl (v_cv c_207_136 km_8_232 rfl rfl (Nat.le_of_ble_eq_true rfl) ⟨⟨rfl, rfl⟩, Nat.le_of_ble_eq_true rfl, rfl⟩ (Nat.le_of_ble_eq_true rfl) (Nat.le_of_ble_eq_true rfl) (s_164 (a1 := v2) hI2 (show (-2147483648) ≤ v2 ∧ v2 ≤ 2147483647 from hv2) (fun c_12 y_15 hI_13 hF_14 hy_15 => ?_)))))))))
        refine bk_inl (q_istore_n c_207_139 (Nat.le_of_ble_eq_true rfl) (q_aload_n c_207_140 rfl ?_))
        have kn_16 : Hid (c_12 41 5 = c2 41 5) := hF_14 41 5 (fun h => absurd h.2 (ni rfl))
        refine v_gi (z := 5) (v := c2 41 5) c_207_141 kf_8_102 rfl (Nat.le_of_ble_eq_true rfl) rfl rfl (hid kn_16) (q_iconst c_207_144 (v_ic_eq_f (t := 150) c_207_145 rfl ⟨(q_bd023a79f h_10 h_11), ⟨(lel h_10.1 rfl), (ler h_10.2 rfl)⟩, of_decide_eq_true rfl, of_decide_eq_true rfl⟩ (q_iload_n c_207_148 rfl (q_iret c_207_149 rfl ?_))))
        have kn_17 : Hid (c_12 41 2 = c2 41 2) := hF_14 41 2 (fun h => absurd h.2 (ni rfl))
        have h_18 : c_12 41 2 = c2 41 2 := (hid kn_17)
        exact K c_12 y_15 hI_13 (fun a j hm => (hF_14 a j (qv_e289254c2 hm)).trans (hF a j hm)) hy_15 (Or.inl ⟨by first | (clear ha1 hv2 h_7 h_8 h_9 h_10 h_11; omega) | omega, by first | (clear ha1 hv2 h_7 h_8 h_9 h_10 h_11; omega) | omega, by first | (clear ha1 hv2 h_7 h_8 h_9 h_10 h_11; omega) | omega, by first | (clear ha1 hv2 h_7 h_8 h_9 h_10 h_11; omega) | omega⟩)
      · refine v_ic_ne_f (t := 12) c_152_5 rfl (Decidable.not_not.mp h_11) (q_iconst c_152_8 (q_goto (t := 13) c_152_9 rfl (v_zret c_152_13 rfl (of_decide_eq_true rfl) (bk_inl (v_if_eq_f (t := 134) c_207_46 rfl (of_decide_eq_true rfl) (q_aload_n c_207_49 rfl ?_))))))
        have h_19 := ir_41_3 hI2
        refine v_cv c_207_50 km_8_211 rfl rfl (Nat.le_of_ble_eq_true rfl) ⟨⟨rfl, rfl⟩, Nat.le_of_ble_eq_true rfl, rfl⟩ (Nat.le_of_ble_eq_true rfl) (Nat.le_of_ble_eq_true rfl) (s_162 hI2 (fun c_20 y_23 hI_21 hF_22 hy_23 h_24 h_25 h_26 => (bk_inl ?_)))
        have h_27 := ir_41_4 hI_21
        by_cases h_28 : y_23 = 0
        · refine v_if_eq_t (t := 134) c_207_53 rfl h_28 (q_aload_n c_207_134 rfl (q_iload_n c_207_135 rfl (v_cv c_207_136 km_8_232 rfl rfl (Nat.le_of_ble_eq_true rfl) ⟨⟨rfl, rfl⟩, Nat.le_of_ble_eq_true rfl, rfl⟩ (Nat.le_of_ble_eq_true rfl) (Nat.le_of_ble_eq_true rfl) (s_164 (a1 := v2) hI_21 (show (-2147483648) ≤ v2 ∧ v2 ≤ 2147483647 from hv2) (fun c_29 y_32 hI_30 hF_31 hy_32 => (bk_inl (q_istore_n c_207_139 (Nat.le_of_ble_eq_true rfl) (q_aload_n c_207_140 rfl ?_))))))))
          have kn_33 : Hid (c_20 41 5 = c2 41 5) := hF_22 41 5 (fun h => absurd h.2 (ni rfl))
          have kn_34 : Hid (c_29 41 5 = c2 41 5) := (hF_31 41 5 (fun h => absurd h.2 (ni rfl))).trans (hid kn_33)
          refine v_gi (z := 5) (v := c2 41 5) c_207_141 kf_8_102 rfl (Nat.le_of_ble_eq_true rfl) rfl rfl (hid kn_34) (q_iconst c_207_144 (v_ic_eq_t (t := 150) c_207_145 rfl ((q_65c5ff97d h_10 h_11)) (q_aload_n c_207_150 rfl (q_iload_n c_207_151 rfl (v_pi (z := 48) c_207_152 kf_8_179 rfl (Nat.le_of_ble_eq_true rfl) rfl rfl rfl (of_decide_eq_true rfl) (q_aload_n c_207_155 rfl (q_aload_n c_207_156 rfl ?_)))))))
          refine v_gr (t := 63) c_207_157 kf_8_80 rfl (Nat.le_of_ble_eq_true rfl) rfl (q_aload_n c_207_160 rfl (v_gr (t := 64) c_207_161 kf_8_83 rfl (Nat.le_of_ble_eq_true rfl) rfl (q_iconst c_207_164 (v_cv c_207_165 km_8_169 rfl rfl (Nat.le_of_ble_eq_true rfl) ⟨⟨rfl, rfl⟩, Nat.le_of_ble_eq_true rfl, rfl⟩ (Nat.le_of_ble_eq_true rfl) (Nat.le_of_ble_eq_true rfl) (s_148 (f := 63) (t := 64) (nf := 4) (nt := 4) (n := 4) rfl rfl (of_decide_eq_true rfl) (of_decide_eq_true rfl) (of_decide_eq_true rfl) (of_decide_eq_true rfl) (of_decide_eq_true rfl) (by omega) (bk_inl (q_iload_n c_207_168 rfl (q_iret c_207_169 rfl ?_))))))))
          have hI_35 := iw_41_48 (v := v2) hI_30 ⟨hv2.1, hv2.2⟩
          have hI_36 := cp_63_64 hI_35
          have kn_37 : Hid (c_20 41 2 = c2 41 2) := hF_22 41 2 (fun h => absurd h.2 (ni rfl))
          have kn_38 : Hid (c_29 41 2 = c2 41 2) := (hF_31 41 2 (fun h => absurd h.2 (ni rfl))).trans (hid kn_37)
          have h_39 : (upc (up c_29 41 48 v2) 63 0 64 0 4) 41 2 = c2 41 2 := ((upc_c (by omega)).trans ((up_n (ni rfl)).trans (hid kn_38)))
          exact K (upc (up c_29 41 48 v2) 63 0 64 0 4) y_32 hI_36 (fun a j hm => (upc_c (fun h => hm (Or.inr (Or.inr (Or.inr (Or.inr (Or.inr (Or.inr (Or.inr (Or.inr (Or.inr (Or.inr (Or.inr h))))))))))))).trans ((up_b (Decidable.or_iff_not_imp_left.mpr (fun h1 h2 => hm (Or.inr (Or.inr (Or.inr (Or.inr (Or.inr (Or.inr (Or.inr (Or.inr (Or.inr (Or.inl ⟨Decidable.not_not.mp h1, h2⟩))))))))))))).trans ((hF_31 a j (qv_e289254c2 hm)).trans ((hF_22 a j (fun h => hm (Or.inr (Or.inr (Or.inr (Or.inr (Or.inl h))))))).trans (hF a j hm))))) hy_32 (Or.inl ⟨by first | (clear ha1 hv2 h_7 h_8 h_9 h_10 h_11 h_19 h_27 h_24 h_28 h_25 h_26; omega) | omega, by first | (clear ha1 hv2 h_7 h_8 h_9 h_10 h_11 h_19 h_27 h_24 h_28 h_25 h_26; omega) | omega, by first | (clear ha1 hv2 h_7 h_8 h_9 h_10 h_11 h_19 h_27 h_24 h_28 h_25 h_26; omega) | omega, by first | (clear ha1 hv2 h_7 h_8 h_9 h_10 h_11 h_19 h_27 h_24 h_28 h_25 h_26; omega) | omega⟩)
        · refine v_if_eq_f (t := 134) c_207_53 rfl ⟨h_28, ⟨(lel hy_23.1 rfl), (ler hy_23.2 rfl)⟩, of_decide_eq_true rfl, of_decide_eq_true rfl⟩ (q_aload_n c_207_56 rfl (v_gi (z := 4) (v := c_20 41 4) c_207_57 kf_8_108 rfl (Nat.le_of_ble_eq_true rfl) rfl rfl rfl (q_istore_n c_207_60 (Nat.le_of_ble_eq_true rfl) (q_aload_n c_207_61 rfl (q_iconst c_207_62 (q_iconst c_207_63 ?_))))))
          have kn_40 : Hid (c_20 41 3 = c2 41 3) := hF_22 41 3 (fun h => absurd h.2 (ni rfl))
          have h_41 : c_20 41 3 = c2 41 3 := (hid kn_40)
          have kn_42 : Hid (c_20 41 5 = c2 41 5) := hF_22 41 5 (fun h => absurd h.2 (ni rfl))
          have h_43 : c_20 41 5 = c2 41 5 := (hid kn_42)
          refine v_cv c_207_64 km_8_199 rfl rfl (Nat.le_of_ble_eq_true rfl) ⟨⟨rfl, rfl⟩, Nat.le_of_ble_eq_true rfl, rfl⟩ (Nat.le_of_ble_eq_true rfl) (Nat.le_of_ble_eq_true rfl) (s_160 (a1 := 0) (a2 := 3) hI_21 (show 0 ≤ 0 ∧ 0 ≤ 1 from ⟨of_decide_eq_true rfl, of_decide_eq_true rfl⟩) (show (-1) ≤ 3 ∧ 3 ≤ 9999 from ⟨of_decide_eq_true rfl, of_decide_eq_true rfl⟩) (fun c_44 y_47 hI_45 hF_46 hy_47 h_48 h_49 h_50 h_51 h_52 => (bk_inl ?_)))
          have h_53 := ir_41_4 hI_45
          have h_54 := ir_41_5 hI_45
          refine q_istore c_207_67 (Nat.le_of_ble_eq_true rfl) (q_aload_n c_207_69 rfl (v_cv c_207_70 km_8_131 rfl rfl (Nat.le_of_ble_eq_true rfl) ⟨⟨rfl, rfl⟩, Nat.le_of_ble_eq_true rfl, rfl⟩ (Nat.le_of_ble_eq_true rfl) (Nat.le_of_ble_eq_true rfl) (q_aload_n c_152_0 rfl (v_gi (z := 5) (v := c_44 41 5) c_152_1 kf_8_102 rfl (Nat.le_of_ble_eq_true rfl) rfl rfl rfl (q_iconst c_152_4 ?_)))))
          by_cases h_55 : c_44 41 5 ≠ (-1)
          · refine v_ic_ne_t (t := 12) c_152_5 rfl ⟨h_55, ⟨(lel h_54.1 rfl), (ler h_54.2 rfl)⟩, of_decide_eq_true rfl, of_decide_eq_true rfl⟩ (q_iconst c_152_12 (v_zret c_152_13 rfl (of_decide_eq_true rfl) (bk_inl (v_if_eq_t (t := 93) c_207_73 rfl (of_decide_eq_true rfl) (q_aload_n c_207_93 rfl (q_iconst c_207_94 (v_sip c_207_95 (of_decide_eq_true rfl) ?_)))))))
            have kn_56 : Hid (c_44 41 3 = c2 41 3) := (hF_46 41 3 qn_97fd72088).trans (hid kn_40)
            have h_57 : c_44 41 3 = c2 41 3 := (hid kn_56)
            refine v_cv c_207_98 km_8_199 rfl rfl (Nat.le_of_ble_eq_true rfl) ⟨⟨rfl, rfl⟩, Nat.le_of_ble_eq_true rfl, rfl⟩ (Nat.le_of_ble_eq_true rfl) (Nat.le_of_ble_eq_true rfl) (s_160 (a1 := 0) (a2 := 9999) hI_45 (show 0 ≤ 0 ∧ 0 ≤ 1 from ⟨of_decide_eq_true rfl, of_decide_eq_true rfl⟩) (show (-1) ≤ 9999 ∧ 9999 ≤ 9999 from ⟨of_decide_eq_true rfl, of_decide_eq_true rfl⟩) (fun c_58 y_61 hI_59 hF_60 hy_61 h_62 h_63 h_64 h_65 h_66 => (bk_inl ?_)))
            have h_67 := ir_41_4 hI_59
            have h_68 := ir_41_5 hI_59
            refine q_istore c_207_101 (Nat.le_of_ble_eq_true rfl) (q_aload_n c_207_103 rfl (v_bip c_207_104 (of_decide_eq_true rfl) ?_))
            have kn_69 : Hid (c_58 41 3 = c2 41 3) := (hF_60 41 3 qn_97fd72088).trans (hid kn_56)
            have h_70 : c_58 41 3 = c2 41 3 := (hid kn_69)
            refine v_cv c_207_106 km_8_229 rfl rfl (Nat.le_of_ble_eq_true rfl) ⟨⟨rfl, rfl⟩, Nat.le_of_ble_eq_true rfl, rfl⟩ (Nat.le_of_ble_eq_true rfl) (Nat.le_of_ble_eq_true rfl) (s_161 (a1 := 59) hI_59 (show 1 ≤ 59 ∧ 59 ≤ 255 from ⟨of_decide_eq_true rfl, of_decide_eq_true rfl⟩) (fun c_71 hI_72 hF_73 h_74 h_75 h_76 h_77 => (bk_inl ?_)))
            have h_78 := ir_41_4 hI_72
            have h_79 := ir_41_5 hI_72
            refine q_aload_n c_207_109 rfl (v_cv c_207_110 km_8_131 rfl rfl (Nat.le_of_ble_eq_true rfl) ⟨⟨rfl, rfl⟩, Nat.le_of_ble_eq_true rfl, rfl⟩ (Nat.le_of_ble_eq_true rfl) (Nat.le_of_ble_eq_true rfl) (q_aload_n c_152_0 rfl (v_gi (z := 5) (v := c_71 41 5) c_152_1 kf_8_102 rfl (Nat.le_of_ble_eq_true rfl) rfl rfl rfl (q_iconst c_152_4 (v_ic_ne_t (t := 12) c_152_5 rfl ⟨(q_a3f2481f3 h_55 h_65 h_76), ⟨(lel h_79.1 rfl), (ler h_79.2 rfl)⟩, of_decide_eq_true rfl, of_decide_eq_true rfl⟩ (q_iconst c_152_12 (v_zret c_152_13 rfl (of_decide_eq_true rfl) ?_)))))))
            refine bk_inl (v_if_ne_f (t := 119) c_207_113 rfl (of_decide_eq_true rfl) (q_goto (t := 134) c_207_116 rfl (q_aload_n c_207_134 rfl (q_iload_n c_207_135 rfl (v_cv c_207_136 km_8_232 rfl rfl (Nat.le_of_ble_eq_true rfl) ⟨⟨rfl, rfl⟩, Nat.le_of_ble_eq_true rfl, rfl⟩ (Nat.le_of_ble_eq_true rfl) (Nat.le_of_ble_eq_true rfl) (s_164 (a1 := v2) hI_72 (show (-2147483648) ≤ v2 ∧ v2 ≤ 2147483647 from hv2) (fun c_80 y_83 hI_81 hF_82 hy_83 => (bk_inl (q_istore_n c_207_139 (Nat.le_of_ble_eq_true rfl) ?_)))))))))
            refine q_aload_n c_207_140 rfl ?_
            have kn_84 : Hid (c_80 41 5 = c_71 41 5) := hF_82 41 5 (fun h => absurd h.2 (ni rfl))
            refine v_gi (z := 5) (v := c_71 41 5) c_207_141 kf_8_102 rfl (Nat.le_of_ble_eq_true rfl) rfl rfl (hid kn_84) (q_iconst c_207_144 (v_ic_eq_f (t := 150) c_207_145 rfl ⟨(q_a3f2481f3 h_55 h_65 h_76), ⟨(lel h_79.1 rfl), (ler h_79.2 rfl)⟩, of_decide_eq_true rfl, of_decide_eq_true rfl⟩ (q_iload_n c_207_148 rfl (q_iret c_207_149 rfl ?_))))
            have kn_85 : Hid (c_20 41 2 = c2 41 2) := hF_22 41 2 (fun h => absurd h.2 (ni rfl))
            have kn_86 : Hid (c_44 41 2 = c2 41 2) := (hF_46 41 2 qn_6151d08e8).trans (hid kn_85)
            have kn_87 : Hid (c_58 41 2 = c2 41 2) := (hF_60 41 2 qn_6151d08e8).trans (hid kn_86)
            have kn_88 : Hid (c_71 41 2 = c2 41 2) := (hF_73 41 2 qn_6151d08e8).trans (hid kn_87)
            have kn_89 : Hid (c_80 41 2 = c2 41 2) := (hF_82 41 2 (fun h => absurd h.2 (ni rfl))).trans (hid kn_88)
            have h_90 : c_80 41 2 = c2 41 2 := (hid kn_89)
            exact K c_80 y_83 hI_81 (fun a j hm => (hF_82 a j (qv_e289254c2 hm)).trans ((hF_73 a j (qv_128b34fe0 hm)).trans ((hF_60 a j (qv_128b34fe0 hm)).trans ((hF_46 a j (qv_128b34fe0 hm)).trans ((hF_22 a j (fun h => hm (Or.inr (Or.inr (Or.inr (Or.inr (Or.inl h))))))).trans (hF a j hm)))))) hy_83 (Or.inl ⟨by first | (clear ha1 hv2 h_7 h_8 h_9 h_10 h_11 h_19 h_27 h_24 h_53 h_48 h_54 h_67 h_62 h_68 h_78 h_74 h_79 h_25 h_26 h_28 h_49 h_50 h_51 h_52 h_55 h_63 h_64 h_65 h_66 h_75 h_76 h_77; omega) | omega, by first | (clear ha1 hv2 h_7 h_8 h_9 h_10 h_11 h_19 h_27 h_24 h_53 h_48 h_54 h_67 h_62 h_68 h_78 h_74 h_79 h_25 h_26 h_28 h_49 h_50 h_51 h_52 h_55 h_63 h_64 h_65 h_66 h_75 h_76 h_77; omega) | omega, by first | (clear ha1 hv2 h_7 h_8 h_9 h_10 h_11 h_19 h_27 h_24 h_53 h_48 h_54 h_67 h_62 h_68 h_78 h_74 h_79 h_25 h_26 h_28 h_49 h_50 h_51 h_52 h_55 h_63 h_64 h_65 h_66 h_75 h_76 h_77; omega) | omega, by first | (clear ha1 hv2 h_7 h_8 h_9 h_10 h_11 h_19 h_27 h_24 h_53 h_48 h_54 h_67 h_62 h_68 h_78 h_74 h_79 h_25 h_26 h_28 h_49 h_50 h_51 h_52 h_55 h_63 h_64 h_65 h_66 h_75 h_76 h_77; omega) | omega⟩)
          · refine v_ic_ne_f (t := 12) c_152_5 rfl (Decidable.not_not.mp h_55) (q_iconst c_152_8 (q_goto (t := 13) c_152_9 rfl (v_zret c_152_13 rfl (of_decide_eq_true rfl) (bk_inl (v_if_eq_f (t := 93) c_207_73 rfl (of_decide_eq_true rfl) (q_aload_n c_207_76 rfl (v_gr (t := 63) c_207_77 kf_8_80 rfl (Nat.le_of_ble_eq_true rfl) rfl ?_)))))))
            refine q_iload c_207_80 rfl ?_
            have h_91 := ir_63 hI2 y_47
            have kn_92 : Hid (c_20 63 y_47 = c2 63 y_47) := hF_22 63 y_47 (fun h => absurd h.1 (nn rfl))
            have kn_93 : Hid (c_44 63 y_47 = c2 63 y_47) := (hF_46 63 y_47 qn_518a05c1b).trans (hid kn_92)
            refine v_ia (v := c2 63 y_47) c_207_82 rfl (of_decide_eq_true rfl) (of_decide_eq_true rfl) ⟨hy_47.1, (q_ea1a384bf h_50)⟩ (hid kn_93) (q_iconst c_207_83 ?_)
            by_cases h_94 : c2 63 y_47 = (-1)
            · refine v_ic_eq_t (t := 93) c_207_84 rfl h_94 (q_aload_n c_207_93 rfl (q_iconst c_207_94 (v_sip c_207_95 (of_decide_eq_true rfl) ?_)))
              have kn_95 : Hid (c_44 41 3 = c2 41 3) := (hF_46 41 3 qn_97fd72088).trans (hid kn_40)
              have h_96 : c_44 41 3 = c2 41 3 := (hid kn_95)
              refine v_cv c_207_98 km_8_199 rfl rfl (Nat.le_of_ble_eq_true rfl) ⟨⟨rfl, rfl⟩, Nat.le_of_ble_eq_true rfl, rfl⟩ (Nat.le_of_ble_eq_true rfl) (Nat.le_of_ble_eq_true rfl) (s_160 (a1 := 0) (a2 := 9999) hI_45 (show 0 ≤ 0 ∧ 0 ≤ 1 from ⟨of_decide_eq_true rfl, of_decide_eq_true rfl⟩) (show (-1) ≤ 9999 ∧ 9999 ≤ 9999 from ⟨of_decide_eq_true rfl, of_decide_eq_true rfl⟩) (fun c_97 y_100 hI_98 hF_99 hy_100 h_101 h_102 h_103 h_104 h_105 => (bk_inl ?_)))
              have h_106 := ir_41_4 hI_98
              have h_107 := ir_41_5 hI_98
              refine q_istore c_207_101 (Nat.le_of_ble_eq_true rfl) (q_aload_n c_207_103 rfl (v_bip c_207_104 (of_decide_eq_true rfl) ?_))
              have kn_108 : Hid (c_97 41 3 = c2 41 3) := (hF_99 41 3 qn_97fd72088).trans (hid kn_95)
              have h_109 : c_97 41 3 = c2 41 3 := (hid kn_108)
              refine v_cv c_207_106 km_8_229 rfl rfl (Nat.le_of_ble_eq_true rfl) ⟨⟨rfl, rfl⟩, Nat.le_of_ble_eq_true rfl, rfl⟩ (Nat.le_of_ble_eq_true rfl) (Nat.le_of_ble_eq_true rfl) (s_161 (a1 := 59) hI_98 (show 1 ≤ 59 ∧ 59 ≤ 255 from ⟨of_decide_eq_true rfl, of_decide_eq_true rfl⟩) (fun c_110 hI_111 hF_112 h_113 h_114 h_115 h_116 => (bk_inl ?_)))
              have h_117 := ir_41_4 hI_111
              have h_118 := ir_41_5 hI_111
              refine q_aload_n c_207_109 rfl (v_cv c_207_110 km_8_131 rfl rfl (Nat.le_of_ble_eq_true rfl) ⟨⟨rfl, rfl⟩, Nat.le_of_ble_eq_true rfl, rfl⟩ (Nat.le_of_ble_eq_true rfl) (Nat.le_of_ble_eq_true rfl) (q_aload_n c_152_0 rfl (v_gi (z := 5) (v := c_110 41 5) c_152_1 kf_8_102 rfl (Nat.le_of_ble_eq_true rfl) rfl rfl rfl (q_iconst c_152_4 ?_))))
              by_cases h_119 : c_110 41 5 ≠ (-1)
              · refine v_ic_ne_t (t := 12) c_152_5 rfl ⟨h_119, ⟨(lel h_118.1 rfl), (ler h_118.2 rfl)⟩, of_decide_eq_true rfl, of_decide_eq_true rfl⟩ (q_iconst c_152_12 (v_zret c_152_13 rfl (of_decide_eq_true rfl) (bk_inl (v_if_ne_f (t := 119) c_207_113 rfl (of_decide_eq_true rfl) (q_goto (t := 134) c_207_116 rfl (q_aload_n c_207_134 rfl (q_iload_n c_207_135 rfl ?_)))))))
                refine v_cv c_207_136 km_8_232 rfl rfl (Nat.le_of_ble_eq_true rfl) ⟨⟨rfl, rfl⟩, Nat.le_of_ble_eq_true rfl, rfl⟩ (Nat.le_of_ble_eq_true rfl) (Nat.le_of_ble_eq_true rfl) (s_164 (a1 := v2) hI_111 (show (-2147483648) ≤ v2 ∧ v2 ≤ 2147483647 from hv2) (fun c_120 y_123 hI_121 hF_122 hy_123 => (bk_inl (q_istore_n c_207_139 (Nat.le_of_ble_eq_true rfl) (q_aload_n c_207_140 rfl ?_)))))
                have kn_124 : Hid (c_120 41 5 = c_110 41 5) := hF_122 41 5 (fun h => absurd h.2 (ni rfl))
                refine v_gi (z := 5) (v := c_110 41 5) c_207_141 kf_8_102 rfl (Nat.le_of_ble_eq_true rfl) rfl rfl (hid kn_124) (q_iconst c_207_144 (v_ic_eq_f (t := 150) c_207_145 rfl ⟨(q_bd023a79f h_118 h_119), ⟨(lel h_118.1 rfl), (ler h_118.2 rfl)⟩, of_decide_eq_true rfl, of_decide_eq_true rfl⟩ (q_iload_n c_207_148 rfl (q_iret c_207_149 rfl ?_))))
                have kn_125 : Hid (c_20 41 2 = c2 41 2) := hF_22 41 2 (fun h => absurd h.2 (ni rfl))
                have kn_126 : Hid (c_44 41 2 = c2 41 2) := (hF_46 41 2 qn_6151d08e8).trans (hid kn_125)
                have kn_127 : Hid (c_97 41 2 = c2 41 2) := (hF_99 41 2 qn_6151d08e8).trans (hid kn_126)
                have kn_128 : Hid (c_110 41 2 = c2 41 2) := (hF_112 41 2 qn_6151d08e8).trans (hid kn_127)
                have kn_129 : Hid (c_120 41 2 = c2 41 2) := (hF_122 41 2 (fun h => absurd h.2 (ni rfl))).trans (hid kn_128)
                have h_130 : c_120 41 2 = c2 41 2 := (hid kn_129)
                exact K c_120 y_123 hI_121 (fun a j hm => (hF_122 a j (qv_e289254c2 hm)).trans ((hF_112 a j (qv_128b34fe0 hm)).trans ((hF_99 a j (qv_128b34fe0 hm)).trans ((hF_46 a j (qv_128b34fe0 hm)).trans ((hF_22 a j (fun h => hm (Or.inr (Or.inr (Or.inr (Or.inr (Or.inl h))))))).trans (hF a j hm)))))) hy_123 (Or.inl ⟨by first | (clear ha1 hv2 h_7 h_8 h_9 h_10 h_11 h_19 h_27 h_24 h_53 h_48 h_54 h_55 h_91 h_94 h_106 h_101 h_107 h_117 h_113 h_118 h_25 h_26 h_28 h_49 h_50 h_51 h_52 h_102 h_103 h_104 h_105 h_114 h_115 h_116 h_119; omega) | omega, by first | (clear ha1 hv2 h_7 h_8 h_9 h_10 h_11 h_19 h_27 h_24 h_53 h_48 h_54 h_55 h_91 h_94 h_106 h_101 h_107 h_117 h_113 h_118 h_25 h_26 h_28 h_49 h_50 h_51 h_52 h_102 h_103 h_104 h_105 h_114 h_115 h_116 h_119; omega) | omega, by first | (clear ha1 hv2 h_7 h_8 h_9 h_10 h_11 h_19 h_27 h_24 h_53 h_48 h_54 h_55 h_91 h_94 h_106 h_101 h_107 h_117 h_113 h_118 h_25 h_26 h_28 h_49 h_50 h_51 h_52 h_102 h_103 h_104 h_105 h_114 h_115 h_116 h_119; omega) | omega, by first | (clear ha1 hv2 h_7 h_8 h_9 h_10 h_11 h_19 h_27 h_24 h_53 h_48 h_54 h_55 h_91 h_94 h_106 h_101 h_107 h_117 h_113 h_118 h_25 h_26 h_28 h_49 h_50 h_51 h_52 h_102 h_103 h_104 h_105 h_114 h_115 h_116 h_119; omega) | omega⟩)
              · refine v_ic_ne_f (t := 12) c_152_5 rfl (Decidable.not_not.mp h_119) (q_iconst c_152_8 (q_goto (t := 13) c_152_9 rfl (v_zret c_152_13 rfl (of_decide_eq_true rfl) (bk_inl (v_if_ne_t (t := 119) c_207_113 rfl (of_decide_eq_true rfl) (q_aload_n c_207_119 rfl (v_gr (t := 63) c_207_120 kf_8_80 rfl (Nat.le_of_ble_eq_true rfl) rfl ?_)))))))
                refine q_iload c_207_123 rfl (q_iload c_207_125 rfl (v_is c_207_127 rfl (of_decide_eq_true rfl) (of_decide_eq_true rfl) ⟨hy_47.1, (q_ea1a384bf h_50)⟩ (v_iincx c_207_128 rfl (of_decide_eq_true rfl) (fun y_131 hy_131 => (q_goto (t := 42) c_207_131 rfl ?_)))))
                have hI_132 := iw_63 (j := y_47) (v := y_100) hI_111 ⟨(lel hy_100.1 rfl), hy_100.2⟩
                refine Wp_ls [(0, .ref 41), (1, vi a1), (2, vi y_131)] (lsub_cons rfl (lsub_cons rfl (lsub_cons rfl lsub_nil))) ?_
                have kn_133 : Hid (c_20 41 2 = c2 41 2) := hF_22 41 2 (fun h => absurd h.2 (ni rfl))
                have kn_134 : Hid (c_44 41 2 = c2 41 2) := (hF_46 41 2 qn_6151d08e8).trans (hid kn_133)
                have kn_135 : Hid (c_97 41 2 = c2 41 2) := (hF_99 41 2 qn_6151d08e8).trans (hid kn_134)
                have kn_136 : Hid (c_110 41 2 = c2 41 2) := (hF_112 41 2 qn_6151d08e8).trans (hid kn_135)
                have h_137 : (up c_110 63 y_47 y_100) 41 2 = c2 41 2 := ((up_c (nn rfl)).trans (hid kn_136))
                have h_138 : (up c_110 63 y_47 y_100) 41 4 = c_110 41 4 := (up_c (nn rfl))
                exact ih.2 (up c_110 63 y_47 y_100) y_131 hI_132 (fun a j hm => (up_b (Decidable.or_iff_not_imp_left.mpr (fun h1 h2 => hm (Or.inr (Or.inr (Or.inr (Or.inr (Or.inr (Or.inr (Or.inr (Or.inr (Or.inr (Or.inr (Or.inl (Decidable.not_not.mp h1))))))))))))))).trans ((hF_112 a j (qv_128b34fe0 hm)).trans ((hF_99 a j (qv_128b34fe0 hm)).trans ((hF_46 a j (qv_128b34fe0 hm)).trans ((hF_22 a j (fun h => hm (Or.inr (Or.inr (Or.inr (Or.inr (Or.inl h))))))).trans (hF a j hm)))))) hy_131 ⟨by first | (clear ha1 hv2 h_7 h_8 h_9 h_10 h_11 h_19 h_27 h_24 h_53 h_48 h_54 h_55 h_91 h_94 h_106 h_101 h_107 h_117 h_113 h_118 h_119 h_25 h_26 h_28 h_49 h_50 h_51 h_52 h_102 h_103 h_104 h_105 h_114 h_115 h_116; omega) | omega, by first | (clear ha1 hv2 h_7 h_8 h_9 h_10 h_11 h_19 h_27 h_24 h_53 h_48 h_54 h_55 h_91 h_94 h_106 h_101 h_107 h_117 h_113 h_118 h_119 h_25 h_26 h_28 h_49 h_50 h_51 h_52 h_102 h_103 h_104 h_105 h_114 h_115 h_116; omega) | omega, by first | (clear ha1 hv2 h_7 h_8 h_9 h_10 h_11 h_19 h_27 h_24 h_53 h_48 h_54 h_55 h_91 h_94 h_106 h_101 h_107 h_117 h_113 h_118 h_119 h_25 h_26 h_28 h_49 h_50 h_51 h_52 h_102 h_103 h_104 h_105 h_114 h_115 h_116; omega) | omega, by first | (clear ha1 hv2 h_7 h_8 h_9 h_10 h_11 h_19 h_27 h_24 h_53 h_48 h_54 h_55 h_91 h_94 h_106 h_101 h_107 h_117 h_113 h_118 h_119 h_25 h_26 h_28 h_49 h_50 h_51 h_52 h_102 h_103 h_104 h_105 h_114 h_115 h_116; omega) | omega⟩ (by omega)
            · refine v_ic_eq_f (t := 93) c_207_84 rfl ⟨h_94, ⟨(q_87765d87e h_91), (q_cf71bb2da h_91)⟩, of_decide_eq_true rfl, of_decide_eq_true rfl⟩ (q_aload_n c_207_87 rfl (q_iconst c_207_88 (q_iload_n c_207_89 rfl (v_cv c_207_90 km_8_138 rfl rfl (Nat.le_of_ble_eq_true rfl) ⟨⟨rfl, rfl⟩, Nat.le_of_ble_eq_true rfl, rfl⟩ (Nat.le_of_ble_eq_true rfl) (Nat.le_of_ble_eq_true rfl) (s_153 (a1 := 2) (a2 := c_20 41 4) hI_45 (show 1 ≤ 2 ∧ 2 ≤ 3 from ⟨of_decide_eq_true rfl, of_decide_eq_true rfl⟩) (show 0 ≤ c_20 41 4 ∧ c_20 41 4 ≤ 605 from h_27) (fun c_139 hI_140 hF_141 h_142 => (bk_inl ?_)))))))
              have h_143 := ir_41_5 hI_140
              refine q_aload_n c_207_93 rfl (q_iconst c_207_94 (v_sip c_207_95 (of_decide_eq_true rfl) ?_))
              have kn_144 : Hid (c_139 41 4 = c_44 41 4) := hF_141 41 4 (fun q => q.elim (fun h => absurd h.2 (ni rfl)) (fun h => absurd h.2 (ni rfl)))
              have h_145 : c_139 41 4 = c_44 41 4 := (hid kn_144)
              have kn_146 : Hid (c_44 41 3 = c2 41 3) := (hF_46 41 3 qn_97fd72088).trans (hid kn_40)
              have kn_147 : Hid (c_139 41 3 = c2 41 3) := (hF_141 41 3 (fun q => q.elim (fun h => absurd h.2 (ni rfl)) (fun h => absurd h.2 (ni rfl)))).trans (hid kn_146)
              have h_148 : c_139 41 3 = c2 41 3 := (hid kn_147)
              refine v_cv c_207_98 km_8_199 rfl rfl (Nat.le_of_ble_eq_true rfl) ⟨⟨rfl, rfl⟩, Nat.le_of_ble_eq_true rfl, rfl⟩ (Nat.le_of_ble_eq_true rfl) (Nat.le_of_ble_eq_true rfl) (s_160 (a1 := 0) (a2 := 9999) hI_140 (show 0 ≤ 0 ∧ 0 ≤ 1 from ⟨of_decide_eq_true rfl, of_decide_eq_true rfl⟩) (show (-1) ≤ 9999 ∧ 9999 ≤ 9999 from ⟨of_decide_eq_true rfl, of_decide_eq_true rfl⟩) (fun c_149 y_152 hI_150 hF_151 hy_152 h_153 h_154 h_155 h_156 h_157 => (bk_inl ?_)))
              have h_158 := ir_41_4 hI_150
              have h_159 := ir_41_5 hI_150
              refine q_istore c_207_101 (Nat.le_of_ble_eq_true rfl) (q_aload_n c_207_103 rfl (v_bip c_207_104 (of_decide_eq_true rfl) ?_))
              have kn_160 : Hid (c_149 41 3 = c2 41 3) := (hF_151 41 3 qn_97fd72088).trans (hid kn_147)
              have h_161 : c_149 41 3 = c2 41 3 := (hid kn_160)
              refine v_cv c_207_106 km_8_229 rfl rfl (Nat.le_of_ble_eq_true rfl) ⟨⟨rfl, rfl⟩, Nat.le_of_ble_eq_true rfl, rfl⟩ (Nat.le_of_ble_eq_true rfl) (Nat.le_of_ble_eq_true rfl) (s_161 (a1 := 59) hI_150 (show 1 ≤ 59 ∧ 59 ≤ 255 from ⟨of_decide_eq_true rfl, of_decide_eq_true rfl⟩) (fun c_162 hI_163 hF_164 h_165 h_166 h_167 h_168 => (bk_inl ?_)))
              have h_169 := ir_41_4 hI_163
              have h_170 := ir_41_5 hI_163
              refine q_aload_n c_207_109 rfl (v_cv c_207_110 km_8_131 rfl rfl (Nat.le_of_ble_eq_true rfl) ⟨⟨rfl, rfl⟩, Nat.le_of_ble_eq_true rfl, rfl⟩ (Nat.le_of_ble_eq_true rfl) (Nat.le_of_ble_eq_true rfl) (q_aload_n c_152_0 rfl (v_gi (z := 5) (v := c_162 41 5) c_152_1 kf_8_102 rfl (Nat.le_of_ble_eq_true rfl) rfl rfl rfl (q_iconst c_152_4 (v_ic_ne_t (t := 12) c_152_5 rfl ⟨(q_3578ef10e h_142 h_156 h_167), ⟨(lel h_170.1 rfl), (ler h_170.2 rfl)⟩, of_decide_eq_true rfl, of_decide_eq_true rfl⟩ (q_iconst c_152_12 (v_zret c_152_13 rfl (of_decide_eq_true rfl) ?_)))))))
              refine bk_inl (v_if_ne_f (t := 119) c_207_113 rfl (of_decide_eq_true rfl) (q_goto (t := 134) c_207_116 rfl (q_aload_n c_207_134 rfl (q_iload_n c_207_135 rfl (v_cv c_207_136 km_8_232 rfl rfl (Nat.le_of_ble_eq_true rfl) ⟨⟨rfl, rfl⟩, Nat.le_of_ble_eq_true rfl, rfl⟩ (Nat.le_of_ble_eq_true rfl) (Nat.le_of_ble_eq_true rfl) (s_164 (a1 := v2) hI_163 (show (-2147483648) ≤ v2 ∧ v2 ≤ 2147483647 from hv2) (fun c_171 y_174 hI_172 hF_173 hy_174 => (bk_inl (q_istore_n c_207_139 (Nat.le_of_ble_eq_true rfl) ?_)))))))))
              refine q_aload_n c_207_140 rfl ?_
              have kn_175 : Hid (c_171 41 5 = c_162 41 5) := hF_173 41 5 (fun h => absurd h.2 (ni rfl))
              refine v_gi (z := 5) (v := c_162 41 5) c_207_141 kf_8_102 rfl (Nat.le_of_ble_eq_true rfl) rfl rfl (hid kn_175) (q_iconst c_207_144 (v_ic_eq_f (t := 150) c_207_145 rfl ⟨(q_3578ef10e h_142 h_156 h_167), ⟨(lel h_170.1 rfl), (ler h_170.2 rfl)⟩, of_decide_eq_true rfl, of_decide_eq_true rfl⟩ (q_iload_n c_207_148 rfl (q_iret c_207_149 rfl ?_))))
              have kn_176 : Hid (c_20 41 2 = c2 41 2) := hF_22 41 2 (fun h => absurd h.2 (ni rfl))
              have kn_177 : Hid (c_44 41 2 = c2 41 2) := (hF_46 41 2 qn_6151d08e8).trans (hid kn_176)
              have kn_178 : Hid (c_139 41 2 = c2 41 2) := (hF_141 41 2 (fun q => q.elim (fun h => absurd h.2 (ni rfl)) (fun h => absurd h.2 (ni rfl)))).trans (hid kn_177)
              have kn_179 : Hid (c_149 41 2 = c2 41 2) := (hF_151 41 2 qn_6151d08e8).trans (hid kn_178)
              have kn_180 : Hid (c_162 41 2 = c2 41 2) := (hF_164 41 2 qn_6151d08e8).trans (hid kn_179)
              have kn_181 : Hid (c_171 41 2 = c2 41 2) := (hF_173 41 2 (fun h => absurd h.2 (ni rfl))).trans (hid kn_180)
              have h_182 : c_171 41 2 = c2 41 2 := (hid kn_181)
              exact K c_171 y_174 hI_172 (fun a j hm => (hF_173 a j (qv_e289254c2 hm)).trans ((hF_164 a j (qv_128b34fe0 hm)).trans ((hF_151 a j (qv_128b34fe0 hm)).trans ((hF_141 a j (qv_e4455395c hm)).trans ((hF_46 a j (qv_128b34fe0 hm)).trans ((hF_22 a j (fun h => hm (Or.inr (Or.inr (Or.inr (Or.inr (Or.inl h))))))).trans (hF a j hm))))))) hy_174 (Or.inl ⟨by first | (clear ha1 hv2 h_7 h_8 h_9 h_10 h_11 h_19 h_27 h_24 h_53 h_48 h_54 h_55 h_91 h_143 h_158 h_153 h_159 h_169 h_165 h_170 h_25 h_26 h_28 h_49 h_50 h_51 h_52 h_94 h_142 h_154 h_155 h_156 h_157 h_166 h_167 h_168; omega) | omega, by first | (clear ha1 hv2 h_7 h_8 h_9 h_10 h_11 h_19 h_27 h_24 h_53 h_48 h_54 h_55 h_91 h_143 h_158 h_153 h_159 h_169 h_165 h_170 h_25 h_26 h_28 h_49 h_50 h_51 h_52 h_94 h_142 h_154 h_155 h_156 h_157 h_166 h_167 h_168; omega) | omega, by first | (clear ha1 hv2 h_7 h_8 h_9 h_10 h_11 h_19 h_27 h_24 h_53 h_48 h_54 h_55 h_91 h_143 h_158 h_153 h_159 h_169 h_165 h_170 h_25 h_26 h_28 h_49 h_50 h_51 h_52 h_94 h_142 h_154 h_155 h_156 h_157 h_166 h_167 h_168; omega) | omega, by first | (clear ha1 hv2 h_7 h_8 h_9 h_10 h_11 h_19 h_27 h_24 h_53 h_48 h_54 h_55 h_91 h_143 h_158 h_153 h_159 h_169 h_165 h_170 h_25 h_26 h_28 h_49 h_50 h_51 h_52 h_94 h_142 h_154 h_155 h_156 h_157 h_166 h_167 h_168; omega) | omega⟩)
set_option maxRecDepth 100000 in
set_option maxHeartbeats 4000000 in
theorem s_207 {sc : List Int32} {e : Int} {d u P Q : Nat} {c : ME} {a1 : Int} {Z : AR → Prop} (hI : Iv u e P Q c) (ha1 : (-2147483648) ≤ a1 ∧ a1 ≤ 2147483647) (K : ∀ (c2 : ME) (y : Int), Iv u e P Q c2 → (∀ (a : Nat) (j : Int), ¬ ((a = 41 ∧ j = 0) ∨ a = 42 ∨ (a = 41 ∧ j = 2) ∨ (a = 41 ∧ j = 3) ∨ (a = 41 ∧ j = 4) ∨ (a = 41 ∧ j = 5) ∨ (a = 41 ∧ j = 6) ∨ (a = 41 ∧ j = 7) ∨ (a = 41 ∧ j = 8) ∨ (a = 41 ∧ j = 48) ∨ a = 63 ∨ a = 64) → c2 a j = c a j) → (-2147483648) ≤ y ∧ y ≤ 2147483647 → ((c2 41 2 = 0 ∧ a1 ≥ 0 ∧ a1 ≤ c 41 2 ∧ a1 ≤ 60) ∨ (c2 41 2 = c 41 2 ∧ a1 < 0) ∨ (c2 41 2 = c 41 2 ∧ a1 > c 41 2) ∨ (c2 41 2 = c 41 2 ∧ a1 > 60)) → Z (.inl (some (vi y)), Wd P Q P P c2, 0, 0)) : Wp sc (d + 9) 207 0 [(0, .ref 41), (1, vi a1)] [] (Wd P Q P P c) 0 0 Z := by
  have hP := iv_P hI
  have hQ := iv_Q hI
  refine q_aload_n c_207_0 rfl (q_iconst c_207_1 (v_pi (z := 0) c_207_2 kf_8_3 rfl (Nat.le_of_ble_eq_true rfl) rfl rfl rfl (of_decide_eq_true rfl) (q_aload_n c_207_5 rfl (q_iload_n c_207_6 rfl (v_cv c_207_7 km_8_381 rfl rfl (Nat.le_of_ble_eq_true rfl) ⟨⟨rfl, rfl⟩, Nat.le_of_ble_eq_true rfl, rfl⟩ (Nat.le_of_ble_eq_true rfl) (Nat.le_of_ble_eq_true rfl) (q_aload_n c_205_0 rfl (q_iload_n c_205_1 rfl ?_)))))))
  by_cases h_184 : a1 < 0
  · refine v_if_lt_t (t := 23) c_205_2 rfl ⟨ha1.1, h_184, of_decide_eq_true rfl⟩ (q_iconst c_205_23 (q_iconst c_205_24 (q_iconst c_205_25 (v_cv c_205_26 km_8_203 rfl rfl (Nat.le_of_ble_eq_true rfl) ⟨⟨rfl, rfl⟩, Nat.le_of_ble_eq_true rfl, rfl⟩ (Nat.le_of_ble_eq_true rfl) (Nat.le_of_ble_eq_true rfl) (q_iload_n c_145_0 rfl (v_if_ne_f (t := 26) c_145_1 rfl (of_decide_eq_true rfl) (q_aload_n c_145_4 rfl ?_)))))))
    refine v_gi (z := 0) (v := 0) c_145_5 kf_8_3 rfl (Nat.le_of_ble_eq_true rfl) rfl rfl (up_e rfl) (v_if_ne_f (t := 26) c_145_8 rfl (of_decide_eq_true rfl) (q_aload_n c_145_11 rfl (q_iload_n c_145_12 rfl (v_pi (z := 0) c_145_13 kf_8_3 rfl (Nat.le_of_ble_eq_true rfl) rfl rfl rfl (of_decide_eq_true rfl) (q_aload_n c_145_16 rfl (v_gr (t := 42) c_145_17 kf_8_7 rfl (Nat.le_of_ble_eq_true rfl) rfl (q_iload_n c_145_20 rfl ?_)))))))
    refine q_dup2 c_145_21 ⟨rfl, rfl⟩ ?_
    have h_185 := ir_42 hI 1
    refine v_ia (v := c 42 1) c_145_22 rfl (of_decide_eq_true rfl) (of_decide_eq_true rfl) (of_decide_eq_true rfl) ((up_c (nn rfl)).trans (up_c (nn rfl))) (q_iconst c_145_23 (v_iadd (v := c 42 1 + 1) c_145_24 rfl (v_nrm (fun y_186 hy_186 => (v_is c_145_25 rfl (of_decide_eq_true rfl) (of_decide_eq_true rfl) (of_decide_eq_true rfl) (q_aload_n c_145_26 rfl (v_gi (z := 0) (v := 1) c_145_27 kf_8_3 rfl (Nat.le_of_ble_eq_true rfl) rfl rfl ((up_c (nn rfl)).trans (up_e rfl)) (v_if_ne_t (t := 37) c_145_30 rfl (of_decide_eq_true rfl) ?_))))))))
    refine q_iconst c_145_37 (v_zret c_145_38 rfl (of_decide_eq_true rfl) (bk_inl (v_zret c_205_29 rfl (of_decide_eq_true rfl) (bk_inl (v_if_ne_f (t := 15) c_207_10 rfl (of_decide_eq_true rfl) (q_iconst c_207_13 (q_iret c_207_14 rfl ?_)))))))
    have hI_187 := iw_41_0 (v := 0) hI ⟨of_decide_eq_true rfl, of_decide_eq_true rfl⟩
    have hI_188 := iw_41_0 (v := 1) hI_187 ⟨of_decide_eq_true rfl, of_decide_eq_true rfl⟩
    have hI_189 := iw_42 (j := 1) (v := y_186) hI_188 ⟨hy_186.1, hy_186.2⟩
    have h_190 := ir_41_2 hI
    have h_191 : (up (up (up c 41 0 0) 41 0 1) 42 1 y_186) 41 2 = c 41 2 := ((up_c (nn rfl)).trans ((up_n (ni rfl)).trans (up_n (ni rfl))))
    exact K (up (up (up c 41 0 0) 41 0 1) 42 1 y_186) 0 hI_189 (fun a j hm => (up_b (Decidable.or_iff_not_imp_left.mpr (fun h1 h2 => hm (Or.inr (Or.inl (Decidable.not_not.mp h1)))))).trans ((up_b (Decidable.or_iff_not_imp_left.mpr (fun h1 h2 => hm (Or.inl ⟨Decidable.not_not.mp h1, h2⟩)))).trans (up_b (Decidable.or_iff_not_imp_left.mpr (fun h1 h2 => hm (Or.inl ⟨Decidable.not_not.mp h1, h2⟩)))))) ⟨of_decide_eq_true rfl, of_decide_eq_true rfl⟩ (Or.inr (Or.inl ⟨by first | assumption | omega, (q_e97a17f6e h_184)⟩))
  · refine v_if_lt_f (t := 23) c_205_2 rfl ⟨of_decide_eq_true rfl, (Int.not_lt.mp h_184), ha1.2⟩ (q_iload_n c_205_5 rfl (q_aload_n c_205_6 rfl ?_))
    have h_192 := ir_41_2 hI
    refine v_gi (z := 2) (v := c 41 2) c_205_7 kf_8_99 rfl (Nat.le_of_ble_eq_true rfl) rfl rfl (up_n (ni rfl)) ?_
    by_cases h_193 : a1 > c 41 2
    · refine v_ic_gt_t (t := 23) c_205_10 rfl ⟨(lel h_192.1 rfl), h_193, ha1.2⟩ (q_iconst c_205_23 (q_iconst c_205_24 (q_iconst c_205_25 (v_cv c_205_26 km_8_203 rfl rfl (Nat.le_of_ble_eq_true rfl) ⟨⟨rfl, rfl⟩, Nat.le_of_ble_eq_true rfl, rfl⟩ (Nat.le_of_ble_eq_true rfl) (Nat.le_of_ble_eq_true rfl) (q_iload_n c_145_0 rfl (v_if_ne_f (t := 26) c_145_1 rfl (of_decide_eq_true rfl) (q_aload_n c_145_4 rfl ?_)))))))
      refine v_gi (z := 0) (v := 0) c_145_5 kf_8_3 rfl (Nat.le_of_ble_eq_true rfl) rfl rfl (up_e rfl) (v_if_ne_f (t := 26) c_145_8 rfl (of_decide_eq_true rfl) (q_aload_n c_145_11 rfl (q_iload_n c_145_12 rfl (v_pi (z := 0) c_145_13 kf_8_3 rfl (Nat.le_of_ble_eq_true rfl) rfl rfl rfl (of_decide_eq_true rfl) (q_aload_n c_145_16 rfl (v_gr (t := 42) c_145_17 kf_8_7 rfl (Nat.le_of_ble_eq_true rfl) rfl (q_iload_n c_145_20 rfl ?_)))))))
      refine q_dup2 c_145_21 ⟨rfl, rfl⟩ ?_
      have h_194 := ir_42 hI 1
      refine v_ia (v := c 42 1) c_145_22 rfl (of_decide_eq_true rfl) (of_decide_eq_true rfl) (of_decide_eq_true rfl) ((up_c (nn rfl)).trans (up_c (nn rfl))) (q_iconst c_145_23 (v_iadd (v := c 42 1 + 1) c_145_24 rfl (v_nrm (fun y_195 hy_195 => (v_is c_145_25 rfl (of_decide_eq_true rfl) (of_decide_eq_true rfl) (of_decide_eq_true rfl) (q_aload_n c_145_26 rfl (v_gi (z := 0) (v := 1) c_145_27 kf_8_3 rfl (Nat.le_of_ble_eq_true rfl) rfl rfl ((up_c (nn rfl)).trans (up_e rfl)) (v_if_ne_t (t := 37) c_145_30 rfl (of_decide_eq_true rfl) ?_))))))))
      refine q_iconst c_145_37 (v_zret c_145_38 rfl (of_decide_eq_true rfl) (bk_inl (v_zret c_205_29 rfl (of_decide_eq_true rfl) (bk_inl (v_if_ne_f (t := 15) c_207_10 rfl (of_decide_eq_true rfl) (q_iconst c_207_13 (q_iret c_207_14 rfl ?_)))))))
      have hI_196 := iw_41_0 (v := 0) hI ⟨of_decide_eq_true rfl, of_decide_eq_true rfl⟩
      have hI_197 := iw_41_0 (v := 1) hI_196 ⟨of_decide_eq_true rfl, of_decide_eq_true rfl⟩
      have hI_198 := iw_42 (j := 1) (v := y_195) hI_197 ⟨hy_195.1, hy_195.2⟩
      have h_199 : (up (up (up c 41 0 0) 41 0 1) 42 1 y_195) 41 2 = c 41 2 := ((up_c (nn rfl)).trans ((up_n (ni rfl)).trans (up_n (ni rfl))))
      exact K (up (up (up c 41 0 0) 41 0 1) 42 1 y_195) 0 hI_198 (fun a j hm => (up_b (Decidable.or_iff_not_imp_left.mpr (fun h1 h2 => hm (Or.inr (Or.inl (Decidable.not_not.mp h1)))))).trans ((up_b (Decidable.or_iff_not_imp_left.mpr (fun h1 h2 => hm (Or.inl ⟨Decidable.not_not.mp h1, h2⟩)))).trans (up_b (Decidable.or_iff_not_imp_left.mpr (fun h1 h2 => hm (Or.inl ⟨Decidable.not_not.mp h1, h2⟩)))))) ⟨of_decide_eq_true rfl, of_decide_eq_true rfl⟩ (Or.inr (Or.inr (Or.inl ⟨by first | assumption | omega, (q_0e7f65a30 h_193)⟩)))
    · refine v_ic_gt_f (t := 23) c_205_10 rfl ⟨ha1.1, (Int.not_lt.mp h_193), (ler h_192.2 rfl)⟩ (q_iload_n c_205_13 rfl (v_bip c_205_14 (of_decide_eq_true rfl) ?_))
      by_cases h_200 : a1 > 60
      · refine v_ic_gt_t (t := 23) c_205_16 rfl ⟨of_decide_eq_true rfl, h_200, ha1.2⟩ (q_iconst c_205_23 (q_iconst c_205_24 (q_iconst c_205_25 (v_cv c_205_26 km_8_203 rfl rfl (Nat.le_of_ble_eq_true rfl) ⟨⟨rfl, rfl⟩, Nat.le_of_ble_eq_true rfl, rfl⟩ (Nat.le_of_ble_eq_true rfl) (Nat.le_of_ble_eq_true rfl) (q_iload_n c_145_0 rfl (v_if_ne_f (t := 26) c_145_1 rfl (of_decide_eq_true rfl) (q_aload_n c_145_4 rfl ?_)))))))
        refine v_gi (z := 0) (v := 0) c_145_5 kf_8_3 rfl (Nat.le_of_ble_eq_true rfl) rfl rfl (up_e rfl) (v_if_ne_f (t := 26) c_145_8 rfl (of_decide_eq_true rfl) (q_aload_n c_145_11 rfl (q_iload_n c_145_12 rfl (v_pi (z := 0) c_145_13 kf_8_3 rfl (Nat.le_of_ble_eq_true rfl) rfl rfl rfl (of_decide_eq_true rfl) (q_aload_n c_145_16 rfl (v_gr (t := 42) c_145_17 kf_8_7 rfl (Nat.le_of_ble_eq_true rfl) rfl (q_iload_n c_145_20 rfl ?_)))))))
        refine q_dup2 c_145_21 ⟨rfl, rfl⟩ ?_
        have h_201 := ir_42 hI 1
        refine v_ia (v := c 42 1) c_145_22 rfl (of_decide_eq_true rfl) (of_decide_eq_true rfl) (of_decide_eq_true rfl) ((up_c (nn rfl)).trans (up_c (nn rfl))) (q_iconst c_145_23 (v_iadd (v := c 42 1 + 1) c_145_24 rfl (v_nrm (fun y_202 hy_202 => (v_is c_145_25 rfl (of_decide_eq_true rfl) (of_decide_eq_true rfl) (of_decide_eq_true rfl) (q_aload_n c_145_26 rfl (v_gi (z := 0) (v := 1) c_145_27 kf_8_3 rfl (Nat.le_of_ble_eq_true rfl) rfl rfl ((up_c (nn rfl)).trans (up_e rfl)) (v_if_ne_t (t := 37) c_145_30 rfl (of_decide_eq_true rfl) ?_))))))))
        refine q_iconst c_145_37 (v_zret c_145_38 rfl (of_decide_eq_true rfl) (bk_inl (v_zret c_205_29 rfl (of_decide_eq_true rfl) (bk_inl (v_if_ne_f (t := 15) c_207_10 rfl (of_decide_eq_true rfl) (q_iconst c_207_13 (q_iret c_207_14 rfl ?_)))))))
        have hI_203 := iw_41_0 (v := 0) hI ⟨of_decide_eq_true rfl, of_decide_eq_true rfl⟩
        have hI_204 := iw_41_0 (v := 1) hI_203 ⟨of_decide_eq_true rfl, of_decide_eq_true rfl⟩
        have hI_205 := iw_42 (j := 1) (v := y_202) hI_204 ⟨hy_202.1, hy_202.2⟩
        have h_206 : (up (up (up c 41 0 0) 41 0 1) 42 1 y_202) 41 2 = c 41 2 := ((up_c (nn rfl)).trans ((up_n (ni rfl)).trans (up_n (ni rfl))))
        exact K (up (up (up c 41 0 0) 41 0 1) 42 1 y_202) 0 hI_205 (fun a j hm => (up_b (Decidable.or_iff_not_imp_left.mpr (fun h1 h2 => hm (Or.inr (Or.inl (Decidable.not_not.mp h1)))))).trans ((up_b (Decidable.or_iff_not_imp_left.mpr (fun h1 h2 => hm (Or.inl ⟨Decidable.not_not.mp h1, h2⟩)))).trans (up_b (Decidable.or_iff_not_imp_left.mpr (fun h1 h2 => hm (Or.inl ⟨Decidable.not_not.mp h1, h2⟩)))))) ⟨of_decide_eq_true rfl, of_decide_eq_true rfl⟩ (Or.inr (Or.inr (Or.inr ⟨by first | assumption | omega, (q_9336c0ad2 h_200)⟩)))
      · refine v_ic_gt_f (t := 23) c_205_16 rfl ⟨ha1.1, (Int.not_lt.mp h_200), of_decide_eq_true rfl⟩ (q_iconst c_205_19 (q_goto (t := 24) c_205_20 rfl (q_iconst c_205_24 (q_iconst c_205_25 (v_cv c_205_26 km_8_203 rfl rfl (Nat.le_of_ble_eq_true rfl) ⟨⟨rfl, rfl⟩, Nat.le_of_ble_eq_true rfl, rfl⟩ (Nat.le_of_ble_eq_true rfl) (Nat.le_of_ble_eq_true rfl) (q_iload_n c_145_0 rfl (v_if_ne_t (t := 26) c_145_1 rfl (of_decide_eq_true rfl) ?_)))))))
        refine q_aload_n c_145_26 rfl (v_gi (z := 0) (v := 0) c_145_27 kf_8_3 rfl (Nat.le_of_ble_eq_true rfl) rfl rfl (up_e rfl) (v_if_ne_f (t := 37) c_145_30 rfl (of_decide_eq_true rfl) (q_iconst c_145_33 (q_goto (t := 38) c_145_34 rfl (v_zret c_145_38 rfl (of_decide_eq_true rfl) (bk_inl (v_zret c_205_29 rfl (of_decide_eq_true rfl) ?_)))))))
        refine bk_inl (v_if_ne_t (t := 15) c_207_10 rfl (of_decide_eq_true rfl) (q_aload_n c_207_15 rfl (q_iload_n c_207_16 rfl ?_)))
        have hI_207 := iw_41_0 (v := 0) hI ⟨of_decide_eq_true rfl, of_decide_eq_true rfl⟩
        refine v_cv c_207_17 km_8_207 rfl rfl (Nat.le_of_ble_eq_true rfl) ⟨⟨rfl, rfl⟩, Nat.le_of_ble_eq_true rfl, rfl⟩ (Nat.le_of_ble_eq_true rfl) (Nat.le_of_ble_eq_true rfl) (s_163 (a1 := a1) hI_207 (show 0 ≤ a1 ∧ a1 ≤ 600 from ⟨(q_720657ba9 h_184), (q_6d55548be h_200)⟩) (fun c_208 hI_209 hF_210 h_211 => (bk_inl ?_)))
        have h_212 := ir_41_2 hI_209
        have h_213 := ir_41_3 hI_209
        have h_214 := ir_41_4 hI_209
        have h_215 := ir_41_5 hI_209
        have h_216 := ir_41_7 hI_209
        refine q_iconst c_207_20 (q_istore_n c_207_21 (Nat.le_of_ble_eq_true rfl) (Wp_ls [(0, .ref 41), (1, vi a1), (2, vi 0)] (lsub_cons rfl (lsub_cons rfl (lsub_cons rfl lsub_nil))) ?_))
        exact (s_207_l (sc := sc) (d := d) hI ha1 K 1225).1 c_208 0 hI_209 (fun a j hm => (hF_210 a j (qv_6ad33b000 hm)).trans (up_b (Decidable.or_iff_not_imp_left.mpr (fun h1 h2 => hm (Or.inl ⟨Decidable.not_not.mp h1, h2⟩))))) ⟨of_decide_eq_true rfl, of_decide_eq_true rfl⟩ ⟨(q_59baff7b3 h_211 h_212), (q_720657ba9 h_184), (q_0325d56da h_193), (q_8be6814e3 h_200)⟩ (by omega)

set_option maxRecDepth 100000 in
set_option maxHeartbeats 4000000 in
theorem s_208b_l {sc : List Int32} {d P Q : Nat} {c : ME} {Z : AR → Prop} (hI : Iv 58 (-1) P Q c) (hq0 : (c 41 35 ≤ 15)) (K : ∀ (c2 : ME) (y : Int), Iv 0 (-1) P Q c2 → (∀ (a : Nat) (j : Int), ¬ ((a = 41 ∧ j = 36) ∨ a = 58) → c2 a j = c a j) → (-1) ≤ y ∧ y ≤ 16 → ((y = c2 41 35)) → Z (.inl (some (vi y)), Wd P Q P P c2, 0, 0)) : ∀ n : Nat, (∀ (c2 : ME) (v1 : Int), Iv 58 (-1) P Q c2 → (∀ (a : Nat) (j : Int), ¬ ((a = 41 ∧ j = 36) ∨ a = 58) → c2 a j = c a j) → 0 ≤ v1 ∧ v1 ≤ 37 → (∀ j : Int, 0 ≤ j → j < v1 → c2 58 j = c 60 (37 * c 41 35 + j)) → 75 - 2 * v1 < (n : Int) → Wp sc (d + 7) 208 26 [(0, .ref 41), (1, vi v1)] [] (Wd P Q P P c2) 0 0 Z) := by
  intro n
  induction n with
  | zero => exact (by intro c2 v1 hI2 hF hv1 hx0 hm9; have hP := iv_P hI; have hQ := iv_Q hI; exfalso; omega)
  | succ n ih =>
    have hP := iv_P hI
    have hQ := iv_Q hI
    intro c2 v1 hI2 hF hv1 hx0 hm9
    have h_1 := ir_41_35 hI
    refine q_iload_n c_208_26 rfl (v_bip c_208_27 (of_decide_eq_true rfl) ?_)
    by_cases h_2 : v1 ≥ 37
    · refine v_ic_ge_t (t := 58) c_208_29 rfl ⟨of_decide_eq_true rfl, h_2, (ler hv1.2 rfl)⟩ (q_aload_n c_208_58 rfl (q_iconst c_208_59 (v_pi (z := 36) c_208_60 kf_8_188 rfl (Nat.le_of_ble_eq_true rfl) rfl rfl rfl (of_decide_eq_true rfl) (q_aload_n c_208_63 rfl ?_))))
      have kn_3 : Hid (c2 41 35 = c 41 35) := hF 41 35 (fun q => q.elim (fun h => absurd h.2 (ni rfl)) (fun h => absurd h (nn rfl)))
      refine v_gi (z := 35) (v := c 41 35) c_208_64 kf_8_182 rfl (Nat.le_of_ble_eq_true rfl) rfl rfl ((up_n (ni rfl)).trans (hid kn_3)) (q_iret c_208_67 rfl ?_)
      have hI_4 := iw_41_36 (v := 0) hI2 ⟨of_decide_eq_true rfl, of_decide_eq_true rfl⟩
      have hI_5 := iv_close hI_4 (fun j hj => by
        have q9 : j % 4 = 0 ∧ 0 ≤ j ∧ j < 24 := hj
        have e9 : ∀ i : Int, 0 ≤ i → i < 37 → (up c2 41 36 0) 58 i = c 60 (37 * c 41 35 + i) := fun i h1 h2 => (up_c (by omega)).trans (hx0 i h1 (by omega))
        rw [e9 j (by omega) (by omega), e9 (j + 1) (by omega) (by omega), e9 (j + 2) (by omega) (by omega), e9 (j + 3) (by omega) (by omega), show 37 * c 41 35 + (j + 1) = 37 * c 41 35 + j + 1 by omega, show 37 * c 41 35 + (j + 2) = 37 * c 41 35 + j + 2 by omega, show 37 * c 41 35 + (j + 3) = 37 * c 41 35 + j + 3 by omega]
        exact iv_r hI 60 (37 * c 41 35 + j) (by rw [ri_60]; have h8 : (37 * c 41 35 + j) / 37 = c 41 35 := (by omega); omega) (by omega))
      have h_6 : (up c2 41 36 0) 41 35 = c 41 35 := ((up_n (ni rfl)).trans (hid kn_3))
      exact K (up c2 41 36 0) (c 41 35) hI_5 (fun a j hm => (up_b (Decidable.or_iff_not_imp_left.mpr (fun h1 h2 => hm (Or.inl ⟨Decidable.not_not.mp h1, h2⟩)))).trans (hF a j hm)) ⟨(lel h_1.1 rfl), h_1.2⟩ (by first | assumption | omega)
    · refine v_ic_ge_f (t := 58) c_208_29 rfl ⟨(lel hv1.1 rfl), (Int.not_le.mp h_2), of_decide_eq_true rfl⟩ (q_aload_n c_208_32 rfl (v_gr (t := 58) c_208_33 kf_8_65 rfl (Nat.le_of_ble_eq_true rfl) rfl (q_iload_n c_208_36 rfl (q_aload_n c_208_37 rfl (v_gr (t := 60) c_208_38 kf_8_71 rfl (Nat.le_of_ble_eq_true rfl) rfl (v_bip c_208_41 (of_decide_eq_true rfl) (q_aload_n c_208_43 rfl ?_)))))))
      have kn_7 : Hid (c2 41 35 = c 41 35) := hF 41 35 (fun q => q.elim (fun h => absurd h.2 (ni rfl)) (fun h => absurd h (nn rfl)))
      refine v_gi (z := 35) (v := c 41 35) c_208_44 kf_8_182 rfl (Nat.le_of_ble_eq_true rfl) rfl rfl (hid kn_7) (v_imul (v := 37 * c 41 35) c_208_47 (by omega) (q_iload_n c_208_48 rfl (v_iadd (v := 37 * c 41 35 + v1) c_208_49 rfl ?_)))
      have h_8 := ir_60 hI (37 * c 41 35 + v1)
      have h_9 : v1 < 24 → 0 ≤ c 60 (37 * c 41 35 + v1) ∧ c 60 (37 * c 41 35 + v1) ≤ 9999 := fun q9 => ir_60_g hI (j := 37 * c 41 35 + v1) (by omega)
      have kn_10 : Hid (c2 60 (37 * c 41 35 + v1) = c 60 (37 * c 41 35 + v1)) := hF 60 (37 * c 41 35 + v1) (fun q => q.elim (fun h => absurd h.1 (nn rfl)) (fun h => absurd h (nn rfl)))
      refine v_ia (v := c 60 (37 * c 41 35 + v1)) c_208_50 rfl (of_decide_eq_true rfl) (of_decide_eq_true rfl) ⟨(q_6c1724e14 h_1 hv1), (q_d8bb91acd h_2 hq0)⟩ (hid kn_10) (v_is c_208_51 rfl (of_decide_eq_true rfl) (of_decide_eq_true rfl) ⟨hv1.1, (q_3cc4a238e h_2)⟩ (v_iinc (v := v1 + 1) c_208_52 rfl (Nat.le_of_ble_eq_true rfl) rfl (q_goto (t := 26) c_208_55 rfl ?_)))
      have hI_11 := iw_row (a := 58) (j := v1) (v := c 60 (37 * c 41 35 + v1)) hI2 (by omega) (Or.inl rfl) ⟨by omega, by omega, by omega⟩
      refine Wp_ls [(0, .ref 41), (1, vi (v1 + 1))] (lsub_cons rfl (lsub_cons rfl lsub_nil)) ?_
      have hr_12 : ∀ j : Int, 0 ≤ j → j < v1 + 1 → (up c2 58 v1 (c 60 (37 * c 41 35 + v1))) 58 j = c 60 (37 * c 41 35 + j) := by
        intro j hj1 hj2
        by_cases e9 : j = v1
        · rw [show (up c2 58 v1 (c 60 (37 * c 41 35 + v1))) 58 j = c 60 (37 * c 41 35 + v1) from up_e e9, e9]
        · rw [show (up c2 58 v1 (c 60 (37 * c 41 35 + v1))) 58 j = c2 58 j from up_n e9]; exact hx0 j hj1 (by omega)
      exact ih (up c2 58 v1 (c 60 (37 * c 41 35 + v1))) (v1 + 1) hI_11 (fun a j hm => (up_b (Decidable.or_iff_not_imp_left.mpr (fun h1 h2 => hm (Or.inr (Decidable.not_not.mp h1))))).trans (hF a j hm)) ⟨(rgp_l hv1.1 (of_decide_eq_true rfl)), (q_6a0ddf4b6 h_2)⟩ hr_12 (by omega)
set_option maxRecDepth 100000 in
set_option maxHeartbeats 4000000 in
theorem s_208b {sc : List Int32} {d P Q : Nat} {c : ME} {Z : AR → Prop} (hI : Iv 58 (-1) P Q c) (hq0 : (c 41 35 ≤ 15)) (K : ∀ (c2 : ME) (y : Int), Iv 0 (-1) P Q c2 → (∀ (a : Nat) (j : Int), ¬ ((a = 41 ∧ j = 36) ∨ a = 58) → c2 a j = c a j) → (-1) ≤ y ∧ y ≤ 16 → ((y = c2 41 35)) → Z (.inl (some (vi y)), Wd P Q P P c2, 0, 0)) : Wp sc (d + 7) 208 24 [(0, .ref 41)] [] (Wd P Q P P c) 0 0 Z := by
  have hP := iv_P hI
  have hQ := iv_Q hI
  have h_13 := ir_41_35 hI
  refine q_iconst c_208_24 (q_istore_n c_208_25 (Nat.le_of_ble_eq_true rfl) (Wp_ls [(0, .ref 41), (1, vi 0)] (lsub_cons rfl (lsub_cons rfl lsub_nil)) ?_))
  have hr_14 : ∀ j : Int, 0 ≤ j → j < 0 → c 58 j = c 60 (37 * c 41 35 + j) := by
    intro j hj1 hj2
    omega
  exact (s_208b_l (sc := sc) (d := d) hI hq0 K 78) c 0 hI (fun a j hm => rfl) ⟨of_decide_eq_true rfl, of_decide_eq_true rfl⟩ hr_14 (by omega)
set_option maxRecDepth 100000 in
set_option maxHeartbeats 4000000 in
theorem s_208 {sc : List Int32} {d P Q : Nat} {c : ME} {Z : AR → Prop} (hI : Iv 0 (-1) P Q c)  (K : ∀ (c2 : ME) (y : Int), Iv 0 (-1) P Q c2 → (∀ (a : Nat) (j : Int), ¬ ((a = 41 ∧ j = 0) ∨ (a = 41 ∧ j = 35) ∨ (a = 41 ∧ j = 36) ∨ a = 58) → c2 a j = c a j) → (-1) ≤ y ∧ y ≤ 16 → ((c 41 35 = 0 ∧ c2 41 35 = 0 ∧ y = (-1)) ∨ (c 41 35 > 0 ∧ c2 41 35 = c 41 35 - 1 ∧ y = c2 41 35)) → Z (.inl (some (vi y)), Wd P Q P P c2, 0, 0)) : Wp sc (d + 7) 208 0 [(0, .ref 41)] [] (Wd P Q P P c) 0 0 Z := by
  have hP := iv_P hI
  have hQ := iv_Q hI
  refine q_aload_n c_208_0 rfl (q_iconst c_208_1 (v_pi (z := 0) c_208_2 kf_8_3 rfl (Nat.le_of_ble_eq_true rfl) rfl rfl rfl (of_decide_eq_true rfl) (q_aload_n c_208_5 rfl ?_)))
  have h_1 := ir_41_35 hI
  refine v_gi (z := 35) (v := c 41 35) c_208_6 kf_8_182 rfl (Nat.le_of_ble_eq_true rfl) rfl rfl (up_n (ni rfl)) ?_
  by_cases h_2 : c 41 35 ≠ 0
  · refine v_if_ne_t (t := 14) c_208_9 rfl ⟨h_2, ⟨(lel h_1.1 rfl), (ler h_1.2 rfl)⟩, of_decide_eq_true rfl, of_decide_eq_true rfl⟩ (q_aload_n c_208_14 rfl (q_dup c_208_15 rfl (v_gi (z := 35) (v := c 41 35) c_208_16 kf_8_182 rfl (Nat.le_of_ble_eq_true rfl) rfl rfl (up_n (ni rfl)) (q_iconst c_208_19 (v_isub (v := c 41 35 - 1) c_208_20 rfl (v_pi (z := 35) c_208_21 kf_8_182 rfl (Nat.le_of_ble_eq_true rfl) rfl rfl rfl (of_decide_eq_true rfl) ?_))))))
    have hI_3 := iw_41_0 (v := 0) hI ⟨of_decide_eq_true rfl, of_decide_eq_true rfl⟩
    have hI_4 := iw_41_35 (v := c 41 35 - 1) hI_3 ⟨(q_2a2e68b1b h_1 h_2), (rgm_h h_1.2 (of_decide_eq_true rfl))⟩
    have hw9 : (up (up c 41 0 0) 41 35 (c 41 35 - 1)) 41 35 = c 41 35 - 1 := (up_e rfl)
    refine Wp_ls [(0, .ref 41)] (lsub_cons rfl lsub_nil) ?_
    exact s_208b (iv_open hI_4) (by omega) (fun c9 y9 hI9 hF9 hy9 h9 => K c9 y9 hI9 (fun a j hm => (hF9 a j (by omega)).trans ((up_b (by omega)).trans (up_b (by omega)))) hy9 (by have h8 := hF9 41 35 (by omega); omega))
  · refine v_if_ne_f (t := 14) c_208_9 rfl (Decidable.not_not.mp h_2) (q_iconst c_208_12 (q_iret c_208_13 rfl ?_))
    have hI_5 := iw_41_0 (v := 0) hI ⟨of_decide_eq_true rfl, of_decide_eq_true rfl⟩
    have h_6 : (up c 41 0 0) 41 35 = c 41 35 := (up_n (ni rfl))
    exact K (up c 41 0 0) (-1) hI_5 (fun a j hm => up_b (Decidable.or_iff_not_imp_left.mpr (fun h1 h2 => hm (Or.inl ⟨Decidable.not_not.mp h1, h2⟩)))) ⟨of_decide_eq_true rfl, of_decide_eq_true rfl⟩ (Or.inl ⟨(q_bb0e0e122 h_1 h_2), (q_bb0e0e122 h_1 h_2), by first | assumption | omega⟩)

set_option maxRecDepth 100000 in
set_option maxHeartbeats 4000000 in
theorem s_209_l {sc : List Int32} {e : Int} {d u P Q : Nat} {c : ME} {Z : AR → Prop} (hI : Iv u e P Q c)  (K : ∀ (y : Int), (-2147483648) ≤ y ∧ y ≤ 2147483647 → Z (.inl (some (vi y)), Wd P Q P P c, 0, 0)) : ∀ n : Nat, (∀ (v1 : Int) (v2 : Int), (-2147483648) ≤ v1 ∧ v1 ≤ 2147483647 → 0 ≤ v2 ∧ v2 ≤ 6 → 13 - 2 * v2 < (n : Int) → Wp sc (d + 8) 209 4 [(0, .ref 41), (1, vi v1), (2, vi v2)] [] (Wd P Q P P c) 0 0 Z) := by
  intro n
  induction n with
  | zero => exact (by intro v1 v2 hv1 hv2 hm9; have hP := iv_P hI; have hQ := iv_Q hI; exfalso; omega)
  | succ n ih =>
    have hP := iv_P hI
    have hQ := iv_Q hI
    intro v1 v2 hv1 hv2 hm9
    refine q_iload_n c_209_4 rfl (q_aload_n c_209_5 rfl ?_)
    have h_1 := ir_41_20 hI
    refine v_gi (z := 20) (v := c 41 20) c_209_6 kf_8_157 rfl (Nat.le_of_ble_eq_true rfl) rfl rfl rfl ?_
    by_cases h_2 : v2 ≥ c 41 20
    · refine v_ic_ge_t (t := 36) c_209_9 rfl ⟨(lel h_1.1 rfl), h_2, (ler hv2.2 rfl)⟩ (q_iload_n c_209_36 rfl (q_iret c_209_37 rfl ?_))
      exact K v1 hv1
    · refine v_ic_ge_f (t := 36) c_209_9 rfl ⟨(lel hv2.1 rfl), (Int.not_le.mp h_2), (ler h_1.2 rfl)⟩ (q_iload_n c_209_12 rfl (q_aload_n c_209_13 rfl (q_iload_n c_209_14 rfl ?_)))
      have h_3 := ir_59_g hI (j := 4 * v2) ((q_aa51b186e h_1 h_2))
      have h_4 := ir_59_g hI (j := 4 * v2 + 1) ((q_57851f9de h_1 h_2))
      have h_5 := ir_59_g hI (j := 4 * v2 + 2) ((q_7296e74e6 h_1 h_2))
      have h_6 := ir_59_g hI (j := 4 * v2 + 3) ((q_b15525c4c h_1 h_2))
      refine v_cv c_209_15 km_8_343 rfl rfl (Nat.le_of_ble_eq_true rfl) ⟨⟨rfl, rfl⟩, Nat.le_of_ble_eq_true rfl, rfl⟩ (Nat.le_of_ble_eq_true rfl) (Nat.le_of_ble_eq_true rfl) (s_187 (v1 := c 59 (4 * v2)) (v2 := c 59 (4 * v2 + 1)) (v3 := c 59 (4 * v2 + 2)) (v4 := c 59 (4 * v2 + 3)) (r := c 59 (4 * v2 + 1) + c 59 (4 * v2 + 2) + c 59 (4 * v2 + 3) + c 59 (4 * v2)) (a1 := v2) hI (show 0 ≤ v2 ∧ v2 ≤ 5 from ⟨hv2.1, (q_d63a8538e h_1 h_2)⟩) (rfl) (rfl) (rfl) (rfl) (by omega) (bk_inl ?_))
      by_cases h_7 : c 59 (4 * v2 + 1) + c 59 (4 * v2 + 2) + c 59 (4 * v2 + 3) + c 59 (4 * v2) ≠ 0
      · refine v_if_ne_t (t := 27) c_209_18 rfl ⟨h_7, ⟨(q_e052ef40e h_3 h_4 h_5 h_6), (q_db9ef1f4a h_3 h_4 h_5 h_6)⟩, of_decide_eq_true rfl, of_decide_eq_true rfl⟩ (q_iconst c_209_27 (v_iorx c_209_28 (fun y_8 hy_8 => (q_istore_n c_209_29 (Nat.le_of_ble_eq_true rfl) (v_iinc (v := v2 + 1) c_209_30 rfl (Nat.le_of_ble_eq_true rfl) rfl (q_goto (t := 4) c_209_33 rfl (Wp_ls [(0, .ref 41), (1, vi y_8), (2, vi (v2 + 1))] (lsub_cons rfl (lsub_cons rfl (lsub_cons rfl lsub_nil))) ?_)))))))
        exact ih y_8 (v2 + 1) hy_8 ⟨(rgp_l hv2.1 (of_decide_eq_true rfl)), (q_4a76cd9c7 h_1 h_2)⟩ (by omega)
      · refine v_if_ne_f (t := 27) c_209_18 rfl (Decidable.not_not.mp h_7) (q_iconst c_209_21 (q_iload_n c_209_22 rfl (v_shl1 c_209_23 ⟨by omega, by omega⟩ (fun y_9 hy_9 => (q_goto (t := 28) c_209_24 rfl (v_iorx c_209_28 (fun y_10 hy_10 => (q_istore_n c_209_29 (Nat.le_of_ble_eq_true rfl) (v_iinc (v := v2 + 1) c_209_30 rfl (Nat.le_of_ble_eq_true rfl) rfl ?_)))))))))
        refine q_goto (t := 4) c_209_33 rfl (Wp_ls [(0, .ref 41), (1, vi y_10), (2, vi (v2 + 1))] (lsub_cons rfl (lsub_cons rfl (lsub_cons rfl lsub_nil))) ?_)
        exact ih y_10 (v2 + 1) hy_10 ⟨(rgp_l hv2.1 (of_decide_eq_true rfl)), (q_4a76cd9c7 h_1 h_2)⟩ (by omega)
set_option maxRecDepth 100000 in
set_option maxHeartbeats 4000000 in
theorem s_209 {sc : List Int32} {e : Int} {d u P Q : Nat} {c : ME} {Z : AR → Prop} (hI : Iv u e P Q c)  (K : ∀ (y : Int), (-2147483648) ≤ y ∧ y ≤ 2147483647 → Z (.inl (some (vi y)), Wd P Q P P c, 0, 0)) : Wp sc (d + 8) 209 0 [(0, .ref 41)] [] (Wd P Q P P c) 0 0 Z := by
  have hP := iv_P hI
  have hQ := iv_Q hI
  refine q_iconst c_209_0 (q_istore_n c_209_1 (Nat.le_of_ble_eq_true rfl) (q_iconst c_209_2 (q_istore_n c_209_3 (Nat.le_of_ble_eq_true rfl) (Wp_ls [(0, .ref 41), (1, vi 0), (2, vi 0)] (lsub_cons rfl (lsub_cons rfl (lsub_cons rfl lsub_nil))) ?_))))
  exact (s_209_l (sc := sc) (d := d) hI K 16) 0 0 ⟨of_decide_eq_true rfl, of_decide_eq_true rfl⟩ ⟨of_decide_eq_true rfl, of_decide_eq_true rfl⟩ (by omega)

set_option maxRecDepth 100000 in
set_option maxHeartbeats 4000000 in
theorem s_210_l {sc : List Int32} {e : Int} {d u P Q : Nat} {c : ME} {Z : AR → Prop} (hI : Iv u e P Q c)  (K : ∀ (y : Int), (-2147483648) ≤ y ∧ y ≤ 2147483647 → Z (.inl (some (vi y)), Wd P Q P P c, 0, 0)) : ∀ n : Nat, (∀ (v1 : Int) (v2 : Int), (-2147483648) ≤ v1 ∧ v1 ≤ 2147483647 → 0 ≤ v2 ∧ v2 ≤ 4 → 9 - 2 * v2 < (n : Int) → Wp sc (d + 7) 210 4 [(0, .ref 41), (1, vi v1), (2, vi v2)] [] (Wd P Q P P c) 0 0 Z) := by
  intro n
  induction n with
  | zero => exact (by intro v1 v2 hv1 hv2 hm9; have hP := iv_P hI; have hQ := iv_Q hI; exfalso; omega)
  | succ n ih =>
    have hP := iv_P hI
    have hQ := iv_Q hI
    intro v1 v2 hv1 hv2 hm9
    refine q_iload_n c_210_4 rfl (q_aload_n c_210_5 rfl ?_)
    have h_1 := ir_41_22 hI
    refine v_gi (z := 22) (v := c 41 22) c_210_6 kf_8_163 rfl (Nat.le_of_ble_eq_true rfl) rfl rfl rfl ?_
    by_cases h_2 : v2 ≥ c 41 22
    · refine v_ic_ge_t (t := 32) c_210_9 rfl ⟨(lel h_1.1 rfl), h_2, (ler hv2.2 rfl)⟩ (q_iload_n c_210_32 rfl (q_iret c_210_33 rfl ?_))
      exact K v1 hv1
    · refine v_ic_ge_f (t := 32) c_210_9 rfl ⟨(lel hv2.1 rfl), (Int.not_le.mp h_2), (ler h_1.2 rfl)⟩ (q_iload_n c_210_12 rfl (q_aload_n c_210_13 rfl (v_gr (t := 59) c_210_14 kf_8_68 rfl (Nat.le_of_ble_eq_true rfl) rfl (v_bip c_210_17 (of_decide_eq_true rfl) (q_iload_n c_210_19 rfl (v_iadd (v := v2 + 30) c_210_20 (by omega) ?_))))))
      have h_3 := ir_59 hI (v2 + 30)
      refine v_ia (v := c 59 (v2 + 30)) c_210_21 rfl (of_decide_eq_true rfl) (of_decide_eq_true rfl) ⟨(rgp_l hv2.1 (of_decide_eq_true rfl)), (q_9750a9c5c hv2)⟩ rfl (q_iload_n c_210_22 rfl (v_ishlx c_210_23 (fun y_4 hy_4 => (v_iorx c_210_24 (fun y_5 hy_5 => (q_istore_n c_210_25 (Nat.le_of_ble_eq_true rfl) (v_iinc (v := v2 + 1) c_210_26 rfl (Nat.le_of_ble_eq_true rfl) rfl (q_goto (t := 4) c_210_29 rfl (Wp_ls [(0, .ref 41), (1, vi y_5), (2, vi (v2 + 1))] (lsub_cons rfl (lsub_cons rfl (lsub_cons rfl lsub_nil))) ?_)))))))))
      exact ih y_5 (v2 + 1) hy_5 ⟨(rgp_l hv2.1 (of_decide_eq_true rfl)), (q_8e33475e7 h_1 h_2)⟩ (by omega)
set_option maxRecDepth 100000 in
set_option maxHeartbeats 4000000 in
theorem s_210 {sc : List Int32} {e : Int} {d u P Q : Nat} {c : ME} {Z : AR → Prop} (hI : Iv u e P Q c)  (K : ∀ (y : Int), (-2147483648) ≤ y ∧ y ≤ 2147483647 → Z (.inl (some (vi y)), Wd P Q P P c, 0, 0)) : Wp sc (d + 7) 210 0 [(0, .ref 41)] [] (Wd P Q P P c) 0 0 Z := by
  have hP := iv_P hI
  have hQ := iv_Q hI
  refine q_iconst c_210_0 (q_istore_n c_210_1 (Nat.le_of_ble_eq_true rfl) (q_iconst c_210_2 (q_istore_n c_210_3 (Nat.le_of_ble_eq_true rfl) (Wp_ls [(0, .ref 41), (1, vi 0), (2, vi 0)] (lsub_cons rfl (lsub_cons rfl (lsub_cons rfl lsub_nil))) ?_))))
  exact (s_210_l (sc := sc) (d := d) hI K 12) 0 0 ⟨of_decide_eq_true rfl, of_decide_eq_true rfl⟩ ⟨of_decide_eq_true rfl, of_decide_eq_true rfl⟩ (by omega)

set_option maxRecDepth 100000 in
set_option maxHeartbeats 4000000 in
theorem s_211 {sc : List Int32} {d P Q : Nat} {c : ME} {a1 : Int} {Z : AR → Prop} (hI : Iv 0 (-1) P Q c) (ha1 : (-2147483648) ≤ a1 ∧ a1 ≤ 2147483647) (K : ∀ (c2 : ME) (y : Int), Iv 0 (-1) P Q c2 → (∀ (a : Nat) (j : Int), ¬ ((a = 41 ∧ j = 0) ∨ a = 42 ∨ a = 59) → c2 a j = c a j) → (-2147483648) ≤ y ∧ y ≤ 2147483647 → Z (.inl (some (vi y)), Wd P Q P P c2, 0, 0)) : Wp sc (d + 9) 211 0 [(0, .ref 41), (1, vi a1)] [] (Wd P Q P P c) 0 0 Z := by
  have hP := iv_P hI
  have hQ := iv_Q hI
  refine q_aload_n c_211_0 rfl (q_iconst c_211_1 (v_pi (z := 0) c_211_2 kf_8_3 rfl (Nat.le_of_ble_eq_true rfl) rfl rfl rfl (of_decide_eq_true rfl) (q_aload_n c_211_5 rfl (q_iload_n c_211_6 rfl (q_iconst c_211_7 (v_bip c_211_8 (of_decide_eq_true rfl) (q_call c_211_10 rfl rfl rfl ?_)))))))
  refine q_iload_n c_146_0 rfl (q_iload_n c_146_1 rfl ?_)
  by_cases h_1 : a1 < 0
  · refine v_ic_lt_t (t := 14) c_146_2 rfl ⟨ha1.1, h_1, of_decide_eq_true rfl⟩ (q_iconst c_146_14 (v_zret c_146_15 rfl (of_decide_eq_true rfl) (bk_inl (q_iconst c_211_13 (q_iconst c_211_14 (v_cv c_211_15 km_8_203 rfl rfl (Nat.le_of_ble_eq_true rfl) ⟨⟨rfl, rfl⟩, Nat.le_of_ble_eq_true rfl, rfl⟩ (Nat.le_of_ble_eq_true rfl) (Nat.le_of_ble_eq_true rfl) (q_iload_n c_145_0 rfl ?_)))))))
    refine v_if_ne_f (t := 26) c_145_1 rfl (of_decide_eq_true rfl) (q_aload_n c_145_4 rfl (v_gi (z := 0) (v := 0) c_145_5 kf_8_3 rfl (Nat.le_of_ble_eq_true rfl) rfl rfl (up_e rfl) (v_if_ne_f (t := 26) c_145_8 rfl (of_decide_eq_true rfl) (q_aload_n c_145_11 rfl (q_iload_n c_145_12 rfl (v_pi (z := 0) c_145_13 kf_8_3 rfl (Nat.le_of_ble_eq_true rfl) rfl rfl rfl (of_decide_eq_true rfl) (q_aload_n c_145_16 rfl ?_)))))))
    refine v_gr (t := 42) c_145_17 kf_8_7 rfl (Nat.le_of_ble_eq_true rfl) rfl (q_iload_n c_145_20 rfl (q_dup2 c_145_21 ⟨rfl, rfl⟩ ?_))
    have h_2 := ir_42 hI 1
    refine v_ia (v := c 42 1) c_145_22 rfl (of_decide_eq_true rfl) (of_decide_eq_true rfl) (of_decide_eq_true rfl) ((up_c (nn rfl)).trans (up_c (nn rfl))) (q_iconst c_145_23 (v_iadd (v := c 42 1 + 1) c_145_24 rfl (v_nrm (fun y_3 hy_3 => (v_is c_145_25 rfl (of_decide_eq_true rfl) (of_decide_eq_true rfl) (of_decide_eq_true rfl) (q_aload_n c_145_26 rfl (v_gi (z := 0) (v := 1) c_145_27 kf_8_3 rfl (Nat.le_of_ble_eq_true rfl) rfl rfl ((up_c (nn rfl)).trans (up_e rfl)) (v_if_ne_t (t := 37) c_145_30 rfl (of_decide_eq_true rfl) ?_))))))))
    refine q_iconst c_145_37 (v_zret c_145_38 rfl (of_decide_eq_true rfl) (bk_inl (v_if_ne_f (t := 23) c_211_18 rfl (of_decide_eq_true rfl) (q_iconst c_211_21 (q_iret c_211_22 rfl ?_)))))
    have hI_4 := iw_41_0 (v := 0) hI ⟨of_decide_eq_true rfl, of_decide_eq_true rfl⟩
    have hI_5 := iw_41_0 (v := 1) hI_4 ⟨of_decide_eq_true rfl, of_decide_eq_true rfl⟩
    have hI_6 := iw_42 (j := 1) (v := y_3) hI_5 ⟨hy_3.1, hy_3.2⟩
    exact K (up (up (up c 41 0 0) 41 0 1) 42 1 y_3) 0 hI_6 (fun a j hm => (up_b (Decidable.or_iff_not_imp_left.mpr (fun h1 h2 => hm (Or.inr (Or.inl (Decidable.not_not.mp h1)))))).trans ((up_b (Decidable.or_iff_not_imp_left.mpr (fun h1 h2 => hm (Or.inl ⟨Decidable.not_not.mp h1, h2⟩)))).trans (up_b (Decidable.or_iff_not_imp_left.mpr (fun h1 h2 => hm (Or.inl ⟨Decidable.not_not.mp h1, h2⟩)))))) ⟨of_decide_eq_true rfl, of_decide_eq_true rfl⟩
  · refine v_ic_lt_f (t := 14) c_146_2 rfl ⟨of_decide_eq_true rfl, (Int.not_lt.mp h_1), ha1.2⟩ (q_iload_n c_146_5 rfl (q_iload_n c_146_6 rfl ?_))
    by_cases h_7 : a1 > 12
    · refine v_ic_gt_t (t := 14) c_146_7 rfl ⟨of_decide_eq_true rfl, h_7, ha1.2⟩ (q_iconst c_146_14 (v_zret c_146_15 rfl (of_decide_eq_true rfl) (bk_inl (q_iconst c_211_13 (q_iconst c_211_14 (v_cv c_211_15 km_8_203 rfl rfl (Nat.le_of_ble_eq_true rfl) ⟨⟨rfl, rfl⟩, Nat.le_of_ble_eq_true rfl, rfl⟩ (Nat.le_of_ble_eq_true rfl) (Nat.le_of_ble_eq_true rfl) (q_iload_n c_145_0 rfl ?_)))))))
      refine v_if_ne_f (t := 26) c_145_1 rfl (of_decide_eq_true rfl) (q_aload_n c_145_4 rfl (v_gi (z := 0) (v := 0) c_145_5 kf_8_3 rfl (Nat.le_of_ble_eq_true rfl) rfl rfl (up_e rfl) (v_if_ne_f (t := 26) c_145_8 rfl (of_decide_eq_true rfl) (q_aload_n c_145_11 rfl (q_iload_n c_145_12 rfl (v_pi (z := 0) c_145_13 kf_8_3 rfl (Nat.le_of_ble_eq_true rfl) rfl rfl rfl (of_decide_eq_true rfl) (q_aload_n c_145_16 rfl ?_)))))))
      refine v_gr (t := 42) c_145_17 kf_8_7 rfl (Nat.le_of_ble_eq_true rfl) rfl (q_iload_n c_145_20 rfl (q_dup2 c_145_21 ⟨rfl, rfl⟩ ?_))
      have h_8 := ir_42 hI 1
      refine v_ia (v := c 42 1) c_145_22 rfl (of_decide_eq_true rfl) (of_decide_eq_true rfl) (of_decide_eq_true rfl) ((up_c (nn rfl)).trans (up_c (nn rfl))) (q_iconst c_145_23 (v_iadd (v := c 42 1 + 1) c_145_24 rfl (v_nrm (fun y_9 hy_9 => (v_is c_145_25 rfl (of_decide_eq_true rfl) (of_decide_eq_true rfl) (of_decide_eq_true rfl) (q_aload_n c_145_26 rfl (v_gi (z := 0) (v := 1) c_145_27 kf_8_3 rfl (Nat.le_of_ble_eq_true rfl) rfl rfl ((up_c (nn rfl)).trans (up_e rfl)) (v_if_ne_t (t := 37) c_145_30 rfl (of_decide_eq_true rfl) ?_))))))))
      refine q_iconst c_145_37 (v_zret c_145_38 rfl (of_decide_eq_true rfl) (bk_inl (v_if_ne_f (t := 23) c_211_18 rfl (of_decide_eq_true rfl) (q_iconst c_211_21 (q_iret c_211_22 rfl ?_)))))
      have hI_10 := iw_41_0 (v := 0) hI ⟨of_decide_eq_true rfl, of_decide_eq_true rfl⟩
      have hI_11 := iw_41_0 (v := 1) hI_10 ⟨of_decide_eq_true rfl, of_decide_eq_true rfl⟩
      have hI_12 := iw_42 (j := 1) (v := y_9) hI_11 ⟨hy_9.1, hy_9.2⟩
      exact K (up (up (up c 41 0 0) 41 0 1) 42 1 y_9) 0 hI_12 (fun a j hm => (up_b (Decidable.or_iff_not_imp_left.mpr (fun h1 h2 => hm (Or.inr (Or.inl (Decidable.not_not.mp h1)))))).trans ((up_b (Decidable.or_iff_not_imp_left.mpr (fun h1 h2 => hm (Or.inl ⟨Decidable.not_not.mp h1, h2⟩)))).trans (up_b (Decidable.or_iff_not_imp_left.mpr (fun h1 h2 => hm (Or.inl ⟨Decidable.not_not.mp h1, h2⟩)))))) ⟨of_decide_eq_true rfl, of_decide_eq_true rfl⟩
    · refine v_ic_gt_f (t := 14) c_146_7 rfl ⟨ha1.1, (Int.not_lt.mp h_7), of_decide_eq_true rfl⟩ (q_iconst c_146_10 (q_goto (t := 15) c_146_11 rfl (v_zret c_146_15 rfl (of_decide_eq_true rfl) (bk_inl (q_iconst c_211_13 (q_iconst c_211_14 (v_cv c_211_15 km_8_203 rfl rfl (Nat.le_of_ble_eq_true rfl) ⟨⟨rfl, rfl⟩, Nat.le_of_ble_eq_true rfl, rfl⟩ (Nat.le_of_ble_eq_true rfl) (Nat.le_of_ble_eq_true rfl) ?_)))))))
      refine q_iload_n c_145_0 rfl (v_if_ne_t (t := 26) c_145_1 rfl (of_decide_eq_true rfl) (q_aload_n c_145_26 rfl (v_gi (z := 0) (v := 0) c_145_27 kf_8_3 rfl (Nat.le_of_ble_eq_true rfl) rfl rfl (up_e rfl) (v_if_ne_f (t := 37) c_145_30 rfl (of_decide_eq_true rfl) (q_iconst c_145_33 (q_goto (t := 38) c_145_34 rfl (v_zret c_145_38 rfl (of_decide_eq_true rfl) ?_)))))))
      refine bk_inl (v_if_ne_t (t := 23) c_211_18 rfl (of_decide_eq_true rfl) (q_aload_n c_211_23 rfl ?_))
      have hI_13 := iw_41_0 (v := 0) hI ⟨of_decide_eq_true rfl, of_decide_eq_true rfl⟩
      refine v_cv c_211_24 km_8_317 rfl rfl (Nat.le_of_ble_eq_true rfl) ⟨⟨rfl, rfl⟩, Nat.le_of_ble_eq_true rfl, rfl⟩ (Nat.le_of_ble_eq_true rfl) (Nat.le_of_ble_eq_true rfl) (s_186 hI_13 (fun c_14 hI_15 hF_16 => (bk_inl (q_iload_n c_211_27 rfl (q_iconst c_211_28 ?_)))))
      by_cases h_17 : a1 ≥ 4
      · refine v_ic_ge_t (t := 72) c_211_29 rfl ⟨of_decide_eq_true rfl, h_17, ha1.2⟩ (q_iload_n c_211_72 rfl (v_bip c_211_73 (of_decide_eq_true rfl) ?_))
        by_cases h_18 : a1 ≥ 8
        · refine v_ic_ge_t (t := 119) c_211_75 rfl ⟨of_decide_eq_true rfl, h_18, ha1.2⟩ (q_iload_n c_211_119 rfl (v_bip c_211_120 (of_decide_eq_true rfl) ?_))
          by_cases h_19 : a1 ≥ 10
          · refine v_ic_ge_t (t := 143) c_211_122 rfl ⟨of_decide_eq_true rfl, h_19, ha1.2⟩ (q_iload_n c_211_143 rfl (v_bip c_211_144 (of_decide_eq_true rfl) ?_))
            by_cases h_20 : a1 ≠ 10
            · refine v_ic_ne_t (t := 156) c_211_146 rfl ⟨h_20, ⟨ha1.1, ha1.2⟩, of_decide_eq_true rfl, of_decide_eq_true rfl⟩ (q_iload_n c_211_156 rfl (v_bip c_211_157 (of_decide_eq_true rfl) ?_))
              by_cases h_21 : a1 ≠ 11
              · refine v_ic_ne_t (t := 169) c_211_159 rfl ⟨h_21, ⟨ha1.1, ha1.2⟩, of_decide_eq_true rfl, of_decide_eq_true rfl⟩ (q_aload_n c_211_169 rfl ?_)
                have h_22 := ir_41_48 hI
                have kn_23 : Hid (c_14 41 48 = c 41 48) := (hF_16 41 48 (fun h => absurd h (nn rfl))).trans (up_n (ni rfl))
                refine v_gi (z := 48) (v := c 41 48) c_211_170 kf_8_179 rfl (Nat.le_of_ble_eq_true rfl) rfl rfl (hid kn_23) (q_iret c_211_173 rfl ?_)
                exact K c_14 (c 41 48) hI_15 (fun a j hm => (hF_16 a j (fun h => hm (Or.inr (Or.inr h)))).trans (up_b (Decidable.or_iff_not_imp_left.mpr (fun h1 h2 => hm (Or.inl ⟨Decidable.not_not.mp h1, h2⟩))))) ⟨(q_cc1935a2a h_22), (q_4e52e4576 h_22)⟩
              · refine v_ic_ne_f (t := 169) c_211_159 rfl (Decidable.not_not.mp h_21) (q_aload_n c_211_162 rfl ?_)
                have h_24 := ir_41_47 hI
                have kn_25 : Hid (c_14 41 47 = c 41 47) := (hF_16 41 47 (fun h => absurd h (nn rfl))).trans (up_n (ni rfl))
                refine v_gi (z := 47) (v := c 41 47) c_211_163 kf_8_176 rfl (Nat.le_of_ble_eq_true rfl) rfl rfl (hid kn_25) (q_goto (t := 173) c_211_166 rfl (q_iret c_211_173 rfl ?_))
                exact K c_14 (c 41 47) hI_15 (fun a j hm => (hF_16 a j (fun h => hm (Or.inr (Or.inr h)))).trans (up_b (Decidable.or_iff_not_imp_left.mpr (fun h1 h2 => hm (Or.inl ⟨Decidable.not_not.mp h1, h2⟩))))) ⟨(q_ad61fcb20 h_24), (q_68855c780 h_24)⟩
            · refine v_ic_ne_f (t := 156) c_211_146 rfl (Decidable.not_not.mp h_20) (q_aload_n c_211_149 rfl ?_)
              have h_26 := ir_41_36 hI
              have kn_27 : Hid (c_14 41 36 = c 41 36) := (hF_16 41 36 (fun h => absurd h (nn rfl))).trans (up_n (ni rfl))
              refine v_gi (z := 36) (v := c 41 36) c_211_150 kf_8_188 rfl (Nat.le_of_ble_eq_true rfl) rfl rfl (hid kn_27) (q_goto (t := 173) c_211_153 rfl (q_iret c_211_173 rfl ?_))
              exact K c_14 (c 41 36) hI_15 (fun a j hm => (hF_16 a j (fun h => hm (Or.inr (Or.inr h)))).trans (up_b (Decidable.or_iff_not_imp_left.mpr (fun h1 h2 => hm (Or.inl ⟨Decidable.not_not.mp h1, h2⟩))))) ⟨(q_cc1935a2a h_26), (q_4e52e4576 h_26)⟩
          · refine v_ic_ge_f (t := 143) c_211_122 rfl ⟨ha1.1, (Int.not_le.mp h_19), of_decide_eq_true rfl⟩ (q_iload_n c_211_125 rfl (v_bip c_211_126 (of_decide_eq_true rfl) ?_))
            by_cases h_28 : a1 ≠ 8
            · refine v_ic_ne_t (t := 138) c_211_128 rfl ⟨h_28, ⟨ha1.1, ha1.2⟩, of_decide_eq_true rfl, of_decide_eq_true rfl⟩ (q_aload_n c_211_138 rfl (v_cv c_211_139 km_8_393 rfl rfl (Nat.le_of_ble_eq_true rfl) ⟨⟨rfl, rfl⟩, Nat.le_of_ble_eq_true rfl, rfl⟩ (Nat.le_of_ble_eq_true rfl) (Nat.le_of_ble_eq_true rfl) (s_210 hI_15 (fun y_29 hy_29 => (bk_inl (q_iret c_211_142 rfl ?_))))))
              exact K c_14 y_29 hI_15 (fun a j hm => (hF_16 a j (fun h => hm (Or.inr (Or.inr h)))).trans (up_b (Decidable.or_iff_not_imp_left.mpr (fun h1 h2 => hm (Or.inl ⟨Decidable.not_not.mp h1, h2⟩))))) hy_29
            · refine v_ic_ne_f (t := 138) c_211_128 rfl (Decidable.not_not.mp h_28) (q_aload_n c_211_131 rfl (v_cv c_211_132 km_8_390 rfl rfl (Nat.le_of_ble_eq_true rfl) ⟨⟨rfl, rfl⟩, Nat.le_of_ble_eq_true rfl, rfl⟩ (Nat.le_of_ble_eq_true rfl) (Nat.le_of_ble_eq_true rfl) (s_209 hI_15 (fun y_30 hy_30 => (bk_inl (q_goto (t := 142) c_211_135 rfl (q_iret c_211_142 rfl ?_)))))))
              exact K c_14 y_30 hI_15 (fun a j hm => (hF_16 a j (fun h => hm (Or.inr (Or.inr h)))).trans (up_b (Decidable.or_iff_not_imp_left.mpr (fun h1 h2 => hm (Or.inl ⟨Decidable.not_not.mp h1, h2⟩))))) hy_30
        · refine v_ic_ge_f (t := 119) c_211_75 rfl ⟨ha1.1, (Int.not_le.mp h_18), of_decide_eq_true rfl⟩ (q_iload_n c_211_78 rfl (q_iconst c_211_79 ?_))
          by_cases h_31 : a1 ≠ 5
          · refine v_ic_ne_t (t := 90) c_211_80 rfl ⟨h_31, ⟨ha1.1, ha1.2⟩, of_decide_eq_true rfl, of_decide_eq_true rfl⟩ (q_aload_n c_211_90 rfl (v_gr (t := 59) c_211_91 kf_8_68 rfl (Nat.le_of_ble_eq_true rfl) rfl (q_iload_n c_211_94 rfl (q_iconst c_211_95 ?_))))
            by_cases h_32 : a1 ≠ 4
            · refine v_ic_ne_t (t := 104) c_211_96 rfl ⟨h_32, ⟨ha1.1, ha1.2⟩, of_decide_eq_true rfl, of_decide_eq_true rfl⟩ (q_iload_n c_211_104 rfl (v_bip c_211_105 (of_decide_eq_true rfl) ?_))
              by_cases h_33 : a1 ≠ 6
              · refine v_ic_ne_t (t := 115) c_211_107 rfl ⟨h_33, ⟨ha1.1, ha1.2⟩, of_decide_eq_true rfl, of_decide_eq_true rfl⟩ (v_bip c_211_115 (of_decide_eq_true rfl) ?_)
                have h_34 := ir_59 hI_15 36
                refine v_ia (v := c_14 59 36) c_211_117 rfl (of_decide_eq_true rfl) (of_decide_eq_true rfl) (of_decide_eq_true rfl) rfl (q_iret c_211_118 rfl ?_)
                exact K c_14 (c_14 59 36) hI_15 (fun a j hm => (hF_16 a j (fun h => hm (Or.inr (Or.inr h)))).trans (up_b (Decidable.or_iff_not_imp_left.mpr (fun h1 h2 => hm (Or.inl ⟨Decidable.not_not.mp h1, h2⟩))))) h_34
              · refine v_ic_ne_f (t := 115) c_211_107 rfl (Decidable.not_not.mp h_33) (v_bip c_211_110 (of_decide_eq_true rfl) (q_goto (t := 117) c_211_112 rfl ?_))
                have h_35 := ir_59 hI_15 35
                refine v_ia (v := c_14 59 35) c_211_117 rfl (of_decide_eq_true rfl) (of_decide_eq_true rfl) (of_decide_eq_true rfl) rfl (q_iret c_211_118 rfl ?_)
                exact K c_14 (c_14 59 35) hI_15 (fun a j hm => (hF_16 a j (fun h => hm (Or.inr (Or.inr h)))).trans (up_b (Decidable.or_iff_not_imp_left.mpr (fun h1 h2 => hm (Or.inl ⟨Decidable.not_not.mp h1, h2⟩))))) h_35
            · refine v_ic_ne_f (t := 104) c_211_96 rfl (Decidable.not_not.mp h_32) (v_bip c_211_99 (of_decide_eq_true rfl) (q_goto (t := 117) c_211_101 rfl ?_))
              have h_36 := ir_59 hI_15 34
              refine v_ia (v := c_14 59 34) c_211_117 rfl (of_decide_eq_true rfl) (of_decide_eq_true rfl) (of_decide_eq_true rfl) rfl (q_iret c_211_118 rfl ?_)
              exact K c_14 (c_14 59 34) hI_15 (fun a j hm => (hF_16 a j (fun h => hm (Or.inr (Or.inr h)))).trans (up_b (Decidable.or_iff_not_imp_left.mpr (fun h1 h2 => hm (Or.inl ⟨Decidable.not_not.mp h1, h2⟩))))) h_36
          · refine v_ic_ne_f (t := 90) c_211_80 rfl (Decidable.not_not.mp h_31) (q_aload_n c_211_83 rfl (v_cv c_211_84 km_8_387 rfl rfl (Nat.le_of_ble_eq_true rfl) ⟨⟨rfl, rfl⟩, Nat.le_of_ble_eq_true rfl, rfl⟩ (Nat.le_of_ble_eq_true rfl) (Nat.le_of_ble_eq_true rfl) (s_203 hI_15 (fun y_37 hy_37 => (bk_inl (q_goto (t := 118) c_211_87 rfl (q_iret c_211_118 rfl ?_)))))))
            exact K c_14 y_37 hI_15 (fun a j hm => (hF_16 a j (fun h => hm (Or.inr (Or.inr h)))).trans (up_b (Decidable.or_iff_not_imp_left.mpr (fun h1 h2 => hm (Or.inl ⟨Decidable.not_not.mp h1, h2⟩))))) hy_37
      · refine v_ic_ge_f (t := 72) c_211_29 rfl ⟨ha1.1, (Int.not_le.mp h_17), of_decide_eq_true rfl⟩ (q_iload_n c_211_32 rfl ?_)
        by_cases h_38 : a1 ≠ 0
        · refine v_if_ne_t (t := 43) c_211_33 rfl ⟨h_38, ⟨ha1.1, ha1.2⟩, of_decide_eq_true rfl, of_decide_eq_true rfl⟩ (q_iload_n c_211_43 rfl (q_iconst c_211_44 ?_))
          by_cases h_39 : a1 ≠ 1
          · refine v_ic_ne_t (t := 55) c_211_45 rfl ⟨h_39, ⟨ha1.1, ha1.2⟩, of_decide_eq_true rfl, of_decide_eq_true rfl⟩ (q_iload_n c_211_55 rfl (q_iconst c_211_56 ?_))
            by_cases h_40 : a1 ≠ 2
            · refine v_ic_ne_t (t := 67) c_211_57 rfl ⟨h_40, ⟨ha1.1, ha1.2⟩, of_decide_eq_true rfl, of_decide_eq_true rfl⟩ (q_aload_n c_211_67 rfl ?_)
              have h_41 := ir_41_23 hI
              have kn_42 : Hid (c_14 41 23 = c 41 23) := (hF_16 41 23 (fun h => absurd h (nn rfl))).trans (up_n (ni rfl))
              refine v_gi (z := 23) (v := c 41 23) c_211_68 kf_8_166 rfl (Nat.le_of_ble_eq_true rfl) rfl rfl (hid kn_42) (q_iret c_211_71 rfl ?_)
              exact K c_14 (c 41 23) hI_15 (fun a j hm => (hF_16 a j (fun h => hm (Or.inr (Or.inr h)))).trans (up_b (Decidable.or_iff_not_imp_left.mpr (fun h1 h2 => hm (Or.inl ⟨Decidable.not_not.mp h1, h2⟩))))) ⟨(q_fe18d6d95 h_41), (q_5d4e5294a h_41)⟩
            · refine v_ic_ne_f (t := 67) c_211_57 rfl (Decidable.not_not.mp h_40) (q_aload_n c_211_60 rfl ?_)
              have h_43 := ir_41_22 hI
              have kn_44 : Hid (c_14 41 22 = c 41 22) := (hF_16 41 22 (fun h => absurd h (nn rfl))).trans (up_n (ni rfl))
              refine v_gi (z := 22) (v := c 41 22) c_211_61 kf_8_163 rfl (Nat.le_of_ble_eq_true rfl) rfl rfl (hid kn_44) (q_goto (t := 71) c_211_64 rfl (q_iret c_211_71 rfl ?_))
              exact K c_14 (c 41 22) hI_15 (fun a j hm => (hF_16 a j (fun h => hm (Or.inr (Or.inr h)))).trans (up_b (Decidable.or_iff_not_imp_left.mpr (fun h1 h2 => hm (Or.inl ⟨Decidable.not_not.mp h1, h2⟩))))) ⟨(q_0bfe68f8e h_43), (q_82d4f69ff h_43)⟩
          · refine v_ic_ne_f (t := 55) c_211_45 rfl (Decidable.not_not.mp h_39) (q_aload_n c_211_48 rfl ?_)
            have h_45 := ir_41_21 hI
            have kn_46 : Hid (c_14 41 21 = c 41 21) := (hF_16 41 21 (fun h => absurd h (nn rfl))).trans (up_n (ni rfl))
            refine v_gi (z := 21) (v := c 41 21) c_211_49 kf_8_160 rfl (Nat.le_of_ble_eq_true rfl) rfl rfl (hid kn_46) (q_goto (t := 71) c_211_52 rfl (q_iret c_211_71 rfl ?_))
            exact K c_14 (c 41 21) hI_15 (fun a j hm => (hF_16 a j (fun h => hm (Or.inr (Or.inr h)))).trans (up_b (Decidable.or_iff_not_imp_left.mpr (fun h1 h2 => hm (Or.inl ⟨Decidable.not_not.mp h1, h2⟩))))) ⟨(q_0bfe68f8e h_45), (q_82d4f69ff h_45)⟩
        · refine v_if_ne_f (t := 43) c_211_33 rfl (Decidable.not_not.mp h_38) (q_aload_n c_211_36 rfl ?_)
          have h_47 := ir_41_20 hI
          have kn_48 : Hid (c_14 41 20 = c 41 20) := (hF_16 41 20 (fun h => absurd h (nn rfl))).trans (up_n (ni rfl))
          refine v_gi (z := 20) (v := c 41 20) c_211_37 kf_8_157 rfl (Nat.le_of_ble_eq_true rfl) rfl rfl (hid kn_48) (q_goto (t := 71) c_211_40 rfl (q_iret c_211_71 rfl ?_))
          exact K c_14 (c 41 20) hI_15 (fun a j hm => (hF_16 a j (fun h => hm (Or.inr (Or.inr h)))).trans (up_b (Decidable.or_iff_not_imp_left.mpr (fun h1 h2 => hm (Or.inl ⟨Decidable.not_not.mp h1, h2⟩))))) ⟨(q_730ab5169 h_47), (q_b289b7db2 h_47)⟩

set_option maxRecDepth 100000 in
set_option maxHeartbeats 4000000 in
theorem s_213 {sc : List Int32} {d P Q : Nat} {c : ME} {a1 : Int} {a2 : Int} {Z : AR → Prop} (hI : Iv 0 (-1) P Q c) (ha1 : (-2147483648) ≤ a1 ∧ a1 ≤ 2147483647) (ha2 : (-2147483648) ≤ a2 ∧ a2 ≤ 2147483647) (K : ∀ (c2 : ME) (y : Int), Iv 0 (-1) P Q c2 → (∀ (a : Nat) (j : Int), ¬ ((a = 41 ∧ j = 0) ∨ a = 42 ∨ a = 59) → c2 a j = c a j) → (-2147483648) ≤ y ∧ y ≤ 2147483647 → Z (.inl (some (vi y)), Wd P Q P P c2, 0, 0)) : Wp sc (d + 9) 213 0 [(0, .ref 41), (1, vi a1), (2, vi a2)] [] (Wd P Q P P c) 0 0 Z := by
  have hP := iv_P hI
  have hQ := iv_Q hI
  refine q_aload_n c_213_0 rfl (q_iconst c_213_1 (v_pi (z := 0) c_213_2 kf_8_3 rfl (Nat.le_of_ble_eq_true rfl) rfl rfl rfl (of_decide_eq_true rfl) (q_aload_n c_213_5 rfl (q_iload_n c_213_6 rfl (q_aload_n c_213_7 rfl ?_)))))
  have h_1 := ir_41_20 hI
  refine v_gi (z := 20) (v := c 41 20) c_213_8 kf_8_157 rfl (Nat.le_of_ble_eq_true rfl) rfl rfl (up_n (ni rfl)) (v_cv c_213_11 km_8_396 rfl rfl (Nat.le_of_ble_eq_true rfl) ⟨⟨rfl, rfl⟩, Nat.le_of_ble_eq_true rfl, rfl⟩ (Nat.le_of_ble_eq_true rfl) (Nat.le_of_ble_eq_true rfl) (q_aload_n c_212_0 rfl (q_iload_n c_212_1 rfl (q_iconst c_212_2 (q_iload_n c_212_3 rfl (q_iconst c_212_4 (v_isub (v := c 41 20 - 1) c_212_5 rfl ?_)))))))
  refine q_call c_212_6 rfl rfl rfl (q_iload_n c_146_0 rfl (q_iload_n c_146_1 rfl ?_))
  by_cases h_2 : a1 < 0
  · refine v_ic_lt_t (t := 14) c_146_2 rfl ⟨ha1.1, h_2, of_decide_eq_true rfl⟩ (q_iconst c_146_14 (v_zret c_146_15 rfl (of_decide_eq_true rfl) (bk_inl (q_iconst c_212_9 (q_iconst c_212_10 (v_cv c_212_11 km_8_203 rfl rfl (Nat.le_of_ble_eq_true rfl) ⟨⟨rfl, rfl⟩, Nat.le_of_ble_eq_true rfl, rfl⟩ (Nat.le_of_ble_eq_true rfl) (Nat.le_of_ble_eq_true rfl) (q_iload_n c_145_0 rfl ?_)))))))
    refine v_if_ne_f (t := 26) c_145_1 rfl (of_decide_eq_true rfl) (q_aload_n c_145_4 rfl (v_gi (z := 0) (v := 0) c_145_5 kf_8_3 rfl (Nat.le_of_ble_eq_true rfl) rfl rfl (up_e rfl) (v_if_ne_f (t := 26) c_145_8 rfl (of_decide_eq_true rfl) (q_aload_n c_145_11 rfl (q_iload_n c_145_12 rfl (v_pi (z := 0) c_145_13 kf_8_3 rfl (Nat.le_of_ble_eq_true rfl) rfl rfl rfl (of_decide_eq_true rfl) (q_aload_n c_145_16 rfl ?_)))))))
    refine v_gr (t := 42) c_145_17 kf_8_7 rfl (Nat.le_of_ble_eq_true rfl) rfl (q_iload_n c_145_20 rfl (q_dup2 c_145_21 ⟨rfl, rfl⟩ ?_))
    have h_3 := ir_42 hI 0
    refine v_ia (v := c 42 0) c_145_22 rfl (of_decide_eq_true rfl) (of_decide_eq_true rfl) (of_decide_eq_true rfl) ((up_c (nn rfl)).trans (up_c (nn rfl))) (q_iconst c_145_23 (v_iadd (v := c 42 0 + 1) c_145_24 rfl (v_nrm (fun y_4 hy_4 => (v_is c_145_25 rfl (of_decide_eq_true rfl) (of_decide_eq_true rfl) (of_decide_eq_true rfl) (q_aload_n c_145_26 rfl (v_gi (z := 0) (v := 1) c_145_27 kf_8_3 rfl (Nat.le_of_ble_eq_true rfl) rfl rfl ((up_c (nn rfl)).trans (up_e rfl)) (v_if_ne_t (t := 37) c_145_30 rfl (of_decide_eq_true rfl) ?_))))))))
    refine q_iconst c_145_37 (v_zret c_145_38 rfl (of_decide_eq_true rfl) (bk_inl (v_zret c_212_14 rfl (of_decide_eq_true rfl) (bk_inl (v_if_eq_t (t := 33) c_213_14 rfl (of_decide_eq_true rfl) (q_iconst c_213_33 (q_iret c_213_34 rfl ?_)))))))
    have hI_5 := iw_41_0 (v := 0) hI ⟨of_decide_eq_true rfl, of_decide_eq_true rfl⟩
    have hI_6 := iw_41_0 (v := 1) hI_5 ⟨of_decide_eq_true rfl, of_decide_eq_true rfl⟩
    have hI_7 := iw_42 (j := 0) (v := y_4) hI_6 ⟨hy_4.1, hy_4.2⟩
    exact K (up (up (up c 41 0 0) 41 0 1) 42 0 y_4) 0 hI_7 (fun a j hm => (up_b (Decidable.or_iff_not_imp_left.mpr (fun h1 h2 => hm (Or.inr (Or.inl (Decidable.not_not.mp h1)))))).trans ((up_b (Decidable.or_iff_not_imp_left.mpr (fun h1 h2 => hm (Or.inl ⟨Decidable.not_not.mp h1, h2⟩)))).trans (up_b (Decidable.or_iff_not_imp_left.mpr (fun h1 h2 => hm (Or.inl ⟨Decidable.not_not.mp h1, h2⟩)))))) ⟨of_decide_eq_true rfl, of_decide_eq_true rfl⟩
  · refine v_ic_lt_f (t := 14) c_146_2 rfl ⟨of_decide_eq_true rfl, (Int.not_lt.mp h_2), ha1.2⟩ (q_iload_n c_146_5 rfl (q_iload_n c_146_6 rfl ?_))
    by_cases h_8 : a1 > c 41 20 - 1
    · refine v_ic_gt_t (t := 14) c_146_7 rfl ⟨(rgm_l h_1.1 (of_decide_eq_true rfl)), h_8, ha1.2⟩ (q_iconst c_146_14 (v_zret c_146_15 rfl (of_decide_eq_true rfl) (bk_inl (q_iconst c_212_9 (q_iconst c_212_10 (v_cv c_212_11 km_8_203 rfl rfl (Nat.le_of_ble_eq_true rfl) ⟨⟨rfl, rfl⟩, Nat.le_of_ble_eq_true rfl, rfl⟩ (Nat.le_of_ble_eq_true rfl) (Nat.le_of_ble_eq_true rfl) (q_iload_n c_145_0 rfl ?_)))))))
      refine v_if_ne_f (t := 26) c_145_1 rfl (of_decide_eq_true rfl) (q_aload_n c_145_4 rfl (v_gi (z := 0) (v := 0) c_145_5 kf_8_3 rfl (Nat.le_of_ble_eq_true rfl) rfl rfl (up_e rfl) (v_if_ne_f (t := 26) c_145_8 rfl (of_decide_eq_true rfl) (q_aload_n c_145_11 rfl (q_iload_n c_145_12 rfl (v_pi (z := 0) c_145_13 kf_8_3 rfl (Nat.le_of_ble_eq_true rfl) rfl rfl rfl (of_decide_eq_true rfl) (q_aload_n c_145_16 rfl ?_)))))))
      refine v_gr (t := 42) c_145_17 kf_8_7 rfl (Nat.le_of_ble_eq_true rfl) rfl (q_iload_n c_145_20 rfl (q_dup2 c_145_21 ⟨rfl, rfl⟩ ?_))
      have h_9 := ir_42 hI 0
      refine v_ia (v := c 42 0) c_145_22 rfl (of_decide_eq_true rfl) (of_decide_eq_true rfl) (of_decide_eq_true rfl) ((up_c (nn rfl)).trans (up_c (nn rfl))) (q_iconst c_145_23 (v_iadd (v := c 42 0 + 1) c_145_24 rfl (v_nrm (fun y_10 hy_10 => (v_is c_145_25 rfl (of_decide_eq_true rfl) (of_decide_eq_true rfl) (of_decide_eq_true rfl) (q_aload_n c_145_26 rfl (v_gi (z := 0) (v := 1) c_145_27 kf_8_3 rfl (Nat.le_of_ble_eq_true rfl) rfl rfl ((up_c (nn rfl)).trans (up_e rfl)) (v_if_ne_t (t := 37) c_145_30 rfl (of_decide_eq_true rfl) ?_))))))))
      refine q_iconst c_145_37 (v_zret c_145_38 rfl (of_decide_eq_true rfl) (bk_inl (v_zret c_212_14 rfl (of_decide_eq_true rfl) (bk_inl (v_if_eq_t (t := 33) c_213_14 rfl (of_decide_eq_true rfl) (q_iconst c_213_33 (q_iret c_213_34 rfl ?_)))))))
      have hI_11 := iw_41_0 (v := 0) hI ⟨of_decide_eq_true rfl, of_decide_eq_true rfl⟩
      have hI_12 := iw_41_0 (v := 1) hI_11 ⟨of_decide_eq_true rfl, of_decide_eq_true rfl⟩
      have hI_13 := iw_42 (j := 0) (v := y_10) hI_12 ⟨hy_10.1, hy_10.2⟩
      exact K (up (up (up c 41 0 0) 41 0 1) 42 0 y_10) 0 hI_13 (fun a j hm => (up_b (Decidable.or_iff_not_imp_left.mpr (fun h1 h2 => hm (Or.inr (Or.inl (Decidable.not_not.mp h1)))))).trans ((up_b (Decidable.or_iff_not_imp_left.mpr (fun h1 h2 => hm (Or.inl ⟨Decidable.not_not.mp h1, h2⟩)))).trans (up_b (Decidable.or_iff_not_imp_left.mpr (fun h1 h2 => hm (Or.inl ⟨Decidable.not_not.mp h1, h2⟩)))))) ⟨of_decide_eq_true rfl, of_decide_eq_true rfl⟩
    · refine v_ic_gt_f (t := 14) c_146_7 rfl ⟨ha1.1, (Int.not_lt.mp h_8), (rgm_h h_1.2 (of_decide_eq_true rfl))⟩ (q_iconst c_146_10 (q_goto (t := 15) c_146_11 rfl (v_zret c_146_15 rfl (of_decide_eq_true rfl) (bk_inl (q_iconst c_212_9 (q_iconst c_212_10 (v_cv c_212_11 km_8_203 rfl rfl (Nat.le_of_ble_eq_true rfl) ⟨⟨rfl, rfl⟩, Nat.le_of_ble_eq_true rfl, rfl⟩ (Nat.le_of_ble_eq_true rfl) (Nat.le_of_ble_eq_true rfl) ?_)))))))
      refine q_iload_n c_145_0 rfl (v_if_ne_t (t := 26) c_145_1 rfl (of_decide_eq_true rfl) (q_aload_n c_145_26 rfl (v_gi (z := 0) (v := 0) c_145_27 kf_8_3 rfl (Nat.le_of_ble_eq_true rfl) rfl rfl (up_e rfl) (v_if_ne_f (t := 37) c_145_30 rfl (of_decide_eq_true rfl) (q_iconst c_145_33 (q_goto (t := 38) c_145_34 rfl (v_zret c_145_38 rfl (of_decide_eq_true rfl) ?_)))))))
      refine bk_inl (v_zret c_212_14 rfl (of_decide_eq_true rfl) (bk_inl (v_if_eq_f (t := 33) c_213_14 rfl (of_decide_eq_true rfl) (q_aload_n c_213_17 rfl (q_iload_n c_213_18 rfl (q_iconst c_213_19 (v_bip c_213_20 (of_decide_eq_true rfl) ?_)))))))
      refine q_call c_213_22 rfl rfl rfl (q_iload_n c_146_0 rfl (q_iload_n c_146_1 rfl ?_))
      by_cases h_14 : a2 < 0
      · refine v_ic_lt_t (t := 14) c_146_2 rfl ⟨ha2.1, h_14, of_decide_eq_true rfl⟩ (q_iconst c_146_14 (v_zret c_146_15 rfl (of_decide_eq_true rfl) (bk_inl (q_iconst c_213_25 (q_iconst c_213_26 (v_cv c_213_27 km_8_203 rfl rfl (Nat.le_of_ble_eq_true rfl) ⟨⟨rfl, rfl⟩, Nat.le_of_ble_eq_true rfl, rfl⟩ (Nat.le_of_ble_eq_true rfl) (Nat.le_of_ble_eq_true rfl) (q_iload_n c_145_0 rfl ?_)))))))
        refine v_if_ne_f (t := 26) c_145_1 rfl (of_decide_eq_true rfl) (q_aload_n c_145_4 rfl (v_gi (z := 0) (v := 0) c_145_5 kf_8_3 rfl (Nat.le_of_ble_eq_true rfl) rfl rfl (up_e rfl) (v_if_ne_f (t := 26) c_145_8 rfl (of_decide_eq_true rfl) (q_aload_n c_145_11 rfl (q_iload_n c_145_12 rfl (v_pi (z := 0) c_145_13 kf_8_3 rfl (Nat.le_of_ble_eq_true rfl) rfl rfl rfl (of_decide_eq_true rfl) (q_aload_n c_145_16 rfl ?_)))))))
        refine v_gr (t := 42) c_145_17 kf_8_7 rfl (Nat.le_of_ble_eq_true rfl) rfl (q_iload_n c_145_20 rfl (q_dup2 c_145_21 ⟨rfl, rfl⟩ ?_))
        have h_15 := ir_42 hI 1
        refine v_ia (v := c 42 1) c_145_22 rfl (of_decide_eq_true rfl) (of_decide_eq_true rfl) (of_decide_eq_true rfl) ((up_c (nn rfl)).trans (up_c (nn rfl))) (q_iconst c_145_23 (v_iadd (v := c 42 1 + 1) c_145_24 rfl (v_nrm (fun y_16 hy_16 => (v_is c_145_25 rfl (of_decide_eq_true rfl) (of_decide_eq_true rfl) (of_decide_eq_true rfl) (q_aload_n c_145_26 rfl (v_gi (z := 0) (v := 2) c_145_27 kf_8_3 rfl (Nat.le_of_ble_eq_true rfl) rfl rfl ((up_c (nn rfl)).trans (up_e rfl)) (v_if_ne_t (t := 37) c_145_30 rfl (of_decide_eq_true rfl) ?_))))))))
        refine q_iconst c_145_37 (v_zret c_145_38 rfl (of_decide_eq_true rfl) (bk_inl (v_if_ne_f (t := 35) c_213_30 rfl (of_decide_eq_true rfl) (q_iconst c_213_33 (q_iret c_213_34 rfl ?_)))))
        have hI_17 := iw_41_0 (v := 0) hI ⟨of_decide_eq_true rfl, of_decide_eq_true rfl⟩
        have hI_18 := iw_41_0 (v := 2) hI_17 ⟨of_decide_eq_true rfl, of_decide_eq_true rfl⟩
        have hI_19 := iw_42 (j := 1) (v := y_16) hI_18 ⟨hy_16.1, hy_16.2⟩
        exact K (up (up (up c 41 0 0) 41 0 2) 42 1 y_16) 0 hI_19 (fun a j hm => (up_b (Decidable.or_iff_not_imp_left.mpr (fun h1 h2 => hm (Or.inr (Or.inl (Decidable.not_not.mp h1)))))).trans ((up_b (Decidable.or_iff_not_imp_left.mpr (fun h1 h2 => hm (Or.inl ⟨Decidable.not_not.mp h1, h2⟩)))).trans (up_b (Decidable.or_iff_not_imp_left.mpr (fun h1 h2 => hm (Or.inl ⟨Decidable.not_not.mp h1, h2⟩)))))) ⟨of_decide_eq_true rfl, of_decide_eq_true rfl⟩
      · refine v_ic_lt_f (t := 14) c_146_2 rfl ⟨of_decide_eq_true rfl, (Int.not_lt.mp h_14), ha2.2⟩ (q_iload_n c_146_5 rfl (q_iload_n c_146_6 rfl ?_))
        by_cases h_20 : a2 > 6
        · refine v_ic_gt_t (t := 14) c_146_7 rfl ⟨of_decide_eq_true rfl, h_20, ha2.2⟩ (q_iconst c_146_14 (v_zret c_146_15 rfl (of_decide_eq_true rfl) (bk_inl (q_iconst c_213_25 (q_iconst c_213_26 (v_cv c_213_27 km_8_203 rfl rfl (Nat.le_of_ble_eq_true rfl) ⟨⟨rfl, rfl⟩, Nat.le_of_ble_eq_true rfl, rfl⟩ (Nat.le_of_ble_eq_true rfl) (Nat.le_of_ble_eq_true rfl) (q_iload_n c_145_0 rfl ?_)))))))
          refine v_if_ne_f (t := 26) c_145_1 rfl (of_decide_eq_true rfl) (q_aload_n c_145_4 rfl (v_gi (z := 0) (v := 0) c_145_5 kf_8_3 rfl (Nat.le_of_ble_eq_true rfl) rfl rfl (up_e rfl) (v_if_ne_f (t := 26) c_145_8 rfl (of_decide_eq_true rfl) (q_aload_n c_145_11 rfl (q_iload_n c_145_12 rfl (v_pi (z := 0) c_145_13 kf_8_3 rfl (Nat.le_of_ble_eq_true rfl) rfl rfl rfl (of_decide_eq_true rfl) (q_aload_n c_145_16 rfl ?_)))))))
          refine v_gr (t := 42) c_145_17 kf_8_7 rfl (Nat.le_of_ble_eq_true rfl) rfl (q_iload_n c_145_20 rfl (q_dup2 c_145_21 ⟨rfl, rfl⟩ ?_))
          have h_21 := ir_42 hI 1
          refine v_ia (v := c 42 1) c_145_22 rfl (of_decide_eq_true rfl) (of_decide_eq_true rfl) (of_decide_eq_true rfl) ((up_c (nn rfl)).trans (up_c (nn rfl))) (q_iconst c_145_23 (v_iadd (v := c 42 1 + 1) c_145_24 rfl (v_nrm (fun y_22 hy_22 => (v_is c_145_25 rfl (of_decide_eq_true rfl) (of_decide_eq_true rfl) (of_decide_eq_true rfl) (q_aload_n c_145_26 rfl (v_gi (z := 0) (v := 2) c_145_27 kf_8_3 rfl (Nat.le_of_ble_eq_true rfl) rfl rfl ((up_c (nn rfl)).trans (up_e rfl)) (v_if_ne_t (t := 37) c_145_30 rfl (of_decide_eq_true rfl) ?_))))))))
          refine q_iconst c_145_37 (v_zret c_145_38 rfl (of_decide_eq_true rfl) (bk_inl (v_if_ne_f (t := 35) c_213_30 rfl (of_decide_eq_true rfl) (q_iconst c_213_33 (q_iret c_213_34 rfl ?_)))))
          have hI_23 := iw_41_0 (v := 0) hI ⟨of_decide_eq_true rfl, of_decide_eq_true rfl⟩
          have hI_24 := iw_41_0 (v := 2) hI_23 ⟨of_decide_eq_true rfl, of_decide_eq_true rfl⟩
          have hI_25 := iw_42 (j := 1) (v := y_22) hI_24 ⟨hy_22.1, hy_22.2⟩
          exact K (up (up (up c 41 0 0) 41 0 2) 42 1 y_22) 0 hI_25 (fun a j hm => (up_b (Decidable.or_iff_not_imp_left.mpr (fun h1 h2 => hm (Or.inr (Or.inl (Decidable.not_not.mp h1)))))).trans ((up_b (Decidable.or_iff_not_imp_left.mpr (fun h1 h2 => hm (Or.inl ⟨Decidable.not_not.mp h1, h2⟩)))).trans (up_b (Decidable.or_iff_not_imp_left.mpr (fun h1 h2 => hm (Or.inl ⟨Decidable.not_not.mp h1, h2⟩)))))) ⟨of_decide_eq_true rfl, of_decide_eq_true rfl⟩
        · refine v_ic_gt_f (t := 14) c_146_7 rfl ⟨ha2.1, (Int.not_lt.mp h_20), of_decide_eq_true rfl⟩ (q_iconst c_146_10 (q_goto (t := 15) c_146_11 rfl (v_zret c_146_15 rfl (of_decide_eq_true rfl) (bk_inl (q_iconst c_213_25 (q_iconst c_213_26 (v_cv c_213_27 km_8_203 rfl rfl (Nat.le_of_ble_eq_true rfl) ⟨⟨rfl, rfl⟩, Nat.le_of_ble_eq_true rfl, rfl⟩ (Nat.le_of_ble_eq_true rfl) (Nat.le_of_ble_eq_true rfl) ?_)))))))
          refine q_iload_n c_145_0 rfl (v_if_ne_t (t := 26) c_145_1 rfl (of_decide_eq_true rfl) (q_aload_n c_145_26 rfl (v_gi (z := 0) (v := 0) c_145_27 kf_8_3 rfl (Nat.le_of_ble_eq_true rfl) rfl rfl (up_e rfl) (v_if_ne_f (t := 37) c_145_30 rfl (of_decide_eq_true rfl) (q_iconst c_145_33 (q_goto (t := 38) c_145_34 rfl (v_zret c_145_38 rfl (of_decide_eq_true rfl) ?_)))))))
          refine bk_inl (v_if_ne_t (t := 35) c_213_30 rfl (of_decide_eq_true rfl) (q_aload_n c_213_35 rfl ?_))
          have hI_26 := iw_41_0 (v := 0) hI ⟨of_decide_eq_true rfl, of_decide_eq_true rfl⟩
          refine v_cv c_213_36 km_8_317 rfl rfl (Nat.le_of_ble_eq_true rfl) ⟨⟨rfl, rfl⟩, Nat.le_of_ble_eq_true rfl, rfl⟩ (Nat.le_of_ble_eq_true rfl) (Nat.le_of_ble_eq_true rfl) (s_186 hI_26 (fun c_27 hI_28 hF_29 => (bk_inl (q_iload_n c_213_39 rfl (q_iconst c_213_40 ?_)))))
          by_cases h_30 : a2 ≥ 4
          · refine v_ic_ge_t (t := 57) c_213_41 rfl ⟨of_decide_eq_true rfl, h_30, ha2.2⟩ (q_iload_n c_213_57 rfl (q_iconst c_213_58 ?_))
            by_cases h_31 : a2 ≠ 4
            · refine v_ic_ne_t (t := 70) c_213_59 rfl ⟨h_31, ⟨ha2.1, ha2.2⟩, of_decide_eq_true rfl, of_decide_eq_true rfl⟩ (q_iload_n c_213_70 rfl (q_iconst c_213_71 ?_))
              by_cases h_32 : a2 ≠ 5
              · refine v_ic_ne_t (t := 87) c_213_72 rfl ⟨h_32, ⟨ha2.1, ha2.2⟩, of_decide_eq_true rfl, of_decide_eq_true rfl⟩ (q_aload_n c_213_87 rfl (q_iload_n c_213_88 rfl (v_cv c_213_89 km_8_399 rfl rfl (Nat.le_of_ble_eq_true rfl) ⟨⟨rfl, rfl⟩, Nat.le_of_ble_eq_true rfl, rfl⟩ (Nat.le_of_ble_eq_true rfl) (Nat.le_of_ble_eq_true rfl) (s_204 (a1 := a1) hI_28 (show 0 ≤ a1 ∧ a1 ≤ 5 from ⟨(q_720657ba9 h_2), (q_3a2e67ab0 h_1 h_8)⟩) (fun y_33 hy_33 => (bk_inl (q_iret c_213_92 rfl ?_)))))))
                exact K c_27 y_33 hI_28 (fun a j hm => (hF_29 a j (fun h => hm (Or.inr (Or.inr h)))).trans (up_b (Decidable.or_iff_not_imp_left.mpr (fun h1 h2 => hm (Or.inl ⟨Decidable.not_not.mp h1, h2⟩))))) hy_33
              · refine v_ic_ne_f (t := 87) c_213_72 rfl (Decidable.not_not.mp h_32) (q_aload_n c_213_75 rfl (v_gr (t := 59) c_213_76 kf_8_68 rfl (Nat.le_of_ble_eq_true rfl) rfl (v_bip c_213_79 (of_decide_eq_true rfl) (q_iload_n c_213_81 rfl (v_iadd (v := a1 + 24) c_213_82 (by first | (clear ha1 ha2 h_1 h_2 h_8 h_14 h_20 h_30 h_32 h_31; omega) | omega) ?_)))))
                have h_34 := ir_59 hI_28 (a1 + 24)
                refine v_ia (v := c_27 59 (a1 + 24)) c_213_83 rfl (of_decide_eq_true rfl) (of_decide_eq_true rfl) ⟨(q_7e8f1d31c h_2), (q_3aa97594e h_1 h_8)⟩ rfl (q_goto (t := 92) c_213_84 rfl (q_iret c_213_92 rfl ?_))
                exact K c_27 (c_27 59 (a1 + 24)) hI_28 (fun a j hm => (hF_29 a j (fun h => hm (Or.inr (Or.inr h)))).trans (up_b (Decidable.or_iff_not_imp_left.mpr (fun h1 h2 => hm (Or.inl ⟨Decidable.not_not.mp h1, h2⟩))))) h_34
            · refine v_ic_ne_f (t := 70) c_213_59 rfl (Decidable.not_not.mp h_31) (q_aload_n c_213_62 rfl (q_iload_n c_213_63 rfl ?_))
              have h_35 := ir_59_g hI_28 (j := 4 * a1) ((q_b0d0e4535 h_1 h_8))
              have h_36 := ir_59_g hI_28 (j := 4 * a1 + 1) ((q_e3354e5e9 h_1 h_8))
              have h_37 := ir_59_g hI_28 (j := 4 * a1 + 2) ((q_0a5347bcd h_1 h_8))
              have h_38 := ir_59_g hI_28 (j := 4 * a1 + 3) ((q_9939b3b7f h_1 h_8))
              refine v_cv c_213_64 km_8_343 rfl rfl (Nat.le_of_ble_eq_true rfl) ⟨⟨rfl, rfl⟩, Nat.le_of_ble_eq_true rfl, rfl⟩ (Nat.le_of_ble_eq_true rfl) (Nat.le_of_ble_eq_true rfl) (s_187 (v1 := c_27 59 (4 * a1)) (v2 := c_27 59 (4 * a1 + 1)) (v3 := c_27 59 (4 * a1 + 2)) (v4 := c_27 59 (4 * a1 + 3)) (r := c_27 59 (4 * a1 + 1) + c_27 59 (4 * a1 + 2) + c_27 59 (4 * a1 + 3) + c_27 59 (4 * a1)) (a1 := a1) hI_28 (show 0 ≤ a1 ∧ a1 ≤ 5 from ⟨(q_720657ba9 h_2), (q_3a2e67ab0 h_1 h_8)⟩) (rfl) (rfl) (rfl) (rfl) (by omega) (bk_inl (q_goto (t := 92) c_213_67 rfl (q_iret c_213_92 rfl ?_))))
              exact K c_27 (c_27 59 (4 * a1 + 1) + c_27 59 (4 * a1 + 2) + c_27 59 (4 * a1 + 3) + c_27 59 (4 * a1)) hI_28 (fun a j hm => (hF_29 a j (fun h => hm (Or.inr (Or.inr h)))).trans (up_b (Decidable.or_iff_not_imp_left.mpr (fun h1 h2 => hm (Or.inl ⟨Decidable.not_not.mp h1, h2⟩))))) ⟨(q_e052ef40e h_35 h_36 h_37 h_38), (q_db9ef1f4a h_35 h_36 h_37 h_38)⟩
          · refine v_ic_ge_f (t := 57) c_213_41 rfl ⟨ha2.1, (Int.not_le.mp h_30), of_decide_eq_true rfl⟩ (q_aload_n c_213_44 rfl (v_gr (t := 59) c_213_45 kf_8_68 rfl (Nat.le_of_ble_eq_true rfl) rfl (q_iconst c_213_48 (q_iload_n c_213_49 rfl (v_imul (v := 4 * a1) c_213_50 rfl (q_iload_n c_213_51 rfl (v_iadd (v := 4 * a1 + a2) c_213_52 rfl ?_)))))))
            have h_39 := ir_59_g hI_28 (j := 4 * a1 + a2) ((q_490e7f1d7 h_1 h_30 h_8))
            refine v_ia (v := c_27 59 (4 * a1 + a2)) c_213_53 rfl (of_decide_eq_true rfl) (of_decide_eq_true rfl) ⟨(q_cc0c3eecc h_14 h_2), (q_6645f81e3 h_1 h_30 h_8)⟩ rfl (q_goto (t := 92) c_213_54 rfl (q_iret c_213_92 rfl ?_))
            exact K c_27 (c_27 59 (4 * a1 + a2)) hI_28 (fun a j hm => (hF_29 a j (fun h => hm (Or.inr (Or.inr h)))).trans (up_b (Decidable.or_iff_not_imp_left.mpr (fun h1 h2 => hm (Or.inl ⟨Decidable.not_not.mp h1, h2⟩))))) ⟨(lel h_39.1 rfl), (ler h_39.2 rfl)⟩

set_option maxRecDepth 100000 in
set_option maxHeartbeats 4000000 in
theorem s_214 {sc : List Int32} {e : Int} {d u P Q : Nat} {c : ME} {a1 : Int} {a2 : Int} {Z : AR → Prop} (hI : Iv u e P Q c) (ha1 : (-2147483648) ≤ a1 ∧ a1 ≤ 2147483647) (ha2 : (-2147483648) ≤ a2 ∧ a2 ≤ 2147483647) (K : ∀ (c2 : ME) (y : Int), Iv u e P Q c2 → (∀ (a : Nat) (j : Int), ¬ ((a = 41 ∧ j = 0) ∨ a = 42) → c2 a j = c a j) → (-2147483648) ≤ y ∧ y ≤ 2147483647 → Z (.inl (some (vi y)), Wd P Q P P c2, 0, 0)) : Wp sc (d + 9) 214 0 [(0, .ref 41), (1, vi a1), (2, vi a2)] [] (Wd P Q P P c) 0 0 Z := by
  have hP := iv_P hI
  have hQ := iv_Q hI
  refine q_aload_n c_214_0 rfl (q_iconst c_214_1 (v_pi (z := 0) c_214_2 kf_8_3 rfl (Nat.le_of_ble_eq_true rfl) rfl rfl rfl (of_decide_eq_true rfl) (q_aload_n c_214_5 rfl (q_iload_n c_214_6 rfl (q_aload_n c_214_7 rfl ?_)))))
  have h_1 := ir_41_21 hI
  refine v_gi (z := 21) (v := c 41 21) c_214_8 kf_8_160 rfl (Nat.le_of_ble_eq_true rfl) rfl rfl (up_n (ni rfl)) (v_cv c_214_11 km_8_396 rfl rfl (Nat.le_of_ble_eq_true rfl) ⟨⟨rfl, rfl⟩, Nat.le_of_ble_eq_true rfl, rfl⟩ (Nat.le_of_ble_eq_true rfl) (Nat.le_of_ble_eq_true rfl) (q_aload_n c_212_0 rfl (q_iload_n c_212_1 rfl (q_iconst c_212_2 (q_iload_n c_212_3 rfl (q_iconst c_212_4 (v_isub (v := c 41 21 - 1) c_212_5 rfl ?_)))))))
  refine q_call c_212_6 rfl rfl rfl (q_iload_n c_146_0 rfl (q_iload_n c_146_1 rfl ?_))
  by_cases h_2 : a1 < 0
  · refine v_ic_lt_t (t := 14) c_146_2 rfl ⟨ha1.1, h_2, of_decide_eq_true rfl⟩ (q_iconst c_146_14 (v_zret c_146_15 rfl (of_decide_eq_true rfl) (bk_inl (q_iconst c_212_9 (q_iconst c_212_10 (v_cv c_212_11 km_8_203 rfl rfl (Nat.le_of_ble_eq_true rfl) ⟨⟨rfl, rfl⟩, Nat.le_of_ble_eq_true rfl, rfl⟩ (Nat.le_of_ble_eq_true rfl) (Nat.le_of_ble_eq_true rfl) (q_iload_n c_145_0 rfl ?_)))))))
    refine v_if_ne_f (t := 26) c_145_1 rfl (of_decide_eq_true rfl) (q_aload_n c_145_4 rfl (v_gi (z := 0) (v := 0) c_145_5 kf_8_3 rfl (Nat.le_of_ble_eq_true rfl) rfl rfl (up_e rfl) (v_if_ne_f (t := 26) c_145_8 rfl (of_decide_eq_true rfl) (q_aload_n c_145_11 rfl (q_iload_n c_145_12 rfl (v_pi (z := 0) c_145_13 kf_8_3 rfl (Nat.le_of_ble_eq_true rfl) rfl rfl rfl (of_decide_eq_true rfl) (q_aload_n c_145_16 rfl ?_)))))))
    refine v_gr (t := 42) c_145_17 kf_8_7 rfl (Nat.le_of_ble_eq_true rfl) rfl (q_iload_n c_145_20 rfl (q_dup2 c_145_21 ⟨rfl, rfl⟩ ?_))
    have h_3 := ir_42 hI 0
    refine v_ia (v := c 42 0) c_145_22 rfl (of_decide_eq_true rfl) (of_decide_eq_true rfl) (of_decide_eq_true rfl) ((up_c (nn rfl)).trans (up_c (nn rfl))) (q_iconst c_145_23 (v_iadd (v := c 42 0 + 1) c_145_24 rfl (v_nrm (fun y_4 hy_4 => (v_is c_145_25 rfl (of_decide_eq_true rfl) (of_decide_eq_true rfl) (of_decide_eq_true rfl) (q_aload_n c_145_26 rfl (v_gi (z := 0) (v := 1) c_145_27 kf_8_3 rfl (Nat.le_of_ble_eq_true rfl) rfl rfl ((up_c (nn rfl)).trans (up_e rfl)) (v_if_ne_t (t := 37) c_145_30 rfl (of_decide_eq_true rfl) ?_))))))))
    refine q_iconst c_145_37 (v_zret c_145_38 rfl (of_decide_eq_true rfl) (bk_inl (v_zret c_212_14 rfl (of_decide_eq_true rfl) (bk_inl (v_if_eq_t (t := 32) c_214_14 rfl (of_decide_eq_true rfl) (q_iconst c_214_32 (q_iret c_214_33 rfl ?_)))))))
    have hI_5 := iw_41_0 (v := 0) hI ⟨of_decide_eq_true rfl, of_decide_eq_true rfl⟩
    have hI_6 := iw_41_0 (v := 1) hI_5 ⟨of_decide_eq_true rfl, of_decide_eq_true rfl⟩
    have hI_7 := iw_42 (j := 0) (v := y_4) hI_6 ⟨hy_4.1, hy_4.2⟩
    exact K (up (up (up c 41 0 0) 41 0 1) 42 0 y_4) 0 hI_7 (fun a j hm => (up_b (Decidable.or_iff_not_imp_left.mpr (fun h1 h2 => hm (Or.inr (Decidable.not_not.mp h1))))).trans ((up_b (Decidable.or_iff_not_imp_left.mpr (fun h1 h2 => hm (Or.inl ⟨Decidable.not_not.mp h1, h2⟩)))).trans (up_b (Decidable.or_iff_not_imp_left.mpr (fun h1 h2 => hm (Or.inl ⟨Decidable.not_not.mp h1, h2⟩)))))) ⟨of_decide_eq_true rfl, of_decide_eq_true rfl⟩
  · refine v_ic_lt_f (t := 14) c_146_2 rfl ⟨of_decide_eq_true rfl, (Int.not_lt.mp h_2), ha1.2⟩ (q_iload_n c_146_5 rfl (q_iload_n c_146_6 rfl ?_))
    by_cases h_8 : a1 > c 41 21 - 1
    · refine v_ic_gt_t (t := 14) c_146_7 rfl ⟨(rgm_l h_1.1 (of_decide_eq_true rfl)), h_8, ha1.2⟩ (q_iconst c_146_14 (v_zret c_146_15 rfl (of_decide_eq_true rfl) (bk_inl (q_iconst c_212_9 (q_iconst c_212_10 (v_cv c_212_11 km_8_203 rfl rfl (Nat.le_of_ble_eq_true rfl) ⟨⟨rfl, rfl⟩, Nat.le_of_ble_eq_true rfl, rfl⟩ (Nat.le_of_ble_eq_true rfl) (Nat.le_of_ble_eq_true rfl) (q_iload_n c_145_0 rfl ?_)))))))
      refine v_if_ne_f (t := 26) c_145_1 rfl (of_decide_eq_true rfl) (q_aload_n c_145_4 rfl (v_gi (z := 0) (v := 0) c_145_5 kf_8_3 rfl (Nat.le_of_ble_eq_true rfl) rfl rfl (up_e rfl) (v_if_ne_f (t := 26) c_145_8 rfl (of_decide_eq_true rfl) (q_aload_n c_145_11 rfl (q_iload_n c_145_12 rfl (v_pi (z := 0) c_145_13 kf_8_3 rfl (Nat.le_of_ble_eq_true rfl) rfl rfl rfl (of_decide_eq_true rfl) (q_aload_n c_145_16 rfl ?_)))))))
      refine v_gr (t := 42) c_145_17 kf_8_7 rfl (Nat.le_of_ble_eq_true rfl) rfl (q_iload_n c_145_20 rfl (q_dup2 c_145_21 ⟨rfl, rfl⟩ ?_))
      have h_9 := ir_42 hI 0
      refine v_ia (v := c 42 0) c_145_22 rfl (of_decide_eq_true rfl) (of_decide_eq_true rfl) (of_decide_eq_true rfl) ((up_c (nn rfl)).trans (up_c (nn rfl))) (q_iconst c_145_23 (v_iadd (v := c 42 0 + 1) c_145_24 rfl (v_nrm (fun y_10 hy_10 => (v_is c_145_25 rfl (of_decide_eq_true rfl) (of_decide_eq_true rfl) (of_decide_eq_true rfl) (q_aload_n c_145_26 rfl (v_gi (z := 0) (v := 1) c_145_27 kf_8_3 rfl (Nat.le_of_ble_eq_true rfl) rfl rfl ((up_c (nn rfl)).trans (up_e rfl)) (v_if_ne_t (t := 37) c_145_30 rfl (of_decide_eq_true rfl) ?_))))))))
      refine q_iconst c_145_37 (v_zret c_145_38 rfl (of_decide_eq_true rfl) (bk_inl (v_zret c_212_14 rfl (of_decide_eq_true rfl) (bk_inl (v_if_eq_t (t := 32) c_214_14 rfl (of_decide_eq_true rfl) (q_iconst c_214_32 (q_iret c_214_33 rfl ?_)))))))
      have hI_11 := iw_41_0 (v := 0) hI ⟨of_decide_eq_true rfl, of_decide_eq_true rfl⟩
      have hI_12 := iw_41_0 (v := 1) hI_11 ⟨of_decide_eq_true rfl, of_decide_eq_true rfl⟩
      have hI_13 := iw_42 (j := 0) (v := y_10) hI_12 ⟨hy_10.1, hy_10.2⟩
      exact K (up (up (up c 41 0 0) 41 0 1) 42 0 y_10) 0 hI_13 (fun a j hm => (up_b (Decidable.or_iff_not_imp_left.mpr (fun h1 h2 => hm (Or.inr (Decidable.not_not.mp h1))))).trans ((up_b (Decidable.or_iff_not_imp_left.mpr (fun h1 h2 => hm (Or.inl ⟨Decidable.not_not.mp h1, h2⟩)))).trans (up_b (Decidable.or_iff_not_imp_left.mpr (fun h1 h2 => hm (Or.inl ⟨Decidable.not_not.mp h1, h2⟩)))))) ⟨of_decide_eq_true rfl, of_decide_eq_true rfl⟩
    · refine v_ic_gt_f (t := 14) c_146_7 rfl ⟨ha1.1, (Int.not_lt.mp h_8), (rgm_h h_1.2 (of_decide_eq_true rfl))⟩ (q_iconst c_146_10 (q_goto (t := 15) c_146_11 rfl (v_zret c_146_15 rfl (of_decide_eq_true rfl) (bk_inl (q_iconst c_212_9 (q_iconst c_212_10 (v_cv c_212_11 km_8_203 rfl rfl (Nat.le_of_ble_eq_true rfl) ⟨⟨rfl, rfl⟩, Nat.le_of_ble_eq_true rfl, rfl⟩ (Nat.le_of_ble_eq_true rfl) (Nat.le_of_ble_eq_true rfl) ?_)))))))
      refine q_iload_n c_145_0 rfl (v_if_ne_t (t := 26) c_145_1 rfl (of_decide_eq_true rfl) (q_aload_n c_145_26 rfl (v_gi (z := 0) (v := 0) c_145_27 kf_8_3 rfl (Nat.le_of_ble_eq_true rfl) rfl rfl (up_e rfl) (v_if_ne_f (t := 37) c_145_30 rfl (of_decide_eq_true rfl) (q_iconst c_145_33 (q_goto (t := 38) c_145_34 rfl (v_zret c_145_38 rfl (of_decide_eq_true rfl) ?_)))))))
      refine bk_inl (v_zret c_212_14 rfl (of_decide_eq_true rfl) (bk_inl (v_if_eq_f (t := 32) c_214_14 rfl (of_decide_eq_true rfl) (q_aload_n c_214_17 rfl (q_iload_n c_214_18 rfl (q_iconst c_214_19 (q_iconst c_214_20 ?_)))))))
      refine q_call c_214_21 rfl rfl rfl (q_iload_n c_146_0 rfl (q_iload_n c_146_1 rfl ?_))
      by_cases h_14 : a2 < 0
      · refine v_ic_lt_t (t := 14) c_146_2 rfl ⟨ha2.1, h_14, of_decide_eq_true rfl⟩ (q_iconst c_146_14 (v_zret c_146_15 rfl (of_decide_eq_true rfl) (bk_inl (q_iconst c_214_24 (q_iconst c_214_25 (v_cv c_214_26 km_8_203 rfl rfl (Nat.le_of_ble_eq_true rfl) ⟨⟨rfl, rfl⟩, Nat.le_of_ble_eq_true rfl, rfl⟩ (Nat.le_of_ble_eq_true rfl) (Nat.le_of_ble_eq_true rfl) (q_iload_n c_145_0 rfl ?_)))))))
        refine v_if_ne_f (t := 26) c_145_1 rfl (of_decide_eq_true rfl) (q_aload_n c_145_4 rfl (v_gi (z := 0) (v := 0) c_145_5 kf_8_3 rfl (Nat.le_of_ble_eq_true rfl) rfl rfl (up_e rfl) (v_if_ne_f (t := 26) c_145_8 rfl (of_decide_eq_true rfl) (q_aload_n c_145_11 rfl (q_iload_n c_145_12 rfl (v_pi (z := 0) c_145_13 kf_8_3 rfl (Nat.le_of_ble_eq_true rfl) rfl rfl rfl (of_decide_eq_true rfl) (q_aload_n c_145_16 rfl ?_)))))))
        refine v_gr (t := 42) c_145_17 kf_8_7 rfl (Nat.le_of_ble_eq_true rfl) rfl (q_iload_n c_145_20 rfl (q_dup2 c_145_21 ⟨rfl, rfl⟩ ?_))
        have h_15 := ir_42 hI 1
        refine v_ia (v := c 42 1) c_145_22 rfl (of_decide_eq_true rfl) (of_decide_eq_true rfl) (of_decide_eq_true rfl) ((up_c (nn rfl)).trans (up_c (nn rfl))) (q_iconst c_145_23 (v_iadd (v := c 42 1 + 1) c_145_24 rfl (v_nrm (fun y_16 hy_16 => (v_is c_145_25 rfl (of_decide_eq_true rfl) (of_decide_eq_true rfl) (of_decide_eq_true rfl) (q_aload_n c_145_26 rfl (v_gi (z := 0) (v := 2) c_145_27 kf_8_3 rfl (Nat.le_of_ble_eq_true rfl) rfl rfl ((up_c (nn rfl)).trans (up_e rfl)) (v_if_ne_t (t := 37) c_145_30 rfl (of_decide_eq_true rfl) ?_))))))))
        refine q_iconst c_145_37 (v_zret c_145_38 rfl (of_decide_eq_true rfl) (bk_inl (v_if_ne_f (t := 34) c_214_29 rfl (of_decide_eq_true rfl) (q_iconst c_214_32 (q_iret c_214_33 rfl ?_)))))
        have hI_17 := iw_41_0 (v := 0) hI ⟨of_decide_eq_true rfl, of_decide_eq_true rfl⟩
        have hI_18 := iw_41_0 (v := 2) hI_17 ⟨of_decide_eq_true rfl, of_decide_eq_true rfl⟩
        have hI_19 := iw_42 (j := 1) (v := y_16) hI_18 ⟨hy_16.1, hy_16.2⟩
        exact K (up (up (up c 41 0 0) 41 0 2) 42 1 y_16) 0 hI_19 (fun a j hm => (up_b (Decidable.or_iff_not_imp_left.mpr (fun h1 h2 => hm (Or.inr (Decidable.not_not.mp h1))))).trans ((up_b (Decidable.or_iff_not_imp_left.mpr (fun h1 h2 => hm (Or.inl ⟨Decidable.not_not.mp h1, h2⟩)))).trans (up_b (Decidable.or_iff_not_imp_left.mpr (fun h1 h2 => hm (Or.inl ⟨Decidable.not_not.mp h1, h2⟩)))))) ⟨of_decide_eq_true rfl, of_decide_eq_true rfl⟩
      · refine v_ic_lt_f (t := 14) c_146_2 rfl ⟨of_decide_eq_true rfl, (Int.not_lt.mp h_14), ha2.2⟩ (q_iload_n c_146_5 rfl (q_iload_n c_146_6 rfl ?_))
        by_cases h_20 : a2 > 2
        · refine v_ic_gt_t (t := 14) c_146_7 rfl ⟨of_decide_eq_true rfl, h_20, ha2.2⟩ (q_iconst c_146_14 (v_zret c_146_15 rfl (of_decide_eq_true rfl) (bk_inl (q_iconst c_214_24 (q_iconst c_214_25 (v_cv c_214_26 km_8_203 rfl rfl (Nat.le_of_ble_eq_true rfl) ⟨⟨rfl, rfl⟩, Nat.le_of_ble_eq_true rfl, rfl⟩ (Nat.le_of_ble_eq_true rfl) (Nat.le_of_ble_eq_true rfl) (q_iload_n c_145_0 rfl ?_)))))))
          refine v_if_ne_f (t := 26) c_145_1 rfl (of_decide_eq_true rfl) (q_aload_n c_145_4 rfl (v_gi (z := 0) (v := 0) c_145_5 kf_8_3 rfl (Nat.le_of_ble_eq_true rfl) rfl rfl (up_e rfl) (v_if_ne_f (t := 26) c_145_8 rfl (of_decide_eq_true rfl) (q_aload_n c_145_11 rfl (q_iload_n c_145_12 rfl (v_pi (z := 0) c_145_13 kf_8_3 rfl (Nat.le_of_ble_eq_true rfl) rfl rfl rfl (of_decide_eq_true rfl) (q_aload_n c_145_16 rfl ?_)))))))
          refine v_gr (t := 42) c_145_17 kf_8_7 rfl (Nat.le_of_ble_eq_true rfl) rfl (q_iload_n c_145_20 rfl (q_dup2 c_145_21 ⟨rfl, rfl⟩ ?_))
          have h_21 := ir_42 hI 1
          refine v_ia (v := c 42 1) c_145_22 rfl (of_decide_eq_true rfl) (of_decide_eq_true rfl) (of_decide_eq_true rfl) ((up_c (nn rfl)).trans (up_c (nn rfl))) (q_iconst c_145_23 (v_iadd (v := c 42 1 + 1) c_145_24 rfl (v_nrm (fun y_22 hy_22 => (v_is c_145_25 rfl (of_decide_eq_true rfl) (of_decide_eq_true rfl) (of_decide_eq_true rfl) (q_aload_n c_145_26 rfl (v_gi (z := 0) (v := 2) c_145_27 kf_8_3 rfl (Nat.le_of_ble_eq_true rfl) rfl rfl ((up_c (nn rfl)).trans (up_e rfl)) (v_if_ne_t (t := 37) c_145_30 rfl (of_decide_eq_true rfl) ?_))))))))
          refine q_iconst c_145_37 (v_zret c_145_38 rfl (of_decide_eq_true rfl) (bk_inl (v_if_ne_f (t := 34) c_214_29 rfl (of_decide_eq_true rfl) (q_iconst c_214_32 (q_iret c_214_33 rfl ?_)))))
          have hI_23 := iw_41_0 (v := 0) hI ⟨of_decide_eq_true rfl, of_decide_eq_true rfl⟩
          have hI_24 := iw_41_0 (v := 2) hI_23 ⟨of_decide_eq_true rfl, of_decide_eq_true rfl⟩
          have hI_25 := iw_42 (j := 1) (v := y_22) hI_24 ⟨hy_22.1, hy_22.2⟩
          exact K (up (up (up c 41 0 0) 41 0 2) 42 1 y_22) 0 hI_25 (fun a j hm => (up_b (Decidable.or_iff_not_imp_left.mpr (fun h1 h2 => hm (Or.inr (Decidable.not_not.mp h1))))).trans ((up_b (Decidable.or_iff_not_imp_left.mpr (fun h1 h2 => hm (Or.inl ⟨Decidable.not_not.mp h1, h2⟩)))).trans (up_b (Decidable.or_iff_not_imp_left.mpr (fun h1 h2 => hm (Or.inl ⟨Decidable.not_not.mp h1, h2⟩)))))) ⟨of_decide_eq_true rfl, of_decide_eq_true rfl⟩
        · refine v_ic_gt_f (t := 14) c_146_7 rfl ⟨ha2.1, (Int.not_lt.mp h_20), of_decide_eq_true rfl⟩ (q_iconst c_146_10 (q_goto (t := 15) c_146_11 rfl (v_zret c_146_15 rfl (of_decide_eq_true rfl) (bk_inl (q_iconst c_214_24 (q_iconst c_214_25 (v_cv c_214_26 km_8_203 rfl rfl (Nat.le_of_ble_eq_true rfl) ⟨⟨rfl, rfl⟩, Nat.le_of_ble_eq_true rfl, rfl⟩ (Nat.le_of_ble_eq_true rfl) (Nat.le_of_ble_eq_true rfl) ?_)))))))
          refine q_iload_n c_145_0 rfl (v_if_ne_t (t := 26) c_145_1 rfl (of_decide_eq_true rfl) (q_aload_n c_145_26 rfl (v_gi (z := 0) (v := 0) c_145_27 kf_8_3 rfl (Nat.le_of_ble_eq_true rfl) rfl rfl (up_e rfl) (v_if_ne_f (t := 37) c_145_30 rfl (of_decide_eq_true rfl) (q_iconst c_145_33 (q_goto (t := 38) c_145_34 rfl (v_zret c_145_38 rfl (of_decide_eq_true rfl) ?_)))))))
          refine bk_inl (v_if_ne_t (t := 34) c_214_29 rfl (of_decide_eq_true rfl) (q_aload_n c_214_34 rfl (v_gr (t := 48) c_214_35 kf_8_35 rfl (Nat.le_of_ble_eq_true rfl) rfl (q_iconst c_214_38 (q_iload_n c_214_39 rfl (v_imul (v := 3 * a1) c_214_40 rfl (q_iload_n c_214_41 rfl ?_)))))))
          refine v_iadd (v := 3 * a1 + a2) c_214_42 rfl ?_
          have h_26 := ir_48 hI (3 * a1 + a2)
          refine v_ia (v := c 48 (3 * a1 + a2)) c_214_43 rfl (of_decide_eq_true rfl) (of_decide_eq_true rfl) ⟨(q_8256bb04b h_14 h_2), (q_c1df8a943 h_1 h_20 h_8)⟩ (up_c (nn rfl)) (q_iret c_214_44 rfl ?_)
          have hI_27 := iw_41_0 (v := 0) hI ⟨of_decide_eq_true rfl, of_decide_eq_true rfl⟩
          exact K (up c 41 0 0) (c 48 (3 * a1 + a2)) hI_27 (fun a j hm => up_b (Decidable.or_iff_not_imp_left.mpr (fun h1 h2 => hm (Or.inl ⟨Decidable.not_not.mp h1, h2⟩)))) ⟨(lel h_26.1 rfl), (ler h_26.2 rfl)⟩

set_option maxRecDepth 100000 in
set_option maxHeartbeats 4000000 in
theorem s_215 {sc : List Int32} {e : Int} {d u P Q : Nat} {c : ME} {a1 : Int} {a2 : Int} {Z : AR → Prop} (hI : Iv u e P Q c) (ha1 : (-2147483648) ≤ a1 ∧ a1 ≤ 2147483647) (ha2 : (-2147483648) ≤ a2 ∧ a2 ≤ 2147483647) (K : ∀ (c2 : ME) (y : Int), Iv u e P Q c2 → (∀ (a : Nat) (j : Int), ¬ ((a = 41 ∧ j = 0) ∨ a = 42) → c2 a j = c a j) → (-2147483648) ≤ y ∧ y ≤ 2147483647 → Z (.inl (some (vi y)), Wd P Q P P c2, 0, 0)) : Wp sc (d + 9) 215 0 [(0, .ref 41), (1, vi a1), (2, vi a2)] [] (Wd P Q P P c) 0 0 Z := by
  have hP := iv_P hI
  have hQ := iv_Q hI
  refine q_aload_n c_215_0 rfl (q_iconst c_215_1 (v_pi (z := 0) c_215_2 kf_8_3 rfl (Nat.le_of_ble_eq_true rfl) rfl rfl rfl (of_decide_eq_true rfl) (q_aload_n c_215_5 rfl (q_iload_n c_215_6 rfl (q_aload_n c_215_7 rfl ?_)))))
  have h_1 := ir_41_22 hI
  refine v_gi (z := 22) (v := c 41 22) c_215_8 kf_8_163 rfl (Nat.le_of_ble_eq_true rfl) rfl rfl (up_n (ni rfl)) (v_cv c_215_11 km_8_396 rfl rfl (Nat.le_of_ble_eq_true rfl) ⟨⟨rfl, rfl⟩, Nat.le_of_ble_eq_true rfl, rfl⟩ (Nat.le_of_ble_eq_true rfl) (Nat.le_of_ble_eq_true rfl) (q_aload_n c_212_0 rfl (q_iload_n c_212_1 rfl (q_iconst c_212_2 (q_iload_n c_212_3 rfl (q_iconst c_212_4 (v_isub (v := c 41 22 - 1) c_212_5 rfl ?_)))))))
  refine q_call c_212_6 rfl rfl rfl (q_iload_n c_146_0 rfl (q_iload_n c_146_1 rfl ?_))
  by_cases h_2 : a1 < 0
  · refine v_ic_lt_t (t := 14) c_146_2 rfl ⟨ha1.1, h_2, of_decide_eq_true rfl⟩ (q_iconst c_146_14 (v_zret c_146_15 rfl (of_decide_eq_true rfl) (bk_inl (q_iconst c_212_9 (q_iconst c_212_10 (v_cv c_212_11 km_8_203 rfl rfl (Nat.le_of_ble_eq_true rfl) ⟨⟨rfl, rfl⟩, Nat.le_of_ble_eq_true rfl, rfl⟩ (Nat.le_of_ble_eq_true rfl) (Nat.le_of_ble_eq_true rfl) (q_iload_n c_145_0 rfl ?_)))))))
    refine v_if_ne_f (t := 26) c_145_1 rfl (of_decide_eq_true rfl) (q_aload_n c_145_4 rfl (v_gi (z := 0) (v := 0) c_145_5 kf_8_3 rfl (Nat.le_of_ble_eq_true rfl) rfl rfl (up_e rfl) (v_if_ne_f (t := 26) c_145_8 rfl (of_decide_eq_true rfl) (q_aload_n c_145_11 rfl (q_iload_n c_145_12 rfl (v_pi (z := 0) c_145_13 kf_8_3 rfl (Nat.le_of_ble_eq_true rfl) rfl rfl rfl (of_decide_eq_true rfl) (q_aload_n c_145_16 rfl ?_)))))))
    refine v_gr (t := 42) c_145_17 kf_8_7 rfl (Nat.le_of_ble_eq_true rfl) rfl (q_iload_n c_145_20 rfl (q_dup2 c_145_21 ⟨rfl, rfl⟩ ?_))
    have h_3 := ir_42 hI 0
    refine v_ia (v := c 42 0) c_145_22 rfl (of_decide_eq_true rfl) (of_decide_eq_true rfl) (of_decide_eq_true rfl) ((up_c (nn rfl)).trans (up_c (nn rfl))) (q_iconst c_145_23 (v_iadd (v := c 42 0 + 1) c_145_24 rfl (v_nrm (fun y_4 hy_4 => (v_is c_145_25 rfl (of_decide_eq_true rfl) (of_decide_eq_true rfl) (of_decide_eq_true rfl) (q_aload_n c_145_26 rfl (v_gi (z := 0) (v := 1) c_145_27 kf_8_3 rfl (Nat.le_of_ble_eq_true rfl) rfl rfl ((up_c (nn rfl)).trans (up_e rfl)) (v_if_ne_t (t := 37) c_145_30 rfl (of_decide_eq_true rfl) ?_))))))))
    refine q_iconst c_145_37 (v_zret c_145_38 rfl (of_decide_eq_true rfl) (bk_inl (v_zret c_212_14 rfl (of_decide_eq_true rfl) (bk_inl (v_if_eq_t (t := 32) c_215_14 rfl (of_decide_eq_true rfl) (q_iconst c_215_32 (q_iret c_215_33 rfl ?_)))))))
    have hI_5 := iw_41_0 (v := 0) hI ⟨of_decide_eq_true rfl, of_decide_eq_true rfl⟩
    have hI_6 := iw_41_0 (v := 1) hI_5 ⟨of_decide_eq_true rfl, of_decide_eq_true rfl⟩
    have hI_7 := iw_42 (j := 0) (v := y_4) hI_6 ⟨hy_4.1, hy_4.2⟩
    exact K (up (up (up c 41 0 0) 41 0 1) 42 0 y_4) 0 hI_7 (fun a j hm => (up_b (Decidable.or_iff_not_imp_left.mpr (fun h1 h2 => hm (Or.inr (Decidable.not_not.mp h1))))).trans ((up_b (Decidable.or_iff_not_imp_left.mpr (fun h1 h2 => hm (Or.inl ⟨Decidable.not_not.mp h1, h2⟩)))).trans (up_b (Decidable.or_iff_not_imp_left.mpr (fun h1 h2 => hm (Or.inl ⟨Decidable.not_not.mp h1, h2⟩)))))) ⟨of_decide_eq_true rfl, of_decide_eq_true rfl⟩
  · refine v_ic_lt_f (t := 14) c_146_2 rfl ⟨of_decide_eq_true rfl, (Int.not_lt.mp h_2), ha1.2⟩ (q_iload_n c_146_5 rfl (q_iload_n c_146_6 rfl ?_))
    by_cases h_8 : a1 > c 41 22 - 1
    · refine v_ic_gt_t (t := 14) c_146_7 rfl ⟨(rgm_l h_1.1 (of_decide_eq_true rfl)), h_8, ha1.2⟩ (q_iconst c_146_14 (v_zret c_146_15 rfl (of_decide_eq_true rfl) (bk_inl (q_iconst c_212_9 (q_iconst c_212_10 (v_cv c_212_11 km_8_203 rfl rfl (Nat.le_of_ble_eq_true rfl) ⟨⟨rfl, rfl⟩, Nat.le_of_ble_eq_true rfl, rfl⟩ (Nat.le_of_ble_eq_true rfl) (Nat.le_of_ble_eq_true rfl) (q_iload_n c_145_0 rfl ?_)))))))
      refine v_if_ne_f (t := 26) c_145_1 rfl (of_decide_eq_true rfl) (q_aload_n c_145_4 rfl (v_gi (z := 0) (v := 0) c_145_5 kf_8_3 rfl (Nat.le_of_ble_eq_true rfl) rfl rfl (up_e rfl) (v_if_ne_f (t := 26) c_145_8 rfl (of_decide_eq_true rfl) (q_aload_n c_145_11 rfl (q_iload_n c_145_12 rfl (v_pi (z := 0) c_145_13 kf_8_3 rfl (Nat.le_of_ble_eq_true rfl) rfl rfl rfl (of_decide_eq_true rfl) (q_aload_n c_145_16 rfl ?_)))))))
      refine v_gr (t := 42) c_145_17 kf_8_7 rfl (Nat.le_of_ble_eq_true rfl) rfl (q_iload_n c_145_20 rfl (q_dup2 c_145_21 ⟨rfl, rfl⟩ ?_))
      have h_9 := ir_42 hI 0
      refine v_ia (v := c 42 0) c_145_22 rfl (of_decide_eq_true rfl) (of_decide_eq_true rfl) (of_decide_eq_true rfl) ((up_c (nn rfl)).trans (up_c (nn rfl))) (q_iconst c_145_23 (v_iadd (v := c 42 0 + 1) c_145_24 rfl (v_nrm (fun y_10 hy_10 => (v_is c_145_25 rfl (of_decide_eq_true rfl) (of_decide_eq_true rfl) (of_decide_eq_true rfl) (q_aload_n c_145_26 rfl (v_gi (z := 0) (v := 1) c_145_27 kf_8_3 rfl (Nat.le_of_ble_eq_true rfl) rfl rfl ((up_c (nn rfl)).trans (up_e rfl)) (v_if_ne_t (t := 37) c_145_30 rfl (of_decide_eq_true rfl) ?_))))))))
      refine q_iconst c_145_37 (v_zret c_145_38 rfl (of_decide_eq_true rfl) (bk_inl (v_zret c_212_14 rfl (of_decide_eq_true rfl) (bk_inl (v_if_eq_t (t := 32) c_215_14 rfl (of_decide_eq_true rfl) (q_iconst c_215_32 (q_iret c_215_33 rfl ?_)))))))
      have hI_11 := iw_41_0 (v := 0) hI ⟨of_decide_eq_true rfl, of_decide_eq_true rfl⟩
      have hI_12 := iw_41_0 (v := 1) hI_11 ⟨of_decide_eq_true rfl, of_decide_eq_true rfl⟩
      have hI_13 := iw_42 (j := 0) (v := y_10) hI_12 ⟨hy_10.1, hy_10.2⟩
      exact K (up (up (up c 41 0 0) 41 0 1) 42 0 y_10) 0 hI_13 (fun a j hm => (up_b (Decidable.or_iff_not_imp_left.mpr (fun h1 h2 => hm (Or.inr (Decidable.not_not.mp h1))))).trans ((up_b (Decidable.or_iff_not_imp_left.mpr (fun h1 h2 => hm (Or.inl ⟨Decidable.not_not.mp h1, h2⟩)))).trans (up_b (Decidable.or_iff_not_imp_left.mpr (fun h1 h2 => hm (Or.inl ⟨Decidable.not_not.mp h1, h2⟩)))))) ⟨of_decide_eq_true rfl, of_decide_eq_true rfl⟩
    · refine v_ic_gt_f (t := 14) c_146_7 rfl ⟨ha1.1, (Int.not_lt.mp h_8), (rgm_h h_1.2 (of_decide_eq_true rfl))⟩ (q_iconst c_146_10 (q_goto (t := 15) c_146_11 rfl (v_zret c_146_15 rfl (of_decide_eq_true rfl) (bk_inl (q_iconst c_212_9 (q_iconst c_212_10 (v_cv c_212_11 km_8_203 rfl rfl (Nat.le_of_ble_eq_true rfl) ⟨⟨rfl, rfl⟩, Nat.le_of_ble_eq_true rfl, rfl⟩ (Nat.le_of_ble_eq_true rfl) (Nat.le_of_ble_eq_true rfl) ?_)))))))
      refine q_iload_n c_145_0 rfl (v_if_ne_t (t := 26) c_145_1 rfl (of_decide_eq_true rfl) (q_aload_n c_145_26 rfl (v_gi (z := 0) (v := 0) c_145_27 kf_8_3 rfl (Nat.le_of_ble_eq_true rfl) rfl rfl (up_e rfl) (v_if_ne_f (t := 37) c_145_30 rfl (of_decide_eq_true rfl) (q_iconst c_145_33 (q_goto (t := 38) c_145_34 rfl (v_zret c_145_38 rfl (of_decide_eq_true rfl) ?_)))))))
      refine bk_inl (v_zret c_212_14 rfl (of_decide_eq_true rfl) (bk_inl (v_if_eq_f (t := 32) c_215_14 rfl (of_decide_eq_true rfl) (q_aload_n c_215_17 rfl (q_iload_n c_215_18 rfl (q_iconst c_215_19 (q_iconst c_215_20 ?_)))))))
      refine q_call c_215_21 rfl rfl rfl (q_iload_n c_146_0 rfl (q_iload_n c_146_1 rfl ?_))
      by_cases h_14 : a2 < 0
      · refine v_ic_lt_t (t := 14) c_146_2 rfl ⟨ha2.1, h_14, of_decide_eq_true rfl⟩ (q_iconst c_146_14 (v_zret c_146_15 rfl (of_decide_eq_true rfl) (bk_inl (q_iconst c_215_24 (q_iconst c_215_25 (v_cv c_215_26 km_8_203 rfl rfl (Nat.le_of_ble_eq_true rfl) ⟨⟨rfl, rfl⟩, Nat.le_of_ble_eq_true rfl, rfl⟩ (Nat.le_of_ble_eq_true rfl) (Nat.le_of_ble_eq_true rfl) (q_iload_n c_145_0 rfl ?_)))))))
        refine v_if_ne_f (t := 26) c_145_1 rfl (of_decide_eq_true rfl) (q_aload_n c_145_4 rfl (v_gi (z := 0) (v := 0) c_145_5 kf_8_3 rfl (Nat.le_of_ble_eq_true rfl) rfl rfl (up_e rfl) (v_if_ne_f (t := 26) c_145_8 rfl (of_decide_eq_true rfl) (q_aload_n c_145_11 rfl (q_iload_n c_145_12 rfl (v_pi (z := 0) c_145_13 kf_8_3 rfl (Nat.le_of_ble_eq_true rfl) rfl rfl rfl (of_decide_eq_true rfl) (q_aload_n c_145_16 rfl ?_)))))))
        refine v_gr (t := 42) c_145_17 kf_8_7 rfl (Nat.le_of_ble_eq_true rfl) rfl (q_iload_n c_145_20 rfl (q_dup2 c_145_21 ⟨rfl, rfl⟩ ?_))
        have h_15 := ir_42 hI 1
        refine v_ia (v := c 42 1) c_145_22 rfl (of_decide_eq_true rfl) (of_decide_eq_true rfl) (of_decide_eq_true rfl) ((up_c (nn rfl)).trans (up_c (nn rfl))) (q_iconst c_145_23 (v_iadd (v := c 42 1 + 1) c_145_24 rfl (v_nrm (fun y_16 hy_16 => (v_is c_145_25 rfl (of_decide_eq_true rfl) (of_decide_eq_true rfl) (of_decide_eq_true rfl) (q_aload_n c_145_26 rfl (v_gi (z := 0) (v := 2) c_145_27 kf_8_3 rfl (Nat.le_of_ble_eq_true rfl) rfl rfl ((up_c (nn rfl)).trans (up_e rfl)) (v_if_ne_t (t := 37) c_145_30 rfl (of_decide_eq_true rfl) ?_))))))))
        refine q_iconst c_145_37 (v_zret c_145_38 rfl (of_decide_eq_true rfl) (bk_inl (v_if_ne_f (t := 34) c_215_29 rfl (of_decide_eq_true rfl) (q_iconst c_215_32 (q_iret c_215_33 rfl ?_)))))
        have hI_17 := iw_41_0 (v := 0) hI ⟨of_decide_eq_true rfl, of_decide_eq_true rfl⟩
        have hI_18 := iw_41_0 (v := 2) hI_17 ⟨of_decide_eq_true rfl, of_decide_eq_true rfl⟩
        have hI_19 := iw_42 (j := 1) (v := y_16) hI_18 ⟨hy_16.1, hy_16.2⟩
        exact K (up (up (up c 41 0 0) 41 0 2) 42 1 y_16) 0 hI_19 (fun a j hm => (up_b (Decidable.or_iff_not_imp_left.mpr (fun h1 h2 => hm (Or.inr (Decidable.not_not.mp h1))))).trans ((up_b (Decidable.or_iff_not_imp_left.mpr (fun h1 h2 => hm (Or.inl ⟨Decidable.not_not.mp h1, h2⟩)))).trans (up_b (Decidable.or_iff_not_imp_left.mpr (fun h1 h2 => hm (Or.inl ⟨Decidable.not_not.mp h1, h2⟩)))))) ⟨of_decide_eq_true rfl, of_decide_eq_true rfl⟩
      · refine v_ic_lt_f (t := 14) c_146_2 rfl ⟨of_decide_eq_true rfl, (Int.not_lt.mp h_14), ha2.2⟩ (q_iload_n c_146_5 rfl (q_iload_n c_146_6 rfl ?_))
        by_cases h_20 : a2 > 1
        · refine v_ic_gt_t (t := 14) c_146_7 rfl ⟨of_decide_eq_true rfl, h_20, ha2.2⟩ (q_iconst c_146_14 (v_zret c_146_15 rfl (of_decide_eq_true rfl) (bk_inl (q_iconst c_215_24 (q_iconst c_215_25 (v_cv c_215_26 km_8_203 rfl rfl (Nat.le_of_ble_eq_true rfl) ⟨⟨rfl, rfl⟩, Nat.le_of_ble_eq_true rfl, rfl⟩ (Nat.le_of_ble_eq_true rfl) (Nat.le_of_ble_eq_true rfl) (q_iload_n c_145_0 rfl ?_)))))))
          refine v_if_ne_f (t := 26) c_145_1 rfl (of_decide_eq_true rfl) (q_aload_n c_145_4 rfl (v_gi (z := 0) (v := 0) c_145_5 kf_8_3 rfl (Nat.le_of_ble_eq_true rfl) rfl rfl (up_e rfl) (v_if_ne_f (t := 26) c_145_8 rfl (of_decide_eq_true rfl) (q_aload_n c_145_11 rfl (q_iload_n c_145_12 rfl (v_pi (z := 0) c_145_13 kf_8_3 rfl (Nat.le_of_ble_eq_true rfl) rfl rfl rfl (of_decide_eq_true rfl) (q_aload_n c_145_16 rfl ?_)))))))
          refine v_gr (t := 42) c_145_17 kf_8_7 rfl (Nat.le_of_ble_eq_true rfl) rfl (q_iload_n c_145_20 rfl (q_dup2 c_145_21 ⟨rfl, rfl⟩ ?_))
          have h_21 := ir_42 hI 1
          refine v_ia (v := c 42 1) c_145_22 rfl (of_decide_eq_true rfl) (of_decide_eq_true rfl) (of_decide_eq_true rfl) ((up_c (nn rfl)).trans (up_c (nn rfl))) (q_iconst c_145_23 (v_iadd (v := c 42 1 + 1) c_145_24 rfl (v_nrm (fun y_22 hy_22 => (v_is c_145_25 rfl (of_decide_eq_true rfl) (of_decide_eq_true rfl) (of_decide_eq_true rfl) (q_aload_n c_145_26 rfl (v_gi (z := 0) (v := 2) c_145_27 kf_8_3 rfl (Nat.le_of_ble_eq_true rfl) rfl rfl ((up_c (nn rfl)).trans (up_e rfl)) (v_if_ne_t (t := 37) c_145_30 rfl (of_decide_eq_true rfl) ?_))))))))
          refine q_iconst c_145_37 (v_zret c_145_38 rfl (of_decide_eq_true rfl) (bk_inl (v_if_ne_f (t := 34) c_215_29 rfl (of_decide_eq_true rfl) (q_iconst c_215_32 (q_iret c_215_33 rfl ?_)))))
          have hI_23 := iw_41_0 (v := 0) hI ⟨of_decide_eq_true rfl, of_decide_eq_true rfl⟩
          have hI_24 := iw_41_0 (v := 2) hI_23 ⟨of_decide_eq_true rfl, of_decide_eq_true rfl⟩
          have hI_25 := iw_42 (j := 1) (v := y_22) hI_24 ⟨hy_22.1, hy_22.2⟩
          exact K (up (up (up c 41 0 0) 41 0 2) 42 1 y_22) 0 hI_25 (fun a j hm => (up_b (Decidable.or_iff_not_imp_left.mpr (fun h1 h2 => hm (Or.inr (Decidable.not_not.mp h1))))).trans ((up_b (Decidable.or_iff_not_imp_left.mpr (fun h1 h2 => hm (Or.inl ⟨Decidable.not_not.mp h1, h2⟩)))).trans (up_b (Decidable.or_iff_not_imp_left.mpr (fun h1 h2 => hm (Or.inl ⟨Decidable.not_not.mp h1, h2⟩)))))) ⟨of_decide_eq_true rfl, of_decide_eq_true rfl⟩
        · refine v_ic_gt_f (t := 14) c_146_7 rfl ⟨ha2.1, (Int.not_lt.mp h_20), of_decide_eq_true rfl⟩ (q_iconst c_146_10 (q_goto (t := 15) c_146_11 rfl (v_zret c_146_15 rfl (of_decide_eq_true rfl) (bk_inl (q_iconst c_215_24 (q_iconst c_215_25 (v_cv c_215_26 km_8_203 rfl rfl (Nat.le_of_ble_eq_true rfl) ⟨⟨rfl, rfl⟩, Nat.le_of_ble_eq_true rfl, rfl⟩ (Nat.le_of_ble_eq_true rfl) (Nat.le_of_ble_eq_true rfl) ?_)))))))
          refine q_iload_n c_145_0 rfl (v_if_ne_t (t := 26) c_145_1 rfl (of_decide_eq_true rfl) (q_aload_n c_145_26 rfl (v_gi (z := 0) (v := 0) c_145_27 kf_8_3 rfl (Nat.le_of_ble_eq_true rfl) rfl rfl (up_e rfl) (v_if_ne_f (t := 37) c_145_30 rfl (of_decide_eq_true rfl) (q_iconst c_145_33 (q_goto (t := 38) c_145_34 rfl (v_zret c_145_38 rfl (of_decide_eq_true rfl) ?_)))))))
          refine bk_inl (v_if_ne_t (t := 34) c_215_29 rfl (of_decide_eq_true rfl) (q_iload_n c_215_34 rfl ?_))
          by_cases h_26 : a2 ≠ 0
          · refine v_if_ne_t (t := 47) c_215_35 rfl ⟨h_26, ⟨ha2.1, ha2.2⟩, of_decide_eq_true rfl, of_decide_eq_true rfl⟩ (q_aload_n c_215_47 rfl (v_gr (t := 58) c_215_48 kf_8_65 rfl (Nat.le_of_ble_eq_true rfl) rfl (v_bip c_215_51 (of_decide_eq_true rfl) (q_iload_n c_215_53 rfl (v_iadd (v := a1 + 30) c_215_54 (by first | (clear ha1 ha2 h_1 h_2 h_8 h_14 h_20 h_26; omega) | omega) ?_)))))
            have h_27 := ir_58 hI (a1 + 30)
            refine v_ia (v := c 58 (a1 + 30)) c_215_55 rfl (of_decide_eq_true rfl) (of_decide_eq_true rfl) ⟨(q_18ebff911 h_2), (q_ebe6a6f81 h_1 h_8)⟩ (up_c (nn rfl)) (q_iret c_215_56 rfl ?_)
            have hI_28 := iw_41_0 (v := 0) hI ⟨of_decide_eq_true rfl, of_decide_eq_true rfl⟩
            exact K (up c 41 0 0) (c 58 (a1 + 30)) hI_28 (fun a j hm => up_b (Decidable.or_iff_not_imp_left.mpr (fun h1 h2 => hm (Or.inl ⟨Decidable.not_not.mp h1, h2⟩)))) h_27
          · refine v_if_ne_f (t := 47) c_215_35 rfl (Decidable.not_not.mp h_26) (q_aload_n c_215_38 rfl (v_gr (t := 49) c_215_39 kf_8_38 rfl (Nat.le_of_ble_eq_true rfl) rfl (q_iload_n c_215_42 rfl ?_)))
            have h_29 := ir_49 hI a1
            refine v_ia (v := c 49 a1) c_215_43 rfl (of_decide_eq_true rfl) (of_decide_eq_true rfl) ⟨(q_720657ba9 h_2), (q_0435250f0 h_1 h_8)⟩ (up_c (nn rfl)) (q_goto (t := 56) c_215_44 rfl (q_iret c_215_56 rfl ?_))
            have hI_30 := iw_41_0 (v := 0) hI ⟨of_decide_eq_true rfl, of_decide_eq_true rfl⟩
            exact K (up c 41 0 0) (c 49 a1) hI_30 (fun a j hm => up_b (Decidable.or_iff_not_imp_left.mpr (fun h1 h2 => hm (Or.inl ⟨Decidable.not_not.mp h1, h2⟩)))) ⟨(lel h_29.1 rfl), (ler h_29.2 rfl)⟩

set_option maxRecDepth 100000 in
set_option maxHeartbeats 4000000 in
theorem s_216 {sc : List Int32} {d P Q : Nat} {c : ME} {a1 : Int} {Z : AR → Prop} (hI : Iv 0 (-1) P Q c) (ha1 : (-2147483648) ≤ a1 ∧ a1 ≤ 2147483647) (K : ∀ (c2 : ME) (y : Int), Iv 0 (-1) P Q c2 → (∀ (a : Nat) (j : Int), ¬ ((a = 41 ∧ j = 0) ∨ a = 42 ∨ a = 59 ∨ a = 54 ∨ a = 55) → c2 a j = c a j) → (-2147483648) ≤ y ∧ y ≤ 2147483647 → Z (.inl (some (vi y)), Wd P Q P P c2, 0, 0)) : Wp sc (d + 12) 216 0 [(0, .ref 41), (1, vi a1)] [] (Wd P Q P P c) 0 0 Z := by
  have hP := iv_P hI
  have hQ := iv_Q hI
  refine q_aload_n c_216_0 rfl (q_iconst c_216_1 (v_pi (z := 0) c_216_2 kf_8_3 rfl (Nat.le_of_ble_eq_true rfl) rfl rfl rfl (of_decide_eq_true rfl) (q_aload_n c_216_5 rfl (q_iload_n c_216_6 rfl (q_aload_n c_216_7 rfl ?_)))))
  have h_1 := ir_41_20 hI
  refine v_gi (z := 20) (v := c 41 20) c_216_8 kf_8_157 rfl (Nat.le_of_ble_eq_true rfl) rfl rfl (up_n (ni rfl)) (v_cv c_216_11 km_8_396 rfl rfl (Nat.le_of_ble_eq_true rfl) ⟨⟨rfl, rfl⟩, Nat.le_of_ble_eq_true rfl, rfl⟩ (Nat.le_of_ble_eq_true rfl) (Nat.le_of_ble_eq_true rfl) (q_aload_n c_212_0 rfl (q_iload_n c_212_1 rfl (q_iconst c_212_2 (q_iload_n c_212_3 rfl (q_iconst c_212_4 (v_isub (v := c 41 20 - 1) c_212_5 rfl ?_)))))))
  refine q_call c_212_6 rfl rfl rfl (q_iload_n c_146_0 rfl (q_iload_n c_146_1 rfl ?_))
  by_cases h_2 : a1 < 0
  · refine v_ic_lt_t (t := 14) c_146_2 rfl ⟨ha1.1, h_2, of_decide_eq_true rfl⟩ (q_iconst c_146_14 (v_zret c_146_15 rfl (of_decide_eq_true rfl) (bk_inl (q_iconst c_212_9 (q_iconst c_212_10 (v_cv c_212_11 km_8_203 rfl rfl (Nat.le_of_ble_eq_true rfl) ⟨⟨rfl, rfl⟩, Nat.le_of_ble_eq_true rfl, rfl⟩ (Nat.le_of_ble_eq_true rfl) (Nat.le_of_ble_eq_true rfl) (q_iload_n c_145_0 rfl ?_)))))))
    refine v_if_ne_f (t := 26) c_145_1 rfl (of_decide_eq_true rfl) (q_aload_n c_145_4 rfl (v_gi (z := 0) (v := 0) c_145_5 kf_8_3 rfl (Nat.le_of_ble_eq_true rfl) rfl rfl (up_e rfl) (v_if_ne_f (t := 26) c_145_8 rfl (of_decide_eq_true rfl) (q_aload_n c_145_11 rfl (q_iload_n c_145_12 rfl (v_pi (z := 0) c_145_13 kf_8_3 rfl (Nat.le_of_ble_eq_true rfl) rfl rfl rfl (of_decide_eq_true rfl) (q_aload_n c_145_16 rfl ?_)))))))
    refine v_gr (t := 42) c_145_17 kf_8_7 rfl (Nat.le_of_ble_eq_true rfl) rfl (q_iload_n c_145_20 rfl (q_dup2 c_145_21 ⟨rfl, rfl⟩ ?_))
    have h_3 := ir_42 hI 0
    refine v_ia (v := c 42 0) c_145_22 rfl (of_decide_eq_true rfl) (of_decide_eq_true rfl) (of_decide_eq_true rfl) ((up_c (nn rfl)).trans (up_c (nn rfl))) (q_iconst c_145_23 (v_iadd (v := c 42 0 + 1) c_145_24 rfl (v_nrm (fun y_4 hy_4 => (v_is c_145_25 rfl (of_decide_eq_true rfl) (of_decide_eq_true rfl) (of_decide_eq_true rfl) (q_aload_n c_145_26 rfl (v_gi (z := 0) (v := 1) c_145_27 kf_8_3 rfl (Nat.le_of_ble_eq_true rfl) rfl rfl ((up_c (nn rfl)).trans (up_e rfl)) (v_if_ne_t (t := 37) c_145_30 rfl (of_decide_eq_true rfl) ?_))))))))
    refine q_iconst c_145_37 (v_zret c_145_38 rfl (of_decide_eq_true rfl) (bk_inl (v_zret c_212_14 rfl (of_decide_eq_true rfl) (bk_inl (v_if_ne_f (t := 19) c_216_14 rfl (of_decide_eq_true rfl) (q_iconst c_216_17 (q_iret c_216_18 rfl ?_)))))))
    have hI_5 := iw_41_0 (v := 0) hI ⟨of_decide_eq_true rfl, of_decide_eq_true rfl⟩
    have hI_6 := iw_41_0 (v := 1) hI_5 ⟨of_decide_eq_true rfl, of_decide_eq_true rfl⟩
    have hI_7 := iw_42 (j := 0) (v := y_4) hI_6 ⟨hy_4.1, hy_4.2⟩
    exact K (up (up (up c 41 0 0) 41 0 1) 42 0 y_4) 0 hI_7 (fun a j hm => (up_b (Decidable.or_iff_not_imp_left.mpr (fun h1 h2 => hm (Or.inr (Or.inl (Decidable.not_not.mp h1)))))).trans ((up_b (Decidable.or_iff_not_imp_left.mpr (fun h1 h2 => hm (Or.inl ⟨Decidable.not_not.mp h1, h2⟩)))).trans (up_b (Decidable.or_iff_not_imp_left.mpr (fun h1 h2 => hm (Or.inl ⟨Decidable.not_not.mp h1, h2⟩)))))) ⟨of_decide_eq_true rfl, of_decide_eq_true rfl⟩
  · refine v_ic_lt_f (t := 14) c_146_2 rfl ⟨of_decide_eq_true rfl, (Int.not_lt.mp h_2), ha1.2⟩ (q_iload_n c_146_5 rfl (q_iload_n c_146_6 rfl ?_))
    by_cases h_8 : a1 > c 41 20 - 1
    · refine v_ic_gt_t (t := 14) c_146_7 rfl ⟨(rgm_l h_1.1 (of_decide_eq_true rfl)), h_8, ha1.2⟩ (q_iconst c_146_14 (v_zret c_146_15 rfl (of_decide_eq_true rfl) (bk_inl (q_iconst c_212_9 (q_iconst c_212_10 (v_cv c_212_11 km_8_203 rfl rfl (Nat.le_of_ble_eq_true rfl) ⟨⟨rfl, rfl⟩, Nat.le_of_ble_eq_true rfl, rfl⟩ (Nat.le_of_ble_eq_true rfl) (Nat.le_of_ble_eq_true rfl) (q_iload_n c_145_0 rfl ?_)))))))
      refine v_if_ne_f (t := 26) c_145_1 rfl (of_decide_eq_true rfl) (q_aload_n c_145_4 rfl (v_gi (z := 0) (v := 0) c_145_5 kf_8_3 rfl (Nat.le_of_ble_eq_true rfl) rfl rfl (up_e rfl) (v_if_ne_f (t := 26) c_145_8 rfl (of_decide_eq_true rfl) (q_aload_n c_145_11 rfl (q_iload_n c_145_12 rfl (v_pi (z := 0) c_145_13 kf_8_3 rfl (Nat.le_of_ble_eq_true rfl) rfl rfl rfl (of_decide_eq_true rfl) (q_aload_n c_145_16 rfl ?_)))))))
      refine v_gr (t := 42) c_145_17 kf_8_7 rfl (Nat.le_of_ble_eq_true rfl) rfl (q_iload_n c_145_20 rfl (q_dup2 c_145_21 ⟨rfl, rfl⟩ ?_))
      have h_9 := ir_42 hI 0
      refine v_ia (v := c 42 0) c_145_22 rfl (of_decide_eq_true rfl) (of_decide_eq_true rfl) (of_decide_eq_true rfl) ((up_c (nn rfl)).trans (up_c (nn rfl))) (q_iconst c_145_23 (v_iadd (v := c 42 0 + 1) c_145_24 rfl (v_nrm (fun y_10 hy_10 => (v_is c_145_25 rfl (of_decide_eq_true rfl) (of_decide_eq_true rfl) (of_decide_eq_true rfl) (q_aload_n c_145_26 rfl (v_gi (z := 0) (v := 1) c_145_27 kf_8_3 rfl (Nat.le_of_ble_eq_true rfl) rfl rfl ((up_c (nn rfl)).trans (up_e rfl)) (v_if_ne_t (t := 37) c_145_30 rfl (of_decide_eq_true rfl) ?_))))))))
      refine q_iconst c_145_37 (v_zret c_145_38 rfl (of_decide_eq_true rfl) (bk_inl (v_zret c_212_14 rfl (of_decide_eq_true rfl) (bk_inl (v_if_ne_f (t := 19) c_216_14 rfl (of_decide_eq_true rfl) (q_iconst c_216_17 (q_iret c_216_18 rfl ?_)))))))
      have hI_11 := iw_41_0 (v := 0) hI ⟨of_decide_eq_true rfl, of_decide_eq_true rfl⟩
      have hI_12 := iw_41_0 (v := 1) hI_11 ⟨of_decide_eq_true rfl, of_decide_eq_true rfl⟩
      have hI_13 := iw_42 (j := 0) (v := y_10) hI_12 ⟨hy_10.1, hy_10.2⟩
      exact K (up (up (up c 41 0 0) 41 0 1) 42 0 y_10) 0 hI_13 (fun a j hm => (up_b (Decidable.or_iff_not_imp_left.mpr (fun h1 h2 => hm (Or.inr (Or.inl (Decidable.not_not.mp h1)))))).trans ((up_b (Decidable.or_iff_not_imp_left.mpr (fun h1 h2 => hm (Or.inl ⟨Decidable.not_not.mp h1, h2⟩)))).trans (up_b (Decidable.or_iff_not_imp_left.mpr (fun h1 h2 => hm (Or.inl ⟨Decidable.not_not.mp h1, h2⟩)))))) ⟨of_decide_eq_true rfl, of_decide_eq_true rfl⟩
    · refine v_ic_gt_f (t := 14) c_146_7 rfl ⟨ha1.1, (Int.not_lt.mp h_8), (rgm_h h_1.2 (of_decide_eq_true rfl))⟩ (q_iconst c_146_10 (q_goto (t := 15) c_146_11 rfl (v_zret c_146_15 rfl (of_decide_eq_true rfl) (bk_inl (q_iconst c_212_9 (q_iconst c_212_10 (v_cv c_212_11 km_8_203 rfl rfl (Nat.le_of_ble_eq_true rfl) ⟨⟨rfl, rfl⟩, Nat.le_of_ble_eq_true rfl, rfl⟩ (Nat.le_of_ble_eq_true rfl) (Nat.le_of_ble_eq_true rfl) ?_)))))))
      refine q_iload_n c_145_0 rfl (v_if_ne_t (t := 26) c_145_1 rfl (of_decide_eq_true rfl) (q_aload_n c_145_26 rfl (v_gi (z := 0) (v := 0) c_145_27 kf_8_3 rfl (Nat.le_of_ble_eq_true rfl) rfl rfl (up_e rfl) (v_if_ne_f (t := 37) c_145_30 rfl (of_decide_eq_true rfl) (q_iconst c_145_33 (q_goto (t := 38) c_145_34 rfl (v_zret c_145_38 rfl (of_decide_eq_true rfl) ?_)))))))
      refine bk_inl (v_zret c_212_14 rfl (of_decide_eq_true rfl) (bk_inl (v_if_ne_t (t := 19) c_216_14 rfl (of_decide_eq_true rfl) (q_aload_n c_216_19 rfl ?_))))
      have hI_14 := iw_41_0 (v := 0) hI ⟨of_decide_eq_true rfl, of_decide_eq_true rfl⟩
      refine v_cv c_216_20 km_8_317 rfl rfl (Nat.le_of_ble_eq_true rfl) ⟨⟨rfl, rfl⟩, Nat.le_of_ble_eq_true rfl, rfl⟩ (Nat.le_of_ble_eq_true rfl) (Nat.le_of_ble_eq_true rfl) (s_186 hI_14 (fun c_15 hI_16 hF_17 => (bk_inl (q_aload_n c_216_23 rfl (q_iload_n c_216_24 rfl (v_cv c_216_25 km_8_375 rfl rfl (Nat.le_of_ble_eq_true rfl) ⟨⟨rfl, rfl⟩, Nat.le_of_ble_eq_true rfl, rfl⟩ (Nat.le_of_ble_eq_true rfl) (Nat.le_of_ble_eq_true rfl) (s_196 (a1 := a1) hI_16 (show 0 ≤ a1 ∧ a1 ≤ 5 from ⟨(q_720657ba9 h_2), (q_3a2e67ab0 h_1 h_8)⟩) (fun c_18 y_21 hI_19 hF_20 hy_21 => (bk_inl (q_iret c_216_28 rfl ?_))))))))))
      exact K c_18 y_21 hI_19 (fun a j hm => (hF_20 a j (qv_bcc235c24 hm)).trans ((hF_17 a j (fun h => hm (Or.inr (Or.inr (Or.inl h))))).trans (up_b (Decidable.or_iff_not_imp_left.mpr (fun h1 h2 => hm (Or.inl ⟨Decidable.not_not.mp h1, h2⟩)))))) ⟨(lel hy_21.1 rfl), (ler hy_21.2 rfl)⟩

