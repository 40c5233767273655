/-! ===== contracts 24 ===== -/
theorem qn_0be1a1bbc : ¬ (((41 : Nat) = 41 ∧ (20 : Int) = 50) ∨ (41 : Nat) = 59 ∨ (41 : Nat) = 54 ∨ (41 : Nat) = 55) := (fun q => q.elim (fun h => absurd h.2 (ni rfl)) (fun q => q.elim (fun h => absurd h (nn rfl)) (fun q => q.elim (fun h => absurd h (nn rfl)) (fun h => absurd h (nn rfl)))))
theorem q_cfa352df8 {x0 : Int} (f0 : x0 ≤ 0) : x0 ≤ 2 := by omega
theorem qn_dcdf02b5e : ¬ (((41 : Nat) = 41 ∧ (21 : Int) = 50) ∨ (41 : Nat) = 59 ∨ (41 : Nat) = 54 ∨ (41 : Nat) = 55) := (fun q => q.elim (fun h => absurd h.2 (ni rfl)) (fun q => q.elim (fun h => absurd h (nn rfl)) (fun q => q.elim (fun h => absurd h (nn rfl)) (fun h => absurd h (nn rfl)))))
theorem q_bd5201688 {x0 : Int} (f0 : ¬ (x0 ≤ 0)) : (-2147483648) ≤ x0 := by omega
theorem q_5fabd302d {x0 : Int} (f0 : x0 ≤ 2) : x0 ≤ 2147483647 := by omega
theorem q_a85af2722 {x0 : Int} (f0 : x0 ≤ 2) : x0 ≤ 16 := by omega
theorem q_e26e310f0 {x0 x1 : Int} (f0 : x0 ≤ 2) (f1 : (x1 < x0)) : x1 ≤ 5 := by omega
theorem qv_cbc630ed4 {a : Nat} {j : Int} (hm : ¬ ((a = 41 ∧ j = 50) ∨ a = 59 ∨ a = 54 ∨ a = 55)) : ¬ (a = 59 ∨ a = 54 ∨ a = 55) := (fun q => q.elim (fun h => hm (Or.inr (Or.inl h))) (fun q => q.elim (fun h => hm (Or.inr (Or.inr (Or.inl h)))) (fun h => hm (Or.inr (Or.inr (Or.inr h))))))
theorem qn_fa1e0067f : ¬ (((41 : Nat) = 41 ∧ (22 : Int) = 50) ∨ (41 : Nat) = 59 ∨ (41 : Nat) = 54 ∨ (41 : Nat) = 55) := (fun q => q.elim (fun h => absurd h.2 (ni rfl)) (fun q => q.elim (fun h => absurd h (nn rfl)) (fun q => q.elim (fun h => absurd h (nn rfl)) (fun h => absurd h (nn rfl)))))
theorem q_7e5049a7f {x0 : Int} (f0 : ¬ (x0 ≤ 2)) : 0 < x0 := by omega
theorem q_54b3f207f {x0 : Int} (f0 : ¬ (x0 ≤ 2)) : 1 ≤ x0 := by omega
theorem q_25bfec670 {x0 : Int} (f0 : 0 ≤ x0 ∧ x0 ≤ 6) : x0 ≤ 16 := by omega
theorem q_eb82f921a {x0 x1 : Int} (f0 : 0 ≤ x0 ∧ x0 ≤ 6) (f1 : (x1 < x0)) : x1 ≤ 5 := by omega
theorem q_69fe74b6d {x0 : Int} (f0 : 0 ≤ x0 ∧ x0 ≤ 4) : x0 ≤ 16 := by omega
theorem q_0ca5d8218 {x0 x1 : Int} (f0 : 0 ≤ x0 ∧ x0 ≤ 4) (f1 : (x1 < x0)) : x1 ≤ 3 := by omega
theorem qv_3730a4f02 {a : Nat} {j : Int} (hm : ¬ ((a = 41 ∧ j = 0) ∨ a = 42 ∨ (a = 41 ∧ j = 50) ∨ a = 59 ∨ a = 54 ∨ a = 55)) : ¬ ((a = 41 ∧ j = 50) ∨ a = 59 ∨ a = 54 ∨ a = 55) := (fun q => q.elim (fun h => hm (Or.inr (Or.inr (Or.inl h)))) (fun q => q.elim (fun h => hm (Or.inr (Or.inr (Or.inr (Or.inl h))))) (fun q => q.elim (fun h => hm (Or.inr (Or.inr (Or.inr (Or.inr (Or.inl h)))))) (fun h => hm (Or.inr (Or.inr (Or.inr (Or.inr (Or.inr h)))))))))
theorem qn_11637025e {j : Int} : ¬ (((58 : Nat) = 41 ∧ j = 50) ∨ (58 : Nat) = 59 ∨ (58 : Nat) = 54 ∨ (58 : Nat) = 55) := (fun q => q.elim (fun h => absurd h.1 (nn rfl)) (fun q => q.elim (fun h => absurd h (nn rfl)) (fun q => q.elim (fun h => absurd h (nn rfl)) (fun h => absurd h (nn rfl)))))
theorem qn_8e56cb93c {j : Int} : ¬ (((58 : Nat) = 41 ∧ j = 0) ∨ (58 : Nat) = 42 ∨ ((58 : Nat) = 41 ∧ j = 50) ∨ (58 : Nat) = 59 ∨ (58 : Nat) = 54 ∨ (58 : Nat) = 55) := (fun q => q.elim (fun h => absurd h.1 (nn rfl)) (fun q => q.elim (fun h => absurd h (nn rfl)) (fun q => q.elim (fun h => absurd h.1 (nn rfl)) (fun q => q.elim (fun h => absurd h (nn rfl)) (fun q => q.elim (fun h => absurd h (nn rfl)) (fun h => absurd h (nn rfl)))))))
theorem q_2013bec62 {x0 : Int} (f0 : 0 ≤ x0 ∧ x0 ≤ 3) : 0 ≤ 630 * x0 + 629 := by omega
theorem q_d7ceb4844 {x0 : Int} (f0 : 0 ≤ x0 ∧ x0 ≤ 3) (f1 : x0 ≠ 3) : 630 * x0 + 629 < 1890 := by omega
theorem q_7ecd0bf1e {x0 : Int} (f0 : 0 ≤ x0 ∧ x0 ≤ 3) (f1 : x0 ≠ 3) : x0 + 1 ≤ 3 := by omega
theorem q_e68c9ca42 {x0 : Int} (f0 : 0 ≤ x0 ∧ x0 ≤ 3) (f1 : x0 ≠ 0) : 0 ≤ 630 * x0 - 1 := by omega
theorem q_7688c24dd {x0 : Int} (f0 : 0 ≤ x0 ∧ x0 ≤ 3) : 630 * x0 - 1 < 1890 := by omega
theorem q_69cb20f07 {x0 : Int} (f0 : 0 ≤ x0 ∧ x0 ≤ 3) (f1 : x0 ≠ 0) : 0 ≤ x0 - 1 := by omega
theorem q_c01d181a1 {x0 : Int} (f0 : 0 ≤ x0 ∧ x0 ≤ 16) : 0 ≤ x0 := by omega
theorem q_47a1838e7 {x0 : Int} (f0 : 0 ≤ x0 ∧ x0 ≤ 16) : x0 ≤ 16 := by omega
theorem q_f99bab66d {x0 : Int} (f0 : ¬ (x0 > 1)) : x0 < 2 := by omega
theorem c_253_12 : mLk 253 12 = some (.iload 4, 2) := rfl
theorem c_253_14 : mLk 253 14 = some (.iload_n 3, 1) := rfl
theorem c_253_15 : mLk 253 15 = some (.if_icmp .ge 144, 3) := rfl
theorem c_253_18 : mLk 253 18 = some (.aload_n 0, 1) := rfl
theorem c_253_19 : mLk 253 19 = some (.getfield 157, 3) := rfl
theorem c_253_22 : mLk 253 22 = some (.ifCond .le 35, 3) := rfl
theorem c_253_57 : mLk 253 57 = some (.aload_n 0, 1) := rfl
theorem c_253_58 : mLk 253 58 = some (.getfield 157, 3) := rfl
theorem c_253_61 : mLk 253 61 = some (.iconst 2, 1) := rfl
theorem c_253_62 : mLk 253 62 = some (.if_icmp .le 67, 3) := rfl
theorem c_253_129 : mLk 253 129 = some (.aload_n 0, 1) := rfl
theorem c_253_130 : mLk 253 130 = some (.getfield 157, 3) := rfl
theorem c_253_133 : mLk 253 133 = some (.ifCond .le 16, 3) := rfl
theorem c_253_149 : mLk 253 149 = some (.aload_n 0, 1) := rfl
theorem c_253_150 : mLk 253 150 = some (.invokevirtual 353, 3) := rfl
theorem c_253_153 : mLk 253 153 = some (.iinc 4 1, 3) := rfl
theorem c_253_156 : mLk 253 156 = some (.goto (-144), 3) := rfl
theorem c_253_25 : mLk 253 25 = some (.aload_n 0, 1) := rfl
theorem c_253_26 : mLk 253 26 = some (.getfield 160, 3) := rfl
theorem c_253_29 : mLk 253 29 = some (.ifCond .le 28, 3) := rfl
theorem c_253_136 : mLk 253 136 = some (.aload_n 0, 1) := rfl
theorem c_253_137 : mLk 253 137 = some (.aload_n 0, 1) := rfl
theorem c_253_138 : mLk 253 138 = some (.aload_n 0, 1) := rfl
theorem c_253_139 : mLk 253 139 = some (.getfield 157, 3) := rfl
theorem c_253_142 : mLk 253 142 = some (.invokevirtual 442, 3) := rfl
theorem c_253_145 : mLk 253 145 = some (.invokevirtual 350, 3) := rfl
theorem c_253_148 : mLk 253 148 = some (.pop, 1) := rfl
theorem c_253_65 : mLk 253 65 = some (.aload_n 0, 1) := rfl
theorem c_253_66 : mLk 253 66 = some (.getfield 163, 3) := rfl
theorem c_253_69 : mLk 253 69 = some (.ifCond .le 60, 3) := rfl
theorem c_253_72 : mLk 253 72 = some (.aload_n 0, 1) := rfl
theorem c_253_73 : mLk 253 73 = some (.aload_n 0, 1) := rfl
theorem c_253_74 : mLk 253 74 = some (.getfield 163, 3) := rfl
theorem c_253_77 : mLk 253 77 = some (.invokevirtual 442, 3) := rfl
theorem c_253_80 : mLk 253 80 = some (.istore 5, 2) := rfl
theorem c_253_82 : mLk 253 82 = some (.aload_n 0, 1) := rfl
theorem c_253_83 : mLk 253 83 = some (.aload_n 0, 1) := rfl
theorem c_253_84 : mLk 253 84 = some (.getfield 157, 3) := rfl
theorem c_253_87 : mLk 253 87 = some (.invokevirtual 442, 3) := rfl
theorem c_253_90 : mLk 253 90 = some (.istore 6, 2) := rfl
theorem c_253_92 : mLk 253 92 = some (.aload_n 0, 1) := rfl
theorem c_253_93 : mLk 253 93 = some (.bipush 16, 2) := rfl
theorem c_253_95 : mLk 253 95 = some (.invokevirtual 442, 3) := rfl
theorem c_253_98 : mLk 253 98 = some (.iload_n 2, 1) := rfl
theorem c_253_99 : mLk 253 99 = some (.if_icmp .ge 30, 3) := rfl
theorem c_253_102 : mLk 253 102 = some (.aload_n 0, 1) := rfl
theorem c_253_103 : mLk 253 103 = some (.iload 5, 2) := rfl
theorem c_253_105 : mLk 253 105 = some (.iload 6, 2) := rfl
theorem c_253_107 : mLk 253 107 = some (.iload 6, 2) := rfl
theorem c_253_109 : mLk 253 109 = some (.iconst 1, 1) := rfl
theorem c_253_110 : mLk 253 110 = some (.iadd, 1) := rfl
theorem c_253_111 : mLk 253 111 = some (.aload_n 0, 1) := rfl
theorem c_253_112 : mLk 253 112 = some (.getfield 157, 3) := rfl
theorem c_253_115 : mLk 253 115 = some (.irem, 1) := rfl
theorem c_253_116 : mLk 253 116 = some (.iload 6, 2) := rfl
theorem c_253_118 : mLk 253 118 = some (.iconst 2, 1) := rfl
theorem c_253_119 : mLk 253 119 = some (.iadd, 1) := rfl
theorem c_253_120 : mLk 253 120 = some (.aload_n 0, 1) := rfl
theorem c_253_121 : mLk 253 121 = some (.getfield 157, 3) := rfl
theorem c_253_124 : mLk 253 124 = some (.irem, 1) := rfl
theorem c_253_125 : mLk 253 125 = some (.invokevirtual 339, 3) := rfl
theorem c_253_128 : mLk 253 128 = some (.pop, 1) := rfl
theorem c_253_32 : mLk 253 32 = some (.aload_n 0, 1) := rfl
theorem c_253_33 : mLk 253 33 = some (.aload_n 0, 1) := rfl
theorem c_253_34 : mLk 253 34 = some (.getfield 160, 3) := rfl
theorem c_253_37 : mLk 253 37 = some (.invokevirtual 442, 3) := rfl
theorem c_253_40 : mLk 253 40 = some (.istore 5, 2) := rfl
theorem c_253_42 : mLk 253 42 = some (.aload_n 0, 1) := rfl
theorem c_253_43 : mLk 253 43 = some (.iload 5, 2) := rfl
theorem c_253_45 : mLk 253 45 = some (.aload_n 0, 1) := rfl
theorem c_253_46 : mLk 253 46 = some (.aload_n 0, 1) := rfl
theorem c_253_47 : mLk 253 47 = some (.getfield 157, 3) := rfl
theorem c_253_50 : mLk 253 50 = some (.invokevirtual 442, 3) := rfl
theorem c_253_53 : mLk 253 53 = some (.invokevirtual 335, 3) := rfl
theorem c_253_56 : mLk 253 56 = some (.pop, 1) := rfl
theorem c_253_0 : mLk 253 0 = some (.aload_n 0, 1) := rfl
theorem c_253_1 : mLk 253 1 = some (.invokevirtual 317, 3) := rfl
theorem c_253_4 : mLk 253 4 = some (.aload_n 0, 1) := rfl
theorem c_253_5 : mLk 253 5 = some (.iload_n 1, 1) := rfl
theorem c_253_6 : mLk 253 6 = some (.putfield 438, 3) := rfl
theorem c_253_9 : mLk 253 9 = some (.iconst 0, 1) := rfl
theorem c_253_10 : mLk 253 10 = some (.istore 4, 2) := rfl
theorem c_255_0 : mLk 255 0 = some (.aload_n 0, 1) := rfl
theorem c_255_1 : mLk 255 1 = some (.iconst 0, 1) := rfl
theorem c_255_2 : mLk 255 2 = some (.putfield 3, 3) := rfl
theorem c_255_5 : mLk 255 5 = some (.aload_n 0, 1) := rfl
theorem c_255_6 : mLk 255 6 = some (.iload_n 2, 1) := rfl
theorem c_255_7 : mLk 255 7 = some (.iload_n 3, 1) := rfl
theorem c_255_8 : mLk 255 8 = some (.invokestatic 445, 3) := rfl
theorem c_254_0 : mLk 254 0 = some (.iload_n 0, 1) := rfl
theorem c_254_1 : mLk 254 1 = some (.ifCond .lt 24, 3) := rfl
theorem c_254_25 : mLk 254 25 = some (.iconst 0, 1) := rfl
theorem c_254_26 : mLk 254 26 = some (.ireturn, 1) := rfl
theorem c_255_11 : mLk 255 11 = some (.ifCond .eq 17, 3) := rfl
theorem c_255_28 : mLk 255 28 = some (.iconst 0, 1) := rfl
theorem c_255_29 : mLk 255 29 = some (.iconst 1, 1) := rfl
theorem c_255_30 : mLk 255 30 = some (.iconst 1, 1) := rfl
theorem c_255_31 : mLk 255 31 = some (.invokevirtual 203, 3) := rfl
theorem c_255_34 : mLk 255 34 = some (.ifCond .ne 5, 3) := rfl
theorem c_255_37 : mLk 255 37 = some (.iconst 0, 1) := rfl
theorem c_255_38 : mLk 255 38 = some (.ireturn, 1) := rfl
theorem c_254_4 : mLk 254 4 = some (.iload_n 0, 1) := rfl
theorem c_254_5 : mLk 254 5 = some (.bipush 16, 2) := rfl
theorem c_254_7 : mLk 254 7 = some (.if_icmp .gt 18, 3) := rfl
theorem c_254_10 : mLk 254 10 = some (.iload_n 1, 1) := rfl
theorem c_254_11 : mLk 254 11 = some (.iconst 1, 1) := rfl
theorem c_254_12 : mLk 254 12 = some (.if_icmp .lt 13, 3) := rfl
theorem c_254_15 : mLk 254 15 = some (.iload_n 1, 1) := rfl
theorem c_254_16 : mLk 254 16 = some (.bipush 48, 2) := rfl
theorem c_254_18 : mLk 254 18 = some (.if_icmp .gt 7, 3) := rfl
theorem c_254_21 : mLk 254 21 = some (.iconst 1, 1) := rfl
theorem c_254_22 : mLk 254 22 = some (.goto 4, 3) := rfl
theorem c_255_14 : mLk 255 14 = some (.iload 4, 2) := rfl
theorem c_255_16 : mLk 255 16 = some (.iconst 0, 1) := rfl
theorem c_255_17 : mLk 255 17 = some (.iconst 3, 1) := rfl
theorem c_255_18 : mLk 255 18 = some (.invokestatic 384, 3) := rfl
theorem c_255_21 : mLk 255 21 = some (.ifCond .eq 7, 3) := rfl
theorem c_255_24 : mLk 255 24 = some (.iconst 1, 1) := rfl
theorem c_255_25 : mLk 255 25 = some (.goto 4, 3) := rfl
theorem c_255_39 : mLk 255 39 = some (.aload_n 0, 1) := rfl
theorem c_255_40 : mLk 255 40 = some (.iload_n 1, 1) := rfl
theorem c_255_41 : mLk 255 41 = some (.iload_n 2, 1) := rfl
theorem c_255_42 : mLk 255 42 = some (.iload_n 3, 1) := rfl
theorem c_255_43 : mLk 255 43 = some (.invokevirtual 448, 3) := rfl
theorem c_255_46 : mLk 255 46 = some (.iload 4, 2) := rfl
theorem c_255_48 : mLk 255 48 = some (.ifCond .ne 21, 3) := rfl
theorem c_255_69 : mLk 255 69 = some (.iload 4, 2) := rfl
theorem c_255_71 : mLk 255 71 = some (.iconst 1, 1) := rfl
theorem c_255_72 : mLk 255 72 = some (.if_icmp .ne 10, 3) := rfl
theorem c_255_82 : mLk 255 82 = some (.iload 4, 2) := rfl
theorem c_255_84 : mLk 255 84 = some (.iconst 2, 1) := rfl
theorem c_255_85 : mLk 255 85 = some (.if_icmp .ne 21, 3) := rfl
theorem c_255_106 : mLk 255 106 = some (.aload_n 0, 1) := rfl
theorem c_255_107 : mLk 255 107 = some (.invokevirtual 390, 3) := rfl
theorem c_255_110 : mLk 255 110 = some (.ireturn, 1) := rfl
theorem c_255_88 : mLk 255 88 = some (.aload_n 0, 1) := rfl
theorem c_255_89 : mLk 255 89 = some (.getfield 68, 3) := rfl
theorem c_255_92 : mLk 255 92 = some (.bipush 35, 2) := rfl
theorem c_255_94 : mLk 255 94 = some (.iaload, 1) := rfl
theorem c_255_95 : mLk 255 95 = some (.aload_n 0, 1) := rfl
theorem c_255_96 : mLk 255 96 = some (.getfield 65, 3) := rfl
theorem c_255_99 : mLk 255 99 = some (.bipush 35, 2) := rfl
theorem c_255_101 : mLk 255 101 = some (.iaload, 1) := rfl
theorem c_255_102 : mLk 255 102 = some (.isub, 1) := rfl
theorem c_255_103 : mLk 255 103 = some (.goto 7, 3) := rfl
theorem c_255_75 : mLk 255 75 = some (.aload_n 0, 1) := rfl
theorem c_255_76 : mLk 255 76 = some (.invokevirtual 387, 3) := rfl
theorem c_255_79 : mLk 255 79 = some (.goto 31, 3) := rfl
theorem c_255_51 : mLk 255 51 = some (.aload_n 0, 1) := rfl
theorem c_255_52 : mLk 255 52 = some (.getfield 68, 3) := rfl
theorem c_255_55 : mLk 255 55 = some (.bipush 36, 2) := rfl
theorem c_255_57 : mLk 255 57 = some (.iaload, 1) := rfl
theorem c_255_58 : mLk 255 58 = some (.aload_n 0, 1) := rfl
theorem c_255_59 : mLk 255 59 = some (.getfield 65, 3) := rfl
theorem c_255_62 : mLk 255 62 = some (.bipush 36, 2) := rfl
theorem c_255_64 : mLk 255 64 = some (.iaload, 1) := rfl
theorem c_255_65 : mLk 255 65 = some (.isub, 1) := rfl
theorem c_255_66 : mLk 255 66 = some (.goto 44, 3) := rfl
theorem c_256_77 : mLk 256 77 = some (.iload 10, 2) := rfl
theorem c_256_79 : mLk 256 79 = some (.iload_n 2, 1) := rfl
theorem c_256_80 : mLk 256 80 = some (.if_icmp .ge 94, 3) := rfl
theorem c_256_174 : mLk 256 174 = some (.iload 5, 2) := rfl
theorem c_256_176 : mLk 256 176 = some (.ifCond .ne 8, 3) := rfl
theorem c_256_184 : mLk 256 184 = some (.iload 5, 2) := rfl
theorem c_256_186 : mLk 256 186 = some (.iconst 1, 1) := rfl
theorem c_256_187 : mLk 256 187 = some (.if_icmp .ne 8, 3) := rfl
theorem c_256_195 : mLk 256 195 = some (.iload 9, 2) := rfl
theorem c_256_197 : mLk 256 197 = some (.ireturn, 1) := rfl
theorem c_256_190 : mLk 256 190 = some (.iload 8, 2) := rfl
theorem c_256_192 : mLk 256 192 = some (.goto 5, 3) := rfl
theorem c_256_179 : mLk 256 179 = some (.iload 7, 2) := rfl
theorem c_256_181 : mLk 256 181 = some (.goto 16, 3) := rfl
theorem c_256_83 : mLk 256 83 = some (.aload_n 0, 1) := rfl
theorem c_256_84 : mLk 256 84 = some (.iload_n 1, 1) := rfl
theorem c_256_85 : mLk 256 85 = some (.iload 10, 2) := rfl
theorem c_256_87 : mLk 256 87 = some (.iadd, 1) := rfl
theorem c_256_88 : mLk 256 88 = some (.iload_n 3, 1) := rfl
theorem c_256_89 : mLk 256 89 = some (.iload 4, 2) := rfl
theorem c_256_91 : mLk 256 91 = some (.invokevirtual 448, 3) := rfl
theorem c_256_94 : mLk 256 94 = some (.aload_n 0, 1) := rfl
theorem c_256_95 : mLk 256 95 = some (.getfield 68, 3) := rfl
theorem c_256_98 : mLk 256 98 = some (.bipush 36, 2) := rfl
theorem c_256_100 : mLk 256 100 = some (.iaload, 1) := rfl
theorem c_256_101 : mLk 256 101 = some (.aload_n 0, 1) := rfl
theorem c_256_102 : mLk 256 102 = some (.getfield 65, 3) := rfl
theorem c_256_105 : mLk 256 105 = some (.bipush 36, 2) := rfl
theorem c_256_107 : mLk 256 107 = some (.iaload, 1) := rfl
theorem c_256_108 : mLk 256 108 = some (.isub, 1) := rfl
theorem c_256_109 : mLk 256 109 = some (.istore 11, 2) := rfl
theorem c_256_111 : mLk 256 111 = some (.iload 7, 2) := rfl
theorem c_256_113 : mLk 256 113 = some (.iconst (-1), 1) := rfl
theorem c_256_114 : mLk 256 114 = some (.if_icmp .eq 10, 3) := rfl
theorem c_256_124 : mLk 256 124 = some (.iload 11, 2) := rfl
theorem c_256_126 : mLk 256 126 = some (.goto 5, 3) := rfl
theorem c_256_131 : mLk 256 131 = some (.istore 7, 2) := rfl
theorem c_256_133 : mLk 256 133 = some (.iload 11, 2) := rfl
theorem c_256_135 : mLk 256 135 = some (.iload 8, 2) := rfl
theorem c_256_137 : mLk 256 137 = some (.if_icmp .le 8, 3) := rfl
theorem c_256_145 : mLk 256 145 = some (.iload 8, 2) := rfl
theorem c_256_147 : mLk 256 147 = some (.istore 8, 2) := rfl
theorem c_256_149 : mLk 256 149 = some (.iload 9, 2) := rfl
theorem c_256_151 : mLk 256 151 = some (.aload_n 0, 1) := rfl
theorem c_256_152 : mLk 256 152 = some (.iload 6, 2) := rfl
theorem c_256_154 : mLk 256 154 = some (.invokevirtual 343, 3) := rfl
theorem c_256_157 : mLk 256 157 = some (.ifCond .ne 7, 3) := rfl
theorem c_256_164 : mLk 256 164 = some (.iconst 0, 1) := rfl
theorem c_256_165 : mLk 256 165 = some (.iadd, 1) := rfl
theorem c_256_166 : mLk 256 166 = some (.istore 9, 2) := rfl
theorem c_256_168 : mLk 256 168 = some (.iinc 10 1, 3) := rfl
theorem c_256_171 : mLk 256 171 = some (.goto (-94), 3) := rfl
theorem c_256_160 : mLk 256 160 = some (.iconst 1, 1) := rfl
theorem c_256_161 : mLk 256 161 = some (.goto 4, 3) := rfl
theorem c_256_140 : mLk 256 140 = some (.iload 11, 2) := rfl
theorem c_256_142 : mLk 256 142 = some (.goto 5, 3) := rfl
theorem c_256_117 : mLk 256 117 = some (.iload 11, 2) := rfl
theorem c_256_119 : mLk 256 119 = some (.iload 7, 2) := rfl
theorem c_256_121 : mLk 256 121 = some (.if_icmp .ge 8, 3) := rfl
theorem c_256_129 : mLk 256 129 = some (.iload 7, 2) := rfl
theorem c_256_0 : mLk 256 0 = some (.aload_n 0, 1) := rfl
theorem c_256_1 : mLk 256 1 = some (.iconst 0, 1) := rfl
theorem c_256_2 : mLk 256 2 = some (.putfield 3, 3) := rfl
theorem c_256_5 : mLk 256 5 = some (.aload_n 0, 1) := rfl
theorem c_256_6 : mLk 256 6 = some (.iload_n 2, 1) := rfl
theorem c_256_7 : mLk 256 7 = some (.iconst 1, 1) := rfl
theorem c_256_8 : mLk 256 8 = some (.bipush 10, 2) := rfl
theorem c_256_10 : mLk 256 10 = some (.invokestatic 384, 3) := rfl
theorem c_256_13 : mLk 256 13 = some (.ifCond .eq 41, 3) := rfl
theorem c_256_54 : mLk 256 54 = some (.iconst 0, 1) := rfl
theorem c_256_55 : mLk 256 55 = some (.iconst 1, 1) := rfl
theorem c_256_56 : mLk 256 56 = some (.iconst 1, 1) := rfl
theorem c_256_57 : mLk 256 57 = some (.invokevirtual 203, 3) := rfl
theorem c_256_60 : mLk 256 60 = some (.ifCond .ne 5, 3) := rfl
theorem c_256_63 : mLk 256 63 = some (.iconst 0, 1) := rfl
theorem c_256_64 : mLk 256 64 = some (.ireturn, 1) := rfl
theorem c_256_16 : mLk 256 16 = some (.iload_n 3, 1) := rfl
theorem c_256_17 : mLk 256 17 = some (.iload 4, 2) := rfl
theorem c_256_19 : mLk 256 19 = some (.invokestatic 445, 3) := rfl
theorem c_256_22 : mLk 256 22 = some (.ifCond .eq 32, 3) := rfl
theorem c_256_25 : mLk 256 25 = some (.iload 5, 2) := rfl
theorem c_256_27 : mLk 256 27 = some (.iconst 0, 1) := rfl
theorem c_256_28 : mLk 256 28 = some (.iconst 2, 1) := rfl
theorem c_256_29 : mLk 256 29 = some (.invokestatic 384, 3) := rfl
theorem c_256_32 : mLk 256 32 = some (.ifCond .eq 22, 3) := rfl
theorem c_256_35 : mLk 256 35 = some (.iload 6, 2) := rfl
theorem c_256_37 : mLk 256 37 = some (.iconst 0, 1) := rfl
theorem c_256_38 : mLk 256 38 = some (.aload_n 0, 1) := rfl
theorem c_256_39 : mLk 256 39 = some (.getfield 157, 3) := rfl
theorem c_256_42 : mLk 256 42 = some (.iconst 1, 1) := rfl
theorem c_256_43 : mLk 256 43 = some (.isub, 1) := rfl
theorem c_256_44 : mLk 256 44 = some (.invokestatic 384, 3) := rfl
theorem c_256_47 : mLk 256 47 = some (.ifCond .eq 7, 3) := rfl
theorem c_256_50 : mLk 256 50 = some (.iconst 1, 1) := rfl
theorem c_256_51 : mLk 256 51 = some (.goto 4, 3) := rfl
theorem c_256_65 : mLk 256 65 = some (.iconst (-1), 1) := rfl
theorem c_256_66 : mLk 256 66 = some (.istore 7, 2) := rfl
theorem c_256_68 : mLk 256 68 = some (.iconst 0, 1) := rfl
theorem c_256_69 : mLk 256 69 = some (.istore 8, 2) := rfl
theorem c_256_71 : mLk 256 71 = some (.iconst 0, 1) := rfl
theorem c_256_72 : mLk 256 72 = some (.istore 9, 2) := rfl
theorem c_256_74 : mLk 256 74 = some (.iconst 0, 1) := rfl
theorem c_256_75 : mLk 256 75 = some (.istore 10, 2) := rfl
theorem c_259_0 : mLk 259 0 = some (.aload_n 0, 1) := rfl
theorem c_259_1 : mLk 259 1 = some (.iconst 0, 1) := rfl
theorem c_259_2 : mLk 259 2 = some (.putfield 3, 3) := rfl
theorem c_259_5 : mLk 259 5 = some (.aload_n 0, 1) := rfl
theorem c_259_6 : mLk 259 6 = some (.getfield 185, 3) := rfl
theorem c_259_9 : mLk 259 9 = some (.iconst 3, 1) := rfl
theorem c_259_10 : mLk 259 10 = some (.if_icmp .ne 5, 3) := rfl
theorem c_259_15 : mLk 259 15 = some (.aload_n 0, 1) := rfl
theorem c_259_16 : mLk 259 16 = some (.aload_n 0, 1) := rfl
theorem c_259_17 : mLk 259 17 = some (.getfield 185, 3) := rfl
theorem c_259_20 : mLk 259 20 = some (.iconst 1, 1) := rfl
theorem c_259_21 : mLk 259 21 = some (.invokevirtual 456, 3) := rfl
theorem c_258_0 : mLk 258 0 = some (.aload_n 0, 1) := rfl
theorem c_258_1 : mLk 258 1 = some (.sipush 630, 3) := rfl
theorem c_258_4 : mLk 258 4 = some (.iload_n 1, 1) := rfl
theorem c_258_5 : mLk 258 5 = some (.imul, 1) := rfl
theorem c_258_6 : mLk 258 6 = some (.aload_n 0, 1) := rfl
theorem c_258_7 : mLk 258 7 = some (.getfield 65, 3) := rfl
theorem c_258_10 : mLk 258 10 = some (.bipush 37, 2) := rfl
theorem c_258_12 : mLk 258 12 = some (.iload_n 2, 1) := rfl
theorem c_258_13 : mLk 258 13 = some (.invokevirtual 452, 3) := rfl
theorem c_258_16 : mLk 258 16 = some (.istore_n 3, 1) := rfl
theorem c_258_17 : mLk 258 17 = some (.aload_n 0, 1) := rfl
theorem c_258_18 : mLk 258 18 = some (.iload_n 3, 1) := rfl
theorem c_258_19 : mLk 258 19 = some (.aload_n 0, 1) := rfl
theorem c_258_20 : mLk 258 20 = some (.getfield 71, 3) := rfl
theorem c_258_23 : mLk 258 23 = some (.sipush 592, 3) := rfl
theorem c_258_26 : mLk 258 26 = some (.iload_n 2, 1) := rfl
theorem c_258_27 : mLk 258 27 = some (.invokevirtual 452, 3) := rfl
theorem c_258_30 : mLk 258 30 = some (.istore_n 3, 1) := rfl
theorem c_258_31 : mLk 258 31 = some (.iload_n 2, 1) := rfl
theorem c_258_32 : mLk 258 32 = some (.ifCond .eq 16, 3) := rfl
theorem c_258_35 : mLk 258 35 = some (.aload_n 0, 1) := rfl
theorem c_258_36 : mLk 258 36 = some (.getfield 90, 3) := rfl
theorem c_258_39 : mLk 258 39 = some (.iload_n 3, 1) := rfl
theorem c_258_40 : mLk 258 40 = some (.aload_n 0, 1) := rfl
theorem c_258_41 : mLk 258 41 = some (.getfield 182, 3) := rfl
theorem c_258_44 : mLk 258 44 = some (.iastore, 1) := rfl
theorem c_258_45 : mLk 258 45 = some (.goto 13, 3) := rfl
theorem c_259_24 : mLk 259 24 = some (.aload_n 0, 1) := rfl
theorem c_259_25 : mLk 259 25 = some (.dup, 1) := rfl
theorem c_259_26 : mLk 259 26 = some (.getfield 185, 3) := rfl
theorem c_259_29 : mLk 259 29 = some (.iconst 1, 1) := rfl
theorem c_259_30 : mLk 259 30 = some (.iadd, 1) := rfl
theorem c_259_31 : mLk 259 31 = some (.putfield 185, 3) := rfl
theorem c_259_34 : mLk 259 34 = some (.aload_n 0, 1) := rfl
theorem c_259_35 : mLk 259 35 = some (.getfield 185, 3) := rfl
theorem c_259_38 : mLk 259 38 = some (.ireturn, 1) := rfl
theorem c_259_13 : mLk 259 13 = some (.iconst (-1), 1) := rfl
theorem c_259_14 : mLk 259 14 = some (.ireturn, 1) := rfl
theorem c_260_0 : mLk 260 0 = some (.aload_n 0, 1) := rfl
theorem c_260_1 : mLk 260 1 = some (.iconst 0, 1) := rfl
theorem c_260_2 : mLk 260 2 = some (.putfield 3, 3) := rfl
theorem c_260_5 : mLk 260 5 = some (.aload_n 0, 1) := rfl
theorem c_260_6 : mLk 260 6 = some (.getfield 185, 3) := rfl
theorem c_260_9 : mLk 260 9 = some (.ifCond .ne 5, 3) := rfl
theorem c_260_14 : mLk 260 14 = some (.aload_n 0, 1) := rfl
theorem c_260_15 : mLk 260 15 = some (.dup, 1) := rfl
theorem c_260_16 : mLk 260 16 = some (.getfield 185, 3) := rfl
theorem c_260_19 : mLk 260 19 = some (.iconst 1, 1) := rfl
theorem c_260_20 : mLk 260 20 = some (.isub, 1) := rfl
theorem c_260_21 : mLk 260 21 = some (.putfield 185, 3) := rfl
theorem c_260_24 : mLk 260 24 = some (.aload_n 0, 1) := rfl
theorem c_260_25 : mLk 260 25 = some (.aload_n 0, 1) := rfl
theorem c_260_26 : mLk 260 26 = some (.getfield 185, 3) := rfl
theorem c_260_29 : mLk 260 29 = some (.iconst 0, 1) := rfl
theorem c_260_30 : mLk 260 30 = some (.invokevirtual 456, 3) := rfl
theorem c_258_48 : mLk 258 48 = some (.aload_n 0, 1) := rfl
theorem c_258_49 : mLk 258 49 = some (.aload_n 0, 1) := rfl
theorem c_258_50 : mLk 258 50 = some (.getfield 90, 3) := rfl
theorem c_258_53 : mLk 258 53 = some (.iload_n 3, 1) := rfl
theorem c_258_54 : mLk 258 54 = some (.iaload, 1) := rfl
theorem c_258_55 : mLk 258 55 = some (.putfield 182, 3) := rfl
theorem c_260_33 : mLk 260 33 = some (.aload_n 0, 1) := rfl
theorem c_260_34 : mLk 260 34 = some (.iconst 0, 1) := rfl
theorem c_260_35 : mLk 260 35 = some (.putfield 188, 3) := rfl
theorem c_260_38 : mLk 260 38 = some (.aload_n 0, 1) := rfl
theorem c_260_39 : mLk 260 39 = some (.getfield 185, 3) := rfl
theorem c_260_42 : mLk 260 42 = some (.ireturn, 1) := rfl
theorem c_260_12 : mLk 260 12 = some (.iconst (-1), 1) := rfl
theorem c_260_13 : mLk 260 13 = some (.ireturn, 1) := rfl
theorem c_261_0 : mLk 261 0 = some (.aload_n 0, 1) := rfl
theorem c_261_1 : mLk 261 1 = some (.iconst 0, 1) := rfl
theorem c_261_2 : mLk 261 2 = some (.putfield 3, 3) := rfl
theorem c_261_5 : mLk 261 5 = some (.iload_n 1, 1) := rfl
theorem c_261_6 : mLk 261 6 = some (.iconst 0, 1) := rfl
theorem c_261_7 : mLk 261 7 = some (.iconst 1, 1) := rfl
theorem c_261_8 : mLk 261 8 = some (.invokestatic 384, 3) := rfl
theorem c_261_11 : mLk 261 11 = some (.ifCond .eq 12, 3) := rfl
theorem c_261_23 : mLk 261 23 = some (.iconst (-1), 1) := rfl
theorem c_261_24 : mLk 261 24 = some (.ireturn, 1) := rfl
theorem c_261_14 : mLk 261 14 = some (.aload_n 0, 1) := rfl
theorem c_261_15 : mLk 261 15 = some (.getfield 7, 3) := rfl
theorem c_261_18 : mLk 261 18 = some (.iload_n 1, 1) := rfl
theorem c_261_19 : mLk 261 19 = some (.iaload, 1) := rfl
theorem c_261_20 : mLk 261 20 = some (.goto 4, 3) := rfl
theorem c_262_0 : mLk 262 0 = some (.aload_n 0, 1) := rfl
theorem c_262_1 : mLk 262 1 = some (.iconst 0, 1) := rfl
theorem c_262_2 : mLk 262 2 = some (.putfield 3, 3) := rfl
theorem c_262_5 : mLk 262 5 = some (.iload_n 1, 1) := rfl
theorem c_262_6 : mLk 262 6 = some (.ifCond .ne 10, 3) := rfl
theorem c_262_16 : mLk 262 16 = some (.iload_n 1, 1) := rfl
theorem c_262_17 : mLk 262 17 = some (.iconst 1, 1) := rfl
theorem c_262_18 : mLk 262 18 = some (.if_icmp .ne 10, 3) := rfl
theorem c_262_28 : mLk 262 28 = some (.iload_n 1, 1) := rfl
theorem c_262_29 : mLk 262 29 = some (.iconst 2, 1) := rfl
theorem c_262_30 : mLk 262 30 = some (.if_icmp .ne 10, 3) := rfl
theorem c_262_40 : mLk 262 40 = some (.iconst (-1), 1) := rfl
theorem c_262_41 : mLk 262 41 = some (.ireturn, 1) := rfl
theorem c_262_33 : mLk 262 33 = some (.aload_n 0, 1) := rfl
theorem c_262_34 : mLk 262 34 = some (.getfield 182, 3) := rfl
theorem c_262_37 : mLk 262 37 = some (.goto 4, 3) := rfl
theorem c_262_21 : mLk 262 21 = some (.aload_n 0, 1) := rfl
theorem c_262_22 : mLk 262 22 = some (.getfield 99, 3) := rfl
theorem c_262_25 : mLk 262 25 = some (.goto 16, 3) := rfl
theorem c_262_9 : mLk 262 9 = some (.aload_n 0, 1) := rfl
theorem c_262_10 : mLk 262 10 = some (.getfield 185, 3) := rfl
theorem c_262_13 : mLk 262 13 = some (.goto 28, 3) := rfl
theorem kf_8_90 : a_lk (kF 8) 90 = some (8, 51) := rfl
theorem km_8_442 : a_lk (kM 8) 442 = some (0, 252) := rfl
theorem km_8_448 : a_lk (kM 8) 448 = some (0, 253) := rfl
theorem km_8_452 : a_lk (kM 8) 452 = some (0, 257) := rfl
theorem km_8_456 : a_lk (kM 8) 456 = some (0, 258) := rfl
set_option maxRecDepth 100000 in
set_option maxHeartbeats 4000000 in
theorem s_253_l {sc : List Int32} {d P Q : Nat} {c : ME} {a1 : Int} {a2 : Int} {a3 : Int} {Z : AR → Prop} (hI : Iv 0 (-1) P Q c) (ha1 : (-2147483648) ≤ a1 ∧ a1 ≤ 2147483647) (ha2 : 0 ≤ a2 ∧ a2 ≤ 16) (ha3 : 1 ≤ a3 ∧ a3 ≤ 48) (K : ∀ (c2 : ME), Iv 0 (-1) P Q c2 → (∀ (a : Nat) (j : Int), ¬ ((a = 41 ∧ j = 50) ∨ a = 59 ∨ a = 54 ∨ a = 55) → c2 a j = c a j) → Z (.inl (none), Wd P Q P P c2, 0, 0)) : ∀ n : Nat, (∀ (c2 : ME) (v4 : Int), Iv 0 (-1) P Q c2 → (∀ (a : Nat) (j : Int), ¬ ((a = 41 ∧ j = 50) ∨ a = 59 ∨ a = 54 ∨ a = 55) → c2 a j = c a j) → 0 ≤ v4 ∧ v4 ≤ 48 → 97 - 2 * v4 < (n : Int) → Wp sc (d + 14) 253 12 [(0, .ref 41), (1, vi a1), (2, vi a2), (3, vi a3), (4, vi v4)] [] (Wd P Q P P c2) 0 0 Z) := by
  intro n
  induction n with
  | zero => exact (by intro c2 v4 hI2 hF hv4 hm9; have hP := iv_P hI; have hQ := iv_Q hI; exfalso; omega)
  | succ n ih =>
    have hP := iv_P hI
    have hQ := iv_Q hI
    intro c2 v4 hI2 hF hv4 hm9
    refine q_iload c_253_12 rfl (q_iload_n c_253_14 rfl ?_)
    by_cases h_1 : v4 ≥ a3
    · refine v_ic_ge_t (t := 159) c_253_15 rfl ⟨(Int.le_trans (by decide) ha3.1), h_1, (Int.le_trans hv4.2 (by decide))⟩ (q_vret rfl rfl ?_)
      exact K c2 hI2 (fun a j hm => hF a j hm)
    · refine v_ic_ge_f (t := 159) c_253_15 rfl ⟨(Int.le_trans (by decide) hv4.1), (Int.not_le.mp h_1), (Int.le_trans ha3.2 (by decide))⟩ (q_aload_n c_253_18 rfl ?_)
      have h_2 := ir_41_20 hI
      have kn_3 : Hid (c2 41 20 = c 41 20) := hF 41 20 qn_0be1a1bbc
      refine v_gi (z := 20) (v := c 41 20) c_253_19 kf_8_157 rfl (Nat.le_of_ble_eq_true rfl) rfl rfl (hid kn_3) ?_
      by_cases h_4 : c 41 20 ≤ 0
      · refine v_if_le_t (t := 57) c_253_22 rfl ⟨by first | exact q_730ab5169 h_2 | omega, h_4, by decide⟩ (q_aload_n c_253_57 rfl (v_gi (z := 20) (v := c 41 20) c_253_58 kf_8_157 rfl (Nat.le_of_ble_eq_true rfl) rfl rfl (hid kn_3) (q_iconst c_253_61 (v_ic_le_t (t := 129) c_253_62 rfl ⟨by first | exact q_730ab5169 h_2 | omega, by first | exact q_cfa352df8 h_4 | omega, by decide⟩ (q_aload_n c_253_129 rfl (v_gi (z := 20) (v := c 41 20) c_253_130 kf_8_157 rfl (Nat.le_of_ble_eq_true rfl) rfl rfl (hid kn_3) (v_if_le_t (t := 149) c_253_133 rfl ⟨by first | exact q_730ab5169 h_2 | omega, by first | exact q_f0d4f2762 h_4 | omega, by decide⟩ ?_)))))))
        refine q_aload_n c_253_149 rfl (v_cv c_253_150 km_8_353 rfl rfl (Nat.le_of_ble_eq_true rfl) ⟨⟨rfl, rfl⟩, Nat.le_of_ble_eq_true rfl, rfl⟩ (Nat.le_of_ble_eq_true rfl) (Nat.le_of_ble_eq_true rfl) (s_199 hI2 (fun c_5 hI_6 hF_7 => (bk_inl (v_iinc (v := v4 + 1) c_253_153 rfl (Nat.le_of_ble_eq_true rfl) rfl (q_goto (t := 12) c_253_156 rfl (Wp_ls [(0, .ref 41), (1, vi a1), (2, vi a2), (3, vi a3), (4, vi (v4 + 1))] (lsub_cons rfl (lsub_cons rfl (lsub_cons rfl (lsub_cons rfl (lsub_cons rfl lsub_nil))))) ?_)))))))
        exact ih c_5 (v4 + 1) hI_6 (fun a j hm => (hF_7 a j (fun h => hm (Or.inr (Or.inl h)))).trans (hF a j hm)) ⟨by first | exact rgp_l hv4.1 (by decide) | omega, by first | exact q_f2816912d h_1 ha3 | omega⟩ (by omega)
      · refine v_if_le_f (t := 57) c_253_22 rfl ⟨by decide, (Int.not_le.mp h_4), by first | exact q_b289b7db2 h_2 | omega⟩ (q_aload_n c_253_25 rfl ?_)
        have h_8 := ir_41_21 hI
        have kn_9 : Hid (c2 41 21 = c 41 21) := hF 41 21 qn_dcdf02b5e
        refine v_gi (z := 21) (v := c 41 21) c_253_26 kf_8_160 rfl (Nat.le_of_ble_eq_true rfl) rfl rfl (hid kn_9) ?_
        by_cases h_10 : c 41 21 ≤ 0
        · refine v_if_le_t (t := 57) c_253_29 rfl ⟨by first | exact q_0bfe68f8e h_8 | omega, h_10, by decide⟩ (q_aload_n c_253_57 rfl (v_gi (z := 20) (v := c 41 20) c_253_58 kf_8_157 rfl (Nat.le_of_ble_eq_true rfl) rfl rfl (hid kn_3) (q_iconst c_253_61 ?_)))
          by_cases h_11 : c 41 20 ≤ 2
          · refine v_ic_le_t (t := 129) c_253_62 rfl ⟨by first | exact q_bd5201688 h_4 | omega, h_11, by decide⟩ (q_aload_n c_253_129 rfl (v_gi (z := 20) (v := c 41 20) c_253_130 kf_8_157 rfl (Nat.le_of_ble_eq_true rfl) rfl rfl (hid kn_3) (v_if_le_f (t := 149) c_253_133 rfl ⟨by decide, by first | exact q_ca88f5637 h_4 | omega, by first | exact q_5fabd302d h_11 | omega⟩ (q_aload_n c_253_136 rfl (q_aload_n c_253_137 rfl (q_aload_n c_253_138 rfl (v_gi (z := 20) (v := c 41 20) c_253_139 kf_8_157 rfl (Nat.le_of_ble_eq_true rfl) rfl rfl (hid kn_3) ?_)))))))
            refine v_cv c_253_142 km_8_442 rfl rfl (Nat.le_of_ble_eq_true rfl) ⟨⟨rfl, rfl⟩, Nat.le_of_ble_eq_true rfl, rfl⟩ (Nat.le_of_ble_eq_true rfl) (Nat.le_of_ble_eq_true rfl) (s_252 (a1 := c 41 20) hI2 (show 1 ≤ c 41 20 ∧ c 41 20 ≤ 16 from ⟨by first | exact q_6c49a4ad1 h_4 | omega, by first | exact q_a85af2722 h_11 | omega⟩) (fun c_12 y_15 hI_13 hF_14 hy_15 h_16 => (bk_inl (v_cv c_253_145 km_8_350 rfl rfl (Nat.le_of_ble_eq_true rfl) ⟨⟨rfl, rfl⟩, Nat.le_of_ble_eq_true rfl, rfl⟩ (Nat.le_of_ble_eq_true rfl) (Nat.le_of_ble_eq_true rfl) (s_198 (a1 := y_15) hI_13 (show 0 ≤ y_15 ∧ y_15 ≤ 5 from ⟨hy_15.1, by first | exact q_e26e310f0 h_11 h_16 | omega⟩) (fun c_17 y_20 hI_18 hF_19 hy_20 => (bk_inl (q_pop c_253_148 rfl (q_aload_n c_253_149 rfl (v_cv c_253_150 km_8_353 rfl rfl (Nat.le_of_ble_eq_true rfl) ⟨⟨rfl, rfl⟩, Nat.le_of_ble_eq_true rfl, rfl⟩ (Nat.le_of_ble_eq_true rfl) (Nat.le_of_ble_eq_true rfl) (s_199 hI_18 (fun c_21 hI_22 hF_23 => (bk_inl ?_)))))))))))))
            refine v_iinc (v := v4 + 1) c_253_153 rfl (Nat.le_of_ble_eq_true rfl) rfl (q_goto (t := 12) c_253_156 rfl (Wp_ls [(0, .ref 41), (1, vi a1), (2, vi a2), (3, vi a3), (4, vi (v4 + 1))] (lsub_cons rfl (lsub_cons rfl (lsub_cons rfl (lsub_cons rfl (lsub_cons rfl lsub_nil))))) ?_))
            exact ih c_21 (v4 + 1) hI_22 (fun a j hm => (hF_23 a j (fun h => hm (Or.inr (Or.inl h)))).trans ((hF_19 a j (qv_cbc630ed4 hm)).trans ((hF_14 a j (fun h => hm (Or.inl h))).trans (hF a j hm)))) ⟨by first | exact rgp_l hv4.1 (by decide) | omega, by first | exact q_f2816912d h_1 ha3 | omega⟩ (by omega)
          · refine v_ic_le_f (t := 129) c_253_62 rfl ⟨by decide, (Int.not_le.mp h_11), by first | exact q_b289b7db2 h_2 | omega⟩ (q_aload_n c_253_65 rfl ?_)
            have h_24 := ir_41_22 hI
            have kn_25 : Hid (c2 41 22 = c 41 22) := hF 41 22 qn_fa1e0067f
            refine v_gi (z := 22) (v := c 41 22) c_253_66 kf_8_163 rfl (Nat.le_of_ble_eq_true rfl) rfl rfl (hid kn_25) ?_
            by_cases h_26 : c 41 22 ≤ 0
            · refine v_if_le_t (t := 129) c_253_69 rfl ⟨by first | exact q_0bfe68f8e h_24 | omega, h_26, by decide⟩ (q_aload_n c_253_129 rfl (v_gi (z := 20) (v := c 41 20) c_253_130 kf_8_157 rfl (Nat.le_of_ble_eq_true rfl) rfl rfl (hid kn_3) (v_if_le_f (t := 149) c_253_133 rfl ⟨by decide, by first | exact q_7e5049a7f h_11 | omega, by first | exact q_b289b7db2 h_2 | omega⟩ (q_aload_n c_253_136 rfl (q_aload_n c_253_137 rfl (q_aload_n c_253_138 rfl (v_gi (z := 20) (v := c 41 20) c_253_139 kf_8_157 rfl (Nat.le_of_ble_eq_true rfl) rfl rfl (hid kn_3) ?_)))))))
              refine v_cv c_253_142 km_8_442 rfl rfl (Nat.le_of_ble_eq_true rfl) ⟨⟨rfl, rfl⟩, Nat.le_of_ble_eq_true rfl, rfl⟩ (Nat.le_of_ble_eq_true rfl) (Nat.le_of_ble_eq_true rfl) (s_252 (a1 := c 41 20) hI2 (show 1 ≤ c 41 20 ∧ c 41 20 ≤ 16 from ⟨by first | exact q_54b3f207f h_11 | omega, by first | exact q_25bfec670 h_2 | omega⟩) (fun c_27 y_30 hI_28 hF_29 hy_30 h_31 => (bk_inl (v_cv c_253_145 km_8_350 rfl rfl (Nat.le_of_ble_eq_true rfl) ⟨⟨rfl, rfl⟩, Nat.le_of_ble_eq_true rfl, rfl⟩ (Nat.le_of_ble_eq_true rfl) (Nat.le_of_ble_eq_true rfl) (s_198 (a1 := y_30) hI_28 (show 0 ≤ y_30 ∧ y_30 ≤ 5 from ⟨hy_30.1, by first | exact q_eb82f921a h_2 h_31 | omega⟩) (fun c_32 y_35 hI_33 hF_34 hy_35 => (bk_inl (q_pop c_253_148 rfl (q_aload_n c_253_149 rfl (v_cv c_253_150 km_8_353 rfl rfl (Nat.le_of_ble_eq_true rfl) ⟨⟨rfl, rfl⟩, Nat.le_of_ble_eq_true rfl, rfl⟩ (Nat.le_of_ble_eq_true rfl) (Nat.le_of_ble_eq_true rfl) (s_199 hI_33 (fun c_36 hI_37 hF_38 => (bk_inl ?_)))))))))))))
              refine v_iinc (v := v4 + 1) c_253_153 rfl (Nat.le_of_ble_eq_true rfl) rfl (q_goto (t := 12) c_253_156 rfl (Wp_ls [(0, .ref 41), (1, vi a1), (2, vi a2), (3, vi a3), (4, vi (v4 + 1))] (lsub_cons rfl (lsub_cons rfl (lsub_cons rfl (lsub_cons rfl (lsub_cons rfl lsub_nil))))) ?_))
              exact ih c_36 (v4 + 1) hI_37 (fun a j hm => (hF_38 a j (fun h => hm (Or.inr (Or.inl h)))).trans ((hF_34 a j (qv_cbc630ed4 hm)).trans ((hF_29 a j (fun h => hm (Or.inl h))).trans (hF a j hm)))) ⟨by first | exact rgp_l hv4.1 (by decide) | omega, by first | exact q_f2816912d h_1 ha3 | omega⟩ (by omega)
            · refine v_if_le_f (t := 129) c_253_69 rfl ⟨by decide, (Int.not_le.mp h_26), by first | exact q_82d4f69ff h_24 | omega⟩ (q_aload_n c_253_72 rfl (q_aload_n c_253_73 rfl (v_gi (z := 22) (v := c 41 22) c_253_74 kf_8_163 rfl (Nat.le_of_ble_eq_true rfl) rfl rfl (hid kn_25) (v_cv c_253_77 km_8_442 rfl rfl (Nat.le_of_ble_eq_true rfl) ⟨⟨rfl, rfl⟩, Nat.le_of_ble_eq_true rfl, rfl⟩ (Nat.le_of_ble_eq_true rfl) (Nat.le_of_ble_eq_true rfl) (s_252 (a1 := c 41 22) hI2 (show 1 ≤ c 41 22 ∧ c 41 22 ≤ 16 from ⟨by first | exact q_6c49a4ad1 h_26 | omega, by first | exact q_69fe74b6d h_24 | omega⟩) (fun c_39 y_42 hI_40 hF_41 hy_42 h_43 => (bk_inl (q_istore c_253_80 (Nat.le_of_ble_eq_true rfl) (q_aload_n c_253_82 rfl ?_)))))))))
              refine q_aload_n c_253_83 rfl ?_
              have kn_44 : Hid (c_39 41 20 = c 41 20) := (hF_41 41 20 (fun h => absurd h.2 (ni rfl))).trans (hid kn_3)
              refine v_gi (z := 20) (v := c 41 20) c_253_84 kf_8_157 rfl (Nat.le_of_ble_eq_true rfl) rfl rfl (hid kn_44) (v_cv c_253_87 km_8_442 rfl rfl (Nat.le_of_ble_eq_true rfl) ⟨⟨rfl, rfl⟩, Nat.le_of_ble_eq_true rfl, rfl⟩ (Nat.le_of_ble_eq_true rfl) (Nat.le_of_ble_eq_true rfl) (s_252 (a1 := c 41 20) hI_40 (show 1 ≤ c 41 20 ∧ c 41 20 ≤ 16 from ⟨by first | exact q_54b3f207f h_11 | omega, by first | exact q_25bfec670 h_2 | omega⟩) (fun c_45 y_48 hI_46 hF_47 hy_48 h_49 => (bk_inl (q_istore c_253_90 (Nat.le_of_ble_eq_true rfl) (q_aload_n c_253_92 rfl (v_bip c_253_93 (by decide) (v_cv c_253_95 km_8_442 rfl rfl (Nat.le_of_ble_eq_true rfl) ⟨⟨rfl, rfl⟩, Nat.le_of_ble_eq_true rfl, rfl⟩ (Nat.le_of_ble_eq_true rfl) (Nat.le_of_ble_eq_true rfl) (s_252 (a1 := 16) hI_46 (show 1 ≤ 16 ∧ 16 ≤ 16 from ⟨by decide, by decide⟩) (fun c_50 y_53 hI_51 hF_52 hy_53 h_54 => (bk_inl ?_)))))))))))
              refine q_iload_n c_253_98 rfl ?_
              by_cases h_55 : y_53 ≥ a2
              · refine v_ic_ge_t (t := 129) c_253_99 rfl ⟨(Int.le_trans (by decide) ha2.1), h_55, (Int.le_trans hy_53.2 (by decide))⟩ (q_aload_n c_253_129 rfl ?_)
                have kn_56 : Hid (c_45 41 20 = c 41 20) := (hF_47 41 20 (fun h => absurd h.2 (ni rfl))).trans (hid kn_44)
                have kn_57 : Hid (c_50 41 20 = c 41 20) := (hF_52 41 20 (fun h => absurd h.2 (ni rfl))).trans (hid kn_56)
                refine v_gi (z := 20) (v := c 41 20) c_253_130 kf_8_157 rfl (Nat.le_of_ble_eq_true rfl) rfl rfl (hid kn_57) (v_if_le_f (t := 149) c_253_133 rfl ⟨by decide, by first | exact q_7e5049a7f h_11 | omega, by first | exact q_b289b7db2 h_2 | omega⟩ (q_aload_n c_253_136 rfl (q_aload_n c_253_137 rfl (q_aload_n c_253_138 rfl (v_gi (z := 20) (v := c 41 20) c_253_139 kf_8_157 rfl (Nat.le_of_ble_eq_true rfl) rfl rfl (hid kn_57) (v_cv c_253_142 km_8_442 rfl rfl (Nat.le_of_ble_eq_true rfl) ⟨⟨rfl, rfl⟩, Nat.le_of_ble_eq_true rfl, rfl⟩ (Nat.le_of_ble_eq_true rfl) (Nat.le_of_ble_eq_true rfl) (s_252 (a1 := c 41 20) hI_51 (show 1 ≤ c 41 20 ∧ c 41 20 ≤ 16 from ⟨by first | exact q_54b3f207f h_11 | omega, by first | exact q_25bfec670 h_2 | omega⟩) (fun c_58 y_61 hI_59 hF_60 hy_61 h_62 => (bk_inl ?_)))))))))
                refine v_cv c_253_145 km_8_350 rfl rfl (Nat.le_of_ble_eq_true rfl) ⟨⟨rfl, rfl⟩, Nat.le_of_ble_eq_true rfl, rfl⟩ (Nat.le_of_ble_eq_true rfl) (Nat.le_of_ble_eq_true rfl) (s_198 (a1 := y_61) hI_59 (show 0 ≤ y_61 ∧ y_61 ≤ 5 from ⟨hy_61.1, by first | exact q_eb82f921a h_2 h_62 | omega⟩) (fun c_63 y_66 hI_64 hF_65 hy_66 => (bk_inl (q_pop c_253_148 rfl (q_aload_n c_253_149 rfl (v_cv c_253_150 km_8_353 rfl rfl (Nat.le_of_ble_eq_true rfl) ⟨⟨rfl, rfl⟩, Nat.le_of_ble_eq_true rfl, rfl⟩ (Nat.le_of_ble_eq_true rfl) (Nat.le_of_ble_eq_true rfl) (s_199 hI_64 (fun c_67 hI_68 hF_69 => (bk_inl (v_iinc (v := v4 + 1) c_253_153 rfl (Nat.le_of_ble_eq_true rfl) rfl (q_goto (t := 12) c_253_156 rfl ?_)))))))))))
                refine Wp_ls [(0, .ref 41), (1, vi a1), (2, vi a2), (3, vi a3), (4, vi (v4 + 1))] (lsub_cons rfl (lsub_cons rfl (lsub_cons rfl (lsub_cons rfl (lsub_cons rfl lsub_nil))))) ?_
                exact ih c_67 (v4 + 1) hI_68 (fun a j hm => (hF_69 a j (fun h => hm (Or.inr (Or.inl h)))).trans ((hF_65 a j (qv_cbc630ed4 hm)).trans ((hF_60 a j (fun h => hm (Or.inl h))).trans ((hF_52 a j (fun h => hm (Or.inl h))).trans ((hF_47 a j (fun h => hm (Or.inl h))).trans ((hF_41 a j (fun h => hm (Or.inl h))).trans (hF a j hm))))))) ⟨by first | exact rgp_l hv4.1 (by decide) | omega, by first | exact q_f2816912d h_1 ha3 | omega⟩ (by omega)
              · refine v_ic_ge_f (t := 129) c_253_99 rfl ⟨(Int.le_trans (by decide) hy_53.1), (Int.not_le.mp h_55), (Int.le_trans ha2.2 (by decide))⟩ (q_aload_n c_253_102 rfl (q_iload c_253_103 rfl (q_iload c_253_105 rfl (q_iload c_253_107 rfl (q_iconst c_253_109 (v_iadd (v := y_48 + 1) c_253_110 rfl (q_aload_n c_253_111 rfl ?_)))))))
                have kn_70 : Hid (c_45 41 20 = c 41 20) := (hF_47 41 20 (fun h => absurd h.2 (ni rfl))).trans (hid kn_44)
                have kn_71 : Hid (c_50 41 20 = c 41 20) := (hF_52 41 20 (fun h => absurd h.2 (ni rfl))).trans (hid kn_70)
                refine v_gi (z := 20) (v := c 41 20) c_253_112 kf_8_157 rfl (Nat.le_of_ble_eq_true rfl) rfl rfl (hid kn_71) ?_
                have h_72 : 0 ≤ ((y_48 + 1) % (c 41 20)) ∧ ((y_48 + 1) % (c 41 20)) < c 41 20 := rem_bd (by omega)
                refine v_irem (v := ((y_48 + 1) % (c 41 20))) c_253_115 (by omega) rfl (q_iload c_253_116 rfl (q_iconst c_253_118 (v_iadd (v := y_48 + 2) c_253_119 rfl (q_aload_n c_253_120 rfl (v_gi (z := 20) (v := c 41 20) c_253_121 kf_8_157 rfl (Nat.le_of_ble_eq_true rfl) rfl rfl (hid kn_71) ?_)))))
                have h_73 : 0 ≤ ((y_48 + 2) % (c 41 20)) ∧ ((y_48 + 2) % (c 41 20)) < c 41 20 := rem_bd (by omega)
                refine v_irem (v := ((y_48 + 2) % (c 41 20))) c_253_124 (by omega) rfl (v_cv c_253_125 km_8_339 rfl rfl (Nat.le_of_ble_eq_true rfl) ⟨⟨rfl, rfl⟩, Nat.le_of_ble_eq_true rfl, rfl⟩ (Nat.le_of_ble_eq_true rfl) (Nat.le_of_ble_eq_true rfl) (s_193 (a1 := y_42) (a2 := y_48) (a3 := ((y_48 + 1) % (c 41 20))) (a4 := ((y_48 + 2) % (c 41 20))) hI_51 (show 0 ≤ y_42 ∧ y_42 ≤ 3 from ⟨hy_42.1, by first | exact q_0ca5d8218 h_24 h_43 | omega⟩) (show 0 ≤ y_48 ∧ y_48 ≤ 5 from ⟨hy_48.1, by first | exact q_eb82f921a h_2 h_49 | omega⟩) (show 0 ≤ ((y_48 + 1) % (c 41 20)) ∧ ((y_48 + 1) % (c 41 20)) ≤ 5 from ⟨by first | exact q_c4fec1d75 h_72 | omega, by first | exact q_d5c4fed04 h_2 h_72 | omega⟩) (show 0 ≤ ((y_48 + 2) % (c 41 20)) ∧ ((y_48 + 2) % (c 41 20)) ≤ 5 from ⟨by first | exact q_c4fec1d75 h_73 | omega, by first | exact q_d5c4fed04 h_2 h_73 | omega⟩) (fun c_74 y_77 hI_75 hF_76 hy_77 => (bk_inl (q_pop c_253_128 rfl (q_aload_n c_253_129 rfl ?_))))))
                have kn_78 : Hid (c_74 41 20 = c 41 20) := (hF_76 41 20 (fun h => absurd h (nn rfl))).trans (hid kn_71)
                refine v_gi (z := 20) (v := c 41 20) c_253_130 kf_8_157 rfl (Nat.le_of_ble_eq_true rfl) rfl rfl (hid kn_78) (v_if_le_f (t := 149) c_253_133 rfl ⟨by decide, by first | exact q_7e5049a7f h_11 | omega, by first | exact q_b289b7db2 h_2 | omega⟩ (q_aload_n c_253_136 rfl (q_aload_n c_253_137 rfl (q_aload_n c_253_138 rfl (v_gi (z := 20) (v := c 41 20) c_253_139 kf_8_157 rfl (Nat.le_of_ble_eq_true rfl) rfl rfl (hid kn_78) (v_cv c_253_142 km_8_442 rfl rfl (Nat.le_of_ble_eq_true rfl) ⟨⟨rfl, rfl⟩, Nat.le_of_ble_eq_true rfl, rfl⟩ (Nat.le_of_ble_eq_true rfl) (Nat.le_of_ble_eq_true rfl) (s_252 (a1 := c 41 20) hI_75 (show 1 ≤ c 41 20 ∧ c 41 20 ≤ 16 from ⟨by first | exact q_54b3f207f h_11 | omega, by first | exact q_25bfec670 h_2 | omega⟩) (fun c_79 y_82 hI_80 hF_81 hy_82 h_83 => (bk_inl ?_)))))))))
                refine v_cv c_253_145 km_8_350 rfl rfl (Nat.le_of_ble_eq_true rfl) ⟨⟨rfl, rfl⟩, Nat.le_of_ble_eq_true rfl, rfl⟩ (Nat.le_of_ble_eq_true rfl) (Nat.le_of_ble_eq_true rfl) (s_198 (a1 := y_82) hI_80 (show 0 ≤ y_82 ∧ y_82 ≤ 5 from ⟨hy_82.1, by first | exact q_eb82f921a h_2 h_83 | omega⟩) (fun c_84 y_87 hI_85 hF_86 hy_87 => (bk_inl (q_pop c_253_148 rfl (q_aload_n c_253_149 rfl (v_cv c_253_150 km_8_353 rfl rfl (Nat.le_of_ble_eq_true rfl) ⟨⟨rfl, rfl⟩, Nat.le_of_ble_eq_true rfl, rfl⟩ (Nat.le_of_ble_eq_true rfl) (Nat.le_of_ble_eq_true rfl) (s_199 hI_85 (fun c_88 hI_89 hF_90 => (bk_inl (v_iinc (v := v4 + 1) c_253_153 rfl (Nat.le_of_ble_eq_true rfl) rfl (q_goto (t := 12) c_253_156 rfl ?_)))))))))))
                refine Wp_ls [(0, .ref 41), (1, vi a1), (2, vi a2), (3, vi a3), (4, vi (v4 + 1))] (lsub_cons rfl (lsub_cons rfl (lsub_cons rfl (lsub_cons rfl (lsub_cons rfl lsub_nil))))) ?_
                exact ih c_88 (v4 + 1) hI_89 (fun a j hm => (hF_90 a j (fun h => hm (Or.inr (Or.inl h)))).trans ((hF_86 a j (qv_cbc630ed4 hm)).trans ((hF_81 a j (fun h => hm (Or.inl h))).trans ((hF_76 a j (fun h => hm (Or.inr (Or.inl h)))).trans ((hF_52 a j (fun h => hm (Or.inl h))).trans ((hF_47 a j (fun h => hm (Or.inl h))).trans ((hF_41 a j (fun h => hm (Or.inl h))).trans (hF a j hm)))))))) ⟨by first | exact rgp_l hv4.1 (by decide) | omega, by first | exact q_f2816912d h_1 ha3 | omega⟩ (by omega)
        · refine v_if_le_f (t := 57) c_253_29 rfl ⟨by decide, (Int.not_le.mp h_10), by first | exact q_82d4f69ff h_8 | omega⟩ (q_aload_n c_253_32 rfl (q_aload_n c_253_33 rfl (v_gi (z := 21) (v := c 41 21) c_253_34 kf_8_160 rfl (Nat.le_of_ble_eq_true rfl) rfl rfl (hid kn_9) (v_cv c_253_37 km_8_442 rfl rfl (Nat.le_of_ble_eq_true rfl) ⟨⟨rfl, rfl⟩, Nat.le_of_ble_eq_true rfl, rfl⟩ (Nat.le_of_ble_eq_true rfl) (Nat.le_of_ble_eq_true rfl) (s_252 (a1 := c 41 21) hI2 (show 1 ≤ c 41 21 ∧ c 41 21 ≤ 16 from ⟨by first | exact q_6c49a4ad1 h_10 | omega, by first | exact q_69fe74b6d h_8 | omega⟩) (fun c_91 y_94 hI_92 hF_93 hy_94 h_95 => (bk_inl (q_istore c_253_40 (Nat.le_of_ble_eq_true rfl) (q_aload_n c_253_42 rfl ?_)))))))))
          refine q_iload c_253_43 rfl (q_aload_n c_253_45 rfl (q_aload_n c_253_46 rfl ?_))
          have kn_96 : Hid (c_91 41 20 = c 41 20) := (hF_93 41 20 (fun h => absurd h.2 (ni rfl))).trans (hid kn_3)
          refine v_gi (z := 20) (v := c 41 20) c_253_47 kf_8_157 rfl (Nat.le_of_ble_eq_true rfl) rfl rfl (hid kn_96) (v_cv c_253_50 km_8_442 rfl rfl (Nat.le_of_ble_eq_true rfl) ⟨⟨rfl, rfl⟩, Nat.le_of_ble_eq_true rfl, rfl⟩ (Nat.le_of_ble_eq_true rfl) (Nat.le_of_ble_eq_true rfl) (s_252 (a1 := c 41 20) hI_92 (show 1 ≤ c 41 20 ∧ c 41 20 ≤ 16 from ⟨by first | exact q_6c49a4ad1 h_4 | omega, by first | exact q_25bfec670 h_2 | omega⟩) (fun c_97 y_100 hI_98 hF_99 hy_100 h_101 => (bk_inl (v_cv c_253_53 km_8_335 rfl rfl (Nat.le_of_ble_eq_true rfl) ⟨⟨rfl, rfl⟩, Nat.le_of_ble_eq_true rfl, rfl⟩ (Nat.le_of_ble_eq_true rfl) (Nat.le_of_ble_eq_true rfl) (s_188 (a1 := y_94) (a2 := y_100) hI_98 (show 0 ≤ y_94 ∧ y_94 ≤ 3 from ⟨hy_94.1, by first | exact q_0ca5d8218 h_8 h_95 | omega⟩) (show 0 ≤ y_100 ∧ y_100 ≤ 5 from ⟨hy_100.1, by first | exact q_4176b68dd h_101 h_2 | omega⟩) (fun c_102 y_105 hI_103 hF_104 hy_105 => (bk_inl (q_pop c_253_56 rfl (q_aload_n c_253_57 rfl ?_))))))))))
          have kn_106 : Hid (c_97 41 20 = c 41 20) := (hF_99 41 20 (fun h => absurd h.2 (ni rfl))).trans (hid kn_96)
          have kn_107 : Hid (c_102 41 20 = c 41 20) := (hF_104 41 20 (fun h => absurd h (nn rfl))).trans (hid kn_106)
          refine v_gi (z := 20) (v := c 41 20) c_253_58 kf_8_157 rfl (Nat.le_of_ble_eq_true rfl) rfl rfl (hid kn_107) (q_iconst c_253_61 ?_)
          by_cases h_108 : c 41 20 ≤ 2
          · refine v_ic_le_t (t := 129) c_253_62 rfl ⟨by first | exact q_bd5201688 h_4 | omega, h_108, by decide⟩ (q_aload_n c_253_129 rfl (v_gi (z := 20) (v := c 41 20) c_253_130 kf_8_157 rfl (Nat.le_of_ble_eq_true rfl) rfl rfl (hid kn_107) (v_if_le_f (t := 149) c_253_133 rfl ⟨by decide, by first | exact q_ca88f5637 h_4 | omega, by first | exact q_5fabd302d h_108 | omega⟩ (q_aload_n c_253_136 rfl (q_aload_n c_253_137 rfl (q_aload_n c_253_138 rfl (v_gi (z := 20) (v := c 41 20) c_253_139 kf_8_157 rfl (Nat.le_of_ble_eq_true rfl) rfl rfl (hid kn_107) ?_)))))))
            refine v_cv c_253_142 km_8_442 rfl rfl (Nat.le_of_ble_eq_true rfl) ⟨⟨rfl, rfl⟩, Nat.le_of_ble_eq_true rfl, rfl⟩ (Nat.le_of_ble_eq_true rfl) (Nat.le_of_ble_eq_true rfl) (s_252 (a1 := c 41 20) hI_103 (show 1 ≤ c 41 20 ∧ c 41 20 ≤ 16 from ⟨by first | exact q_6c49a4ad1 h_4 | omega, by first | exact q_a85af2722 h_108 | omega⟩) (fun c_109 y_112 hI_110 hF_111 hy_112 h_113 => (bk_inl (v_cv c_253_145 km_8_350 rfl rfl (Nat.le_of_ble_eq_true rfl) ⟨⟨rfl, rfl⟩, Nat.le_of_ble_eq_true rfl, rfl⟩ (Nat.le_of_ble_eq_true rfl) (Nat.le_of_ble_eq_true rfl) (s_198 (a1 := y_112) hI_110 (show 0 ≤ y_112 ∧ y_112 ≤ 5 from ⟨hy_112.1, by first | exact q_e26e310f0 h_108 h_113 | omega⟩) (fun c_114 y_117 hI_115 hF_116 hy_117 => (bk_inl (q_pop c_253_148 rfl (q_aload_n c_253_149 rfl (v_cv c_253_150 km_8_353 rfl rfl (Nat.le_of_ble_eq_true rfl) ⟨⟨rfl, rfl⟩, Nat.le_of_ble_eq_true rfl, rfl⟩ (Nat.le_of_ble_eq_true rfl) (Nat.le_of_ble_eq_true rfl) (s_199 hI_115 (fun c_118 hI_119 hF_120 => (bk_inl ?_)))))))))))))
            refine v_iinc (v := v4 + 1) c_253_153 rfl (Nat.le_of_ble_eq_true rfl) rfl (q_goto (t := 12) c_253_156 rfl (Wp_ls [(0, .ref 41), (1, vi a1), (2, vi a2), (3, vi a3), (4, vi (v4 + 1))] (lsub_cons rfl (lsub_cons rfl (lsub_cons rfl (lsub_cons rfl (lsub_cons rfl lsub_nil))))) ?_))
            exact ih c_118 (v4 + 1) hI_119 (fun a j hm => (hF_120 a j (fun h => hm (Or.inr (Or.inl h)))).trans ((hF_116 a j (qv_cbc630ed4 hm)).trans ((hF_111 a j (fun h => hm (Or.inl h))).trans ((hF_104 a j (fun h => hm (Or.inr (Or.inl h)))).trans ((hF_99 a j (fun h => hm (Or.inl h))).trans ((hF_93 a j (fun h => hm (Or.inl h))).trans (hF a j hm))))))) ⟨by first | exact rgp_l hv4.1 (by decide) | omega, by first | exact q_f2816912d h_1 ha3 | omega⟩ (by omega)
          · refine v_ic_le_f (t := 129) c_253_62 rfl ⟨by decide, (Int.not_le.mp h_108), by first | exact q_b289b7db2 h_2 | omega⟩ (q_aload_n c_253_65 rfl ?_)
            have h_121 := ir_41_22 hI
            have kn_122 : Hid (c2 41 22 = c 41 22) := hF 41 22 qn_fa1e0067f
            have kn_123 : Hid (c_91 41 22 = c 41 22) := (hF_93 41 22 (fun h => absurd h.2 (ni rfl))).trans (hid kn_122)
            have kn_124 : Hid (c_97 41 22 = c 41 22) := (hF_99 41 22 (fun h => absurd h.2 (ni rfl))).trans (hid kn_123)
            have kn_125 : Hid (c_102 41 22 = c 41 22) := (hF_104 41 22 (fun h => absurd h (nn rfl))).trans (hid kn_124)
            refine v_gi (z := 22) (v := c 41 22) c_253_66 kf_8_163 rfl (Nat.le_of_ble_eq_true rfl) rfl rfl (hid kn_125) ?_
            by_cases h_126 : c 41 22 ≤ 0
            · refine v_if_le_t (t := 129) c_253_69 rfl ⟨by first | exact q_0bfe68f8e h_121 | omega, h_126, by decide⟩ (q_aload_n c_253_129 rfl (v_gi (z := 20) (v := c 41 20) c_253_130 kf_8_157 rfl (Nat.le_of_ble_eq_true rfl) rfl rfl (hid kn_107) (v_if_le_f (t := 149) c_253_133 rfl ⟨by decide, by first | exact q_7e5049a7f h_108 | omega, by first | exact q_b289b7db2 h_2 | omega⟩ (q_aload_n c_253_136 rfl (q_aload_n c_253_137 rfl (q_aload_n c_253_138 rfl (v_gi (z := 20) (v := c 41 20) c_253_139 kf_8_157 rfl (Nat.le_of_ble_eq_true rfl) rfl rfl (hid kn_107) ?_)))))))
              refine v_cv c_253_142 km_8_442 rfl rfl (Nat.le_of_ble_eq_true rfl) ⟨⟨rfl, rfl⟩, Nat.le_of_ble_eq_true rfl, rfl⟩ (Nat.le_of_ble_eq_true rfl) (Nat.le_of_ble_eq_true rfl) (s_252 (a1 := c 41 20) hI_103 (show 1 ≤ c 41 20 ∧ c 41 20 ≤ 16 from ⟨by first | exact q_54b3f207f h_108 | omega, by first | exact q_25bfec670 h_2 | omega⟩) (fun c_127 y_130 hI_128 hF_129 hy_130 h_131 => (bk_inl (v_cv c_253_145 km_8_350 rfl rfl (Nat.le_of_ble_eq_true rfl) ⟨⟨rfl, rfl⟩, Nat.le_of_ble_eq_true rfl, rfl⟩ (Nat.le_of_ble_eq_true rfl) (Nat.le_of_ble_eq_true rfl) (s_198 (a1 := y_130) hI_128 (show 0 ≤ y_130 ∧ y_130 ≤ 5 from ⟨hy_130.1, by first | exact q_4176b68dd h_131 h_2 | omega⟩) (fun c_132 y_135 hI_133 hF_134 hy_135 => (bk_inl (q_pop c_253_148 rfl (q_aload_n c_253_149 rfl (v_cv c_253_150 km_8_353 rfl rfl (Nat.le_of_ble_eq_true rfl) ⟨⟨rfl, rfl⟩, Nat.le_of_ble_eq_true rfl, rfl⟩ (Nat.le_of_ble_eq_true rfl) (Nat.le_of_ble_eq_true rfl) (s_199 hI_133 (fun c_136 hI_137 hF_138 => (bk_inl ?_)))))))))))))
              refine v_iinc (v := v4 + 1) c_253_153 rfl (Nat.le_of_ble_eq_true rfl) rfl (q_goto (t := 12) c_253_156 rfl (Wp_ls [(0, .ref 41), (1, vi a1), (2, vi a2), (3, vi a3), (4, vi (v4 + 1))] (lsub_cons rfl (lsub_cons rfl (lsub_cons rfl (lsub_cons rfl (lsub_cons rfl lsub_nil))))) ?_))
              exact ih c_136 (v4 + 1) hI_137 (fun a j hm => (hF_138 a j (fun h => hm (Or.inr (Or.inl h)))).trans ((hF_134 a j (qv_cbc630ed4 hm)).trans ((hF_129 a j (fun h => hm (Or.inl h))).trans ((hF_104 a j (fun h => hm (Or.inr (Or.inl h)))).trans ((hF_99 a j (fun h => hm (Or.inl h))).trans ((hF_93 a j (fun h => hm (Or.inl h))).trans (hF a j hm))))))) ⟨by first | exact rgp_l hv4.1 (by decide) | omega, by first | exact q_f2816912d h_1 ha3 | omega⟩ (by omega)
            · refine v_if_le_f (t := 129) c_253_69 rfl ⟨by decide, (Int.not_le.mp h_126), by first | exact q_82d4f69ff h_121 | omega⟩ (q_aload_n c_253_72 rfl (q_aload_n c_253_73 rfl (v_gi (z := 22) (v := c 41 22) c_253_74 kf_8_163 rfl (Nat.le_of_ble_eq_true rfl) rfl rfl (hid kn_125) (v_cv c_253_77 km_8_442 rfl rfl (Nat.le_of_ble_eq_true rfl) ⟨⟨rfl, rfl⟩, Nat.le_of_ble_eq_true rfl, rfl⟩ (Nat.le_of_ble_eq_true rfl) (Nat.le_of_ble_eq_true rfl) (s_252 (a1 := c 41 22) hI_103 (show 1 ≤ c 41 22 ∧ c 41 22 ≤ 16 from ⟨by first | exact q_6c49a4ad1 h_126 | omega, by first | exact q_69fe74b6d h_121 | omega⟩) (fun c_139 y_142 hI_140 hF_141 hy_142 h_143 => (bk_inl (q_istore c_253_80 (Nat.le_of_ble_eq_true rfl) (q_aload_n c_253_82 rfl ?_)))))))))
              refine q_aload_n c_253_83 rfl ?_
              have kn_144 : Hid (c_139 41 20 = c 41 20) := (hF_141 41 20 (fun h => absurd h.2 (ni rfl))).trans (hid kn_107)
              refine v_gi (z := 20) (v := c 41 20) c_253_84 kf_8_157 rfl (Nat.le_of_ble_eq_true rfl) rfl rfl (hid kn_144) (v_cv c_253_87 km_8_442 rfl rfl (Nat.le_of_ble_eq_true rfl) ⟨⟨rfl, rfl⟩, Nat.le_of_ble_eq_true rfl, rfl⟩ (Nat.le_of_ble_eq_true rfl) (Nat.le_of_ble_eq_true rfl) (s_252 (a1 := c 41 20) hI_140 (show 1 ≤ c 41 20 ∧ c 41 20 ≤ 16 from ⟨by first | exact q_54b3f207f h_108 | omega, by first | exact q_25bfec670 h_2 | omega⟩) (fun c_145 y_148 hI_146 hF_147 hy_148 h_149 => (bk_inl (q_istore c_253_90 (Nat.le_of_ble_eq_true rfl) (q_aload_n c_253_92 rfl (v_bip c_253_93 (by decide) (v_cv c_253_95 km_8_442 rfl rfl (Nat.le_of_ble_eq_true rfl) ⟨⟨rfl, rfl⟩, Nat.le_of_ble_eq_true rfl, rfl⟩ (Nat.le_of_ble_eq_true rfl) (Nat.le_of_ble_eq_true rfl) (s_252 (a1 := 16) hI_146 (show 1 ≤ 16 ∧ 16 ≤ 16 from ⟨by decide, by decide⟩) (fun c_150 y_153 hI_151 hF_152 hy_153 h_154 => (bk_inl ?_)))))))))))
              refine q_iload_n c_253_98 rfl ?_
              by_cases h_155 : y_153 ≥ a2
              · refine v_ic_ge_t (t := 129) c_253_99 rfl ⟨(Int.le_trans (by decide) ha2.1), h_155, (Int.le_trans hy_153.2 (by decide))⟩ (q_aload_n c_253_129 rfl ?_)
                have kn_156 : Hid (c_145 41 20 = c 41 20) := (hF_147 41 20 (fun h => absurd h.2 (ni rfl))).trans (hid kn_144)
                have kn_157 : Hid (c_150 41 20 = c 41 20) := (hF_152 41 20 (fun h => absurd h.2 (ni rfl))).trans (hid kn_156)
                refine v_gi (z := 20) (v := c 41 20) c_253_130 kf_8_157 rfl (Nat.le_of_ble_eq_true rfl) rfl rfl (hid kn_157) (v_if_le_f (t := 149) c_253_133 rfl ⟨by decide, by first | exact q_7e5049a7f h_108 | omega, by first | exact q_b289b7db2 h_2 | omega⟩ (q_aload_n c_253_136 rfl (q_aload_n c_253_137 rfl (q_aload_n c_253_138 rfl (v_gi (z := 20) (v := c 41 20) c_253_139 kf_8_157 rfl (Nat.le_of_ble_eq_true rfl) rfl rfl (hid kn_157) (v_cv c_253_142 km_8_442 rfl rfl (Nat.le_of_ble_eq_true rfl) ⟨⟨rfl, rfl⟩, Nat.le_of_ble_eq_true rfl, rfl⟩ (Nat.le_of_ble_eq_true rfl) (Nat.le_of_ble_eq_true rfl) (s_252 (a1 := c 41 20) hI_151 (show 1 ≤ c 41 20 ∧ c 41 20 ≤ 16 from ⟨by first | exact q_54b3f207f h_108 | omega, by first | exact q_25bfec670 h_2 | omega⟩) (fun c_158 y_161 hI_159 hF_160 hy_161 h_162 => (bk_inl ?_)))))))))
                refine v_cv c_253_145 km_8_350 rfl rfl (Nat.le_of_ble_eq_true rfl) ⟨⟨rfl, rfl⟩, Nat.le_of_ble_eq_true rfl, rfl⟩ (Nat.le_of_ble_eq_true rfl) (Nat.le_of_ble_eq_true rfl) (s_198 (a1 := y_161) hI_159 (show 0 ≤ y_161 ∧ y_161 ≤ 5 from ⟨hy_161.1, by first | exact q_4176b68dd h_162 h_2 | omega⟩) (fun c_163 y_166 hI_164 hF_165 hy_166 => (bk_inl (q_pop c_253_148 rfl (q_aload_n c_253_149 rfl (v_cv c_253_150 km_8_353 rfl rfl (Nat.le_of_ble_eq_true rfl) ⟨⟨rfl, rfl⟩, Nat.le_of_ble_eq_true rfl, rfl⟩ (Nat.le_of_ble_eq_true rfl) (Nat.le_of_ble_eq_true rfl) (s_199 hI_164 (fun c_167 hI_168 hF_169 => (bk_inl (v_iinc (v := v4 + 1) c_253_153 rfl (Nat.le_of_ble_eq_true rfl) rfl (q_goto (t := 12) c_253_156 rfl ?_)))))))))))
                refine Wp_ls [(0, .ref 41), (1, vi a1), (2, vi a2), (3, vi a3), (4, vi (v4 + 1))] (lsub_cons rfl (lsub_cons rfl (lsub_cons rfl (lsub_cons rfl (lsub_cons rfl lsub_nil))))) ?_
                exact ih c_167 (v4 + 1) hI_168 (fun a j hm => (hF_169 a j (fun h => hm (Or.inr (Or.inl h)))).trans ((hF_165 a j (qv_cbc630ed4 hm)).trans ((hF_160 a j (fun h => hm (Or.inl h))).trans ((hF_152 a j (fun h => hm (Or.inl h))).trans ((hF_147 a j (fun h => hm (Or.inl h))).trans ((hF_141 a j (fun h => hm (Or.inl h))).trans ((hF_104 a j (fun h => hm (Or.inr (Or.inl h)))).trans ((hF_99 a j (fun h => hm (Or.inl h))).trans ((hF_93 a j (fun h => hm (Or.inl h))).trans (hF a j hm)))))))))) ⟨by first | exact rgp_l hv4.1 (by decide) | omega, by first | exact q_f2816912d h_1 ha3 | omega⟩ (by omega)
              · refine v_ic_ge_f (t := 129) c_253_99 rfl ⟨(Int.le_trans (by decide) hy_153.1), (Int.not_le.mp h_155), (Int.le_trans ha2.2 (by decide))⟩ (q_aload_n c_253_102 rfl (q_iload c_253_103 rfl (q_iload c_253_105 rfl (q_iload c_253_107 rfl (q_iconst c_253_109 (v_iadd (v := y_148 + 1) c_253_110 rfl (q_aload_n c_253_111 rfl ?_)))))))
                have kn_170 : Hid (c_145 41 20 = c 41 20) := (hF_147 41 20 (fun h => absurd h.2 (ni rfl))).trans (hid kn_144)
                have kn_171 : Hid (c_150 41 20 = c 41 20) := (hF_152 41 20 (fun h => absurd h.2 (ni rfl))).trans (hid kn_170)
                refine v_gi (z := 20) (v := c 41 20) c_253_112 kf_8_157 rfl (Nat.le_of_ble_eq_true rfl) rfl rfl (hid kn_171) ?_
                have h_172 : 0 ≤ ((y_148 + 1) % (c 41 20)) ∧ ((y_148 + 1) % (c 41 20)) < c 41 20 := rem_bd (by omega)
                refine v_irem (v := ((y_148 + 1) % (c 41 20))) c_253_115 (by omega) rfl (q_iload c_253_116 rfl (q_iconst c_253_118 (v_iadd (v := y_148 + 2) c_253_119 rfl (q_aload_n c_253_120 rfl (v_gi (z := 20) (v := c 41 20) c_253_121 kf_8_157 rfl (Nat.le_of_ble_eq_true rfl) rfl rfl (hid kn_171) ?_)))))
                have h_173 : 0 ≤ ((y_148 + 2) % (c 41 20)) ∧ ((y_148 + 2) % (c 41 20)) < c 41 20 := rem_bd (by omega)
                refine v_irem (v := ((y_148 + 2) % (c 41 20))) c_253_124 (by omega) rfl (v_cv c_253_125 km_8_339 rfl rfl (Nat.le_of_ble_eq_true rfl) ⟨⟨rfl, rfl⟩, Nat.le_of_ble_eq_true rfl, rfl⟩ (Nat.le_of_ble_eq_true rfl) (Nat.le_of_ble_eq_true rfl) (s_193 (a1 := y_142) (a2 := y_148) (a3 := ((y_148 + 1) % (c 41 20))) (a4 := ((y_148 + 2) % (c 41 20))) hI_151 (show 0 ≤ y_142 ∧ y_142 ≤ 3 from ⟨hy_142.1, by first | exact q_0ca5d8218 h_121 h_143 | omega⟩) (show 0 ≤ y_148 ∧ y_148 ≤ 5 from ⟨hy_148.1, by first | exact q_4176b68dd h_149 h_2 | omega⟩) (show 0 ≤ ((y_148 + 1) % (c 41 20)) ∧ ((y_148 + 1) % (c 41 20)) ≤ 5 from ⟨by first | exact q_c4fec1d75 h_172 | omega, by first | exact q_5fbbc52e7 h_172 h_2 | omega⟩) (show 0 ≤ ((y_148 + 2) % (c 41 20)) ∧ ((y_148 + 2) % (c 41 20)) ≤ 5 from ⟨by first | exact q_c4fec1d75 h_173 | omega, by first | exact q_5fbbc52e7 h_173 h_2 | omega⟩) (fun c_174 y_177 hI_175 hF_176 hy_177 => (bk_inl (q_pop c_253_128 rfl (q_aload_n c_253_129 rfl ?_))))))
                have kn_178 : Hid (c_174 41 20 = c 41 20) := (hF_176 41 20 (fun h => absurd h (nn rfl))).trans (hid kn_171)
                refine v_gi (z := 20) (v := c 41 20) c_253_130 kf_8_157 rfl (Nat.le_of_ble_eq_true rfl) rfl rfl (hid kn_178) (v_if_le_f (t := 149) c_253_133 rfl ⟨by decide, by first | exact q_7e5049a7f h_108 | omega, by first | exact q_b289b7db2 h_2 | omega⟩ (q_aload_n c_253_136 rfl (q_aload_n c_253_137 rfl (q_aload_n c_253_138 rfl (v_gi (z := 20) (v := c 41 20) c_253_139 kf_8_157 rfl (Nat.le_of_ble_eq_true rfl) rfl rfl (hid kn_178) (v_cv c_253_142 km_8_442 rfl rfl (Nat.le_of_ble_eq_true rfl) ⟨⟨rfl, rfl⟩, Nat.le_of_ble_eq_true rfl, rfl⟩ (Nat.le_of_ble_eq_true rfl) (Nat.le_of_ble_eq_true rfl) (s_252 (a1 := c 41 20) hI_175 (show 1 ≤ c 41 20 ∧ c 41 20 ≤ 16 from ⟨by first | exact q_54b3f207f h_108 | omega, by first | exact q_25bfec670 h_2 | omega⟩) (fun c_179 y_182 hI_180 hF_181 hy_182 h_183 => (bk_inl ?_)))))))))
                refine v_cv c_253_145 km_8_350 rfl rfl (Nat.le_of_ble_eq_true rfl) ⟨⟨rfl, rfl⟩, Nat.le_of_ble_eq_true rfl, rfl⟩ (Nat.le_of_ble_eq_true rfl) (Nat.le_of_ble_eq_true rfl) (s_198 (a1 := y_182) hI_180 (show 0 ≤ y_182 ∧ y_182 ≤ 5 from ⟨hy_182.1, by first | exact q_4176b68dd h_183 h_2 | omega⟩) (fun c_184 y_187 hI_185 hF_186 hy_187 => (bk_inl (q_pop c_253_148 rfl (q_aload_n c_253_149 rfl (v_cv c_253_150 km_8_353 rfl rfl (Nat.le_of_ble_eq_true rfl) ⟨⟨rfl, rfl⟩, Nat.le_of_ble_eq_true rfl, rfl⟩ (Nat.le_of_ble_eq_true rfl) (Nat.le_of_ble_eq_true rfl) (s_199 hI_185 (fun c_188 hI_189 hF_190 => (bk_inl (v_iinc (v := v4 + 1) c_253_153 rfl (Nat.le_of_ble_eq_true rfl) rfl (q_goto (t := 12) c_253_156 rfl ?_)))))))))))
                refine Wp_ls [(0, .ref 41), (1, vi a1), (2, vi a2), (3, vi a3), (4, vi (v4 + 1))] (lsub_cons rfl (lsub_cons rfl (lsub_cons rfl (lsub_cons rfl (lsub_cons rfl lsub_nil))))) ?_
                exact ih c_188 (v4 + 1) hI_189 (fun a j hm => (hF_190 a j (fun h => hm (Or.inr (Or.inl h)))).trans ((hF_186 a j (qv_cbc630ed4 hm)).trans ((hF_181 a j (fun h => hm (Or.inl h))).trans ((hF_176 a j (fun h => hm (Or.inr (Or.inl h)))).trans ((hF_152 a j (fun h => hm (Or.inl h))).trans ((hF_147 a j (fun h => hm (Or.inl h))).trans ((hF_141 a j (fun h => hm (Or.inl h))).trans ((hF_104 a j (fun h => hm (Or.inr (Or.inl h)))).trans ((hF_99 a j (fun h => hm (Or.inl h))).trans ((hF_93 a j (fun h => hm (Or.inl h))).trans (hF a j hm))))))))))) ⟨by first | exact rgp_l hv4.1 (by decide) | omega, by first | exact q_f2816912d h_1 ha3 | omega⟩ (by omega)
set_option maxRecDepth 100000 in
set_option maxHeartbeats 4000000 in
theorem s_253 {sc : List Int32} {d P Q : Nat} {c : ME} {a1 : Int} {a2 : Int} {a3 : Int} {Z : AR → Prop} (hI : Iv 0 (-1) P Q c) (ha1 : (-2147483648) ≤ a1 ∧ a1 ≤ 2147483647) (ha2 : 0 ≤ a2 ∧ a2 ≤ 16) (ha3 : 1 ≤ a3 ∧ a3 ≤ 48) (K : ∀ (c2 : ME), Iv 0 (-1) P Q c2 → (∀ (a : Nat) (j : Int), ¬ ((a = 41 ∧ j = 50) ∨ a = 59 ∨ a = 54 ∨ a = 55) → c2 a j = c a j) → Z (.inl (none), Wd P Q P P c2, 0, 0)) : Wp sc (d + 14) 253 0 [(0, .ref 41), (1, vi a1), (2, vi a2), (3, vi a3)] [] (Wd P Q P P c) 0 0 Z := by
  have hP := iv_P hI
  have hQ := iv_Q hI
  refine q_aload_n c_253_0 rfl (v_cv c_253_1 km_8_317 rfl rfl (Nat.le_of_ble_eq_true rfl) ⟨⟨rfl, rfl⟩, Nat.le_of_ble_eq_true rfl, rfl⟩ (Nat.le_of_ble_eq_true rfl) (Nat.le_of_ble_eq_true rfl) (s_186 hI (fun c_191 hI_192 hF_193 => (bk_inl (q_aload_n c_253_4 rfl (q_iload_n c_253_5 rfl (v_pi (z := 50) c_253_6 kf_8_438 rfl (Nat.le_of_ble_eq_true rfl) rfl rfl rfl (by decide) (q_iconst c_253_9 (q_istore c_253_10 (Nat.le_of_ble_eq_true rfl) ?_)))))))))
  have hI_194 := iw_41_50 (v := a1) hI_192 ⟨ha1.1, ha1.2⟩
  refine Wp_ls [(0, .ref 41), (1, vi a1), (2, vi a2), (3, vi a3), (4, vi 0)] (lsub_cons rfl (lsub_cons rfl (lsub_cons rfl (lsub_cons rfl (lsub_cons rfl lsub_nil))))) ?_
  exact (s_253_l (sc := sc) (d := d) hI ha1 ha2 ha3 K 100) (up c_191 41 50 a1) 0 hI_194 (fun a j hm => (up_b (Decidable.or_iff_not_imp_left.mpr (fun h1 h2 => hm (Or.inl ⟨Decidable.not_not.mp h1, h2⟩)))).trans (hF_193 a j (fun h => hm (Or.inr (Or.inl h))))) ⟨by decide, by decide⟩ (by omega)

set_option maxRecDepth 100000 in
set_option maxHeartbeats 4000000 in
theorem s_255 {sc : List Int32} {d P Q : Nat} {c : ME} {a1 : Int} {a2 : Int} {a3 : Int} {a4 : Int} {Z : AR → Prop} (hI : Iv 0 (-1) P Q c) (ha1 : (-2147483648) ≤ a1 ∧ a1 ≤ 2147483647) (ha2 : (-2147483648) ≤ a2 ∧ a2 ≤ 2147483647) (ha3 : (-2147483648) ≤ a3 ∧ a3 ≤ 2147483647) (ha4 : (-2147483648) ≤ a4 ∧ a4 ≤ 2147483647) (K : ∀ (c2 : ME) (y : Int), Iv 0 (-1) P Q c2 → (∀ (a : Nat) (j : Int), ¬ ((a = 41 ∧ j = 0) ∨ a = 42 ∨ (a = 41 ∧ j = 50) ∨ a = 59 ∨ a = 54 ∨ a = 55) → c2 a j = c a j) → (-2147483648) ≤ y ∧ y ≤ 2147483647 → Z (.inl (some (vi y)), Wd P Q P P c2, 0, 0)) : Wp sc (d + 15) 255 0 [(0, .ref 41), (1, vi a1), (2, vi a2), (3, vi a3), (4, vi a4)] [] (Wd P Q P P c) 0 0 Z := by
  have hP := iv_P hI
  have hQ := iv_Q hI
  refine q_aload_n c_255_0 rfl (q_iconst c_255_1 (v_pi (z := 0) c_255_2 kf_8_3 rfl (Nat.le_of_ble_eq_true rfl) rfl rfl rfl (by decide) (q_aload_n c_255_5 rfl (q_iload_n c_255_6 rfl (q_iload_n c_255_7 rfl (q_call c_255_8 rfl rfl rfl (q_iload_n c_254_0 rfl ?_)))))))
  by_cases h_1 : a2 < 0
  · refine v_if_lt_t (t := 25) c_254_1 rfl ⟨ha2.1, h_1, by decide⟩ (q_iconst c_254_25 (v_zret c_254_26 rfl (by decide) (bk_inl (v_if_eq_t (t := 28) c_255_11 rfl (by decide) (q_iconst c_255_28 (q_iconst c_255_29 (q_iconst c_255_30 ?_)))))))
    refine v_cv c_255_31 km_8_203 rfl rfl (Nat.le_of_ble_eq_true rfl) ⟨⟨rfl, rfl⟩, Nat.le_of_ble_eq_true rfl, rfl⟩ (Nat.le_of_ble_eq_true rfl) (Nat.le_of_ble_eq_true rfl) (q_iload_n c_145_0 rfl (v_if_ne_f (t := 26) c_145_1 rfl (by decide) (q_aload_n c_145_4 rfl (v_gi (z := 0) (v := 0) c_145_5 kf_8_3 rfl (Nat.le_of_ble_eq_true rfl) rfl rfl (up_e rfl) (v_if_ne_f (t := 26) c_145_8 rfl (by decide) (q_aload_n c_145_11 rfl (q_iload_n c_145_12 rfl ?_)))))))
    refine v_pi (z := 0) c_145_13 kf_8_3 rfl (Nat.le_of_ble_eq_true rfl) rfl rfl rfl (by decide) (q_aload_n c_145_16 rfl (v_gr (t := 42) c_145_17 kf_8_7 rfl (Nat.le_of_ble_eq_true rfl) rfl (q_iload_n c_145_20 rfl (q_dup2 c_145_21 ⟨rfl, rfl⟩ ?_))))
    have h_2 := ir_42 hI 1
    refine v_ia (v := c 42 1) c_145_22 rfl (by decide) (by decide) (by decide) ((up_c (nn rfl)).trans (up_c (nn rfl))) (q_iconst c_145_23 (v_iadd (v := c 42 1 + 1) c_145_24 rfl (v_nrm (fun y_3 hy_3 => (v_is c_145_25 rfl (by decide) (by decide) (by decide) (q_aload_n c_145_26 rfl (v_gi (z := 0) (v := 1) c_145_27 kf_8_3 rfl (Nat.le_of_ble_eq_true rfl) rfl rfl ((up_c (nn rfl)).trans (up_e rfl)) (v_if_ne_t (t := 37) c_145_30 rfl (by decide) ?_))))))))
    refine q_iconst c_145_37 (v_zret c_145_38 rfl (by decide) (bk_inl (v_if_ne_f (t := 39) c_255_34 rfl (by decide) (q_iconst c_255_37 (q_iret c_255_38 rfl ?_)))))
    have hI_4 := iw_41_0 (v := 0) hI ⟨by decide, by decide⟩
    have hI_5 := iw_41_0 (v := 1) hI_4 ⟨by decide, by decide⟩
    have hI_6 := iw_42 (j := 1) (v := y_3) hI_5 ⟨hy_3.1, hy_3.2⟩
    exact K (up (up (up c 41 0 0) 41 0 1) 42 1 y_3) 0 hI_6 (fun a j hm => (up_b (Decidable.or_iff_not_imp_left.mpr (fun h1 h2 => hm (Or.inr (Or.inl (Decidable.not_not.mp h1)))))).trans ((up_b (Decidable.or_iff_not_imp_left.mpr (fun h1 h2 => hm (Or.inl ⟨Decidable.not_not.mp h1, h2⟩)))).trans (up_b (Decidable.or_iff_not_imp_left.mpr (fun h1 h2 => hm (Or.inl ⟨Decidable.not_not.mp h1, h2⟩)))))) ⟨by decide, by decide⟩
  · refine v_if_lt_f (t := 25) c_254_1 rfl ⟨by decide, (Int.not_lt.mp h_1), ha2.2⟩ (q_iload_n c_254_4 rfl (v_bip c_254_5 (by decide) ?_))
    by_cases h_7 : a2 > 16
    · refine v_ic_gt_t (t := 25) c_254_7 rfl ⟨by decide, h_7, ha2.2⟩ (q_iconst c_254_25 (v_zret c_254_26 rfl (by decide) (bk_inl (v_if_eq_t (t := 28) c_255_11 rfl (by decide) (q_iconst c_255_28 (q_iconst c_255_29 (q_iconst c_255_30 ?_)))))))
      refine v_cv c_255_31 km_8_203 rfl rfl (Nat.le_of_ble_eq_true rfl) ⟨⟨rfl, rfl⟩, Nat.le_of_ble_eq_true rfl, rfl⟩ (Nat.le_of_ble_eq_true rfl) (Nat.le_of_ble_eq_true rfl) (q_iload_n c_145_0 rfl (v_if_ne_f (t := 26) c_145_1 rfl (by decide) (q_aload_n c_145_4 rfl (v_gi (z := 0) (v := 0) c_145_5 kf_8_3 rfl (Nat.le_of_ble_eq_true rfl) rfl rfl (up_e rfl) (v_if_ne_f (t := 26) c_145_8 rfl (by decide) (q_aload_n c_145_11 rfl (q_iload_n c_145_12 rfl ?_)))))))
      refine v_pi (z := 0) c_145_13 kf_8_3 rfl (Nat.le_of_ble_eq_true rfl) rfl rfl rfl (by decide) (q_aload_n c_145_16 rfl (v_gr (t := 42) c_145_17 kf_8_7 rfl (Nat.le_of_ble_eq_true rfl) rfl (q_iload_n c_145_20 rfl (q_dup2 c_145_21 ⟨rfl, rfl⟩ ?_))))
      have h_8 := ir_42 hI 1
      refine v_ia (v := c 42 1) c_145_22 rfl (by decide) (by decide) (by decide) ((up_c (nn rfl)).trans (up_c (nn rfl))) (q_iconst c_145_23 (v_iadd (v := c 42 1 + 1) c_145_24 rfl (v_nrm (fun y_9 hy_9 => (v_is c_145_25 rfl (by decide) (by decide) (by decide) (q_aload_n c_145_26 rfl (v_gi (z := 0) (v := 1) c_145_27 kf_8_3 rfl (Nat.le_of_ble_eq_true rfl) rfl rfl ((up_c (nn rfl)).trans (up_e rfl)) (v_if_ne_t (t := 37) c_145_30 rfl (by decide) ?_))))))))
      refine q_iconst c_145_37 (v_zret c_145_38 rfl (by decide) (bk_inl (v_if_ne_f (t := 39) c_255_34 rfl (by decide) (q_iconst c_255_37 (q_iret c_255_38 rfl ?_)))))
      have hI_10 := iw_41_0 (v := 0) hI ⟨by decide, by decide⟩
      have hI_11 := iw_41_0 (v := 1) hI_10 ⟨by decide, by decide⟩
      have hI_12 := iw_42 (j := 1) (v := y_9) hI_11 ⟨hy_9.1, hy_9.2⟩
      exact K (up (up (up c 41 0 0) 41 0 1) 42 1 y_9) 0 hI_12 (fun a j hm => (up_b (Decidable.or_iff_not_imp_left.mpr (fun h1 h2 => hm (Or.inr (Or.inl (Decidable.not_not.mp h1)))))).trans ((up_b (Decidable.or_iff_not_imp_left.mpr (fun h1 h2 => hm (Or.inl ⟨Decidable.not_not.mp h1, h2⟩)))).trans (up_b (Decidable.or_iff_not_imp_left.mpr (fun h1 h2 => hm (Or.inl ⟨Decidable.not_not.mp h1, h2⟩)))))) ⟨by decide, by decide⟩
    · refine v_ic_gt_f (t := 25) c_254_7 rfl ⟨ha2.1, (Int.not_lt.mp h_7), by decide⟩ (q_iload_n c_254_10 rfl (q_iconst c_254_11 ?_))
      by_cases h_13 : a3 < 1
      · refine v_ic_lt_t (t := 25) c_254_12 rfl ⟨ha3.1, h_13, by decide⟩ (q_iconst c_254_25 (v_zret c_254_26 rfl (by decide) (bk_inl (v_if_eq_t (t := 28) c_255_11 rfl (by decide) (q_iconst c_255_28 (q_iconst c_255_29 (q_iconst c_255_30 ?_)))))))
        refine v_cv c_255_31 km_8_203 rfl rfl (Nat.le_of_ble_eq_true rfl) ⟨⟨rfl, rfl⟩, Nat.le_of_ble_eq_true rfl, rfl⟩ (Nat.le_of_ble_eq_true rfl) (Nat.le_of_ble_eq_true rfl) (q_iload_n c_145_0 rfl (v_if_ne_f (t := 26) c_145_1 rfl (by decide) (q_aload_n c_145_4 rfl (v_gi (z := 0) (v := 0) c_145_5 kf_8_3 rfl (Nat.le_of_ble_eq_true rfl) rfl rfl (up_e rfl) (v_if_ne_f (t := 26) c_145_8 rfl (by decide) (q_aload_n c_145_11 rfl (q_iload_n c_145_12 rfl ?_)))))))
        refine v_pi (z := 0) c_145_13 kf_8_3 rfl (Nat.le_of_ble_eq_true rfl) rfl rfl rfl (by decide) (q_aload_n c_145_16 rfl (v_gr (t := 42) c_145_17 kf_8_7 rfl (Nat.le_of_ble_eq_true rfl) rfl (q_iload_n c_145_20 rfl (q_dup2 c_145_21 ⟨rfl, rfl⟩ ?_))))
        have h_14 := ir_42 hI 1
        refine v_ia (v := c 42 1) c_145_22 rfl (by decide) (by decide) (by decide) ((up_c (nn rfl)).trans (up_c (nn rfl))) (q_iconst c_145_23 (v_iadd (v := c 42 1 + 1) c_145_24 rfl (v_nrm (fun y_15 hy_15 => (v_is c_145_25 rfl (by decide) (by decide) (by decide) (q_aload_n c_145_26 rfl (v_gi (z := 0) (v := 1) c_145_27 kf_8_3 rfl (Nat.le_of_ble_eq_true rfl) rfl rfl ((up_c (nn rfl)).trans (up_e rfl)) (v_if_ne_t (t := 37) c_145_30 rfl (by decide) ?_))))))))
        refine q_iconst c_145_37 (v_zret c_145_38 rfl (by decide) (bk_inl (v_if_ne_f (t := 39) c_255_34 rfl (by decide) (q_iconst c_255_37 (q_iret c_255_38 rfl ?_)))))
        have hI_16 := iw_41_0 (v := 0) hI ⟨by decide, by decide⟩
        have hI_17 := iw_41_0 (v := 1) hI_16 ⟨by decide, by decide⟩
        have hI_18 := iw_42 (j := 1) (v := y_15) hI_17 ⟨hy_15.1, hy_15.2⟩
        exact K (up (up (up c 41 0 0) 41 0 1) 42 1 y_15) 0 hI_18 (fun a j hm => (up_b (Decidable.or_iff_not_imp_left.mpr (fun h1 h2 => hm (Or.inr (Or.inl (Decidable.not_not.mp h1)))))).trans ((up_b (Decidable.or_iff_not_imp_left.mpr (fun h1 h2 => hm (Or.inl ⟨Decidable.not_not.mp h1, h2⟩)))).trans (up_b (Decidable.or_iff_not_imp_left.mpr (fun h1 h2 => hm (Or.inl ⟨Decidable.not_not.mp h1, h2⟩)))))) ⟨by decide, by decide⟩
      · refine v_ic_lt_f (t := 25) c_254_12 rfl ⟨by decide, (Int.not_lt.mp h_13), ha3.2⟩ (q_iload_n c_254_15 rfl (v_bip c_254_16 (by decide) ?_))
        by_cases h_19 : a3 > 48
        · refine v_ic_gt_t (t := 25) c_254_18 rfl ⟨by decide, h_19, ha3.2⟩ (q_iconst c_254_25 (v_zret c_254_26 rfl (by decide) (bk_inl (v_if_eq_t (t := 28) c_255_11 rfl (by decide) (q_iconst c_255_28 (q_iconst c_255_29 (q_iconst c_255_30 ?_)))))))
          refine v_cv c_255_31 km_8_203 rfl rfl (Nat.le_of_ble_eq_true rfl) ⟨⟨rfl, rfl⟩, Nat.le_of_ble_eq_true rfl, rfl⟩ (Nat.le_of_ble_eq_true rfl) (Nat.le_of_ble_eq_true rfl) (q_iload_n c_145_0 rfl (v_if_ne_f (t := 26) c_145_1 rfl (by decide) (q_aload_n c_145_4 rfl (v_gi (z := 0) (v := 0) c_145_5 kf_8_3 rfl (Nat.le_of_ble_eq_true rfl) rfl rfl (up_e rfl) (v_if_ne_f (t := 26) c_145_8 rfl (by decide) (q_aload_n c_145_11 rfl (q_iload_n c_145_12 rfl ?_)))))))
          refine v_pi (z := 0) c_145_13 kf_8_3 rfl (Nat.le_of_ble_eq_true rfl) rfl rfl rfl (by decide) (q_aload_n c_145_16 rfl (v_gr (t := 42) c_145_17 kf_8_7 rfl (Nat.le_of_ble_eq_true rfl) rfl (q_iload_n c_145_20 rfl (q_dup2 c_145_21 ⟨rfl, rfl⟩ ?_))))
          have h_20 := ir_42 hI 1
          refine v_ia (v := c 42 1) c_145_22 rfl (by decide) (by decide) (by decide) ((up_c (nn rfl)).trans (up_c (nn rfl))) (q_iconst c_145_23 (v_iadd (v := c 42 1 + 1) c_145_24 rfl (v_nrm (fun y_21 hy_21 => (v_is c_145_25 rfl (by decide) (by decide) (by decide) (q_aload_n c_145_26 rfl (v_gi (z := 0) (v := 1) c_145_27 kf_8_3 rfl (Nat.le_of_ble_eq_true rfl) rfl rfl ((up_c (nn rfl)).trans (up_e rfl)) (v_if_ne_t (t := 37) c_145_30 rfl (by decide) ?_))))))))
          refine q_iconst c_145_37 (v_zret c_145_38 rfl (by decide) (bk_inl (v_if_ne_f (t := 39) c_255_34 rfl (by decide) (q_iconst c_255_37 (q_iret c_255_38 rfl ?_)))))
          have hI_22 := iw_41_0 (v := 0) hI ⟨by decide, by decide⟩
          have hI_23 := iw_41_0 (v := 1) hI_22 ⟨by decide, by decide⟩
          have hI_24 := iw_42 (j := 1) (v := y_21) hI_23 ⟨hy_21.1, hy_21.2⟩
          exact K (up (up (up c 41 0 0) 41 0 1) 42 1 y_21) 0 hI_24 (fun a j hm => (up_b (Decidable.or_iff_not_imp_left.mpr (fun h1 h2 => hm (Or.inr (Or.inl (Decidable.not_not.mp h1)))))).trans ((up_b (Decidable.or_iff_not_imp_left.mpr (fun h1 h2 => hm (Or.inl ⟨Decidable.not_not.mp h1, h2⟩)))).trans (up_b (Decidable.or_iff_not_imp_left.mpr (fun h1 h2 => hm (Or.inl ⟨Decidable.not_not.mp h1, h2⟩)))))) ⟨by decide, by decide⟩
        · refine v_ic_gt_f (t := 25) c_254_18 rfl ⟨ha3.1, (Int.not_lt.mp h_19), by decide⟩ (q_iconst c_254_21 (q_goto (t := 26) c_254_22 rfl (v_zret c_254_26 rfl (by decide) (bk_inl (v_if_eq_f (t := 28) c_255_11 rfl (by decide) (q_iload c_255_14 rfl (q_iconst c_255_16 ?_)))))))
          refine q_iconst c_255_17 (q_call c_255_18 rfl rfl rfl (q_iload_n c_146_0 rfl (q_iload_n c_146_1 rfl ?_)))
          by_cases h_25 : a4 < 0
          · refine v_ic_lt_t (t := 14) c_146_2 rfl ⟨ha4.1, h_25, by decide⟩ (q_iconst c_146_14 (v_zret c_146_15 rfl (by decide) (bk_inl (v_if_eq_t (t := 28) c_255_21 rfl (by decide) (q_iconst c_255_28 (q_iconst c_255_29 (q_iconst c_255_30 ?_)))))))
            refine v_cv c_255_31 km_8_203 rfl rfl (Nat.le_of_ble_eq_true rfl) ⟨⟨rfl, rfl⟩, Nat.le_of_ble_eq_true rfl, rfl⟩ (Nat.le_of_ble_eq_true rfl) (Nat.le_of_ble_eq_true rfl) (q_iload_n c_145_0 rfl (v_if_ne_f (t := 26) c_145_1 rfl (by decide) (q_aload_n c_145_4 rfl (v_gi (z := 0) (v := 0) c_145_5 kf_8_3 rfl (Nat.le_of_ble_eq_true rfl) rfl rfl (up_e rfl) (v_if_ne_f (t := 26) c_145_8 rfl (by decide) (q_aload_n c_145_11 rfl (q_iload_n c_145_12 rfl ?_)))))))
            refine v_pi (z := 0) c_145_13 kf_8_3 rfl (Nat.le_of_ble_eq_true rfl) rfl rfl rfl (by decide) (q_aload_n c_145_16 rfl (v_gr (t := 42) c_145_17 kf_8_7 rfl (Nat.le_of_ble_eq_true rfl) rfl (q_iload_n c_145_20 rfl (q_dup2 c_145_21 ⟨rfl, rfl⟩ ?_))))
            have h_26 := ir_42 hI 1
            refine v_ia (v := c 42 1) c_145_22 rfl (by decide) (by decide) (by decide) ((up_c (nn rfl)).trans (up_c (nn rfl))) (q_iconst c_145_23 (v_iadd (v := c 42 1 + 1) c_145_24 rfl (v_nrm (fun y_27 hy_27 => (v_is c_145_25 rfl (by decide) (by decide) (by decide) (q_aload_n c_145_26 rfl (v_gi (z := 0) (v := 1) c_145_27 kf_8_3 rfl (Nat.le_of_ble_eq_true rfl) rfl rfl ((up_c (nn rfl)).trans (up_e rfl)) (v_if_ne_t (t := 37) c_145_30 rfl (by decide) ?_))))))))
            refine q_iconst c_145_37 (v_zret c_145_38 rfl (by decide) (bk_inl (v_if_ne_f (t := 39) c_255_34 rfl (by decide) (q_iconst c_255_37 (q_iret c_255_38 rfl ?_)))))
            have hI_28 := iw_41_0 (v := 0) hI ⟨by decide, by decide⟩
            have hI_29 := iw_41_0 (v := 1) hI_28 ⟨by decide, by decide⟩
            have hI_30 := iw_42 (j := 1) (v := y_27) hI_29 ⟨hy_27.1, hy_27.2⟩
            exact K (up (up (up c 41 0 0) 41 0 1) 42 1 y_27) 0 hI_30 (fun a j hm => (up_b (Decidable.or_iff_not_imp_left.mpr (fun h1 h2 => hm (Or.inr (Or.inl (Decidable.not_not.mp h1)))))).trans ((up_b (Decidable.or_iff_not_imp_left.mpr (fun h1 h2 => hm (Or.inl ⟨Decidable.not_not.mp h1, h2⟩)))).trans (up_b (Decidable.or_iff_not_imp_left.mpr (fun h1 h2 => hm (Or.inl ⟨Decidable.not_not.mp h1, h2⟩)))))) ⟨by decide, by decide⟩
          · refine v_ic_lt_f (t := 14) c_146_2 rfl ⟨by decide, (Int.not_lt.mp h_25), ha4.2⟩ (q_iload_n c_146_5 rfl (q_iload_n c_146_6 rfl ?_))
            by_cases h_31 : a4 > 3
            · refine v_ic_gt_t (t := 14) c_146_7 rfl ⟨by decide, h_31, ha4.2⟩ (q_iconst c_146_14 (v_zret c_146_15 rfl (by decide) (bk_inl (v_if_eq_t (t := 28) c_255_21 rfl (by decide) (q_iconst c_255_28 (q_iconst c_255_29 (q_iconst c_255_30 ?_)))))))
              refine v_cv c_255_31 km_8_203 rfl rfl (Nat.le_of_ble_eq_true rfl) ⟨⟨rfl, rfl⟩, Nat.le_of_ble_eq_true rfl, rfl⟩ (Nat.le_of_ble_eq_true rfl) (Nat.le_of_ble_eq_true rfl) (q_iload_n c_145_0 rfl (v_if_ne_f (t := 26) c_145_1 rfl (by decide) (q_aload_n c_145_4 rfl (v_gi (z := 0) (v := 0) c_145_5 kf_8_3 rfl (Nat.le_of_ble_eq_true rfl) rfl rfl (up_e rfl) (v_if_ne_f (t := 26) c_145_8 rfl (by decide) (q_aload_n c_145_11 rfl (q_iload_n c_145_12 rfl ?_)))))))
              refine v_pi (z := 0) c_145_13 kf_8_3 rfl (Nat.le_of_ble_eq_true rfl) rfl rfl rfl (by decide) (q_aload_n c_145_16 rfl (v_gr (t := 42) c_145_17 kf_8_7 rfl (Nat.le_of_ble_eq_true rfl) rfl (q_iload_n c_145_20 rfl (q_dup2 c_145_21 ⟨rfl, rfl⟩ ?_))))
              have h_32 := ir_42 hI 1
              refine v_ia (v := c 42 1) c_145_22 rfl (by decide) (by decide) (by decide) ((up_c (nn rfl)).trans (up_c (nn rfl))) (q_iconst c_145_23 (v_iadd (v := c 42 1 + 1) c_145_24 rfl (v_nrm (fun y_33 hy_33 => (v_is c_145_25 rfl (by decide) (by decide) (by decide) (q_aload_n c_145_26 rfl (v_gi (z := 0) (v := 1) c_145_27 kf_8_3 rfl (Nat.le_of_ble_eq_true rfl) rfl rfl ((up_c (nn rfl)).trans (up_e rfl)) (v_if_ne_t (t := 37) c_145_30 rfl (by decide) ?_))))))))
              refine q_iconst c_145_37 (v_zret c_145_38 rfl (by decide) (bk_inl (v_if_ne_f (t := 39) c_255_34 rfl (by decide) (q_iconst c_255_37 (q_iret c_255_38 rfl ?_)))))
              have hI_34 := iw_41_0 (v := 0) hI ⟨by decide, by decide⟩
              have hI_35 := iw_41_0 (v := 1) hI_34 ⟨by decide, by decide⟩
              have hI_36 := iw_42 (j := 1) (v := y_33) hI_35 ⟨hy_33.1, hy_33.2⟩
              exact K (up (up (up c 41 0 0) 41 0 1) 42 1 y_33) 0 hI_36 (fun a j hm => (up_b (Decidable.or_iff_not_imp_left.mpr (fun h1 h2 => hm (Or.inr (Or.inl (Decidable.not_not.mp h1)))))).trans ((up_b (Decidable.or_iff_not_imp_left.mpr (fun h1 h2 => hm (Or.inl ⟨Decidable.not_not.mp h1, h2⟩)))).trans (up_b (Decidable.or_iff_not_imp_left.mpr (fun h1 h2 => hm (Or.inl ⟨Decidable.not_not.mp h1, h2⟩)))))) ⟨by decide, by decide⟩
            · refine v_ic_gt_f (t := 14) c_146_7 rfl ⟨ha4.1, (Int.not_lt.mp h_31), by decide⟩ (q_iconst c_146_10 (q_goto (t := 15) c_146_11 rfl (v_zret c_146_15 rfl (by decide) (bk_inl (v_if_eq_f (t := 28) c_255_21 rfl (by decide) (q_iconst c_255_24 (q_goto (t := 29) c_255_25 rfl ?_)))))))
              refine q_iconst c_255_29 (q_iconst c_255_30 (v_cv c_255_31 km_8_203 rfl rfl (Nat.le_of_ble_eq_true rfl) ⟨⟨rfl, rfl⟩, Nat.le_of_ble_eq_true rfl, rfl⟩ (Nat.le_of_ble_eq_true rfl) (Nat.le_of_ble_eq_true rfl) (q_iload_n c_145_0 rfl (v_if_ne_t (t := 26) c_145_1 rfl (by decide) (q_aload_n c_145_26 rfl (v_gi (z := 0) (v := 0) c_145_27 kf_8_3 rfl (Nat.le_of_ble_eq_true rfl) rfl rfl (up_e rfl) (v_if_ne_f (t := 37) c_145_30 rfl (by decide) ?_)))))))
              refine q_iconst c_145_33 (q_goto (t := 38) c_145_34 rfl (v_zret c_145_38 rfl (by decide) (bk_inl (v_if_ne_t (t := 39) c_255_34 rfl (by decide) (q_aload_n c_255_39 rfl (q_iload_n c_255_40 rfl (q_iload_n c_255_41 rfl ?_)))))))
              refine q_iload_n c_255_42 rfl ?_
              have hI_37 := iw_41_0 (v := 0) hI ⟨by decide, by decide⟩
              refine v_cv c_255_43 km_8_448 rfl rfl (Nat.le_of_ble_eq_true rfl) ⟨⟨rfl, rfl⟩, Nat.le_of_ble_eq_true rfl, rfl⟩ (Nat.le_of_ble_eq_true rfl) (Nat.le_of_ble_eq_true rfl) (s_253 (a1 := a1) (a2 := a2) (a3 := a3) hI_37 (show (-2147483648) ≤ a1 ∧ a1 ≤ 2147483647 from ha1) (show 0 ≤ a2 ∧ a2 ≤ 16 from ⟨by first | exact q_720657ba9 h_1 | omega, by first | exact q_7f2151846 h_7 | omega⟩) (show 1 ≤ a3 ∧ a3 ≤ 48 from ⟨by first | exact q_f19038599 h_13 | omega, by first | exact q_1cdd54b12 h_19 | omega⟩) (fun c_38 hI_39 hF_40 => (bk_inl (q_iload c_255_46 rfl ?_))))
              by_cases h_41 : a4 ≠ 0
              · refine v_if_ne_t (t := 69) c_255_48 rfl ⟨h_41, ⟨ha4.1, ha4.2⟩, by decide, by decide⟩ (q_iload c_255_69 rfl (q_iconst c_255_71 ?_))
                by_cases h_42 : a4 ≠ 1
                · refine v_ic_ne_t (t := 82) c_255_72 rfl ⟨h_42, ⟨ha4.1, ha4.2⟩, by decide, by decide⟩ (q_iload c_255_82 rfl (q_iconst c_255_84 ?_))
                  by_cases h_43 : a4 ≠ 2
                  · refine v_ic_ne_t (t := 106) c_255_85 rfl ⟨h_43, ⟨ha4.1, ha4.2⟩, by decide, by decide⟩ (q_aload_n c_255_106 rfl (v_cv c_255_107 km_8_390 rfl rfl (Nat.le_of_ble_eq_true rfl) ⟨⟨rfl, rfl⟩, Nat.le_of_ble_eq_true rfl, rfl⟩ (Nat.le_of_ble_eq_true rfl) (Nat.le_of_ble_eq_true rfl) (s_209 hI_39 (fun y_44 hy_44 => (bk_inl (q_iret c_255_110 rfl ?_))))))
                    exact K c_38 y_44 hI_39 (fun a j hm => (hF_40 a j (qv_3730a4f02 hm)).trans (up_b (Decidable.or_iff_not_imp_left.mpr (fun h1 h2 => hm (Or.inl ⟨Decidable.not_not.mp h1, h2⟩))))) hy_44
                  · refine v_ic_ne_f (t := 106) c_255_85 rfl (Decidable.not_not.mp h_43) (q_aload_n c_255_88 rfl (v_gr (t := 59) c_255_89 kf_8_68 rfl (Nat.le_of_ble_eq_true rfl) rfl (v_bip c_255_92 (by decide) ?_)))
                    have h_45 := ir_59 hI_39 35
                    refine v_ia (v := c_38 59 35) c_255_94 rfl (by decide) (by decide) (by decide) rfl (q_aload_n c_255_95 rfl (v_gr (t := 58) c_255_96 kf_8_65 rfl (Nat.le_of_ble_eq_true rfl) rfl (v_bip c_255_99 (by decide) ?_)))
                    have h_46 := ir_58 hI 35
                    have kn_47 : Hid (c_38 58 35 = c 58 35) := (hF_40 58 35 qn_11637025e).trans (up_c (nn rfl))
                    refine v_ia (v := c 58 35) c_255_101 rfl (by decide) (by decide) (by decide) (hid kn_47) (v_isub (v := c_38 59 35 - c 58 35) c_255_102 (by first | (clear ha1 ha2 ha3 ha4 h_1 h_7 h_13 h_19 h_25 h_31 h_43 h_45 h_46 h_41 h_42; omega) | omega) (v_nrm (fun y_48 hy_48 => (q_goto (t := 110) c_255_103 rfl (q_iret c_255_110 rfl ?_)))))
                    exact K c_38 y_48 hI_39 (fun a j hm => (hF_40 a j (qv_3730a4f02 hm)).trans (up_b (Decidable.or_iff_not_imp_left.mpr (fun h1 h2 => hm (Or.inl ⟨Decidable.not_not.mp h1, h2⟩))))) hy_48
                · refine v_ic_ne_f (t := 82) c_255_72 rfl (Decidable.not_not.mp h_42) (q_aload_n c_255_75 rfl (v_cv c_255_76 km_8_387 rfl rfl (Nat.le_of_ble_eq_true rfl) ⟨⟨rfl, rfl⟩, Nat.le_of_ble_eq_true rfl, rfl⟩ (Nat.le_of_ble_eq_true rfl) (Nat.le_of_ble_eq_true rfl) (s_203 hI_39 (fun y_49 hy_49 => (bk_inl (q_goto (t := 110) c_255_79 rfl (q_iret c_255_110 rfl ?_)))))))
                  exact K c_38 y_49 hI_39 (fun a j hm => (hF_40 a j (qv_3730a4f02 hm)).trans (up_b (Decidable.or_iff_not_imp_left.mpr (fun h1 h2 => hm (Or.inl ⟨Decidable.not_not.mp h1, h2⟩))))) hy_49
              · refine v_if_ne_f (t := 69) c_255_48 rfl (Decidable.not_not.mp h_41) (q_aload_n c_255_51 rfl (v_gr (t := 59) c_255_52 kf_8_68 rfl (Nat.le_of_ble_eq_true rfl) rfl (v_bip c_255_55 (by decide) ?_)))
                have h_50 := ir_59 hI_39 36
                refine v_ia (v := c_38 59 36) c_255_57 rfl (by decide) (by decide) (by decide) rfl (q_aload_n c_255_58 rfl (v_gr (t := 58) c_255_59 kf_8_65 rfl (Nat.le_of_ble_eq_true rfl) rfl (v_bip c_255_62 (by decide) ?_)))
                have h_51 := ir_58 hI 36
                have kn_52 : Hid (c_38 58 36 = c 58 36) := (hF_40 58 36 qn_11637025e).trans (up_c (nn rfl))
                refine v_ia (v := c 58 36) c_255_64 rfl (by decide) (by decide) (by decide) (hid kn_52) (v_isub (v := c_38 59 36 - c 58 36) c_255_65 (by omega) (v_nrm (fun y_53 hy_53 => (q_goto (t := 110) c_255_66 rfl (q_iret c_255_110 rfl ?_)))))
                exact K c_38 y_53 hI_39 (fun a j hm => (hF_40 a j (qv_3730a4f02 hm)).trans (up_b (Decidable.or_iff_not_imp_left.mpr (fun h1 h2 => hm (Or.inl ⟨Decidable.not_not.mp h1, h2⟩))))) hy_53

set_option maxRecDepth 100000 in
set_option maxHeartbeats 4000000 in
theorem s_256_l {sc : List Int32} {d P Q : Nat} {c : ME} {a1 : Int} {a2 : Int} {a3 : Int} {a4 : Int} {a5 : Int} {a6 : Int} {Z : AR → Prop} (hI : Iv 0 (-1) P Q c) (ha1 : (-2147483648) ≤ a1 ∧ a1 ≤ 2147483647) (ha2 : (-2147483648) ≤ a2 ∧ a2 ≤ 2147483647) (ha3 : (-2147483648) ≤ a3 ∧ a3 ≤ 2147483647) (ha4 : (-2147483648) ≤ a4 ∧ a4 ≤ 2147483647) (ha5 : (-2147483648) ≤ a5 ∧ a5 ≤ 2147483647) (ha6 : (-2147483648) ≤ a6 ∧ a6 ≤ 2147483647) (K : ∀ (c2 : ME) (y : Int), Iv 0 (-1) P Q c2 → (∀ (a : Nat) (j : Int), ¬ ((a = 41 ∧ j = 0) ∨ a = 42 ∨ (a = 41 ∧ j = 50) ∨ a = 59 ∨ a = 54 ∨ a = 55) → c2 a j = c a j) → (-2147483648) ≤ y ∧ y ≤ 2147483647 → Z (.inl (some (vi y)), Wd P Q P P c2, 0, 0)) : ∀ n : Nat, (∀ (c2 : ME) (v7 : Int) (v8 : Int) (v9 : Int) (v10 : Int), Iv 0 (-1) P Q c2 → (∀ (a : Nat) (j : Int), ¬ ((a = 41 ∧ j = 0) ∨ a = 42 ∨ (a = 41 ∧ j = 50) ∨ a = 59 ∨ a = 54 ∨ a = 55) → c2 a j = c a j) → (-2147483648) ≤ v7 ∧ v7 ≤ 2147483647 → 0 ≤ v8 ∧ v8 ≤ 2147483647 → (-2147483648) ≤ v9 ∧ v9 ≤ 2147483647 → 0 ≤ v10 ∧ v10 ≤ 10 → ((a2 ≥ 1 ∧ a2 ≤ 10)) → ((a6 ≥ 0 ∧ a6 ≤ 5)) → ((a3 ≥ 0 ∧ a3 ≤ 16)) → ((a4 ≥ 1 ∧ a4 ≤ 48)) → 21 - 2 * v10 < (n : Int) → Wp sc (d + 15) 256 77 [(0, .ref 41), (1, vi a1), (2, vi a2), (3, vi a3), (4, vi a4), (5, vi a5), (6, vi a6), (7, vi v7), (8, vi v8), (9, vi v9), (10, vi v10)] [] (Wd P Q P P c2) 0 0 Z) := by
  intro n
  induction n with
  | zero => exact (by intro c2 v7 v8 v9 v10 hI2 hF hv7 hv8 hv9 hv10 hx0 hx1 hx2 hx3 hm9; have hP := iv_P hI; have hQ := iv_Q hI; exfalso; omega)
  | succ n ih =>
    have hP := iv_P hI
    have hQ := iv_Q hI
    intro c2 v7 v8 v9 v10 hI2 hF hv7 hv8 hv9 hv10 hx0 hx1 hx2 hx3 hm9
    refine q_iload c_256_77 rfl (q_iload_n c_256_79 rfl ?_)
    by_cases h_1 : v10 ≥ a2
    · refine v_ic_ge_t (t := 174) c_256_80 rfl ⟨ha2.1, h_1, (Int.le_trans hv10.2 (by decide))⟩ (q_iload c_256_174 rfl ?_)
      by_cases h_2 : a5 ≠ 0
      · refine v_if_ne_t (t := 184) c_256_176 rfl ⟨h_2, ⟨ha5.1, ha5.2⟩, by decide, by decide⟩ (q_iload c_256_184 rfl (q_iconst c_256_186 ?_))
        by_cases h_3 : a5 ≠ 1
        · refine v_ic_ne_t (t := 195) c_256_187 rfl ⟨h_3, ⟨ha5.1, ha5.2⟩, by decide, by decide⟩ (q_iload c_256_195 rfl (q_iret c_256_197 rfl ?_))
          exact K c2 v9 hI2 (fun a j hm => hF a j hm) hv9
        · refine v_ic_ne_f (t := 195) c_256_187 rfl (Decidable.not_not.mp h_3) (q_iload c_256_190 rfl (q_goto (t := 197) c_256_192 rfl (q_iret c_256_197 rfl ?_)))
          exact K c2 v8 hI2 (fun a j hm => hF a j hm) ⟨(Int.le_trans (by decide) hv8.1), hv8.2⟩
      · refine v_if_ne_f (t := 184) c_256_176 rfl (Decidable.not_not.mp h_2) (q_iload c_256_179 rfl (q_goto (t := 197) c_256_181 rfl (q_iret c_256_197 rfl ?_)))
        exact K c2 v7 hI2 (fun a j hm => hF a j hm) hv7
    · refine v_ic_ge_f (t := 174) c_256_80 rfl ⟨(Int.le_trans (by decide) hv10.1), (Int.not_le.mp h_1), ha2.2⟩ (q_aload_n c_256_83 rfl (q_iload_n c_256_84 rfl (q_iload c_256_85 rfl (v_iadd (v := a1 + v10) c_256_87 rfl (v_nrm (fun y_4 hy_4 => (q_iload_n c_256_88 rfl (q_iload c_256_89 rfl ?_))))))))
      refine v_cv c_256_91 km_8_448 rfl rfl (Nat.le_of_ble_eq_true rfl) ⟨⟨rfl, rfl⟩, Nat.le_of_ble_eq_true rfl, rfl⟩ (Nat.le_of_ble_eq_true rfl) (Nat.le_of_ble_eq_true rfl) (s_253 (a1 := y_4) (a2 := a3) (a3 := a4) hI2 (show (-2147483648) ≤ y_4 ∧ y_4 ≤ 2147483647 from hy_4) (show 0 ≤ a3 ∧ a3 ≤ 16 from ⟨by first | (clear ha1 ha2 ha3 ha4 ha5 ha6 hv7 hv8 hv9 hv10 hx0 hx1 hx3 h_1; omega) | omega, by first | (clear ha1 ha2 ha3 ha4 ha5 ha6 hv7 hv8 hv9 hv10 hx0 hx1 hx3 h_1; omega) | omega⟩) (show 1 ≤ a4 ∧ a4 ≤ 48 from ⟨by first | (clear ha1 ha2 ha3 ha4 ha5 ha6 hv7 hv8 hv9 hv10 hx0 hx1 hx2 h_1; omega) | omega, by first | (clear ha1 ha2 ha3 ha4 ha5 ha6 hv7 hv8 hv9 hv10 hx0 hx1 hx2 h_1; omega) | omega⟩) (fun c_5 hI_6 hF_7 => (bk_inl (q_aload_n c_256_94 rfl (v_gr (t := 59) c_256_95 kf_8_68 rfl (Nat.le_of_ble_eq_true rfl) rfl (v_bip c_256_98 (by decide) ?_))))))
      have h_8 := ir_59 hI_6 36
      refine v_ia (v := c_5 59 36) c_256_100 rfl (by decide) (by decide) (by decide) rfl (q_aload_n c_256_101 rfl (v_gr (t := 58) c_256_102 kf_8_65 rfl (Nat.le_of_ble_eq_true rfl) rfl (v_bip c_256_105 (by decide) ?_)))
      have h_9 := ir_58 hI 36
      have kn_10 : Hid (c2 58 36 = c 58 36) := hF 58 36 qn_8e56cb93c
      have kn_11 : Hid (c_5 58 36 = c 58 36) := (hF_7 58 36 qn_11637025e).trans (hid kn_10)
      refine v_ia (v := c 58 36) c_256_107 rfl (by decide) (by decide) (by decide) (hid kn_11) (v_isub (v := c_5 59 36 - c 58 36) c_256_108 (by first | (clear ha1 ha2 ha3 ha4 ha5 ha6 hv7 hv8 hv9 hv10 hx0 hx1 hx2 hx3 h_1 h_8 h_9; omega) | omega) (v_nrm (fun y_12 hy_12 => (q_istore c_256_109 (Nat.le_of_ble_eq_true rfl) (q_iload c_256_111 rfl (q_iconst c_256_113 ?_))))))
      by_cases h_13 : v7 = (-1)
      · refine v_ic_eq_t (t := 124) c_256_114 rfl h_13 (q_iload c_256_124 rfl (q_goto (t := 131) c_256_126 rfl (q_istore c_256_131 (Nat.le_of_ble_eq_true rfl) (q_iload c_256_133 rfl (q_iload c_256_135 rfl ?_)))))
        by_cases h_14 : y_12 ≤ v8
        · refine v_ic_le_t (t := 145) c_256_137 rfl ⟨hy_12.1, h_14, hv8.2⟩ (q_iload c_256_145 rfl (q_istore c_256_147 (Nat.le_of_ble_eq_true rfl) (q_iload c_256_149 rfl (q_aload_n c_256_151 rfl (q_iload c_256_152 rfl ?_)))))
          have h_15 := ir_59_g hI_6 (j := 4 * a6) (by first | (clear ha1 ha2 ha3 ha4 ha5 ha6 hv7 hv8 hv9 hv10 hx0 hx2 hx3 h_1 h_8 h_9 h_13 h_14; omega) | omega)
          have h_16 := ir_59_g hI_6 (j := 4 * a6 + 1) (by first | (clear ha1 ha2 ha3 ha4 ha5 ha6 hv7 hv8 hv9 hv10 hx0 hx2 hx3 h_1 h_8 h_9 h_13 h_14 h_15; omega) | omega)
          have h_17 := ir_59_g hI_6 (j := 4 * a6 + 2) (by first | (clear ha1 ha2 ha3 ha4 ha5 ha6 hv7 hv8 hv9 hv10 hx0 hx2 hx3 h_1 h_8 h_9 h_13 h_14 h_15 h_16; omega) | omega)
          have h_18 := ir_59_g hI_6 (j := 4 * a6 + 3) (by first | (clear ha1 ha2 ha3 ha4 ha5 ha6 hv7 hv8 hv9 hv10 hx0 hx2 hx3 h_1 h_8 h_9 h_13 h_14 h_15 h_16 h_17; omega) | omega)
          refine v_cv c_256_154 km_8_343 rfl rfl (Nat.le_of_ble_eq_true rfl) ⟨⟨rfl, rfl⟩, Nat.le_of_ble_eq_true rfl, rfl⟩ (Nat.le_of_ble_eq_true rfl) (Nat.le_of_ble_eq_true rfl) (s_187 (v1 := c_5 59 (4 * a6)) (v2 := c_5 59 (4 * a6 + 1)) (v3 := c_5 59 (4 * a6 + 2)) (v4 := c_5 59 (4 * a6 + 3)) (r := c_5 59 (4 * a6 + 1) + c_5 59 (4 * a6 + 2) + c_5 59 (4 * a6 + 3) + c_5 59 (4 * a6)) (a1 := a6) hI_6 (show 0 ≤ a6 ∧ a6 ≤ 5 from ⟨by first | (clear ha1 ha2 ha3 ha4 ha5 ha6 hv7 hv8 hv9 hv10 hx0 hx2 hx3 h_1 h_8 h_9 h_13 h_14; omega) | omega, by first | (clear ha1 ha2 ha3 ha4 ha5 ha6 hv7 hv8 hv9 hv10 hx0 hx2 hx3 h_1 h_8 h_9 h_13 h_14; omega) | omega⟩) (rfl) (rfl) (rfl) (rfl) (by omega) (bk_inl ?_))
          by_cases h_19 : c_5 59 (4 * a6 + 1) + c_5 59 (4 * a6 + 2) + c_5 59 (4 * a6 + 3) + c_5 59 (4 * a6) ≠ 0
          · refine v_if_ne_t (t := 164) c_256_157 rfl ⟨h_19, ⟨by first | exact q_e052ef40e h_15 h_16 h_17 h_18 | omega, by first | exact q_db9ef1f4a h_15 h_16 h_17 h_18 | omega⟩, by decide, by decide⟩ (q_iconst c_256_164 (v_iadd (v := v9) c_256_165 (by first | (clear ha1 ha2 ha3 ha4 ha5 ha6 hv7 hv8 hv9 hv10 hx0 hx1 hx2 hx3 h_1 h_8 h_9 h_13 h_14 h_15 h_16 h_17 h_18 h_19; omega) | omega) (q_istore c_256_166 (Nat.le_of_ble_eq_true rfl) (v_iinc (v := v10 + 1) c_256_168 rfl (Nat.le_of_ble_eq_true rfl) rfl (Wp_ls [(10, vi (v10 + 1)), (9, vi v9), (8, vi v8), (7, vi y_12), (11, vi y_12), (0, .ref 41), (1, vi a1), (2, vi a2), (3, vi a3), (4, vi a4), (5, vi a5), (6, vi a6)] (lsub_cons rfl (lsub_cons rfl (lsub_cons rfl (lsub_cons rfl (lsub_cons rfl (lsub_cons rfl (lsub_cons rfl (lsub_cons rfl (lsub_cons rfl (lsub_cons rfl (lsub_cons rfl (lsub_cons rfl lsub_nil)))))))))))) (q_goto (t := 77) c_256_171 rfl (Wp_ls [(0, .ref 41), (1, vi a1), (2, vi a2), (3, vi a3), (4, vi a4), (5, vi a5), (6, vi a6), (7, vi y_12), (8, vi v8), (9, vi v9), (10, vi (v10 + 1))] (lsub_cons rfl (lsub_cons rfl (lsub_cons rfl (lsub_cons rfl (lsub_cons rfl (lsub_cons rfl (lsub_cons rfl (lsub_cons rfl (lsub_cons rfl (lsub_cons rfl (lsub_cons rfl lsub_nil))))))))))) ?_)))))))
            exact ih c_5 y_12 v8 v9 (v10 + 1) hI_6 (fun a j hm => (hF_7 a j (qv_3730a4f02 hm)).trans (hF a j hm)) hy_12 hv8 hv9 ⟨by first | exact rgp_l hv10.1 (by decide) | omega, by first | (clear ha1 ha2 ha3 ha4 ha5 ha6 hv7 hv8 hv9 hv10 hx1 hx2 hx3 h_8 h_9 h_13 h_14 h_15 h_16 h_17 h_18 h_19; omega) | omega⟩ ⟨by first | (clear ha1 ha2 ha3 ha4 ha5 ha6 hv7 hv8 hv9 hv10 hx1 hx2 hx3 h_1 h_8 h_9 h_13 h_14 h_15 h_16 h_17 h_18 h_19; omega) | omega, by first | (clear ha1 ha2 ha3 ha4 ha5 ha6 hv7 hv8 hv9 hv10 hx1 hx2 hx3 h_1 h_8 h_9 h_13 h_14 h_15 h_16 h_17 h_18 h_19; omega) | omega⟩ ⟨by first | (clear ha1 ha2 ha3 ha4 ha5 ha6 hv7 hv8 hv9 hv10 hx0 hx2 hx3 h_1 h_8 h_9 h_13 h_14 h_15 h_16 h_17 h_18 h_19; omega) | omega, by first | (clear ha1 ha2 ha3 ha4 ha5 ha6 hv7 hv8 hv9 hv10 hx0 hx2 hx3 h_1 h_8 h_9 h_13 h_14 h_15 h_16 h_17 h_18 h_19; omega) | omega⟩ ⟨by first | (clear ha1 ha2 ha3 ha4 ha5 ha6 hv7 hv8 hv9 hv10 hx0 hx1 hx3 h_1 h_8 h_9 h_13 h_14 h_15 h_16 h_17 h_18 h_19; omega) | omega, by first | (clear ha1 ha2 ha3 ha4 ha5 ha6 hv7 hv8 hv9 hv10 hx0 hx1 hx3 h_1 h_8 h_9 h_13 h_14 h_15 h_16 h_17 h_18 h_19; omega) | omega⟩ ⟨by first | (clear ha1 ha2 ha3 ha4 ha5 ha6 hv7 hv8 hv9 hv10 hx0 hx1 hx2 h_1 h_8 h_9 h_13 h_14 h_15 h_16 h_17 h_18 h_19; omega) | omega, by first | (clear ha1 ha2 ha3 ha4 ha5 ha6 hv7 hv8 hv9 hv10 hx0 hx1 hx2 h_1 h_8 h_9 h_13 h_14 h_15 h_16 h_17 h_18 h_19; omega) | omega⟩ (by omega)
          · refine v_if_ne_f (t := 164) c_256_157 rfl (Decidable.not_not.mp h_19) (q_iconst c_256_160 (q_goto (t := 165) c_256_161 rfl (v_iadd (v := v9 + 1) c_256_165 rfl (v_nrm (fun y_20 hy_20 => (q_istore c_256_166 (Nat.le_of_ble_eq_true rfl) (v_iinc (v := v10 + 1) c_256_168 rfl (Nat.le_of_ble_eq_true rfl) rfl (Wp_ls [(10, vi (v10 + 1)), (9, vi y_20), (8, vi v8), (7, vi y_12), (11, vi y_12), (0, .ref 41), (1, vi a1), (2, vi a2), (3, vi a3), (4, vi a4), (5, vi a5), (6, vi a6)] (lsub_cons rfl (lsub_cons rfl (lsub_cons rfl (lsub_cons rfl (lsub_cons rfl (lsub_cons rfl (lsub_cons rfl (lsub_cons rfl (lsub_cons rfl (lsub_cons rfl (lsub_cons rfl (lsub_cons rfl lsub_nil)))))))))))) ?_))))))))
            refine q_goto (t := 77) c_256_171 rfl (Wp_ls [(0, .ref 41), (1, vi a1), (2, vi a2), (3, vi a3), (4, vi a4), (5, vi a5), (6, vi a6), (7, vi y_12), (8, vi v8), (9, vi y_20), (10, vi (v10 + 1))] (lsub_cons rfl (lsub_cons rfl (lsub_cons rfl (lsub_cons rfl (lsub_cons rfl (lsub_cons rfl (lsub_cons rfl (lsub_cons rfl (lsub_cons rfl (lsub_cons rfl (lsub_cons rfl lsub_nil))))))))))) ?_)
            exact ih c_5 y_12 v8 y_20 (v10 + 1) hI_6 (fun a j hm => (hF_7 a j (qv_3730a4f02 hm)).trans (hF a j hm)) hy_12 hv8 hy_20 ⟨by first | exact rgp_l hv10.1 (by decide) | omega, by first | (clear ha1 ha2 ha3 ha4 ha5 ha6 hv7 hv8 hv9 hv10 hx1 hx2 hx3 h_8 h_9 h_13 h_14 h_15 h_16 h_17 h_18 h_19; omega) | omega⟩ ⟨by first | (clear ha1 ha2 ha3 ha4 ha5 ha6 hv7 hv8 hv9 hv10 hx1 hx2 hx3 h_1 h_8 h_9 h_13 h_14 h_15 h_16 h_17 h_18 h_19; omega) | omega, by first | (clear ha1 ha2 ha3 ha4 ha5 ha6 hv7 hv8 hv9 hv10 hx1 hx2 hx3 h_1 h_8 h_9 h_13 h_14 h_15 h_16 h_17 h_18 h_19; omega) | omega⟩ ⟨by first | (clear ha1 ha2 ha3 ha4 ha5 ha6 hv7 hv8 hv9 hv10 hx0 hx2 hx3 h_1 h_8 h_9 h_13 h_14 h_15 h_16 h_17 h_18 h_19; omega) | omega, by first | (clear ha1 ha2 ha3 ha4 ha5 ha6 hv7 hv8 hv9 hv10 hx0 hx2 hx3 h_1 h_8 h_9 h_13 h_14 h_15 h_16 h_17 h_18 h_19; omega) | omega⟩ ⟨by first | (clear ha1 ha2 ha3 ha4 ha5 ha6 hv7 hv8 hv9 hv10 hx0 hx1 hx3 h_1 h_8 h_9 h_13 h_14 h_15 h_16 h_17 h_18 h_19; omega) | omega, by first | (clear ha1 ha2 ha3 ha4 ha5 ha6 hv7 hv8 hv9 hv10 hx0 hx1 hx3 h_1 h_8 h_9 h_13 h_14 h_15 h_16 h_17 h_18 h_19; omega) | omega⟩ ⟨by first | (clear ha1 ha2 ha3 ha4 ha5 ha6 hv7 hv8 hv9 hv10 hx0 hx1 hx2 h_1 h_8 h_9 h_13 h_14 h_15 h_16 h_17 h_18 h_19; omega) | omega, by first | (clear ha1 ha2 ha3 ha4 ha5 ha6 hv7 hv8 hv9 hv10 hx0 hx1 hx2 h_1 h_8 h_9 h_13 h_14 h_15 h_16 h_17 h_18 h_19; omega) | omega⟩ (by omega)
        · refine v_ic_le_f (t := 145) c_256_137 rfl ⟨(Int.le_trans (by decide) hv8.1), (Int.not_le.mp h_14), hy_12.2⟩ (q_iload c_256_140 rfl (q_goto (t := 147) c_256_142 rfl (q_istore c_256_147 (Nat.le_of_ble_eq_true rfl) (q_iload c_256_149 rfl (q_aload_n c_256_151 rfl (q_iload c_256_152 rfl ?_))))))
          have h_21 := ir_59_g hI_6 (j := 4 * a6) (by first | (clear ha1 ha2 ha3 ha4 ha5 ha6 hv7 hv8 hv9 hv10 hx0 hx2 hx3 h_1 h_8 h_9 h_13 h_14; omega) | omega)
          have h_22 := ir_59_g hI_6 (j := 4 * a6 + 1) (by first | (clear ha1 ha2 ha3 ha4 ha5 ha6 hv7 hv8 hv9 hv10 hx0 hx2 hx3 h_1 h_8 h_9 h_13 h_14 h_21; omega) | omega)
          have h_23 := ir_59_g hI_6 (j := 4 * a6 + 2) (by first | (clear ha1 ha2 ha3 ha4 ha5 ha6 hv7 hv8 hv9 hv10 hx0 hx2 hx3 h_1 h_8 h_9 h_13 h_14 h_21 h_22; omega) | omega)
          have h_24 := ir_59_g hI_6 (j := 4 * a6 + 3) (by first | (clear ha1 ha2 ha3 ha4 ha5 ha6 hv7 hv8 hv9 hv10 hx0 hx2 hx3 h_1 h_8 h_9 h_13 h_14 h_21 h_22 h_23; omega) | omega)
          refine v_cv c_256_154 km_8_343 rfl rfl (Nat.le_of_ble_eq_true rfl) ⟨⟨rfl, rfl⟩, Nat.le_of_ble_eq_true rfl, rfl⟩ (Nat.le_of_ble_eq_true rfl) (Nat.le_of_ble_eq_true rfl) (s_187 (v1 := c_5 59 (4 * a6)) (v2 := c_5 59 (4 * a6 + 1)) (v3 := c_5 59 (4 * a6 + 2)) (v4 := c_5 59 (4 * a6 + 3)) (r := c_5 59 (4 * a6 + 1) + c_5 59 (4 * a6 + 2) + c_5 59 (4 * a6 + 3) + c_5 59 (4 * a6)) (a1 := a6) hI_6 (show 0 ≤ a6 ∧ a6 ≤ 5 from ⟨by first | (clear ha1 ha2 ha3 ha4 ha5 ha6 hv7 hv8 hv9 hv10 hx0 hx2 hx3 h_1 h_8 h_9 h_13 h_14; omega) | omega, by first | (clear ha1 ha2 ha3 ha4 ha5 ha6 hv7 hv8 hv9 hv10 hx0 hx2 hx3 h_1 h_8 h_9 h_13 h_14; omega) | omega⟩) (rfl) (rfl) (rfl) (rfl) (by omega) (bk_inl ?_))
          by_cases h_25 : c_5 59 (4 * a6 + 1) + c_5 59 (4 * a6 + 2) + c_5 59 (4 * a6 + 3) + c_5 59 (4 * a6) ≠ 0
          · refine v_if_ne_t (t := 164) c_256_157 rfl ⟨h_25, ⟨by first | exact q_e052ef40e h_21 h_22 h_23 h_24 | omega, by first | exact q_db9ef1f4a h_21 h_22 h_23 h_24 | omega⟩, by decide, by decide⟩ (q_iconst c_256_164 (v_iadd (v := v9) c_256_165 (by first | (clear ha1 ha2 ha3 ha4 ha5 ha6 hv7 hv8 hv9 hv10 hx0 hx1 hx2 hx3 h_1 h_8 h_9 h_13 h_14 h_21 h_22 h_23 h_24 h_25; omega) | omega) (q_istore c_256_166 (Nat.le_of_ble_eq_true rfl) (v_iinc (v := v10 + 1) c_256_168 rfl (Nat.le_of_ble_eq_true rfl) rfl (Wp_ls [(10, vi (v10 + 1)), (9, vi v9), (8, vi y_12), (7, vi y_12), (11, vi y_12), (0, .ref 41), (1, vi a1), (2, vi a2), (3, vi a3), (4, vi a4), (5, vi a5), (6, vi a6)] (lsub_cons rfl (lsub_cons rfl (lsub_cons rfl (lsub_cons rfl (lsub_cons rfl (lsub_cons rfl (lsub_cons rfl (lsub_cons rfl (lsub_cons rfl (lsub_cons rfl (lsub_cons rfl (lsub_cons rfl lsub_nil)))))))))))) (q_goto (t := 77) c_256_171 rfl (Wp_ls [(0, .ref 41), (1, vi a1), (2, vi a2), (3, vi a3), (4, vi a4), (5, vi a5), (6, vi a6), (7, vi y_12), (8, vi y_12), (9, vi v9), (10, vi (v10 + 1))] (lsub_cons rfl (lsub_cons rfl (lsub_cons rfl (lsub_cons rfl (lsub_cons rfl (lsub_cons rfl (lsub_cons rfl (lsub_cons rfl (lsub_cons rfl (lsub_cons rfl (lsub_cons rfl lsub_nil))))))))))) ?_)))))))
            exact ih c_5 y_12 y_12 v9 (v10 + 1) hI_6 (fun a j hm => (hF_7 a j (qv_3730a4f02 hm)).trans (hF a j hm)) hy_12 ⟨by first | exact q_263c88b99 h_14 hv8 | omega, hy_12.2⟩ hv9 ⟨by first | exact rgp_l hv10.1 (by decide) | omega, by first | (clear ha1 ha2 ha3 ha4 ha5 ha6 hv7 hv8 hv9 hv10 hx1 hx2 hx3 h_8 h_9 h_13 h_14 h_21 h_22 h_23 h_24 h_25; omega) | omega⟩ ⟨by first | (clear ha1 ha2 ha3 ha4 ha5 ha6 hv7 hv8 hv9 hv10 hx1 hx2 hx3 h_1 h_8 h_9 h_13 h_14 h_21 h_22 h_23 h_24 h_25; omega) | omega, by first | (clear ha1 ha2 ha3 ha4 ha5 ha6 hv7 hv8 hv9 hv10 hx1 hx2 hx3 h_1 h_8 h_9 h_13 h_14 h_21 h_22 h_23 h_24 h_25; omega) | omega⟩ ⟨by first | (clear ha1 ha2 ha3 ha4 ha5 ha6 hv7 hv8 hv9 hv10 hx0 hx2 hx3 h_1 h_8 h_9 h_13 h_14 h_21 h_22 h_23 h_24 h_25; omega) | omega, by first | (clear ha1 ha2 ha3 ha4 ha5 ha6 hv7 hv8 hv9 hv10 hx0 hx2 hx3 h_1 h_8 h_9 h_13 h_14 h_21 h_22 h_23 h_24 h_25; omega) | omega⟩ ⟨by first | (clear ha1 ha2 ha3 ha4 ha5 ha6 hv7 hv8 hv9 hv10 hx0 hx1 hx3 h_1 h_8 h_9 h_13 h_14 h_21 h_22 h_23 h_24 h_25; omega) | omega, by first | (clear ha1 ha2 ha3 ha4 ha5 ha6 hv7 hv8 hv9 hv10 hx0 hx1 hx3 h_1 h_8 h_9 h_13 h_14 h_21 h_22 h_23 h_24 h_25; omega) | omega⟩ ⟨by first | (clear ha1 ha2 ha3 ha4 ha5 ha6 hv7 hv8 hv9 hv10 hx0 hx1 hx2 h_1 h_8 h_9 h_13 h_14 h_21 h_22 h_23 h_24 h_25; omega) | omega, by first | (clear ha1 ha2 ha3 ha4 ha5 ha6 hv7 hv8 hv9 hv10 hx0 hx1 hx2 h_1 h_8 h_9 h_13 h_14 h_21 h_22 h_23 h_24 h_25; omega) | omega⟩ (by omega)
          · refine v_if_ne_f (t := 164) c_256_157 rfl (Decidable.not_not.mp h_25) (q_iconst c_256_160 (q_goto (t := 165) c_256_161 rfl (v_iadd (v := v9 + 1) c_256_165 rfl (v_nrm (fun y_26 hy_26 => (q_istore c_256_166 (Nat.le_of_ble_eq_true rfl) (v_iinc (v := v10 + 1) c_256_168 rfl (Nat.le_of_ble_eq_true rfl) rfl (Wp_ls [(10, vi (v10 + 1)), (9, vi y_26), (8, vi y_12), (7, vi y_12), (11, vi y_12), (0, .ref 41), (1, vi a1), (2, vi a2), (3, vi a3), (4, vi a4), (5, vi a5), (6, vi a6)] (lsub_cons rfl (lsub_cons rfl (lsub_cons rfl (lsub_cons rfl (lsub_cons rfl (lsub_cons rfl (lsub_cons rfl (lsub_cons rfl (lsub_cons rfl (lsub_cons rfl (lsub_cons rfl (lsub_cons rfl lsub_nil)))))))))))) ?_))))))))
            refine q_goto (t := 77) c_256_171 rfl (Wp_ls [(0, .ref 41), (1, vi a1), (2, vi a2), (3, vi a3), (4, vi a4), (5, vi a5), (6, vi a6), (7, vi y_12), (8, vi y_12), (9, vi y_26), (10, vi (v10 + 1))] (lsub_cons rfl (lsub_cons rfl (lsub_cons rfl (lsub_cons rfl (lsub_cons rfl (lsub_cons rfl (lsub_cons rfl (lsub_cons rfl (lsub_cons rfl (lsub_cons rfl (lsub_cons rfl lsub_nil))))))))))) ?_)
            exact ih c_5 y_12 y_12 y_26 (v10 + 1) hI_6 (fun a j hm => (hF_7 a j (qv_3730a4f02 hm)).trans (hF a j hm)) hy_12 ⟨by first | exact q_263c88b99 h_14 hv8 | omega, hy_12.2⟩ hy_26 ⟨by first | exact rgp_l hv10.1 (by decide) | omega, by first | (clear ha1 ha2 ha3 ha4 ha5 ha6 hv7 hv8 hv9 hv10 hx1 hx2 hx3 h_8 h_9 h_13 h_14 h_21 h_22 h_23 h_24 h_25; omega) | omega⟩ ⟨by first | (clear ha1 ha2 ha3 ha4 ha5 ha6 hv7 hv8 hv9 hv10 hx1 hx2 hx3 h_1 h_8 h_9 h_13 h_14 h_21 h_22 h_23 h_24 h_25; omega) | omega, by first | (clear ha1 ha2 ha3 ha4 ha5 ha6 hv7 hv8 hv9 hv10 hx1 hx2 hx3 h_1 h_8 h_9 h_13 h_14 h_21 h_22 h_23 h_24 h_25; omega) | omega⟩ ⟨by first | (clear ha1 ha2 ha3 ha4 ha5 ha6 hv7 hv8 hv9 hv10 hx0 hx2 hx3 h_1 h_8 h_9 h_13 h_14 h_21 h_22 h_23 h_24 h_25; omega) | omega, by first | (clear ha1 ha2 ha3 ha4 ha5 ha6 hv7 hv8 hv9 hv10 hx0 hx2 hx3 h_1 h_8 h_9 h_13 h_14 h_21 h_22 h_23 h_24 h_25; omega) | omega⟩ ⟨by first | (clear ha1 ha2 ha3 ha4 ha5 ha6 hv7 hv8 hv9 hv10 hx0 hx1 hx3 h_1 h_8 h_9 h_13 h_14 h_21 h_22 h_23 h_24 h_25; omega) | omega, by first | (clear ha1 ha2 ha3 ha4 ha5 ha6 hv7 hv8 hv9 hv10 hx0 hx1 hx3 h_1 h_8 h_9 h_13 h_14 h_21 h_22 h_23 h_24 h_25; omega) | omega⟩ ⟨by first | (clear ha1 ha2 ha3 ha4 ha5 ha6 hv7 hv8 hv9 hv10 hx0 hx1 hx2 h_1 h_8 h_9 h_13 h_14 h_21 h_22 h_23 h_24 h_25; omega) | omega, by first | (clear ha1 ha2 ha3 ha4 ha5 ha6 hv7 hv8 hv9 hv10 hx0 hx1 hx2 h_1 h_8 h_9 h_13 h_14 h_21 h_22 h_23 h_24 h_25; omega) | omega⟩ (by omega)
      · refine v_ic_eq_f (t := 124) c_256_114 rfl ⟨h_13, ⟨hv7.1, hv7.2⟩, by decide, by decide⟩ (q_iload c_256_117 rfl (q_iload c_256_119 rfl ?_))
        by_cases h_27 : y_12 ≥ v7
        · refine v_ic_ge_t (t := 129) c_256_121 rfl ⟨hv7.1, h_27, hy_12.2⟩ (q_iload c_256_129 rfl (q_istore c_256_131 (Nat.le_of_ble_eq_true rfl) (q_iload c_256_133 rfl (q_iload c_256_135 rfl ?_))))
          by_cases h_28 : y_12 ≤ v8
          · refine v_ic_le_t (t := 145) c_256_137 rfl ⟨hy_12.1, h_28, hv8.2⟩ (q_iload c_256_145 rfl (q_istore c_256_147 (Nat.le_of_ble_eq_true rfl) (q_iload c_256_149 rfl (q_aload_n c_256_151 rfl (q_iload c_256_152 rfl ?_)))))
            have h_29 := ir_59_g hI_6 (j := 4 * a6) (by first | (clear ha1 ha2 ha3 ha4 ha5 ha6 hv7 hv8 hv9 hv10 hx0 hx2 hx3 h_1 h_8 h_9 h_27 h_28 h_13; omega) | omega)
            have h_30 := ir_59_g hI_6 (j := 4 * a6 + 1) (by first | (clear ha1 ha2 ha3 ha4 ha5 ha6 hv7 hv8 hv9 hv10 hx0 hx2 hx3 h_1 h_8 h_9 h_27 h_28 h_29 h_13; omega) | omega)
            have h_31 := ir_59_g hI_6 (j := 4 * a6 + 2) (by first | (clear ha1 ha2 ha3 ha4 ha5 ha6 hv7 hv8 hv9 hv10 hx0 hx2 hx3 h_1 h_8 h_9 h_27 h_28 h_29 h_30 h_13; omega) | omega)
            have h_32 := ir_59_g hI_6 (j := 4 * a6 + 3) (by first | (clear ha1 ha2 ha3 ha4 ha5 ha6 hv7 hv8 hv9 hv10 hx0 hx2 hx3 h_1 h_8 h_9 h_27 h_28 h_29 h_30 h_31 h_13; omega) | omega)
            refine v_cv c_256_154 km_8_343 rfl rfl (Nat.le_of_ble_eq_true rfl) ⟨⟨rfl, rfl⟩, Nat.le_of_ble_eq_true rfl, rfl⟩ (Nat.le_of_ble_eq_true rfl) (Nat.le_of_ble_eq_true rfl) (s_187 (v1 := c_5 59 (4 * a6)) (v2 := c_5 59 (4 * a6 + 1)) (v3 := c_5 59 (4 * a6 + 2)) (v4 := c_5 59 (4 * a6 + 3)) (r := c_5 59 (4 * a6 + 1) + c_5 59 (4 * a6 + 2) + c_5 59 (4 * a6 + 3) + c_5 59 (4 * a6)) (a1 := a6) hI_6 (show 0 ≤ a6 ∧ a6 ≤ 5 from ⟨by first | (clear ha1 ha2 ha3 ha4 ha5 ha6 hv7 hv8 hv9 hv10 hx0 hx2 hx3 h_1 h_8 h_9 h_27 h_28 h_13; omega) | omega, by first | (clear ha1 ha2 ha3 ha4 ha5 ha6 hv7 hv8 hv9 hv10 hx0 hx2 hx3 h_1 h_8 h_9 h_27 h_28 h_13; omega) | omega⟩) (rfl) (rfl) (rfl) (rfl) (by omega) (bk_inl ?_))
            by_cases h_33 : c_5 59 (4 * a6 + 1) + c_5 59 (4 * a6 + 2) + c_5 59 (4 * a6 + 3) + c_5 59 (4 * a6) ≠ 0
            · refine v_if_ne_t (t := 164) c_256_157 rfl ⟨h_33, ⟨by first | exact q_e052ef40e h_29 h_30 h_31 h_32 | omega, by first | exact q_db9ef1f4a h_29 h_30 h_31 h_32 | omega⟩, by decide, by decide⟩ (q_iconst c_256_164 (v_iadd (v := v9) c_256_165 (by first | (clear ha1 ha2 ha3 ha4 ha5 ha6 hv7 hv8 hv9 hv10 hx0 hx1 hx2 hx3 h_1 h_8 h_9 h_27 h_28 h_29 h_30 h_31 h_32 h_13 h_33; omega) | omega) (q_istore c_256_166 (Nat.le_of_ble_eq_true rfl) (v_iinc (v := v10 + 1) c_256_168 rfl (Nat.le_of_ble_eq_true rfl) rfl (Wp_ls [(10, vi (v10 + 1)), (9, vi v9), (8, vi v8), (7, vi v7), (11, vi y_12), (0, .ref 41), (1, vi a1), (2, vi a2), (3, vi a3), (4, vi a4), (5, vi a5), (6, vi a6)] (lsub_cons rfl (lsub_cons rfl (lsub_cons rfl (lsub_cons rfl (lsub_cons rfl (lsub_cons rfl (lsub_cons rfl (lsub_cons rfl (lsub_cons rfl (lsub_cons rfl (lsub_cons rfl (lsub_cons rfl lsub_nil)))))))))))) (q_goto (t := 77) c_256_171 rfl (Wp_ls [(0, .ref 41), (1, vi a1), (2, vi a2), (3, vi a3), (4, vi a4), (5, vi a5), (6, vi a6), (7, vi v7), (8, vi v8), (9, vi v9), (10, vi (v10 + 1))] (lsub_cons rfl (lsub_cons rfl (lsub_cons rfl (lsub_cons rfl (lsub_cons rfl (lsub_cons rfl (lsub_cons rfl (lsub_cons rfl (lsub_cons rfl (lsub_cons rfl (lsub_cons rfl lsub_nil))))))))))) ?_)))))))
              exact ih c_5 v7 v8 v9 (v10 + 1) hI_6 (fun a j hm => (hF_7 a j (qv_3730a4f02 hm)).trans (hF a j hm)) hv7 hv8 hv9 ⟨by first | exact rgp_l hv10.1 (by decide) | omega, by first | (clear ha1 ha2 ha3 ha4 ha5 ha6 hv7 hv8 hv9 hv10 hx1 hx2 hx3 h_8 h_9 h_27 h_28 h_29 h_30 h_31 h_32 h_13 h_33; omega) | omega⟩ ⟨by first | (clear ha1 ha2 ha3 ha4 ha5 ha6 hv7 hv8 hv9 hv10 hx1 hx2 hx3 h_1 h_8 h_9 h_27 h_28 h_29 h_30 h_31 h_32 h_13 h_33; omega) | omega, by first | (clear ha1 ha2 ha3 ha4 ha5 ha6 hv7 hv8 hv9 hv10 hx1 hx2 hx3 h_1 h_8 h_9 h_27 h_28 h_29 h_30 h_31 h_32 h_13 h_33; omega) | omega⟩ ⟨by first | (clear ha1 ha2 ha3 ha4 ha5 ha6 hv7 hv8 hv9 hv10 hx0 hx2 hx3 h_1 h_8 h_9 h_27 h_28 h_29 h_30 h_31 h_32 h_13 h_33; omega) | omega, by first | (clear ha1 ha2 ha3 ha4 ha5 ha6 hv7 hv8 hv9 hv10 hx0 hx2 hx3 h_1 h_8 h_9 h_27 h_28 h_29 h_30 h_31 h_32 h_13 h_33; omega) | omega⟩ ⟨by first | (clear ha1 ha2 ha3 ha4 ha5 ha6 hv7 hv8 hv9 hv10 hx0 hx1 hx3 h_1 h_8 h_9 h_27 h_28 h_29 h_30 h_31 h_32 h_13 h_33; omega) | omega, by first | (clear ha1 ha2 ha3 ha4 ha5 ha6 hv7 hv8 hv9 hv10 hx0 hx1 hx3 h_1 h_8 h_9 h_27 h_28 h_29 h_30 h_31 h_32 h_13 h_33; omega) | omega⟩ ⟨by first | (clear ha1 ha2 ha3 ha4 ha5 ha6 hv7 hv8 hv9 hv10 hx0 hx1 hx2 h_1 h_8 h_9 h_27 h_28 h_29 h_30 h_31 h_32 h_13 h_33; omega) | omega, by first | (clear ha1 ha2 ha3 ha4 ha5 ha6 hv7 hv8 hv9 hv10 hx0 hx1 hx2 h_1 h_8 h_9 h_27 h_28 h_29 h_30 h_31 h_32 h_13 h_33; omega) | omega⟩ (by omega)
            · refine v_if_ne_f (t := 164) c_256_157 rfl (Decidable.not_not.mp h_33) (q_iconst c_256_160 (q_goto (t := 165) c_256_161 rfl (v_iadd (v := v9 + 1) c_256_165 rfl (v_nrm (fun y_34 hy_34 => (q_istore c_256_166 (Nat.le_of_ble_eq_true rfl) (v_iinc (v := v10 + 1) c_256_168 rfl (Nat.le_of_ble_eq_true rfl) rfl (Wp_ls [(10, vi (v10 + 1)), (9, vi y_34), (8, vi v8), (7, vi v7), (11, vi y_12), (0, .ref 41), (1, vi a1), (2, vi a2), (3, vi a3), (4, vi a4), (5, vi a5), (6, vi a6)] (lsub_cons rfl (lsub_cons rfl (lsub_cons rfl (lsub_cons rfl (lsub_cons rfl (lsub_cons rfl (lsub_cons rfl (lsub_cons rfl (lsub_cons rfl (lsub_cons rfl (lsub_cons rfl (lsub_cons rfl lsub_nil)))))))))))) ?_))))))))
              refine q_goto (t := 77) c_256_171 rfl (Wp_ls [(0, .ref 41), (1, vi a1), (2, vi a2), (3, vi a3), (4, vi a4), (5, vi a5), (6, vi a6), (7, vi v7), (8, vi v8), (9, vi y_34), (10, vi (v10 + 1))] (lsub_cons rfl (lsub_cons rfl (lsub_cons rfl (lsub_cons rfl (lsub_cons rfl (lsub_cons rfl (lsub_cons rfl (lsub_cons rfl (lsub_cons rfl (lsub_cons rfl (lsub_cons rfl lsub_nil))))))))))) ?_)
              exact ih c_5 v7 v8 y_34 (v10 + 1) hI_6 (fun a j hm => (hF_7 a j (qv_3730a4f02 hm)).trans (hF a j hm)) hv7 hv8 hy_34 ⟨by first | exact rgp_l hv10.1 (by decide) | omega, by first | (clear ha1 ha2 ha3 ha4 ha5 ha6 hv7 hv8 hv9 hv10 hx1 hx2 hx3 h_8 h_9 h_27 h_28 h_29 h_30 h_31 h_32 h_33 h_13; omega) | omega⟩ ⟨by first | (clear ha1 ha2 ha3 ha4 ha5 ha6 hv7 hv8 hv9 hv10 hx1 hx2 hx3 h_1 h_8 h_9 h_27 h_28 h_29 h_30 h_31 h_32 h_33 h_13; omega) | omega, by first | (clear ha1 ha2 ha3 ha4 ha5 ha6 hv7 hv8 hv9 hv10 hx1 hx2 hx3 h_1 h_8 h_9 h_27 h_28 h_29 h_30 h_31 h_32 h_33 h_13; omega) | omega⟩ ⟨by first | (clear ha1 ha2 ha3 ha4 ha5 ha6 hv7 hv8 hv9 hv10 hx0 hx2 hx3 h_1 h_8 h_9 h_27 h_28 h_29 h_30 h_31 h_32 h_33 h_13; omega) | omega, by first | (clear ha1 ha2 ha3 ha4 ha5 ha6 hv7 hv8 hv9 hv10 hx0 hx2 hx3 h_1 h_8 h_9 h_27 h_28 h_29 h_30 h_31 h_32 h_33 h_13; omega) | omega⟩ ⟨by first | (clear ha1 ha2 ha3 ha4 ha5 ha6 hv7 hv8 hv9 hv10 hx0 hx1 hx3 h_1 h_8 h_9 h_27 h_28 h_29 h_30 h_31 h_32 h_33 h_13; omega) | omega, by first | (clear ha1 ha2 ha3 ha4 ha5 ha6 hv7 hv8 hv9 hv10 hx0 hx1 hx3 h_1 h_8 h_9 h_27 h_28 h_29 h_30 h_31 h_32 h_33 h_13; omega) | omega⟩ ⟨by first | (clear ha1 ha2 ha3 ha4 ha5 ha6 hv7 hv8 hv9 hv10 hx0 hx1 hx2 h_1 h_8 h_9 h_27 h_28 h_29 h_30 h_31 h_32 h_33 h_13; omega) | omega, by first | (clear ha1 ha2 ha3 ha4 ha5 ha6 hv7 hv8 hv9 hv10 hx0 hx1 hx2 h_1 h_8 h_9 h_27 h_28 h_29 h_30 h_31 h_32 h_33 h_13; omega) | omega⟩ (by omega)
          · refine v_ic_le_f (t := 145) c_256_137 rfl ⟨(Int.le_trans (by decide) hv8.1), (Int.not_le.mp h_28), hy_12.2⟩ (q_iload c_256_140 rfl (q_goto (t := 147) c_256_142 rfl (q_istore c_256_147 (Nat.le_of_ble_eq_true rfl) (q_iload c_256_149 rfl (q_aload_n c_256_151 rfl (q_iload c_256_152 rfl ?_))))))
            have h_35 := ir_59_g hI_6 (j := 4 * a6) (by first | (clear ha1 ha2 ha3 ha4 ha5 ha6 hv7 hv8 hv9 hv10 hx0 hx2 hx3 h_1 h_8 h_9 h_27 h_28 h_13; omega) | omega)
            have h_36 := ir_59_g hI_6 (j := 4 * a6 + 1) (by first | (clear ha1 ha2 ha3 ha4 ha5 ha6 hv7 hv8 hv9 hv10 hx0 hx2 hx3 h_1 h_8 h_9 h_27 h_28 h_35 h_13; omega) | omega)
            have h_37 := ir_59_g hI_6 (j := 4 * a6 + 2) (by first | (clear ha1 ha2 ha3 ha4 ha5 ha6 hv7 hv8 hv9 hv10 hx0 hx2 hx3 h_1 h_8 h_9 h_27 h_28 h_35 h_36 h_13; omega) | omega)
            have h_38 := ir_59_g hI_6 (j := 4 * a6 + 3) (by first | (clear ha1 ha2 ha3 ha4 ha5 ha6 hv7 hv8 hv9 hv10 hx0 hx2 hx3 h_1 h_8 h_9 h_27 h_28 h_35 h_36 h_37 h_13; omega) | omega)
            refine v_cv c_256_154 km_8_343 rfl rfl (Nat.le_of_ble_eq_true rfl) ⟨⟨rfl, rfl⟩, Nat.le_of_ble_eq_true rfl, rfl⟩ (Nat.le_of_ble_eq_true rfl) (Nat.le_of_ble_eq_true rfl) (s_187 (v1 := c_5 59 (4 * a6)) (v2 := c_5 59 (4 * a6 + 1)) (v3 := c_5 59 (4 * a6 + 2)) (v4 := c_5 59 (4 * a6 + 3)) (r := c_5 59 (4 * a6 + 1) + c_5 59 (4 * a6 + 2) + c_5 59 (4 * a6 + 3) + c_5 59 (4 * a6)) (a1 := a6) hI_6 (show 0 ≤ a6 ∧ a6 ≤ 5 from ⟨by first | (clear ha1 ha2 ha3 ha4 ha5 ha6 hv7 hv8 hv9 hv10 hx0 hx2 hx3 h_1 h_8 h_9 h_27 h_28 h_13; omega) | omega, by first | (clear ha1 ha2 ha3 ha4 ha5 ha6 hv7 hv8 hv9 hv10 hx0 hx2 hx3 h_1 h_8 h_9 h_27 h_28 h_13; omega) | omega⟩) (rfl) (rfl) (rfl) (rfl) (by omega) (bk_inl ?_))
            by_cases h_39 : c_5 59 (4 * a6 + 1) + c_5 59 (4 * a6 + 2) + c_5 59 (4 * a6 + 3) + c_5 59 (4 * a6) ≠ 0
            · refine v_if_ne_t (t := 164) c_256_157 rfl ⟨h_39, ⟨by first | exact q_e052ef40e h_35 h_36 h_37 h_38 | omega, by first | exact q_db9ef1f4a h_35 h_36 h_37 h_38 | omega⟩, by decide, by decide⟩ (q_iconst c_256_164 (v_iadd (v := v9) c_256_165 (by first | (clear ha1 ha2 ha3 ha4 ha5 ha6 hv7 hv8 hv9 hv10 hx0 hx1 hx2 hx3 h_1 h_8 h_9 h_27 h_28 h_35 h_36 h_37 h_38 h_13 h_39; omega) | omega) (q_istore c_256_166 (Nat.le_of_ble_eq_true rfl) (v_iinc (v := v10 + 1) c_256_168 rfl (Nat.le_of_ble_eq_true rfl) rfl (Wp_ls [(10, vi (v10 + 1)), (9, vi v9), (8, vi y_12), (7, vi v7), (11, vi y_12), (0, .ref 41), (1, vi a1), (2, vi a2), (3, vi a3), (4, vi a4), (5, vi a5), (6, vi a6)] (lsub_cons rfl (lsub_cons rfl (lsub_cons rfl (lsub_cons rfl (lsub_cons rfl (lsub_cons rfl (lsub_cons rfl (lsub_cons rfl (lsub_cons rfl (lsub_cons rfl (lsub_cons rfl (lsub_cons rfl lsub_nil)))))))))))) (q_goto (t := 77) c_256_171 rfl (Wp_ls [(0, .ref 41), (1, vi a1), (2, vi a2), (3, vi a3), (4, vi a4), (5, vi a5), (6, vi a6), (7, vi v7), (8, vi y_12), (9, vi v9), (10, vi (v10 + 1))] (lsub_cons rfl (lsub_cons rfl (lsub_cons rfl (lsub_cons rfl (lsub_cons rfl (lsub_cons rfl (lsub_cons rfl (lsub_cons rfl (lsub_cons rfl (lsub_cons rfl (lsub_cons rfl lsub_nil))))))))))) ?_)))))))
              exact ih c_5 v7 y_12 v9 (v10 + 1) hI_6 (fun a j hm => (hF_7 a j (qv_3730a4f02 hm)).trans (hF a j hm)) hv7 ⟨by first | exact q_263c88b99 h_28 hv8 | omega, hy_12.2⟩ hv9 ⟨by first | exact rgp_l hv10.1 (by decide) | omega, by first | (clear ha1 ha2 ha3 ha4 ha5 ha6 hv7 hv8 hv9 hv10 hx1 hx2 hx3 h_8 h_9 h_27 h_28 h_35 h_36 h_37 h_38 h_13 h_39; omega) | omega⟩ ⟨by first | (clear ha1 ha2 ha3 ha4 ha5 ha6 hv7 hv8 hv9 hv10 hx1 hx2 hx3 h_1 h_8 h_9 h_27 h_28 h_35 h_36 h_37 h_38 h_13 h_39; omega) | omega, by first | (clear ha1 ha2 ha3 ha4 ha5 ha6 hv7 hv8 hv9 hv10 hx1 hx2 hx3 h_1 h_8 h_9 h_27 h_28 h_35 h_36 h_37 h_38 h_13 h_39; omega) | omega⟩ ⟨by first | (clear ha1 ha2 ha3 ha4 ha5 ha6 hv7 hv8 hv9 hv10 hx0 hx2 hx3 h_1 h_8 h_9 h_27 h_28 h_35 h_36 h_37 h_38 h_13 h_39; omega) | omega, by first | (clear ha1 ha2 ha3 ha4 ha5 ha6 hv7 hv8 hv9 hv10 hx0 hx2 hx3 h_1 h_8 h_9 h_27 h_28 h_35 h_36 h_37 h_38 h_13 h_39; omega) | omega⟩ ⟨by first | (clear ha1 ha2 ha3 ha4 ha5 ha6 hv7 hv8 hv9 hv10 hx0 hx1 hx3 h_1 h_8 h_9 h_27 h_28 h_35 h_36 h_37 h_38 h_13 h_39; omega) | omega, by first | (clear ha1 ha2 ha3 ha4 ha5 ha6 hv7 hv8 hv9 hv10 hx0 hx1 hx3 h_1 h_8 h_9 h_27 h_28 h_35 h_36 h_37 h_38 h_13 h_39; omega) | omega⟩ ⟨by first | (clear ha1 ha2 ha3 ha4 ha5 ha6 hv7 hv8 hv9 hv10 hx0 hx1 hx2 h_1 h_8 h_9 h_27 h_28 h_35 h_36 h_37 h_38 h_13 h_39; omega) | omega, by first | (clear ha1 ha2 ha3 ha4 ha5 ha6 hv7 hv8 hv9 hv10 hx0 hx1 hx2 h_1 h_8 h_9 h_27 h_28 h_35 h_36 h_37 h_38 h_13 h_39; omega) | omega⟩ (by omega)
            · refine v_if_ne_f (t := 164) c_256_157 rfl (Decidable.not_not.mp h_39) (q_iconst c_256_160 (q_goto (t := 165) c_256_161 rfl (v_iadd (v := v9 + 1) c_256_165 rfl (v_nrm (fun y_40 hy_40 => (q_istore c_256_166 (Nat.le_of_ble_eq_true rfl) (v_iinc (v := v10 + 1) c_256_168 rfl (Nat.le_of_ble_eq_true rfl) rfl (Wp_ls [(10, vi (v10 + 1)), (9, vi y_40), (8, vi y_12), (7, vi v7), (11, vi y_12), (0, .ref 41), (1, vi a1), (2, vi a2), (3, vi a3), (4, vi a4), (5, vi a5), (6, vi a6)] (lsub_cons rfl (lsub_cons rfl (lsub_cons rfl (lsub_cons rfl (lsub_cons rfl (lsub_cons rfl (lsub_cons rfl (lsub_cons rfl (lsub_cons rfl (lsub_cons rfl (lsub_cons rfl (lsub_cons rfl lsub_nil)))))))))))) ?_))))))))
              refine q_goto (t := 77) c_256_171 rfl (Wp_ls [(0, .ref 41), (1, vi a1), (2, vi a2), (3, vi a3), (4, vi a4), (5, vi a5), (6, vi a6), (7, vi v7), (8, vi y_12), (9, vi y_40), (10, vi (v10 + 1))] (lsub_cons rfl (lsub_cons rfl (lsub_cons rfl (lsub_cons rfl (lsub_cons rfl (lsub_cons rfl (lsub_cons rfl (lsub_cons rfl (lsub_cons rfl (lsub_cons rfl (lsub_cons rfl lsub_nil))))))))))) ?_)
              exact ih c_5 v7 y_12 y_40 (v10 + 1) hI_6 (fun a j hm => (hF_7 a j (qv_3730a4f02 hm)).trans (hF a j hm)) hv7 ⟨by first | exact q_263c88b99 h_28 hv8 | omega, hy_12.2⟩ hy_40 ⟨by first | exact rgp_l hv10.1 (by decide) | omega, by first | (clear ha1 ha2 ha3 ha4 ha5 ha6 hv7 hv8 hv9 hv10 hx1 hx2 hx3 h_8 h_9 h_27 h_28 h_35 h_36 h_37 h_38 h_39 h_13; omega) | omega⟩ ⟨by first | (clear ha1 ha2 ha3 ha4 ha5 ha6 hv7 hv8 hv9 hv10 hx1 hx2 hx3 h_1 h_8 h_9 h_27 h_28 h_35 h_36 h_37 h_38 h_39 h_13; omega) | omega, by first | (clear ha1 ha2 ha3 ha4 ha5 ha6 hv7 hv8 hv9 hv10 hx1 hx2 hx3 h_1 h_8 h_9 h_27 h_28 h_35 h_36 h_37 h_38 h_39 h_13; omega) | omega⟩ ⟨by first | (clear ha1 ha2 ha3 ha4 ha5 ha6 hv7 hv8 hv9 hv10 hx0 hx2 hx3 h_1 h_8 h_9 h_27 h_28 h_35 h_36 h_37 h_38 h_39 h_13; omega) | omega, by first | (clear ha1 ha2 ha3 ha4 ha5 ha6 hv7 hv8 hv9 hv10 hx0 hx2 hx3 h_1 h_8 h_9 h_27 h_28 h_35 h_36 h_37 h_38 h_39 h_13; omega) | omega⟩ ⟨by first | (clear ha1 ha2 ha3 ha4 ha5 ha6 hv7 hv8 hv9 hv10 hx0 hx1 hx3 h_1 h_8 h_9 h_27 h_28 h_35 h_36 h_37 h_38 h_39 h_13; omega) | omega, by first | (clear ha1 ha2 ha3 ha4 ha5 ha6 hv7 hv8 hv9 hv10 hx0 hx1 hx3 h_1 h_8 h_9 h_27 h_28 h_35 h_36 h_37 h_38 h_39 h_13; omega) | omega⟩ ⟨by first | (clear ha1 ha2 ha3 ha4 ha5 ha6 hv7 hv8 hv9 hv10 hx0 hx1 hx2 h_1 h_8 h_9 h_27 h_28 h_35 h_36 h_37 h_38 h_39 h_13; omega) | omega, by first | (clear ha1 ha2 ha3 ha4 ha5 ha6 hv7 hv8 hv9 hv10 hx0 hx1 hx2 h_1 h_8 h_9 h_27 h_28 h_35 h_36 h_37 h_38 h_39 h_13; omega) | omega⟩ (by omega)
        · refine v_ic_ge_f (t := 129) c_256_121 rfl ⟨hy_12.1, (Int.not_le.mp h_27), hv7.2⟩ (q_iload c_256_124 rfl (q_goto (t := 131) c_256_126 rfl (q_istore c_256_131 (Nat.le_of_ble_eq_true rfl) (q_iload c_256_133 rfl (q_iload c_256_135 rfl ?_)))))
          by_cases h_41 : y_12 ≤ v8
          · refine v_ic_le_t (t := 145) c_256_137 rfl ⟨hy_12.1, h_41, hv8.2⟩ (q_iload c_256_145 rfl (q_istore c_256_147 (Nat.le_of_ble_eq_true rfl) (q_iload c_256_149 rfl (q_aload_n c_256_151 rfl (q_iload c_256_152 rfl ?_)))))
            have h_42 := ir_59_g hI_6 (j := 4 * a6) (by first | (clear ha1 ha2 ha3 ha4 ha5 ha6 hv7 hv8 hv9 hv10 hx0 hx2 hx3 h_1 h_8 h_9 h_27 h_41 h_13; omega) | omega)
            have h_43 := ir_59_g hI_6 (j := 4 * a6 + 1) (by first | (clear ha1 ha2 ha3 ha4 ha5 ha6 hv7 hv8 hv9 hv10 hx0 hx2 hx3 h_1 h_8 h_9 h_27 h_41 h_42 h_13; omega) | omega)
            have h_44 := ir_59_g hI_6 (j := 4 * a6 + 2) (by first | (clear ha1 ha2 ha3 ha4 ha5 ha6 hv7 hv8 hv9 hv10 hx0 hx2 hx3 h_1 h_8 h_9 h_27 h_41 h_42 h_43 h_13; omega) | omega)
            have h_45 := ir_59_g hI_6 (j := 4 * a6 + 3) (by first | (clear ha1 ha2 ha3 ha4 ha5 ha6 hv7 hv8 hv9 hv10 hx0 hx2 hx3 h_1 h_8 h_9 h_27 h_41 h_42 h_43 h_44 h_13; omega) | omega)
            refine v_cv c_256_154 km_8_343 rfl rfl (Nat.le_of_ble_eq_true rfl) ⟨⟨rfl, rfl⟩, Nat.le_of_ble_eq_true rfl, rfl⟩ (Nat.le_of_ble_eq_true rfl) (Nat.le_of_ble_eq_true rfl) (s_187 (v1 := c_5 59 (4 * a6)) (v2 := c_5 59 (4 * a6 + 1)) (v3 := c_5 59 (4 * a6 + 2)) (v4 := c_5 59 (4 * a6 + 3)) (r := c_5 59 (4 * a6 + 1) + c_5 59 (4 * a6 + 2) + c_5 59 (4 * a6 + 3) + c_5 59 (4 * a6)) (a1 := a6) hI_6 (show 0 ≤ a6 ∧ a6 ≤ 5 from ⟨by first | (clear ha1 ha2 ha3 ha4 ha5 ha6 hv7 hv8 hv9 hv10 hx0 hx2 hx3 h_1 h_8 h_9 h_27 h_41 h_13; omega) | omega, by first | (clear ha1 ha2 ha3 ha4 ha5 ha6 hv7 hv8 hv9 hv10 hx0 hx2 hx3 h_1 h_8 h_9 h_27 h_41 h_13; omega) | omega⟩) (rfl) (rfl) (rfl) (rfl) (by omega) (bk_inl ?_))
            by_cases h_46 : c_5 59 (4 * a6 + 1) + c_5 59 (4 * a6 + 2) + c_5 59 (4 * a6 + 3) + c_5 59 (4 * a6) ≠ 0
            · refine v_if_ne_t (t := 164) c_256_157 rfl ⟨h_46, ⟨by first | exact q_e052ef40e h_42 h_43 h_44 h_45 | omega, by first | exact q_db9ef1f4a h_42 h_43 h_44 h_45 | omega⟩, by decide, by decide⟩ (q_iconst c_256_164 (v_iadd (v := v9) c_256_165 (by first | (clear ha1 ha2 ha3 ha4 ha5 ha6 hv7 hv8 hv9 hv10 hx0 hx1 hx2 hx3 h_1 h_8 h_9 h_27 h_41 h_42 h_43 h_44 h_45 h_13 h_46; omega) | omega) (q_istore c_256_166 (Nat.le_of_ble_eq_true rfl) (v_iinc (v := v10 + 1) c_256_168 rfl (Nat.le_of_ble_eq_true rfl) rfl (Wp_ls [(10, vi (v10 + 1)), (9, vi v9), (8, vi v8), (7, vi y_12), (11, vi y_12), (0, .ref 41), (1, vi a1), (2, vi a2), (3, vi a3), (4, vi a4), (5, vi a5), (6, vi a6)] (lsub_cons rfl (lsub_cons rfl (lsub_cons rfl (lsub_cons rfl (lsub_cons rfl (lsub_cons rfl (lsub_cons rfl (lsub_cons rfl (lsub_cons rfl (lsub_cons rfl (lsub_cons rfl (lsub_cons rfl lsub_nil)))))))))))) (q_goto (t := 77) c_256_171 rfl (Wp_ls [(0, .ref 41), (1, vi a1), (2, vi a2), (3, vi a3), (4, vi a4), (5, vi a5), (6, vi a6), (7, vi y_12), (8, vi v8), (9, vi v9), (10, vi (v10 + 1))] (lsub_cons rfl (lsub_cons rfl (lsub_cons rfl (lsub_cons rfl (lsub_cons rfl (lsub_cons rfl (lsub_cons rfl (lsub_cons rfl (lsub_cons rfl (lsub_cons rfl (lsub_cons rfl lsub_nil))))))))))) ?_)))))))
              exact ih c_5 y_12 v8 v9 (v10 + 1) hI_6 (fun a j hm => (hF_7 a j (qv_3730a4f02 hm)).trans (hF a j hm)) hy_12 hv8 hv9 ⟨by first | exact rgp_l hv10.1 (by decide) | omega, by first | (clear ha1 ha2 ha3 ha4 ha5 ha6 hv7 hv8 hv9 hv10 hx1 hx2 hx3 h_8 h_9 h_27 h_41 h_42 h_43 h_44 h_45 h_13 h_46; omega) | omega⟩ ⟨by first | (clear ha1 ha2 ha3 ha4 ha5 ha6 hv7 hv8 hv9 hv10 hx1 hx2 hx3 h_1 h_8 h_9 h_27 h_41 h_42 h_43 h_44 h_45 h_13 h_46; omega) | omega, by first | (clear ha1 ha2 ha3 ha4 ha5 ha6 hv7 hv8 hv9 hv10 hx1 hx2 hx3 h_1 h_8 h_9 h_27 h_41 h_42 h_43 h_44 h_45 h_13 h_46; omega) | omega⟩ ⟨by first | (clear ha1 ha2 ha3 ha4 ha5 ha6 hv7 hv8 hv9 hv10 hx0 hx2 hx3 h_1 h_8 h_9 h_27 h_41 h_42 h_43 h_44 h_45 h_13 h_46; omega) | omega, by first | (clear ha1 ha2 ha3 ha4 ha5 ha6 hv7 hv8 hv9 hv10 hx0 hx2 hx3 h_1 h_8 h_9 h_27 h_41 h_42 h_43 h_44 h_45 h_13 h_46; omega) | omega⟩ ⟨by first | (clear ha1 ha2 ha3 ha4 ha5 ha6 hv7 hv8 hv9 hv10 hx0 hx1 hx3 h_1 h_8 h_9 h_27 h_41 h_42 h_43 h_44 h_45 h_13 h_46; omega) | omega, by first | (clear ha1 ha2 ha3 ha4 ha5 ha6 hv7 hv8 hv9 hv10 hx0 hx1 hx3 h_1 h_8 h_9 h_27 h_41 h_42 h_43 h_44 h_45 h_13 h_46; omega) | omega⟩ ⟨by first | (clear ha1 ha2 ha3 ha4 ha5 ha6 hv7 hv8 hv9 hv10 hx0 hx1 hx2 h_1 h_8 h_9 h_27 h_41 h_42 h_43 h_44 h_45 h_13 h_46; omega) | omega, by first | (clear ha1 ha2 ha3 ha4 ha5 ha6 hv7 hv8 hv9 hv10 hx0 hx1 hx2 h_1 h_8 h_9 h_27 h_41 h_42 h_43 h_44 h_45 h_13 h_46; omega) | omega⟩ (by omega)
            · refine v_if_ne_f (t := 164) c_256_157 rfl (Decidable.not_not.mp h_46) (q_iconst c_256_160 (q_goto (t := 165) c_256_161 rfl (v_iadd (v := v9 + 1) c_256_165 rfl (v_nrm (fun y_47 hy_47 => (q_istore c_256_166 (Nat.le_of_ble_eq_true rfl) (v_iinc (v := v10 + 1) c_256_168 rfl (Nat.le_of_ble_eq_true rfl) rfl (Wp_ls [(10, vi (v10 + 1)), (9, vi y_47), (8, vi v8), (7, vi y_12), (11, vi y_12), (0, .ref 41), (1, vi a1), (2, vi a2), (3, vi a3), (4, vi a4), (5, vi a5), (6, vi a6)] (lsub_cons rfl (lsub_cons rfl (lsub_cons rfl (lsub_cons rfl (lsub_cons rfl (lsub_cons rfl (lsub_cons rfl (lsub_cons rfl (lsub_cons rfl (lsub_cons rfl (lsub_cons rfl (lsub_cons rfl lsub_nil)))))))))))) ?_))))))))
              refine q_goto (t := 77) c_256_171 rfl (Wp_ls [(0, .ref 41), (1, vi a1), (2, vi a2), (3, vi a3), (4, vi a4), (5, vi a5), (6, vi a6), (7, vi y_12), (8, vi v8), (9, vi y_47), (10, vi (v10 + 1))] (lsub_cons rfl (lsub_cons rfl (lsub_cons rfl (lsub_cons rfl (lsub_cons rfl (lsub_cons rfl (lsub_cons rfl (lsub_cons rfl (lsub_cons rfl (lsub_cons rfl (lsub_cons rfl lsub_nil))))))))))) ?_)
              exact ih c_5 y_12 v8 y_47 (v10 + 1) hI_6 (fun a j hm => (hF_7 a j (qv_3730a4f02 hm)).trans (hF a j hm)) hy_12 hv8 hy_47 ⟨by first | exact rgp_l hv10.1 (by decide) | omega, by first | (clear ha1 ha2 ha3 ha4 ha5 ha6 hv7 hv8 hv9 hv10 hx1 hx2 hx3 h_8 h_9 h_27 h_41 h_42 h_43 h_44 h_45 h_46 h_13; omega) | omega⟩ ⟨by first | (clear ha1 ha2 ha3 ha4 ha5 ha6 hv7 hv8 hv9 hv10 hx1 hx2 hx3 h_1 h_8 h_9 h_27 h_41 h_42 h_43 h_44 h_45 h_46 h_13; omega) | omega, by first | (clear ha1 ha2 ha3 ha4 ha5 ha6 hv7 hv8 hv9 hv10 hx1 hx2 hx3 h_1 h_8 h_9 h_27 h_41 h_42 h_43 h_44 h_45 h_46 h_13; omega) | omega⟩ ⟨by first | (clear ha1 ha2 ha3 ha4 ha5 ha6 hv7 hv8 hv9 hv10 hx0 hx2 hx3 h_1 h_8 h_9 h_27 h_41 h_42 h_43 h_44 h_45 h_46 h_13; omega) | omega, by first | (clear ha1 ha2 ha3 ha4 ha5 ha6 hv7 hv8 hv9 hv10 hx0 hx2 hx3 h_1 h_8 h_9 h_27 h_41 h_42 h_43 h_44 h_45 h_46 h_13; omega) | omega⟩ ⟨by first | (clear ha1 ha2 ha3 ha4 ha5 ha6 hv7 hv8 hv9 hv10 hx0 hx1 hx3 h_1 h_8 h_9 h_27 h_41 h_42 h_43 h_44 h_45 h_46 h_13; omega) | omega, by first | (clear ha1 ha2 ha3 ha4 ha5 ha6 hv7 hv8 hv9 hv10 hx0 hx1 hx3 h_1 h_8 h_9 h_27 h_41 h_42 h_43 h_44 h_45 h_46 h_13; omega) | omega⟩ ⟨by first | (clear ha1 ha2 ha3 ha4 ha5 ha6 hv7 hv8 hv9 hv10 hx0 hx1 hx2 h_1 h_8 h_9 h_27 h_41 h_42 h_43 h_44 h_45 h_46 h_13; omega) | omega, by first | (clear ha1 ha2 ha3 ha4 ha5 ha6 hv7 hv8 hv9 hv10 hx0 hx1 hx2 h_1 h_8 h_9 h_27 h_41 h_42 h_43 h_44 h_45 h_46 h_13; omega) | omega⟩ (by omega)
          · refine v_ic_le_f (t := 145) c_256_137 rfl ⟨(Int.le_trans (by decide) hv8.1), (Int.not_le.mp h_41), hy_12.2⟩ (q_iload c_256_140 rfl (q_goto (t := 147) c_256_142 rfl (q_istore c_256_147 (Nat.le_of_ble_eq_true rfl) (q_iload c_256_149 rfl (q_aload_n c_256_151 rfl (q_iload c_256_152 rfl ?_))))))
            have h_48 := ir_59_g hI_6 (j := 4 * a6) (by first | (clear ha1 ha2 ha3 ha4 ha5 ha6 hv7 hv8 hv9 hv10 hx0 hx2 hx3 h_1 h_8 h_9 h_27 h_41 h_13; omega) | omega)
            have h_49 := ir_59_g hI_6 (j := 4 * a6 + 1) (by first | (clear ha1 ha2 ha3 ha4 ha5 ha6 hv7 hv8 hv9 hv10 hx0 hx2 hx3 h_1 h_8 h_9 h_27 h_41 h_48 h_13; omega) | omega)
            have h_50 := ir_59_g hI_6 (j := 4 * a6 + 2) (by first | (clear ha1 ha2 ha3 ha4 ha5 ha6 hv7 hv8 hv9 hv10 hx0 hx2 hx3 h_1 h_8 h_9 h_27 h_41 h_48 h_49 h_13; omega) | omega)
            have h_51 := ir_59_g hI_6 (j := 4 * a6 + 3) (by first | (clear ha1 ha2 ha3 ha4 ha5 ha6 hv7 hv8 hv9 hv10 hx0 hx2 hx3 h_1 h_8 h_9 h_27 h_41 h_48 h_49 h_50 h_13; omega) | omega)
            refine v_cv c_256_154 km_8_343 rfl rfl (Nat.le_of_ble_eq_true rfl) ⟨⟨rfl, rfl⟩, Nat.le_of_ble_eq_true rfl, rfl⟩ (Nat.le_of_ble_eq_true rfl) (Nat.le_of_ble_eq_true rfl) (s_187 (v1 := c_5 59 (4 * a6)) (v2 := c_5 59 (4 * a6 + 1)) (v3 := c_5 59 (4 * a6 + 2)) (v4 := c_5 59 (4 * a6 + 3)) (r := c_5 59 (4 * a6 + 1) + c_5 59 (4 * a6 + 2) + c_5 59 (4 * a6 + 3) + c_5 59 (4 * a6)) (a1 := a6) hI_6 (show 0 ≤ a6 ∧ a6 ≤ 5 from ⟨by first | (clear ha1 ha2 ha3 ha4 ha5 ha6 hv7 hv8 hv9 hv10 hx0 hx2 hx3 h_1 h_8 h_9 h_27 h_41 h_13; omega) | omega, by first | (clear ha1 ha2 ha3 ha4 ha5 ha6 hv7 hv8 hv9 hv10 hx0 hx2 hx3 h_1 h_8 h_9 h_27 h_41 h_13; omega) | omega⟩) (rfl) (rfl) (rfl) (rfl) (by omega) (bk_inl ?_))
            by_cases h_52 : c_5 59 (4 * a6 + 1) + c_5 59 (4 * a6 + 2) + c_5 59 (4 * a6 + 3) + c_5 59 (4 * a6) ≠ 0
            · refine v_if_ne_t (t := 164) c_256_157 rfl ⟨h_52, ⟨by first | exact q_e052ef40e h_48 h_49 h_50 h_51 | omega, by first | exact q_db9ef1f4a h_48 h_49 h_50 h_51 | omega⟩, by decide, by decide⟩ (q_iconst c_256_164 (v_iadd (v := v9) c_256_165 (by first | (clear ha1 ha2 ha3 ha4 ha5 ha6 hv7 hv8 hv9 hv10 hx0 hx1 hx2 hx3 h_1 h_8 h_9 h_27 h_41 h_48 h_49 h_50 h_51 h_13 h_52; omega) | omega) (q_istore c_256_166 (Nat.le_of_ble_eq_true rfl) (v_iinc (v := v10 + 1) c_256_168 rfl (Nat.le_of_ble_eq_true rfl) rfl (Wp_ls [(10, vi (v10 + 1)), (9, vi v9), (8, vi y_12), (7, vi y_12), (11, vi y_12), (0, .ref 41), (1, vi a1), (2, vi a2), (3, vi a3), (4, vi a4), (5, vi a5), (6, vi a6)] (lsub_cons rfl (lsub_cons rfl (lsub_cons rfl (lsub_cons rfl (lsub_cons rfl (lsub_cons rfl (lsub_cons rfl (lsub_cons rfl (lsub_cons rfl (lsub_cons rfl (lsub_cons rfl (lsub_cons rfl lsub_nil)))))))))))) (q_goto (t := 77) c_256_171 rfl (Wp_ls [(0, .ref 41), (1, vi a1), (2, vi a2), (3, vi a3), (4, vi a4), (5, vi a5), (6, vi a6), (7, vi y_12), (8, vi y_12), (9, vi v9), (10, vi (v10 + 1))] (lsub_cons rfl (lsub_cons rfl (lsub_cons rfl (lsub_cons rfl (lsub_cons rfl (lsub_cons rfl (lsub_cons rfl (lsub_cons rfl (lsub_cons rfl (lsub_cons rfl (lsub_cons rfl lsub_nil))))))))))) ?_)))))))
              exact ih c_5 y_12 y_12 v9 (v10 + 1) hI_6 (fun a j hm => (hF_7 a j (qv_3730a4f02 hm)).trans (hF a j hm)) hy_12 ⟨by first | exact q_263c88b99 h_41 hv8 | omega, hy_12.2⟩ hv9 ⟨by first | exact rgp_l hv10.1 (by decide) | omega, by first | (clear ha1 ha2 ha3 ha4 ha5 ha6 hv7 hv8 hv9 hv10 hx1 hx2 hx3 h_8 h_9 h_27 h_41 h_48 h_49 h_50 h_51 h_13 h_52; omega) | omega⟩ ⟨by first | (clear ha1 ha2 ha3 ha4 ha5 ha6 hv7 hv8 hv9 hv10 hx1 hx2 hx3 h_1 h_8 h_9 h_27 h_41 h_48 h_49 h_50 h_51 h_13 h_52; omega) | omega, by first | (clear ha1 ha2 ha3 ha4 ha5 ha6 hv7 hv8 hv9 hv10 hx1 hx2 hx3 h_1 h_8 h_9 h_27 h_41 h_48 h_49 h_50 h_51 h_13 h_52; omega) | omega⟩ ⟨by first | (clear ha1 ha2 ha3 ha4 ha5 ha6 hv7 hv8 hv9 hv10 hx0 hx2 hx3 h_1 h_8 h_9 h_27 h_41 h_48 h_49 h_50 h_51 h_13 h_52; omega) | omega, by first | (clear ha1 ha2 ha3 ha4 ha5 ha6 hv7 hv8 hv9 hv10 hx0 hx2 hx3 h_1 h_8 h_9 h_27 h_41 h_48 h_49 h_50 h_51 h_13 h_52; omega) | omega⟩ ⟨by first | (clear ha1 ha2 ha3 ha4 ha5 ha6 hv7 hv8 hv9 hv10 hx0 hx1 hx3 h_1 h_8 h_9 h_27 h_41 h_48 h_49 h_50 h_51 h_13 h_52; omega) | omega, by first | (clear ha1 ha2 ha3 ha4 ha5 ha6 hv7 hv8 hv9 hv10 hx0 hx1 hx3 h_1 h_8 h_9 h_27 h_41 h_48 h_49 h_50 h_51 h_13 h_52; omega) | omega⟩ ⟨by first | (clear ha1 ha2 ha3 ha4 ha5 ha6 hv7 hv8 hv9 hv10 hx0 hx1 hx2 h_1 h_8 h_9 h_27 h_41 h_48 h_49 h_50 h_51 h_13 h_52; omega) | omega, by first | (clear ha1 ha2 ha3 ha4 ha5 ha6 hv7 hv8 hv9 hv10 hx0 hx1 hx2 h_1 h_8 h_9 h_27 h_41 h_48 h_49 h_50 h_51 h_13 h_52; omega) | omega⟩ (by omega)
            · refine v_if_ne_f (t := 164) c_256_157 rfl (Decidable.not_not.mp h_52) (q_iconst c_256_160 (q_goto (t := 165) c_256_161 rfl (v_iadd (v := v9 + 1) c_256_165 rfl (v_nrm (fun y_53 hy_53 => (q_istore c_256_166 (Nat.le_of_ble_eq_true rfl) (v_iinc (v := v10 + 1) c_256_168 rfl (Nat.le_of_ble_eq_true rfl) rfl (Wp_ls [(10, vi (v10 + 1)), (9, vi y_53), (8, vi y_12), (7, vi y_12), (11, vi y_12), (0, .ref 41), (1, vi a1), (2, vi a2), (3, vi a3), (4, vi a4), (5, vi a5), (6, vi a6)] (lsub_cons rfl (lsub_cons rfl (lsub_cons rfl (lsub_cons rfl (lsub_cons rfl (lsub_cons rfl (lsub_cons rfl (lsub_cons rfl (lsub_cons rfl (lsub_cons rfl (lsub_cons rfl (lsub_cons rfl lsub_nil)))))))))))) ?_))))))))
              refine q_goto (t := 77) c_256_171 rfl (Wp_ls [(0, .ref 41), (1, vi a1), (2, vi a2), (3, vi a3), (4, vi a4), (5, vi a5), (6, vi a6), (7, vi y_12), (8, vi y_12), (9, vi y_53), (10, vi (v10 + 1))] (lsub_cons rfl (lsub_cons rfl (lsub_cons rfl (lsub_cons rfl (lsub_cons rfl (lsub_cons rfl (lsub_cons rfl (lsub_cons rfl (lsub_cons rfl (lsub_cons rfl (lsub_cons rfl lsub_nil))))))))))) ?_)
              exact ih c_5 y_12 y_12 y_53 (v10 + 1) hI_6 (fun a j hm => (hF_7 a j (qv_3730a4f02 hm)).trans (hF a j hm)) hy_12 ⟨by first | exact q_263c88b99 h_41 hv8 | omega, hy_12.2⟩ hy_53 ⟨by first | exact rgp_l hv10.1 (by decide) | omega, by first | (clear ha1 ha2 ha3 ha4 ha5 ha6 hv7 hv8 hv9 hv10 hx1 hx2 hx3 h_8 h_9 h_27 h_41 h_48 h_49 h_50 h_51 h_52 h_13; omega) | omega⟩ ⟨by first | (clear ha1 ha2 ha3 ha4 ha5 ha6 hv7 hv8 hv9 hv10 hx1 hx2 hx3 h_1 h_8 h_9 h_27 h_41 h_48 h_49 h_50 h_51 h_52 h_13; omega) | omega, by first | (clear ha1 ha2 ha3 ha4 ha5 ha6 hv7 hv8 hv9 hv10 hx1 hx2 hx3 h_1 h_8 h_9 h_27 h_41 h_48 h_49 h_50 h_51 h_52 h_13; omega) | omega⟩ ⟨by first | (clear ha1 ha2 ha3 ha4 ha5 ha6 hv7 hv8 hv9 hv10 hx0 hx2 hx3 h_1 h_8 h_9 h_27 h_41 h_48 h_49 h_50 h_51 h_52 h_13; omega) | omega, by first | (clear ha1 ha2 ha3 ha4 ha5 ha6 hv7 hv8 hv9 hv10 hx0 hx2 hx3 h_1 h_8 h_9 h_27 h_41 h_48 h_49 h_50 h_51 h_52 h_13; omega) | omega⟩ ⟨by first | (clear ha1 ha2 ha3 ha4 ha5 ha6 hv7 hv8 hv9 hv10 hx0 hx1 hx3 h_1 h_8 h_9 h_27 h_41 h_48 h_49 h_50 h_51 h_52 h_13; omega) | omega, by first | (clear ha1 ha2 ha3 ha4 ha5 ha6 hv7 hv8 hv9 hv10 hx0 hx1 hx3 h_1 h_8 h_9 h_27 h_41 h_48 h_49 h_50 h_51 h_52 h_13; omega) | omega⟩ ⟨by first | (clear ha1 ha2 ha3 ha4 ha5 ha6 hv7 hv8 hv9 hv10 hx0 hx1 hx2 h_1 h_8 h_9 h_27 h_41 h_48 h_49 h_50 h_51 h_52 h_13; omega) | omega, by first | (clear ha1 ha2 ha3 ha4 ha5 ha6 hv7 hv8 hv9 hv10 hx0 hx1 hx2 h_1 h_8 h_9 h_27 h_41 h_48 h_49 h_50 h_51 h_52 h_13; omega) | omega⟩ (by omega)
set_option maxRecDepth 100000 in
set_option maxHeartbeats 4000000 in
theorem s_256 {sc : List Int32} {d P Q : Nat} {c : ME} {a1 : Int} {a2 : Int} {a3 : Int} {a4 : Int} {a5 : Int} {a6 : Int} {Z : AR → Prop} (hI : Iv 0 (-1) P Q c) (ha1 : (-2147483648) ≤ a1 ∧ a1 ≤ 2147483647) (ha2 : (-2147483648) ≤ a2 ∧ a2 ≤ 2147483647) (ha3 : (-2147483648) ≤ a3 ∧ a3 ≤ 2147483647) (ha4 : (-2147483648) ≤ a4 ∧ a4 ≤ 2147483647) (ha5 : (-2147483648) ≤ a5 ∧ a5 ≤ 2147483647) (ha6 : (-2147483648) ≤ a6 ∧ a6 ≤ 2147483647) (K : ∀ (c2 : ME) (y : Int), Iv 0 (-1) P Q c2 → (∀ (a : Nat) (j : Int), ¬ ((a = 41 ∧ j = 0) ∨ a = 42 ∨ (a = 41 ∧ j = 50) ∨ a = 59 ∨ a = 54 ∨ a = 55) → c2 a j = c a j) → (-2147483648) ≤ y ∧ y ≤ 2147483647 → Z (.inl (some (vi y)), Wd P Q P P c2, 0, 0)) : Wp sc (d + 15) 256 0 [(0, .ref 41), (1, vi a1), (2, vi a2), (3, vi a3), (4, vi a4), (5, vi a5), (6, vi a6)] [] (Wd P Q P P c) 0 0 Z := by
  have hP := iv_P hI
  have hQ := iv_Q hI
  refine q_aload_n c_256_0 rfl (q_iconst c_256_1 (v_pi (z := 0) c_256_2 kf_8_3 rfl (Nat.le_of_ble_eq_true rfl) rfl rfl rfl (by decide) (q_aload_n c_256_5 rfl (q_iload_n c_256_6 rfl (q_iconst c_256_7 (v_bip c_256_8 (by decide) (q_call c_256_10 rfl rfl rfl ?_)))))))
  refine q_iload_n c_146_0 rfl (q_iload_n c_146_1 rfl ?_)
  by_cases h_54 : a2 < 1
  · refine v_ic_lt_t (t := 14) c_146_2 rfl ⟨ha2.1, h_54, by decide⟩ (q_iconst c_146_14 (v_zret c_146_15 rfl (by decide) (bk_inl (v_if_eq_t (t := 54) c_256_13 rfl (by decide) (q_iconst c_256_54 (q_iconst c_256_55 (q_iconst c_256_56 ?_)))))))
    refine v_cv c_256_57 km_8_203 rfl rfl (Nat.le_of_ble_eq_true rfl) ⟨⟨rfl, rfl⟩, Nat.le_of_ble_eq_true rfl, rfl⟩ (Nat.le_of_ble_eq_true rfl) (Nat.le_of_ble_eq_true rfl) (q_iload_n c_145_0 rfl (v_if_ne_f (t := 26) c_145_1 rfl (by decide) (q_aload_n c_145_4 rfl (v_gi (z := 0) (v := 0) c_145_5 kf_8_3 rfl (Nat.le_of_ble_eq_true rfl) rfl rfl (up_e rfl) (v_if_ne_f (t := 26) c_145_8 rfl (by decide) (q_aload_n c_145_11 rfl (q_iload_n c_145_12 rfl ?_)))))))
    refine v_pi (z := 0) c_145_13 kf_8_3 rfl (Nat.le_of_ble_eq_true rfl) rfl rfl rfl (by decide) (q_aload_n c_145_16 rfl (v_gr (t := 42) c_145_17 kf_8_7 rfl (Nat.le_of_ble_eq_true rfl) rfl (q_iload_n c_145_20 rfl (q_dup2 c_145_21 ⟨rfl, rfl⟩ ?_))))
    have h_55 := ir_42 hI 1
    refine v_ia (v := c 42 1) c_145_22 rfl (by decide) (by decide) (by decide) ((up_c (nn rfl)).trans (up_c (nn rfl))) (q_iconst c_145_23 (v_iadd (v := c 42 1 + 1) c_145_24 rfl (v_nrm (fun y_56 hy_56 => (v_is c_145_25 rfl (by decide) (by decide) (by decide) (q_aload_n c_145_26 rfl (v_gi (z := 0) (v := 1) c_145_27 kf_8_3 rfl (Nat.le_of_ble_eq_true rfl) rfl rfl ((up_c (nn rfl)).trans (up_e rfl)) (v_if_ne_t (t := 37) c_145_30 rfl (by decide) ?_))))))))
    refine q_iconst c_145_37 (v_zret c_145_38 rfl (by decide) (bk_inl (v_if_ne_f (t := 65) c_256_60 rfl (by decide) (q_iconst c_256_63 (q_iret c_256_64 rfl ?_)))))
    have hI_57 := iw_41_0 (v := 0) hI ⟨by decide, by decide⟩
    have hI_58 := iw_41_0 (v := 1) hI_57 ⟨by decide, by decide⟩
    have hI_59 := iw_42 (j := 1) (v := y_56) hI_58 ⟨hy_56.1, hy_56.2⟩
    exact K (up (up (up c 41 0 0) 41 0 1) 42 1 y_56) 0 hI_59 (fun a j hm => (up_b (Decidable.or_iff_not_imp_left.mpr (fun h1 h2 => hm (Or.inr (Or.inl (Decidable.not_not.mp h1)))))).trans ((up_b (Decidable.or_iff_not_imp_left.mpr (fun h1 h2 => hm (Or.inl ⟨Decidable.not_not.mp h1, h2⟩)))).trans (up_b (Decidable.or_iff_not_imp_left.mpr (fun h1 h2 => hm (Or.inl ⟨Decidable.not_not.mp h1, h2⟩)))))) ⟨by decide, by decide⟩
  · refine v_ic_lt_f (t := 14) c_146_2 rfl ⟨by decide, (Int.not_lt.mp h_54), ha2.2⟩ (q_iload_n c_146_5 rfl (q_iload_n c_146_6 rfl ?_))
    by_cases h_60 : a2 > 10
    · refine v_ic_gt_t (t := 14) c_146_7 rfl ⟨by decide, h_60, ha2.2⟩ (q_iconst c_146_14 (v_zret c_146_15 rfl (by decide) (bk_inl (v_if_eq_t (t := 54) c_256_13 rfl (by decide) (q_iconst c_256_54 (q_iconst c_256_55 (q_iconst c_256_56 ?_)))))))
      refine v_cv c_256_57 km_8_203 rfl rfl (Nat.le_of_ble_eq_true rfl) ⟨⟨rfl, rfl⟩, Nat.le_of_ble_eq_true rfl, rfl⟩ (Nat.le_of_ble_eq_true rfl) (Nat.le_of_ble_eq_true rfl) (q_iload_n c_145_0 rfl (v_if_ne_f (t := 26) c_145_1 rfl (by decide) (q_aload_n c_145_4 rfl (v_gi (z := 0) (v := 0) c_145_5 kf_8_3 rfl (Nat.le_of_ble_eq_true rfl) rfl rfl (up_e rfl) (v_if_ne_f (t := 26) c_145_8 rfl (by decide) (q_aload_n c_145_11 rfl (q_iload_n c_145_12 rfl ?_)))))))
      refine v_pi (z := 0) c_145_13 kf_8_3 rfl (Nat.le_of_ble_eq_true rfl) rfl rfl rfl (by decide) (q_aload_n c_145_16 rfl (v_gr (t := 42) c_145_17 kf_8_7 rfl (Nat.le_of_ble_eq_true rfl) rfl (q_iload_n c_145_20 rfl (q_dup2 c_145_21 ⟨rfl, rfl⟩ ?_))))
      have h_61 := ir_42 hI 1
      refine v_ia (v := c 42 1) c_145_22 rfl (by decide) (by decide) (by decide) ((up_c (nn rfl)).trans (up_c (nn rfl))) (q_iconst c_145_23 (v_iadd (v := c 42 1 + 1) c_145_24 rfl (v_nrm (fun y_62 hy_62 => (v_is c_145_25 rfl (by decide) (by decide) (by decide) (q_aload_n c_145_26 rfl (v_gi (z := 0) (v := 1) c_145_27 kf_8_3 rfl (Nat.le_of_ble_eq_true rfl) rfl rfl ((up_c (nn rfl)).trans (up_e rfl)) (v_if_ne_t (t := 37) c_145_30 rfl (by decide) ?_))))))))
      refine q_iconst c_145_37 (v_zret c_145_38 rfl (by decide) (bk_inl (v_if_ne_f (t := 65) c_256_60 rfl (by decide) (q_iconst c_256_63 (q_iret c_256_64 rfl ?_)))))
      have hI_63 := iw_41_0 (v := 0) hI ⟨by decide, by decide⟩
      have hI_64 := iw_41_0 (v := 1) hI_63 ⟨by decide, by decide⟩
      have hI_65 := iw_42 (j := 1) (v := y_62) hI_64 ⟨hy_62.1, hy_62.2⟩
      exact K (up (up (up c 41 0 0) 41 0 1) 42 1 y_62) 0 hI_65 (fun a j hm => (up_b (Decidable.or_iff_not_imp_left.mpr (fun h1 h2 => hm (Or.inr (Or.inl (Decidable.not_not.mp h1)))))).trans ((up_b (Decidable.or_iff_not_imp_left.mpr (fun h1 h2 => hm (Or.inl ⟨Decidable.not_not.mp h1, h2⟩)))).trans (up_b (Decidable.or_iff_not_imp_left.mpr (fun h1 h2 => hm (Or.inl ⟨Decidable.not_not.mp h1, h2⟩)))))) ⟨by decide, by decide⟩
    · refine v_ic_gt_f (t := 14) c_146_7 rfl ⟨ha2.1, (Int.not_lt.mp h_60), by decide⟩ (q_iconst c_146_10 (q_goto (t := 15) c_146_11 rfl (v_zret c_146_15 rfl (by decide) (bk_inl (v_if_eq_f (t := 54) c_256_13 rfl (by decide) (q_iload_n c_256_16 rfl (q_iload c_256_17 rfl ?_)))))))
      refine q_call c_256_19 rfl rfl rfl (q_iload_n c_254_0 rfl ?_)
      by_cases h_66 : a3 < 0
      · refine v_if_lt_t (t := 25) c_254_1 rfl ⟨ha3.1, h_66, by decide⟩ (q_iconst c_254_25 (v_zret c_254_26 rfl (by decide) (bk_inl (v_if_eq_t (t := 54) c_256_22 rfl (by decide) (q_iconst c_256_54 (q_iconst c_256_55 (q_iconst c_256_56 ?_)))))))
        refine v_cv c_256_57 km_8_203 rfl rfl (Nat.le_of_ble_eq_true rfl) ⟨⟨rfl, rfl⟩, Nat.le_of_ble_eq_true rfl, rfl⟩ (Nat.le_of_ble_eq_true rfl) (Nat.le_of_ble_eq_true rfl) (q_iload_n c_145_0 rfl (v_if_ne_f (t := 26) c_145_1 rfl (by decide) (q_aload_n c_145_4 rfl (v_gi (z := 0) (v := 0) c_145_5 kf_8_3 rfl (Nat.le_of_ble_eq_true rfl) rfl rfl (up_e rfl) (v_if_ne_f (t := 26) c_145_8 rfl (by decide) (q_aload_n c_145_11 rfl (q_iload_n c_145_12 rfl ?_)))))))
        refine v_pi (z := 0) c_145_13 kf_8_3 rfl (Nat.le_of_ble_eq_true rfl) rfl rfl rfl (by decide) (q_aload_n c_145_16 rfl (v_gr (t := 42) c_145_17 kf_8_7 rfl (Nat.le_of_ble_eq_true rfl) rfl (q_iload_n c_145_20 rfl (q_dup2 c_145_21 ⟨rfl, rfl⟩ ?_))))
        have h_67 := ir_42 hI 1
        refine v_ia (v := c 42 1) c_145_22 rfl (by decide) (by decide) (by decide) ((up_c (nn rfl)).trans (up_c (nn rfl))) (q_iconst c_145_23 (v_iadd (v := c 42 1 + 1) c_145_24 rfl (v_nrm (fun y_68 hy_68 => (v_is c_145_25 rfl (by decide) (by decide) (by decide) (q_aload_n c_145_26 rfl (v_gi (z := 0) (v := 1) c_145_27 kf_8_3 rfl (Nat.le_of_ble_eq_true rfl) rfl rfl ((up_c (nn rfl)).trans (up_e rfl)) (v_if_ne_t (t := 37) c_145_30 rfl (by decide) ?_))))))))
        refine q_iconst c_145_37 (v_zret c_145_38 rfl (by decide) (bk_inl (v_if_ne_f (t := 65) c_256_60 rfl (by decide) (q_iconst c_256_63 (q_iret c_256_64 rfl ?_)))))
        have hI_69 := iw_41_0 (v := 0) hI ⟨by decide, by decide⟩
        have hI_70 := iw_41_0 (v := 1) hI_69 ⟨by decide, by decide⟩
        have hI_71 := iw_42 (j := 1) (v := y_68) hI_70 ⟨hy_68.1, hy_68.2⟩
        exact K (up (up (up c 41 0 0) 41 0 1) 42 1 y_68) 0 hI_71 (fun a j hm => (up_b (Decidable.or_iff_not_imp_left.mpr (fun h1 h2 => hm (Or.inr (Or.inl (Decidable.not_not.mp h1)))))).trans ((up_b (Decidable.or_iff_not_imp_left.mpr (fun h1 h2 => hm (Or.inl ⟨Decidable.not_not.mp h1, h2⟩)))).trans (up_b (Decidable.or_iff_not_imp_left.mpr (fun h1 h2 => hm (Or.inl ⟨Decidable.not_not.mp h1, h2⟩)))))) ⟨by decide, by decide⟩
      · refine v_if_lt_f (t := 25) c_254_1 rfl ⟨by decide, (Int.not_lt.mp h_66), ha3.2⟩ (q_iload_n c_254_4 rfl (v_bip c_254_5 (by decide) ?_))
        by_cases h_72 : a3 > 16
        · refine v_ic_gt_t (t := 25) c_254_7 rfl ⟨by decide, h_72, ha3.2⟩ (q_iconst c_254_25 (v_zret c_254_26 rfl (by decide) (bk_inl (v_if_eq_t (t := 54) c_256_22 rfl (by decide) (q_iconst c_256_54 (q_iconst c_256_55 (q_iconst c_256_56 ?_)))))))
          refine v_cv c_256_57 km_8_203 rfl rfl (Nat.le_of_ble_eq_true rfl) ⟨⟨rfl, rfl⟩, Nat.le_of_ble_eq_true rfl, rfl⟩ (Nat.le_of_ble_eq_true rfl) (Nat.le_of_ble_eq_true rfl) (q_iload_n c_145_0 rfl (v_if_ne_f (t := 26) c_145_1 rfl (by decide) (q_aload_n c_145_4 rfl (v_gi (z := 0) (v := 0) c_145_5 kf_8_3 rfl (Nat.le_of_ble_eq_true rfl) rfl rfl (up_e rfl) (v_if_ne_f (t := 26) c_145_8 rfl (by decide) (q_aload_n c_145_11 rfl (q_iload_n c_145_12 rfl ?_)))))))
          refine v_pi (z := 0) c_145_13 kf_8_3 rfl (Nat.le_of_ble_eq_true rfl) rfl rfl rfl (by decide) (q_aload_n c_145_16 rfl (v_gr (t := 42) c_145_17 kf_8_7 rfl (Nat.le_of_ble_eq_true rfl) rfl (q_iload_n c_145_20 rfl (q_dup2 c_145_21 ⟨rfl, rfl⟩ ?_))))
          have h_73 := ir_42 hI 1
          refine v_ia (v := c 42 1) c_145_22 rfl (by decide) (by decide) (by decide) ((up_c (nn rfl)).trans (up_c (nn rfl))) (q_iconst c_145_23 (v_iadd (v := c 42 1 + 1) c_145_24 rfl (v_nrm (fun y_74 hy_74 => (v_is c_145_25 rfl (by decide) (by decide) (by decide) (q_aload_n c_145_26 rfl (v_gi (z := 0) (v := 1) c_145_27 kf_8_3 rfl (Nat.le_of_ble_eq_true rfl) rfl rfl ((up_c (nn rfl)).trans (up_e rfl)) (v_if_ne_t (t := 37) c_145_30 rfl (by decide) ?_))))))))
          refine q_iconst c_145_37 (v_zret c_145_38 rfl (by decide) (bk_inl (v_if_ne_f (t := 65) c_256_60 rfl (by decide) (q_iconst c_256_63 (q_iret c_256_64 rfl ?_)))))
          have hI_75 := iw_41_0 (v := 0) hI ⟨by decide, by decide⟩
          have hI_76 := iw_41_0 (v := 1) hI_75 ⟨by decide, by decide⟩
          have hI_77 := iw_42 (j := 1) (v := y_74) hI_76 ⟨hy_74.1, hy_74.2⟩
          exact K (up (up (up c 41 0 0) 41 0 1) 42 1 y_74) 0 hI_77 (fun a j hm => (up_b (Decidable.or_iff_not_imp_left.mpr (fun h1 h2 => hm (Or.inr (Or.inl (Decidable.not_not.mp h1)))))).trans ((up_b (Decidable.or_iff_not_imp_left.mpr (fun h1 h2 => hm (Or.inl ⟨Decidable.not_not.mp h1, h2⟩)))).trans (up_b (Decidable.or_iff_not_imp_left.mpr (fun h1 h2 => hm (Or.inl ⟨Decidable.not_not.mp h1, h2⟩)))))) ⟨by decide, by decide⟩
        · refine v_ic_gt_f (t := 25) c_254_7 rfl ⟨ha3.1, (Int.not_lt.mp h_72), by decide⟩ (q_iload_n c_254_10 rfl (q_iconst c_254_11 ?_))
          by_cases h_78 : a4 < 1
          · refine v_ic_lt_t (t := 25) c_254_12 rfl ⟨ha4.1, h_78, by decide⟩ (q_iconst c_254_25 (v_zret c_254_26 rfl (by decide) (bk_inl (v_if_eq_t (t := 54) c_256_22 rfl (by decide) (q_iconst c_256_54 (q_iconst c_256_55 (q_iconst c_256_56 ?_)))))))
            refine v_cv c_256_57 km_8_203 rfl rfl (Nat.le_of_ble_eq_true rfl) ⟨⟨rfl, rfl⟩, Nat.le_of_ble_eq_true rfl, rfl⟩ (Nat.le_of_ble_eq_true rfl) (Nat.le_of_ble_eq_true rfl) (q_iload_n c_145_0 rfl (v_if_ne_f (t := 26) c_145_1 rfl (by decide) (q_aload_n c_145_4 rfl (v_gi (z := 0) (v := 0) c_145_5 kf_8_3 rfl (Nat.le_of_ble_eq_true rfl) rfl rfl (up_e rfl) (v_if_ne_f (t := 26) c_145_8 rfl (by decide) (q_aload_n c_145_11 rfl (q_iload_n c_145_12 rfl ?_)))))))
            refine v_pi (z := 0) c_145_13 kf_8_3 rfl (Nat.le_of_ble_eq_true rfl) rfl rfl rfl (by decide) (q_aload_n c_145_16 rfl (v_gr (t := 42) c_145_17 kf_8_7 rfl (Nat.le_of_ble_eq_true rfl) rfl (q_iload_n c_145_20 rfl (q_dup2 c_145_21 ⟨rfl, rfl⟩ ?_))))
            have h_79 := ir_42 hI 1
            refine v_ia (v := c 42 1) c_145_22 rfl (by decide) (by decide) (by decide) ((up_c (nn rfl)).trans (up_c (nn rfl))) (q_iconst c_145_23 (v_iadd (v := c 42 1 + 1) c_145_24 rfl (v_nrm (fun y_80 hy_80 => (v_is c_145_25 rfl (by decide) (by decide) (by decide) (q_aload_n c_145_26 rfl (v_gi (z := 0) (v := 1) c_145_27 kf_8_3 rfl (Nat.le_of_ble_eq_true rfl) rfl rfl ((up_c (nn rfl)).trans (up_e rfl)) (v_if_ne_t (t := 37) c_145_30 rfl (by decide) ?_))))))))
            refine q_iconst c_145_37 (v_zret c_145_38 rfl (by decide) (bk_inl (v_if_ne_f (t := 65) c_256_60 rfl (by decide) (q_iconst c_256_63 (q_iret c_256_64 rfl ?_)))))
            have hI_81 := iw_41_0 (v := 0) hI ⟨by decide, by decide⟩
            have hI_82 := iw_41_0 (v := 1) hI_81 ⟨by decide, by decide⟩
            have hI_83 := iw_42 (j := 1) (v := y_80) hI_82 ⟨hy_80.1, hy_80.2⟩
            exact K (up (up (up c 41 0 0) 41 0 1) 42 1 y_80) 0 hI_83 (fun a j hm => (up_b (Decidable.or_iff_not_imp_left.mpr (fun h1 h2 => hm (Or.inr (Or.inl (Decidable.not_not.mp h1)))))).trans ((up_b (Decidable.or_iff_not_imp_left.mpr (fun h1 h2 => hm (Or.inl ⟨Decidable.not_not.mp h1, h2⟩)))).trans (up_b (Decidable.or_iff_not_imp_left.mpr (fun h1 h2 => hm (Or.inl ⟨Decidable.not_not.mp h1, h2⟩)))))) ⟨by decide, by decide⟩
          · refine v_ic_lt_f (t := 25) c_254_12 rfl ⟨by decide, (Int.not_lt.mp h_78), ha4.2⟩ (q_iload_n c_254_15 rfl (v_bip c_254_16 (by decide) ?_))
            by_cases h_84 : a4 > 48
            · refine v_ic_gt_t (t := 25) c_254_18 rfl ⟨by decide, h_84, ha4.2⟩ (q_iconst c_254_25 (v_zret c_254_26 rfl (by decide) (bk_inl (v_if_eq_t (t := 54) c_256_22 rfl (by decide) (q_iconst c_256_54 (q_iconst c_256_55 (q_iconst c_256_56 ?_)))))))
              refine v_cv c_256_57 km_8_203 rfl rfl (Nat.le_of_ble_eq_true rfl) ⟨⟨rfl, rfl⟩, Nat.le_of_ble_eq_true rfl, rfl⟩ (Nat.le_of_ble_eq_true rfl) (Nat.le_of_ble_eq_true rfl) (q_iload_n c_145_0 rfl (v_if_ne_f (t := 26) c_145_1 rfl (by decide) (q_aload_n c_145_4 rfl (v_gi (z := 0) (v := 0) c_145_5 kf_8_3 rfl (Nat.le_of_ble_eq_true rfl) rfl rfl (up_e rfl) (v_if_ne_f (t := 26) c_145_8 rfl (by decide) (q_aload_n c_145_11 rfl (q_iload_n c_145_12 rfl ?_)))))))
              refine v_pi (z := 0) c_145_13 kf_8_3 rfl (Nat.le_of_ble_eq_true rfl) rfl rfl rfl (by decide) (q_aload_n c_145_16 rfl (v_gr (t := 42) c_145_17 kf_8_7 rfl (Nat.le_of_ble_eq_true rfl) rfl (q_iload_n c_145_20 rfl (q_dup2 c_145_21 ⟨rfl, rfl⟩ ?_))))
              have h_85 := ir_42 hI 1
              refine v_ia (v := c 42 1) c_145_22 rfl (by decide) (by decide) (by decide) ((up_c (nn rfl)).trans (up_c (nn rfl))) (q_iconst c_145_23 (v_iadd (v := c 42 1 + 1) c_145_24 rfl (v_nrm (fun y_86 hy_86 => (v_is c_145_25 rfl (by decide) (by decide) (by decide) (q_aload_n c_145_26 rfl (v_gi (z := 0) (v := 1) c_145_27 kf_8_3 rfl (Nat.le_of_ble_eq_true rfl) rfl rfl ((up_c (nn rfl)).trans (up_e rfl)) (v_if_ne_t (t := 37) c_145_30 rfl (by decide) ?_))))))))
              refine q_iconst c_145_37 (v_zret c_145_38 rfl (by decide) (bk_inl (v_if_ne_f (t := 65) c_256_60 rfl (by decide) (q_iconst c_256_63 (q_iret c_256_64 rfl ?_)))))
              have hI_87 := iw_41_0 (v := 0) hI ⟨by decide, by decide⟩
              have hI_88 := iw_41_0 (v := 1) hI_87 ⟨by decide, by decide⟩
              have hI_89 := iw_42 (j := 1) (v := y_86) hI_88 ⟨hy_86.1, hy_86.2⟩
              exact K (up (up (up c 41 0 0) 41 0 1) 42 1 y_86) 0 hI_89 (fun a j hm => (up_b (Decidable.or_iff_not_imp_left.mpr (fun h1 h2 => hm (Or.inr (Or.inl (Decidable.not_not.mp h1)))))).trans ((up_b (Decidable.or_iff_not_imp_left.mpr (fun h1 h2 => hm (Or.inl ⟨Decidable.not_not.mp h1, h2⟩)))).trans (up_b (Decidable.or_iff_not_imp_left.mpr (fun h1 h2 => hm (Or.inl ⟨Decidable.not_not.mp h1, h2⟩)))))) ⟨by decide, by decide⟩
            · refine v_ic_gt_f (t := 25) c_254_18 rfl ⟨ha4.1, (Int.not_lt.mp h_84), by decide⟩ (q_iconst c_254_21 (q_goto (t := 26) c_254_22 rfl (v_zret c_254_26 rfl (by decide) (bk_inl (v_if_eq_f (t := 54) c_256_22 rfl (by decide) (q_iload c_256_25 rfl (q_iconst c_256_27 ?_)))))))
              refine q_iconst c_256_28 (q_call c_256_29 rfl rfl rfl (q_iload_n c_146_0 rfl (q_iload_n c_146_1 rfl ?_)))
              by_cases h_90 : a5 < 0
              · refine v_ic_lt_t (t := 14) c_146_2 rfl ⟨ha5.1, h_90, by decide⟩ (q_iconst c_146_14 (v_zret c_146_15 rfl (by decide) (bk_inl (v_if_eq_t (t := 54) c_256_32 rfl (by decide) (q_iconst c_256_54 (q_iconst c_256_55 (q_iconst c_256_56 ?_)))))))
                refine v_cv c_256_57 km_8_203 rfl rfl (Nat.le_of_ble_eq_true rfl) ⟨⟨rfl, rfl⟩, Nat.le_of_ble_eq_true rfl, rfl⟩ (Nat.le_of_ble_eq_true rfl) (Nat.le_of_ble_eq_true rfl) (q_iload_n c_145_0 rfl (v_if_ne_f (t := 26) c_145_1 rfl (by decide) (q_aload_n c_145_4 rfl (v_gi (z := 0) (v := 0) c_145_5 kf_8_3 rfl (Nat.le_of_ble_eq_true rfl) rfl rfl (up_e rfl) (v_if_ne_f (t := 26) c_145_8 rfl (by decide) (q_aload_n c_145_11 rfl (q_iload_n c_145_12 rfl ?_)))))))
                refine v_pi (z := 0) c_145_13 kf_8_3 rfl (Nat.le_of_ble_eq_true rfl) rfl rfl rfl (by decide) (q_aload_n c_145_16 rfl (v_gr (t := 42) c_145_17 kf_8_7 rfl (Nat.le_of_ble_eq_true rfl) rfl (q_iload_n c_145_20 rfl (q_dup2 c_145_21 ⟨rfl, rfl⟩ ?_))))
                have h_91 := ir_42 hI 1
                refine v_ia (v := c 42 1) c_145_22 rfl (by decide) (by decide) (by decide) ((up_c (nn rfl)).trans (up_c (nn rfl))) (q_iconst c_145_23 (v_iadd (v := c 42 1 + 1) c_145_24 rfl (v_nrm (fun y_92 hy_92 => (v_is c_145_25 rfl (by decide) (by decide) (by decide) (q_aload_n c_145_26 rfl (v_gi (z := 0) (v := 1) c_145_27 kf_8_3 rfl (Nat.le_of_ble_eq_true rfl) rfl rfl ((up_c (nn rfl)).trans (up_e rfl)) (v_if_ne_t (t := 37) c_145_30 rfl (by decide) ?_))))))))
                refine q_iconst c_145_37 (v_zret c_145_38 rfl (by decide) (bk_inl (v_if_ne_f (t := 65) c_256_60 rfl (by decide) (q_iconst c_256_63 (q_iret c_256_64 rfl ?_)))))
                have hI_93 := iw_41_0 (v := 0) hI ⟨by decide, by decide⟩
                have hI_94 := iw_41_0 (v := 1) hI_93 ⟨by decide, by decide⟩
                have hI_95 := iw_42 (j := 1) (v := y_92) hI_94 ⟨hy_92.1, hy_92.2⟩
                exact K (up (up (up c 41 0 0) 41 0 1) 42 1 y_92) 0 hI_95 (fun a j hm => (up_b (Decidable.or_iff_not_imp_left.mpr (fun h1 h2 => hm (Or.inr (Or.inl (Decidable.not_not.mp h1)))))).trans ((up_b (Decidable.or_iff_not_imp_left.mpr (fun h1 h2 => hm (Or.inl ⟨Decidable.not_not.mp h1, h2⟩)))).trans (up_b (Decidable.or_iff_not_imp_left.mpr (fun h1 h2 => hm (Or.inl ⟨Decidable.not_not.mp h1, h2⟩)))))) ⟨by decide, by decide⟩
              · refine v_ic_lt_f (t := 14) c_146_2 rfl ⟨by decide, (Int.not_lt.mp h_90), ha5.2⟩ (q_iload_n c_146_5 rfl (q_iload_n c_146_6 rfl ?_))
                by_cases h_96 : a5 > 2
                · refine v_ic_gt_t (t := 14) c_146_7 rfl ⟨by decide, h_96, ha5.2⟩ (q_iconst c_146_14 (v_zret c_146_15 rfl (by decide) (bk_inl (v_if_eq_t (t := 54) c_256_32 rfl (by decide) (q_iconst c_256_54 (q_iconst c_256_55 (q_iconst c_256_56 ?_)))))))
                  refine v_cv c_256_57 km_8_203 rfl rfl (Nat.le_of_ble_eq_true rfl) ⟨⟨rfl, rfl⟩, Nat.le_of_ble_eq_true rfl, rfl⟩ (Nat.le_of_ble_eq_true rfl) (Nat.le_of_ble_eq_true rfl) (q_iload_n c_145_0 rfl (v_if_ne_f (t := 26) c_145_1 rfl (by decide) (q_aload_n c_145_4 rfl (v_gi (z := 0) (v := 0) c_145_5 kf_8_3 rfl (Nat.le_of_ble_eq_true rfl) rfl rfl (up_e rfl) (v_if_ne_f (t := 26) c_145_8 rfl (by decide) (q_aload_n c_145_11 rfl (q_iload_n c_145_12 rfl ?_)))))))
                  refine v_pi (z := 0) c_145_13 kf_8_3 rfl (Nat.le_of_ble_eq_true rfl) rfl rfl rfl (by decide) (q_aload_n c_145_16 rfl (v_gr (t := 42) c_145_17 kf_8_7 rfl (Nat.le_of_ble_eq_true rfl) rfl (q_iload_n c_145_20 rfl (q_dup2 c_145_21 ⟨rfl, rfl⟩ ?_))))
                  have h_97 := ir_42 hI 1
                  refine v_ia (v := c 42 1) c_145_22 rfl (by decide) (by decide) (by decide) ((up_c (nn rfl)).trans (up_c (nn rfl))) (q_iconst c_145_23 (v_iadd (v := c 42 1 + 1) c_145_24 rfl (v_nrm (fun y_98 hy_98 => (v_is c_145_25 rfl (by decide) (by decide) (by decide) (q_aload_n c_145_26 rfl (v_gi (z := 0) (v := 1) c_145_27 kf_8_3 rfl (Nat.le_of_ble_eq_true rfl) rfl rfl ((up_c (nn rfl)).trans (up_e rfl)) (v_if_ne_t (t := 37) c_145_30 rfl (by decide) ?_))))))))
                  refine q_iconst c_145_37 (v_zret c_145_38 rfl (by decide) (bk_inl (v_if_ne_f (t := 65) c_256_60 rfl (by decide) (q_iconst c_256_63 (q_iret c_256_64 rfl ?_)))))
                  have hI_99 := iw_41_0 (v := 0) hI ⟨by decide, by decide⟩
                  have hI_100 := iw_41_0 (v := 1) hI_99 ⟨by decide, by decide⟩
                  have hI_101 := iw_42 (j := 1) (v := y_98) hI_100 ⟨hy_98.1, hy_98.2⟩
                  exact K (up (up (up c 41 0 0) 41 0 1) 42 1 y_98) 0 hI_101 (fun a j hm => (up_b (Decidable.or_iff_not_imp_left.mpr (fun h1 h2 => hm (Or.inr (Or.inl (Decidable.not_not.mp h1)))))).trans ((up_b (Decidable.or_iff_not_imp_left.mpr (fun h1 h2 => hm (Or.inl ⟨Decidable.not_not.mp h1, h2⟩)))).trans (up_b (Decidable.or_iff_not_imp_left.mpr (fun h1 h2 => hm (Or.inl ⟨Decidable.not_not.mp h1, h2⟩)))))) ⟨by decide, by decide⟩
                · refine v_ic_gt_f (t := 14) c_146_7 rfl ⟨ha5.1, (Int.not_lt.mp h_96), by decide⟩ (q_iconst c_146_10 (q_goto (t := 15) c_146_11 rfl (v_zret c_146_15 rfl (by decide) (bk_inl (v_if_eq_f (t := 54) c_256_32 rfl (by decide) (q_iload c_256_35 rfl (q_iconst c_256_37 ?_)))))))
                  refine q_aload_n c_256_38 rfl ?_
                  have h_102 := ir_41_20 hI
                  refine v_gi (z := 20) (v := c 41 20) c_256_39 kf_8_157 rfl (Nat.le_of_ble_eq_true rfl) rfl rfl (up_n (by decide)) (q_iconst c_256_42 (v_isub (v := c 41 20 - 1) c_256_43 rfl (q_call c_256_44 rfl rfl rfl (q_iload_n c_146_0 rfl (q_iload_n c_146_1 rfl ?_)))))
                  by_cases h_103 : a6 < 0
                  · refine v_ic_lt_t (t := 14) c_146_2 rfl ⟨ha6.1, h_103, by decide⟩ (q_iconst c_146_14 (v_zret c_146_15 rfl (by decide) (bk_inl (v_if_eq_t (t := 54) c_256_47 rfl (by decide) (q_iconst c_256_54 (q_iconst c_256_55 (q_iconst c_256_56 ?_)))))))
                    refine v_cv c_256_57 km_8_203 rfl rfl (Nat.le_of_ble_eq_true rfl) ⟨⟨rfl, rfl⟩, Nat.le_of_ble_eq_true rfl, rfl⟩ (Nat.le_of_ble_eq_true rfl) (Nat.le_of_ble_eq_true rfl) (q_iload_n c_145_0 rfl (v_if_ne_f (t := 26) c_145_1 rfl (by decide) (q_aload_n c_145_4 rfl (v_gi (z := 0) (v := 0) c_145_5 kf_8_3 rfl (Nat.le_of_ble_eq_true rfl) rfl rfl (up_e rfl) (v_if_ne_f (t := 26) c_145_8 rfl (by decide) (q_aload_n c_145_11 rfl (q_iload_n c_145_12 rfl ?_)))))))
                    refine v_pi (z := 0) c_145_13 kf_8_3 rfl (Nat.le_of_ble_eq_true rfl) rfl rfl rfl (by decide) (q_aload_n c_145_16 rfl (v_gr (t := 42) c_145_17 kf_8_7 rfl (Nat.le_of_ble_eq_true rfl) rfl (q_iload_n c_145_20 rfl (q_dup2 c_145_21 ⟨rfl, rfl⟩ ?_))))
                    have h_104 := ir_42 hI 1
                    refine v_ia (v := c 42 1) c_145_22 rfl (by decide) (by decide) (by decide) ((up_c (nn rfl)).trans (up_c (nn rfl))) (q_iconst c_145_23 (v_iadd (v := c 42 1 + 1) c_145_24 rfl (v_nrm (fun y_105 hy_105 => (v_is c_145_25 rfl (by decide) (by decide) (by decide) (q_aload_n c_145_26 rfl (v_gi (z := 0) (v := 1) c_145_27 kf_8_3 rfl (Nat.le_of_ble_eq_true rfl) rfl rfl ((up_c (nn rfl)).trans (up_e rfl)) (v_if_ne_t (t := 37) c_145_30 rfl (by decide) ?_))))))))
                    refine q_iconst c_145_37 (v_zret c_145_38 rfl (by decide) (bk_inl (v_if_ne_f (t := 65) c_256_60 rfl (by decide) (q_iconst c_256_63 (q_iret c_256_64 rfl ?_)))))
                    have hI_106 := iw_41_0 (v := 0) hI ⟨by decide, by decide⟩
                    have hI_107 := iw_41_0 (v := 1) hI_106 ⟨by decide, by decide⟩
                    have hI_108 := iw_42 (j := 1) (v := y_105) hI_107 ⟨hy_105.1, hy_105.2⟩
                    exact K (up (up (up c 41 0 0) 41 0 1) 42 1 y_105) 0 hI_108 (fun a j hm => (up_b (Decidable.or_iff_not_imp_left.mpr (fun h1 h2 => hm (Or.inr (Or.inl (Decidable.not_not.mp h1)))))).trans ((up_b (Decidable.or_iff_not_imp_left.mpr (fun h1 h2 => hm (Or.inl ⟨Decidable.not_not.mp h1, h2⟩)))).trans (up_b (Decidable.or_iff_not_imp_left.mpr (fun h1 h2 => hm (Or.inl ⟨Decidable.not_not.mp h1, h2⟩)))))) ⟨by decide, by decide⟩
                  · refine v_ic_lt_f (t := 14) c_146_2 rfl ⟨by decide, (Int.not_lt.mp h_103), ha6.2⟩ (q_iload_n c_146_5 rfl (q_iload_n c_146_6 rfl ?_))
                    by_cases h_109 : a6 > c 41 20 - 1
                    · refine v_ic_gt_t (t := 14) c_146_7 rfl ⟨by first | exact rgm_l h_102.1 (by decide) | omega, h_109, ha6.2⟩ (q_iconst c_146_14 (v_zret c_146_15 rfl (by decide) (bk_inl (v_if_eq_t (t := 54) c_256_47 rfl (by decide) (q_iconst c_256_54 (q_iconst c_256_55 (q_iconst c_256_56 ?_)))))))
                      refine v_cv c_256_57 km_8_203 rfl rfl (Nat.le_of_ble_eq_true rfl) ⟨⟨rfl, rfl⟩, Nat.le_of_ble_eq_true rfl, rfl⟩ (Nat.le_of_ble_eq_true rfl) (Nat.le_of_ble_eq_true rfl) (q_iload_n c_145_0 rfl (v_if_ne_f (t := 26) c_145_1 rfl (by decide) (q_aload_n c_145_4 rfl (v_gi (z := 0) (v := 0) c_145_5 kf_8_3 rfl (Nat.le_of_ble_eq_true rfl) rfl rfl (up_e rfl) (v_if_ne_f (t := 26) c_145_8 rfl (by decide) (q_aload_n c_145_11 rfl (q_iload_n c_145_12 rfl ?_)))))))
                      refine v_pi (z := 0) c_145_13 kf_8_3 rfl (Nat.le_of_ble_eq_true rfl) rfl rfl rfl (by decide) (q_aload_n c_145_16 rfl (v_gr (t := 42) c_145_17 kf_8_7 rfl (Nat.le_of_ble_eq_true rfl) rfl (q_iload_n c_145_20 rfl (q_dup2 c_145_21 ⟨rfl, rfl⟩ ?_))))
                      have h_110 := ir_42 hI 1
                      refine v_ia (v := c 42 1) c_145_22 rfl (by decide) (by decide) (by decide) ((up_c (nn rfl)).trans (up_c (nn rfl))) (q_iconst c_145_23 (v_iadd (v := c 42 1 + 1) c_145_24 rfl (v_nrm (fun y_111 hy_111 => (v_is c_145_25 rfl (by decide) (by decide) (by decide) (q_aload_n c_145_26 rfl (v_gi (z := 0) (v := 1) c_145_27 kf_8_3 rfl (Nat.le_of_ble_eq_true rfl) rfl rfl ((up_c (nn rfl)).trans (up_e rfl)) (v_if_ne_t (t := 37) c_145_30 rfl (by decide) ?_))))))))
                      refine q_iconst c_145_37 (v_zret c_145_38 rfl (by decide) (bk_inl (v_if_ne_f (t := 65) c_256_60 rfl (by decide) (q_iconst c_256_63 (q_iret c_256_64 rfl ?_)))))
                      have hI_112 := iw_41_0 (v := 0) hI ⟨by decide, by decide⟩
                      have hI_113 := iw_41_0 (v := 1) hI_112 ⟨by decide, by decide⟩
                      have hI_114 := iw_42 (j := 1) (v := y_111) hI_113 ⟨hy_111.1, hy_111.2⟩
                      exact K (up (up (up c 41 0 0) 41 0 1) 42 1 y_111) 0 hI_114 (fun a j hm => (up_b (Decidable.or_iff_not_imp_left.mpr (fun h1 h2 => hm (Or.inr (Or.inl (Decidable.not_not.mp h1)))))).trans ((up_b (Decidable.or_iff_not_imp_left.mpr (fun h1 h2 => hm (Or.inl ⟨Decidable.not_not.mp h1, h2⟩)))).trans (up_b (Decidable.or_iff_not_imp_left.mpr (fun h1 h2 => hm (Or.inl ⟨Decidable.not_not.mp h1, h2⟩)))))) ⟨by decide, by decide⟩
                    · refine v_ic_gt_f (t := 14) c_146_7 rfl ⟨ha6.1, (Int.not_lt.mp h_109), by first | exact rgm_h h_102.2 (by decide) | omega⟩ (q_iconst c_146_10 (q_goto (t := 15) c_146_11 rfl (v_zret c_146_15 rfl (by decide) (bk_inl (v_if_eq_f (t := 54) c_256_47 rfl (by decide) (q_iconst c_256_50 (q_goto (t := 55) c_256_51 rfl ?_)))))))
                      refine q_iconst c_256_55 (q_iconst c_256_56 (v_cv c_256_57 km_8_203 rfl rfl (Nat.le_of_ble_eq_true rfl) ⟨⟨rfl, rfl⟩, Nat.le_of_ble_eq_true rfl, rfl⟩ (Nat.le_of_ble_eq_true rfl) (Nat.le_of_ble_eq_true rfl) (q_iload_n c_145_0 rfl (v_if_ne_t (t := 26) c_145_1 rfl (by decide) (q_aload_n c_145_26 rfl (v_gi (z := 0) (v := 0) c_145_27 kf_8_3 rfl (Nat.le_of_ble_eq_true rfl) rfl rfl (up_e rfl) (v_if_ne_f (t := 37) c_145_30 rfl (by decide) ?_)))))))
                      refine q_iconst c_145_33 (q_goto (t := 38) c_145_34 rfl (v_zret c_145_38 rfl (by decide) (bk_inl (v_if_ne_t (t := 65) c_256_60 rfl (by decide) (q_iconst c_256_65 (q_istore c_256_66 (Nat.le_of_ble_eq_true rfl) (q_iconst c_256_68 ?_)))))))
                      refine q_istore c_256_69 (Nat.le_of_ble_eq_true rfl) (q_iconst c_256_71 (q_istore c_256_72 (Nat.le_of_ble_eq_true rfl) (q_iconst c_256_74 (q_istore c_256_75 (Nat.le_of_ble_eq_true rfl) ?_))))
                      have hI_115 := iw_41_0 (v := 0) hI ⟨by decide, by decide⟩
                      refine Wp_ls [(0, .ref 41), (1, vi a1), (2, vi a2), (3, vi a3), (4, vi a4), (5, vi a5), (6, vi a6), (7, vi (-1)), (8, vi 0), (9, vi 0), (10, vi 0)] (lsub_cons rfl (lsub_cons rfl (lsub_cons rfl (lsub_cons rfl (lsub_cons rfl (lsub_cons rfl (lsub_cons rfl (lsub_cons rfl (lsub_cons rfl (lsub_cons rfl (lsub_cons rfl lsub_nil))))))))))) ?_
                      exact (s_256_l (sc := sc) (d := d) hI ha1 ha2 ha3 ha4 ha5 ha6 K 24) (up c 41 0 0) (-1) 0 0 0 hI_115 (fun a j hm => up_b (Decidable.or_iff_not_imp_left.mpr (fun h1 h2 => hm (Or.inl ⟨Decidable.not_not.mp h1, h2⟩)))) ⟨by decide, by decide⟩ ⟨by decide, by decide⟩ ⟨by decide, by decide⟩ ⟨by decide, by decide⟩ ⟨by first | exact q_f19038599 h_54 | omega, by first | exact q_92a66bdad h_60 | omega⟩ ⟨by first | exact q_720657ba9 h_103 | omega, by first | exact q_3a2e67ab0 h_102 h_109 | omega⟩ ⟨by first | exact q_720657ba9 h_66 | omega, by first | exact q_7f2151846 h_72 | omega⟩ ⟨by first | exact q_f19038599 h_78 | omega, by first | exact q_1cdd54b12 h_84 | omega⟩ (by omega)


set_option maxRecDepth 100000 in
set_option maxHeartbeats 4000000 in
theorem s_259 {sc : List Int32} {d P Q : Nat} {c : ME} {Z : AR → Prop} (hI : Iv 0 (-1) P Q c)  (K : ∀ (c2 : ME) (y : Int), Iv 0 (-1) P Q c2 → (∀ (a : Nat) (j : Int), ¬ ((a = 41 ∧ j = 0) ∨ (a = 41 ∧ j = 52) ∨ a = 66) → c2 a j = c a j) → (-1) ≤ y ∧ y ≤ 3 → ((c 41 52 = 3 ∧ c2 41 52 = 3 ∧ y = (-1)) ∨ (c 41 52 ≤ 2 ∧ c2 41 52 = c 41 52 + 1 ∧ y = c2 41 52)) → Z (.inl (some (vi y)), Wd P Q P P c2, 0, 0)) : Wp sc (d + 8) 259 0 [(0, .ref 41)] [] (Wd P Q P P c) 0 0 Z := by
  have hP := iv_P hI
  have hQ := iv_Q hI
  refine q_aload_n c_259_0 rfl (q_iconst c_259_1 (v_pi (z := 0) c_259_2 kf_8_3 rfl (Nat.le_of_ble_eq_true rfl) rfl rfl rfl (by decide) (q_aload_n c_259_5 rfl ?_)))
  have h_1 := ir_41_52 hI
  refine v_gi (z := 52) (v := c 41 52) c_259_6 kf_8_185 rfl (Nat.le_of_ble_eq_true rfl) rfl rfl (up_n (by decide)) (q_iconst c_259_9 ?_)
  by_cases h_2 : c 41 52 ≠ 3
  · refine v_ic_ne_t (t := 15) c_259_10 rfl ⟨h_2, ⟨(Int.le_trans (by decide) h_1.1), (Int.le_trans h_1.2 (by decide))⟩, by decide, by decide⟩ (q_aload_n c_259_15 rfl (q_aload_n c_259_16 rfl (v_gi (z := 52) (v := c 41 52) c_259_17 kf_8_185 rfl (Nat.le_of_ble_eq_true rfl) rfl rfl (up_n (by decide)) (q_iconst c_259_20 (v_cv c_259_21 km_8_456 rfl rfl (Nat.le_of_ble_eq_true rfl) ⟨⟨rfl, rfl⟩, Nat.le_of_ble_eq_true rfl, rfl⟩ (Nat.le_of_ble_eq_true rfl) (Nat.le_of_ble_eq_true rfl) (q_aload_n c_258_0 rfl (v_sip c_258_1 (by decide) ?_)))))))
    refine q_iload_n c_258_4 rfl (v_imul (v := 630 * c 41 52) c_258_5 (by first | (clear h_1 h_2; omega) | omega) (q_aload_n c_258_6 rfl (v_gr (t := 58) c_258_7 kf_8_65 rfl (Nat.le_of_ble_eq_true rfl) rfl (v_bip c_258_10 (by decide) (q_iload_n c_258_12 rfl (v_cv c_258_13 km_8_452 rfl rfl (Nat.le_of_ble_eq_true rfl) ⟨⟨rfl, rfl⟩, Nat.le_of_ble_eq_true rfl, rfl⟩ (Nat.le_of_ble_eq_true rfl) (Nat.le_of_ble_eq_true rfl) (s_257k (t := 58) (nt := 37) (q := 630 * c 41 52) (n := 37) (v := 630 * c 41 52 + 37) rfl (by decide) (by decide) (by decide) (by omega) (by omega) (by omega) (bk_inl ?_))))))))
    refine q_istore_n c_258_16 (Nat.le_of_ble_eq_true rfl) (q_aload_n c_258_17 rfl (q_iload_n c_258_18 rfl (q_aload_n c_258_19 rfl (v_gr (t := 60) c_258_20 kf_8_71 rfl (Nat.le_of_ble_eq_true rfl) rfl (v_sip c_258_23 (by decide) (q_iload_n c_258_26 rfl (v_cv c_258_27 km_8_452 rfl rfl (Nat.le_of_ble_eq_true rfl) ⟨⟨rfl, rfl⟩, Nat.le_of_ble_eq_true rfl, rfl⟩ (Nat.le_of_ble_eq_true rfl) (Nat.le_of_ble_eq_true rfl) (s_257k (t := 60) (nt := 592) (q := 630 * c 41 52 + 37) (n := 592) (v := 630 * c 41 52 + 629) rfl (by decide) (by decide) (by decide) (by omega) (by omega) (by omega) ?_))))))))
    refine bk_inl (q_istore_n c_258_30 (Nat.le_of_ble_eq_true rfl) (q_iload_n c_258_31 rfl (v_if_eq_f (t := 48) c_258_32 rfl (by decide) (q_aload_n c_258_35 rfl (v_gr (t := 66) c_258_36 kf_8_90 rfl (Nat.le_of_ble_eq_true rfl) rfl (q_iload_n c_258_39 rfl (q_aload_n c_258_40 rfl ?_)))))))
    have h_3 := ir_41_35 hI
    refine v_gi (z := 35) (v := c 41 35) c_258_41 kf_8_182 rfl (Nat.le_of_ble_eq_true rfl) rfl rfl ((upc_c (by omega)).trans ((upc_c (by omega)).trans (up_n (by decide)))) (v_is c_258_44 rfl (by decide) (by decide) ⟨by first | exact q_2013bec62 h_1 | omega, by first | exact q_d7ceb4844 h_1 h_2 | omega⟩ (q_goto (t := 58) c_258_45 rfl (q_vret rfl rfl (bk_inl (q_aload_n c_259_24 rfl (q_dup c_259_25 rfl (v_gi (z := 52) (v := c 41 52) c_259_26 kf_8_185 rfl (Nat.le_of_ble_eq_true rfl) rfl rfl ((up_c (nn rfl)).trans ((upc_c (by omega)).trans ((upc_c (by omega)).trans (up_n (by decide))))) ?_)))))))
    refine q_iconst c_259_29 (v_iadd (v := c 41 52 + 1) c_259_30 rfl (v_pi (z := 52) c_259_31 kf_8_185 rfl (Nat.le_of_ble_eq_true rfl) rfl rfl rfl (by decide) (q_aload_n c_259_34 rfl (v_gi (z := 52) (v := c 41 52 + 1) c_259_35 kf_8_185 rfl (Nat.le_of_ble_eq_true rfl) rfl rfl (up_e rfl) (q_iret c_259_38 rfl ?_)))))
    have hI_4 := iw_41_0 (v := 0) hI ⟨by decide, by decide⟩
    have hI_5 := cp_58_66 (w := 630 * c 41 52) (i := c 41 52) hI_4 (by omega) (by omega)
    have hI_6 := cp_60_66 (w := 630 * c 41 52 + 37) (i := c 41 52) hI_5 (by omega) (by omega)
    have hI_7 := iw_66 (j := 630 * c 41 52 + 629) (v := c 41 35) hI_6 (by omega) (by omega)
    have hI_8 := iw_41_52 (v := c 41 52 + 1) hI_7 ⟨by first | exact rgp_l h_1.1 (by decide) | omega, by first | exact q_7ecd0bf1e h_1 h_2 | omega⟩
    have h_9 : (up (up (upc (upc (up c 41 0 0) 58 0 66 (630 * c 41 52) 37) 60 0 66 (630 * c 41 52 + 37) 592) 66 (630 * c 41 52 + 629) (c 41 35)) 41 52 (c 41 52 + 1)) 41 52 = c 41 52 + 1 := (up_e rfl)
    exact K (up (up (upc (upc (up c 41 0 0) 58 0 66 (630 * c 41 52) 37) 60 0 66 (630 * c 41 52 + 37) 592) 66 (630 * c 41 52 + 629) (c 41 35)) 41 52 (c 41 52 + 1)) (c 41 52 + 1) hI_8 (fun a j hm => (up_b (Decidable.or_iff_not_imp_left.mpr (fun h1 h2 => hm (Or.inr (Or.inl ⟨Decidable.not_not.mp h1, h2⟩))))).trans ((up_b (Decidable.or_iff_not_imp_left.mpr (fun h1 h2 => hm (Or.inr (Or.inr (Decidable.not_not.mp h1)))))).trans ((upc_c (fun h => hm (Or.inr (Or.inr h)))).trans ((upc_c (fun h => hm (Or.inr (Or.inr h)))).trans (up_b (Decidable.or_iff_not_imp_left.mpr (fun h1 h2 => hm (Or.inl ⟨Decidable.not_not.mp h1, h2⟩)))))))) ⟨by first | exact rgp_l h_1.1 (by decide) | omega, by first | exact q_7ecd0bf1e h_1 h_2 | omega⟩ (Or.inr ⟨by first | exact q_20607f14c h_1 h_2 | omega, by first | assumption | omega, by first | assumption | omega⟩)
  · refine v_ic_ne_f (t := 15) c_259_10 rfl (Decidable.not_not.mp h_2) (q_iconst c_259_13 (q_iret c_259_14 rfl ?_))
    have hI_10 := iw_41_0 (v := 0) hI ⟨by decide, by decide⟩
    have h_11 : (up c 41 0 0) 41 52 = c 41 52 := (up_n (by decide))
    exact K (up c 41 0 0) (-1) hI_10 (fun a j hm => up_b (Decidable.or_iff_not_imp_left.mpr (fun h1 h2 => hm (Or.inl ⟨Decidable.not_not.mp h1, h2⟩)))) ⟨by decide, by decide⟩ (Or.inl ⟨by first | exact q_f16cccee8 h_1 h_2 | omega, by first | exact q_f16cccee8 h_1 h_2 | omega, by first | assumption | omega⟩)

set_option maxRecDepth 100000 in
set_option maxHeartbeats 4000000 in
theorem s_260 {sc : List Int32} {d P Q : Nat} {c : ME} {Z : AR → Prop} (hI : Iv 0 (-1) P Q c)  (K : ∀ (c2 : ME) (y : Int), Iv 0 (-1) P Q c2 → (∀ (a : Nat) (j : Int), ¬ ((a = 41 ∧ j = 0) ∨ (a = 41 ∧ j = 52) ∨ (a = 41 ∧ j = 35) ∨ (a = 41 ∧ j = 36) ∨ a = 58 ∨ a = 60) → c2 a j = c a j) → (-1) ≤ y ∧ y ≤ 3 → ((c 41 52 = 0 ∧ c2 41 52 = 0 ∧ y = (-1)) ∨ (c 41 52 > 0 ∧ c2 41 52 = c 41 52 - 1 ∧ y = c2 41 52)) → Z (.inl (some (vi y)), Wd P Q P P c2, 0, 0)) : Wp sc (d + 8) 260 0 [(0, .ref 41)] [] (Wd P Q P P c) 0 0 Z := by
  have hP := iv_P hI
  have hQ := iv_Q hI
  refine q_aload_n c_260_0 rfl (q_iconst c_260_1 (v_pi (z := 0) c_260_2 kf_8_3 rfl (Nat.le_of_ble_eq_true rfl) rfl rfl rfl (by decide) (q_aload_n c_260_5 rfl ?_)))
  have h_1 := ir_41_52 hI
  refine v_gi (z := 52) (v := c 41 52) c_260_6 kf_8_185 rfl (Nat.le_of_ble_eq_true rfl) rfl rfl (up_n (by decide)) ?_
  by_cases h_2 : c 41 52 ≠ 0
  · refine v_if_ne_t (t := 14) c_260_9 rfl ⟨h_2, ⟨(Int.le_trans (by decide) h_1.1), (Int.le_trans h_1.2 (by decide))⟩, by decide, by decide⟩ (q_aload_n c_260_14 rfl (q_dup c_260_15 rfl (v_gi (z := 52) (v := c 41 52) c_260_16 kf_8_185 rfl (Nat.le_of_ble_eq_true rfl) rfl rfl (up_n (by decide)) (q_iconst c_260_19 (v_isub (v := c 41 52 - 1) c_260_20 rfl (v_pi (z := 52) c_260_21 kf_8_185 rfl (Nat.le_of_ble_eq_true rfl) rfl rfl rfl (by decide) (q_aload_n c_260_24 rfl ?_)))))))
    refine q_aload_n c_260_25 rfl (v_gi (z := 52) (v := c 41 52 - 1) c_260_26 kf_8_185 rfl (Nat.le_of_ble_eq_true rfl) rfl rfl (up_e rfl) (q_iconst c_260_29 (v_cv c_260_30 km_8_456 rfl rfl (Nat.le_of_ble_eq_true rfl) ⟨⟨rfl, rfl⟩, Nat.le_of_ble_eq_true rfl, rfl⟩ (Nat.le_of_ble_eq_true rfl) (Nat.le_of_ble_eq_true rfl) (q_aload_n c_258_0 rfl (v_sip c_258_1 (by decide) (q_iload_n c_258_4 rfl (v_imul (v := 630 * c 41 52 - 630) c_258_5 (by first | (clear h_1 h_2; omega) | omega) ?_)))))))
    refine q_aload_n c_258_6 rfl (v_gr (t := 58) c_258_7 kf_8_65 rfl (Nat.le_of_ble_eq_true rfl) rfl (v_bip c_258_10 (by decide) (q_iload_n c_258_12 rfl (v_cv c_258_13 km_8_452 rfl rfl (Nat.le_of_ble_eq_true rfl) ⟨⟨rfl, rfl⟩, Nat.le_of_ble_eq_true rfl, rfl⟩ (Nat.le_of_ble_eq_true rfl) (Nat.le_of_ble_eq_true rfl) (s_257r (t := 58) (nt := 37) (q := 630 * c 41 52 - 630) (n := 37) (v := 630 * c 41 52 - 593) rfl (by decide) (by decide) (by decide) (by omega) (by omega) (by omega) (bk_inl (q_istore_n c_258_16 (Nat.le_of_ble_eq_true rfl) (q_aload_n c_258_17 rfl ?_))))))))
    refine q_iload_n c_258_18 rfl (q_aload_n c_258_19 rfl (v_gr (t := 60) c_258_20 kf_8_71 rfl (Nat.le_of_ble_eq_true rfl) rfl (v_sip c_258_23 (by decide) (q_iload_n c_258_26 rfl (v_cv c_258_27 km_8_452 rfl rfl (Nat.le_of_ble_eq_true rfl) ⟨⟨rfl, rfl⟩, Nat.le_of_ble_eq_true rfl, rfl⟩ (Nat.le_of_ble_eq_true rfl) (Nat.le_of_ble_eq_true rfl) (s_257r (t := 60) (nt := 592) (q := 630 * c 41 52 - 593) (n := 592) (v := 630 * c 41 52 - 1) rfl (by decide) (by decide) (by decide) (by omega) (by omega) (by omega) (bk_inl (q_istore_n c_258_30 (Nat.le_of_ble_eq_true rfl) ?_))))))))
    refine q_iload_n c_258_31 rfl (v_if_eq_t (t := 48) c_258_32 rfl (by decide) (q_aload_n c_258_48 rfl (q_aload_n c_258_49 rfl (v_gr (t := 66) c_258_50 kf_8_90 rfl (Nat.le_of_ble_eq_true rfl) rfl (q_iload_n c_258_53 rfl ?_)))))
    have h_3 := ir_66 hI (630 * c 41 52 - 1)
    have h_4 := ir_66_9 hI (j := 630 * c 41 52 - 1) (by omega)
    refine v_ia (v := c 66 (630 * c 41 52 - 1)) c_258_54 rfl (by decide) (by decide) ⟨by first | exact q_e68c9ca42 h_1 h_2 | omega, by first | exact q_7688c24dd h_1 | omega⟩ ((upc_c (by omega)).trans ((upc_c (by omega)).trans ((up_c (nn rfl)).trans (up_c (nn rfl))))) (v_pi (z := 35) c_258_55 kf_8_182 rfl (Nat.le_of_ble_eq_true rfl) rfl rfl rfl (by decide) (q_vret rfl rfl (bk_inl (q_aload_n c_260_33 rfl (q_iconst c_260_34 (v_pi (z := 36) c_260_35 kf_8_188 rfl (Nat.le_of_ble_eq_true rfl) rfl rfl rfl (by decide) (q_aload_n c_260_38 rfl ?_)))))))
    refine v_gi (z := 52) (v := c 41 52 - 1) c_260_39 kf_8_185 rfl (Nat.le_of_ble_eq_true rfl) rfl rfl ((up_n (by decide)).trans ((up_n (by decide)).trans ((upc_c (by omega)).trans ((upc_c (by omega)).trans (up_e rfl))))) (q_iret c_260_42 rfl ?_)
    have hI_5 := iw_41_0 (v := 0) hI ⟨by decide, by decide⟩
    have hI_6 := iw_41_52 (v := c 41 52 - 1) hI_5 ⟨by first | exact q_69cb20f07 h_1 h_2 | omega, by first | exact rgm_h h_1.2 (by decide) | omega⟩
    have hI_7 := cp_66_58 (w := 630 * c 41 52 - 630) (i := c 41 52 - 1) hI_6 (by omega) (by omega)
    have hI_8 := cp_66_60 (w := 630 * c 41 52 - 593) (i := c 41 52 - 1) hI_7 (by omega) (by omega)
    have hI_9 := iw_41_35 (v := c 66 (630 * c 41 52 - 1)) hI_8 ⟨by first | exact q_c01d181a1 h_4 | omega, by first | exact q_47a1838e7 h_4 | omega⟩
    have hI_10 := iw_41_36 (v := 0) hI_9 ⟨by decide, by decide⟩
    have h_11 : (up (up (upc (upc (up (up c 41 0 0) 41 52 (c 41 52 - 1)) 66 (630 * c 41 52 - 630) 58 0 37) 66 (630 * c 41 52 - 593) 60 0 592) 41 35 (c 66 (630 * c 41 52 - 1))) 41 36 0) 41 52 = c 41 52 - 1 := ((up_n (by decide)).trans ((up_n (by decide)).trans ((upc_c (by omega)).trans ((upc_c (by omega)).trans (up_e rfl)))))
    exact K (up (up (upc (upc (up (up c 41 0 0) 41 52 (c 41 52 - 1)) 66 (630 * c 41 52 - 630) 58 0 37) 66 (630 * c 41 52 - 593) 60 0 592) 41 35 (c 66 (630 * c 41 52 - 1))) 41 36 0) (c 41 52 - 1) hI_10 (fun a j hm => (up_b (Decidable.or_iff_not_imp_left.mpr (fun h1 h2 => hm (Or.inr (Or.inr (Or.inr (Or.inl ⟨Decidable.not_not.mp h1, h2⟩))))))).trans ((up_b (Decidable.or_iff_not_imp_left.mpr (fun h1 h2 => hm (Or.inr (Or.inr (Or.inl ⟨Decidable.not_not.mp h1, h2⟩)))))).trans ((upc_c (fun h => hm (Or.inr (Or.inr (Or.inr (Or.inr (Or.inr h))))))).trans ((upc_c (fun h => hm (Or.inr (Or.inr (Or.inr (Or.inr (Or.inl h))))))).trans ((up_b (Decidable.or_iff_not_imp_left.mpr (fun h1 h2 => hm (Or.inr (Or.inl ⟨Decidable.not_not.mp h1, h2⟩))))).trans (up_b (Decidable.or_iff_not_imp_left.mpr (fun h1 h2 => hm (Or.inl ⟨Decidable.not_not.mp h1, h2⟩))))))))) ⟨by first | exact rgm_l h_1.1 (by decide) | omega, by first | exact rgm_h h_1.2 (by decide) | omega⟩ (Or.inr ⟨by first | exact q_c6195508a h_1 h_2 | omega, by first | assumption | omega, by first | assumption | omega⟩)
  · refine v_if_ne_f (t := 14) c_260_9 rfl (Decidable.not_not.mp h_2) (q_iconst c_260_12 (q_iret c_260_13 rfl ?_))
    have hI_12 := iw_41_0 (v := 0) hI ⟨by decide, by decide⟩
    have h_13 : (up c 41 0 0) 41 52 = c 41 52 := (up_n (by decide))
    exact K (up c 41 0 0) (-1) hI_12 (fun a j hm => up_b (Decidable.or_iff_not_imp_left.mpr (fun h1 h2 => hm (Or.inl ⟨Decidable.not_not.mp h1, h2⟩)))) ⟨by decide, by decide⟩ (Or.inl ⟨by first | exact q_163d1c5eb h_1 h_2 | omega, by first | exact q_163d1c5eb h_1 h_2 | omega, by first | assumption | omega⟩)

set_option maxRecDepth 100000 in
set_option maxHeartbeats 4000000 in
theorem s_261 {sc : List Int32} {e : Int} {d u P Q : Nat} {c : ME} {a1 : Int} {Z : AR → Prop} (hI : Iv u e P Q c) (ha1 : (-2147483648) ≤ a1 ∧ a1 ≤ 2147483647) (K : ∀ (c2 : ME) (y : Int), Iv u e P Q c2 → (∀ (a : Nat) (j : Int), ¬ ((a = 41 ∧ j = 0)) → c2 a j = c a j) → (-2147483648) ≤ y ∧ y ≤ 2147483647 → Z (.inl (some (vi y)), Wd P Q P P c2, 0, 0)) : Wp sc (d + 8) 261 0 [(0, .ref 41), (1, vi a1)] [] (Wd P Q P P c) 0 0 Z := by
  have hP := iv_P hI
  have hQ := iv_Q hI
  refine q_aload_n c_261_0 rfl (q_iconst c_261_1 (v_pi (z := 0) c_261_2 kf_8_3 rfl (Nat.le_of_ble_eq_true rfl) rfl rfl rfl (by decide) (q_iload_n c_261_5 rfl (q_iconst c_261_6 (q_iconst c_261_7 (q_call c_261_8 rfl rfl rfl (q_iload_n c_146_0 rfl ?_)))))))
  refine q_iload_n c_146_1 rfl ?_
  by_cases h_1 : a1 < 0
  · refine v_ic_lt_t (t := 14) c_146_2 rfl ⟨ha1.1, h_1, by decide⟩ (q_iconst c_146_14 (v_zret c_146_15 rfl (by decide) (bk_inl (v_if_eq_t (t := 23) c_261_11 rfl (by decide) (q_iconst c_261_23 (q_iret c_261_24 rfl ?_))))))
    have hI_2 := iw_41_0 (v := 0) hI ⟨by decide, by decide⟩
    exact K (up c 41 0 0) (-1) hI_2 (fun a j hm => up_b (Decidable.or_iff_not_imp_left.mpr (fun h1 h2 => hm ⟨Decidable.not_not.mp h1, h2⟩))) ⟨by decide, by decide⟩
  · refine v_ic_lt_f (t := 14) c_146_2 rfl ⟨by decide, (Int.not_lt.mp h_1), ha1.2⟩ (q_iload_n c_146_5 rfl (q_iload_n c_146_6 rfl ?_))
    by_cases h_3 : a1 > 1
    · refine v_ic_gt_t (t := 14) c_146_7 rfl ⟨by decide, h_3, ha1.2⟩ (q_iconst c_146_14 (v_zret c_146_15 rfl (by decide) (bk_inl (v_if_eq_t (t := 23) c_261_11 rfl (by decide) (q_iconst c_261_23 (q_iret c_261_24 rfl ?_))))))
      have hI_4 := iw_41_0 (v := 0) hI ⟨by decide, by decide⟩
      exact K (up c 41 0 0) (-1) hI_4 (fun a j hm => up_b (Decidable.or_iff_not_imp_left.mpr (fun h1 h2 => hm ⟨Decidable.not_not.mp h1, h2⟩))) ⟨by decide, by decide⟩
    · refine v_ic_gt_f (t := 14) c_146_7 rfl ⟨ha1.1, (Int.not_lt.mp h_3), by decide⟩ (q_iconst c_146_10 (q_goto (t := 15) c_146_11 rfl (v_zret c_146_15 rfl (by decide) (bk_inl (v_if_eq_f (t := 23) c_261_11 rfl (by decide) (q_aload_n c_261_14 rfl (v_gr (t := 42) c_261_15 kf_8_7 rfl (Nat.le_of_ble_eq_true rfl) rfl ?_)))))))
      refine q_iload_n c_261_18 rfl ?_
      have h_5 := ir_42 hI a1
      refine v_ia (v := c 42 a1) c_261_19 rfl (by decide) (by decide) ⟨by first | exact q_720657ba9 h_1 | omega, by first | exact q_f99bab66d h_3 | omega⟩ (up_c (nn rfl)) (q_goto (t := 24) c_261_20 rfl (q_iret c_261_24 rfl ?_))
      have hI_6 := iw_41_0 (v := 0) hI ⟨by decide, by decide⟩
      exact K (up c 41 0 0) (c 42 a1) hI_6 (fun a j hm => up_b (Decidable.or_iff_not_imp_left.mpr (fun h1 h2 => hm ⟨Decidable.not_not.mp h1, h2⟩))) h_5

set_option maxRecDepth 100000 in
set_option maxHeartbeats 4000000 in
theorem s_262 {sc : List Int32} {e : Int} {d u P Q : Nat} {c : ME} {a1 : Int} {Z : AR → Prop} (hI : Iv u e P Q c) (ha1 : (-2147483648) ≤ a1 ∧ a1 ≤ 2147483647) (K : ∀ (c2 : ME) (y : Int), Iv u e P Q c2 → (∀ (a : Nat) (j : Int), ¬ ((a = 41 ∧ j = 0)) → c2 a j = c a j) → (-2147483648) ≤ y ∧ y ≤ 2147483647 → Z (.inl (some (vi y)), Wd P Q P P c2, 0, 0)) : Wp sc (d + 7) 262 0 [(0, .ref 41), (1, vi a1)] [] (Wd P Q P P c) 0 0 Z := by
  have hP := iv_P hI
  have hQ := iv_Q hI
  refine q_aload_n c_262_0 rfl (q_iconst c_262_1 (v_pi (z := 0) c_262_2 kf_8_3 rfl (Nat.le_of_ble_eq_true rfl) rfl rfl rfl (by decide) (q_iload_n c_262_5 rfl ?_)))
  by_cases h_1 : a1 ≠ 0
  · refine v_if_ne_t (t := 16) c_262_6 rfl ⟨h_1, ⟨ha1.1, ha1.2⟩, by decide, by decide⟩ (q_iload_n c_262_16 rfl (q_iconst c_262_17 ?_))
    by_cases h_2 : a1 ≠ 1
    · refine v_ic_ne_t (t := 28) c_262_18 rfl ⟨h_2, ⟨ha1.1, ha1.2⟩, by decide, by decide⟩ (q_iload_n c_262_28 rfl (q_iconst c_262_29 ?_))
      by_cases h_3 : a1 ≠ 2
      · refine v_ic_ne_t (t := 40) c_262_30 rfl ⟨h_3, ⟨ha1.1, ha1.2⟩, by decide, by decide⟩ (q_iconst c_262_40 (q_iret c_262_41 rfl ?_))
        have hI_4 := iw_41_0 (v := 0) hI ⟨by decide, by decide⟩
        exact K (up c 41 0 0) (-1) hI_4 (fun a j hm => up_b (Decidable.or_iff_not_imp_left.mpr (fun h1 h2 => hm ⟨Decidable.not_not.mp h1, h2⟩))) ⟨by decide, by decide⟩
      · refine v_ic_ne_f (t := 40) c_262_30 rfl (Decidable.not_not.mp h_3) (q_aload_n c_262_33 rfl ?_)
        have h_5 := ir_41_35 hI
        refine v_gi (z := 35) (v := c 41 35) c_262_34 kf_8_182 rfl (Nat.le_of_ble_eq_true rfl) rfl rfl (up_n (by decide)) (q_goto (t := 41) c_262_37 rfl (q_iret c_262_41 rfl ?_))
        have hI_6 := iw_41_0 (v := 0) hI ⟨by decide, by decide⟩
        exact K (up c 41 0 0) (c 41 35) hI_6 (fun a j hm => up_b (Decidable.or_iff_not_imp_left.mpr (fun h1 h2 => hm ⟨Decidable.not_not.mp h1, h2⟩))) ⟨(Int.le_trans (by decide) h_5.1), (Int.le_trans h_5.2 (by decide))⟩
    · refine v_ic_ne_f (t := 28) c_262_18 rfl (Decidable.not_not.mp h_2) (q_aload_n c_262_21 rfl ?_)
      have h_7 := ir_41_2 hI
      refine v_gi (z := 2) (v := c 41 2) c_262_22 kf_8_99 rfl (Nat.le_of_ble_eq_true rfl) rfl rfl (up_n (by decide)) (q_goto (t := 41) c_262_25 rfl (q_iret c_262_41 rfl ?_))
      have hI_8 := iw_41_0 (v := 0) hI ⟨by decide, by decide⟩
      exact K (up c 41 0 0) (c 41 2) hI_8 (fun a j hm => up_b (Decidable.or_iff_not_imp_left.mpr (fun h1 h2 => hm ⟨Decidable.not_not.mp h1, h2⟩))) ⟨(Int.le_trans (by decide) h_7.1), (Int.le_trans h_7.2 (by decide))⟩
  · refine v_if_ne_f (t := 16) c_262_6 rfl (Decidable.not_not.mp h_1) (q_aload_n c_262_9 rfl ?_)
    have h_9 := ir_41_52 hI
    refine v_gi (z := 52) (v := c 41 52) c_262_10 kf_8_185 rfl (Nat.le_of_ble_eq_true rfl) rfl rfl (up_n (by decide)) (q_goto (t := 41) c_262_13 rfl (q_iret c_262_41 rfl ?_))
    have hI_10 := iw_41_0 (v := 0) hI ⟨by decide, by decide⟩
    exact K (up c 41 0 0) (c 41 52) hI_10 (fun a j hm => up_b (Decidable.or_iff_not_imp_left.mpr (fun h1 h2 => hm ⟨Decidable.not_not.mp h1, h2⟩))) ⟨(Int.le_trans (by decide) h_9.1), (Int.le_trans h_9.2 (by decide))⟩

