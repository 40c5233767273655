section
/-! ===== contracts 22 ===== -/
theorem qn_a6ce83764 {j : Int} : ¬ (((64 : Nat) = 41 ∧ j = 0) ∨ (64 : Nat) = 42 ∨ (64 : Nat) = 59) := (fun q => q.elim (fun h => absurd h.1 (nn rfl)) (fun q => q.elim (fun h => absurd h (nn rfl)) (fun h => absurd h (nn rfl))))
theorem q_a78c53710 {x0 x1 : Int} (f0 : 0 ≤ x0 ∧ x0 ≤ 9999) (f1 : 1 ≤ x1 ∧ x1 ≤ 8192) : (-2147483648) ≤ x0 - x1 := by omega
theorem q_03877e6fa {x0 x1 : Int} (f0 : 0 ≤ x0 ∧ x0 ≤ 9999) (f1 : 1 ≤ x1 ∧ x1 ≤ 8192) : x0 - x1 ≤ 2147483647 := by omega
theorem q_917c27970 {x0 x1 : Int} (f0 : ¬ (x0 - x1 < 0)) : (-2147483648) ≤ x0 - x1 + 1 := by omega
theorem q_fd232b8ec {x0 x1 : Int} (f0 : 0 ≤ x0 ∧ x0 ≤ 9999) (f1 : 1 ≤ x1 ∧ x1 ≤ 8192) : x0 - x1 + 1 ≤ 2147483647 := by omega
theorem q_5548e48fb {x0 x1 : Int} (f0 : ¬ (x0 - x1 < 0)) : 0 ≤ x0 - x1 := by omega
theorem q_93f9cdf35 {x0 x1 : Int} (f0 : 0 ≤ x0 ∧ x0 ≤ 9999) (f1 : 1 ≤ x1 ∧ x1 ≤ 8192) : x0 - x1 ≤ 9999 := by omega
theorem qn_d0753a96c : ¬ (((41 : Nat) = 41 ∧ (20 : Int) = 0) ∨ (41 : Nat) = 42 ∨ (41 : Nat) = 59 ∨ (41 : Nat) = 54 ∨ (41 : Nat) = 55) := (fun q => q.elim (fun h => absurd h.2 (ni rfl)) (fun q => q.elim (fun h => absurd h (nn rfl)) (fun q => q.elim (fun h => absurd h (nn rfl)) (fun q => q.elim (fun h => absurd h (nn rfl)) (fun h => absurd h (nn rfl))))))
theorem qn_4a675523d : ¬ (((41 : Nat) = 41 ∧ (20 : Int) = 0) ∨ (41 : Nat) = 59 ∨ (41 : Nat) = 54 ∨ (41 : Nat) = 55) := (fun q => q.elim (fun h => absurd h.2 (ni rfl)) (fun q => q.elim (fun h => absurd h (nn rfl)) (fun q => q.elim (fun h => absurd h (nn rfl)) (fun h => absurd h (nn rfl)))))
theorem qv_5438e30b4 {a : Nat} {j : Int} (hm : ¬ ((a = 41 ∧ j = 0) ∨ a = 59 ∨ a = 54 ∨ a = 55)) : ¬ (a = 54 ∨ a = 55) := (fun q => q.elim (fun h => hm (Or.inr (Or.inr (Or.inl h)))) (fun h => hm (Or.inr (Or.inr (Or.inr h)))))
theorem q_9bff1db0a {x0 x1 : Int} (f0 : 0 ≤ x0 ∧ x0 ≤ 5) (f1 : 0 ≤ x1 ∧ x1 ≤ 4) : 0 ≤ 4 * x0 + x1 := by omega
theorem q_c0f51fe82 {x0 x1 : Int} (f0 : ¬ (x0 ≥ 4)) (f1 : 0 ≤ x1 ∧ x1 ≤ 5) : 4 * x1 + x0 < 37 := by omega
theorem c_232_33 : mLk 232 33 = some (.iload 4, 2) := rfl
theorem c_232_35 : mLk 232 35 = some (.iconst 4, 1) := rfl
theorem c_232_36 : mLk 232 36 = some (.if_icmp .ge 51, 3) := rfl
theorem c_232_87 : mLk 232 87 = some (.iload_n 1, 1) := rfl
theorem c_232_88 : mLk 232 88 = some (.ifCond .ne 7, 3) := rfl
theorem c_232_95 : mLk 232 95 = some (.iload_n 3, 1) := rfl
theorem c_232_96 : mLk 232 96 = some (.ireturn, 1) := rfl
theorem c_232_91 : mLk 232 91 = some (.iload_n 2, 1) := rfl
theorem c_232_92 : mLk 232 92 = some (.goto 4, 3) := rfl
theorem c_232_39 : mLk 232 39 = some (.aload_n 0, 1) := rfl
theorem c_232_40 : mLk 232 40 = some (.getfield 83, 3) := rfl
theorem c_232_43 : mLk 232 43 = some (.iload 4, 2) := rfl
theorem c_232_45 : mLk 232 45 = some (.iaload, 1) := rfl
theorem c_232_46 : mLk 232 46 = some (.iconst (-1), 1) := rfl
theorem c_232_47 : mLk 232 47 = some (.if_icmp .eq 6, 3) := rfl
theorem c_232_53 : mLk 232 53 = some (.aload_n 0, 1) := rfl
theorem c_232_54 : mLk 232 54 = some (.iload 4, 2) := rfl
theorem c_232_56 : mLk 232 56 = some (.invokevirtual 420, 3) := rfl
theorem c_232_59 : mLk 232 59 = some (.istore 5, 2) := rfl
theorem c_232_61 : mLk 232 61 = some (.iload_n 2, 1) := rfl
theorem c_232_62 : mLk 232 62 = some (.iconst (-1), 1) := rfl
theorem c_232_63 : mLk 232 63 = some (.if_icmp .eq 12, 3) := rfl
theorem c_232_75 : mLk 232 75 = some (.iload 4, 2) := rfl
theorem c_232_77 : mLk 232 77 = some (.istore_n 2, 1) := rfl
theorem c_232_78 : mLk 232 78 = some (.iload 5, 2) := rfl
theorem c_232_80 : mLk 232 80 = some (.istore_n 3, 1) := rfl
theorem c_232_81 : mLk 232 81 = some (.iinc 4 1, 3) := rfl
theorem c_232_84 : mLk 232 84 = some (.goto (-51), 3) := rfl
theorem c_232_66 : mLk 232 66 = some (.iload 5, 2) := rfl
theorem c_232_68 : mLk 232 68 = some (.iload_n 3, 1) := rfl
theorem c_232_69 : mLk 232 69 = some (.if_icmp .lt 6, 3) := rfl
theorem c_232_72 : mLk 232 72 = some (.goto 9, 3) := rfl
theorem c_232_50 : mLk 232 50 = some (.goto 31, 3) := rfl
theorem c_232_0 : mLk 232 0 = some (.aload_n 0, 1) := rfl
theorem c_232_1 : mLk 232 1 = some (.iconst 0, 1) := rfl
theorem c_232_2 : mLk 232 2 = some (.putfield 3, 3) := rfl
theorem c_232_5 : mLk 232 5 = some (.aload_n 0, 1) := rfl
theorem c_232_6 : mLk 232 6 = some (.iload_n 1, 1) := rfl
theorem c_232_7 : mLk 232 7 = some (.iconst 0, 1) := rfl
theorem c_232_8 : mLk 232 8 = some (.iconst 1, 1) := rfl
theorem c_232_9 : mLk 232 9 = some (.invokestatic 384, 3) := rfl
theorem c_232_12 : mLk 232 12 = some (.iconst 1, 1) := rfl
theorem c_232_13 : mLk 232 13 = some (.iconst 1, 1) := rfl
theorem c_232_14 : mLk 232 14 = some (.invokevirtual 203, 3) := rfl
theorem c_232_17 : mLk 232 17 = some (.ifCond .ne 5, 3) := rfl
theorem c_232_20 : mLk 232 20 = some (.iconst 0, 1) := rfl
theorem c_232_21 : mLk 232 21 = some (.ireturn, 1) := rfl
theorem c_232_22 : mLk 232 22 = some (.aload_n 0, 1) := rfl
theorem c_232_23 : mLk 232 23 = some (.invokevirtual 317, 3) := rfl
theorem c_232_26 : mLk 232 26 = some (.iconst (-1), 1) := rfl
theorem c_232_27 : mLk 232 27 = some (.istore_n 2, 1) := rfl
theorem c_232_28 : mLk 232 28 = some (.iconst (-1), 1) := rfl
theorem c_232_29 : mLk 232 29 = some (.istore_n 3, 1) := rfl
theorem c_232_30 : mLk 232 30 = some (.iconst 0, 1) := rfl
theorem c_232_31 : mLk 232 31 = some (.istore 4, 2) := rfl
theorem c_235_0 : mLk 235 0 = some (.iload_n 0, 1) := rfl
theorem c_235_1 : mLk 235 1 = some (.ifCond .ne 17, 3) := rfl
theorem c_235_18 : mLk 235 18 = some (.iload_n 1, 1) := rfl
theorem c_235_19 : mLk 235 19 = some (.iconst 1, 1) := rfl
theorem c_235_20 : mLk 235 20 = some (.if_icmp .ne 9, 3) := rfl
theorem c_235_29 : mLk 235 29 = some (.iload_n 3, 1) := rfl
theorem c_235_30 : mLk 235 30 = some (.ireturn, 1) := rfl
theorem c_235_23 : mLk 235 23 = some (.iload_n 3, 1) := rfl
theorem c_235_24 : mLk 235 24 = some (.iconst 2, 1) := rfl
theorem c_235_25 : mLk 235 25 = some (.idiv, 1) := rfl
theorem c_235_26 : mLk 235 26 = some (.goto 4, 3) := rfl
theorem c_235_4 : mLk 235 4 = some (.iload_n 1, 1) := rfl
theorem c_235_5 : mLk 235 5 = some (.ifCond .ne 9, 3) := rfl
theorem c_235_14 : mLk 235 14 = some (.iload_n 2, 1) := rfl
theorem c_235_15 : mLk 235 15 = some (.goto 15, 3) := rfl
theorem c_235_8 : mLk 235 8 = some (.iload_n 2, 1) := rfl
theorem c_235_9 : mLk 235 9 = some (.iconst 2, 1) := rfl
theorem c_235_10 : mLk 235 10 = some (.idiv, 1) := rfl
theorem c_235_11 : mLk 235 11 = some (.goto 19, 3) := rfl
theorem c_236_59 : mLk 236 59 = some (.iload 6, 2) := rfl
theorem c_236_61 : mLk 236 61 = some (.iconst 4, 1) := rfl
theorem c_236_62 : mLk 236 62 = some (.if_icmp .ge 94, 3) := rfl
theorem c_236_156 : mLk 236 156 = some (.iload_n 3, 1) := rfl
theorem c_236_157 : mLk 236 157 = some (.ifCond .ne 8, 3) := rfl
theorem c_236_165 : mLk 236 165 = some (.iload_n 3, 1) := rfl
theorem c_236_166 : mLk 236 166 = some (.iconst 1, 1) := rfl
theorem c_236_167 : mLk 236 167 = some (.if_icmp .ne 8, 3) := rfl
theorem c_236_175 : mLk 236 175 = some (.iload 5, 2) := rfl
theorem c_236_177 : mLk 236 177 = some (.iconst (-1), 1) := rfl
theorem c_236_178 : mLk 236 178 = some (.if_icmp .ne 7, 3) := rfl
theorem c_236_185 : mLk 236 185 = some (.iload 5, 2) := rfl
theorem c_236_187 : mLk 236 187 = some (.bipush 10, 2) := rfl
theorem c_236_189 : mLk 236 189 = some (.idiv, 1) := rfl
theorem c_236_190 : mLk 236 190 = some (.iload 5, 2) := rfl
theorem c_236_192 : mLk 236 192 = some (.bipush 10, 2) := rfl
theorem c_236_194 : mLk 236 194 = some (.irem, 1) := rfl
theorem c_236_195 : mLk 236 195 = some (.iload_n 1, 1) := rfl
theorem c_236_196 : mLk 236 196 = some (.iload_n 2, 1) := rfl
theorem c_236_197 : mLk 236 197 = some (.invokestatic 428, 3) := rfl
theorem c_236_200 : mLk 236 200 = some (.iload 5, 2) := rfl
theorem c_236_202 : mLk 236 202 = some (.bipush 10, 2) := rfl
theorem c_236_204 : mLk 236 204 = some (.irem, 1) := rfl
theorem c_236_205 : mLk 236 205 = some (.iload 5, 2) := rfl
theorem c_236_207 : mLk 236 207 = some (.bipush 10, 2) := rfl
theorem c_236_209 : mLk 236 209 = some (.idiv, 1) := rfl
theorem c_236_210 : mLk 236 210 = some (.iload_n 1, 1) := rfl
theorem c_236_211 : mLk 236 211 = some (.iload_n 2, 1) := rfl
theorem c_236_212 : mLk 236 212 = some (.invokestatic 428, 3) := rfl
theorem c_236_215 : mLk 236 215 = some (.iadd, 1) := rfl
theorem c_236_216 : mLk 236 216 = some (.ireturn, 1) := rfl
theorem c_236_181 : mLk 236 181 = some (.iconst 0, 1) := rfl
theorem c_236_182 : mLk 236 182 = some (.goto 34, 3) := rfl
theorem c_236_170 : mLk 236 170 = some (.iload 5, 2) := rfl
theorem c_236_172 : mLk 236 172 = some (.goto 44, 3) := rfl
theorem c_236_160 : mLk 236 160 = some (.iload 4, 2) := rfl
theorem c_236_162 : mLk 236 162 = some (.goto 54, 3) := rfl
theorem c_236_65 : mLk 236 65 = some (.iload 6, 2) := rfl
theorem c_236_67 : mLk 236 67 = some (.iconst 2, 1) := rfl
theorem c_236_68 : mLk 236 68 = some (.idiv, 1) := rfl
theorem c_236_69 : mLk 236 69 = some (.istore 7, 2) := rfl
theorem c_236_71 : mLk 236 71 = some (.iload 6, 2) := rfl
theorem c_236_73 : mLk 236 73 = some (.iconst 2, 1) := rfl
theorem c_236_74 : mLk 236 74 = some (.irem, 1) := rfl
theorem c_236_75 : mLk 236 75 = some (.istore 8, 2) := rfl
theorem c_236_77 : mLk 236 77 = some (.iconst 1, 1) := rfl
theorem c_236_78 : mLk 236 78 = some (.iload 7, 2) := rfl
theorem c_236_80 : mLk 236 80 = some (.isub, 1) := rfl
theorem c_236_81 : mLk 236 81 = some (.iload 8, 2) := rfl
theorem c_236_83 : mLk 236 83 = some (.iload_n 1, 1) := rfl
theorem c_236_84 : mLk 236 84 = some (.iload_n 2, 1) := rfl
theorem c_236_85 : mLk 236 85 = some (.invokestatic 428, 3) := rfl
theorem c_236_88 : mLk 236 88 = some (.iload 7, 2) := rfl
theorem c_236_90 : mLk 236 90 = some (.iload 8, 2) := rfl
theorem c_236_92 : mLk 236 92 = some (.iload_n 1, 1) := rfl
theorem c_236_93 : mLk 236 93 = some (.iload_n 2, 1) := rfl
theorem c_236_94 : mLk 236 94 = some (.invokestatic 428, 3) := rfl
theorem c_236_97 : mLk 236 97 = some (.if_icmp .gt 53, 3) := rfl
theorem c_236_150 : mLk 236 150 = some (.iinc 6 1, 3) := rfl
theorem c_236_153 : mLk 236 153 = some (.goto (-94), 3) := rfl
theorem c_236_100 : mLk 236 100 = some (.iconst 1, 1) := rfl
theorem c_236_101 : mLk 236 101 = some (.iload 8, 2) := rfl
theorem c_236_103 : mLk 236 103 = some (.isub, 1) := rfl
theorem c_236_104 : mLk 236 104 = some (.iload 7, 2) := rfl
theorem c_236_106 : mLk 236 106 = some (.iload_n 1, 1) := rfl
theorem c_236_107 : mLk 236 107 = some (.iload_n 2, 1) := rfl
theorem c_236_108 : mLk 236 108 = some (.invokestatic 428, 3) := rfl
theorem c_236_111 : mLk 236 111 = some (.iload 8, 2) := rfl
theorem c_236_113 : mLk 236 113 = some (.iload 7, 2) := rfl
theorem c_236_115 : mLk 236 115 = some (.iload_n 1, 1) := rfl
theorem c_236_116 : mLk 236 116 = some (.iload_n 2, 1) := rfl
theorem c_236_117 : mLk 236 117 = some (.invokestatic 428, 3) := rfl
theorem c_236_120 : mLk 236 120 = some (.if_icmp .le 6, 3) := rfl
theorem c_236_126 : mLk 236 126 = some (.iinc 4 1, 3) := rfl
theorem c_236_129 : mLk 236 129 = some (.iload 5, 2) := rfl
theorem c_236_131 : mLk 236 131 = some (.iconst (-1), 1) := rfl
theorem c_236_132 : mLk 236 132 = some (.if_icmp .ne 14, 3) := rfl
theorem c_236_146 : mLk 236 146 = some (.iload 5, 2) := rfl
theorem c_236_148 : mLk 236 148 = some (.istore 5, 2) := rfl
theorem c_236_135 : mLk 236 135 = some (.bipush 10, 2) := rfl
theorem c_236_137 : mLk 236 137 = some (.iload 7, 2) := rfl
theorem c_236_139 : mLk 236 139 = some (.imul, 1) := rfl
theorem c_236_140 : mLk 236 140 = some (.iload 8, 2) := rfl
theorem c_236_142 : mLk 236 142 = some (.iadd, 1) := rfl
theorem c_236_143 : mLk 236 143 = some (.goto 5, 3) := rfl
theorem c_236_123 : mLk 236 123 = some (.goto 27, 3) := rfl
theorem c_236_0 : mLk 236 0 = some (.aload_n 0, 1) := rfl
theorem c_236_1 : mLk 236 1 = some (.iconst 0, 1) := rfl
theorem c_236_2 : mLk 236 2 = some (.putfield 3, 3) := rfl
theorem c_236_5 : mLk 236 5 = some (.aload_n 0, 1) := rfl
theorem c_236_6 : mLk 236 6 = some (.iload_n 1, 1) := rfl
theorem c_236_7 : mLk 236 7 = some (.iconst 0, 1) := rfl
theorem c_236_8 : mLk 236 8 = some (.bipush 99, 2) := rfl
theorem c_236_10 : mLk 236 10 = some (.invokestatic 384, 3) := rfl
theorem c_236_13 : mLk 236 13 = some (.ifCond .eq 26, 3) := rfl
theorem c_236_39 : mLk 236 39 = some (.iconst 0, 1) := rfl
theorem c_236_40 : mLk 236 40 = some (.iconst 1, 1) := rfl
theorem c_236_41 : mLk 236 41 = some (.iconst 1, 1) := rfl
theorem c_236_42 : mLk 236 42 = some (.invokevirtual 203, 3) := rfl
theorem c_236_45 : mLk 236 45 = some (.ifCond .ne 5, 3) := rfl
theorem c_236_48 : mLk 236 48 = some (.iconst 0, 1) := rfl
theorem c_236_49 : mLk 236 49 = some (.ireturn, 1) := rfl
theorem c_236_16 : mLk 236 16 = some (.iload_n 2, 1) := rfl
theorem c_236_17 : mLk 236 17 = some (.iconst 0, 1) := rfl
theorem c_236_18 : mLk 236 18 = some (.bipush 99, 2) := rfl
theorem c_236_20 : mLk 236 20 = some (.invokestatic 384, 3) := rfl
theorem c_236_23 : mLk 236 23 = some (.ifCond .eq 16, 3) := rfl
theorem c_236_26 : mLk 236 26 = some (.iload_n 3, 1) := rfl
theorem c_236_27 : mLk 236 27 = some (.iconst 0, 1) := rfl
theorem c_236_28 : mLk 236 28 = some (.iconst 2, 1) := rfl
theorem c_236_29 : mLk 236 29 = some (.invokestatic 384, 3) := rfl
theorem c_236_32 : mLk 236 32 = some (.ifCond .eq 7, 3) := rfl
theorem c_236_35 : mLk 236 35 = some (.iconst 1, 1) := rfl
theorem c_236_36 : mLk 236 36 = some (.goto 4, 3) := rfl
theorem c_236_50 : mLk 236 50 = some (.iconst 0, 1) := rfl
theorem c_236_51 : mLk 236 51 = some (.istore 4, 2) := rfl
theorem c_236_53 : mLk 236 53 = some (.iconst (-1), 1) := rfl
theorem c_236_54 : mLk 236 54 = some (.istore 5, 2) := rfl
theorem c_236_56 : mLk 236 56 = some (.iconst 0, 1) := rfl
theorem c_236_57 : mLk 236 57 = some (.istore 6, 2) := rfl
theorem c_237_0 : mLk 237 0 = some (.aload_n 0, 1) := rfl
theorem c_237_1 : mLk 237 1 = some (.iload_n 1, 1) := rfl
theorem c_237_2 : mLk 237 2 = some (.invokevirtual 343, 3) := rfl
theorem c_237_5 : mLk 237 5 = some (.iload_n 2, 1) := rfl
theorem c_237_6 : mLk 237 6 = some (.if_icmp .ge 11, 3) := rfl
theorem c_237_17 : mLk 237 17 = some (.iload_n 2, 1) := rfl
theorem c_237_18 : mLk 237 18 = some (.ireturn, 1) := rfl
theorem c_237_9 : mLk 237 9 = some (.aload_n 0, 1) := rfl
theorem c_237_10 : mLk 237 10 = some (.iload_n 1, 1) := rfl
theorem c_237_11 : mLk 237 11 = some (.invokevirtual 343, 3) := rfl
theorem c_237_14 : mLk 237 14 = some (.goto 4, 3) := rfl
theorem c_238_5 : mLk 238 5 = some (.iload 4, 2) := rfl
theorem c_238_7 : mLk 238 7 = some (.aload_n 0, 1) := rfl
theorem c_238_8 : mLk 238 8 = some (.getfield 157, 3) := rfl
theorem c_238_11 : mLk 238 11 = some (.if_icmp .ge 26, 3) := rfl
theorem c_238_37 : mLk 238 37 = some (.iload_n 3, 1) := rfl
theorem c_238_38 : mLk 238 38 = some (.ireturn, 1) := rfl
theorem c_238_14 : mLk 238 14 = some (.iload_n 3, 1) := rfl
theorem c_238_15 : mLk 238 15 = some (.iload_n 1, 1) := rfl
theorem c_238_16 : mLk 238 16 = some (.iload 4, 2) := rfl
theorem c_238_18 : mLk 238 18 = some (.ishr, 1) := rfl
theorem c_238_19 : mLk 238 19 = some (.iconst 1, 1) := rfl
theorem c_238_20 : mLk 238 20 = some (.iand, 1) := rfl
theorem c_238_21 : mLk 238 21 = some (.aload_n 0, 1) := rfl
theorem c_238_22 : mLk 238 22 = some (.iload 4, 2) := rfl
theorem c_238_24 : mLk 238 24 = some (.iload_n 2, 1) := rfl
theorem c_238_25 : mLk 238 25 = some (.invokevirtual 432, 3) := rfl
theorem c_238_28 : mLk 238 28 = some (.imul, 1) := rfl
theorem c_238_29 : mLk 238 29 = some (.iadd, 1) := rfl
theorem c_238_30 : mLk 238 30 = some (.istore_n 3, 1) := rfl
theorem c_238_31 : mLk 238 31 = some (.iinc 4 1, 3) := rfl
theorem c_238_34 : mLk 238 34 = some (.goto (-29), 3) := rfl
theorem c_238_0 : mLk 238 0 = some (.iconst 0, 1) := rfl
theorem c_238_1 : mLk 238 1 = some (.istore_n 3, 1) := rfl
theorem c_238_2 : mLk 238 2 = some (.iconst 0, 1) := rfl
theorem c_238_3 : mLk 238 3 = some (.istore 4, 2) := rfl
theorem c_239_66 : mLk 239 66 = some (.iload 5, 2) := rfl
theorem c_239_68 : mLk 239 68 = some (.ifCond .le 46, 3) := rfl
theorem c_239_114 : mLk 239 114 = some (.aload_n 0, 1) := rfl
theorem c_239_115 : mLk 239 115 = some (.iload_n 2, 1) := rfl
theorem c_239_116 : mLk 239 116 = some (.iload 4, 2) := rfl
theorem c_239_118 : mLk 239 118 = some (.invokevirtual 435, 3) := rfl
theorem c_239_121 : mLk 239 121 = some (.iload_n 3, 1) := rfl
theorem c_239_122 : mLk 239 122 = some (.if_icmp .le 6, 3) := rfl
theorem c_239_128 : mLk 239 128 = some (.iload_n 2, 1) := rfl
theorem c_239_129 : mLk 239 129 = some (.iload_n 1, 1) := rfl
theorem c_239_130 : mLk 239 130 = some (.ishr, 1) := rfl
theorem c_239_131 : mLk 239 131 = some (.iconst 1, 1) := rfl
theorem c_239_132 : mLk 239 132 = some (.iand, 1) := rfl
theorem c_239_133 : mLk 239 133 = some (.ifCond .ne 7, 3) := rfl
theorem c_239_140 : mLk 239 140 = some (.aload_n 0, 1) := rfl
theorem c_239_141 : mLk 239 141 = some (.iload_n 1, 1) := rfl
theorem c_239_142 : mLk 239 142 = some (.iload 4, 2) := rfl
theorem c_239_144 : mLk 239 144 = some (.invokevirtual 432, 3) := rfl
theorem c_239_147 : mLk 239 147 = some (.ireturn, 1) := rfl
theorem c_239_136 : mLk 239 136 = some (.iconst 0, 1) := rfl
theorem c_239_137 : mLk 239 137 = some (.goto 10, 3) := rfl
theorem c_239_125 : mLk 239 125 = some (.iinc 4 (-1), 3) := rfl
theorem c_239_71 : mLk 239 71 = some (.iload 4, 2) := rfl
theorem c_239_73 : mLk 239 73 = some (.iload 5, 2) := rfl
theorem c_239_75 : mLk 239 75 = some (.isub, 1) := rfl
theorem c_239_76 : mLk 239 76 = some (.ifCond .lt 29, 3) := rfl
theorem c_239_105 : mLk 239 105 = some (.iload 5, 2) := rfl
theorem c_239_107 : mLk 239 107 = some (.iconst 2, 1) := rfl
theorem c_239_108 : mLk 239 108 = some (.idiv, 1) := rfl
theorem c_239_109 : mLk 239 109 = some (.istore 5, 2) := rfl
theorem c_239_111 : mLk 239 111 = some (.goto (-45), 3) := rfl
theorem c_239_79 : mLk 239 79 = some (.aload_n 0, 1) := rfl
theorem c_239_80 : mLk 239 80 = some (.iload_n 2, 1) := rfl
theorem c_239_81 : mLk 239 81 = some (.iload 4, 2) := rfl
theorem c_239_83 : mLk 239 83 = some (.iload 5, 2) := rfl
theorem c_239_85 : mLk 239 85 = some (.isub, 1) := rfl
theorem c_239_86 : mLk 239 86 = some (.iconst 1, 1) := rfl
theorem c_239_87 : mLk 239 87 = some (.iadd, 1) := rfl
theorem c_239_88 : mLk 239 88 = some (.invokevirtual 435, 3) := rfl
theorem c_239_91 : mLk 239 91 = some (.iload_n 3, 1) := rfl
theorem c_239_92 : mLk 239 92 = some (.if_icmp .le 13, 3) := rfl
theorem c_239_95 : mLk 239 95 = some (.iload 4, 2) := rfl
theorem c_239_97 : mLk 239 97 = some (.iload 5, 2) := rfl
theorem c_239_99 : mLk 239 99 = some (.isub, 1) := rfl
theorem c_239_100 : mLk 239 100 = some (.istore 4, 2) := rfl
theorem c_239_102 : mLk 239 102 = some (.goto (-31), 3) := rfl
theorem c_239_0 : mLk 239 0 = some (.aload_n 0, 1) := rfl
theorem c_239_1 : mLk 239 1 = some (.iconst 0, 1) := rfl
theorem c_239_2 : mLk 239 2 = some (.putfield 3, 3) := rfl
theorem c_239_5 : mLk 239 5 = some (.aload_n 0, 1) := rfl
theorem c_239_6 : mLk 239 6 = some (.iload_n 1, 1) := rfl
theorem c_239_7 : mLk 239 7 = some (.aload_n 0, 1) := rfl
theorem c_239_8 : mLk 239 8 = some (.getfield 157, 3) := rfl
theorem c_239_11 : mLk 239 11 = some (.invokevirtual 396, 3) := rfl
theorem c_239_14 : mLk 239 14 = some (.ifCond .eq 36, 3) := rfl
theorem c_239_50 : mLk 239 50 = some (.iconst 0, 1) := rfl
theorem c_239_51 : mLk 239 51 = some (.ireturn, 1) := rfl
theorem c_239_17 : mLk 239 17 = some (.aload_n 0, 1) := rfl
theorem c_239_18 : mLk 239 18 = some (.aload_n 0, 1) := rfl
theorem c_239_19 : mLk 239 19 = some (.iload_n 2, 1) := rfl
theorem c_239_20 : mLk 239 20 = some (.invokevirtual 402, 3) := rfl
theorem c_239_23 : mLk 239 23 = some (.ifCond .eq 18, 3) := rfl
theorem c_239_41 : mLk 239 41 = some (.iconst 0, 1) := rfl
theorem c_239_42 : mLk 239 42 = some (.iconst 2, 1) := rfl
theorem c_239_43 : mLk 239 43 = some (.iconst 1, 1) := rfl
theorem c_239_44 : mLk 239 44 = some (.invokevirtual 203, 3) := rfl
theorem c_239_47 : mLk 239 47 = some (.ifCond .ne 5, 3) := rfl
theorem c_239_26 : mLk 239 26 = some (.iload_n 3, 1) := rfl
theorem c_239_27 : mLk 239 27 = some (.iconst 0, 1) := rfl
theorem c_239_28 : mLk 239 28 = some (.ldc_w 413, 3) := rfl
theorem c_239_31 : mLk 239 31 = some (.invokestatic 384, 3) := rfl
theorem c_239_34 : mLk 239 34 = some (.ifCond .eq 7, 3) := rfl
theorem c_239_37 : mLk 239 37 = some (.iconst 1, 1) := rfl
theorem c_239_38 : mLk 239 38 = some (.goto 4, 3) := rfl
theorem c_239_52 : mLk 239 52 = some (.aload_n 0, 1) := rfl
theorem c_239_53 : mLk 239 53 = some (.invokevirtual 317, 3) := rfl
theorem c_239_56 : mLk 239 56 = some (.sipush 9999, 3) := rfl
theorem c_239_59 : mLk 239 59 = some (.istore 4, 2) := rfl
theorem c_239_61 : mLk 239 61 = some (.sipush 8192, 3) := rfl
theorem c_239_64 : mLk 239 64 = some (.istore 5, 2) := rfl
theorem c_240_30 : mLk 240 30 = some (.iload_n 3, 1) := rfl
theorem c_240_31 : mLk 240 31 = some (.aload_n 0, 1) := rfl
theorem c_240_32 : mLk 240 32 = some (.getfield 157, 3) := rfl
theorem c_240_35 : mLk 240 35 = some (.if_icmp .ge 37, 3) := rfl
theorem c_240_72 : mLk 240 72 = some (.iload_n 1, 1) := rfl
theorem c_240_73 : mLk 240 73 = some (.ifCond .eq 8, 3) := rfl
theorem c_240_81 : mLk 240 81 = some (.iload_n 2, 1) := rfl
theorem c_240_82 : mLk 240 82 = some (.goto 8, 3) := rfl
theorem c_240_90 : mLk 240 90 = some (.ireturn, 1) := rfl
theorem c_240_76 : mLk 240 76 = some (.iload_n 2, 1) := rfl
theorem c_240_77 : mLk 240 77 = some (.iconst (-1), 1) := rfl
theorem c_240_78 : mLk 240 78 = some (.if_icmp .ne 7, 3) := rfl
theorem c_240_85 : mLk 240 85 = some (.aload_n 0, 1) := rfl
theorem c_240_86 : mLk 240 86 = some (.iload_n 2, 1) := rfl
theorem c_240_87 : mLk 240 87 = some (.invokevirtual 375, 3) := rfl
theorem c_240_38 : mLk 240 38 = some (.aload_n 0, 1) := rfl
theorem c_240_39 : mLk 240 39 = some (.iload_n 3, 1) := rfl
theorem c_240_40 : mLk 240 40 = some (.invokevirtual 343, 3) := rfl
theorem c_240_43 : mLk 240 43 = some (.ifCond .le 23, 3) := rfl
theorem c_240_66 : mLk 240 66 = some (.iinc 3 1, 3) := rfl
theorem c_240_69 : mLk 240 69 = some (.goto (-39), 3) := rfl
theorem c_240_46 : mLk 240 46 = some (.iload_n 2, 1) := rfl
theorem c_240_47 : mLk 240 47 = some (.iconst (-1), 1) := rfl
theorem c_240_48 : mLk 240 48 = some (.if_icmp .eq 16, 3) := rfl
theorem c_240_64 : mLk 240 64 = some (.iload_n 3, 1) := rfl
theorem c_240_65 : mLk 240 65 = some (.istore_n 2, 1) := rfl
theorem c_240_51 : mLk 240 51 = some (.aload_n 0, 1) := rfl
theorem c_240_52 : mLk 240 52 = some (.iload_n 3, 1) := rfl
theorem c_240_53 : mLk 240 53 = some (.invokevirtual 375, 3) := rfl
theorem c_240_56 : mLk 240 56 = some (.aload_n 0, 1) := rfl
theorem c_240_57 : mLk 240 57 = some (.iload_n 2, 1) := rfl
theorem c_240_58 : mLk 240 58 = some (.invokevirtual 375, 3) := rfl
theorem c_240_61 : mLk 240 61 = some (.if_icmp .le 5, 3) := rfl
theorem c_240_0 : mLk 240 0 = some (.aload_n 0, 1) := rfl
theorem c_240_1 : mLk 240 1 = some (.iconst 0, 1) := rfl
theorem c_240_2 : mLk 240 2 = some (.putfield 3, 3) := rfl
theorem c_240_5 : mLk 240 5 = some (.aload_n 0, 1) := rfl
theorem c_240_6 : mLk 240 6 = some (.iload_n 1, 1) := rfl
theorem c_240_7 : mLk 240 7 = some (.iconst 0, 1) := rfl
theorem c_240_8 : mLk 240 8 = some (.iconst 1, 1) := rfl
theorem c_240_9 : mLk 240 9 = some (.invokestatic 384, 3) := rfl
theorem c_240_12 : mLk 240 12 = some (.iconst 1, 1) := rfl
theorem c_240_13 : mLk 240 13 = some (.iconst 1, 1) := rfl
theorem c_240_14 : mLk 240 14 = some (.invokevirtual 203, 3) := rfl
theorem c_240_17 : mLk 240 17 = some (.ifCond .ne 5, 3) := rfl
theorem c_240_20 : mLk 240 20 = some (.iconst 0, 1) := rfl
theorem c_240_21 : mLk 240 21 = some (.ireturn, 1) := rfl
theorem c_240_22 : mLk 240 22 = some (.aload_n 0, 1) := rfl
theorem c_240_23 : mLk 240 23 = some (.invokevirtual 317, 3) := rfl
theorem c_240_26 : mLk 240 26 = some (.iconst (-1), 1) := rfl
theorem c_240_27 : mLk 240 27 = some (.istore_n 2, 1) := rfl
theorem c_240_28 : mLk 240 28 = some (.iconst 0, 1) := rfl
theorem c_240_29 : mLk 240 29 = some (.istore_n 3, 1) := rfl
theorem c_241_13 : mLk 241 13 = some (.iload_n 2, 1) := rfl
theorem c_241_14 : mLk 241 14 = some (.aload_n 0, 1) := rfl
theorem c_241_15 : mLk 241 15 = some (.getfield 157, 3) := rfl
theorem c_241_18 : mLk 241 18 = some (.if_icmp .ge 27, 3) := rfl
theorem c_241_45 : mLk 241 45 = some (.iload_n 1, 1) := rfl
theorem c_241_46 : mLk 241 46 = some (.ireturn, 1) := rfl
theorem c_241_21 : mLk 241 21 = some (.iload_n 1, 1) := rfl
theorem c_241_22 : mLk 241 22 = some (.aload_n 0, 1) := rfl
theorem c_241_23 : mLk 241 23 = some (.iload_n 2, 1) := rfl
theorem c_241_24 : mLk 241 24 = some (.invokevirtual 378, 3) := rfl
theorem c_241_27 : mLk 241 27 = some (.ifCond .eq 9, 3) := rfl
theorem c_241_36 : mLk 241 36 = some (.iconst 0, 1) := rfl
theorem c_241_37 : mLk 241 37 = some (.ior, 1) := rfl
theorem c_241_38 : mLk 241 38 = some (.istore_n 1, 1) := rfl
theorem c_241_39 : mLk 241 39 = some (.iinc 2 1, 3) := rfl
theorem c_241_42 : mLk 241 42 = some (.goto (-29), 3) := rfl
theorem c_241_30 : mLk 241 30 = some (.iconst 1, 1) := rfl
theorem c_241_31 : mLk 241 31 = some (.iload_n 2, 1) := rfl
theorem c_241_32 : mLk 241 32 = some (.ishl, 1) := rfl
theorem c_241_33 : mLk 241 33 = some (.goto 4, 3) := rfl
theorem c_241_0 : mLk 241 0 = some (.aload_n 0, 1) := rfl
theorem c_241_1 : mLk 241 1 = some (.iconst 0, 1) := rfl
theorem c_241_2 : mLk 241 2 = some (.putfield 3, 3) := rfl
theorem c_241_5 : mLk 241 5 = some (.aload_n 0, 1) := rfl
theorem c_241_6 : mLk 241 6 = some (.invokevirtual 317, 3) := rfl
theorem c_241_9 : mLk 241 9 = some (.iconst 0, 1) := rfl
theorem c_241_10 : mLk 241 10 = some (.istore_n 1, 1) := rfl
theorem c_241_11 : mLk 241 11 = some (.iconst 0, 1) := rfl
theorem c_241_12 : mLk 241 12 = some (.istore_n 2, 1) := rfl
theorem c_242_0 : mLk 242 0 = some (.aload_n 0, 1) := rfl
theorem c_242_1 : mLk 242 1 = some (.iconst 0, 1) := rfl
theorem c_242_2 : mLk 242 2 = some (.putfield 3, 3) := rfl
theorem c_242_5 : mLk 242 5 = some (.aload_n 0, 1) := rfl
theorem c_242_6 : mLk 242 6 = some (.iload_n 1, 1) := rfl
theorem c_242_7 : mLk 242 7 = some (.aload_n 0, 1) := rfl
theorem c_242_8 : mLk 242 8 = some (.getfield 157, 3) := rfl
theorem c_242_11 : mLk 242 11 = some (.invokevirtual 396, 3) := rfl
theorem c_242_14 : mLk 242 14 = some (.ifCond .eq 15, 3) := rfl
theorem c_242_29 : mLk 242 29 = some (.iconst 0, 1) := rfl
theorem c_242_30 : mLk 242 30 = some (.ireturn, 1) := rfl
theorem c_242_17 : mLk 242 17 = some (.aload_n 0, 1) := rfl
theorem c_242_18 : mLk 242 18 = some (.iload_n 2, 1) := rfl
theorem c_242_19 : mLk 242 19 = some (.aload_n 0, 1) := rfl
theorem c_242_20 : mLk 242 20 = some (.getfield 157, 3) := rfl
theorem c_242_23 : mLk 242 23 = some (.invokevirtual 396, 3) := rfl
theorem c_242_26 : mLk 242 26 = some (.ifCond .ne 5, 3) := rfl
theorem c_242_31 : mLk 242 31 = some (.aload_n 0, 1) := rfl
theorem c_242_32 : mLk 242 32 = some (.invokevirtual 317, 3) := rfl
theorem c_242_35 : mLk 242 35 = some (.aload_n 0, 1) := rfl
theorem c_242_36 : mLk 242 36 = some (.iload_n 1, 1) := rfl
theorem c_242_37 : mLk 242 37 = some (.iload_n 2, 1) := rfl
theorem c_242_38 : mLk 242 38 = some (.aload_n 0, 1) := rfl
theorem c_242_39 : mLk 242 39 = some (.iload_n 1, 1) := rfl
theorem c_242_40 : mLk 242 40 = some (.invokevirtual 343, 3) := rfl
theorem c_242_43 : mLk 242 43 = some (.invokevirtual 346, 3) := rfl
theorem c_242_46 : mLk 242 46 = some (.ifCond .eq 11, 3) := rfl
theorem c_242_57 : mLk 242 57 = some (.iconst (-1), 1) := rfl
theorem c_242_58 : mLk 242 58 = some (.ireturn, 1) := rfl
theorem c_242_49 : mLk 242 49 = some (.aload_n 0, 1) := rfl
theorem c_242_50 : mLk 242 50 = some (.iload_n 2, 1) := rfl
theorem c_242_51 : mLk 242 51 = some (.invokevirtual 375, 3) := rfl
theorem c_242_54 : mLk 242 54 = some (.goto 4, 3) := rfl
theorem c_243_13 : mLk 243 13 = some (.iload_n 2, 1) := rfl
theorem c_243_14 : mLk 243 14 = some (.aload_n 0, 1) := rfl
theorem c_243_15 : mLk 243 15 = some (.getfield 157, 3) := rfl
theorem c_243_18 : mLk 243 18 = some (.if_icmp .ge 63, 3) := rfl
theorem c_243_81 : mLk 243 81 = some (.iload_n 1, 1) := rfl
theorem c_243_82 : mLk 243 82 = some (.ireturn, 1) := rfl
theorem c_243_21 : mLk 243 21 = some (.iconst 0, 1) := rfl
theorem c_243_22 : mLk 243 22 = some (.istore_n 3, 1) := rfl
theorem c_243_23 : mLk 243 23 = some (.iconst 0, 1) := rfl
theorem c_243_24 : mLk 243 24 = some (.istore 4, 2) := rfl
theorem c_243_26 : mLk 243 26 = some (.iload 4, 2) := rfl
theorem c_243_28 : mLk 243 28 = some (.iconst 4, 1) := rfl
theorem c_243_29 : mLk 243 29 = some (.if_icmp .ge 31, 3) := rfl
theorem c_243_60 : mLk 243 60 = some (.iload_n 1, 1) := rfl
theorem c_243_61 : mLk 243 61 = some (.iload_n 3, 1) := rfl
theorem c_243_62 : mLk 243 62 = some (.iconst 1, 1) := rfl
theorem c_243_63 : mLk 243 63 = some (.if_icmp .ne 9, 3) := rfl
theorem c_243_72 : mLk 243 72 = some (.iconst 0, 1) := rfl
theorem c_243_73 : mLk 243 73 = some (.ior, 1) := rfl
theorem c_243_74 : mLk 243 74 = some (.istore_n 1, 1) := rfl
theorem c_243_75 : mLk 243 75 = some (.iinc 2 1, 3) := rfl
theorem c_243_78 : mLk 243 78 = some (.goto (-65), 3) := rfl
theorem c_243_66 : mLk 243 66 = some (.iconst 1, 1) := rfl
theorem c_243_67 : mLk 243 67 = some (.iload_n 2, 1) := rfl
theorem c_243_68 : mLk 243 68 = some (.ishl, 1) := rfl
theorem c_243_69 : mLk 243 69 = some (.goto 4, 3) := rfl
theorem c_243_32 : mLk 243 32 = some (.iload_n 3, 1) := rfl
theorem c_243_33 : mLk 243 33 = some (.aload_n 0, 1) := rfl
theorem c_243_34 : mLk 243 34 = some (.getfield 68, 3) := rfl
theorem c_243_37 : mLk 243 37 = some (.iconst 4, 1) := rfl
theorem c_243_38 : mLk 243 38 = some (.iload_n 2, 1) := rfl
theorem c_243_39 : mLk 243 39 = some (.imul, 1) := rfl
theorem c_243_40 : mLk 243 40 = some (.iload 4, 2) := rfl
theorem c_243_42 : mLk 243 42 = some (.iadd, 1) := rfl
theorem c_243_43 : mLk 243 43 = some (.iaload, 1) := rfl
theorem c_243_44 : mLk 243 44 = some (.ifCond .le 7, 3) := rfl
theorem c_243_51 : mLk 243 51 = some (.iconst 0, 1) := rfl
theorem c_243_52 : mLk 243 52 = some (.iadd, 1) := rfl
theorem c_243_53 : mLk 243 53 = some (.istore_n 3, 1) := rfl
theorem c_243_54 : mLk 243 54 = some (.iinc 4 1, 3) := rfl
theorem c_243_57 : mLk 243 57 = some (.goto (-31), 3) := rfl
theorem c_243_47 : mLk 243 47 = some (.iconst 1, 1) := rfl
theorem c_243_48 : mLk 243 48 = some (.goto 4, 3) := rfl
theorem c_243_0 : mLk 243 0 = some (.aload_n 0, 1) := rfl
theorem c_243_1 : mLk 243 1 = some (.iconst 0, 1) := rfl
theorem c_243_2 : mLk 243 2 = some (.putfield 3, 3) := rfl
theorem c_243_5 : mLk 243 5 = some (.aload_n 0, 1) := rfl
theorem c_243_6 : mLk 243 6 = some (.invokevirtual 317, 3) := rfl
theorem c_243_9 : mLk 243 9 = some (.iconst 0, 1) := rfl
theorem c_243_10 : mLk 243 10 = some (.istore_n 1, 1) := rfl
theorem c_243_11 : mLk 243 11 = some (.iconst 0, 1) := rfl
theorem c_243_12 : mLk 243 12 = some (.istore_n 2, 1) := rfl
theorem km_8_420 : a_lk (kM 8) 420 = some (0, 231) := rfl
theorem km_8_432 : a_lk (kM 8) 432 = some (0, 237) := rfl
theorem km_8_435 : a_lk (kM 8) 435 = some (0, 238) := rfl
set_option maxRecDepth 100000 in
set_option maxHeartbeats 4000000 in
theorem s_232_l {sc : List Int32} {d P Q : Nat} {c : ME} {a1 : Int} {Z : AR → Prop} (hI : Iv 0 (-1) P Q c) (ha1 : (-2147483648) ≤ a1 ∧ a1 ≤ 2147483647) (K : ∀ (c2 : ME) (y : Int), Iv 0 (-1) P Q c2 → (∀ (a : Nat) (j : Int), ¬ ((a = 41 ∧ j = 0) ∨ a = 42 ∨ a = 59) → c2 a j = c a j) → (-2147483648) ≤ y ∧ y ≤ 2147483647 → Z (.inl (some (vi y)), Wd P Q P P c2, 0, 0)) : ∀ n : Nat, (∀ (c2 : ME) (v2 : Int) (v3 : Int) (v4 : Int), Iv 0 (-1) P Q c2 → (∀ (a : Nat) (j : Int), ¬ ((a = 41 ∧ j = 0) ∨ a = 42 ∨ a = 59) → c2 a j = c a j) → (-1) ≤ v2 ∧ v2 ≤ 3 → (-2147483648) ≤ v3 ∧ v3 ≤ 2147483647 → 0 ≤ v4 ∧ v4 ≤ 4 → 9 - 2 * v4 < (n : Int) → Wp sc (d + 10) 232 33 [(0, .ref 41), (1, vi a1), (2, vi v2), (3, vi v3), (4, vi v4)] [] (Wd P Q P P c2) 0 0 Z) := by
  intro n
  induction n with
  | zero => exact (by intro c2 v2 v3 v4 hI2 hF hv2 hv3 hv4 hm9; have hP := iv_P hI; have hQ := iv_Q hI; exfalso; omega)
  | succ n ih =>
    have hP := iv_P hI
    have hQ := iv_Q hI
    intro c2 v2 v3 v4 hI2 hF hv2 hv3 hv4 hm9
    refine q_iload c_232_33 rfl (q_iconst c_232_35 ?_)
    by_cases h_1 : v4 ≥ 4
    · refine v_ic_ge_t (t := 87) c_232_36 rfl ⟨by decide, h_1, (Int.le_trans hv4.2 (by decide))⟩ (q_iload_n c_232_87 rfl ?_)
      by_cases h_2 : a1 ≠ 0
      · refine v_if_ne_t (t := 95) c_232_88 rfl ⟨h_2, ⟨ha1.1, ha1.2⟩, by decide, by decide⟩ (q_iload_n c_232_95 rfl (q_iret c_232_96 rfl ?_))
        exact K c2 v3 hI2 (fun a j hm => hF a j hm) hv3
      · refine v_if_ne_f (t := 95) c_232_88 rfl (Decidable.not_not.mp h_2) (q_iload_n c_232_91 rfl (q_goto (t := 96) c_232_92 rfl (q_iret c_232_96 rfl ?_)))
        exact K c2 v2 hI2 (fun a j hm => hF a j hm) ⟨(Int.le_trans (by decide) hv2.1), (Int.le_trans hv2.2 (by decide))⟩
    · refine v_ic_ge_f (t := 87) c_232_36 rfl ⟨(Int.le_trans (by decide) hv4.1), (Int.not_le.mp h_1), by decide⟩ (q_aload_n c_232_39 rfl (v_gr (t := 64) c_232_40 kf_8_83 rfl (nb_ rfl) rfl (q_iload c_232_43 rfl ?_)))
      have h_3 := ir_64 hI v4
      have kn_4 : Hid (c2 64 v4 = c 64 v4) := hF 64 v4 qn_a6ce83764
      refine v_ia (v := c 64 v4) c_232_45 rfl (by decide) (by decide) ⟨hv4.1, by first | exact q_2e808647e h_1 | omega⟩ (hid kn_4) (q_iconst c_232_46 ?_)
      by_cases h_5 : c 64 v4 = (-1)
      · refine v_ic_eq_t (t := 53) c_232_47 rfl h_5 (q_aload_n c_232_53 rfl (q_iload c_232_54 rfl (v_cv c_232_56 km_8_420 rfl rfl (nb_ rfl) ⟨⟨rfl, rfl⟩, nb_ rfl, rfl⟩ (nb_ rfl) (nb_ rfl) (s_231 (a1 := v4) hI2 (show 0 ≤ v4 ∧ v4 ≤ 3 from ⟨hv4.1, by first | exact q_482ef8d41 h_1 | omega⟩) (fun y_6 hy_6 => (bk_inl (q_istore c_232_59 (nb_ rfl) (q_iload_n c_232_61 rfl (q_iconst c_232_62 ?_)))))))))
        by_cases h_7 : v2 = (-1)
        · refine v_ic_eq_t (t := 75) c_232_63 rfl h_7 (q_iload c_232_75 rfl (q_istore_n c_232_77 (nb_ rfl) (q_iload c_232_78 rfl (q_istore_n c_232_80 (nb_ rfl) (v_iinc (v := v4 + 1) c_232_81 rfl (nb_ rfl) rfl (q_goto (t := 33) c_232_84 rfl (Wp_ls [(0, .ref 41), (1, vi a1), (2, vi v4), (3, vi y_6), (4, vi (v4 + 1))] (lsub_cons rfl (lsub_cons rfl (lsub_cons rfl (lsub_cons rfl (lsub_cons rfl lsub_nil))))) ?_)))))))
          exact ih c2 v4 y_6 (v4 + 1) hI2 (fun a j hm => hF a j hm) ⟨(Int.le_trans (by decide) hv4.1), by first | exact q_482ef8d41 h_1 | omega⟩ hy_6 ⟨by first | exact rgp_l hv4.1 (by decide) | omega, by first | exact q_121241f94 h_1 | omega⟩ (by omega)
        · refine v_ic_eq_f (t := 75) c_232_63 rfl ⟨h_7, ⟨(Int.le_trans (by decide) hv2.1), (Int.le_trans hv2.2 (by decide))⟩, by decide, by decide⟩ (q_iload c_232_66 rfl (q_iload_n c_232_68 rfl ?_))
          by_cases h_8 : y_6 < v3
          · refine v_ic_lt_t (t := 75) c_232_69 rfl ⟨hy_6.1, h_8, hv3.2⟩ (q_iload c_232_75 rfl (q_istore_n c_232_77 (nb_ rfl) (q_iload c_232_78 rfl (q_istore_n c_232_80 (nb_ rfl) (v_iinc (v := v4 + 1) c_232_81 rfl (nb_ rfl) rfl (q_goto (t := 33) c_232_84 rfl (Wp_ls [(0, .ref 41), (1, vi a1), (2, vi v4), (3, vi y_6), (4, vi (v4 + 1))] (lsub_cons rfl (lsub_cons rfl (lsub_cons rfl (lsub_cons rfl (lsub_cons rfl lsub_nil))))) ?_)))))))
            exact ih c2 v4 y_6 (v4 + 1) hI2 (fun a j hm => hF a j hm) ⟨(Int.le_trans (by decide) hv4.1), by first | exact q_482ef8d41 h_1 | omega⟩ hy_6 ⟨by first | exact rgp_l hv4.1 (by decide) | omega, by first | exact q_121241f94 h_1 | omega⟩ (by omega)
          · refine v_ic_lt_f (t := 75) c_232_69 rfl ⟨hv3.1, (Int.not_lt.mp h_8), hy_6.2⟩ (q_goto (t := 81) c_232_72 rfl (v_iinc (v := v4 + 1) c_232_81 rfl (nb_ rfl) rfl (q_goto (t := 33) c_232_84 rfl (Wp_ls [(0, .ref 41), (1, vi a1), (2, vi v2), (3, vi v3), (4, vi (v4 + 1))] (lsub_cons rfl (lsub_cons rfl (lsub_cons rfl (lsub_cons rfl (lsub_cons rfl lsub_nil))))) ?_))))
            exact ih c2 v2 v3 (v4 + 1) hI2 (fun a j hm => hF a j hm) hv2 hv3 ⟨by first | exact rgp_l hv4.1 (by decide) | omega, by first | exact q_121241f94 h_1 | omega⟩ (by omega)
      · refine v_ic_eq_f (t := 53) c_232_47 rfl ⟨h_5, ⟨by first | exact q_87765d87e h_3 | omega, by first | exact q_cf71bb2da h_3 | omega⟩, by decide, by decide⟩ (q_goto (t := 81) c_232_50 rfl (v_iinc (v := v4 + 1) c_232_81 rfl (nb_ rfl) rfl (q_goto (t := 33) c_232_84 rfl (Wp_ls [(0, .ref 41), (1, vi a1), (2, vi v2), (3, vi v3), (4, vi (v4 + 1))] (lsub_cons rfl (lsub_cons rfl (lsub_cons rfl (lsub_cons rfl (lsub_cons rfl lsub_nil))))) ?_))))
        exact ih c2 v2 v3 (v4 + 1) hI2 (fun a j hm => hF a j hm) hv2 hv3 ⟨by first | exact rgp_l hv4.1 (by decide) | omega, by first | exact q_121241f94 h_1 | omega⟩ (by omega)
set_option maxRecDepth 100000 in
set_option maxHeartbeats 4000000 in
theorem s_232 {sc : List Int32} {d P Q : Nat} {c : ME} {a1 : Int} {Z : AR → Prop} (hI : Iv 0 (-1) P Q c) (ha1 : (-2147483648) ≤ a1 ∧ a1 ≤ 2147483647) (K : ∀ (c2 : ME) (y : Int), Iv 0 (-1) P Q c2 → (∀ (a : Nat) (j : Int), ¬ ((a = 41 ∧ j = 0) ∨ a = 42 ∨ a = 59) → c2 a j = c a j) → (-2147483648) ≤ y ∧ y ≤ 2147483647 → Z (.inl (some (vi y)), Wd P Q P P c2, 0, 0)) : Wp sc (d + 10) 232 0 [(0, .ref 41), (1, vi a1)] [] (Wd P Q P P c) 0 0 Z := by
  have hP := iv_P hI
  have hQ := iv_Q hI
  refine q_aload_n c_232_0 rfl (q_iconst c_232_1 (v_pi (z := 0) c_232_2 kf_8_3 rfl (nb_ rfl) rfl rfl rfl (by decide) (q_aload_n c_232_5 rfl (q_iload_n c_232_6 rfl (q_iconst c_232_7 (q_iconst c_232_8 (q_call c_232_9 rfl rfl rfl ?_)))))))
  refine q_iload_n c_146_0 rfl (q_iload_n c_146_1 rfl ?_)
  by_cases h_9 : a1 < 0
  · refine v_ic_lt_t (t := 14) c_146_2 rfl ⟨ha1.1, h_9, by decide⟩ (q_iconst c_146_14 (v_zret c_146_15 rfl (by decide) (bk_inl (q_iconst c_232_12 (q_iconst c_232_13 (v_cv c_232_14 km_8_203 rfl rfl (nb_ rfl) ⟨⟨rfl, rfl⟩, nb_ rfl, rfl⟩ (nb_ rfl) (nb_ rfl) (q_iload_n c_145_0 rfl ?_)))))))
    refine v_if_ne_f (t := 26) c_145_1 rfl (by decide) (q_aload_n c_145_4 rfl (v_gi (z := 0) (v := 0) c_145_5 kf_8_3 rfl (nb_ rfl) rfl rfl (up_e rfl) (v_if_ne_f (t := 26) c_145_8 rfl (by decide) (q_aload_n c_145_11 rfl (q_iload_n c_145_12 rfl (v_pi (z := 0) c_145_13 kf_8_3 rfl (nb_ rfl) rfl rfl rfl (by decide) (q_aload_n c_145_16 rfl ?_)))))))
    refine v_gr (t := 42) c_145_17 kf_8_7 rfl (nb_ rfl) rfl (q_iload_n c_145_20 rfl (q_dup2 c_145_21 ⟨rfl, rfl⟩ ?_))
    have h_10 := ir_42 hI 1
    refine v_ia (v := c 42 1) c_145_22 rfl (by decide) (by decide) (by decide) ((up_c (nn rfl)).trans (up_c (nn rfl))) (q_iconst c_145_23 (v_iadd (v := c 42 1 + 1) c_145_24 rfl (v_nrm (fun y_11 hy_11 => (v_is c_145_25 rfl (by decide) (by decide) (by decide) (q_aload_n c_145_26 rfl (v_gi (z := 0) (v := 1) c_145_27 kf_8_3 rfl (nb_ rfl) rfl rfl ((up_c (nn rfl)).trans (up_e rfl)) (v_if_ne_t (t := 37) c_145_30 rfl (by decide) ?_))))))))
    refine q_iconst c_145_37 (v_zret c_145_38 rfl (by decide) (bk_inl (v_if_ne_f (t := 22) c_232_17 rfl (by decide) (q_iconst c_232_20 (q_iret c_232_21 rfl ?_)))))
    have hI_12 := iw_41_0 (v := 0) hI ⟨by decide, by decide⟩
    have hI_13 := iw_41_0 (v := 1) hI_12 ⟨by decide, by decide⟩
    have hI_14 := iw_42 (j := 1) (v := y_11) hI_13 ⟨hy_11.1, hy_11.2⟩
    exact K (up (up (up c 41 0 0) 41 0 1) 42 1 y_11) 0 hI_14 (fun a j hm => (up_b (Decidable.or_iff_not_imp_left.mpr (fun h1 h2 => hm (Or.inr (Or.inl (Decidable.not_not.mp h1)))))).trans ((up_b (Decidable.or_iff_not_imp_left.mpr (fun h1 h2 => hm (Or.inl ⟨Decidable.not_not.mp h1, h2⟩)))).trans (up_b (Decidable.or_iff_not_imp_left.mpr (fun h1 h2 => hm (Or.inl ⟨Decidable.not_not.mp h1, h2⟩)))))) ⟨by decide, by decide⟩
  · refine v_ic_lt_f (t := 14) c_146_2 rfl ⟨by decide, (Int.not_lt.mp h_9), ha1.2⟩ (q_iload_n c_146_5 rfl (q_iload_n c_146_6 rfl ?_))
    by_cases h_15 : a1 > 1
    · refine v_ic_gt_t (t := 14) c_146_7 rfl ⟨by decide, h_15, ha1.2⟩ (q_iconst c_146_14 (v_zret c_146_15 rfl (by decide) (bk_inl (q_iconst c_232_12 (q_iconst c_232_13 (v_cv c_232_14 km_8_203 rfl rfl (nb_ rfl) ⟨⟨rfl, rfl⟩, nb_ rfl, rfl⟩ (nb_ rfl) (nb_ rfl) (q_iload_n c_145_0 rfl ?_)))))))
      refine v_if_ne_f (t := 26) c_145_1 rfl (by decide) (q_aload_n c_145_4 rfl (v_gi (z := 0) (v := 0) c_145_5 kf_8_3 rfl (nb_ rfl) rfl rfl (up_e rfl) (v_if_ne_f (t := 26) c_145_8 rfl (by decide) (q_aload_n c_145_11 rfl (q_iload_n c_145_12 rfl (v_pi (z := 0) c_145_13 kf_8_3 rfl (nb_ rfl) rfl rfl rfl (by decide) (q_aload_n c_145_16 rfl ?_)))))))
      refine v_gr (t := 42) c_145_17 kf_8_7 rfl (nb_ rfl) rfl (q_iload_n c_145_20 rfl (q_dup2 c_145_21 ⟨rfl, rfl⟩ ?_))
      have h_16 := ir_42 hI 1
      refine v_ia (v := c 42 1) c_145_22 rfl (by decide) (by decide) (by decide) ((up_c (nn rfl)).trans (up_c (nn rfl))) (q_iconst c_145_23 (v_iadd (v := c 42 1 + 1) c_145_24 rfl (v_nrm (fun y_17 hy_17 => (v_is c_145_25 rfl (by decide) (by decide) (by decide) (q_aload_n c_145_26 rfl (v_gi (z := 0) (v := 1) c_145_27 kf_8_3 rfl (nb_ rfl) rfl rfl ((up_c (nn rfl)).trans (up_e rfl)) (v_if_ne_t (t := 37) c_145_30 rfl (by decide) ?_))))))))
      refine q_iconst c_145_37 (v_zret c_145_38 rfl (by decide) (bk_inl (v_if_ne_f (t := 22) c_232_17 rfl (by decide) (q_iconst c_232_20 (q_iret c_232_21 rfl ?_)))))
      have hI_18 := iw_41_0 (v := 0) hI ⟨by decide, by decide⟩
      have hI_19 := iw_41_0 (v := 1) hI_18 ⟨by decide, by decide⟩
      have hI_20 := iw_42 (j := 1) (v := y_17) hI_19 ⟨hy_17.1, hy_17.2⟩
      exact K (up (up (up c 41 0 0) 41 0 1) 42 1 y_17) 0 hI_20 (fun a j hm => (up_b (Decidable.or_iff_not_imp_left.mpr (fun h1 h2 => hm (Or.inr (Or.inl (Decidable.not_not.mp h1)))))).trans ((up_b (Decidable.or_iff_not_imp_left.mpr (fun h1 h2 => hm (Or.inl ⟨Decidable.not_not.mp h1, h2⟩)))).trans (up_b (Decidable.or_iff_not_imp_left.mpr (fun h1 h2 => hm (Or.inl ⟨Decidable.not_not.mp h1, h2⟩)))))) ⟨by decide, by decide⟩
    · refine v_ic_gt_f (t := 14) c_146_7 rfl ⟨ha1.1, (Int.not_lt.mp h_15), by decide⟩ (q_iconst c_146_10 (q_goto (t := 15) c_146_11 rfl (v_zret c_146_15 rfl (by decide) (bk_inl (q_iconst c_232_12 (q_iconst c_232_13 (v_cv c_232_14 km_8_203 rfl rfl (nb_ rfl) ⟨⟨rfl, rfl⟩, nb_ rfl, rfl⟩ (nb_ rfl) (nb_ rfl) ?_)))))))
      refine q_iload_n c_145_0 rfl (v_if_ne_t (t := 26) c_145_1 rfl (by decide) (q_aload_n c_145_26 rfl (v_gi (z := 0) (v := 0) c_145_27 kf_8_3 rfl (nb_ rfl) rfl rfl (up_e rfl) (v_if_ne_f (t := 37) c_145_30 rfl (by decide) (q_iconst c_145_33 (q_goto (t := 38) c_145_34 rfl (v_zret c_145_38 rfl (by decide) ?_)))))))
      refine bk_inl (v_if_ne_t (t := 22) c_232_17 rfl (by decide) (q_aload_n c_232_22 rfl ?_))
      have hI_21 := iw_41_0 (v := 0) hI ⟨by decide, by decide⟩
      refine v_cv c_232_23 km_8_317 rfl rfl (nb_ rfl) ⟨⟨rfl, rfl⟩, nb_ rfl, rfl⟩ (nb_ rfl) (nb_ rfl) (s_186 hI_21 (fun c_22 hI_23 hF_24 => (bk_inl (q_iconst c_232_26 (q_istore_n c_232_27 (nb_ rfl) (q_iconst c_232_28 (q_istore_n c_232_29 (nb_ rfl) (q_iconst c_232_30 (q_istore c_232_31 (nb_ rfl) ?_)))))))))
      refine Wp_ls [(0, .ref 41), (1, vi a1), (2, vi (-1)), (3, vi (-1)), (4, vi 0)] (lsub_cons rfl (lsub_cons rfl (lsub_cons rfl (lsub_cons rfl (lsub_cons rfl lsub_nil))))) ?_
      exact (s_232_l (sc := sc) (d := d) hI ha1 K 12) c_22 (-1) (-1) 0 hI_23 (fun a j hm => (hF_24 a j (fun h => hm (Or.inr (Or.inr h)))).trans (up_b (Decidable.or_iff_not_imp_left.mpr (fun h1 h2 => hm (Or.inl ⟨Decidable.not_not.mp h1, h2⟩))))) ⟨by decide, by decide⟩ ⟨by decide, by decide⟩ ⟨by decide, by decide⟩ (by omega)


set_option maxRecDepth 100000 in
set_option maxHeartbeats 4000000 in
theorem s_235 {sc : List Int32} {e : Int} {d u P Q : Nat} {c : ME} {a0 : Int} {a1 : Int} {a2 : Int} {a3 : Int} {Z : AR → Prop} (hI : Iv u e P Q c) (ha0 : 0 ≤ a0 ∧ a0 ≤ 1) (ha1 : 0 ≤ a1 ∧ a1 ≤ 1) (ha2 : 0 ≤ a2 ∧ a2 ≤ 99) (ha3 : 0 ≤ a3 ∧ a3 ≤ 99) (K : ∀ (y : Int), 0 ≤ y ∧ y ≤ 99 → Z (.inl (some (vi y)), Wd P Q P P c, 0, 0)) : Wp sc (d + 7) 235 0 [(0, vi a0), (1, vi a1), (2, vi a2), (3, vi a3)] [] (Wd P Q P P c) 0 0 Z := by
  have hP := iv_P hI
  have hQ := iv_Q hI
  refine q_iload_n c_235_0 rfl ?_
  by_cases h_1 : a0 ≠ 0
  · refine v_if_ne_t (t := 18) c_235_1 rfl ⟨h_1, ⟨(Int.le_trans (by decide) ha0.1), (Int.le_trans ha0.2 (by decide))⟩, by decide, by decide⟩ (q_iload_n c_235_18 rfl (q_iconst c_235_19 ?_))
    by_cases h_2 : a1 ≠ 1
    · refine v_ic_ne_t (t := 29) c_235_20 rfl ⟨h_2, ⟨(Int.le_trans (by decide) ha1.1), (Int.le_trans ha1.2 (by decide))⟩, by decide, by decide⟩ (q_iload_n c_235_29 rfl (q_iret c_235_30 rfl ?_))
      exact K a3 ha3
    · refine v_ic_ne_f (t := 29) c_235_20 rfl (Decidable.not_not.mp h_2) (q_iload_n c_235_23 rfl (q_iconst c_235_24 (v_idiv (v := (a3 / 2)) c_235_25 (by omega) rfl (q_goto (t := 30) c_235_26 rfl (q_iret c_235_30 rfl ?_)))))
      exact K (a3 / 2) ⟨by first | (clear ha0 ha1 ha2 h_2 h_1; omega) | omega, by first | (clear ha0 ha1 ha2 h_2 h_1; omega) | omega⟩
  · refine v_if_ne_f (t := 18) c_235_1 rfl (Decidable.not_not.mp h_1) (q_iload_n c_235_4 rfl ?_)
    by_cases h_3 : a1 ≠ 0
    · refine v_if_ne_t (t := 14) c_235_5 rfl ⟨h_3, ⟨(Int.le_trans (by decide) ha1.1), (Int.le_trans ha1.2 (by decide))⟩, by decide, by decide⟩ (q_iload_n c_235_14 rfl (q_goto (t := 30) c_235_15 rfl (q_iret c_235_30 rfl ?_)))
      exact K a2 ha2
    · refine v_if_ne_f (t := 14) c_235_5 rfl (Decidable.not_not.mp h_3) (q_iload_n c_235_8 rfl (q_iconst c_235_9 (v_idiv (v := (a2 / 2)) c_235_10 (by omega) rfl (q_goto (t := 30) c_235_11 rfl (q_iret c_235_30 rfl ?_)))))
      exact K (a2 / 2) ⟨by omega, by omega⟩

set_option maxRecDepth 100000 in
set_option maxHeartbeats 4000000 in
theorem s_236_l {sc : List Int32} {e : Int} {d u P Q : Nat} {c : ME} {a1 : Int} {a2 : Int} {a3 : Int} {Z : AR → Prop} (hI : Iv u e P Q c) (ha1 : (-2147483648) ≤ a1 ∧ a1 ≤ 2147483647) (ha2 : (-2147483648) ≤ a2 ∧ a2 ≤ 2147483647) (ha3 : (-2147483648) ≤ a3 ∧ a3 ≤ 2147483647) (K : ∀ (c2 : ME) (y : Int), Iv u e P Q c2 → (∀ (a : Nat) (j : Int), ¬ ((a = 41 ∧ j = 0) ∨ a = 42) → c2 a j = c a j) → (-2147483648) ≤ y ∧ y ≤ 2147483647 → Z (.inl (some (vi y)), Wd P Q P P c2, 0, 0)) : ∀ n : Nat, (∀ (c2 : ME) (v4 : Int) (v5 : Int) (v6 : Int), Iv u e P Q c2 → (∀ (a : Nat) (j : Int), ¬ ((a = 41 ∧ j = 0) ∨ a = 42) → c2 a j = c a j) → (-2147483648) ≤ v4 ∧ v4 ≤ 2147483647 → (-1) ≤ v5 ∧ v5 ≤ 11 → 0 ≤ v6 ∧ v6 ≤ 4 → ((v5 = (-1)) ∨ (v5 = 0) ∨ (v5 = 1) ∨ (v5 = 10) ∨ (v5 = 11)) → ((a1 ≥ 0 ∧ a1 ≤ 99)) → ((a2 ≥ 0 ∧ a2 ≤ 99)) → 9 - 2 * v6 < (n : Int) → Wp sc (d + 8) 236 59 [(0, .ref 41), (1, vi a1), (2, vi a2), (3, vi a3), (4, vi v4), (5, vi v5), (6, vi v6)] [] (Wd P Q P P c2) 0 0 Z) := by
  intro n
  induction n with
  | zero => exact (by intro c2 v4 v5 v6 hI2 hF hv4 hv5 hv6 hx0 hx1 hx2 hm9; have hP := iv_P hI; have hQ := iv_Q hI; exfalso; omega)
  | succ n ih =>
    have hP := iv_P hI
    have hQ := iv_Q hI
    intro c2 v4 v5 v6 hI2 hF hv4 hv5 hv6 hx0 hx1 hx2 hm9
    refine q_iload c_236_59 rfl (q_iconst c_236_61 ?_)
    by_cases h_1 : v6 ≥ 4
    · refine v_ic_ge_t (t := 156) c_236_62 rfl ⟨by decide, h_1, (Int.le_trans hv6.2 (by decide))⟩ (q_iload_n c_236_156 rfl ?_)
      by_cases h_2 : a3 ≠ 0
      · refine v_if_ne_t (t := 165) c_236_157 rfl ⟨h_2, ⟨ha3.1, ha3.2⟩, by decide, by decide⟩ (q_iload_n c_236_165 rfl (q_iconst c_236_166 ?_))
        by_cases h_3 : a3 ≠ 1
        · refine v_ic_ne_t (t := 175) c_236_167 rfl ⟨h_3, ⟨ha3.1, ha3.2⟩, by decide, by decide⟩ (q_iload c_236_175 rfl (q_iconst c_236_177 ?_))
          by_cases h_4 : v5 ≠ (-1)
          · refine v_ic_ne_t (t := 185) c_236_178 rfl ⟨h_4, ⟨(Int.le_trans (by decide) hv5.1), (Int.le_trans hv5.2 (by decide))⟩, by decide, by decide⟩ (q_iload c_236_185 rfl (v_bip c_236_187 (by decide) (v_idiv (v := (v5 / 10)) c_236_189 (by omega) rfl (q_iload c_236_190 rfl (v_bip c_236_192 (by decide) (v_irem (v := (v5 % 10)) c_236_194 (by omega) rfl (q_iload_n c_236_195 rfl ?_)))))))
            refine q_iload_n c_236_196 rfl (q_call c_236_197 rfl rfl rfl (s_235 (a0 := (v5 / 10)) (a1 := (v5 % 10)) (a2 := a1) (a3 := a2) hI2 (show 0 ≤ (v5 / 10) ∧ (v5 / 10) ≤ 1 from ⟨by omega, by first | (clear ha1 ha2 ha3 hv4 hv6 hx1 hx2 h_1 hx0 h_2 h_3 h_4; omega) | omega⟩) (show 0 ≤ (v5 % 10) ∧ (v5 % 10) ≤ 1 from ⟨by first | (clear ha1 ha2 ha3 hv4 hv5 hv6 hx1 hx2 h_1 hx0 h_2 h_3 h_4; omega) | omega, by omega⟩) (show 0 ≤ a1 ∧ a1 ≤ 99 from ⟨by first | (clear ha1 ha2 ha3 hv4 hv5 hv6 hx2 h_1 hx0 h_2 h_3 h_4; omega) | omega, by first | (clear ha1 ha2 ha3 hv4 hv5 hv6 hx2 h_1 hx0 h_2 h_3 h_4; omega) | omega⟩) (show 0 ≤ a2 ∧ a2 ≤ 99 from ⟨by first | (clear ha1 ha2 ha3 hv4 hv5 hv6 hx1 h_1 hx0 h_2 h_3 h_4; omega) | omega, by first | (clear ha1 ha2 ha3 hv4 hv5 hv6 hx1 h_1 hx0 h_2 h_3 h_4; omega) | omega⟩) (fun y_5 hy_5 => (bk_inl (q_iload c_236_200 rfl (v_bip c_236_202 (by decide) (v_irem (v := (v5 % 10)) c_236_204 (by omega) rfl (q_iload c_236_205 rfl (v_bip c_236_207 (by decide) ?_)))))))))
            refine v_idiv (v := (v5 / 10)) c_236_209 (by omega) rfl (q_iload_n c_236_210 rfl (q_iload_n c_236_211 rfl (q_call c_236_212 rfl rfl rfl (s_235 (a0 := (v5 % 10)) (a1 := (v5 / 10)) (a2 := a1) (a3 := a2) hI2 (show 0 ≤ (v5 % 10) ∧ (v5 % 10) ≤ 1 from ⟨by first | (clear ha1 ha2 ha3 hv4 hv5 hv6 hx1 hx2 h_1 hx0 h_2 h_3 h_4; omega) | omega, by omega⟩) (show 0 ≤ (v5 / 10) ∧ (v5 / 10) ≤ 1 from ⟨by omega, by first | (clear ha1 ha2 ha3 hv4 hv6 hx1 hx2 h_1 hx0 h_2 h_3 h_4; omega) | omega⟩) (show 0 ≤ a1 ∧ a1 ≤ 99 from ⟨by first | (clear ha1 ha2 ha3 hv4 hv5 hv6 hx2 h_1 hx0 h_2 h_3 h_4; omega) | omega, by first | (clear ha1 ha2 ha3 hv4 hv5 hv6 hx2 h_1 hx0 h_2 h_3 h_4; omega) | omega⟩) (show 0 ≤ a2 ∧ a2 ≤ 99 from ⟨by first | (clear ha1 ha2 ha3 hv4 hv5 hv6 hx1 h_1 hx0 h_2 h_3 h_4; omega) | omega, by first | (clear ha1 ha2 ha3 hv4 hv5 hv6 hx1 h_1 hx0 h_2 h_3 h_4; omega) | omega⟩) (fun y_6 hy_6 => (bk_inl (v_iadd (v := y_5 + y_6) c_236_215 rfl (q_iret c_236_216 rfl ?_))))))))
            exact K c2 (y_5 + y_6) hI2 (fun a j hm => hF a j hm) ⟨by first | (clear ha1 ha2 ha3 hv4 hv5 hv6 hx1 hx2 h_1 hx0 h_2 h_3 h_4; omega) | omega, by first | (clear ha1 ha2 ha3 hv4 hv5 hv6 hx1 hx2 h_1 hx0 h_2 h_3 h_4; omega) | omega⟩
          · refine v_ic_ne_f (t := 185) c_236_178 rfl (Decidable.not_not.mp h_4) (q_iconst c_236_181 (q_goto (t := 216) c_236_182 rfl (q_iret c_236_216 rfl ?_)))
            exact K c2 0 hI2 (fun a j hm => hF a j hm) ⟨by decide, by decide⟩
        · refine v_ic_ne_f (t := 175) c_236_167 rfl (Decidable.not_not.mp h_3) (q_iload c_236_170 rfl (q_goto (t := 216) c_236_172 rfl (q_iret c_236_216 rfl ?_)))
          exact K c2 v5 hI2 (fun a j hm => hF a j hm) ⟨(Int.le_trans (by decide) hv5.1), (Int.le_trans hv5.2 (by decide))⟩
      · refine v_if_ne_f (t := 165) c_236_157 rfl (Decidable.not_not.mp h_2) (q_iload c_236_160 rfl (q_goto (t := 216) c_236_162 rfl (q_iret c_236_216 rfl ?_)))
        exact K c2 v4 hI2 (fun a j hm => hF a j hm) hv4
    · refine v_ic_ge_f (t := 156) c_236_62 rfl ⟨(Int.le_trans (by decide) hv6.1), (Int.not_le.mp h_1), by decide⟩ (q_iload c_236_65 rfl (q_iconst c_236_67 (v_idiv (v := (v6 / 2)) c_236_68 (by omega) rfl (q_istore c_236_69 (nb_ rfl) (q_iload c_236_71 rfl (q_iconst c_236_73 (v_irem (v := (v6 % 2)) c_236_74 (by omega) rfl ?_)))))))
      refine q_istore c_236_75 (nb_ rfl) (q_iconst c_236_77 (q_iload c_236_78 rfl (v_isub (v := 1 - (v6 / 2)) c_236_80 rfl (q_iload c_236_81 rfl (q_iload_n c_236_83 rfl (q_iload_n c_236_84 rfl (q_call c_236_85 rfl rfl rfl (s_235 (a0 := 1 - (v6 / 2)) (a1 := (v6 % 2)) (a2 := a1) (a3 := a2) hI2 (show 0 ≤ 1 - (v6 / 2) ∧ 1 - (v6 / 2) ≤ 1 from ⟨by first | (clear ha1 ha2 ha3 hv4 hv5 hv6 hx1 hx2 hx0; omega) | omega, by first | (clear ha1 ha2 ha3 hv4 hv5 hx1 hx2 h_1 hx0; omega) | omega⟩) (show 0 ≤ (v6 % 2) ∧ (v6 % 2) ≤ 1 from ⟨by first | (clear ha1 ha2 ha3 hv4 hv5 hv6 hx1 hx2 h_1 hx0; omega) | omega, by first | (clear ha1 ha2 ha3 hv4 hv5 hv6 hx1 hx2 h_1 hx0; omega) | omega⟩) (show 0 ≤ a1 ∧ a1 ≤ 99 from ⟨by first | (clear ha1 ha2 ha3 hv4 hv5 hv6 hx2 h_1 hx0; omega) | omega, by first | (clear ha1 ha2 ha3 hv4 hv5 hv6 hx2 h_1 hx0; omega) | omega⟩) (show 0 ≤ a2 ∧ a2 ≤ 99 from ⟨by first | (clear ha1 ha2 ha3 hv4 hv5 hv6 hx1 h_1 hx0; omega) | omega, by first | (clear ha1 ha2 ha3 hv4 hv5 hv6 hx1 h_1 hx0; omega) | omega⟩) (fun y_7 hy_7 => ?_)))))))))
      refine bk_inl (q_iload c_236_88 rfl (q_iload c_236_90 rfl (q_iload_n c_236_92 rfl (q_iload_n c_236_93 rfl (q_call c_236_94 rfl rfl rfl (s_235 (a0 := (v6 / 2)) (a1 := (v6 % 2)) (a2 := a1) (a3 := a2) hI2 (show 0 ≤ (v6 / 2) ∧ (v6 / 2) ≤ 1 from ⟨by first | (clear ha1 ha2 ha3 hv4 hv5 hx1 hx2 h_1 hx0; omega) | omega, by first | (clear ha1 ha2 ha3 hv4 hv5 hv6 hx1 hx2 hx0; omega) | omega⟩) (show 0 ≤ (v6 % 2) ∧ (v6 % 2) ≤ 1 from ⟨by first | (clear ha1 ha2 ha3 hv4 hv5 hv6 hx1 hx2 h_1 hx0; omega) | omega, by first | (clear ha1 ha2 ha3 hv4 hv5 hv6 hx1 hx2 h_1 hx0; omega) | omega⟩) (show 0 ≤ a1 ∧ a1 ≤ 99 from ⟨by first | (clear ha1 ha2 ha3 hv4 hv5 hv6 hx2 h_1 hx0; omega) | omega, by first | (clear ha1 ha2 ha3 hv4 hv5 hv6 hx2 h_1 hx0; omega) | omega⟩) (show 0 ≤ a2 ∧ a2 ≤ 99 from ⟨by first | (clear ha1 ha2 ha3 hv4 hv5 hv6 hx1 h_1 hx0; omega) | omega, by first | (clear ha1 ha2 ha3 hv4 hv5 hv6 hx1 h_1 hx0; omega) | omega⟩) (fun y_8 hy_8 => (bk_inl ?_))))))))
      by_cases h_9 : y_7 > y_8
      · refine v_ic_gt_t (t := 150) c_236_97 rfl ⟨(Int.le_trans (by decide) hy_8.1), h_9, (Int.le_trans hy_7.2 (by decide))⟩ (v_iinc (v := v6 + 1) c_236_150 rfl (nb_ rfl) rfl (q_goto (t := 59) c_236_153 rfl (Wp_ls [(0, .ref 41), (1, vi a1), (2, vi a2), (3, vi a3), (4, vi v4), (5, vi v5), (6, vi (v6 + 1))] (lsub_cons rfl (lsub_cons rfl (lsub_cons rfl (lsub_cons rfl (lsub_cons rfl (lsub_cons rfl (lsub_cons rfl lsub_nil))))))) ?_)))
        exact ih c2 v4 v5 (v6 + 1) hI2 (fun a j hm => hF a j hm) hv4 hv5 ⟨by first | exact rgp_l hv6.1 (by decide) | omega, by first | exact q_121241f94 h_1 | omega⟩ (by omega) ⟨by first | (clear ha1 ha2 ha3 hv4 hv5 hv6 hx2 h_1 h_9 hx0; omega) | omega, by first | (clear ha1 ha2 ha3 hv4 hv5 hv6 hx2 h_1 h_9 hx0; omega) | omega⟩ ⟨by first | (clear ha1 ha2 ha3 hv4 hv5 hv6 hx1 h_1 h_9 hx0; omega) | omega, by first | (clear ha1 ha2 ha3 hv4 hv5 hv6 hx1 h_1 h_9 hx0; omega) | omega⟩ (by omega)
      · refine v_ic_gt_f (t := 150) c_236_97 rfl ⟨(Int.le_trans (by decide) hy_7.1), (Int.not_lt.mp h_9), (Int.le_trans hy_8.2 (by decide))⟩ (q_iconst c_236_100 (q_iload c_236_101 rfl (v_isub (v := 1 - (v6 % 2)) c_236_103 rfl (q_iload c_236_104 rfl (q_iload_n c_236_106 rfl (q_iload_n c_236_107 rfl (q_call c_236_108 rfl rfl rfl (s_235 (a0 := 1 - (v6 % 2)) (a1 := (v6 / 2)) (a2 := a1) (a3 := a2) hI2 (show 0 ≤ 1 - (v6 % 2) ∧ 1 - (v6 % 2) ≤ 1 from ⟨by first | (clear ha1 ha2 ha3 hv4 hv5 hv6 hx1 hx2 h_1 h_9 hx0; omega) | omega, by first | (clear ha1 ha2 ha3 hv4 hv5 hv6 hx1 hx2 h_1 h_9 hx0; omega) | omega⟩) (show 0 ≤ (v6 / 2) ∧ (v6 / 2) ≤ 1 from ⟨by first | (clear ha1 ha2 ha3 hv4 hv5 hx1 hx2 h_1 h_9 hx0; omega) | omega, by first | (clear ha1 ha2 ha3 hv4 hv5 hv6 hx1 hx2 h_9 hx0; omega) | omega⟩) (show 0 ≤ a1 ∧ a1 ≤ 99 from ⟨by first | (clear ha1 ha2 ha3 hv4 hv5 hv6 hx2 h_1 h_9 hx0; omega) | omega, by first | (clear ha1 ha2 ha3 hv4 hv5 hv6 hx2 h_1 h_9 hx0; omega) | omega⟩) (show 0 ≤ a2 ∧ a2 ≤ 99 from ⟨by first | (clear ha1 ha2 ha3 hv4 hv5 hv6 hx1 h_1 h_9 hx0; omega) | omega, by first | (clear ha1 ha2 ha3 hv4 hv5 hv6 hx1 h_1 h_9 hx0; omega) | omega⟩) (fun y_10 hy_10 => ?_)))))))))
        refine bk_inl (q_iload c_236_111 rfl (q_iload c_236_113 rfl (q_iload_n c_236_115 rfl (q_iload_n c_236_116 rfl (q_call c_236_117 rfl rfl rfl (s_235 (a0 := (v6 % 2)) (a1 := (v6 / 2)) (a2 := a1) (a3 := a2) hI2 (show 0 ≤ (v6 % 2) ∧ (v6 % 2) ≤ 1 from ⟨by first | (clear ha1 ha2 ha3 hv4 hv5 hv6 hx1 hx2 h_1 h_9 hx0; omega) | omega, by first | (clear ha1 ha2 ha3 hv4 hv5 hv6 hx1 hx2 h_1 h_9 hx0; omega) | omega⟩) (show 0 ≤ (v6 / 2) ∧ (v6 / 2) ≤ 1 from ⟨by first | (clear ha1 ha2 ha3 hv4 hv5 hx1 hx2 h_1 h_9 hx0; omega) | omega, by first | (clear ha1 ha2 ha3 hv4 hv5 hv6 hx1 hx2 h_9 hx0; omega) | omega⟩) (show 0 ≤ a1 ∧ a1 ≤ 99 from ⟨by first | (clear ha1 ha2 ha3 hv4 hv5 hv6 hx2 h_1 h_9 hx0; omega) | omega, by first | (clear ha1 ha2 ha3 hv4 hv5 hv6 hx2 h_1 h_9 hx0; omega) | omega⟩) (show 0 ≤ a2 ∧ a2 ≤ 99 from ⟨by first | (clear ha1 ha2 ha3 hv4 hv5 hv6 hx1 h_1 h_9 hx0; omega) | omega, by first | (clear ha1 ha2 ha3 hv4 hv5 hv6 hx1 h_1 h_9 hx0; omega) | omega⟩) (fun y_11 hy_11 => (bk_inl ?_))))))))
        by_cases h_12 : y_10 ≤ y_11
        · refine v_ic_le_t (t := 126) c_236_120 rfl ⟨(Int.le_trans (by decide) hy_10.1), h_12, (Int.le_trans hy_11.2 (by decide))⟩ (v_iincx c_236_126 rfl (by decide) (fun y_13 hy_13 => (q_iload c_236_129 rfl (q_iconst c_236_131 ?_))))
          by_cases h_14 : v5 ≠ (-1)
          · refine v_ic_ne_t (t := 146) c_236_132 rfl ⟨h_14, ⟨(Int.le_trans (by decide) hv5.1), (Int.le_trans hv5.2 (by decide))⟩, by decide, by decide⟩ (q_iload c_236_146 rfl (q_istore c_236_148 (nb_ rfl) (v_iinc (v := v6 + 1) c_236_150 rfl (nb_ rfl) rfl (Wp_ls [(6, vi (v6 + 1)), (5, vi v5), (4, vi y_13), (8, vi (v6 % 2)), (7, vi (v6 / 2)), (0, .ref 41), (1, vi a1), (2, vi a2), (3, vi a3)] (lsub_cons rfl (lsub_cons rfl (lsub_cons rfl (lsub_cons rfl (lsub_cons rfl (lsub_cons rfl (lsub_cons rfl (lsub_cons rfl (lsub_cons rfl lsub_nil))))))))) (q_goto (t := 59) c_236_153 rfl (Wp_ls [(0, .ref 41), (1, vi a1), (2, vi a2), (3, vi a3), (4, vi y_13), (5, vi v5), (6, vi (v6 + 1))] (lsub_cons rfl (lsub_cons rfl (lsub_cons rfl (lsub_cons rfl (lsub_cons rfl (lsub_cons rfl (lsub_cons rfl lsub_nil))))))) ?_))))))
            exact ih c2 y_13 v5 (v6 + 1) hI2 (fun a j hm => hF a j hm) hy_13 hv5 ⟨by first | exact rgp_l hv6.1 (by decide) | omega, by first | exact q_121241f94 h_1 | omega⟩ (by omega) ⟨by first | (clear ha1 ha2 ha3 hv4 hv5 hv6 hx2 h_1 h_9 h_12 hx0 h_14; omega) | omega, by first | (clear ha1 ha2 ha3 hv4 hv5 hv6 hx2 h_1 h_9 h_12 hx0 h_14; omega) | omega⟩ ⟨by first | (clear ha1 ha2 ha3 hv4 hv5 hv6 hx1 h_1 h_9 h_12 hx0 h_14; omega) | omega, by first | (clear ha1 ha2 ha3 hv4 hv5 hv6 hx1 h_1 h_9 h_12 hx0 h_14; omega) | omega⟩ (by omega)
          · refine v_ic_ne_f (t := 146) c_236_132 rfl (Decidable.not_not.mp h_14) (v_bip c_236_135 (by decide) (q_iload c_236_137 rfl (v_imul (v := 10 * (v6 / 2)) c_236_139 rfl (q_iload c_236_140 rfl (v_iadd (v := (v6 % 2) + 10 * (v6 / 2)) c_236_142 (by first | exact q_022711c41 | omega) (q_goto (t := 148) c_236_143 rfl (q_istore c_236_148 (nb_ rfl) ?_)))))))
            refine v_iinc (v := v6 + 1) c_236_150 rfl (nb_ rfl) rfl (Wp_ls [(6, vi (v6 + 1)), (5, vi ((v6 % 2) + 10 * (v6 / 2))), (4, vi y_13), (8, vi (v6 % 2)), (7, vi (v6 / 2)), (0, .ref 41), (1, vi a1), (2, vi a2), (3, vi a3)] (lsub_cons rfl (lsub_cons rfl (lsub_cons rfl (lsub_cons rfl (lsub_cons rfl (lsub_cons rfl (lsub_cons rfl (lsub_cons rfl (lsub_cons rfl lsub_nil))))))))) (q_goto (t := 59) c_236_153 rfl (Wp_ls [(0, .ref 41), (1, vi a1), (2, vi a2), (3, vi a3), (4, vi y_13), (5, vi ((v6 % 2) + 10 * (v6 / 2))), (6, vi (v6 + 1))] (lsub_cons rfl (lsub_cons rfl (lsub_cons rfl (lsub_cons rfl (lsub_cons rfl (lsub_cons rfl (lsub_cons rfl lsub_nil))))))) ?_)))
            exact ih c2 y_13 ((v6 % 2) + 10 * (v6 / 2)) (v6 + 1) hI2 (fun a j hm => hF a j hm) hy_13 ⟨by first | (clear ha1 ha2 ha3 hv4 hv5 hx1 hx2 h_1 h_9 h_12 h_14 hx0; omega) | omega, by first | (clear ha1 ha2 ha3 hv4 hv5 hv6 hx1 hx2 h_9 h_12 h_14 hx0; omega) | omega⟩ ⟨by first | exact rgp_l hv6.1 (by decide) | omega, by first | exact q_121241f94 h_1 | omega⟩ (by omega) ⟨by first | (clear ha1 ha2 ha3 hv4 hv5 hv6 hx2 h_1 h_9 h_12 h_14 hx0; omega) | omega, by first | (clear ha1 ha2 ha3 hv4 hv5 hv6 hx2 h_1 h_9 h_12 h_14 hx0; omega) | omega⟩ ⟨by first | (clear ha1 ha2 ha3 hv4 hv5 hv6 hx1 h_1 h_9 h_12 h_14 hx0; omega) | omega, by first | (clear ha1 ha2 ha3 hv4 hv5 hv6 hx1 h_1 h_9 h_12 h_14 hx0; omega) | omega⟩ (by omega)
        · refine v_ic_le_f (t := 126) c_236_120 rfl ⟨(Int.le_trans (by decide) hy_11.1), (Int.not_le.mp h_12), (Int.le_trans hy_10.2 (by decide))⟩ (q_goto (t := 150) c_236_123 rfl (v_iinc (v := v6 + 1) c_236_150 rfl (nb_ rfl) rfl (q_goto (t := 59) c_236_153 rfl (Wp_ls [(0, .ref 41), (1, vi a1), (2, vi a2), (3, vi a3), (4, vi v4), (5, vi v5), (6, vi (v6 + 1))] (lsub_cons rfl (lsub_cons rfl (lsub_cons rfl (lsub_cons rfl (lsub_cons rfl (lsub_cons rfl (lsub_cons rfl lsub_nil))))))) ?_))))
          exact ih c2 v4 v5 (v6 + 1) hI2 (fun a j hm => hF a j hm) hv4 hv5 ⟨by first | exact rgp_l hv6.1 (by decide) | omega, by first | exact q_121241f94 h_1 | omega⟩ (by omega) ⟨by first | (clear ha1 ha2 ha3 hv4 hv5 hv6 hx2 h_1 h_9 h_12 hx0; omega) | omega, by first | (clear ha1 ha2 ha3 hv4 hv5 hv6 hx2 h_1 h_9 h_12 hx0; omega) | omega⟩ ⟨by first | (clear ha1 ha2 ha3 hv4 hv5 hv6 hx1 h_1 h_9 h_12 hx0; omega) | omega, by first | (clear ha1 ha2 ha3 hv4 hv5 hv6 hx1 h_1 h_9 h_12 hx0; omega) | omega⟩ (by omega)
set_option maxRecDepth 100000 in
set_option maxHeartbeats 4000000 in
theorem s_236 {sc : List Int32} {e : Int} {d u P Q : Nat} {c : ME} {a1 : Int} {a2 : Int} {a3 : Int} {Z : AR → Prop} (hI : Iv u e P Q c) (ha1 : (-2147483648) ≤ a1 ∧ a1 ≤ 2147483647) (ha2 : (-2147483648) ≤ a2 ∧ a2 ≤ 2147483647) (ha3 : (-2147483648) ≤ a3 ∧ a3 ≤ 2147483647) (K : ∀ (c2 : ME) (y : Int), Iv u e P Q c2 → (∀ (a : Nat) (j : Int), ¬ ((a = 41 ∧ j = 0) ∨ a = 42) → c2 a j = c a j) → (-2147483648) ≤ y ∧ y ≤ 2147483647 → Z (.inl (some (vi y)), Wd P Q P P c2, 0, 0)) : Wp sc (d + 8) 236 0 [(0, .ref 41), (1, vi a1), (2, vi a2), (3, vi a3)] [] (Wd P Q P P c) 0 0 Z := by
  have hP := iv_P hI
  have hQ := iv_Q hI
  refine q_aload_n c_236_0 rfl (q_iconst c_236_1 (v_pi (z := 0) c_236_2 kf_8_3 rfl (nb_ rfl) rfl rfl rfl (by decide) (q_aload_n c_236_5 rfl (q_iload_n c_236_6 rfl (q_iconst c_236_7 (v_bip c_236_8 (by decide) (q_call c_236_10 rfl rfl rfl ?_)))))))
  refine q_iload_n c_146_0 rfl (q_iload_n c_146_1 rfl ?_)
  by_cases h_15 : a1 < 0
  · refine v_ic_lt_t (t := 14) c_146_2 rfl ⟨ha1.1, h_15, by decide⟩ (q_iconst c_146_14 (v_zret c_146_15 rfl (by decide) (bk_inl (v_if_eq_t (t := 39) c_236_13 rfl (by decide) (q_iconst c_236_39 (q_iconst c_236_40 (q_iconst c_236_41 ?_)))))))
    refine v_cv c_236_42 km_8_203 rfl rfl (nb_ rfl) ⟨⟨rfl, rfl⟩, nb_ rfl, rfl⟩ (nb_ rfl) (nb_ rfl) (q_iload_n c_145_0 rfl (v_if_ne_f (t := 26) c_145_1 rfl (by decide) (q_aload_n c_145_4 rfl (v_gi (z := 0) (v := 0) c_145_5 kf_8_3 rfl (nb_ rfl) rfl rfl (up_e rfl) (v_if_ne_f (t := 26) c_145_8 rfl (by decide) (q_aload_n c_145_11 rfl (q_iload_n c_145_12 rfl ?_)))))))
    refine v_pi (z := 0) c_145_13 kf_8_3 rfl (nb_ rfl) rfl rfl rfl (by decide) (q_aload_n c_145_16 rfl (v_gr (t := 42) c_145_17 kf_8_7 rfl (nb_ rfl) rfl (q_iload_n c_145_20 rfl (q_dup2 c_145_21 ⟨rfl, rfl⟩ ?_))))
    have h_16 := ir_42 hI 1
    refine v_ia (v := c 42 1) c_145_22 rfl (by decide) (by decide) (by decide) ((up_c (nn rfl)).trans (up_c (nn rfl))) (q_iconst c_145_23 (v_iadd (v := c 42 1 + 1) c_145_24 rfl (v_nrm (fun y_17 hy_17 => (v_is c_145_25 rfl (by decide) (by decide) (by decide) (q_aload_n c_145_26 rfl (v_gi (z := 0) (v := 1) c_145_27 kf_8_3 rfl (nb_ rfl) rfl rfl ((up_c (nn rfl)).trans (up_e rfl)) (v_if_ne_t (t := 37) c_145_30 rfl (by decide) ?_))))))))
    refine q_iconst c_145_37 (v_zret c_145_38 rfl (by decide) (bk_inl (v_if_ne_f (t := 50) c_236_45 rfl (by decide) (q_iconst c_236_48 (q_iret c_236_49 rfl ?_)))))
    have hI_18 := iw_41_0 (v := 0) hI ⟨by decide, by decide⟩
    have hI_19 := iw_41_0 (v := 1) hI_18 ⟨by decide, by decide⟩
    have hI_20 := iw_42 (j := 1) (v := y_17) hI_19 ⟨hy_17.1, hy_17.2⟩
    exact K (up (up (up c 41 0 0) 41 0 1) 42 1 y_17) 0 hI_20 (fun a j hm => (up_b (Decidable.or_iff_not_imp_left.mpr (fun h1 h2 => hm (Or.inr (Decidable.not_not.mp h1))))).trans ((up_b (Decidable.or_iff_not_imp_left.mpr (fun h1 h2 => hm (Or.inl ⟨Decidable.not_not.mp h1, h2⟩)))).trans (up_b (Decidable.or_iff_not_imp_left.mpr (fun h1 h2 => hm (Or.inl ⟨Decidable.not_not.mp h1, h2⟩)))))) ⟨by decide, by decide⟩
  · refine v_ic_lt_f (t := 14) c_146_2 rfl ⟨by decide, (Int.not_lt.mp h_15), ha1.2⟩ (q_iload_n c_146_5 rfl (q_iload_n c_146_6 rfl ?_))
    by_cases h_21 : a1 > 99
    · refine v_ic_gt_t (t := 14) c_146_7 rfl ⟨by decide, h_21, ha1.2⟩ (q_iconst c_146_14 (v_zret c_146_15 rfl (by decide) (bk_inl (v_if_eq_t (t := 39) c_236_13 rfl (by decide) (q_iconst c_236_39 (q_iconst c_236_40 (q_iconst c_236_41 ?_)))))))
      refine v_cv c_236_42 km_8_203 rfl rfl (nb_ rfl) ⟨⟨rfl, rfl⟩, nb_ rfl, rfl⟩ (nb_ rfl) (nb_ rfl) (q_iload_n c_145_0 rfl (v_if_ne_f (t := 26) c_145_1 rfl (by decide) (q_aload_n c_145_4 rfl (v_gi (z := 0) (v := 0) c_145_5 kf_8_3 rfl (nb_ rfl) rfl rfl (up_e rfl) (v_if_ne_f (t := 26) c_145_8 rfl (by decide) (q_aload_n c_145_11 rfl (q_iload_n c_145_12 rfl ?_)))))))
      refine v_pi (z := 0) c_145_13 kf_8_3 rfl (nb_ rfl) rfl rfl rfl (by decide) (q_aload_n c_145_16 rfl (v_gr (t := 42) c_145_17 kf_8_7 rfl (nb_ rfl) rfl (q_iload_n c_145_20 rfl (q_dup2 c_145_21 ⟨rfl, rfl⟩ ?_))))
      have h_22 := ir_42 hI 1
      refine v_ia (v := c 42 1) c_145_22 rfl (by decide) (by decide) (by decide) ((up_c (nn rfl)).trans (up_c (nn rfl))) (q_iconst c_145_23 (v_iadd (v := c 42 1 + 1) c_145_24 rfl (v_nrm (fun y_23 hy_23 => (v_is c_145_25 rfl (by decide) (by decide) (by decide) (q_aload_n c_145_26 rfl (v_gi (z := 0) (v := 1) c_145_27 kf_8_3 rfl (nb_ rfl) rfl rfl ((up_c (nn rfl)).trans (up_e rfl)) (v_if_ne_t (t := 37) c_145_30 rfl (by decide) ?_))))))))
      refine q_iconst c_145_37 (v_zret c_145_38 rfl (by decide) (bk_inl (v_if_ne_f (t := 50) c_236_45 rfl (by decide) (q_iconst c_236_48 (q_iret c_236_49 rfl ?_)))))
      have hI_24 := iw_41_0 (v := 0) hI ⟨by decide, by decide⟩
      have hI_25 := iw_41_0 (v := 1) hI_24 ⟨by decide, by decide⟩
      have hI_26 := iw_42 (j := 1) (v := y_23) hI_25 ⟨hy_23.1, hy_23.2⟩
      exact K (up (up (up c 41 0 0) 41 0 1) 42 1 y_23) 0 hI_26 (fun a j hm => (up_b (Decidable.or_iff_not_imp_left.mpr (fun h1 h2 => hm (Or.inr (Decidable.not_not.mp h1))))).trans ((up_b (Decidable.or_iff_not_imp_left.mpr (fun h1 h2 => hm (Or.inl ⟨Decidable.not_not.mp h1, h2⟩)))).trans (up_b (Decidable.or_iff_not_imp_left.mpr (fun h1 h2 => hm (Or.inl ⟨Decidable.not_not.mp h1, h2⟩)))))) ⟨by decide, by decide⟩
    · refine v_ic_gt_f (t := 14) c_146_7 rfl ⟨ha1.1, (Int.not_lt.mp h_21), by decide⟩ (q_iconst c_146_10 (q_goto (t := 15) c_146_11 rfl (v_zret c_146_15 rfl (by decide) (bk_inl (v_if_eq_f (t := 39) c_236_13 rfl (by decide) (q_iload_n c_236_16 rfl (q_iconst c_236_17 ?_)))))))
      refine v_bip c_236_18 (by decide) (q_call c_236_20 rfl rfl rfl (q_iload_n c_146_0 rfl (q_iload_n c_146_1 rfl ?_)))
      by_cases h_27 : a2 < 0
      · refine v_ic_lt_t (t := 14) c_146_2 rfl ⟨ha2.1, h_27, by decide⟩ (q_iconst c_146_14 (v_zret c_146_15 rfl (by decide) (bk_inl (v_if_eq_t (t := 39) c_236_23 rfl (by decide) (q_iconst c_236_39 (q_iconst c_236_40 (q_iconst c_236_41 ?_)))))))
        refine v_cv c_236_42 km_8_203 rfl rfl (nb_ rfl) ⟨⟨rfl, rfl⟩, nb_ rfl, rfl⟩ (nb_ rfl) (nb_ rfl) (q_iload_n c_145_0 rfl (v_if_ne_f (t := 26) c_145_1 rfl (by decide) (q_aload_n c_145_4 rfl (v_gi (z := 0) (v := 0) c_145_5 kf_8_3 rfl (nb_ rfl) rfl rfl (up_e rfl) (v_if_ne_f (t := 26) c_145_8 rfl (by decide) (q_aload_n c_145_11 rfl (q_iload_n c_145_12 rfl ?_)))))))
        refine v_pi (z := 0) c_145_13 kf_8_3 rfl (nb_ rfl) rfl rfl rfl (by decide) (q_aload_n c_145_16 rfl (v_gr (t := 42) c_145_17 kf_8_7 rfl (nb_ rfl) rfl (q_iload_n c_145_20 rfl (q_dup2 c_145_21 ⟨rfl, rfl⟩ ?_))))
        have h_28 := ir_42 hI 1
        refine v_ia (v := c 42 1) c_145_22 rfl (by decide) (by decide) (by decide) ((up_c (nn rfl)).trans (up_c (nn rfl))) (q_iconst c_145_23 (v_iadd (v := c 42 1 + 1) c_145_24 rfl (v_nrm (fun y_29 hy_29 => (v_is c_145_25 rfl (by decide) (by decide) (by decide) (q_aload_n c_145_26 rfl (v_gi (z := 0) (v := 1) c_145_27 kf_8_3 rfl (nb_ rfl) rfl rfl ((up_c (nn rfl)).trans (up_e rfl)) (v_if_ne_t (t := 37) c_145_30 rfl (by decide) ?_))))))))
        refine q_iconst c_145_37 (v_zret c_145_38 rfl (by decide) (bk_inl (v_if_ne_f (t := 50) c_236_45 rfl (by decide) (q_iconst c_236_48 (q_iret c_236_49 rfl ?_)))))
        have hI_30 := iw_41_0 (v := 0) hI ⟨by decide, by decide⟩
        have hI_31 := iw_41_0 (v := 1) hI_30 ⟨by decide, by decide⟩
        have hI_32 := iw_42 (j := 1) (v := y_29) hI_31 ⟨hy_29.1, hy_29.2⟩
        exact K (up (up (up c 41 0 0) 41 0 1) 42 1 y_29) 0 hI_32 (fun a j hm => (up_b (Decidable.or_iff_not_imp_left.mpr (fun h1 h2 => hm (Or.inr (Decidable.not_not.mp h1))))).trans ((up_b (Decidable.or_iff_not_imp_left.mpr (fun h1 h2 => hm (Or.inl ⟨Decidable.not_not.mp h1, h2⟩)))).trans (up_b (Decidable.or_iff_not_imp_left.mpr (fun h1 h2 => hm (Or.inl ⟨Decidable.not_not.mp h1, h2⟩)))))) ⟨by decide, by decide⟩
      · refine v_ic_lt_f (t := 14) c_146_2 rfl ⟨by decide, (Int.not_lt.mp h_27), ha2.2⟩ (q_iload_n c_146_5 rfl (q_iload_n c_146_6 rfl ?_))
        by_cases h_33 : a2 > 99
        · refine v_ic_gt_t (t := 14) c_146_7 rfl ⟨by decide, h_33, ha2.2⟩ (q_iconst c_146_14 (v_zret c_146_15 rfl (by decide) (bk_inl (v_if_eq_t (t := 39) c_236_23 rfl (by decide) (q_iconst c_236_39 (q_iconst c_236_40 (q_iconst c_236_41 ?_)))))))
          refine v_cv c_236_42 km_8_203 rfl rfl (nb_ rfl) ⟨⟨rfl, rfl⟩, nb_ rfl, rfl⟩ (nb_ rfl) (nb_ rfl) (q_iload_n c_145_0 rfl (v_if_ne_f (t := 26) c_145_1 rfl (by decide) (q_aload_n c_145_4 rfl (v_gi (z := 0) (v := 0) c_145_5 kf_8_3 rfl (nb_ rfl) rfl rfl (up_e rfl) (v_if_ne_f (t := 26) c_145_8 rfl (by decide) (q_aload_n c_145_11 rfl (q_iload_n c_145_12 rfl ?_)))))))
          refine v_pi (z := 0) c_145_13 kf_8_3 rfl (nb_ rfl) rfl rfl rfl (by decide) (q_aload_n c_145_16 rfl (v_gr (t := 42) c_145_17 kf_8_7 rfl (nb_ rfl) rfl (q_iload_n c_145_20 rfl (q_dup2 c_145_21 ⟨rfl, rfl⟩ ?_))))
          have h_34 := ir_42 hI 1
          refine v_ia (v := c 42 1) c_145_22 rfl (by decide) (by decide) (by decide) ((up_c (nn rfl)).trans (up_c (nn rfl))) (q_iconst c_145_23 (v_iadd (v := c 42 1 + 1) c_145_24 rfl (v_nrm (fun y_35 hy_35 => (v_is c_145_25 rfl (by decide) (by decide) (by decide) (q_aload_n c_145_26 rfl (v_gi (z := 0) (v := 1) c_145_27 kf_8_3 rfl (nb_ rfl) rfl rfl ((up_c (nn rfl)).trans (up_e rfl)) (v_if_ne_t (t := 37) c_145_30 rfl (by decide) ?_))))))))
          refine q_iconst c_145_37 (v_zret c_145_38 rfl (by decide) (bk_inl (v_if_ne_f (t := 50) c_236_45 rfl (by decide) (q_iconst c_236_48 (q_iret c_236_49 rfl ?_)))))
          have hI_36 := iw_41_0 (v := 0) hI ⟨by decide, by decide⟩
          have hI_37 := iw_41_0 (v := 1) hI_36 ⟨by decide, by decide⟩
          have hI_38 := iw_42 (j := 1) (v := y_35) hI_37 ⟨hy_35.1, hy_35.2⟩
          exact K (up (up (up c 41 0 0) 41 0 1) 42 1 y_35) 0 hI_38 (fun a j hm => (up_b (Decidable.or_iff_not_imp_left.mpr (fun h1 h2 => hm (Or.inr (Decidable.not_not.mp h1))))).trans ((up_b (Decidable.or_iff_not_imp_left.mpr (fun h1 h2 => hm (Or.inl ⟨Decidable.not_not.mp h1, h2⟩)))).trans (up_b (Decidable.or_iff_not_imp_left.mpr (fun h1 h2 => hm (Or.inl ⟨Decidable.not_not.mp h1, h2⟩)))))) ⟨by decide, by decide⟩
        · refine v_ic_gt_f (t := 14) c_146_7 rfl ⟨ha2.1, (Int.not_lt.mp h_33), by decide⟩ (q_iconst c_146_10 (q_goto (t := 15) c_146_11 rfl (v_zret c_146_15 rfl (by decide) (bk_inl (v_if_eq_f (t := 39) c_236_23 rfl (by decide) (q_iload_n c_236_26 rfl (q_iconst c_236_27 ?_)))))))
          refine q_iconst c_236_28 (q_call c_236_29 rfl rfl rfl (q_iload_n c_146_0 rfl (q_iload_n c_146_1 rfl ?_)))
          by_cases h_39 : a3 < 0
          · refine v_ic_lt_t (t := 14) c_146_2 rfl ⟨ha3.1, h_39, by decide⟩ (q_iconst c_146_14 (v_zret c_146_15 rfl (by decide) (bk_inl (v_if_eq_t (t := 39) c_236_32 rfl (by decide) (q_iconst c_236_39 (q_iconst c_236_40 (q_iconst c_236_41 ?_)))))))
            refine v_cv c_236_42 km_8_203 rfl rfl (nb_ rfl) ⟨⟨rfl, rfl⟩, nb_ rfl, rfl⟩ (nb_ rfl) (nb_ rfl) (q_iload_n c_145_0 rfl (v_if_ne_f (t := 26) c_145_1 rfl (by decide) (q_aload_n c_145_4 rfl (v_gi (z := 0) (v := 0) c_145_5 kf_8_3 rfl (nb_ rfl) rfl rfl (up_e rfl) (v_if_ne_f (t := 26) c_145_8 rfl (by decide) (q_aload_n c_145_11 rfl (q_iload_n c_145_12 rfl ?_)))))))
            refine v_pi (z := 0) c_145_13 kf_8_3 rfl (nb_ rfl) rfl rfl rfl (by decide) (q_aload_n c_145_16 rfl (v_gr (t := 42) c_145_17 kf_8_7 rfl (nb_ rfl) rfl (q_iload_n c_145_20 rfl (q_dup2 c_145_21 ⟨rfl, rfl⟩ ?_))))
            have h_40 := ir_42 hI 1
            refine v_ia (v := c 42 1) c_145_22 rfl (by decide) (by decide) (by decide) ((up_c (nn rfl)).trans (up_c (nn rfl))) (q_iconst c_145_23 (v_iadd (v := c 42 1 + 1) c_145_24 rfl (v_nrm (fun y_41 hy_41 => (v_is c_145_25 rfl (by decide) (by decide) (by decide) (q_aload_n c_145_26 rfl (v_gi (z := 0) (v := 1) c_145_27 kf_8_3 rfl (nb_ rfl) rfl rfl ((up_c (nn rfl)).trans (up_e rfl)) (v_if_ne_t (t := 37) c_145_30 rfl (by decide) ?_))))))))
            refine q_iconst c_145_37 (v_zret c_145_38 rfl (by decide) (bk_inl (v_if_ne_f (t := 50) c_236_45 rfl (by decide) (q_iconst c_236_48 (q_iret c_236_49 rfl ?_)))))
            have hI_42 := iw_41_0 (v := 0) hI ⟨by decide, by decide⟩
            have hI_43 := iw_41_0 (v := 1) hI_42 ⟨by decide, by decide⟩
            have hI_44 := iw_42 (j := 1) (v := y_41) hI_43 ⟨hy_41.1, hy_41.2⟩
            exact K (up (up (up c 41 0 0) 41 0 1) 42 1 y_41) 0 hI_44 (fun a j hm => (up_b (Decidable.or_iff_not_imp_left.mpr (fun h1 h2 => hm (Or.inr (Decidable.not_not.mp h1))))).trans ((up_b (Decidable.or_iff_not_imp_left.mpr (fun h1 h2 => hm (Or.inl ⟨Decidable.not_not.mp h1, h2⟩)))).trans (up_b (Decidable.or_iff_not_imp_left.mpr (fun h1 h2 => hm (Or.inl ⟨Decidable.not_not.mp h1, h2⟩)))))) ⟨by decide, by decide⟩
          · refine v_ic_lt_f (t := 14) c_146_2 rfl ⟨by decide, (Int.not_lt.mp h_39), ha3.2⟩ (q_iload_n c_146_5 rfl (q_iload_n c_146_6 rfl ?_))
            by_cases h_45 : a3 > 2
            · refine v_ic_gt_t (t := 14) c_146_7 rfl ⟨by decide, h_45, ha3.2⟩ (q_iconst c_146_14 (v_zret c_146_15 rfl (by decide) (bk_inl (v_if_eq_t (t := 39) c_236_32 rfl (by decide) (q_iconst c_236_39 (q_iconst c_236_40 (q_iconst c_236_41 ?_)))))))
              refine v_cv c_236_42 km_8_203 rfl rfl (nb_ rfl) ⟨⟨rfl, rfl⟩, nb_ rfl, rfl⟩ (nb_ rfl) (nb_ rfl) (q_iload_n c_145_0 rfl (v_if_ne_f (t := 26) c_145_1 rfl (by decide) (q_aload_n c_145_4 rfl (v_gi (z := 0) (v := 0) c_145_5 kf_8_3 rfl (nb_ rfl) rfl rfl (up_e rfl) (v_if_ne_f (t := 26) c_145_8 rfl (by decide) (q_aload_n c_145_11 rfl (q_iload_n c_145_12 rfl ?_)))))))
              refine v_pi (z := 0) c_145_13 kf_8_3 rfl (nb_ rfl) rfl rfl rfl (by decide) (q_aload_n c_145_16 rfl (v_gr (t := 42) c_145_17 kf_8_7 rfl (nb_ rfl) rfl (q_iload_n c_145_20 rfl (q_dup2 c_145_21 ⟨rfl, rfl⟩ ?_))))
              have h_46 := ir_42 hI 1
              refine v_ia (v := c 42 1) c_145_22 rfl (by decide) (by decide) (by decide) ((up_c (nn rfl)).trans (up_c (nn rfl))) (q_iconst c_145_23 (v_iadd (v := c 42 1 + 1) c_145_24 rfl (v_nrm (fun y_47 hy_47 => (v_is c_145_25 rfl (by decide) (by decide) (by decide) (q_aload_n c_145_26 rfl (v_gi (z := 0) (v := 1) c_145_27 kf_8_3 rfl (nb_ rfl) rfl rfl ((up_c (nn rfl)).trans (up_e rfl)) (v_if_ne_t (t := 37) c_145_30 rfl (by decide) ?_))))))))
              refine q_iconst c_145_37 (v_zret c_145_38 rfl (by decide) (bk_inl (v_if_ne_f (t := 50) c_236_45 rfl (by decide) (q_iconst c_236_48 (q_iret c_236_49 rfl ?_)))))
              have hI_48 := iw_41_0 (v := 0) hI ⟨by decide, by decide⟩
              have hI_49 := iw_41_0 (v := 1) hI_48 ⟨by decide, by decide⟩
              have hI_50 := iw_42 (j := 1) (v := y_47) hI_49 ⟨hy_47.1, hy_47.2⟩
              exact K (up (up (up c 41 0 0) 41 0 1) 42 1 y_47) 0 hI_50 (fun a j hm => (up_b (Decidable.or_iff_not_imp_left.mpr (fun h1 h2 => hm (Or.inr (Decidable.not_not.mp h1))))).trans ((up_b (Decidable.or_iff_not_imp_left.mpr (fun h1 h2 => hm (Or.inl ⟨Decidable.not_not.mp h1, h2⟩)))).trans (up_b (Decidable.or_iff_not_imp_left.mpr (fun h1 h2 => hm (Or.inl ⟨Decidable.not_not.mp h1, h2⟩)))))) ⟨by decide, by decide⟩
            · refine v_ic_gt_f (t := 14) c_146_7 rfl ⟨ha3.1, (Int.not_lt.mp h_45), by decide⟩ (q_iconst c_146_10 (q_goto (t := 15) c_146_11 rfl (v_zret c_146_15 rfl (by decide) (bk_inl (v_if_eq_f (t := 39) c_236_32 rfl (by decide) (q_iconst c_236_35 (q_goto (t := 40) c_236_36 rfl ?_)))))))
              refine q_iconst c_236_40 (q_iconst c_236_41 (v_cv c_236_42 km_8_203 rfl rfl (nb_ rfl) ⟨⟨rfl, rfl⟩, nb_ rfl, rfl⟩ (nb_ rfl) (nb_ rfl) (q_iload_n c_145_0 rfl (v_if_ne_t (t := 26) c_145_1 rfl (by decide) (q_aload_n c_145_26 rfl (v_gi (z := 0) (v := 0) c_145_27 kf_8_3 rfl (nb_ rfl) rfl rfl (up_e rfl) (v_if_ne_f (t := 37) c_145_30 rfl (by decide) ?_)))))))
              refine q_iconst c_145_33 (q_goto (t := 38) c_145_34 rfl (v_zret c_145_38 rfl (by decide) (bk_inl (v_if_ne_t (t := 50) c_236_45 rfl (by decide) (q_iconst c_236_50 (q_istore c_236_51 (nb_ rfl) (q_iconst c_236_53 ?_)))))))
              refine q_istore c_236_54 (nb_ rfl) (q_iconst c_236_56 (q_istore c_236_57 (nb_ rfl) ?_))
              have hI_51 := iw_41_0 (v := 0) hI ⟨by decide, by decide⟩
              refine Wp_ls [(0, .ref 41), (1, vi a1), (2, vi a2), (3, vi a3), (4, vi 0), (5, vi (-1)), (6, vi 0)] (lsub_cons rfl (lsub_cons rfl (lsub_cons rfl (lsub_cons rfl (lsub_cons rfl (lsub_cons rfl (lsub_cons rfl lsub_nil))))))) ?_
              exact (s_236_l (sc := sc) (d := d) hI ha1 ha2 ha3 K 12) (up c 41 0 0) 0 (-1) 0 hI_51 (fun a j hm => up_b (Decidable.or_iff_not_imp_left.mpr (fun h1 h2 => hm (Or.inl ⟨Decidable.not_not.mp h1, h2⟩)))) ⟨by decide, by decide⟩ ⟨by decide, by decide⟩ ⟨by decide, by decide⟩ (Or.inl (by first | assumption | omega)) ⟨by first | exact q_720657ba9 h_15 | omega, by first | exact q_9010c525b h_21 | omega⟩ ⟨by first | exact q_720657ba9 h_27 | omega, by first | exact q_9010c525b h_33 | omega⟩ (by omega)

set_option maxRecDepth 100000 in
set_option maxHeartbeats 4000000 in
theorem s_237 {sc : List Int32} {e : Int} {d u P Q : Nat} {c : ME} {a1 : Int} {a2 : Int} {Z : AR → Prop} (hI : Iv u e P Q c) (ha1 : 0 ≤ a1 ∧ a1 ≤ 5) (ha2 : (-2147483648) ≤ a2 ∧ a2 ≤ 2147483647) (K : ∀ (y : Int), (-2147483648) ≤ y ∧ y ≤ 2147483647 → Z (.inl (some (vi y)), Wd P Q P P c, 0, 0)) : Wp sc (d + 8) 237 0 [(0, .ref 41), (1, vi a1), (2, vi a2)] [] (Wd P Q P P c) 0 0 Z := by
  have hP := iv_P hI
  have hQ := iv_Q hI
  refine q_aload_n c_237_0 rfl (q_iload_n c_237_1 rfl ?_)
  have h_1 := ir_59_g hI (j := 4 * a1) (by first | exact q_9f1d5ffdc ha1 | omega)
  have h_2 := ir_59_g hI (j := 4 * a1 + 1) (by first | exact q_0a2ee6f8f ha1 | omega)
  have h_3 := ir_59_g hI (j := 4 * a1 + 2) (by first | exact q_e07a293a2 ha1 | omega)
  have h_4 := ir_59_g hI (j := 4 * a1 + 3) (by first | exact q_d09cb0b73 ha1 | omega)
  refine v_cv c_237_2 km_8_343 rfl rfl (nb_ rfl) ⟨⟨rfl, rfl⟩, nb_ rfl, rfl⟩ (nb_ rfl) (nb_ rfl) (s_187 (v1 := c 59 (4 * a1)) (v2 := c 59 (4 * a1 + 1)) (v3 := c 59 (4 * a1 + 2)) (v4 := c 59 (4 * a1 + 3)) (r := c 59 (4 * a1 + 1) + c 59 (4 * a1 + 2) + c 59 (4 * a1 + 3) + c 59 (4 * a1)) (a1 := a1) hI (show 0 ≤ a1 ∧ a1 ≤ 5 from ha1) (rfl) (rfl) (rfl) (rfl) (by omega) (bk_inl (q_iload_n c_237_5 rfl ?_)))
  by_cases h_5 : c 59 (4 * a1 + 1) + c 59 (4 * a1 + 2) + c 59 (4 * a1 + 3) + c 59 (4 * a1) ≥ a2
  · refine v_ic_ge_t (t := 17) c_237_6 rfl ⟨ha2.1, h_5, by first | exact q_db9ef1f4a h_1 h_2 h_3 h_4 | omega⟩ (q_iload_n c_237_17 rfl (q_iret c_237_18 rfl ?_))
    exact K a2 ha2
  · refine v_ic_ge_f (t := 17) c_237_6 rfl ⟨by first | exact q_e052ef40e h_1 h_2 h_3 h_4 | omega, (Int.not_le.mp h_5), ha2.2⟩ (q_aload_n c_237_9 rfl (q_iload_n c_237_10 rfl (v_cv c_237_11 km_8_343 rfl rfl (nb_ rfl) ⟨⟨rfl, rfl⟩, nb_ rfl, rfl⟩ (nb_ rfl) (nb_ rfl) (s_187 (v1 := c 59 (4 * a1)) (v2 := c 59 (4 * a1 + 1)) (v3 := c 59 (4 * a1 + 2)) (v4 := c 59 (4 * a1 + 3)) (r := c 59 (4 * a1 + 1) + c 59 (4 * a1 + 2) + c 59 (4 * a1 + 3) + c 59 (4 * a1)) (a1 := a1) hI (show 0 ≤ a1 ∧ a1 ≤ 5 from ha1) (rfl) (rfl) (rfl) (rfl) (by omega) (bk_inl (q_goto (t := 18) c_237_14 rfl (q_iret c_237_18 rfl ?_)))))))
    exact K (c 59 (4 * a1 + 1) + c 59 (4 * a1 + 2) + c 59 (4 * a1 + 3) + c 59 (4 * a1)) ⟨by first | exact q_e052ef40e h_1 h_2 h_3 h_4 | omega, by first | exact q_db9ef1f4a h_1 h_2 h_3 h_4 | omega⟩

set_option maxRecDepth 100000 in
set_option maxHeartbeats 4000000 in
theorem s_238_l {sc : List Int32} {e : Int} {d u P Q : Nat} {c : ME} {a1 : Int} {a2 : Int} {Z : AR → Prop} (hI : Iv u e P Q c) (ha1 : (-2147483648) ≤ a1 ∧ a1 ≤ 2147483647) (ha2 : (-2147483648) ≤ a2 ∧ a2 ≤ 2147483647) (K : ∀ (y : Int), (-2147483648) ≤ y ∧ y ≤ 2147483647 → Z (.inl (some (vi y)), Wd P Q P P c, 0, 0)) : ∀ n : Nat, (∀ (v3 : Int) (v4 : Int), (-2147483648) ≤ v3 ∧ v3 ≤ 2147483647 → 0 ≤ v4 ∧ v4 ≤ 6 → 13 - 2 * v4 < (n : Int) → Wp sc (d + 9) 238 5 [(0, .ref 41), (1, vi a1), (2, vi a2), (3, vi v3), (4, vi v4)] [] (Wd P Q P P c) 0 0 Z) := by
  intro n
  induction n with
  | zero => exact (by intro v3 v4 hv3 hv4 hm9; have hP := iv_P hI; have hQ := iv_Q hI; exfalso; omega)
  | succ n ih =>
    have hP := iv_P hI
    have hQ := iv_Q hI
    intro v3 v4 hv3 hv4 hm9
    refine q_iload c_238_5 rfl (q_aload_n c_238_7 rfl ?_)
    have h_1 := ir_41_20 hI
    refine v_gi (z := 20) (v := c 41 20) c_238_8 kf_8_157 rfl (nb_ rfl) rfl rfl rfl ?_
    by_cases h_2 : v4 ≥ c 41 20
    · refine v_ic_ge_t (t := 37) c_238_11 rfl ⟨(Int.le_trans (by decide) h_1.1), h_2, (Int.le_trans hv4.2 (by decide))⟩ (q_iload_n c_238_37 rfl (q_iret c_238_38 rfl ?_))
      exact K v3 hv3
    · refine v_ic_ge_f (t := 37) c_238_11 rfl ⟨(Int.le_trans (by decide) hv4.1), (Int.not_le.mp h_2), (Int.le_trans h_1.2 (by decide))⟩ (q_iload_n c_238_14 rfl (q_iload_n c_238_15 rfl (q_iload c_238_16 rfl (v_ishrx c_238_18 (fun y_3 hy_3 => (q_iconst c_238_19 (v_iandx c_238_20 (fun y_4 hy_4 => (q_aload_n c_238_21 rfl ?_)))))))))
      refine q_iload c_238_22 rfl (q_iload_n c_238_24 rfl (v_cv c_238_25 km_8_432 rfl rfl (nb_ rfl) ⟨⟨rfl, rfl⟩, nb_ rfl, rfl⟩ (nb_ rfl) (nb_ rfl) (s_237 (a1 := v4) (a2 := a2) hI (show 0 ≤ v4 ∧ v4 ≤ 5 from ⟨hv4.1, by first | exact q_d63a8538e h_1 h_2 | omega⟩) (show (-2147483648) ≤ a2 ∧ a2 ≤ 2147483647 from ha2) (fun y_5 hy_5 => (bk_inl (v_imul (v := (y_4 * y_5)) c_238_28 rfl (v_nrm (fun y_6 hy_6 => (v_iadd (v := v3 + y_6) c_238_29 rfl (v_nrm (fun y_7 hy_7 => ?_)))))))))))
      refine q_istore_n c_238_30 (nb_ rfl) (v_iinc (v := v4 + 1) c_238_31 rfl (nb_ rfl) rfl (q_goto (t := 5) c_238_34 rfl (Wp_ls [(0, .ref 41), (1, vi a1), (2, vi a2), (3, vi y_7), (4, vi (v4 + 1))] (lsub_cons rfl (lsub_cons rfl (lsub_cons rfl (lsub_cons rfl (lsub_cons rfl lsub_nil))))) ?_)))
      exact ih y_7 (v4 + 1) hy_7 ⟨by first | exact rgp_l hv4.1 (by decide) | omega, by first | exact q_4a76cd9c7 h_1 h_2 | omega⟩ (by omega)
set_option maxRecDepth 100000 in
set_option maxHeartbeats 4000000 in
theorem s_238 {sc : List Int32} {e : Int} {d u P Q : Nat} {c : ME} {a1 : Int} {a2 : Int} {Z : AR → Prop} (hI : Iv u e P Q c) (ha1 : (-2147483648) ≤ a1 ∧ a1 ≤ 2147483647) (ha2 : (-2147483648) ≤ a2 ∧ a2 ≤ 2147483647) (K : ∀ (y : Int), (-2147483648) ≤ y ∧ y ≤ 2147483647 → Z (.inl (some (vi y)), Wd P Q P P c, 0, 0)) : Wp sc (d + 9) 238 0 [(0, .ref 41), (1, vi a1), (2, vi a2)] [] (Wd P Q P P c) 0 0 Z := by
  have hP := iv_P hI
  have hQ := iv_Q hI
  refine q_iconst c_238_0 (q_istore_n c_238_1 (nb_ rfl) (q_iconst c_238_2 (q_istore c_238_3 (nb_ rfl) (Wp_ls [(0, .ref 41), (1, vi a1), (2, vi a2), (3, vi 0), (4, vi 0)] (lsub_cons rfl (lsub_cons rfl (lsub_cons rfl (lsub_cons rfl (lsub_cons rfl lsub_nil))))) ?_))))
  exact (s_238_l (sc := sc) (d := d) hI ha1 ha2 K 16) 0 0 ⟨by decide, by decide⟩ ⟨by decide, by decide⟩ (by omega)

set_option maxRecDepth 100000 in
set_option maxHeartbeats 4000000 in
theorem s_239_l {sc : List Int32} {d P Q : Nat} {c : ME} {a1 : Int} {a2 : Int} {a3 : Int} {Z : AR → Prop} (hI : Iv 0 (-1) P Q c) (ha1 : (-2147483648) ≤ a1 ∧ a1 ≤ 2147483647) (ha2 : (-2147483648) ≤ a2 ∧ a2 ≤ 2147483647) (ha3 : (-2147483648) ≤ a3 ∧ a3 ≤ 2147483647) (K : ∀ (c2 : ME) (y : Int), Iv 0 (-1) P Q c2 → (∀ (a : Nat) (j : Int), ¬ ((a = 41 ∧ j = 0) ∨ a = 42 ∨ a = 59) → c2 a j = c a j) → (-2147483648) ≤ y ∧ y ≤ 2147483647 → Z (.inl (some (vi y)), Wd P Q P P c2, 0, 0)) : ∀ n : Nat, (∀ (c2 : ME) (v4 : Int) (v5 : Int), Iv 0 (-1) P Q c2 → (∀ (a : Nat) (j : Int), ¬ ((a = 41 ∧ j = 0) ∨ a = 42 ∨ a = 59) → c2 a j = c a j) → 0 ≤ v4 ∧ v4 ≤ 9999 → 0 ≤ v5 ∧ v5 ≤ 8192 → ((a1 ≥ 0 ∧ a1 ≤ 5)) → 20003 * v5 + 20002 < (n : Int) → Wp sc (d + 10) 239 66 [(0, .ref 41), (1, vi a1), (2, vi a2), (3, vi a3), (4, vi v4), (5, vi v5)] [] (Wd P Q P P c2) 0 0 Z) ∧ (∀ (c2 : ME) (v4 : Int) (v5 : Int), Iv 0 (-1) P Q c2 → (∀ (a : Nat) (j : Int), ¬ ((a = 41 ∧ j = 0) ∨ a = 42 ∨ a = 59) → c2 a j = c a j) → 0 ≤ v4 ∧ v4 ≤ 9999 → 1 ≤ v5 ∧ v5 ≤ 8192 → ((a1 ≥ 0 ∧ a1 ≤ 5)) → 2 * v4 + 20003 * v5 + 1 < (n : Int) → Wp sc (d + 10) 239 71 [(0, .ref 41), (1, vi a1), (2, vi a2), (3, vi a3), (4, vi v4), (5, vi v5)] [] (Wd P Q P P c2) 0 0 Z) := by
  intro n
  induction n with
  | zero => exact (by exact ⟨by (intro c2 v4 v5 hI2 hF hv4 hv5 hx0 hm9; have hP := iv_P hI; have hQ := iv_Q hI; exfalso; omega), by (intro c2 v4 v5 hI2 hF hv4 hv5 hx0 hm9; have hP := iv_P hI; have hQ := iv_Q hI; exfalso; omega)⟩)
  | succ n ih =>
    have hP := iv_P hI
    have hQ := iv_Q hI
    refine ⟨?_, ?_⟩
    · skip
      intro c2 v4 v5 hI2 hF hv4 hv5 hx0 hm9
      refine q_iload c_239_66 rfl ?_
      by_cases h_1 : v5 ≤ 0
      · refine v_if_le_t (t := 114) c_239_68 rfl ⟨(Int.le_trans (by decide) hv5.1), h_1, by decide⟩ (q_aload_n c_239_114 rfl (q_iload_n c_239_115 rfl (q_iload c_239_116 rfl (v_cv c_239_118 km_8_435 rfl rfl (nb_ rfl) ⟨⟨rfl, rfl⟩, nb_ rfl, rfl⟩ (nb_ rfl) (nb_ rfl) (s_238 (a1 := a2) (a2 := v4) hI2 (show (-2147483648) ≤ a2 ∧ a2 ≤ 2147483647 from ha2) (show (-2147483648) ≤ v4 ∧ v4 ≤ 2147483647 from ⟨(Int.le_trans (by decide) hv4.1), (Int.le_trans hv4.2 (by decide))⟩) (fun y_2 hy_2 => (bk_inl (q_iload_n c_239_121 rfl ?_))))))))
        by_cases h_3 : y_2 ≤ a3
        · refine v_ic_le_t (t := 128) c_239_122 rfl ⟨hy_2.1, h_3, ha3.2⟩ (q_iload_n c_239_128 rfl (q_iload_n c_239_129 rfl (v_ishrx c_239_130 (fun y_4 hy_4 => (q_iconst c_239_131 (v_iandx c_239_132 (fun y_5 hy_5 => ?_)))))))
          by_cases h_6 : y_5 ≠ 0
          · refine v_if_ne_t (t := 140) c_239_133 rfl ⟨h_6, ⟨hy_5.1, hy_5.2⟩, by decide, by decide⟩ (q_aload_n c_239_140 rfl (q_iload_n c_239_141 rfl (q_iload c_239_142 rfl (v_cv c_239_144 km_8_432 rfl rfl (nb_ rfl) ⟨⟨rfl, rfl⟩, nb_ rfl, rfl⟩ (nb_ rfl) (nb_ rfl) (s_237 (a1 := a1) (a2 := v4) hI2 (show 0 ≤ a1 ∧ a1 ≤ 5 from ⟨by first | (clear ha1 ha2 ha3 hv4 hv5 h_1 h_3 h_6; omega) | omega, by first | (clear ha1 ha2 ha3 hv4 hv5 h_1 h_3 h_6; omega) | omega⟩) (show (-2147483648) ≤ v4 ∧ v4 ≤ 2147483647 from ⟨(Int.le_trans (by decide) hv4.1), (Int.le_trans hv4.2 (by decide))⟩) (fun y_7 hy_7 => (bk_inl (q_iret c_239_147 rfl ?_))))))))
            exact K c2 y_7 hI2 (fun a j hm => hF a j hm) hy_7
          · refine v_if_ne_f (t := 140) c_239_133 rfl (Decidable.not_not.mp h_6) (q_iconst c_239_136 (q_goto (t := 147) c_239_137 rfl (q_iret c_239_147 rfl ?_)))
            exact K c2 0 hI2 (fun a j hm => hF a j hm) ⟨by decide, by decide⟩
        · refine v_ic_le_f (t := 128) c_239_122 rfl ⟨ha3.1, (Int.not_le.mp h_3), hy_2.2⟩ (v_iinc (v := v4 - 1) c_239_125 rfl (nb_ rfl) (by first | exact q_10ec8978d | omega) (q_iload_n c_239_128 rfl (q_iload_n c_239_129 rfl (v_ishrx c_239_130 (fun y_8 hy_8 => (q_iconst c_239_131 (v_iandx c_239_132 (fun y_9 hy_9 => ?_))))))))
          by_cases h_10 : y_9 ≠ 0
          · refine v_if_ne_t (t := 140) c_239_133 rfl ⟨h_10, ⟨hy_9.1, hy_9.2⟩, by decide, by decide⟩ (q_aload_n c_239_140 rfl (q_iload_n c_239_141 rfl (q_iload c_239_142 rfl (v_cv c_239_144 km_8_432 rfl rfl (nb_ rfl) ⟨⟨rfl, rfl⟩, nb_ rfl, rfl⟩ (nb_ rfl) (nb_ rfl) (s_237 (a1 := a1) (a2 := v4 - 1) hI2 (show 0 ≤ a1 ∧ a1 ≤ 5 from ⟨by first | (clear ha1 ha2 ha3 hv4 hv5 h_1 h_3 h_10; omega) | omega, by first | (clear ha1 ha2 ha3 hv4 hv5 h_1 h_3 h_10; omega) | omega⟩) (show (-2147483648) ≤ v4 - 1 ∧ v4 - 1 ≤ 2147483647 from ⟨by first | exact rgm_l hv4.1 (by decide) | omega, by first | exact rgm_h hv4.2 (by decide) | omega⟩) (fun y_11 hy_11 => (bk_inl (q_iret c_239_147 rfl ?_))))))))
            exact K c2 y_11 hI2 (fun a j hm => hF a j hm) hy_11
          · refine v_if_ne_f (t := 140) c_239_133 rfl (Decidable.not_not.mp h_10) (q_iconst c_239_136 (q_goto (t := 147) c_239_137 rfl (q_iret c_239_147 rfl ?_)))
            exact K c2 0 hI2 (fun a j hm => hF a j hm) ⟨by decide, by decide⟩
      · refine v_if_le_f (t := 114) c_239_68 rfl ⟨by decide, (Int.not_le.mp h_1), (Int.le_trans hv5.2 (by decide))⟩ (Wp_ls [(0, .ref 41), (1, vi a1), (2, vi a2), (3, vi a3), (4, vi v4), (5, vi v5)] (lsub_cons rfl (lsub_cons rfl (lsub_cons rfl (lsub_cons rfl (lsub_cons rfl (lsub_cons rfl lsub_nil)))))) ?_)
        exact ih.2 c2 v4 v5 hI2 (fun a j hm => hF a j hm) hv4 ⟨by first | exact q_6c49a4ad1 h_1 | omega, hv5.2⟩ ⟨by omega, by omega⟩ (by omega)
    · skip
      intro c2 v4 v5 hI2 hF hv4 hv5 hx0 hm9
      refine q_iload c_239_71 rfl (q_iload c_239_73 rfl (v_isub (v := v4 - v5) c_239_75 rfl ?_))
      by_cases h_12 : v4 - v5 < 0
      · refine v_if_lt_t (t := 105) c_239_76 rfl ⟨by first | exact q_a78c53710 hv4 hv5 | omega, h_12, by decide⟩ (q_iload c_239_105 rfl (q_iconst c_239_107 (v_idiv (v := (v5 / 2)) c_239_108 (by omega) rfl (q_istore c_239_109 (nb_ rfl) (q_goto (t := 66) c_239_111 rfl (Wp_ls [(0, .ref 41), (1, vi a1), (2, vi a2), (3, vi a3), (4, vi v4), (5, vi (v5 / 2))] (lsub_cons rfl (lsub_cons rfl (lsub_cons rfl (lsub_cons rfl (lsub_cons rfl (lsub_cons rfl lsub_nil)))))) ?_))))))
        exact ih.1 c2 v4 (v5 / 2) hI2 (fun a j hm => hF a j hm) hv4 ⟨by omega, by omega⟩ ⟨by omega, by omega⟩ (by omega)
      · refine v_if_lt_f (t := 105) c_239_76 rfl ⟨by decide, (Int.not_lt.mp h_12), by first | exact q_03877e6fa hv4 hv5 | omega⟩ (q_aload_n c_239_79 rfl (q_iload_n c_239_80 rfl (q_iload c_239_81 rfl (q_iload c_239_83 rfl (v_isub (v := v4 - v5) c_239_85 rfl (q_iconst c_239_86 (v_iadd (v := v4 - v5 + 1) c_239_87 rfl ?_)))))))
        refine v_cv c_239_88 km_8_435 rfl rfl (nb_ rfl) ⟨⟨rfl, rfl⟩, nb_ rfl, rfl⟩ (nb_ rfl) (nb_ rfl) (s_238 (a1 := a2) (a2 := v4 - v5 + 1) hI2 (show (-2147483648) ≤ a2 ∧ a2 ≤ 2147483647 from ha2) (show (-2147483648) ≤ v4 - v5 + 1 ∧ v4 - v5 + 1 ≤ 2147483647 from ⟨by first | exact q_917c27970 h_12 | omega, by first | exact q_fd232b8ec hv4 hv5 | omega⟩) (fun y_13 hy_13 => (bk_inl (q_iload_n c_239_91 rfl ?_))))
        by_cases h_14 : y_13 ≤ a3
        · refine v_ic_le_t (t := 105) c_239_92 rfl ⟨hy_13.1, h_14, ha3.2⟩ (q_iload c_239_105 rfl (q_iconst c_239_107 (v_idiv (v := (v5 / 2)) c_239_108 (by omega) rfl (q_istore c_239_109 (nb_ rfl) (q_goto (t := 66) c_239_111 rfl (Wp_ls [(0, .ref 41), (1, vi a1), (2, vi a2), (3, vi a3), (4, vi v4), (5, vi (v5 / 2))] (lsub_cons rfl (lsub_cons rfl (lsub_cons rfl (lsub_cons rfl (lsub_cons rfl (lsub_cons rfl lsub_nil)))))) ?_))))))
          exact ih.1 c2 v4 (v5 / 2) hI2 (fun a j hm => hF a j hm) hv4 ⟨by omega, by omega⟩ ⟨by omega, by omega⟩ (by omega)
        · refine v_ic_le_f (t := 105) c_239_92 rfl ⟨ha3.1, (Int.not_le.mp h_14), hy_13.2⟩ (q_iload c_239_95 rfl (q_iload c_239_97 rfl (v_isub (v := v4 - v5) c_239_99 rfl (q_istore c_239_100 (nb_ rfl) (q_goto (t := 71) c_239_102 rfl (Wp_ls [(0, .ref 41), (1, vi a1), (2, vi a2), (3, vi a3), (4, vi (v4 - v5)), (5, vi v5)] (lsub_cons rfl (lsub_cons rfl (lsub_cons rfl (lsub_cons rfl (lsub_cons rfl (lsub_cons rfl lsub_nil)))))) ?_))))))
          exact ih.2 c2 (v4 - v5) v5 hI2 (fun a j hm => hF a j hm) ⟨by first | exact q_5548e48fb h_12 | omega, by first | exact q_93f9cdf35 hv4 hv5 | omega⟩ hv5 ⟨by omega, by omega⟩ (by omega)
set_option maxRecDepth 100000 in
set_option maxHeartbeats 4000000 in
theorem s_239 {sc : List Int32} {d P Q : Nat} {c : ME} {a1 : Int} {a2 : Int} {a3 : Int} {Z : AR → Prop} (hI : Iv 0 (-1) P Q c) (ha1 : (-2147483648) ≤ a1 ∧ a1 ≤ 2147483647) (ha2 : (-2147483648) ≤ a2 ∧ a2 ≤ 2147483647) (ha3 : (-2147483648) ≤ a3 ∧ a3 ≤ 2147483647) (K : ∀ (c2 : ME) (y : Int), Iv 0 (-1) P Q c2 → (∀ (a : Nat) (j : Int), ¬ ((a = 41 ∧ j = 0) ∨ a = 42 ∨ a = 59) → c2 a j = c a j) → (-2147483648) ≤ y ∧ y ≤ 2147483647 → Z (.inl (some (vi y)), Wd P Q P P c2, 0, 0)) : Wp sc (d + 10) 239 0 [(0, .ref 41), (1, vi a1), (2, vi a2), (3, vi a3)] [] (Wd P Q P P c) 0 0 Z := by
  have hP := iv_P hI
  have hQ := iv_Q hI
  refine q_aload_n c_239_0 rfl (q_iconst c_239_1 (v_pi (z := 0) c_239_2 kf_8_3 rfl (nb_ rfl) rfl rfl rfl (by decide) (q_aload_n c_239_5 rfl (q_iload_n c_239_6 rfl (q_aload_n c_239_7 rfl ?_)))))
  have h_15 := ir_41_20 hI
  refine v_gi (z := 20) (v := c 41 20) c_239_8 kf_8_157 rfl (nb_ rfl) rfl rfl (up_n (by decide)) (v_cv c_239_11 km_8_396 rfl rfl (nb_ rfl) ⟨⟨rfl, rfl⟩, nb_ rfl, rfl⟩ (nb_ rfl) (nb_ rfl) (q_aload_n c_212_0 rfl (q_iload_n c_212_1 rfl (q_iconst c_212_2 (q_iload_n c_212_3 rfl (q_iconst c_212_4 (v_isub (v := c 41 20 - 1) c_212_5 rfl ?_)))))))
  refine q_call c_212_6 rfl rfl rfl (q_iload_n c_146_0 rfl (q_iload_n c_146_1 rfl ?_))
  by_cases h_16 : a1 < 0
  · refine v_ic_lt_t (t := 14) c_146_2 rfl ⟨ha1.1, h_16, by decide⟩ (q_iconst c_146_14 (v_zret c_146_15 rfl (by decide) (bk_inl (q_iconst c_212_9 (q_iconst c_212_10 (v_cv c_212_11 km_8_203 rfl rfl (nb_ rfl) ⟨⟨rfl, rfl⟩, nb_ rfl, rfl⟩ (nb_ rfl) (nb_ rfl) (q_iload_n c_145_0 rfl ?_)))))))
    refine v_if_ne_f (t := 26) c_145_1 rfl (by decide) (q_aload_n c_145_4 rfl (v_gi (z := 0) (v := 0) c_145_5 kf_8_3 rfl (nb_ rfl) rfl rfl (up_e rfl) (v_if_ne_f (t := 26) c_145_8 rfl (by decide) (q_aload_n c_145_11 rfl (q_iload_n c_145_12 rfl (v_pi (z := 0) c_145_13 kf_8_3 rfl (nb_ rfl) rfl rfl rfl (by decide) (q_aload_n c_145_16 rfl ?_)))))))
    refine v_gr (t := 42) c_145_17 kf_8_7 rfl (nb_ rfl) rfl (q_iload_n c_145_20 rfl (q_dup2 c_145_21 ⟨rfl, rfl⟩ ?_))
    have h_17 := ir_42 hI 0
    refine v_ia (v := c 42 0) c_145_22 rfl (by decide) (by decide) (by decide) ((up_c (nn rfl)).trans (up_c (nn rfl))) (q_iconst c_145_23 (v_iadd (v := c 42 0 + 1) c_145_24 rfl (v_nrm (fun y_18 hy_18 => (v_is c_145_25 rfl (by decide) (by decide) (by decide) (q_aload_n c_145_26 rfl (v_gi (z := 0) (v := 1) c_145_27 kf_8_3 rfl (nb_ rfl) rfl rfl ((up_c (nn rfl)).trans (up_e rfl)) (v_if_ne_t (t := 37) c_145_30 rfl (by decide) ?_))))))))
    refine q_iconst c_145_37 (v_zret c_145_38 rfl (by decide) (bk_inl (v_zret c_212_14 rfl (by decide) (bk_inl (v_if_eq_t (t := 50) c_239_14 rfl (by decide) (q_iconst c_239_50 (q_iret c_239_51 rfl ?_)))))))
    have hI_19 := iw_41_0 (v := 0) hI ⟨by decide, by decide⟩
    have hI_20 := iw_41_0 (v := 1) hI_19 ⟨by decide, by decide⟩
    have hI_21 := iw_42 (j := 0) (v := y_18) hI_20 ⟨hy_18.1, hy_18.2⟩
    exact K (up (up (up c 41 0 0) 41 0 1) 42 0 y_18) 0 hI_21 (fun a j hm => (up_b (Decidable.or_iff_not_imp_left.mpr (fun h1 h2 => hm (Or.inr (Or.inl (Decidable.not_not.mp h1)))))).trans ((up_b (Decidable.or_iff_not_imp_left.mpr (fun h1 h2 => hm (Or.inl ⟨Decidable.not_not.mp h1, h2⟩)))).trans (up_b (Decidable.or_iff_not_imp_left.mpr (fun h1 h2 => hm (Or.inl ⟨Decidable.not_not.mp h1, h2⟩)))))) ⟨by decide, by decide⟩
  · refine v_ic_lt_f (t := 14) c_146_2 rfl ⟨by decide, (Int.not_lt.mp h_16), ha1.2⟩ (q_iload_n c_146_5 rfl (q_iload_n c_146_6 rfl ?_))
    by_cases h_22 : a1 > c 41 20 - 1
    · refine v_ic_gt_t (t := 14) c_146_7 rfl ⟨by first | exact rgm_l h_15.1 (by decide) | omega, h_22, ha1.2⟩ (q_iconst c_146_14 (v_zret c_146_15 rfl (by decide) (bk_inl (q_iconst c_212_9 (q_iconst c_212_10 (v_cv c_212_11 km_8_203 rfl rfl (nb_ rfl) ⟨⟨rfl, rfl⟩, nb_ rfl, rfl⟩ (nb_ rfl) (nb_ rfl) (q_iload_n c_145_0 rfl ?_)))))))
      refine v_if_ne_f (t := 26) c_145_1 rfl (by decide) (q_aload_n c_145_4 rfl (v_gi (z := 0) (v := 0) c_145_5 kf_8_3 rfl (nb_ rfl) rfl rfl (up_e rfl) (v_if_ne_f (t := 26) c_145_8 rfl (by decide) (q_aload_n c_145_11 rfl (q_iload_n c_145_12 rfl (v_pi (z := 0) c_145_13 kf_8_3 rfl (nb_ rfl) rfl rfl rfl (by decide) (q_aload_n c_145_16 rfl ?_)))))))
      refine v_gr (t := 42) c_145_17 kf_8_7 rfl (nb_ rfl) rfl (q_iload_n c_145_20 rfl (q_dup2 c_145_21 ⟨rfl, rfl⟩ ?_))
      have h_23 := ir_42 hI 0
      refine v_ia (v := c 42 0) c_145_22 rfl (by decide) (by decide) (by decide) ((up_c (nn rfl)).trans (up_c (nn rfl))) (q_iconst c_145_23 (v_iadd (v := c 42 0 + 1) c_145_24 rfl (v_nrm (fun y_24 hy_24 => (v_is c_145_25 rfl (by decide) (by decide) (by decide) (q_aload_n c_145_26 rfl (v_gi (z := 0) (v := 1) c_145_27 kf_8_3 rfl (nb_ rfl) rfl rfl ((up_c (nn rfl)).trans (up_e rfl)) (v_if_ne_t (t := 37) c_145_30 rfl (by decide) ?_))))))))
      refine q_iconst c_145_37 (v_zret c_145_38 rfl (by decide) (bk_inl (v_zret c_212_14 rfl (by decide) (bk_inl (v_if_eq_t (t := 50) c_239_14 rfl (by decide) (q_iconst c_239_50 (q_iret c_239_51 rfl ?_)))))))
      have hI_25 := iw_41_0 (v := 0) hI ⟨by decide, by decide⟩
      have hI_26 := iw_41_0 (v := 1) hI_25 ⟨by decide, by decide⟩
      have hI_27 := iw_42 (j := 0) (v := y_24) hI_26 ⟨hy_24.1, hy_24.2⟩
      exact K (up (up (up c 41 0 0) 41 0 1) 42 0 y_24) 0 hI_27 (fun a j hm => (up_b (Decidable.or_iff_not_imp_left.mpr (fun h1 h2 => hm (Or.inr (Or.inl (Decidable.not_not.mp h1)))))).trans ((up_b (Decidable.or_iff_not_imp_left.mpr (fun h1 h2 => hm (Or.inl ⟨Decidable.not_not.mp h1, h2⟩)))).trans (up_b (Decidable.or_iff_not_imp_left.mpr (fun h1 h2 => hm (Or.inl ⟨Decidable.not_not.mp h1, h2⟩)))))) ⟨by decide, by decide⟩
    · refine v_ic_gt_f (t := 14) c_146_7 rfl ⟨ha1.1, (Int.not_lt.mp h_22), by first | exact rgm_h h_15.2 (by decide) | omega⟩ (q_iconst c_146_10 (q_goto (t := 15) c_146_11 rfl (v_zret c_146_15 rfl (by decide) (bk_inl (q_iconst c_212_9 (q_iconst c_212_10 (v_cv c_212_11 km_8_203 rfl rfl (nb_ rfl) ⟨⟨rfl, rfl⟩, nb_ rfl, rfl⟩ (nb_ rfl) (nb_ rfl) ?_)))))))
      refine q_iload_n c_145_0 rfl (v_if_ne_t (t := 26) c_145_1 rfl (by decide) (q_aload_n c_145_26 rfl (v_gi (z := 0) (v := 0) c_145_27 kf_8_3 rfl (nb_ rfl) rfl rfl (up_e rfl) (v_if_ne_f (t := 37) c_145_30 rfl (by decide) (q_iconst c_145_33 (q_goto (t := 38) c_145_34 rfl (v_zret c_145_38 rfl (by decide) ?_)))))))
      refine bk_inl (v_zret c_212_14 rfl (by decide) (bk_inl (v_if_eq_f (t := 50) c_239_14 rfl (by decide) (q_aload_n c_239_17 rfl (q_aload_n c_239_18 rfl (q_iload_n c_239_19 rfl (v_cv c_239_20 km_8_402 rfl rfl (nb_ rfl) ⟨⟨rfl, rfl⟩, nb_ rfl, rfl⟩ (nb_ rfl) (nb_ rfl) ?_)))))))
      refine q_iload_n c_222_0 rfl ?_
      by_cases h_28 : a2 < 0
      · refine v_if_lt_t (t := 18) c_222_1 rfl ⟨ha2.1, h_28, by decide⟩ (q_iconst c_222_18 (v_zret c_222_19 rfl (by decide) (bk_inl (v_if_eq_t (t := 41) c_239_23 rfl (by decide) (q_iconst c_239_41 (q_iconst c_239_42 (q_iconst c_239_43 ?_)))))))
        refine v_cv c_239_44 km_8_203 rfl rfl (nb_ rfl) ⟨⟨rfl, rfl⟩, nb_ rfl, rfl⟩ (nb_ rfl) (nb_ rfl) (q_iload_n c_145_0 rfl (v_if_ne_f (t := 26) c_145_1 rfl (by decide) (q_aload_n c_145_4 rfl (v_gi (z := 0) (v := 0) c_145_5 kf_8_3 rfl (nb_ rfl) rfl rfl (up_e rfl) (v_if_ne_f (t := 26) c_145_8 rfl (by decide) (q_aload_n c_145_11 rfl (q_iload_n c_145_12 rfl ?_)))))))
        refine v_pi (z := 0) c_145_13 kf_8_3 rfl (nb_ rfl) rfl rfl rfl (by decide) (q_aload_n c_145_16 rfl (v_gr (t := 42) c_145_17 kf_8_7 rfl (nb_ rfl) rfl (q_iload_n c_145_20 rfl (q_dup2 c_145_21 ⟨rfl, rfl⟩ ?_))))
        have h_29 := ir_42 hI 1
        refine v_ia (v := c 42 1) c_145_22 rfl (by decide) (by decide) (by decide) ((up_c (nn rfl)).trans (up_c (nn rfl))) (q_iconst c_145_23 (v_iadd (v := c 42 1 + 1) c_145_24 rfl (v_nrm (fun y_30 hy_30 => (v_is c_145_25 rfl (by decide) (by decide) (by decide) (q_aload_n c_145_26 rfl (v_gi (z := 0) (v := 2) c_145_27 kf_8_3 rfl (nb_ rfl) rfl rfl ((up_c (nn rfl)).trans (up_e rfl)) (v_if_ne_t (t := 37) c_145_30 rfl (by decide) ?_))))))))
        refine q_iconst c_145_37 (v_zret c_145_38 rfl (by decide) (bk_inl (v_if_ne_f (t := 52) c_239_47 rfl (by decide) (q_iconst c_239_50 (q_iret c_239_51 rfl ?_)))))
        have hI_31 := iw_41_0 (v := 0) hI ⟨by decide, by decide⟩
        have hI_32 := iw_41_0 (v := 2) hI_31 ⟨by decide, by decide⟩
        have hI_33 := iw_42 (j := 1) (v := y_30) hI_32 ⟨hy_30.1, hy_30.2⟩
        exact K (up (up (up c 41 0 0) 41 0 2) 42 1 y_30) 0 hI_33 (fun a j hm => (up_b (Decidable.or_iff_not_imp_left.mpr (fun h1 h2 => hm (Or.inr (Or.inl (Decidable.not_not.mp h1)))))).trans ((up_b (Decidable.or_iff_not_imp_left.mpr (fun h1 h2 => hm (Or.inl ⟨Decidable.not_not.mp h1, h2⟩)))).trans (up_b (Decidable.or_iff_not_imp_left.mpr (fun h1 h2 => hm (Or.inl ⟨Decidable.not_not.mp h1, h2⟩)))))) ⟨by decide, by decide⟩
      · refine v_if_lt_f (t := 18) c_222_1 rfl ⟨by decide, (Int.not_lt.mp h_28), ha2.2⟩ (q_iload_n c_222_4 rfl (q_iconst c_222_5 (q_aload_n c_222_6 rfl (v_gi (z := 20) (v := c 41 20) c_222_7 kf_8_157 rfl (nb_ rfl) rfl rfl (up_n (by decide)) (v_shl1 c_222_10 ⟨by omega, by omega⟩ (fun y_34 hy_34 => ?_))))))
        by_cases h_35 : a2 ≥ y_34
        · refine v_ic_ge_t (t := 18) c_222_11 rfl ⟨(Int.le_trans (by decide) hy_34.1), h_35, ha2.2⟩ (q_iconst c_222_18 (v_zret c_222_19 rfl (by decide) (bk_inl (v_if_eq_t (t := 41) c_239_23 rfl (by decide) (q_iconst c_239_41 (q_iconst c_239_42 (q_iconst c_239_43 ?_)))))))
          refine v_cv c_239_44 km_8_203 rfl rfl (nb_ rfl) ⟨⟨rfl, rfl⟩, nb_ rfl, rfl⟩ (nb_ rfl) (nb_ rfl) (q_iload_n c_145_0 rfl (v_if_ne_f (t := 26) c_145_1 rfl (by decide) (q_aload_n c_145_4 rfl (v_gi (z := 0) (v := 0) c_145_5 kf_8_3 rfl (nb_ rfl) rfl rfl (up_e rfl) (v_if_ne_f (t := 26) c_145_8 rfl (by decide) (q_aload_n c_145_11 rfl (q_iload_n c_145_12 rfl ?_)))))))
          refine v_pi (z := 0) c_145_13 kf_8_3 rfl (nb_ rfl) rfl rfl rfl (by decide) (q_aload_n c_145_16 rfl (v_gr (t := 42) c_145_17 kf_8_7 rfl (nb_ rfl) rfl (q_iload_n c_145_20 rfl (q_dup2 c_145_21 ⟨rfl, rfl⟩ ?_))))
          have h_36 := ir_42 hI 1
          refine v_ia (v := c 42 1) c_145_22 rfl (by decide) (by decide) (by decide) ((up_c (nn rfl)).trans (up_c (nn rfl))) (q_iconst c_145_23 (v_iadd (v := c 42 1 + 1) c_145_24 rfl (v_nrm (fun y_37 hy_37 => (v_is c_145_25 rfl (by decide) (by decide) (by decide) (q_aload_n c_145_26 rfl (v_gi (z := 0) (v := 2) c_145_27 kf_8_3 rfl (nb_ rfl) rfl rfl ((up_c (nn rfl)).trans (up_e rfl)) (v_if_ne_t (t := 37) c_145_30 rfl (by decide) ?_))))))))
          refine q_iconst c_145_37 (v_zret c_145_38 rfl (by decide) (bk_inl (v_if_ne_f (t := 52) c_239_47 rfl (by decide) (q_iconst c_239_50 (q_iret c_239_51 rfl ?_)))))
          have hI_38 := iw_41_0 (v := 0) hI ⟨by decide, by decide⟩
          have hI_39 := iw_41_0 (v := 2) hI_38 ⟨by decide, by decide⟩
          have hI_40 := iw_42 (j := 1) (v := y_37) hI_39 ⟨hy_37.1, hy_37.2⟩
          exact K (up (up (up c 41 0 0) 41 0 2) 42 1 y_37) 0 hI_40 (fun a j hm => (up_b (Decidable.or_iff_not_imp_left.mpr (fun h1 h2 => hm (Or.inr (Or.inl (Decidable.not_not.mp h1)))))).trans ((up_b (Decidable.or_iff_not_imp_left.mpr (fun h1 h2 => hm (Or.inl ⟨Decidable.not_not.mp h1, h2⟩)))).trans (up_b (Decidable.or_iff_not_imp_left.mpr (fun h1 h2 => hm (Or.inl ⟨Decidable.not_not.mp h1, h2⟩)))))) ⟨by decide, by decide⟩
        · refine v_ic_ge_f (t := 18) c_222_11 rfl ⟨ha2.1, (Int.not_le.mp h_35), (Int.le_trans hy_34.2 (by decide))⟩ (q_iconst c_222_14 (q_goto (t := 19) c_222_15 rfl (v_zret c_222_19 rfl (by decide) (bk_inl (v_if_eq_f (t := 41) c_239_23 rfl (by decide) (q_iload_n c_239_26 rfl (q_iconst c_239_27 ?_)))))))
          refine v_ldcw (n := 99999) c_239_28 rfl (by decide +kernel) (q_call c_239_31 rfl rfl rfl (q_iload_n c_146_0 rfl (q_iload_n c_146_1 rfl ?_)))
          by_cases h_41 : a3 < 0
          · refine v_ic_lt_t (t := 14) c_146_2 rfl ⟨ha3.1, h_41, by decide⟩ (q_iconst c_146_14 (v_zret c_146_15 rfl (by decide) (bk_inl (v_if_eq_t (t := 41) c_239_34 rfl (by decide) (q_iconst c_239_41 (q_iconst c_239_42 (q_iconst c_239_43 ?_)))))))
            refine v_cv c_239_44 km_8_203 rfl rfl (nb_ rfl) ⟨⟨rfl, rfl⟩, nb_ rfl, rfl⟩ (nb_ rfl) (nb_ rfl) (q_iload_n c_145_0 rfl (v_if_ne_f (t := 26) c_145_1 rfl (by decide) (q_aload_n c_145_4 rfl (v_gi (z := 0) (v := 0) c_145_5 kf_8_3 rfl (nb_ rfl) rfl rfl (up_e rfl) (v_if_ne_f (t := 26) c_145_8 rfl (by decide) (q_aload_n c_145_11 rfl (q_iload_n c_145_12 rfl ?_)))))))
            refine v_pi (z := 0) c_145_13 kf_8_3 rfl (nb_ rfl) rfl rfl rfl (by decide) (q_aload_n c_145_16 rfl (v_gr (t := 42) c_145_17 kf_8_7 rfl (nb_ rfl) rfl (q_iload_n c_145_20 rfl (q_dup2 c_145_21 ⟨rfl, rfl⟩ ?_))))
            have h_42 := ir_42 hI 1
            refine v_ia (v := c 42 1) c_145_22 rfl (by decide) (by decide) (by decide) ((up_c (nn rfl)).trans (up_c (nn rfl))) (q_iconst c_145_23 (v_iadd (v := c 42 1 + 1) c_145_24 rfl (v_nrm (fun y_43 hy_43 => (v_is c_145_25 rfl (by decide) (by decide) (by decide) (q_aload_n c_145_26 rfl (v_gi (z := 0) (v := 2) c_145_27 kf_8_3 rfl (nb_ rfl) rfl rfl ((up_c (nn rfl)).trans (up_e rfl)) (v_if_ne_t (t := 37) c_145_30 rfl (by decide) ?_))))))))
            refine q_iconst c_145_37 (v_zret c_145_38 rfl (by decide) (bk_inl (v_if_ne_f (t := 52) c_239_47 rfl (by decide) (q_iconst c_239_50 (q_iret c_239_51 rfl ?_)))))
            have hI_44 := iw_41_0 (v := 0) hI ⟨by decide, by decide⟩
            have hI_45 := iw_41_0 (v := 2) hI_44 ⟨by decide, by decide⟩
            have hI_46 := iw_42 (j := 1) (v := y_43) hI_45 ⟨hy_43.1, hy_43.2⟩
            exact K (up (up (up c 41 0 0) 41 0 2) 42 1 y_43) 0 hI_46 (fun a j hm => (up_b (Decidable.or_iff_not_imp_left.mpr (fun h1 h2 => hm (Or.inr (Or.inl (Decidable.not_not.mp h1)))))).trans ((up_b (Decidable.or_iff_not_imp_left.mpr (fun h1 h2 => hm (Or.inl ⟨Decidable.not_not.mp h1, h2⟩)))).trans (up_b (Decidable.or_iff_not_imp_left.mpr (fun h1 h2 => hm (Or.inl ⟨Decidable.not_not.mp h1, h2⟩)))))) ⟨by decide, by decide⟩
          · refine v_ic_lt_f (t := 14) c_146_2 rfl ⟨by decide, (Int.not_lt.mp h_41), ha3.2⟩ (q_iload_n c_146_5 rfl (q_iload_n c_146_6 rfl ?_))
            by_cases h_47 : a3 > 99999
            · refine v_ic_gt_t (t := 14) c_146_7 rfl ⟨by decide, h_47, ha3.2⟩ (q_iconst c_146_14 (v_zret c_146_15 rfl (by decide) (bk_inl (v_if_eq_t (t := 41) c_239_34 rfl (by decide) (q_iconst c_239_41 (q_iconst c_239_42 (q_iconst c_239_43 ?_)))))))
              refine v_cv c_239_44 km_8_203 rfl rfl (nb_ rfl) ⟨⟨rfl, rfl⟩, nb_ rfl, rfl⟩ (nb_ rfl) (nb_ rfl) (q_iload_n c_145_0 rfl (v_if_ne_f (t := 26) c_145_1 rfl (by decide) (q_aload_n c_145_4 rfl (v_gi (z := 0) (v := 0) c_145_5 kf_8_3 rfl (nb_ rfl) rfl rfl (up_e rfl) (v_if_ne_f (t := 26) c_145_8 rfl (by decide) (q_aload_n c_145_11 rfl (q_iload_n c_145_12 rfl ?_)))))))
              refine v_pi (z := 0) c_145_13 kf_8_3 rfl (nb_ rfl) rfl rfl rfl (by decide) (q_aload_n c_145_16 rfl (v_gr (t := 42) c_145_17 kf_8_7 rfl (nb_ rfl) rfl (q_iload_n c_145_20 rfl (q_dup2 c_145_21 ⟨rfl, rfl⟩ ?_))))
              have h_48 := ir_42 hI 1
              refine v_ia (v := c 42 1) c_145_22 rfl (by decide) (by decide) (by decide) ((up_c (nn rfl)).trans (up_c (nn rfl))) (q_iconst c_145_23 (v_iadd (v := c 42 1 + 1) c_145_24 rfl (v_nrm (fun y_49 hy_49 => (v_is c_145_25 rfl (by decide) (by decide) (by decide) (q_aload_n c_145_26 rfl (v_gi (z := 0) (v := 2) c_145_27 kf_8_3 rfl (nb_ rfl) rfl rfl ((up_c (nn rfl)).trans (up_e rfl)) (v_if_ne_t (t := 37) c_145_30 rfl (by decide) ?_))))))))
              refine q_iconst c_145_37 (v_zret c_145_38 rfl (by decide) (bk_inl (v_if_ne_f (t := 52) c_239_47 rfl (by decide) (q_iconst c_239_50 (q_iret c_239_51 rfl ?_)))))
              have hI_50 := iw_41_0 (v := 0) hI ⟨by decide, by decide⟩
              have hI_51 := iw_41_0 (v := 2) hI_50 ⟨by decide, by decide⟩
              have hI_52 := iw_42 (j := 1) (v := y_49) hI_51 ⟨hy_49.1, hy_49.2⟩
              exact K (up (up (up c 41 0 0) 41 0 2) 42 1 y_49) 0 hI_52 (fun a j hm => (up_b (Decidable.or_iff_not_imp_left.mpr (fun h1 h2 => hm (Or.inr (Or.inl (Decidable.not_not.mp h1)))))).trans ((up_b (Decidable.or_iff_not_imp_left.mpr (fun h1 h2 => hm (Or.inl ⟨Decidable.not_not.mp h1, h2⟩)))).trans (up_b (Decidable.or_iff_not_imp_left.mpr (fun h1 h2 => hm (Or.inl ⟨Decidable.not_not.mp h1, h2⟩)))))) ⟨by decide, by decide⟩
            · refine v_ic_gt_f (t := 14) c_146_7 rfl ⟨ha3.1, (Int.not_lt.mp h_47), by decide⟩ (q_iconst c_146_10 (q_goto (t := 15) c_146_11 rfl (v_zret c_146_15 rfl (by decide) (bk_inl (v_if_eq_f (t := 41) c_239_34 rfl (by decide) (q_iconst c_239_37 (q_goto (t := 42) c_239_38 rfl ?_)))))))
              refine q_iconst c_239_42 (q_iconst c_239_43 (v_cv c_239_44 km_8_203 rfl rfl (nb_ rfl) ⟨⟨rfl, rfl⟩, nb_ rfl, rfl⟩ (nb_ rfl) (nb_ rfl) (q_iload_n c_145_0 rfl (v_if_ne_t (t := 26) c_145_1 rfl (by decide) (q_aload_n c_145_26 rfl (v_gi (z := 0) (v := 0) c_145_27 kf_8_3 rfl (nb_ rfl) rfl rfl (up_e rfl) (v_if_ne_f (t := 37) c_145_30 rfl (by decide) ?_)))))))
              refine q_iconst c_145_33 (q_goto (t := 38) c_145_34 rfl (v_zret c_145_38 rfl (by decide) (bk_inl (v_if_ne_t (t := 52) c_239_47 rfl (by decide) (q_aload_n c_239_52 rfl ?_)))))
              have hI_53 := iw_41_0 (v := 0) hI ⟨by decide, by decide⟩
              refine v_cv c_239_53 km_8_317 rfl rfl (nb_ rfl) ⟨⟨rfl, rfl⟩, nb_ rfl, rfl⟩ (nb_ rfl) (nb_ rfl) (s_186 hI_53 (fun c_54 hI_55 hF_56 => (bk_inl (v_sip c_239_56 (by decide) (q_istore c_239_59 (nb_ rfl) (v_sip c_239_61 (by decide) (q_istore c_239_64 (nb_ rfl) (Wp_ls [(0, .ref 41), (1, vi a1), (2, vi a2), (3, vi a3), (4, vi 9999), (5, vi 8192)] (lsub_cons rfl (lsub_cons rfl (lsub_cons rfl (lsub_cons rfl (lsub_cons rfl (lsub_cons rfl lsub_nil)))))) ?_))))))))
              exact (s_239_l (sc := sc) (d := d) hI ha1 ha2 ha3 K 163884581).1 c_54 9999 8192 hI_55 (fun a j hm => (hF_56 a j (fun h => hm (Or.inr (Or.inr h)))).trans (up_b (Decidable.or_iff_not_imp_left.mpr (fun h1 h2 => hm (Or.inl ⟨Decidable.not_not.mp h1, h2⟩))))) ⟨by decide, by decide⟩ ⟨by decide, by decide⟩ ⟨by first | exact q_720657ba9 h_16 | omega, by first | exact q_3a2e67ab0 h_15 h_22 | omega⟩ (by omega)

set_option maxRecDepth 100000 in
set_option maxHeartbeats 4000000 in
theorem s_240_l {sc : List Int32} {d P Q : Nat} {c : ME} {a1 : Int} {Z : AR → Prop} (hI : Iv 0 (-1) P Q c) (ha1 : (-2147483648) ≤ a1 ∧ a1 ≤ 2147483647) (K : ∀ (c2 : ME) (y : Int), Iv 0 (-1) P Q c2 → (∀ (a : Nat) (j : Int), ¬ ((a = 41 ∧ j = 0) ∨ a = 42 ∨ a = 59 ∨ a = 54 ∨ a = 55) → c2 a j = c a j) → (-2147483648) ≤ y ∧ y ≤ 2147483647 → Z (.inl (some (vi y)), Wd P Q P P c2, 0, 0)) : ∀ n : Nat, (∀ (c2 : ME) (v2 : Int) (v3 : Int), Iv 0 (-1) P Q c2 → (∀ (a : Nat) (j : Int), ¬ ((a = 41 ∧ j = 0) ∨ a = 42 ∨ a = 59 ∨ a = 54 ∨ a = 55) → c2 a j = c a j) → (-1) ≤ v2 ∧ v2 ≤ 5 → 0 ≤ v3 ∧ v3 ≤ 6 → 13 - 2 * v3 < (n : Int) → Wp sc (d + 12) 240 30 [(0, .ref 41), (1, vi a1), (2, vi v2), (3, vi v3)] [] (Wd P Q P P c2) 0 0 Z) := by
  intro n
  induction n with
  | zero => exact (by intro c2 v2 v3 hI2 hF hv2 hv3 hm9; have hP := iv_P hI; have hQ := iv_Q hI; exfalso; omega)
  | succ n ih =>
    have hP := iv_P hI
    have hQ := iv_Q hI
    intro c2 v2 v3 hI2 hF hv2 hv3 hm9
    refine q_iload_n c_240_30 rfl (q_aload_n c_240_31 rfl ?_)
    have h_1 := ir_41_20 hI
    have kn_2 : Hid (c2 41 20 = c 41 20) := hF 41 20 qn_d0753a96c
    refine v_gi (z := 20) (v := c 41 20) c_240_32 kf_8_157 rfl (nb_ rfl) rfl rfl (hid kn_2) ?_
    by_cases h_3 : v3 ≥ c 41 20
    · refine v_ic_ge_t (t := 72) c_240_35 rfl ⟨by first | exact q_730ab5169 h_1 | omega, h_3, (Int.le_trans hv3.2 (by decide))⟩ (q_iload_n c_240_72 rfl ?_)
      by_cases h_4 : a1 = 0
      · refine v_if_eq_t (t := 81) c_240_73 rfl h_4 (q_iload_n c_240_81 rfl (q_goto (t := 90) c_240_82 rfl (q_iret c_240_90 rfl ?_)))
        exact K c2 v2 hI2 (fun a j hm => hF a j hm) ⟨(Int.le_trans (by decide) hv2.1), (Int.le_trans hv2.2 (by decide))⟩
      · refine v_if_eq_f (t := 81) c_240_73 rfl ⟨h_4, ⟨ha1.1, ha1.2⟩, by decide, by decide⟩ (q_iload_n c_240_76 rfl (q_iconst c_240_77 ?_))
        by_cases h_5 : v2 ≠ (-1)
        · refine v_ic_ne_t (t := 85) c_240_78 rfl ⟨h_5, ⟨(Int.le_trans (by decide) hv2.1), (Int.le_trans hv2.2 (by decide))⟩, by decide, by decide⟩ (q_aload_n c_240_85 rfl (q_iload_n c_240_86 rfl (v_cv c_240_87 km_8_375 rfl rfl (nb_ rfl) ⟨⟨rfl, rfl⟩, nb_ rfl, rfl⟩ (nb_ rfl) (nb_ rfl) (s_196 (a1 := v2) hI2 (show 0 ≤ v2 ∧ v2 ≤ 5 from ⟨by first | exact q_8754394d5 h_5 hv2 | omega, hv2.2⟩) (fun c_6 y_9 hI_7 hF_8 hy_9 => (bk_inl (q_iret c_240_90 rfl ?_)))))))
          exact K c_6 y_9 hI_7 (fun a j hm => (hF_8 a j (qv_bcc235c24 hm)).trans (hF a j hm)) ⟨(Int.le_trans (by decide) hy_9.1), (Int.le_trans hy_9.2 (by decide))⟩
        · refine v_ic_ne_f (t := 85) c_240_78 rfl (Decidable.not_not.mp h_5) (q_iload_n c_240_81 rfl (q_goto (t := 90) c_240_82 rfl (q_iret c_240_90 rfl ?_)))
          exact K c2 v2 hI2 (fun a j hm => hF a j hm) ⟨(Int.le_trans (by decide) hv2.1), (Int.le_trans hv2.2 (by decide))⟩
    · refine v_ic_ge_f (t := 72) c_240_35 rfl ⟨(Int.le_trans (by decide) hv3.1), (Int.not_le.mp h_3), by first | exact q_b289b7db2 h_1 | omega⟩ (q_aload_n c_240_38 rfl (q_iload_n c_240_39 rfl ?_))
      have h_10 := ir_59_g hI2 (j := 4 * v3) (by first | exact q_aa51b186e h_1 h_3 | omega)
      have h_11 := ir_59_g hI2 (j := 4 * v3 + 1) (by first | exact q_57851f9de h_1 h_3 | omega)
      have h_12 := ir_59_g hI2 (j := 4 * v3 + 2) (by first | exact q_7296e74e6 h_1 h_3 | omega)
      have h_13 := ir_59_g hI2 (j := 4 * v3 + 3) (by first | exact q_b15525c4c h_1 h_3 | omega)
      refine v_cv c_240_40 km_8_343 rfl rfl (nb_ rfl) ⟨⟨rfl, rfl⟩, nb_ rfl, rfl⟩ (nb_ rfl) (nb_ rfl) (s_187 (v1 := c2 59 (4 * v3)) (v2 := c2 59 (4 * v3 + 1)) (v3 := c2 59 (4 * v3 + 2)) (v4 := c2 59 (4 * v3 + 3)) (r := c2 59 (4 * v3 + 1) + c2 59 (4 * v3 + 2) + c2 59 (4 * v3 + 3) + c2 59 (4 * v3)) (a1 := v3) hI2 (show 0 ≤ v3 ∧ v3 ≤ 5 from ⟨hv3.1, by first | exact q_d63a8538e h_1 h_3 | omega⟩) (rfl) (rfl) (rfl) (rfl) (by omega) (bk_inl ?_))
      by_cases h_14 : c2 59 (4 * v3 + 1) + c2 59 (4 * v3 + 2) + c2 59 (4 * v3 + 3) + c2 59 (4 * v3) ≤ 0
      · refine v_if_le_t (t := 66) c_240_43 rfl ⟨by first | exact q_e052ef40e h_10 h_11 h_12 h_13 | omega, h_14, by decide⟩ (v_iinc (v := v3 + 1) c_240_66 rfl (nb_ rfl) rfl (q_goto (t := 30) c_240_69 rfl (Wp_ls [(0, .ref 41), (1, vi a1), (2, vi v2), (3, vi (v3 + 1))] (lsub_cons rfl (lsub_cons rfl (lsub_cons rfl (lsub_cons rfl lsub_nil)))) ?_)))
        exact ih c2 v2 (v3 + 1) hI2 (fun a j hm => hF a j hm) hv2 ⟨by first | exact rgp_l hv3.1 (by decide) | omega, by first | exact q_4a76cd9c7 h_1 h_3 | omega⟩ (by omega)
      · refine v_if_le_f (t := 66) c_240_43 rfl ⟨by decide, (Int.not_le.mp h_14), by first | exact q_db9ef1f4a h_10 h_11 h_12 h_13 | omega⟩ (q_iload_n c_240_46 rfl (q_iconst c_240_47 ?_))
        by_cases h_15 : v2 = (-1)
        · refine v_ic_eq_t (t := 64) c_240_48 rfl h_15 (q_iload_n c_240_64 rfl (q_istore_n c_240_65 (nb_ rfl) (v_iinc (v := v3 + 1) c_240_66 rfl (nb_ rfl) rfl (q_goto (t := 30) c_240_69 rfl (Wp_ls [(0, .ref 41), (1, vi a1), (2, vi v3), (3, vi (v3 + 1))] (lsub_cons rfl (lsub_cons rfl (lsub_cons rfl (lsub_cons rfl lsub_nil)))) ?_)))))
          exact ih c2 v3 (v3 + 1) hI2 (fun a j hm => hF a j hm) ⟨(Int.le_trans (by decide) hv3.1), by first | exact q_d63a8538e h_1 h_3 | omega⟩ ⟨by first | exact rgp_l hv3.1 (by decide) | omega, by first | exact q_4a76cd9c7 h_1 h_3 | omega⟩ (by omega)
        · refine v_ic_eq_f (t := 64) c_240_48 rfl ⟨h_15, ⟨(Int.le_trans (by decide) hv2.1), (Int.le_trans hv2.2 (by decide))⟩, by decide, by decide⟩ (q_aload_n c_240_51 rfl (q_iload_n c_240_52 rfl (v_cv c_240_53 km_8_375 rfl rfl (nb_ rfl) ⟨⟨rfl, rfl⟩, nb_ rfl, rfl⟩ (nb_ rfl) (nb_ rfl) (s_196 (a1 := v3) hI2 (show 0 ≤ v3 ∧ v3 ≤ 5 from ⟨hv3.1, by first | exact q_d63a8538e h_1 h_3 | omega⟩) (fun c_16 y_19 hI_17 hF_18 hy_19 => (bk_inl (q_aload_n c_240_56 rfl (q_iload_n c_240_57 rfl (v_cv c_240_58 km_8_375 rfl rfl (nb_ rfl) ⟨⟨rfl, rfl⟩, nb_ rfl, rfl⟩ (nb_ rfl) (nb_ rfl) (s_196 (a1 := v2) hI_17 (show 0 ≤ v2 ∧ v2 ≤ 5 from ⟨by first | exact q_a0327fb45 h_15 hv2 | omega, hv2.2⟩) (fun c_20 y_23 hI_21 hF_22 hy_23 => ?_)))))))))))
          refine bk_inl ?_
          by_cases h_24 : y_19 ≤ y_23
          · refine v_ic_le_t (t := 66) c_240_61 rfl ⟨(Int.le_trans (by decide) hy_19.1), h_24, (Int.le_trans hy_23.2 (by decide))⟩ (v_iinc (v := v3 + 1) c_240_66 rfl (nb_ rfl) rfl (q_goto (t := 30) c_240_69 rfl (Wp_ls [(0, .ref 41), (1, vi a1), (2, vi v2), (3, vi (v3 + 1))] (lsub_cons rfl (lsub_cons rfl (lsub_cons rfl (lsub_cons rfl lsub_nil)))) ?_)))
            exact ih c_20 v2 (v3 + 1) hI_21 (fun a j hm => (hF_22 a j (qv_bcc235c24 hm)).trans ((hF_18 a j (qv_bcc235c24 hm)).trans (hF a j hm))) hv2 ⟨by first | exact rgp_l hv3.1 (by decide) | omega, by first | exact q_4a76cd9c7 h_1 h_3 | omega⟩ (by omega)
          · refine v_ic_le_f (t := 66) c_240_61 rfl ⟨(Int.le_trans (by decide) hy_23.1), (Int.not_le.mp h_24), (Int.le_trans hy_19.2 (by decide))⟩ (q_iload_n c_240_64 rfl (q_istore_n c_240_65 (nb_ rfl) (v_iinc (v := v3 + 1) c_240_66 rfl (nb_ rfl) rfl (q_goto (t := 30) c_240_69 rfl (Wp_ls [(0, .ref 41), (1, vi a1), (2, vi v3), (3, vi (v3 + 1))] (lsub_cons rfl (lsub_cons rfl (lsub_cons rfl (lsub_cons rfl lsub_nil)))) ?_)))))
            exact ih c_20 v3 (v3 + 1) hI_21 (fun a j hm => (hF_22 a j (qv_bcc235c24 hm)).trans ((hF_18 a j (qv_bcc235c24 hm)).trans (hF a j hm))) ⟨(Int.le_trans (by decide) hv3.1), by first | exact q_d63a8538e h_1 h_3 | omega⟩ ⟨by first | exact rgp_l hv3.1 (by decide) | omega, by first | exact q_4a76cd9c7 h_1 h_3 | omega⟩ (by omega)
set_option maxRecDepth 100000 in
set_option maxHeartbeats 4000000 in
theorem s_240 {sc : List Int32} {d P Q : Nat} {c : ME} {a1 : Int} {Z : AR → Prop} (hI : Iv 0 (-1) P Q c) (ha1 : (-2147483648) ≤ a1 ∧ a1 ≤ 2147483647) (K : ∀ (c2 : ME) (y : Int), Iv 0 (-1) P Q c2 → (∀ (a : Nat) (j : Int), ¬ ((a = 41 ∧ j = 0) ∨ a = 42 ∨ a = 59 ∨ a = 54 ∨ a = 55) → c2 a j = c a j) → (-2147483648) ≤ y ∧ y ≤ 2147483647 → Z (.inl (some (vi y)), Wd P Q P P c2, 0, 0)) : Wp sc (d + 12) 240 0 [(0, .ref 41), (1, vi a1)] [] (Wd P Q P P c) 0 0 Z := by
  have hP := iv_P hI
  have hQ := iv_Q hI
  refine q_aload_n c_240_0 rfl (q_iconst c_240_1 (v_pi (z := 0) c_240_2 kf_8_3 rfl (nb_ rfl) rfl rfl rfl (by decide) (q_aload_n c_240_5 rfl (q_iload_n c_240_6 rfl (q_iconst c_240_7 (q_iconst c_240_8 (q_call c_240_9 rfl rfl rfl ?_)))))))
  refine q_iload_n c_146_0 rfl (q_iload_n c_146_1 rfl ?_)
  by_cases h_25 : a1 < 0
  · refine v_ic_lt_t (t := 14) c_146_2 rfl ⟨ha1.1, h_25, by decide⟩ (q_iconst c_146_14 (v_zret c_146_15 rfl (by decide) (bk_inl (q_iconst c_240_12 (q_iconst c_240_13 (v_cv c_240_14 km_8_203 rfl rfl (nb_ rfl) ⟨⟨rfl, rfl⟩, nb_ rfl, rfl⟩ (nb_ rfl) (nb_ rfl) (q_iload_n c_145_0 rfl ?_)))))))
    refine v_if_ne_f (t := 26) c_145_1 rfl (by decide) (q_aload_n c_145_4 rfl (v_gi (z := 0) (v := 0) c_145_5 kf_8_3 rfl (nb_ rfl) rfl rfl (up_e rfl) (v_if_ne_f (t := 26) c_145_8 rfl (by decide) (q_aload_n c_145_11 rfl (q_iload_n c_145_12 rfl (v_pi (z := 0) c_145_13 kf_8_3 rfl (nb_ rfl) rfl rfl rfl (by decide) (q_aload_n c_145_16 rfl ?_)))))))
    refine v_gr (t := 42) c_145_17 kf_8_7 rfl (nb_ rfl) rfl (q_iload_n c_145_20 rfl (q_dup2 c_145_21 ⟨rfl, rfl⟩ ?_))
    have h_26 := ir_42 hI 1
    refine v_ia (v := c 42 1) c_145_22 rfl (by decide) (by decide) (by decide) ((up_c (nn rfl)).trans (up_c (nn rfl))) (q_iconst c_145_23 (v_iadd (v := c 42 1 + 1) c_145_24 rfl (v_nrm (fun y_27 hy_27 => (v_is c_145_25 rfl (by decide) (by decide) (by decide) (q_aload_n c_145_26 rfl (v_gi (z := 0) (v := 1) c_145_27 kf_8_3 rfl (nb_ rfl) rfl rfl ((up_c (nn rfl)).trans (up_e rfl)) (v_if_ne_t (t := 37) c_145_30 rfl (by decide) ?_))))))))
    refine q_iconst c_145_37 (v_zret c_145_38 rfl (by decide) (bk_inl (v_if_ne_f (t := 22) c_240_17 rfl (by decide) (q_iconst c_240_20 (q_iret c_240_21 rfl ?_)))))
    have hI_28 := iw_41_0 (v := 0) hI ⟨by decide, by decide⟩
    have hI_29 := iw_41_0 (v := 1) hI_28 ⟨by decide, by decide⟩
    have hI_30 := iw_42 (j := 1) (v := y_27) hI_29 ⟨hy_27.1, hy_27.2⟩
    exact K (up (up (up c 41 0 0) 41 0 1) 42 1 y_27) 0 hI_30 (fun a j hm => (up_b (Decidable.or_iff_not_imp_left.mpr (fun h1 h2 => hm (Or.inr (Or.inl (Decidable.not_not.mp h1)))))).trans ((up_b (Decidable.or_iff_not_imp_left.mpr (fun h1 h2 => hm (Or.inl ⟨Decidable.not_not.mp h1, h2⟩)))).trans (up_b (Decidable.or_iff_not_imp_left.mpr (fun h1 h2 => hm (Or.inl ⟨Decidable.not_not.mp h1, h2⟩)))))) ⟨by decide, by decide⟩
  · refine v_ic_lt_f (t := 14) c_146_2 rfl ⟨by decide, (Int.not_lt.mp h_25), ha1.2⟩ (q_iload_n c_146_5 rfl (q_iload_n c_146_6 rfl ?_))
    by_cases h_31 : a1 > 1
    · refine v_ic_gt_t (t := 14) c_146_7 rfl ⟨by decide, h_31, ha1.2⟩ (q_iconst c_146_14 (v_zret c_146_15 rfl (by decide) (bk_inl (q_iconst c_240_12 (q_iconst c_240_13 (v_cv c_240_14 km_8_203 rfl rfl (nb_ rfl) ⟨⟨rfl, rfl⟩, nb_ rfl, rfl⟩ (nb_ rfl) (nb_ rfl) (q_iload_n c_145_0 rfl ?_)))))))
      refine v_if_ne_f (t := 26) c_145_1 rfl (by decide) (q_aload_n c_145_4 rfl (v_gi (z := 0) (v := 0) c_145_5 kf_8_3 rfl (nb_ rfl) rfl rfl (up_e rfl) (v_if_ne_f (t := 26) c_145_8 rfl (by decide) (q_aload_n c_145_11 rfl (q_iload_n c_145_12 rfl (v_pi (z := 0) c_145_13 kf_8_3 rfl (nb_ rfl) rfl rfl rfl (by decide) (q_aload_n c_145_16 rfl ?_)))))))
      refine v_gr (t := 42) c_145_17 kf_8_7 rfl (nb_ rfl) rfl (q_iload_n c_145_20 rfl (q_dup2 c_145_21 ⟨rfl, rfl⟩ ?_))
      have h_32 := ir_42 hI 1
      refine v_ia (v := c 42 1) c_145_22 rfl (by decide) (by decide) (by decide) ((up_c (nn rfl)).trans (up_c (nn rfl))) (q_iconst c_145_23 (v_iadd (v := c 42 1 + 1) c_145_24 rfl (v_nrm (fun y_33 hy_33 => (v_is c_145_25 rfl (by decide) (by decide) (by decide) (q_aload_n c_145_26 rfl (v_gi (z := 0) (v := 1) c_145_27 kf_8_3 rfl (nb_ rfl) rfl rfl ((up_c (nn rfl)).trans (up_e rfl)) (v_if_ne_t (t := 37) c_145_30 rfl (by decide) ?_))))))))
      refine q_iconst c_145_37 (v_zret c_145_38 rfl (by decide) (bk_inl (v_if_ne_f (t := 22) c_240_17 rfl (by decide) (q_iconst c_240_20 (q_iret c_240_21 rfl ?_)))))
      have hI_34 := iw_41_0 (v := 0) hI ⟨by decide, by decide⟩
      have hI_35 := iw_41_0 (v := 1) hI_34 ⟨by decide, by decide⟩
      have hI_36 := iw_42 (j := 1) (v := y_33) hI_35 ⟨hy_33.1, hy_33.2⟩
      exact K (up (up (up c 41 0 0) 41 0 1) 42 1 y_33) 0 hI_36 (fun a j hm => (up_b (Decidable.or_iff_not_imp_left.mpr (fun h1 h2 => hm (Or.inr (Or.inl (Decidable.not_not.mp h1)))))).trans ((up_b (Decidable.or_iff_not_imp_left.mpr (fun h1 h2 => hm (Or.inl ⟨Decidable.not_not.mp h1, h2⟩)))).trans (up_b (Decidable.or_iff_not_imp_left.mpr (fun h1 h2 => hm (Or.inl ⟨Decidable.not_not.mp h1, h2⟩)))))) ⟨by decide, by decide⟩
    · refine v_ic_gt_f (t := 14) c_146_7 rfl ⟨ha1.1, (Int.not_lt.mp h_31), by decide⟩ (q_iconst c_146_10 (q_goto (t := 15) c_146_11 rfl (v_zret c_146_15 rfl (by decide) (bk_inl (q_iconst c_240_12 (q_iconst c_240_13 (v_cv c_240_14 km_8_203 rfl rfl (nb_ rfl) ⟨⟨rfl, rfl⟩, nb_ rfl, rfl⟩ (nb_ rfl) (nb_ rfl) ?_)))))))
      refine q_iload_n c_145_0 rfl (v_if_ne_t (t := 26) c_145_1 rfl (by decide) (q_aload_n c_145_26 rfl (v_gi (z := 0) (v := 0) c_145_27 kf_8_3 rfl (nb_ rfl) rfl rfl (up_e rfl) (v_if_ne_f (t := 37) c_145_30 rfl (by decide) (q_iconst c_145_33 (q_goto (t := 38) c_145_34 rfl (v_zret c_145_38 rfl (by decide) ?_)))))))
      refine bk_inl (v_if_ne_t (t := 22) c_240_17 rfl (by decide) (q_aload_n c_240_22 rfl ?_))
      have hI_37 := iw_41_0 (v := 0) hI ⟨by decide, by decide⟩
      refine v_cv c_240_23 km_8_317 rfl rfl (nb_ rfl) ⟨⟨rfl, rfl⟩, nb_ rfl, rfl⟩ (nb_ rfl) (nb_ rfl) (s_186 hI_37 (fun c_38 hI_39 hF_40 => (bk_inl (q_iconst c_240_26 (q_istore_n c_240_27 (nb_ rfl) (q_iconst c_240_28 (q_istore_n c_240_29 (nb_ rfl) (Wp_ls [(0, .ref 41), (1, vi a1), (2, vi (-1)), (3, vi 0)] (lsub_cons rfl (lsub_cons rfl (lsub_cons rfl (lsub_cons rfl lsub_nil)))) ?_))))))))
      exact (s_240_l (sc := sc) (d := d) hI ha1 K 16) c_38 (-1) 0 hI_39 (fun a j hm => (hF_40 a j (fun h => hm (Or.inr (Or.inr (Or.inl h))))).trans (up_b (Decidable.or_iff_not_imp_left.mpr (fun h1 h2 => hm (Or.inl ⟨Decidable.not_not.mp h1, h2⟩))))) ⟨by decide, by decide⟩ ⟨by decide, by decide⟩ (by omega)

set_option maxRecDepth 100000 in
set_option maxHeartbeats 4000000 in
theorem s_241_l {sc : List Int32} {d P Q : Nat} {c : ME} {Z : AR → Prop} (hI : Iv 0 (-1) P Q c)  (K : ∀ (c2 : ME) (y : Int), Iv 0 (-1) P Q c2 → (∀ (a : Nat) (j : Int), ¬ ((a = 41 ∧ j = 0) ∨ a = 59 ∨ a = 54 ∨ a = 55) → c2 a j = c a j) → (-2147483648) ≤ y ∧ y ≤ 2147483647 → Z (.inl (some (vi y)), Wd P Q P P c2, 0, 0)) : ∀ n : Nat, (∀ (c2 : ME) (v1 : Int) (v2 : Int), Iv 0 (-1) P Q c2 → (∀ (a : Nat) (j : Int), ¬ ((a = 41 ∧ j = 0) ∨ a = 59 ∨ a = 54 ∨ a = 55) → c2 a j = c a j) → (-2147483648) ≤ v1 ∧ v1 ≤ 2147483647 → 0 ≤ v2 ∧ v2 ≤ 6 → 13 - 2 * v2 < (n : Int) → Wp sc (d + 13) 241 13 [(0, .ref 41), (1, vi v1), (2, vi v2)] [] (Wd P Q P P c2) 0 0 Z) := by
  intro n
  induction n with
  | zero => exact (by intro c2 v1 v2 hI2 hF hv1 hv2 hm9; have hP := iv_P hI; have hQ := iv_Q hI; exfalso; omega)
  | succ n ih =>
    have hP := iv_P hI
    have hQ := iv_Q hI
    intro c2 v1 v2 hI2 hF hv1 hv2 hm9
    refine q_iload_n c_241_13 rfl (q_aload_n c_241_14 rfl ?_)
    have h_1 := ir_41_20 hI
    have kn_2 : Hid (c2 41 20 = c 41 20) := hF 41 20 qn_4a675523d
    refine v_gi (z := 20) (v := c 41 20) c_241_15 kf_8_157 rfl (nb_ rfl) rfl rfl (hid kn_2) ?_
    by_cases h_3 : v2 ≥ c 41 20
    · refine v_ic_ge_t (t := 45) c_241_18 rfl ⟨by first | exact q_730ab5169 h_1 | omega, h_3, (Int.le_trans hv2.2 (by decide))⟩ (q_iload_n c_241_45 rfl (q_iret c_241_46 rfl ?_))
      exact K c2 v1 hI2 (fun a j hm => hF a j hm) hv1
    · refine v_ic_ge_f (t := 45) c_241_18 rfl ⟨(Int.le_trans (by decide) hv2.1), (Int.not_le.mp h_3), by first | exact q_b289b7db2 h_1 | omega⟩ (q_iload_n c_241_21 rfl (q_aload_n c_241_22 rfl (q_iload_n c_241_23 rfl (v_cv c_241_24 km_8_378 rfl rfl (nb_ rfl) ⟨⟨rfl, rfl⟩, nb_ rfl, rfl⟩ (nb_ rfl) (nb_ rfl) (s_197 (a1 := v2) hI2 (show 0 ≤ v2 ∧ v2 ≤ 5 from ⟨hv2.1, by first | exact q_d63a8538e h_1 h_3 | omega⟩) (fun c_4 y_7 hI_5 hF_6 hy_7 => (bk_inl ?_)))))))
      by_cases h_8 : y_7 = 0
      · refine v_if_eq_t (t := 36) c_241_27 rfl h_8 (q_iconst c_241_36 (v_iorx c_241_37 (fun y_9 hy_9 => (q_istore_n c_241_38 (nb_ rfl) (v_iinc (v := v2 + 1) c_241_39 rfl (nb_ rfl) rfl (q_goto (t := 13) c_241_42 rfl (Wp_ls [(0, .ref 41), (1, vi y_9), (2, vi (v2 + 1))] (lsub_cons rfl (lsub_cons rfl (lsub_cons rfl lsub_nil))) ?_)))))))
        exact ih c_4 y_9 (v2 + 1) hI_5 (fun a j hm => (hF_6 a j (qv_5438e30b4 hm)).trans (hF a j hm)) hy_9 ⟨by first | exact rgp_l hv2.1 (by decide) | omega, by first | exact q_4a76cd9c7 h_1 h_3 | omega⟩ (by omega)
      · refine v_if_eq_f (t := 36) c_241_27 rfl ⟨h_8, ⟨(Int.le_trans (by decide) hy_7.1), (Int.le_trans hy_7.2 (by decide))⟩, by decide, by decide⟩ (q_iconst c_241_30 (q_iload_n c_241_31 rfl (v_shl1 c_241_32 ⟨by omega, by omega⟩ (fun y_10 hy_10 => (q_goto (t := 37) c_241_33 rfl (v_iorx c_241_37 (fun y_11 hy_11 => (q_istore_n c_241_38 (nb_ rfl) (v_iinc (v := v2 + 1) c_241_39 rfl (nb_ rfl) rfl ?_)))))))))
        refine q_goto (t := 13) c_241_42 rfl (Wp_ls [(0, .ref 41), (1, vi y_11), (2, vi (v2 + 1))] (lsub_cons rfl (lsub_cons rfl (lsub_cons rfl lsub_nil))) ?_)
        exact ih c_4 y_11 (v2 + 1) hI_5 (fun a j hm => (hF_6 a j (qv_5438e30b4 hm)).trans (hF a j hm)) hy_11 ⟨by first | exact rgp_l hv2.1 (by decide) | omega, by first | exact q_4a76cd9c7 h_1 h_3 | omega⟩ (by omega)
set_option maxRecDepth 100000 in
set_option maxHeartbeats 4000000 in
theorem s_241 {sc : List Int32} {d P Q : Nat} {c : ME} {Z : AR → Prop} (hI : Iv 0 (-1) P Q c)  (K : ∀ (c2 : ME) (y : Int), Iv 0 (-1) P Q c2 → (∀ (a : Nat) (j : Int), ¬ ((a = 41 ∧ j = 0) ∨ a = 59 ∨ a = 54 ∨ a = 55) → c2 a j = c a j) → (-2147483648) ≤ y ∧ y ≤ 2147483647 → Z (.inl (some (vi y)), Wd P Q P P c2, 0, 0)) : Wp sc (d + 13) 241 0 [(0, .ref 41)] [] (Wd P Q P P c) 0 0 Z := by
  have hP := iv_P hI
  have hQ := iv_Q hI
  refine q_aload_n c_241_0 rfl (q_iconst c_241_1 (v_pi (z := 0) c_241_2 kf_8_3 rfl (nb_ rfl) rfl rfl rfl (by decide) (q_aload_n c_241_5 rfl ?_)))
  have hI_12 := iw_41_0 (v := 0) hI ⟨by decide, by decide⟩
  refine v_cv c_241_6 km_8_317 rfl rfl (nb_ rfl) ⟨⟨rfl, rfl⟩, nb_ rfl, rfl⟩ (nb_ rfl) (nb_ rfl) (s_186 hI_12 (fun c_13 hI_14 hF_15 => (bk_inl (q_iconst c_241_9 (q_istore_n c_241_10 (nb_ rfl) (q_iconst c_241_11 (q_istore_n c_241_12 (nb_ rfl) (Wp_ls [(0, .ref 41), (1, vi 0), (2, vi 0)] (lsub_cons rfl (lsub_cons rfl (lsub_cons rfl lsub_nil))) ?_))))))))
  exact (s_241_l (sc := sc) (d := d) hI K 16) c_13 0 0 hI_14 (fun a j hm => (hF_15 a j (fun h => hm (Or.inr (Or.inl h)))).trans (up_b (Decidable.or_iff_not_imp_left.mpr (fun h1 h2 => hm (Or.inl ⟨Decidable.not_not.mp h1, h2⟩))))) ⟨by decide, by decide⟩ ⟨by decide, by decide⟩ (by omega)

set_option maxRecDepth 100000 in
set_option maxHeartbeats 4000000 in
theorem s_242 {sc : List Int32} {d P Q : Nat} {c : ME} {a1 : Int} {a2 : Int} {Z : AR → Prop} (hI : Iv 0 (-1) P Q c) (ha1 : (-2147483648) ≤ a1 ∧ a1 ≤ 2147483647) (ha2 : (-2147483648) ≤ a2 ∧ a2 ≤ 2147483647) (K : ∀ (c2 : ME) (y : Int), Iv 0 (-1) P Q c2 → (∀ (a : Nat) (j : Int), ¬ ((a = 41 ∧ j = 0) ∨ a = 42 ∨ a = 59 ∨ a = 54 ∨ a = 55) → c2 a j = c a j) → (-2147483648) ≤ y ∧ y ≤ 2147483647 → Z (.inl (some (vi y)), Wd P Q P P c2, 0, 0)) : Wp sc (d + 12) 242 0 [(0, .ref 41), (1, vi a1), (2, vi a2)] [] (Wd P Q P P c) 0 0 Z := by
  have hP := iv_P hI
  have hQ := iv_Q hI
  refine q_aload_n c_242_0 rfl (q_iconst c_242_1 (v_pi (z := 0) c_242_2 kf_8_3 rfl (nb_ rfl) rfl rfl rfl (by decide) (q_aload_n c_242_5 rfl (q_iload_n c_242_6 rfl (q_aload_n c_242_7 rfl ?_)))))
  have h_1 := ir_41_20 hI
  refine v_gi (z := 20) (v := c 41 20) c_242_8 kf_8_157 rfl (nb_ rfl) rfl rfl (up_n (by decide)) (v_cv c_242_11 km_8_396 rfl rfl (nb_ rfl) ⟨⟨rfl, rfl⟩, nb_ rfl, rfl⟩ (nb_ rfl) (nb_ rfl) (q_aload_n c_212_0 rfl (q_iload_n c_212_1 rfl (q_iconst c_212_2 (q_iload_n c_212_3 rfl (q_iconst c_212_4 (v_isub (v := c 41 20 - 1) c_212_5 rfl ?_)))))))
  refine q_call c_212_6 rfl rfl rfl (q_iload_n c_146_0 rfl (q_iload_n c_146_1 rfl ?_))
  by_cases h_2 : a1 < 0
  · refine v_ic_lt_t (t := 14) c_146_2 rfl ⟨ha1.1, h_2, by decide⟩ (q_iconst c_146_14 (v_zret c_146_15 rfl (by decide) (bk_inl (q_iconst c_212_9 (q_iconst c_212_10 (v_cv c_212_11 km_8_203 rfl rfl (nb_ rfl) ⟨⟨rfl, rfl⟩, nb_ rfl, rfl⟩ (nb_ rfl) (nb_ rfl) (q_iload_n c_145_0 rfl ?_)))))))
    refine v_if_ne_f (t := 26) c_145_1 rfl (by decide) (q_aload_n c_145_4 rfl (v_gi (z := 0) (v := 0) c_145_5 kf_8_3 rfl (nb_ rfl) rfl rfl (up_e rfl) (v_if_ne_f (t := 26) c_145_8 rfl (by decide) (q_aload_n c_145_11 rfl (q_iload_n c_145_12 rfl (v_pi (z := 0) c_145_13 kf_8_3 rfl (nb_ rfl) rfl rfl rfl (by decide) (q_aload_n c_145_16 rfl ?_)))))))
    refine v_gr (t := 42) c_145_17 kf_8_7 rfl (nb_ rfl) rfl (q_iload_n c_145_20 rfl (q_dup2 c_145_21 ⟨rfl, rfl⟩ ?_))
    have h_3 := ir_42 hI 0
    refine v_ia (v := c 42 0) c_145_22 rfl (by decide) (by decide) (by decide) ((up_c (nn rfl)).trans (up_c (nn rfl))) (q_iconst c_145_23 (v_iadd (v := c 42 0 + 1) c_145_24 rfl (v_nrm (fun y_4 hy_4 => (v_is c_145_25 rfl (by decide) (by decide) (by decide) (q_aload_n c_145_26 rfl (v_gi (z := 0) (v := 1) c_145_27 kf_8_3 rfl (nb_ rfl) rfl rfl ((up_c (nn rfl)).trans (up_e rfl)) (v_if_ne_t (t := 37) c_145_30 rfl (by decide) ?_))))))))
    refine q_iconst c_145_37 (v_zret c_145_38 rfl (by decide) (bk_inl (v_zret c_212_14 rfl (by decide) (bk_inl (v_if_eq_t (t := 29) c_242_14 rfl (by decide) (q_iconst c_242_29 (q_iret c_242_30 rfl ?_)))))))
    have hI_5 := iw_41_0 (v := 0) hI ⟨by decide, by decide⟩
    have hI_6 := iw_41_0 (v := 1) hI_5 ⟨by decide, by decide⟩
    have hI_7 := iw_42 (j := 0) (v := y_4) hI_6 ⟨hy_4.1, hy_4.2⟩
    exact K (up (up (up c 41 0 0) 41 0 1) 42 0 y_4) 0 hI_7 (fun a j hm => (up_b (Decidable.or_iff_not_imp_left.mpr (fun h1 h2 => hm (Or.inr (Or.inl (Decidable.not_not.mp h1)))))).trans ((up_b (Decidable.or_iff_not_imp_left.mpr (fun h1 h2 => hm (Or.inl ⟨Decidable.not_not.mp h1, h2⟩)))).trans (up_b (Decidable.or_iff_not_imp_left.mpr (fun h1 h2 => hm (Or.inl ⟨Decidable.not_not.mp h1, h2⟩)))))) ⟨by decide, by decide⟩
  · refine v_ic_lt_f (t := 14) c_146_2 rfl ⟨by decide, (Int.not_lt.mp h_2), ha1.2⟩ (q_iload_n c_146_5 rfl (q_iload_n c_146_6 rfl ?_))
    by_cases h_8 : a1 > c 41 20 - 1
    · refine v_ic_gt_t (t := 14) c_146_7 rfl ⟨by first | exact rgm_l h_1.1 (by decide) | omega, h_8, ha1.2⟩ (q_iconst c_146_14 (v_zret c_146_15 rfl (by decide) (bk_inl (q_iconst c_212_9 (q_iconst c_212_10 (v_cv c_212_11 km_8_203 rfl rfl (nb_ rfl) ⟨⟨rfl, rfl⟩, nb_ rfl, rfl⟩ (nb_ rfl) (nb_ rfl) (q_iload_n c_145_0 rfl ?_)))))))
      refine v_if_ne_f (t := 26) c_145_1 rfl (by decide) (q_aload_n c_145_4 rfl (v_gi (z := 0) (v := 0) c_145_5 kf_8_3 rfl (nb_ rfl) rfl rfl (up_e rfl) (v_if_ne_f (t := 26) c_145_8 rfl (by decide) (q_aload_n c_145_11 rfl (q_iload_n c_145_12 rfl (v_pi (z := 0) c_145_13 kf_8_3 rfl (nb_ rfl) rfl rfl rfl (by decide) (q_aload_n c_145_16 rfl ?_)))))))
      refine v_gr (t := 42) c_145_17 kf_8_7 rfl (nb_ rfl) rfl (q_iload_n c_145_20 rfl (q_dup2 c_145_21 ⟨rfl, rfl⟩ ?_))
      have h_9 := ir_42 hI 0
      refine v_ia (v := c 42 0) c_145_22 rfl (by decide) (by decide) (by decide) ((up_c (nn rfl)).trans (up_c (nn rfl))) (q_iconst c_145_23 (v_iadd (v := c 42 0 + 1) c_145_24 rfl (v_nrm (fun y_10 hy_10 => (v_is c_145_25 rfl (by decide) (by decide) (by decide) (q_aload_n c_145_26 rfl (v_gi (z := 0) (v := 1) c_145_27 kf_8_3 rfl (nb_ rfl) rfl rfl ((up_c (nn rfl)).trans (up_e rfl)) (v_if_ne_t (t := 37) c_145_30 rfl (by decide) ?_))))))))
      refine q_iconst c_145_37 (v_zret c_145_38 rfl (by decide) (bk_inl (v_zret c_212_14 rfl (by decide) (bk_inl (v_if_eq_t (t := 29) c_242_14 rfl (by decide) (q_iconst c_242_29 (q_iret c_242_30 rfl ?_)))))))
      have hI_11 := iw_41_0 (v := 0) hI ⟨by decide, by decide⟩
      have hI_12 := iw_41_0 (v := 1) hI_11 ⟨by decide, by decide⟩
      have hI_13 := iw_42 (j := 0) (v := y_10) hI_12 ⟨hy_10.1, hy_10.2⟩
      exact K (up (up (up c 41 0 0) 41 0 1) 42 0 y_10) 0 hI_13 (fun a j hm => (up_b (Decidable.or_iff_not_imp_left.mpr (fun h1 h2 => hm (Or.inr (Or.inl (Decidable.not_not.mp h1)))))).trans ((up_b (Decidable.or_iff_not_imp_left.mpr (fun h1 h2 => hm (Or.inl ⟨Decidable.not_not.mp h1, h2⟩)))).trans (up_b (Decidable.or_iff_not_imp_left.mpr (fun h1 h2 => hm (Or.inl ⟨Decidable.not_not.mp h1, h2⟩)))))) ⟨by decide, by decide⟩
    · refine v_ic_gt_f (t := 14) c_146_7 rfl ⟨ha1.1, (Int.not_lt.mp h_8), by first | exact rgm_h h_1.2 (by decide) | omega⟩ (q_iconst c_146_10 (q_goto (t := 15) c_146_11 rfl (v_zret c_146_15 rfl (by decide) (bk_inl (q_iconst c_212_9 (q_iconst c_212_10 (v_cv c_212_11 km_8_203 rfl rfl (nb_ rfl) ⟨⟨rfl, rfl⟩, nb_ rfl, rfl⟩ (nb_ rfl) (nb_ rfl) ?_)))))))
      refine q_iload_n c_145_0 rfl (v_if_ne_t (t := 26) c_145_1 rfl (by decide) (q_aload_n c_145_26 rfl (v_gi (z := 0) (v := 0) c_145_27 kf_8_3 rfl (nb_ rfl) rfl rfl (up_e rfl) (v_if_ne_f (t := 37) c_145_30 rfl (by decide) (q_iconst c_145_33 (q_goto (t := 38) c_145_34 rfl (v_zret c_145_38 rfl (by decide) ?_)))))))
      refine bk_inl (v_zret c_212_14 rfl (by decide) (bk_inl (v_if_eq_f (t := 29) c_242_14 rfl (by decide) (q_aload_n c_242_17 rfl (q_iload_n c_242_18 rfl (q_aload_n c_242_19 rfl (v_gi (z := 20) (v := c 41 20) c_242_20 kf_8_157 rfl (nb_ rfl) rfl rfl (up_n (by decide)) ?_)))))))
      refine v_cv c_242_23 km_8_396 rfl rfl (nb_ rfl) ⟨⟨rfl, rfl⟩, nb_ rfl, rfl⟩ (nb_ rfl) (nb_ rfl) (q_aload_n c_212_0 rfl (q_iload_n c_212_1 rfl (q_iconst c_212_2 (q_iload_n c_212_3 rfl (q_iconst c_212_4 (v_isub (v := c 41 20 - 1) c_212_5 rfl (q_call c_212_6 rfl rfl rfl ?_)))))))
      refine q_iload_n c_146_0 rfl (q_iload_n c_146_1 rfl ?_)
      by_cases h_14 : a2 < 0
      · refine v_ic_lt_t (t := 14) c_146_2 rfl ⟨ha2.1, h_14, by decide⟩ (q_iconst c_146_14 (v_zret c_146_15 rfl (by decide) (bk_inl (q_iconst c_212_9 (q_iconst c_212_10 (v_cv c_212_11 km_8_203 rfl rfl (nb_ rfl) ⟨⟨rfl, rfl⟩, nb_ rfl, rfl⟩ (nb_ rfl) (nb_ rfl) (q_iload_n c_145_0 rfl ?_)))))))
        refine v_if_ne_f (t := 26) c_145_1 rfl (by decide) (q_aload_n c_145_4 rfl (v_gi (z := 0) (v := 0) c_145_5 kf_8_3 rfl (nb_ rfl) rfl rfl (up_e rfl) (v_if_ne_f (t := 26) c_145_8 rfl (by decide) (q_aload_n c_145_11 rfl (q_iload_n c_145_12 rfl (v_pi (z := 0) c_145_13 kf_8_3 rfl (nb_ rfl) rfl rfl rfl (by decide) (q_aload_n c_145_16 rfl ?_)))))))
        refine v_gr (t := 42) c_145_17 kf_8_7 rfl (nb_ rfl) rfl (q_iload_n c_145_20 rfl (q_dup2 c_145_21 ⟨rfl, rfl⟩ ?_))
        have h_15 := ir_42 hI 0
        refine v_ia (v := c 42 0) c_145_22 rfl (by decide) (by decide) (by decide) ((up_c (nn rfl)).trans (up_c (nn rfl))) (q_iconst c_145_23 (v_iadd (v := c 42 0 + 1) c_145_24 rfl (v_nrm (fun y_16 hy_16 => (v_is c_145_25 rfl (by decide) (by decide) (by decide) (q_aload_n c_145_26 rfl (v_gi (z := 0) (v := 1) c_145_27 kf_8_3 rfl (nb_ rfl) rfl rfl ((up_c (nn rfl)).trans (up_e rfl)) (v_if_ne_t (t := 37) c_145_30 rfl (by decide) ?_))))))))
        refine q_iconst c_145_37 (v_zret c_145_38 rfl (by decide) (bk_inl (v_zret c_212_14 rfl (by decide) (bk_inl (v_if_ne_f (t := 31) c_242_26 rfl (by decide) (q_iconst c_242_29 (q_iret c_242_30 rfl ?_)))))))
        have hI_17 := iw_41_0 (v := 0) hI ⟨by decide, by decide⟩
        have hI_18 := iw_41_0 (v := 1) hI_17 ⟨by decide, by decide⟩
        have hI_19 := iw_42 (j := 0) (v := y_16) hI_18 ⟨hy_16.1, hy_16.2⟩
        exact K (up (up (up c 41 0 0) 41 0 1) 42 0 y_16) 0 hI_19 (fun a j hm => (up_b (Decidable.or_iff_not_imp_left.mpr (fun h1 h2 => hm (Or.inr (Or.inl (Decidable.not_not.mp h1)))))).trans ((up_b (Decidable.or_iff_not_imp_left.mpr (fun h1 h2 => hm (Or.inl ⟨Decidable.not_not.mp h1, h2⟩)))).trans (up_b (Decidable.or_iff_not_imp_left.mpr (fun h1 h2 => hm (Or.inl ⟨Decidable.not_not.mp h1, h2⟩)))))) ⟨by decide, by decide⟩
      · refine v_ic_lt_f (t := 14) c_146_2 rfl ⟨by decide, (Int.not_lt.mp h_14), ha2.2⟩ (q_iload_n c_146_5 rfl (q_iload_n c_146_6 rfl ?_))
        by_cases h_20 : a2 > c 41 20 - 1
        · refine v_ic_gt_t (t := 14) c_146_7 rfl ⟨by first | exact rgm_l h_1.1 (by decide) | omega, h_20, ha2.2⟩ (q_iconst c_146_14 (v_zret c_146_15 rfl (by decide) (bk_inl (q_iconst c_212_9 (q_iconst c_212_10 (v_cv c_212_11 km_8_203 rfl rfl (nb_ rfl) ⟨⟨rfl, rfl⟩, nb_ rfl, rfl⟩ (nb_ rfl) (nb_ rfl) (q_iload_n c_145_0 rfl ?_)))))))
          refine v_if_ne_f (t := 26) c_145_1 rfl (by decide) (q_aload_n c_145_4 rfl (v_gi (z := 0) (v := 0) c_145_5 kf_8_3 rfl (nb_ rfl) rfl rfl (up_e rfl) (v_if_ne_f (t := 26) c_145_8 rfl (by decide) (q_aload_n c_145_11 rfl (q_iload_n c_145_12 rfl (v_pi (z := 0) c_145_13 kf_8_3 rfl (nb_ rfl) rfl rfl rfl (by decide) (q_aload_n c_145_16 rfl ?_)))))))
          refine v_gr (t := 42) c_145_17 kf_8_7 rfl (nb_ rfl) rfl (q_iload_n c_145_20 rfl (q_dup2 c_145_21 ⟨rfl, rfl⟩ ?_))
          have h_21 := ir_42 hI 0
          refine v_ia (v := c 42 0) c_145_22 rfl (by decide) (by decide) (by decide) ((up_c (nn rfl)).trans (up_c (nn rfl))) (q_iconst c_145_23 (v_iadd (v := c 42 0 + 1) c_145_24 rfl (v_nrm (fun y_22 hy_22 => (v_is c_145_25 rfl (by decide) (by decide) (by decide) (q_aload_n c_145_26 rfl (v_gi (z := 0) (v := 1) c_145_27 kf_8_3 rfl (nb_ rfl) rfl rfl ((up_c (nn rfl)).trans (up_e rfl)) (v_if_ne_t (t := 37) c_145_30 rfl (by decide) ?_))))))))
          refine q_iconst c_145_37 (v_zret c_145_38 rfl (by decide) (bk_inl (v_zret c_212_14 rfl (by decide) (bk_inl (v_if_ne_f (t := 31) c_242_26 rfl (by decide) (q_iconst c_242_29 (q_iret c_242_30 rfl ?_)))))))
          have hI_23 := iw_41_0 (v := 0) hI ⟨by decide, by decide⟩
          have hI_24 := iw_41_0 (v := 1) hI_23 ⟨by decide, by decide⟩
          have hI_25 := iw_42 (j := 0) (v := y_22) hI_24 ⟨hy_22.1, hy_22.2⟩
          exact K (up (up (up c 41 0 0) 41 0 1) 42 0 y_22) 0 hI_25 (fun a j hm => (up_b (Decidable.or_iff_not_imp_left.mpr (fun h1 h2 => hm (Or.inr (Or.inl (Decidable.not_not.mp h1)))))).trans ((up_b (Decidable.or_iff_not_imp_left.mpr (fun h1 h2 => hm (Or.inl ⟨Decidable.not_not.mp h1, h2⟩)))).trans (up_b (Decidable.or_iff_not_imp_left.mpr (fun h1 h2 => hm (Or.inl ⟨Decidable.not_not.mp h1, h2⟩)))))) ⟨by decide, by decide⟩
        · refine v_ic_gt_f (t := 14) c_146_7 rfl ⟨ha2.1, (Int.not_lt.mp h_20), by first | exact rgm_h h_1.2 (by decide) | omega⟩ (q_iconst c_146_10 (q_goto (t := 15) c_146_11 rfl (v_zret c_146_15 rfl (by decide) (bk_inl (q_iconst c_212_9 (q_iconst c_212_10 (v_cv c_212_11 km_8_203 rfl rfl (nb_ rfl) ⟨⟨rfl, rfl⟩, nb_ rfl, rfl⟩ (nb_ rfl) (nb_ rfl) ?_)))))))
          refine q_iload_n c_145_0 rfl (v_if_ne_t (t := 26) c_145_1 rfl (by decide) (q_aload_n c_145_26 rfl (v_gi (z := 0) (v := 0) c_145_27 kf_8_3 rfl (nb_ rfl) rfl rfl (up_e rfl) (v_if_ne_f (t := 37) c_145_30 rfl (by decide) (q_iconst c_145_33 (q_goto (t := 38) c_145_34 rfl (v_zret c_145_38 rfl (by decide) ?_)))))))
          refine bk_inl (v_zret c_212_14 rfl (by decide) (bk_inl (v_if_ne_t (t := 31) c_242_26 rfl (by decide) (q_aload_n c_242_31 rfl ?_))))
          have hI_26 := iw_41_0 (v := 0) hI ⟨by decide, by decide⟩
          refine v_cv c_242_32 km_8_317 rfl rfl (nb_ rfl) ⟨⟨rfl, rfl⟩, nb_ rfl, rfl⟩ (nb_ rfl) (nb_ rfl) (s_186 hI_26 (fun c_27 hI_28 hF_29 => (bk_inl (q_aload_n c_242_35 rfl (q_iload_n c_242_36 rfl (q_iload_n c_242_37 rfl (q_aload_n c_242_38 rfl (q_iload_n c_242_39 rfl ?_))))))))
          have h_30 := ir_59_g hI_28 (j := 4 * a1) (by first | exact q_b0d0e4535 h_1 h_8 | omega)
          have h_31 := ir_59_g hI_28 (j := 4 * a1 + 1) (by first | exact q_e3354e5e9 h_1 h_8 | omega)
          have h_32 := ir_59_g hI_28 (j := 4 * a1 + 2) (by first | exact q_0a5347bcd h_1 h_8 | omega)
          have h_33 := ir_59_g hI_28 (j := 4 * a1 + 3) (by first | exact q_9939b3b7f h_1 h_8 | omega)
          refine v_cv c_242_40 km_8_343 rfl rfl (nb_ rfl) ⟨⟨rfl, rfl⟩, nb_ rfl, rfl⟩ (nb_ rfl) (nb_ rfl) (s_187 (v1 := c_27 59 (4 * a1)) (v2 := c_27 59 (4 * a1 + 1)) (v3 := c_27 59 (4 * a1 + 2)) (v4 := c_27 59 (4 * a1 + 3)) (r := c_27 59 (4 * a1 + 1) + c_27 59 (4 * a1 + 2) + c_27 59 (4 * a1 + 3) + c_27 59 (4 * a1)) (a1 := a1) hI_28 (show 0 ≤ a1 ∧ a1 ≤ 5 from ⟨by first | exact q_720657ba9 h_2 | omega, by first | exact q_3a2e67ab0 h_1 h_8 | omega⟩) (rfl) (rfl) (rfl) (rfl) (by omega) (bk_inl (v_cv c_242_43 km_8_346 rfl rfl (nb_ rfl) ⟨⟨rfl, rfl⟩, nb_ rfl, rfl⟩ (nb_ rfl) (nb_ rfl) (s_194 (a1 := a1) (a2 := a2) (a3 := c_27 59 (4 * a1 + 1) + c_27 59 (4 * a1 + 2) + c_27 59 (4 * a1 + 3) + c_27 59 (4 * a1)) hI_28 (show 0 ≤ a1 ∧ a1 ≤ 5 from ⟨by first | exact q_720657ba9 h_2 | omega, by first | exact q_3a2e67ab0 h_1 h_8 | omega⟩) (show 0 ≤ a2 ∧ a2 ≤ 5 from ⟨by first | exact q_720657ba9 h_14 | omega, by first | exact q_3a2e67ab0 h_1 h_20 | omega⟩) (show 0 ≤ c_27 59 (4 * a1 + 1) + c_27 59 (4 * a1 + 2) + c_27 59 (4 * a1 + 3) + c_27 59 (4 * a1) ∧ c_27 59 (4 * a1 + 1) + c_27 59 (4 * a1 + 2) + c_27 59 (4 * a1 + 3) + c_27 59 (4 * a1) ≤ 99999 from ⟨by first | exact q_039f89af9 h_30 h_31 h_32 h_33 | omega, by first | exact q_386a854c4 h_30 h_31 h_32 h_33 | omega⟩) (fun c_34 y_37 hI_35 hF_36 hy_37 => (bk_inl ?_))))))
          by_cases h_38 : y_37 = 0
          · refine v_if_eq_t (t := 57) c_242_46 rfl h_38 (q_iconst c_242_57 (q_iret c_242_58 rfl ?_))
            exact K c_34 (-1) hI_35 (fun a j hm => (hF_36 a j (fun h => hm (Or.inr (Or.inr (Or.inl h))))).trans ((hF_29 a j (fun h => hm (Or.inr (Or.inr (Or.inl h))))).trans (up_b (Decidable.or_iff_not_imp_left.mpr (fun h1 h2 => hm (Or.inl ⟨Decidable.not_not.mp h1, h2⟩)))))) ⟨by decide, by decide⟩
          · refine v_if_eq_f (t := 57) c_242_46 rfl ⟨h_38, ⟨(Int.le_trans (by decide) hy_37.1), (Int.le_trans hy_37.2 (by decide))⟩, by decide, by decide⟩ (q_aload_n c_242_49 rfl (q_iload_n c_242_50 rfl (v_cv c_242_51 km_8_375 rfl rfl (nb_ rfl) ⟨⟨rfl, rfl⟩, nb_ rfl, rfl⟩ (nb_ rfl) (nb_ rfl) (s_196 (a1 := a2) hI_35 (show 0 ≤ a2 ∧ a2 ≤ 5 from ⟨by first | exact q_720657ba9 h_14 | omega, by first | exact q_3a2e67ab0 h_1 h_20 | omega⟩) (fun c_39 y_42 hI_40 hF_41 hy_42 => (bk_inl (q_goto (t := 58) c_242_54 rfl (q_iret c_242_58 rfl ?_))))))))
            exact K c_39 y_42 hI_40 (fun a j hm => (hF_41 a j (qv_bcc235c24 hm)).trans ((hF_36 a j (fun h => hm (Or.inr (Or.inr (Or.inl h))))).trans ((hF_29 a j (fun h => hm (Or.inr (Or.inr (Or.inl h))))).trans (up_b (Decidable.or_iff_not_imp_left.mpr (fun h1 h2 => hm (Or.inl ⟨Decidable.not_not.mp h1, h2⟩))))))) ⟨(Int.le_trans (by decide) hy_42.1), (Int.le_trans hy_42.2 (by decide))⟩

set_option maxRecDepth 100000 in
set_option maxHeartbeats 4000000 in
theorem s_243_l {sc : List Int32} {d P Q : Nat} {c : ME} {Z : AR → Prop} (hI : Iv 0 (-1) P Q c)  (K : ∀ (c2 : ME) (y : Int), Iv 0 (-1) P Q c2 → (∀ (a : Nat) (j : Int), ¬ ((a = 41 ∧ j = 0) ∨ a = 59) → c2 a j = c a j) → (-2147483648) ≤ y ∧ y ≤ 2147483647 → Z (.inl (some (vi y)), Wd P Q P P c2, 0, 0)) : ∀ n : Nat, (∀ (c2 : ME) (v1 : Int) (v2 : Int), Iv 0 (-1) P Q c2 → (∀ (a : Nat) (j : Int), ¬ ((a = 41 ∧ j = 0) ∨ a = 59) → c2 a j = c a j) → (-2147483648) ≤ v1 ∧ v1 ≤ 2147483647 → 0 ≤ v2 ∧ v2 ≤ 6 → 90 - 13 * v2 < (n : Int) → Wp sc (d + 8) 243 13 [(0, .ref 41), (1, vi v1), (2, vi v2)] [] (Wd P Q P P c2) 0 0 Z) ∧ (∀ (c2 : ME) (v1 : Int) (v2 : Int) (v3 : Int) (v4 : Int), Iv 0 (-1) P Q c2 → (∀ (a : Nat) (j : Int), ¬ ((a = 41 ∧ j = 0) ∨ a = 59) → c2 a j = c a j) → (-2147483648) ≤ v1 ∧ v1 ≤ 2147483647 → 0 ≤ v2 ∧ v2 ≤ 5 → (-2147483648) ≤ v3 ∧ v3 ≤ 2147483647 → 0 ≤ v4 ∧ v4 ≤ 4 → 87 - 13 * v2 - 2 * v4 < (n : Int) → Wp sc (d + 8) 243 26 [(0, .ref 41), (1, vi v1), (2, vi v2), (3, vi v3), (4, vi v4)] [] (Wd P Q P P c2) 0 0 Z) := by
  intro n
  induction n with
  | zero => exact (by exact ⟨by (intro c2 v1 v2 hI2 hF hv1 hv2 hm9; have hP := iv_P hI; have hQ := iv_Q hI; exfalso; omega), by (intro c2 v1 v2 v3 v4 hI2 hF hv1 hv2 hv3 hv4 hm9; have hP := iv_P hI; have hQ := iv_Q hI; exfalso; omega)⟩)
  | succ n ih =>
    have hP := iv_P hI
    have hQ := iv_Q hI
    refine ⟨?_, ?_⟩
    · skip
      intro c2 v1 v2 hI2 hF hv1 hv2 hm9
      refine q_iload_n c_243_13 rfl (q_aload_n c_243_14 rfl ?_)
      have h_1 := ir_41_20 hI
      have kn_2 : Hid (c2 41 20 = c 41 20) := hF 41 20 (fun q => q.elim (fun h => absurd h.2 (ni rfl)) (fun h => absurd h (nn rfl)))
      refine v_gi (z := 20) (v := c 41 20) c_243_15 kf_8_157 rfl (nb_ rfl) rfl rfl (hid kn_2) ?_
      by_cases h_3 : v2 ≥ c 41 20
      · refine v_ic_ge_t (t := 81) c_243_18 rfl ⟨by first | exact q_730ab5169 h_1 | omega, h_3, (Int.le_trans hv2.2 (by decide))⟩ (q_iload_n c_243_81 rfl (q_iret c_243_82 rfl ?_))
        exact K c2 v1 hI2 (fun a j hm => hF a j hm) hv1
      · refine v_ic_ge_f (t := 81) c_243_18 rfl ⟨(Int.le_trans (by decide) hv2.1), (Int.not_le.mp h_3), by first | exact q_b289b7db2 h_1 | omega⟩ (q_iconst c_243_21 (q_istore_n c_243_22 (nb_ rfl) (q_iconst c_243_23 (q_istore c_243_24 (nb_ rfl) (Wp_ls [(0, .ref 41), (1, vi v1), (2, vi v2), (3, vi 0), (4, vi 0)] (lsub_cons rfl (lsub_cons rfl (lsub_cons rfl (lsub_cons rfl (lsub_cons rfl lsub_nil))))) ?_)))))
        exact ih.2 c2 v1 v2 0 0 hI2 (fun a j hm => hF a j hm) hv1 ⟨hv2.1, by first | exact q_d63a8538e h_1 h_3 | omega⟩ ⟨by decide, by decide⟩ ⟨by decide, by decide⟩ (by omega)
    · skip
      intro c2 v1 v2 v3 v4 hI2 hF hv1 hv2 hv3 hv4 hm9
      refine q_iload c_243_26 rfl (q_iconst c_243_28 ?_)
      by_cases h_4 : v4 ≥ 4
      · refine v_ic_ge_t (t := 60) c_243_29 rfl ⟨by decide, h_4, (Int.le_trans hv4.2 (by decide))⟩ (q_iload_n c_243_60 rfl (q_iload_n c_243_61 rfl (q_iconst c_243_62 ?_)))
        by_cases h_5 : v3 ≠ 1
        · refine v_ic_ne_t (t := 72) c_243_63 rfl ⟨h_5, ⟨hv3.1, hv3.2⟩, by decide, by decide⟩ (q_iconst c_243_72 (v_iorx c_243_73 (fun y_6 hy_6 => (q_istore_n c_243_74 (nb_ rfl) (v_iinc (v := v2 + 1) c_243_75 rfl (nb_ rfl) rfl (q_goto (t := 13) c_243_78 rfl (Wp_ls [(0, .ref 41), (1, vi y_6), (2, vi (v2 + 1))] (lsub_cons rfl (lsub_cons rfl (lsub_cons rfl lsub_nil))) ?_)))))))
          exact ih.1 c2 y_6 (v2 + 1) hI2 (fun a j hm => hF a j hm) hy_6 ⟨by first | exact rgp_l hv2.1 (by decide) | omega, by first | exact rgp_h hv2.2 (by decide) | omega⟩ (by omega)
        · refine v_ic_ne_f (t := 72) c_243_63 rfl (Decidable.not_not.mp h_5) (q_iconst c_243_66 (q_iload_n c_243_67 rfl (v_shl1 c_243_68 ⟨by omega, by omega⟩ (fun y_7 hy_7 => (q_goto (t := 73) c_243_69 rfl (v_iorx c_243_73 (fun y_8 hy_8 => (q_istore_n c_243_74 (nb_ rfl) (v_iinc (v := v2 + 1) c_243_75 rfl (nb_ rfl) rfl ?_)))))))))
          refine q_goto (t := 13) c_243_78 rfl (Wp_ls [(0, .ref 41), (1, vi y_8), (2, vi (v2 + 1))] (lsub_cons rfl (lsub_cons rfl (lsub_cons rfl lsub_nil))) ?_)
          exact ih.1 c2 y_8 (v2 + 1) hI2 (fun a j hm => hF a j hm) hy_8 ⟨by first | exact rgp_l hv2.1 (by decide) | omega, by first | exact rgp_h hv2.2 (by decide) | omega⟩ (by omega)
      · refine v_ic_ge_f (t := 60) c_243_29 rfl ⟨(Int.le_trans (by decide) hv4.1), (Int.not_le.mp h_4), by decide⟩ (q_iload_n c_243_32 rfl (q_aload_n c_243_33 rfl (v_gr (t := 59) c_243_34 kf_8_68 rfl (nb_ rfl) rfl (q_iconst c_243_37 (q_iload_n c_243_38 rfl (v_imul (v := 4 * v2) c_243_39 rfl (q_iload c_243_40 rfl ?_)))))))
        refine v_iadd (v := 4 * v2 + v4) c_243_42 rfl ?_
        have h_9 := ir_59_g hI2 (j := 4 * v2 + v4) (by first | exact q_e3e978779 h_4 hv2 | omega)
        refine v_ia (v := c2 59 (4 * v2 + v4)) c_243_43 rfl (by decide) (by decide) ⟨by first | exact q_9bff1db0a hv2 hv4 | omega, by first | exact q_c0f51fe82 h_4 hv2 | omega⟩ rfl ?_
        by_cases h_10 : c2 59 (4 * v2 + v4) ≤ 0
        · refine v_if_le_t (t := 51) c_243_44 rfl ⟨(Int.le_trans (by decide) h_9.1), h_10, by decide⟩ (q_iconst c_243_51 (v_iadd (v := v3) c_243_52 (by first | exact q_7038fede5 | omega) (q_istore_n c_243_53 (nb_ rfl) (v_iinc (v := v4 + 1) c_243_54 rfl (nb_ rfl) rfl (q_goto (t := 26) c_243_57 rfl (Wp_ls [(0, .ref 41), (1, vi v1), (2, vi v2), (3, vi v3), (4, vi (v4 + 1))] (lsub_cons rfl (lsub_cons rfl (lsub_cons rfl (lsub_cons rfl (lsub_cons rfl lsub_nil))))) ?_))))))
          exact ih.2 c2 v1 v2 v3 (v4 + 1) hI2 (fun a j hm => hF a j hm) hv1 hv2 hv3 ⟨by first | exact rgp_l hv4.1 (by decide) | omega, by first | exact q_121241f94 h_4 | omega⟩ (by omega)
        · refine v_if_le_f (t := 51) c_243_44 rfl ⟨by decide, (Int.not_le.mp h_10), (Int.le_trans h_9.2 (by decide))⟩ (q_iconst c_243_47 (q_goto (t := 52) c_243_48 rfl (v_iadd (v := v3 + 1) c_243_52 rfl (v_nrm (fun y_11 hy_11 => (q_istore_n c_243_53 (nb_ rfl) (v_iinc (v := v4 + 1) c_243_54 rfl (nb_ rfl) rfl (q_goto (t := 26) c_243_57 rfl ?_))))))))
          refine Wp_ls [(0, .ref 41), (1, vi v1), (2, vi v2), (3, vi y_11), (4, vi (v4 + 1))] (lsub_cons rfl (lsub_cons rfl (lsub_cons rfl (lsub_cons rfl (lsub_cons rfl lsub_nil))))) ?_
          exact ih.2 c2 v1 v2 y_11 (v4 + 1) hI2 (fun a j hm => hF a j hm) hv1 hv2 hy_11 ⟨by first | exact rgp_l hv4.1 (by decide) | omega, by first | exact q_121241f94 h_4 | omega⟩ (by omega)
set_option maxRecDepth 100000 in
set_option maxHeartbeats 4000000 in
theorem s_243 {sc : List Int32} {d P Q : Nat} {c : ME} {Z : AR → Prop} (hI : Iv 0 (-1) P Q c)  (K : ∀ (c2 : ME) (y : Int), Iv 0 (-1) P Q c2 → (∀ (a : Nat) (j : Int), ¬ ((a = 41 ∧ j = 0) ∨ a = 59) → c2 a j = c a j) → (-2147483648) ≤ y ∧ y ≤ 2147483647 → Z (.inl (some (vi y)), Wd P Q P P c2, 0, 0)) : Wp sc (d + 8) 243 0 [(0, .ref 41)] [] (Wd P Q P P c) 0 0 Z := by
  have hP := iv_P hI
  have hQ := iv_Q hI
  refine q_aload_n c_243_0 rfl (q_iconst c_243_1 (v_pi (z := 0) c_243_2 kf_8_3 rfl (nb_ rfl) rfl rfl rfl (by decide) (q_aload_n c_243_5 rfl ?_)))
  have hI_12 := iw_41_0 (v := 0) hI ⟨by decide, by decide⟩
  refine v_cv c_243_6 km_8_317 rfl rfl (nb_ rfl) ⟨⟨rfl, rfl⟩, nb_ rfl, rfl⟩ (nb_ rfl) (nb_ rfl) (s_186 hI_12 (fun c_13 hI_14 hF_15 => (bk_inl (q_iconst c_243_9 (q_istore_n c_243_10 (nb_ rfl) (q_iconst c_243_11 (q_istore_n c_243_12 (nb_ rfl) (Wp_ls [(0, .ref 41), (1, vi 0), (2, vi 0)] (lsub_cons rfl (lsub_cons rfl (lsub_cons rfl lsub_nil))) ?_))))))))
  exact (s_243_l (sc := sc) (d := d) hI K 93).1 c_13 0 0 hI_14 (fun a j hm => (hF_15 a j (fun h => hm (Or.inr h))).trans (up_b (Decidable.or_iff_not_imp_left.mpr (fun h1 h2 => hm (Or.inl ⟨Decidable.not_not.mp h1, h2⟩))))) ⟨by decide, by decide⟩ ⟨by decide, by decide⟩ (by omega)
end
section
/-! ===== contracts 23 ===== -/
theorem q_42435cb53 {x0 : Int} (f0 : (-1) ≤ x0 ∧ x0 ≤ 5) : x0 + 24 < 37 := by omega
theorem q_7895971f7 {x0 x1 x2 x3 x4 x5 x6 x7 : Int} (f0 : 0 ≤ x0 ∧ x0 ≤ x1) (f1 : 0 ≤ x2 ∧ x2 ≤ x3) (f2 : 0 ≤ x4 ∧ x4 ≤ x5) (f3 : 0 ≤ x6 ∧ x6 ≤ x7) (f4 : 0 ≤ x1 ∧ x1 ≤ 9999) (f5 : 0 ≤ x3 ∧ x3 ≤ 9999) (f6 : 0 ≤ x5 ∧ x5 ≤ 9999) (f7 : 0 ≤ x7 ∧ x7 ≤ 9999) : x0 + x2 + x4 + x6 ≤ 2147483647 := by omega
theorem c_244_25 : mLk 244 25 = some (.iload_n 2, 1) := rfl
theorem c_244_26 : mLk 244 26 = some (.bipush 99, 2) := rfl
theorem c_244_28 : mLk 244 28 = some (.if_icmp .gt 23, 3) := rfl
theorem c_244_51 : mLk 244 51 = some (.iconst (-1), 1) := rfl
theorem c_244_52 : mLk 244 52 = some (.ireturn, 1) := rfl
theorem c_244_31 : mLk 244 31 = some (.aload_n 0, 1) := rfl
theorem c_244_32 : mLk 244 32 = some (.iload_n 1, 1) := rfl
theorem c_244_33 : mLk 244 33 = some (.invokevirtual 378, 3) := rfl
theorem c_244_36 : mLk 244 36 = some (.ifCond .eq 5, 3) := rfl
theorem c_244_41 : mLk 244 41 = some (.aload_n 0, 1) := rfl
theorem c_244_42 : mLk 244 42 = some (.invokevirtual 353, 3) := rfl
theorem c_244_45 : mLk 244 45 = some (.iinc 2 1, 3) := rfl
theorem c_244_48 : mLk 244 48 = some (.goto (-23), 3) := rfl
theorem c_244_39 : mLk 244 39 = some (.iload_n 2, 1) := rfl
theorem c_244_40 : mLk 244 40 = some (.ireturn, 1) := rfl
theorem c_244_0 : mLk 244 0 = some (.aload_n 0, 1) := rfl
theorem c_244_1 : mLk 244 1 = some (.iconst 0, 1) := rfl
theorem c_244_2 : mLk 244 2 = some (.putfield 3, 3) := rfl
theorem c_244_5 : mLk 244 5 = some (.aload_n 0, 1) := rfl
theorem c_244_6 : mLk 244 6 = some (.iload_n 1, 1) := rfl
theorem c_244_7 : mLk 244 7 = some (.aload_n 0, 1) := rfl
theorem c_244_8 : mLk 244 8 = some (.getfield 157, 3) := rfl
theorem c_244_11 : mLk 244 11 = some (.invokevirtual 396, 3) := rfl
theorem c_244_14 : mLk 244 14 = some (.ifCond .ne 5, 3) := rfl
theorem c_244_17 : mLk 244 17 = some (.iconst 0, 1) := rfl
theorem c_244_18 : mLk 244 18 = some (.ireturn, 1) := rfl
theorem c_244_19 : mLk 244 19 = some (.aload_n 0, 1) := rfl
theorem c_244_20 : mLk 244 20 = some (.invokevirtual 317, 3) := rfl
theorem c_244_23 : mLk 244 23 = some (.iconst 0, 1) := rfl
theorem c_244_24 : mLk 244 24 = some (.istore_n 2, 1) := rfl
theorem c_245_0 : mLk 245 0 = some (.aload_n 0, 1) := rfl
theorem c_245_1 : mLk 245 1 = some (.iconst 0, 1) := rfl
theorem c_245_2 : mLk 245 2 = some (.putfield 3, 3) := rfl
theorem c_245_5 : mLk 245 5 = some (.aload_n 0, 1) := rfl
theorem c_245_6 : mLk 245 6 = some (.iload_n 1, 1) := rfl
theorem c_245_7 : mLk 245 7 = some (.aload_n 0, 1) := rfl
theorem c_245_8 : mLk 245 8 = some (.getfield 157, 3) := rfl
theorem c_245_11 : mLk 245 11 = some (.invokevirtual 396, 3) := rfl
theorem c_245_14 : mLk 245 14 = some (.ifCond .ne 5, 3) := rfl
theorem c_245_17 : mLk 245 17 = some (.iconst 0, 1) := rfl
theorem c_245_18 : mLk 245 18 = some (.ireturn, 1) := rfl
theorem c_245_19 : mLk 245 19 = some (.aload_n 0, 1) := rfl
theorem c_245_20 : mLk 245 20 = some (.invokevirtual 317, 3) := rfl
theorem c_245_23 : mLk 245 23 = some (.sipush 9999, 3) := rfl
theorem c_245_26 : mLk 245 26 = some (.aload_n 0, 1) := rfl
theorem c_245_27 : mLk 245 27 = some (.iload_n 1, 1) := rfl
theorem c_245_28 : mLk 245 28 = some (.invokevirtual 343, 3) := rfl
theorem c_245_31 : mLk 245 31 = some (.isub, 1) := rfl
theorem c_245_32 : mLk 245 32 = some (.ireturn, 1) := rfl
theorem c_246_30 : mLk 246 30 = some (.iload_n 3, 1) := rfl
theorem c_246_31 : mLk 246 31 = some (.aload_n 0, 1) := rfl
theorem c_246_32 : mLk 246 32 = some (.getfield 157, 3) := rfl
theorem c_246_35 : mLk 246 35 = some (.if_icmp .ge 45, 3) := rfl
theorem c_246_80 : mLk 246 80 = some (.iload_n 1, 1) := rfl
theorem c_246_81 : mLk 246 81 = some (.ifCond .eq 8, 3) := rfl
theorem c_246_89 : mLk 246 89 = some (.iload_n 2, 1) := rfl
theorem c_246_90 : mLk 246 90 = some (.goto 12, 3) := rfl
theorem c_246_102 : mLk 246 102 = some (.ireturn, 1) := rfl
theorem c_246_84 : mLk 246 84 = some (.iload_n 2, 1) := rfl
theorem c_246_85 : mLk 246 85 = some (.iconst (-1), 1) := rfl
theorem c_246_86 : mLk 246 86 = some (.if_icmp .ne 7, 3) := rfl
theorem c_246_93 : mLk 246 93 = some (.aload_n 0, 1) := rfl
theorem c_246_94 : mLk 246 94 = some (.getfield 68, 3) := rfl
theorem c_246_97 : mLk 246 97 = some (.bipush 24, 2) := rfl
theorem c_246_99 : mLk 246 99 = some (.iload_n 2, 1) := rfl
theorem c_246_100 : mLk 246 100 = some (.iadd, 1) := rfl
theorem c_246_101 : mLk 246 101 = some (.iaload, 1) := rfl
theorem c_246_38 : mLk 246 38 = some (.aload_n 0, 1) := rfl
theorem c_246_39 : mLk 246 39 = some (.iload_n 3, 1) := rfl
theorem c_246_40 : mLk 246 40 = some (.invokevirtual 343, 3) := rfl
theorem c_246_43 : mLk 246 43 = some (.ifCond .le 31, 3) := rfl
theorem c_246_74 : mLk 246 74 = some (.iinc 3 1, 3) := rfl
theorem c_246_77 : mLk 246 77 = some (.goto (-47), 3) := rfl
theorem c_246_46 : mLk 246 46 = some (.iload_n 2, 1) := rfl
theorem c_246_47 : mLk 246 47 = some (.iconst (-1), 1) := rfl
theorem c_246_48 : mLk 246 48 = some (.if_icmp .eq 24, 3) := rfl
theorem c_246_72 : mLk 246 72 = some (.iload_n 3, 1) := rfl
theorem c_246_73 : mLk 246 73 = some (.istore_n 2, 1) := rfl
theorem c_246_51 : mLk 246 51 = some (.aload_n 0, 1) := rfl
theorem c_246_52 : mLk 246 52 = some (.getfield 68, 3) := rfl
theorem c_246_55 : mLk 246 55 = some (.bipush 24, 2) := rfl
theorem c_246_57 : mLk 246 57 = some (.iload_n 3, 1) := rfl
theorem c_246_58 : mLk 246 58 = some (.iadd, 1) := rfl
theorem c_246_59 : mLk 246 59 = some (.iaload, 1) := rfl
theorem c_246_60 : mLk 246 60 = some (.aload_n 0, 1) := rfl
theorem c_246_61 : mLk 246 61 = some (.getfield 68, 3) := rfl
theorem c_246_64 : mLk 246 64 = some (.bipush 24, 2) := rfl
theorem c_246_66 : mLk 246 66 = some (.iload_n 2, 1) := rfl
theorem c_246_67 : mLk 246 67 = some (.iadd, 1) := rfl
theorem c_246_68 : mLk 246 68 = some (.iaload, 1) := rfl
theorem c_246_69 : mLk 246 69 = some (.if_icmp .le 5, 3) := rfl
theorem c_246_0 : mLk 246 0 = some (.aload_n 0, 1) := rfl
theorem c_246_1 : mLk 246 1 = some (.iconst 0, 1) := rfl
theorem c_246_2 : mLk 246 2 = some (.putfield 3, 3) := rfl
theorem c_246_5 : mLk 246 5 = some (.aload_n 0, 1) := rfl
theorem c_246_6 : mLk 246 6 = some (.iload_n 1, 1) := rfl
theorem c_246_7 : mLk 246 7 = some (.iconst 0, 1) := rfl
theorem c_246_8 : mLk 246 8 = some (.iconst 1, 1) := rfl
theorem c_246_9 : mLk 246 9 = some (.invokestatic 384, 3) := rfl
theorem c_246_12 : mLk 246 12 = some (.iconst 1, 1) := rfl
theorem c_246_13 : mLk 246 13 = some (.iconst 1, 1) := rfl
theorem c_246_14 : mLk 246 14 = some (.invokevirtual 203, 3) := rfl
theorem c_246_17 : mLk 246 17 = some (.ifCond .ne 5, 3) := rfl
theorem c_246_20 : mLk 246 20 = some (.iconst 0, 1) := rfl
theorem c_246_21 : mLk 246 21 = some (.ireturn, 1) := rfl
theorem c_246_22 : mLk 246 22 = some (.aload_n 0, 1) := rfl
theorem c_246_23 : mLk 246 23 = some (.invokevirtual 317, 3) := rfl
theorem c_246_26 : mLk 246 26 = some (.iconst (-1), 1) := rfl
theorem c_246_27 : mLk 246 27 = some (.istore_n 2, 1) := rfl
theorem c_246_28 : mLk 246 28 = some (.iconst 0, 1) := rfl
theorem c_246_29 : mLk 246 29 = some (.istore_n 3, 1) := rfl
theorem c_247_27 : mLk 247 27 = some (.iload_n 3, 1) := rfl
theorem c_247_28 : mLk 247 28 = some (.aload_n 0, 1) := rfl
theorem c_247_29 : mLk 247 29 = some (.getfield 157, 3) := rfl
theorem c_247_32 : mLk 247 32 = some (.if_icmp .ge 41, 3) := rfl
theorem c_247_73 : mLk 247 73 = some (.iload_n 2, 1) := rfl
theorem c_247_74 : mLk 247 74 = some (.ireturn, 1) := rfl
theorem c_247_35 : mLk 247 35 = some (.iload_n 2, 1) := rfl
theorem c_247_36 : mLk 247 36 = some (.aload_n 0, 1) := rfl
theorem c_247_37 : mLk 247 37 = some (.iload_n 3, 1) := rfl
theorem c_247_38 : mLk 247 38 = some (.invokevirtual 343, 3) := rfl
theorem c_247_41 : mLk 247 41 = some (.ifCond .le 23, 3) := rfl
theorem c_247_64 : mLk 247 64 = some (.iconst 0, 1) := rfl
theorem c_247_65 : mLk 247 65 = some (.ior, 1) := rfl
theorem c_247_66 : mLk 247 66 = some (.istore_n 2, 1) := rfl
theorem c_247_67 : mLk 247 67 = some (.iinc 3 1, 3) := rfl
theorem c_247_70 : mLk 247 70 = some (.goto (-43), 3) := rfl
theorem c_247_44 : mLk 247 44 = some (.aload_n 0, 1) := rfl
theorem c_247_45 : mLk 247 45 = some (.iload_n 1, 1) := rfl
theorem c_247_46 : mLk 247 46 = some (.iload_n 3, 1) := rfl
theorem c_247_47 : mLk 247 47 = some (.invokevirtual 366, 3) := rfl
theorem c_247_50 : mLk 247 50 = some (.aload_n 0, 1) := rfl
theorem c_247_51 : mLk 247 51 = some (.iload_n 3, 1) := rfl
theorem c_247_52 : mLk 247 52 = some (.invokevirtual 343, 3) := rfl
theorem c_247_55 : mLk 247 55 = some (.if_icmp .ne 9, 3) := rfl
theorem c_247_58 : mLk 247 58 = some (.iconst 1, 1) := rfl
theorem c_247_59 : mLk 247 59 = some (.iload_n 3, 1) := rfl
theorem c_247_60 : mLk 247 60 = some (.ishl, 1) := rfl
theorem c_247_61 : mLk 247 61 = some (.goto 4, 3) := rfl
theorem c_247_0 : mLk 247 0 = some (.aload_n 0, 1) := rfl
theorem c_247_1 : mLk 247 1 = some (.iconst 0, 1) := rfl
theorem c_247_2 : mLk 247 2 = some (.putfield 3, 3) := rfl
theorem c_247_5 : mLk 247 5 = some (.aload_n 0, 1) := rfl
theorem c_247_6 : mLk 247 6 = some (.iload_n 1, 1) := rfl
theorem c_247_7 : mLk 247 7 = some (.aload_n 0, 1) := rfl
theorem c_247_8 : mLk 247 8 = some (.getfield 163, 3) := rfl
theorem c_247_11 : mLk 247 11 = some (.invokevirtual 396, 3) := rfl
theorem c_247_14 : mLk 247 14 = some (.ifCond .ne 5, 3) := rfl
theorem c_247_17 : mLk 247 17 = some (.iconst 0, 1) := rfl
theorem c_247_18 : mLk 247 18 = some (.ireturn, 1) := rfl
theorem c_247_19 : mLk 247 19 = some (.aload_n 0, 1) := rfl
theorem c_247_20 : mLk 247 20 = some (.invokevirtual 317, 3) := rfl
theorem c_247_23 : mLk 247 23 = some (.iconst 0, 1) := rfl
theorem c_247_24 : mLk 247 24 = some (.istore_n 2, 1) := rfl
theorem c_247_25 : mLk 247 25 = some (.iconst 0, 1) := rfl
theorem c_247_26 : mLk 247 26 = some (.istore_n 3, 1) := rfl
theorem c_248_47 : mLk 248 47 = some (.iload 5, 2) := rfl
theorem c_248_49 : mLk 248 49 = some (.aload_n 0, 1) := rfl
theorem c_248_50 : mLk 248 50 = some (.getfield 157, 3) := rfl
theorem c_248_53 : mLk 248 53 = some (.if_icmp .ge 57, 3) := rfl
theorem c_248_110 : mLk 248 110 = some (.iload_n 2, 1) := rfl
theorem c_248_111 : mLk 248 111 = some (.ifCond .ne 7, 3) := rfl
theorem c_248_118 : mLk 248 118 = some (.iload 4, 2) := rfl
theorem c_248_120 : mLk 248 120 = some (.ireturn, 1) := rfl
theorem c_248_114 : mLk 248 114 = some (.iload_n 3, 1) := rfl
theorem c_248_115 : mLk 248 115 = some (.goto 5, 3) := rfl
theorem c_248_56 : mLk 248 56 = some (.aload_n 0, 1) := rfl
theorem c_248_57 : mLk 248 57 = some (.getfield 65, 3) := rfl
theorem c_248_60 : mLk 248 60 = some (.iconst 4, 1) := rfl
theorem c_248_61 : mLk 248 61 = some (.iload 5, 2) := rfl
theorem c_248_63 : mLk 248 63 = some (.imul, 1) := rfl
theorem c_248_64 : mLk 248 64 = some (.iload_n 1, 1) := rfl
theorem c_248_65 : mLk 248 65 = some (.iadd, 1) := rfl
theorem c_248_66 : mLk 248 66 = some (.iaload, 1) := rfl
theorem c_248_67 : mLk 248 67 = some (.istore 6, 2) := rfl
theorem c_248_69 : mLk 248 69 = some (.iload_n 3, 1) := rfl
theorem c_248_70 : mLk 248 70 = some (.iload 6, 2) := rfl
theorem c_248_72 : mLk 248 72 = some (.iadd, 1) := rfl
theorem c_248_73 : mLk 248 73 = some (.istore_n 3, 1) := rfl
theorem c_248_74 : mLk 248 74 = some (.iload 6, 2) := rfl
theorem c_248_76 : mLk 248 76 = some (.iload 4, 2) := rfl
theorem c_248_78 : mLk 248 78 = some (.iconst (-1), 1) := rfl
theorem c_248_79 : mLk 248 79 = some (.if_icmp .ne 7, 3) := rfl
theorem c_248_86 : mLk 248 86 = some (.aload_n 0, 1) := rfl
theorem c_248_87 : mLk 248 87 = some (.getfield 65, 3) := rfl
theorem c_248_90 : mLk 248 90 = some (.iconst 4, 1) := rfl
theorem c_248_91 : mLk 248 91 = some (.iload 4, 2) := rfl
theorem c_248_93 : mLk 248 93 = some (.imul, 1) := rfl
theorem c_248_94 : mLk 248 94 = some (.iload_n 1, 1) := rfl
theorem c_248_95 : mLk 248 95 = some (.iadd, 1) := rfl
theorem c_248_96 : mLk 248 96 = some (.iaload, 1) := rfl
theorem c_248_97 : mLk 248 97 = some (.if_icmp .le 7, 3) := rfl
theorem c_248_104 : mLk 248 104 = some (.iinc 5 1, 3) := rfl
theorem c_248_107 : mLk 248 107 = some (.goto (-60), 3) := rfl
theorem c_248_100 : mLk 248 100 = some (.iload 5, 2) := rfl
theorem c_248_102 : mLk 248 102 = some (.istore 4, 2) := rfl
theorem c_248_82 : mLk 248 82 = some (.iconst 0, 1) := rfl
theorem c_248_83 : mLk 248 83 = some (.goto 14, 3) := rfl
theorem c_248_0 : mLk 248 0 = some (.aload_n 0, 1) := rfl
theorem c_248_1 : mLk 248 1 = some (.iconst 0, 1) := rfl
theorem c_248_2 : mLk 248 2 = some (.putfield 3, 3) := rfl
theorem c_248_5 : mLk 248 5 = some (.aload_n 0, 1) := rfl
theorem c_248_6 : mLk 248 6 = some (.iload_n 1, 1) := rfl
theorem c_248_7 : mLk 248 7 = some (.iconst 0, 1) := rfl
theorem c_248_8 : mLk 248 8 = some (.iconst 3, 1) := rfl
theorem c_248_9 : mLk 248 9 = some (.invokestatic 384, 3) := rfl
theorem c_248_12 : mLk 248 12 = some (.ifCond .eq 16, 3) := rfl
theorem c_248_28 : mLk 248 28 = some (.iconst 0, 1) := rfl
theorem c_248_29 : mLk 248 29 = some (.iconst 1, 1) := rfl
theorem c_248_30 : mLk 248 30 = some (.iconst 1, 1) := rfl
theorem c_248_31 : mLk 248 31 = some (.invokevirtual 203, 3) := rfl
theorem c_248_34 : mLk 248 34 = some (.ifCond .ne 5, 3) := rfl
theorem c_248_37 : mLk 248 37 = some (.iconst 0, 1) := rfl
theorem c_248_38 : mLk 248 38 = some (.ireturn, 1) := rfl
theorem c_248_15 : mLk 248 15 = some (.iload_n 2, 1) := rfl
theorem c_248_16 : mLk 248 16 = some (.iconst 0, 1) := rfl
theorem c_248_17 : mLk 248 17 = some (.iconst 1, 1) := rfl
theorem c_248_18 : mLk 248 18 = some (.invokestatic 384, 3) := rfl
theorem c_248_21 : mLk 248 21 = some (.ifCond .eq 7, 3) := rfl
theorem c_248_24 : mLk 248 24 = some (.iconst 1, 1) := rfl
theorem c_248_25 : mLk 248 25 = some (.goto 4, 3) := rfl
theorem c_248_39 : mLk 248 39 = some (.iconst 0, 1) := rfl
theorem c_248_40 : mLk 248 40 = some (.istore_n 3, 1) := rfl
theorem c_248_41 : mLk 248 41 = some (.iconst (-1), 1) := rfl
theorem c_248_42 : mLk 248 42 = some (.istore 4, 2) := rfl
theorem c_248_44 : mLk 248 44 = some (.iconst 0, 1) := rfl
theorem c_248_45 : mLk 248 45 = some (.istore 5, 2) := rfl
theorem c_249_13 : mLk 249 13 = some (.iload_n 2, 1) := rfl
theorem c_249_14 : mLk 249 14 = some (.aload_n 0, 1) := rfl
theorem c_249_15 : mLk 249 15 = some (.getfield 157, 3) := rfl
theorem c_249_18 : mLk 249 18 = some (.if_icmp .ge 32, 3) := rfl
theorem c_249_50 : mLk 249 50 = some (.iload_n 1, 1) := rfl
theorem c_249_51 : mLk 249 51 = some (.ireturn, 1) := rfl
theorem c_249_21 : mLk 249 21 = some (.iload_n 1, 1) := rfl
theorem c_249_22 : mLk 249 22 = some (.aload_n 0, 1) := rfl
theorem c_249_23 : mLk 249 23 = some (.iload_n 2, 1) := rfl
theorem c_249_24 : mLk 249 24 = some (.invokevirtual 378, 3) := rfl
theorem c_249_27 : mLk 249 27 = some (.ifCond .eq 14, 3) := rfl
theorem c_249_41 : mLk 249 41 = some (.iconst 0, 1) := rfl
theorem c_249_42 : mLk 249 42 = some (.iadd, 1) := rfl
theorem c_249_43 : mLk 249 43 = some (.istore_n 1, 1) := rfl
theorem c_249_44 : mLk 249 44 = some (.iinc 2 1, 3) := rfl
theorem c_249_47 : mLk 249 47 = some (.goto (-34), 3) := rfl
theorem c_249_30 : mLk 249 30 = some (.aload_n 0, 1) := rfl
theorem c_249_31 : mLk 249 31 = some (.iload_n 2, 1) := rfl
theorem c_249_32 : mLk 249 32 = some (.invokevirtual 343, 3) := rfl
theorem c_249_35 : mLk 249 35 = some (.bipush 10, 2) := rfl
theorem c_249_38 : mLk 249 38 = some (.goto 4, 3) := rfl
theorem c_249_0 : mLk 249 0 = some (.aload_n 0, 1) := rfl
theorem c_249_1 : mLk 249 1 = some (.iconst 0, 1) := rfl
theorem c_249_2 : mLk 249 2 = some (.putfield 3, 3) := rfl
theorem c_249_5 : mLk 249 5 = some (.aload_n 0, 1) := rfl
theorem c_249_6 : mLk 249 6 = some (.invokevirtual 317, 3) := rfl
theorem c_249_9 : mLk 249 9 = some (.iconst 0, 1) := rfl
theorem c_249_10 : mLk 249 10 = some (.istore_n 1, 1) := rfl
theorem c_249_11 : mLk 249 11 = some (.iconst 0, 1) := rfl
theorem c_249_12 : mLk 249 12 = some (.istore_n 2, 1) := rfl
theorem c_250_27 : mLk 250 27 = some (.iload_n 3, 1) := rfl
theorem c_250_28 : mLk 250 28 = some (.aload_n 0, 1) := rfl
theorem c_250_29 : mLk 250 29 = some (.getfield 157, 3) := rfl
theorem c_250_32 : mLk 250 32 = some (.if_icmp .ge 60, 3) := rfl
theorem c_250_92 : mLk 250 92 = some (.iload_n 2, 1) := rfl
theorem c_250_93 : mLk 250 93 = some (.ireturn, 1) := rfl
theorem c_250_35 : mLk 250 35 = some (.iload_n 3, 1) := rfl
theorem c_250_36 : mLk 250 36 = some (.iload_n 1, 1) := rfl
theorem c_250_37 : mLk 250 37 = some (.if_icmp .eq 49, 3) := rfl
theorem c_250_86 : mLk 250 86 = some (.iinc 3 1, 3) := rfl
theorem c_250_89 : mLk 250 89 = some (.goto (-62), 3) := rfl
theorem c_250_40 : mLk 250 40 = some (.aload_n 0, 1) := rfl
theorem c_250_41 : mLk 250 41 = some (.iload_n 3, 1) := rfl
theorem c_250_42 : mLk 250 42 = some (.invokevirtual 343, 3) := rfl
theorem c_250_45 : mLk 250 45 = some (.ifCond .le 41, 3) := rfl
theorem c_250_48 : mLk 250 48 = some (.iload_n 2, 1) := rfl
theorem c_250_49 : mLk 250 49 = some (.iconst (-1), 1) := rfl
theorem c_250_50 : mLk 250 50 = some (.if_icmp .eq 34, 3) := rfl
theorem c_250_84 : mLk 250 84 = some (.iload_n 3, 1) := rfl
theorem c_250_85 : mLk 250 85 = some (.istore_n 2, 1) := rfl
theorem c_250_53 : mLk 250 53 = some (.aload_n 0, 1) := rfl
theorem c_250_54 : mLk 250 54 = some (.iload_n 3, 1) := rfl
theorem c_250_55 : mLk 250 55 = some (.invokevirtual 399, 3) := rfl
theorem c_250_58 : mLk 250 58 = some (.aload_n 0, 1) := rfl
theorem c_250_59 : mLk 250 59 = some (.iload_n 1, 1) := rfl
theorem c_250_60 : mLk 250 60 = some (.invokevirtual 399, 3) := rfl
theorem c_250_63 : mLk 250 63 = some (.isub, 1) := rfl
theorem c_250_64 : mLk 250 64 = some (.invokestatic 411, 3) := rfl
theorem c_250_67 : mLk 250 67 = some (.aload_n 0, 1) := rfl
theorem c_250_68 : mLk 250 68 = some (.iload_n 2, 1) := rfl
theorem c_250_69 : mLk 250 69 = some (.invokevirtual 399, 3) := rfl
theorem c_250_72 : mLk 250 72 = some (.aload_n 0, 1) := rfl
theorem c_250_73 : mLk 250 73 = some (.iload_n 1, 1) := rfl
theorem c_250_74 : mLk 250 74 = some (.invokevirtual 399, 3) := rfl
theorem c_250_77 : mLk 250 77 = some (.isub, 1) := rfl
theorem c_250_78 : mLk 250 78 = some (.invokestatic 411, 3) := rfl
theorem c_250_81 : mLk 250 81 = some (.if_icmp .ge 5, 3) := rfl
theorem c_250_0 : mLk 250 0 = some (.aload_n 0, 1) := rfl
theorem c_250_1 : mLk 250 1 = some (.iconst 0, 1) := rfl
theorem c_250_2 : mLk 250 2 = some (.putfield 3, 3) := rfl
theorem c_250_5 : mLk 250 5 = some (.aload_n 0, 1) := rfl
theorem c_250_6 : mLk 250 6 = some (.iload_n 1, 1) := rfl
theorem c_250_7 : mLk 250 7 = some (.aload_n 0, 1) := rfl
theorem c_250_8 : mLk 250 8 = some (.getfield 157, 3) := rfl
theorem c_250_11 : mLk 250 11 = some (.invokevirtual 396, 3) := rfl
theorem c_250_14 : mLk 250 14 = some (.ifCond .ne 5, 3) := rfl
theorem c_250_17 : mLk 250 17 = some (.iconst 0, 1) := rfl
theorem c_250_18 : mLk 250 18 = some (.ireturn, 1) := rfl
theorem c_250_19 : mLk 250 19 = some (.aload_n 0, 1) := rfl
theorem c_250_20 : mLk 250 20 = some (.invokevirtual 317, 3) := rfl
theorem c_250_23 : mLk 250 23 = some (.iconst (-1), 1) := rfl
theorem c_250_24 : mLk 250 24 = some (.istore_n 2, 1) := rfl
theorem c_250_25 : mLk 250 25 = some (.iconst 0, 1) := rfl
theorem c_250_26 : mLk 250 26 = some (.istore_n 3, 1) := rfl
theorem c_251_43 : mLk 251 43 = some (.iload 4, 2) := rfl
theorem c_251_45 : mLk 251 45 = some (.aload_n 0, 1) := rfl
theorem c_251_46 : mLk 251 46 = some (.getfield 157, 3) := rfl
theorem c_251_49 : mLk 251 49 = some (.if_icmp .ge 19, 3) := rfl
theorem c_251_68 : mLk 251 68 = some (.iload_n 2, 1) := rfl
theorem c_251_69 : mLk 251 69 = some (.ifCond .ne 7, 3) := rfl
theorem c_251_76 : mLk 251 76 = some (.aload_n 0, 1) := rfl
theorem c_251_77 : mLk 251 77 = some (.invokevirtual 387, 3) := rfl
theorem c_251_80 : mLk 251 80 = some (.iload_n 3, 1) := rfl
theorem c_251_81 : mLk 251 81 = some (.isub, 1) := rfl
theorem c_251_82 : mLk 251 82 = some (.ireturn, 1) := rfl
theorem c_251_72 : mLk 251 72 = some (.iload_n 3, 1) := rfl
theorem c_251_73 : mLk 251 73 = some (.goto 9, 3) := rfl
theorem c_251_52 : mLk 251 52 = some (.iload_n 3, 1) := rfl
theorem c_251_53 : mLk 251 53 = some (.aload_n 0, 1) := rfl
theorem c_251_54 : mLk 251 54 = some (.iload_n 1, 1) := rfl
theorem c_251_55 : mLk 251 55 = some (.iload 4, 2) := rfl
theorem c_251_57 : mLk 251 57 = some (.invokevirtual 366, 3) := rfl
theorem c_251_61 : mLk 251 61 = some (.istore_n 3, 1) := rfl
theorem c_251_62 : mLk 251 62 = some (.iinc 4 1, 3) := rfl
theorem c_251_65 : mLk 251 65 = some (.goto (-22), 3) := rfl
theorem c_251_0 : mLk 251 0 = some (.aload_n 0, 1) := rfl
theorem c_251_1 : mLk 251 1 = some (.iconst 0, 1) := rfl
theorem c_251_2 : mLk 251 2 = some (.putfield 3, 3) := rfl
theorem c_251_5 : mLk 251 5 = some (.aload_n 0, 1) := rfl
theorem c_251_6 : mLk 251 6 = some (.iload_n 1, 1) := rfl
theorem c_251_7 : mLk 251 7 = some (.aload_n 0, 1) := rfl
theorem c_251_8 : mLk 251 8 = some (.getfield 163, 3) := rfl
theorem c_251_11 : mLk 251 11 = some (.invokevirtual 396, 3) := rfl
theorem c_251_14 : mLk 251 14 = some (.ifCond .eq 18, 3) := rfl
theorem c_251_32 : mLk 251 32 = some (.iconst 0, 1) := rfl
theorem c_251_33 : mLk 251 33 = some (.ireturn, 1) := rfl
theorem c_251_17 : mLk 251 17 = some (.aload_n 0, 1) := rfl
theorem c_251_18 : mLk 251 18 = some (.iload_n 2, 1) := rfl
theorem c_251_19 : mLk 251 19 = some (.iconst 0, 1) := rfl
theorem c_251_20 : mLk 251 20 = some (.iconst 1, 1) := rfl
theorem c_251_21 : mLk 251 21 = some (.invokestatic 384, 3) := rfl
theorem c_251_24 : mLk 251 24 = some (.iconst 2, 1) := rfl
theorem c_251_25 : mLk 251 25 = some (.iconst 1, 1) := rfl
theorem c_251_26 : mLk 251 26 = some (.invokevirtual 203, 3) := rfl
theorem c_251_29 : mLk 251 29 = some (.ifCond .ne 5, 3) := rfl
theorem c_251_34 : mLk 251 34 = some (.aload_n 0, 1) := rfl
theorem c_251_35 : mLk 251 35 = some (.invokevirtual 317, 3) := rfl
theorem c_251_38 : mLk 251 38 = some (.iconst 0, 1) := rfl
theorem c_251_39 : mLk 251 39 = some (.istore_n 3, 1) := rfl
theorem c_251_40 : mLk 251 40 = some (.iconst 0, 1) := rfl
theorem c_251_41 : mLk 251 41 = some (.istore 4, 2) := rfl
theorem c_252_0 : mLk 252 0 = some (.aload_n 0, 1) := rfl
theorem c_252_1 : mLk 252 1 = some (.aload_n 0, 1) := rfl
theorem c_252_2 : mLk 252 2 = some (.getfield 438, 3) := rfl
theorem c_252_5 : mLk 252 5 = some (.ldc_w 441, 3) := rfl
theorem c_252_8 : mLk 252 8 = some (.imul, 1) := rfl
theorem c_252_9 : mLk 252 9 = some (.sipush 12345, 3) := rfl
theorem c_252_12 : mLk 252 12 = some (.iadd, 1) := rfl
theorem c_252_13 : mLk 252 13 = some (.putfield 438, 3) := rfl
theorem c_252_16 : mLk 252 16 = some (.aload_n 0, 1) := rfl
theorem c_252_17 : mLk 252 17 = some (.getfield 438, 3) := rfl
theorem c_252_20 : mLk 252 20 = some (.bipush 16, 2) := rfl
theorem c_252_22 : mLk 252 22 = some (.ishr, 1) := rfl
theorem c_252_23 : mLk 252 23 = some (.sipush 32767, 3) := rfl
theorem c_252_26 : mLk 252 26 = some (.iand, 1) := rfl
theorem c_252_27 : mLk 252 27 = some (.iload_n 1, 1) := rfl
theorem c_252_29 : mLk 252 29 = some (.ireturn, 1) := rfl
theorem kf_8_438 : a_lk (kF 8) 438 = some (8, 50) := rfl
set_option maxRecDepth 100000 in
set_option maxHeartbeats 4000000 in
theorem s_244_l {sc : List Int32} {d P Q : Nat} {c : ME} {a1 : Int} {Z : AR → Prop} (hI : Iv 0 (-1) P Q c) (ha1 : (-2147483648) ≤ a1 ∧ a1 ≤ 2147483647) (K : ∀ (c2 : ME) (y : Int), Iv 0 (-1) P Q c2 → (∀ (a : Nat) (j : Int), ¬ ((a = 41 ∧ j = 0) ∨ a = 42 ∨ a = 59 ∨ a = 54 ∨ a = 55) → c2 a j = c a j) → (-2147483648) ≤ y ∧ y ≤ 2147483647 → Z (.inl (some (vi y)), Wd P Q P P c2, 0, 0)) : ∀ n : Nat, (∀ (c2 : ME) (v2 : Int), Iv 0 (-1) P Q c2 → (∀ (a : Nat) (j : Int), ¬ ((a = 41 ∧ j = 0) ∨ a = 42 ∨ a = 59 ∨ a = 54 ∨ a = 55) → c2 a j = c a j) → 0 ≤ v2 ∧ v2 ≤ 100 → ((a1 ≥ 0 ∧ a1 ≤ 5)) → 201 - 2 * v2 < (n : Int) → Wp sc (d + 13) 244 25 [(0, .ref 41), (1, vi a1), (2, vi v2)] [] (Wd P Q P P c2) 0 0 Z) := by
  intro n
  induction n with
  | zero => exact (by intro c2 v2 hI2 hF hv2 hx0 hm9; have hP := iv_P hI; have hQ := iv_Q hI; exfalso; omega)
  | succ n ih =>
    have hP := iv_P hI
    have hQ := iv_Q hI
    intro c2 v2 hI2 hF hv2 hx0 hm9
    refine q_iload_n c_244_25 rfl (v_bip c_244_26 (by decide) ?_)
    by_cases h_1 : v2 > 99
    · refine v_ic_gt_t (t := 51) c_244_28 rfl ⟨by decide, h_1, (Int.le_trans hv2.2 (by decide))⟩ (q_iconst c_244_51 (q_iret c_244_52 rfl ?_))
      exact K c2 (-1) hI2 (fun a j hm => hF a j hm) ⟨by decide, by decide⟩
    · refine v_ic_gt_f (t := 51) c_244_28 rfl ⟨(Int.le_trans (by decide) hv2.1), (Int.not_lt.mp h_1), by decide⟩ (q_aload_n c_244_31 rfl (q_iload_n c_244_32 rfl (v_cv c_244_33 km_8_378 rfl rfl (nb_ rfl) ⟨⟨rfl, rfl⟩, nb_ rfl, rfl⟩ (nb_ rfl) (nb_ rfl) (s_197 (a1 := a1) hI2 (show 0 ≤ a1 ∧ a1 ≤ 5 from ⟨by omega, by omega⟩) (fun c_2 y_5 hI_3 hF_4 hy_5 => (bk_inl ?_))))))
      by_cases h_6 : y_5 = 0
      · refine v_if_eq_t (t := 41) c_244_36 rfl h_6 (q_aload_n c_244_41 rfl (v_cv c_244_42 km_8_353 rfl rfl (nb_ rfl) ⟨⟨rfl, rfl⟩, nb_ rfl, rfl⟩ (nb_ rfl) (nb_ rfl) (s_199 hI_3 (fun c_7 hI_8 hF_9 => (bk_inl (v_iinc (v := v2 + 1) c_244_45 rfl (nb_ rfl) rfl (q_goto (t := 25) c_244_48 rfl (Wp_ls [(0, .ref 41), (1, vi a1), (2, vi (v2 + 1))] (lsub_cons rfl (lsub_cons rfl (lsub_cons rfl lsub_nil))) ?_))))))))
        exact ih c_7 (v2 + 1) hI_8 (fun a j hm => (hF_9 a j (fun h => hm (Or.inr (Or.inr (Or.inl h))))).trans ((hF_4 a j (qv_bcc235c24 hm)).trans (hF a j hm))) ⟨by first | exact rgp_l hv2.1 (by decide) | omega, by first | exact q_1eecf77db h_1 | omega⟩ ⟨by omega, by omega⟩ (by omega)
      · refine v_if_eq_f (t := 41) c_244_36 rfl ⟨h_6, ⟨(Int.le_trans (by decide) hy_5.1), (Int.le_trans hy_5.2 (by decide))⟩, by decide, by decide⟩ (q_iload_n c_244_39 rfl (q_iret c_244_40 rfl ?_))
        exact K c_2 v2 hI_3 (fun a j hm => (hF_4 a j (qv_bcc235c24 hm)).trans (hF a j hm)) ⟨(Int.le_trans (by decide) hv2.1), (Int.le_trans hv2.2 (by decide))⟩
set_option maxRecDepth 100000 in
set_option maxHeartbeats 4000000 in
theorem s_244 {sc : List Int32} {d P Q : Nat} {c : ME} {a1 : Int} {Z : AR → Prop} (hI : Iv 0 (-1) P Q c) (ha1 : (-2147483648) ≤ a1 ∧ a1 ≤ 2147483647) (K : ∀ (c2 : ME) (y : Int), Iv 0 (-1) P Q c2 → (∀ (a : Nat) (j : Int), ¬ ((a = 41 ∧ j = 0) ∨ a = 42 ∨ a = 59 ∨ a = 54 ∨ a = 55) → c2 a j = c a j) → (-2147483648) ≤ y ∧ y ≤ 2147483647 → Z (.inl (some (vi y)), Wd P Q P P c2, 0, 0)) : Wp sc (d + 13) 244 0 [(0, .ref 41), (1, vi a1)] [] (Wd P Q P P c) 0 0 Z := by
  have hP := iv_P hI
  have hQ := iv_Q hI
  refine q_aload_n c_244_0 rfl (q_iconst c_244_1 (v_pi (z := 0) c_244_2 kf_8_3 rfl (nb_ rfl) rfl rfl rfl (by decide) (q_aload_n c_244_5 rfl (q_iload_n c_244_6 rfl (q_aload_n c_244_7 rfl ?_)))))
  have h_10 := ir_41_20 hI
  refine v_gi (z := 20) (v := c 41 20) c_244_8 kf_8_157 rfl (nb_ rfl) rfl rfl (up_n (by decide)) (v_cv c_244_11 km_8_396 rfl rfl (nb_ rfl) ⟨⟨rfl, rfl⟩, nb_ rfl, rfl⟩ (nb_ rfl) (nb_ rfl) (q_aload_n c_212_0 rfl (q_iload_n c_212_1 rfl (q_iconst c_212_2 (q_iload_n c_212_3 rfl (q_iconst c_212_4 (v_isub (v := c 41 20 - 1) c_212_5 rfl ?_)))))))
  refine q_call c_212_6 rfl rfl rfl (q_iload_n c_146_0 rfl (q_iload_n c_146_1 rfl ?_))
  by_cases h_11 : a1 < 0
  · refine v_ic_lt_t (t := 14) c_146_2 rfl ⟨ha1.1, h_11, by decide⟩ (q_iconst c_146_14 (v_zret c_146_15 rfl (by decide) (bk_inl (q_iconst c_212_9 (q_iconst c_212_10 (v_cv c_212_11 km_8_203 rfl rfl (nb_ rfl) ⟨⟨rfl, rfl⟩, nb_ rfl, rfl⟩ (nb_ rfl) (nb_ rfl) (q_iload_n c_145_0 rfl ?_)))))))
    refine v_if_ne_f (t := 26) c_145_1 rfl (by decide) (q_aload_n c_145_4 rfl (v_gi (z := 0) (v := 0) c_145_5 kf_8_3 rfl (nb_ rfl) rfl rfl (up_e rfl) (v_if_ne_f (t := 26) c_145_8 rfl (by decide) (q_aload_n c_145_11 rfl (q_iload_n c_145_12 rfl (v_pi (z := 0) c_145_13 kf_8_3 rfl (nb_ rfl) rfl rfl rfl (by decide) (q_aload_n c_145_16 rfl ?_)))))))
    refine v_gr (t := 42) c_145_17 kf_8_7 rfl (nb_ rfl) rfl (q_iload_n c_145_20 rfl (q_dup2 c_145_21 ⟨rfl, rfl⟩ ?_))
    have h_12 := ir_42 hI 0
    refine v_ia (v := c 42 0) c_145_22 rfl (by decide) (by decide) (by decide) ((up_c (nn rfl)).trans (up_c (nn rfl))) (q_iconst c_145_23 (v_iadd (v := c 42 0 + 1) c_145_24 rfl (v_nrm (fun y_13 hy_13 => (v_is c_145_25 rfl (by decide) (by decide) (by decide) (q_aload_n c_145_26 rfl (v_gi (z := 0) (v := 1) c_145_27 kf_8_3 rfl (nb_ rfl) rfl rfl ((up_c (nn rfl)).trans (up_e rfl)) (v_if_ne_t (t := 37) c_145_30 rfl (by decide) ?_))))))))
    refine q_iconst c_145_37 (v_zret c_145_38 rfl (by decide) (bk_inl (v_zret c_212_14 rfl (by decide) (bk_inl (v_if_ne_f (t := 19) c_244_14 rfl (by decide) (q_iconst c_244_17 (q_iret c_244_18 rfl ?_)))))))
    have hI_14 := iw_41_0 (v := 0) hI ⟨by decide, by decide⟩
    have hI_15 := iw_41_0 (v := 1) hI_14 ⟨by decide, by decide⟩
    have hI_16 := iw_42 (j := 0) (v := y_13) hI_15 ⟨hy_13.1, hy_13.2⟩
    exact K (up (up (up c 41 0 0) 41 0 1) 42 0 y_13) 0 hI_16 (fun a j hm => (up_b (Decidable.or_iff_not_imp_left.mpr (fun h1 h2 => hm (Or.inr (Or.inl (Decidable.not_not.mp h1)))))).trans ((up_b (Decidable.or_iff_not_imp_left.mpr (fun h1 h2 => hm (Or.inl ⟨Decidable.not_not.mp h1, h2⟩)))).trans (up_b (Decidable.or_iff_not_imp_left.mpr (fun h1 h2 => hm (Or.inl ⟨Decidable.not_not.mp h1, h2⟩)))))) ⟨by decide, by decide⟩
  · refine v_ic_lt_f (t := 14) c_146_2 rfl ⟨by decide, (Int.not_lt.mp h_11), ha1.2⟩ (q_iload_n c_146_5 rfl (q_iload_n c_146_6 rfl ?_))
    by_cases h_17 : a1 > c 41 20 - 1
    · refine v_ic_gt_t (t := 14) c_146_7 rfl ⟨by first | exact rgm_l h_10.1 (by decide) | omega, h_17, ha1.2⟩ (q_iconst c_146_14 (v_zret c_146_15 rfl (by decide) (bk_inl (q_iconst c_212_9 (q_iconst c_212_10 (v_cv c_212_11 km_8_203 rfl rfl (nb_ rfl) ⟨⟨rfl, rfl⟩, nb_ rfl, rfl⟩ (nb_ rfl) (nb_ rfl) (q_iload_n c_145_0 rfl ?_)))))))
      refine v_if_ne_f (t := 26) c_145_1 rfl (by decide) (q_aload_n c_145_4 rfl (v_gi (z := 0) (v := 0) c_145_5 kf_8_3 rfl (nb_ rfl) rfl rfl (up_e rfl) (v_if_ne_f (t := 26) c_145_8 rfl (by decide) (q_aload_n c_145_11 rfl (q_iload_n c_145_12 rfl (v_pi (z := 0) c_145_13 kf_8_3 rfl (nb_ rfl) rfl rfl rfl (by decide) (q_aload_n c_145_16 rfl ?_)))))))
      refine v_gr (t := 42) c_145_17 kf_8_7 rfl (nb_ rfl) rfl (q_iload_n c_145_20 rfl (q_dup2 c_145_21 ⟨rfl, rfl⟩ ?_))
      have h_18 := ir_42 hI 0
      refine v_ia (v := c 42 0) c_145_22 rfl (by decide) (by decide) (by decide) ((up_c (nn rfl)).trans (up_c (nn rfl))) (q_iconst c_145_23 (v_iadd (v := c 42 0 + 1) c_145_24 rfl (v_nrm (fun y_19 hy_19 => (v_is c_145_25 rfl (by decide) (by decide) (by decide) (q_aload_n c_145_26 rfl (v_gi (z := 0) (v := 1) c_145_27 kf_8_3 rfl (nb_ rfl) rfl rfl ((up_c (nn rfl)).trans (up_e rfl)) (v_if_ne_t (t := 37) c_145_30 rfl (by decide) ?_))))))))
      refine q_iconst c_145_37 (v_zret c_145_38 rfl (by decide) (bk_inl (v_zret c_212_14 rfl (by decide) (bk_inl (v_if_ne_f (t := 19) c_244_14 rfl (by decide) (q_iconst c_244_17 (q_iret c_244_18 rfl ?_)))))))
      have hI_20 := iw_41_0 (v := 0) hI ⟨by decide, by decide⟩
      have hI_21 := iw_41_0 (v := 1) hI_20 ⟨by decide, by decide⟩
      have hI_22 := iw_42 (j := 0) (v := y_19) hI_21 ⟨hy_19.1, hy_19.2⟩
      exact K (up (up (up c 41 0 0) 41 0 1) 42 0 y_19) 0 hI_22 (fun a j hm => (up_b (Decidable.or_iff_not_imp_left.mpr (fun h1 h2 => hm (Or.inr (Or.inl (Decidable.not_not.mp h1)))))).trans ((up_b (Decidable.or_iff_not_imp_left.mpr (fun h1 h2 => hm (Or.inl ⟨Decidable.not_not.mp h1, h2⟩)))).trans (up_b (Decidable.or_iff_not_imp_left.mpr (fun h1 h2 => hm (Or.inl ⟨Decidable.not_not.mp h1, h2⟩)))))) ⟨by decide, by decide⟩
    · refine v_ic_gt_f (t := 14) c_146_7 rfl ⟨ha1.1, (Int.not_lt.mp h_17), by first | exact rgm_h h_10.2 (by decide) | omega⟩ (q_iconst c_146_10 (q_goto (t := 15) c_146_11 rfl (v_zret c_146_15 rfl (by decide) (bk_inl (q_iconst c_212_9 (q_iconst c_212_10 (v_cv c_212_11 km_8_203 rfl rfl (nb_ rfl) ⟨⟨rfl, rfl⟩, nb_ rfl, rfl⟩ (nb_ rfl) (nb_ rfl) ?_)))))))
      refine q_iload_n c_145_0 rfl (v_if_ne_t (t := 26) c_145_1 rfl (by decide) (q_aload_n c_145_26 rfl (v_gi (z := 0) (v := 0) c_145_27 kf_8_3 rfl (nb_ rfl) rfl rfl (up_e rfl) (v_if_ne_f (t := 37) c_145_30 rfl (by decide) (q_iconst c_145_33 (q_goto (t := 38) c_145_34 rfl (v_zret c_145_38 rfl (by decide) ?_)))))))
      refine bk_inl (v_zret c_212_14 rfl (by decide) (bk_inl (v_if_ne_t (t := 19) c_244_14 rfl (by decide) (q_aload_n c_244_19 rfl ?_))))
      have hI_23 := iw_41_0 (v := 0) hI ⟨by decide, by decide⟩
      refine v_cv c_244_20 km_8_317 rfl rfl (nb_ rfl) ⟨⟨rfl, rfl⟩, nb_ rfl, rfl⟩ (nb_ rfl) (nb_ rfl) (s_186 hI_23 (fun c_24 hI_25 hF_26 => (bk_inl (q_iconst c_244_23 (q_istore_n c_244_24 (nb_ rfl) (Wp_ls [(0, .ref 41), (1, vi a1), (2, vi 0)] (lsub_cons rfl (lsub_cons rfl (lsub_cons rfl lsub_nil))) ?_))))))
      exact (s_244_l (sc := sc) (d := d) hI ha1 K 204) c_24 0 hI_25 (fun a j hm => (hF_26 a j (fun h => hm (Or.inr (Or.inr (Or.inl h))))).trans (up_b (Decidable.or_iff_not_imp_left.mpr (fun h1 h2 => hm (Or.inl ⟨Decidable.not_not.mp h1, h2⟩))))) ⟨by decide, by decide⟩ ⟨by first | exact q_720657ba9 h_11 | omega, by first | exact q_3a2e67ab0 h_10 h_17 | omega⟩ (by omega)

set_option maxRecDepth 100000 in
set_option maxHeartbeats 4000000 in
theorem s_245 {sc : List Int32} {d P Q : Nat} {c : ME} {a1 : Int} {Z : AR → Prop} (hI : Iv 0 (-1) P Q c) (ha1 : (-2147483648) ≤ a1 ∧ a1 ≤ 2147483647) (K : ∀ (c2 : ME) (y : Int), Iv 0 (-1) P Q c2 → (∀ (a : Nat) (j : Int), ¬ ((a = 41 ∧ j = 0) ∨ a = 42 ∨ a = 59) → c2 a j = c a j) → (-2147483648) ≤ y ∧ y ≤ 2147483647 → Z (.inl (some (vi y)), Wd P Q P P c2, 0, 0)) : Wp sc (d + 9) 245 0 [(0, .ref 41), (1, vi a1)] [] (Wd P Q P P c) 0 0 Z := by
  have hP := iv_P hI
  have hQ := iv_Q hI
  refine q_aload_n c_245_0 rfl (q_iconst c_245_1 (v_pi (z := 0) c_245_2 kf_8_3 rfl (nb_ rfl) rfl rfl rfl (by decide) (q_aload_n c_245_5 rfl (q_iload_n c_245_6 rfl (q_aload_n c_245_7 rfl ?_)))))
  have h_1 := ir_41_20 hI
  refine v_gi (z := 20) (v := c 41 20) c_245_8 kf_8_157 rfl (nb_ rfl) rfl rfl (up_n (by decide)) (v_cv c_245_11 km_8_396 rfl rfl (nb_ rfl) ⟨⟨rfl, rfl⟩, nb_ rfl, rfl⟩ (nb_ rfl) (nb_ rfl) (q_aload_n c_212_0 rfl (q_iload_n c_212_1 rfl (q_iconst c_212_2 (q_iload_n c_212_3 rfl (q_iconst c_212_4 (v_isub (v := c 41 20 - 1) c_212_5 rfl ?_)))))))
  refine q_call c_212_6 rfl rfl rfl (q_iload_n c_146_0 rfl (q_iload_n c_146_1 rfl ?_))
  by_cases h_2 : a1 < 0
  · refine v_ic_lt_t (t := 14) c_146_2 rfl ⟨ha1.1, h_2, by decide⟩ (q_iconst c_146_14 (v_zret c_146_15 rfl (by decide) (bk_inl (q_iconst c_212_9 (q_iconst c_212_10 (v_cv c_212_11 km_8_203 rfl rfl (nb_ rfl) ⟨⟨rfl, rfl⟩, nb_ rfl, rfl⟩ (nb_ rfl) (nb_ rfl) (q_iload_n c_145_0 rfl ?_)))))))
    refine v_if_ne_f (t := 26) c_145_1 rfl (by decide) (q_aload_n c_145_4 rfl (v_gi (z := 0) (v := 0) c_145_5 kf_8_3 rfl (nb_ rfl) rfl rfl (up_e rfl) (v_if_ne_f (t := 26) c_145_8 rfl (by decide) (q_aload_n c_145_11 rfl (q_iload_n c_145_12 rfl (v_pi (z := 0) c_145_13 kf_8_3 rfl (nb_ rfl) rfl rfl rfl (by decide) (q_aload_n c_145_16 rfl ?_)))))))
    refine v_gr (t := 42) c_145_17 kf_8_7 rfl (nb_ rfl) rfl (q_iload_n c_145_20 rfl (q_dup2 c_145_21 ⟨rfl, rfl⟩ ?_))
    have h_3 := ir_42 hI 0
    refine v_ia (v := c 42 0) c_145_22 rfl (by decide) (by decide) (by decide) ((up_c (nn rfl)).trans (up_c (nn rfl))) (q_iconst c_145_23 (v_iadd (v := c 42 0 + 1) c_145_24 rfl (v_nrm (fun y_4 hy_4 => (v_is c_145_25 rfl (by decide) (by decide) (by decide) (q_aload_n c_145_26 rfl (v_gi (z := 0) (v := 1) c_145_27 kf_8_3 rfl (nb_ rfl) rfl rfl ((up_c (nn rfl)).trans (up_e rfl)) (v_if_ne_t (t := 37) c_145_30 rfl (by decide) ?_))))))))
    refine q_iconst c_145_37 (v_zret c_145_38 rfl (by decide) (bk_inl (v_zret c_212_14 rfl (by decide) (bk_inl (v_if_ne_f (t := 19) c_245_14 rfl (by decide) (q_iconst c_245_17 (q_iret c_245_18 rfl ?_)))))))
    have hI_5 := iw_41_0 (v := 0) hI ⟨by decide, by decide⟩
    have hI_6 := iw_41_0 (v := 1) hI_5 ⟨by decide, by decide⟩
    have hI_7 := iw_42 (j := 0) (v := y_4) hI_6 ⟨hy_4.1, hy_4.2⟩
    exact K (up (up (up c 41 0 0) 41 0 1) 42 0 y_4) 0 hI_7 (fun a j hm => (up_b (Decidable.or_iff_not_imp_left.mpr (fun h1 h2 => hm (Or.inr (Or.inl (Decidable.not_not.mp h1)))))).trans ((up_b (Decidable.or_iff_not_imp_left.mpr (fun h1 h2 => hm (Or.inl ⟨Decidable.not_not.mp h1, h2⟩)))).trans (up_b (Decidable.or_iff_not_imp_left.mpr (fun h1 h2 => hm (Or.inl ⟨Decidable.not_not.mp h1, h2⟩)))))) ⟨by decide, by decide⟩
  · refine v_ic_lt_f (t := 14) c_146_2 rfl ⟨by decide, (Int.not_lt.mp h_2), ha1.2⟩ (q_iload_n c_146_5 rfl (q_iload_n c_146_6 rfl ?_))
    by_cases h_8 : a1 > c 41 20 - 1
    · refine v_ic_gt_t (t := 14) c_146_7 rfl ⟨by first | exact rgm_l h_1.1 (by decide) | omega, h_8, ha1.2⟩ (q_iconst c_146_14 (v_zret c_146_15 rfl (by decide) (bk_inl (q_iconst c_212_9 (q_iconst c_212_10 (v_cv c_212_11 km_8_203 rfl rfl (nb_ rfl) ⟨⟨rfl, rfl⟩, nb_ rfl, rfl⟩ (nb_ rfl) (nb_ rfl) (q_iload_n c_145_0 rfl ?_)))))))
      refine v_if_ne_f (t := 26) c_145_1 rfl (by decide) (q_aload_n c_145_4 rfl (v_gi (z := 0) (v := 0) c_145_5 kf_8_3 rfl (nb_ rfl) rfl rfl (up_e rfl) (v_if_ne_f (t := 26) c_145_8 rfl (by decide) (q_aload_n c_145_11 rfl (q_iload_n c_145_12 rfl (v_pi (z := 0) c_145_13 kf_8_3 rfl (nb_ rfl) rfl rfl rfl (by decide) (q_aload_n c_145_16 rfl ?_)))))))
      refine v_gr (t := 42) c_145_17 kf_8_7 rfl (nb_ rfl) rfl (q_iload_n c_145_20 rfl (q_dup2 c_145_21 ⟨rfl, rfl⟩ ?_))
      have h_9 := ir_42 hI 0
      refine v_ia (v := c 42 0) c_145_22 rfl (by decide) (by decide) (by decide) ((up_c (nn rfl)).trans (up_c (nn rfl))) (q_iconst c_145_23 (v_iadd (v := c 42 0 + 1) c_145_24 rfl (v_nrm (fun y_10 hy_10 => (v_is c_145_25 rfl (by decide) (by decide) (by decide) (q_aload_n c_145_26 rfl (v_gi (z := 0) (v := 1) c_145_27 kf_8_3 rfl (nb_ rfl) rfl rfl ((up_c (nn rfl)).trans (up_e rfl)) (v_if_ne_t (t := 37) c_145_30 rfl (by decide) ?_))))))))
      refine q_iconst c_145_37 (v_zret c_145_38 rfl (by decide) (bk_inl (v_zret c_212_14 rfl (by decide) (bk_inl (v_if_ne_f (t := 19) c_245_14 rfl (by decide) (q_iconst c_245_17 (q_iret c_245_18 rfl ?_)))))))
      have hI_11 := iw_41_0 (v := 0) hI ⟨by decide, by decide⟩
      have hI_12 := iw_41_0 (v := 1) hI_11 ⟨by decide, by decide⟩
      have hI_13 := iw_42 (j := 0) (v := y_10) hI_12 ⟨hy_10.1, hy_10.2⟩
      exact K (up (up (up c 41 0 0) 41 0 1) 42 0 y_10) 0 hI_13 (fun a j hm => (up_b (Decidable.or_iff_not_imp_left.mpr (fun h1 h2 => hm (Or.inr (Or.inl (Decidable.not_not.mp h1)))))).trans ((up_b (Decidable.or_iff_not_imp_left.mpr (fun h1 h2 => hm (Or.inl ⟨Decidable.not_not.mp h1, h2⟩)))).trans (up_b (Decidable.or_iff_not_imp_left.mpr (fun h1 h2 => hm (Or.inl ⟨Decidable.not_not.mp h1, h2⟩)))))) ⟨by decide, by decide⟩
    · refine v_ic_gt_f (t := 14) c_146_7 rfl ⟨ha1.1, (Int.not_lt.mp h_8), by first | exact rgm_h h_1.2 (by decide) | omega⟩ (q_iconst c_146_10 (q_goto (t := 15) c_146_11 rfl (v_zret c_146_15 rfl (by decide) (bk_inl (q_iconst c_212_9 (q_iconst c_212_10 (v_cv c_212_11 km_8_203 rfl rfl (nb_ rfl) ⟨⟨rfl, rfl⟩, nb_ rfl, rfl⟩ (nb_ rfl) (nb_ rfl) ?_)))))))
      refine q_iload_n c_145_0 rfl (v_if_ne_t (t := 26) c_145_1 rfl (by decide) (q_aload_n c_145_26 rfl (v_gi (z := 0) (v := 0) c_145_27 kf_8_3 rfl (nb_ rfl) rfl rfl (up_e rfl) (v_if_ne_f (t := 37) c_145_30 rfl (by decide) (q_iconst c_145_33 (q_goto (t := 38) c_145_34 rfl (v_zret c_145_38 rfl (by decide) ?_)))))))
      refine bk_inl (v_zret c_212_14 rfl (by decide) (bk_inl (v_if_ne_t (t := 19) c_245_14 rfl (by decide) (q_aload_n c_245_19 rfl ?_))))
      have hI_14 := iw_41_0 (v := 0) hI ⟨by decide, by decide⟩
      refine v_cv c_245_20 km_8_317 rfl rfl (nb_ rfl) ⟨⟨rfl, rfl⟩, nb_ rfl, rfl⟩ (nb_ rfl) (nb_ rfl) (s_186 hI_14 (fun c_15 hI_16 hF_17 => (bk_inl (v_sip c_245_23 (by decide) (q_aload_n c_245_26 rfl (q_iload_n c_245_27 rfl ?_))))))
      have h_18 := ir_59_g hI_16 (j := 4 * a1) (by first | exact q_b0d0e4535 h_1 h_8 | omega)
      have h_19 := ir_59_g hI_16 (j := 4 * a1 + 1) (by first | exact q_e3354e5e9 h_1 h_8 | omega)
      have h_20 := ir_59_g hI_16 (j := 4 * a1 + 2) (by first | exact q_0a5347bcd h_1 h_8 | omega)
      have h_21 := ir_59_g hI_16 (j := 4 * a1 + 3) (by first | exact q_9939b3b7f h_1 h_8 | omega)
      refine v_cv c_245_28 km_8_343 rfl rfl (nb_ rfl) ⟨⟨rfl, rfl⟩, nb_ rfl, rfl⟩ (nb_ rfl) (nb_ rfl) (s_187 (v1 := c_15 59 (4 * a1)) (v2 := c_15 59 (4 * a1 + 1)) (v3 := c_15 59 (4 * a1 + 2)) (v4 := c_15 59 (4 * a1 + 3)) (r := c_15 59 (4 * a1 + 1) + c_15 59 (4 * a1 + 2) + c_15 59 (4 * a1 + 3) + c_15 59 (4 * a1)) (a1 := a1) hI_16 (show 0 ≤ a1 ∧ a1 ≤ 5 from ⟨by first | exact q_720657ba9 h_2 | omega, by first | exact q_3a2e67ab0 h_1 h_8 | omega⟩) (rfl) (rfl) (rfl) (rfl) (by omega) (bk_inl (v_isub (v := 9999 - c_15 59 (4 * a1 + 1) - c_15 59 (4 * a1 + 2) - c_15 59 (4 * a1 + 3) - c_15 59 (4 * a1)) c_245_31 (by first | exact q_f408b7df8 | omega) (q_iret c_245_32 rfl ?_))))
      exact K c_15 (9999 - c_15 59 (4 * a1 + 1) - c_15 59 (4 * a1 + 2) - c_15 59 (4 * a1 + 3) - c_15 59 (4 * a1)) hI_16 (fun a j hm => (hF_17 a j (fun h => hm (Or.inr (Or.inr h)))).trans (up_b (Decidable.or_iff_not_imp_left.mpr (fun h1 h2 => hm (Or.inl ⟨Decidable.not_not.mp h1, h2⟩))))) ⟨by first | exact q_fb5727b6a h_18 h_19 h_20 h_21 | omega, by first | exact q_033ec8ac9 h_18 h_19 h_20 h_21 | omega⟩

set_option maxRecDepth 100000 in
set_option maxHeartbeats 4000000 in
theorem s_246_l {sc : List Int32} {d P Q : Nat} {c : ME} {a1 : Int} {Z : AR → Prop} (hI : Iv 0 (-1) P Q c) (ha1 : (-2147483648) ≤ a1 ∧ a1 ≤ 2147483647) (K : ∀ (c2 : ME) (y : Int), Iv 0 (-1) P Q c2 → (∀ (a : Nat) (j : Int), ¬ ((a = 41 ∧ j = 0) ∨ a = 42 ∨ a = 59) → c2 a j = c a j) → (-2147483648) ≤ y ∧ y ≤ 2147483647 → Z (.inl (some (vi y)), Wd P Q P P c2, 0, 0)) : ∀ n : Nat, (∀ (c2 : ME) (v2 : Int) (v3 : Int), Iv 0 (-1) P Q c2 → (∀ (a : Nat) (j : Int), ¬ ((a = 41 ∧ j = 0) ∨ a = 42 ∨ a = 59) → c2 a j = c a j) → (-1) ≤ v2 ∧ v2 ≤ 5 → 0 ≤ v3 ∧ v3 ≤ 6 → 13 - 2 * v3 < (n : Int) → Wp sc (d + 8) 246 30 [(0, .ref 41), (1, vi a1), (2, vi v2), (3, vi v3)] [] (Wd P Q P P c2) 0 0 Z) := by
  intro n
  induction n with
  | zero => exact (by intro c2 v2 v3 hI2 hF hv2 hv3 hm9; have hP := iv_P hI; have hQ := iv_Q hI; exfalso; omega)
  | succ n ih =>
    have hP := iv_P hI
    have hQ := iv_Q hI
    intro c2 v2 v3 hI2 hF hv2 hv3 hm9
    refine q_iload_n c_246_30 rfl (q_aload_n c_246_31 rfl ?_)
    have h_1 := ir_41_20 hI
    have kn_2 : Hid (c2 41 20 = c 41 20) := hF 41 20 qn_110b29ed6
    refine v_gi (z := 20) (v := c 41 20) c_246_32 kf_8_157 rfl (nb_ rfl) rfl rfl (hid kn_2) ?_
    by_cases h_3 : v3 ≥ c 41 20
    · refine v_ic_ge_t (t := 80) c_246_35 rfl ⟨by first | exact q_730ab5169 h_1 | omega, h_3, (Int.le_trans hv3.2 (by decide))⟩ (q_iload_n c_246_80 rfl ?_)
      by_cases h_4 : a1 = 0
      · refine v_if_eq_t (t := 89) c_246_81 rfl h_4 (q_iload_n c_246_89 rfl (q_goto (t := 102) c_246_90 rfl (q_iret c_246_102 rfl ?_)))
        exact K c2 v2 hI2 (fun a j hm => hF a j hm) ⟨(Int.le_trans (by decide) hv2.1), (Int.le_trans hv2.2 (by decide))⟩
      · refine v_if_eq_f (t := 89) c_246_81 rfl ⟨h_4, ⟨ha1.1, ha1.2⟩, by decide, by decide⟩ (q_iload_n c_246_84 rfl (q_iconst c_246_85 ?_))
        by_cases h_5 : v2 ≠ (-1)
        · refine v_ic_ne_t (t := 93) c_246_86 rfl ⟨h_5, ⟨(Int.le_trans (by decide) hv2.1), (Int.le_trans hv2.2 (by decide))⟩, by decide, by decide⟩ (q_aload_n c_246_93 rfl (v_gr (t := 59) c_246_94 kf_8_68 rfl (nb_ rfl) rfl (v_bip c_246_97 (by decide) (q_iload_n c_246_99 rfl (v_iadd (v := v2 + 24) c_246_100 (by first | exact q_1b47056ce | omega) ?_)))))
          have h_6 := ir_59 hI2 (v2 + 24)
          refine v_ia (v := c2 59 (v2 + 24)) c_246_101 rfl (by decide) (by decide) ⟨by first | exact rgp_l hv2.1 (by decide) | omega, by first | exact q_42435cb53 hv2 | omega⟩ rfl (q_iret c_246_102 rfl ?_)
          exact K c2 (c2 59 (v2 + 24)) hI2 (fun a j hm => hF a j hm) h_6
        · refine v_ic_ne_f (t := 93) c_246_86 rfl (Decidable.not_not.mp h_5) (q_iload_n c_246_89 rfl (q_goto (t := 102) c_246_90 rfl (q_iret c_246_102 rfl ?_)))
          exact K c2 v2 hI2 (fun a j hm => hF a j hm) ⟨(Int.le_trans (by decide) hv2.1), (Int.le_trans hv2.2 (by decide))⟩
    · refine v_ic_ge_f (t := 80) c_246_35 rfl ⟨(Int.le_trans (by decide) hv3.1), (Int.not_le.mp h_3), by first | exact q_b289b7db2 h_1 | omega⟩ (q_aload_n c_246_38 rfl (q_iload_n c_246_39 rfl ?_))
      have h_7 := ir_59_g hI2 (j := 4 * v3) (by first | exact q_aa51b186e h_1 h_3 | omega)
      have h_8 := ir_59_g hI2 (j := 4 * v3 + 1) (by first | exact q_57851f9de h_1 h_3 | omega)
      have h_9 := ir_59_g hI2 (j := 4 * v3 + 2) (by first | exact q_7296e74e6 h_1 h_3 | omega)
      have h_10 := ir_59_g hI2 (j := 4 * v3 + 3) (by first | exact q_b15525c4c h_1 h_3 | omega)
      refine v_cv c_246_40 km_8_343 rfl rfl (nb_ rfl) ⟨⟨rfl, rfl⟩, nb_ rfl, rfl⟩ (nb_ rfl) (nb_ rfl) (s_187 (v1 := c2 59 (4 * v3)) (v2 := c2 59 (4 * v3 + 1)) (v3 := c2 59 (4 * v3 + 2)) (v4 := c2 59 (4 * v3 + 3)) (r := c2 59 (4 * v3 + 1) + c2 59 (4 * v3 + 2) + c2 59 (4 * v3 + 3) + c2 59 (4 * v3)) (a1 := v3) hI2 (show 0 ≤ v3 ∧ v3 ≤ 5 from ⟨hv3.1, by first | exact q_d63a8538e h_1 h_3 | omega⟩) (rfl) (rfl) (rfl) (rfl) (by omega) (bk_inl ?_))
      by_cases h_11 : c2 59 (4 * v3 + 1) + c2 59 (4 * v3 + 2) + c2 59 (4 * v3 + 3) + c2 59 (4 * v3) ≤ 0
      · refine v_if_le_t (t := 74) c_246_43 rfl ⟨by first | exact q_94559468f h_10 h_7 h_8 h_9 | omega, h_11, by decide⟩ (v_iinc (v := v3 + 1) c_246_74 rfl (nb_ rfl) rfl (q_goto (t := 30) c_246_77 rfl (Wp_ls [(0, .ref 41), (1, vi a1), (2, vi v2), (3, vi (v3 + 1))] (lsub_cons rfl (lsub_cons rfl (lsub_cons rfl (lsub_cons rfl lsub_nil)))) ?_)))
        exact ih c2 v2 (v3 + 1) hI2 (fun a j hm => hF a j hm) hv2 ⟨by first | exact rgp_l hv3.1 (by decide) | omega, by first | exact q_4a76cd9c7 h_1 h_3 | omega⟩ (by omega)
      · refine v_if_le_f (t := 74) c_246_43 rfl ⟨by decide, (Int.not_le.mp h_11), by first | exact q_f81653045 h_10 h_7 h_8 h_9 | omega⟩ (q_iload_n c_246_46 rfl (q_iconst c_246_47 ?_))
        by_cases h_12 : v2 = (-1)
        · refine v_ic_eq_t (t := 72) c_246_48 rfl h_12 (q_iload_n c_246_72 rfl (q_istore_n c_246_73 (nb_ rfl) (v_iinc (v := v3 + 1) c_246_74 rfl (nb_ rfl) rfl (q_goto (t := 30) c_246_77 rfl (Wp_ls [(0, .ref 41), (1, vi a1), (2, vi v3), (3, vi (v3 + 1))] (lsub_cons rfl (lsub_cons rfl (lsub_cons rfl (lsub_cons rfl lsub_nil)))) ?_)))))
          exact ih c2 v3 (v3 + 1) hI2 (fun a j hm => hF a j hm) ⟨(Int.le_trans (by decide) hv3.1), by first | exact q_d63a8538e h_1 h_3 | omega⟩ ⟨by first | exact rgp_l hv3.1 (by decide) | omega, by first | exact q_4a76cd9c7 h_1 h_3 | omega⟩ (by omega)
        · refine v_ic_eq_f (t := 72) c_246_48 rfl ⟨h_12, ⟨(Int.le_trans (by decide) hv2.1), (Int.le_trans hv2.2 (by decide))⟩, by decide, by decide⟩ (q_aload_n c_246_51 rfl (v_gr (t := 59) c_246_52 kf_8_68 rfl (nb_ rfl) rfl (v_bip c_246_55 (by decide) (q_iload_n c_246_57 rfl (v_iadd (v := v3 + 24) c_246_58 (by first | exact q_1b47056ce | omega) ?_)))))
          have h_13 := ir_59 hI2 (v3 + 24)
          refine v_ia (v := c2 59 (v3 + 24)) c_246_59 rfl (by decide) (by decide) ⟨by first | exact rgp_l hv3.1 (by decide) | omega, by first | exact q_51955fde5 hv3 | omega⟩ rfl (q_aload_n c_246_60 rfl (v_gr (t := 59) c_246_61 kf_8_68 rfl (nb_ rfl) rfl (v_bip c_246_64 (by decide) (q_iload_n c_246_66 rfl (v_iadd (v := v2 + 24) c_246_67 (by first | exact q_1b47056ce | omega) ?_)))))
          have h_14 := ir_59 hI2 (v2 + 24)
          refine v_ia (v := c2 59 (v2 + 24)) c_246_68 rfl (by decide) (by decide) ⟨by first | exact rgp_l hv2.1 (by decide) | omega, by first | exact q_42435cb53 hv2 | omega⟩ rfl ?_
          by_cases h_15 : c2 59 (v3 + 24) ≤ c2 59 (v2 + 24)
          · refine v_ic_le_t (t := 74) c_246_69 rfl ⟨h_13.1, h_15, h_14.2⟩ (v_iinc (v := v3 + 1) c_246_74 rfl (nb_ rfl) rfl (q_goto (t := 30) c_246_77 rfl (Wp_ls [(0, .ref 41), (1, vi a1), (2, vi v2), (3, vi (v3 + 1))] (lsub_cons rfl (lsub_cons rfl (lsub_cons rfl (lsub_cons rfl lsub_nil)))) ?_)))
            exact ih c2 v2 (v3 + 1) hI2 (fun a j hm => hF a j hm) hv2 ⟨by first | exact rgp_l hv3.1 (by decide) | omega, by first | exact q_4a76cd9c7 h_1 h_3 | omega⟩ (by omega)
          · refine v_ic_le_f (t := 74) c_246_69 rfl ⟨h_14.1, (Int.not_le.mp h_15), h_13.2⟩ (q_iload_n c_246_72 rfl (q_istore_n c_246_73 (nb_ rfl) (v_iinc (v := v3 + 1) c_246_74 rfl (nb_ rfl) rfl (q_goto (t := 30) c_246_77 rfl (Wp_ls [(0, .ref 41), (1, vi a1), (2, vi v3), (3, vi (v3 + 1))] (lsub_cons rfl (lsub_cons rfl (lsub_cons rfl (lsub_cons rfl lsub_nil)))) ?_)))))
            exact ih c2 v3 (v3 + 1) hI2 (fun a j hm => hF a j hm) ⟨(Int.le_trans (by decide) hv3.1), by first | exact q_d63a8538e h_1 h_3 | omega⟩ ⟨by first | exact rgp_l hv3.1 (by decide) | omega, by first | exact q_4a76cd9c7 h_1 h_3 | omega⟩ (by omega)
set_option maxRecDepth 100000 in
set_option maxHeartbeats 4000000 in
theorem s_246 {sc : List Int32} {d P Q : Nat} {c : ME} {a1 : Int} {Z : AR → Prop} (hI : Iv 0 (-1) P Q c) (ha1 : (-2147483648) ≤ a1 ∧ a1 ≤ 2147483647) (K : ∀ (c2 : ME) (y : Int), Iv 0 (-1) P Q c2 → (∀ (a : Nat) (j : Int), ¬ ((a = 41 ∧ j = 0) ∨ a = 42 ∨ a = 59) → c2 a j = c a j) → (-2147483648) ≤ y ∧ y ≤ 2147483647 → Z (.inl (some (vi y)), Wd P Q P P c2, 0, 0)) : Wp sc (d + 8) 246 0 [(0, .ref 41), (1, vi a1)] [] (Wd P Q P P c) 0 0 Z := by
  have hP := iv_P hI
  have hQ := iv_Q hI
  refine q_aload_n c_246_0 rfl (q_iconst c_246_1 (v_pi (z := 0) c_246_2 kf_8_3 rfl (nb_ rfl) rfl rfl rfl (by decide) (q_aload_n c_246_5 rfl (q_iload_n c_246_6 rfl (q_iconst c_246_7 (q_iconst c_246_8 (q_call c_246_9 rfl rfl rfl ?_)))))))
  refine q_iload_n c_146_0 rfl (q_iload_n c_146_1 rfl ?_)
  by_cases h_16 : a1 < 0
  · refine v_ic_lt_t (t := 14) c_146_2 rfl ⟨ha1.1, h_16, by decide⟩ (q_iconst c_146_14 (v_zret c_146_15 rfl (by decide) (bk_inl (q_iconst c_246_12 (q_iconst c_246_13 (v_cv c_246_14 km_8_203 rfl rfl (nb_ rfl) ⟨⟨rfl, rfl⟩, nb_ rfl, rfl⟩ (nb_ rfl) (nb_ rfl) (q_iload_n c_145_0 rfl ?_)))))))
    refine v_if_ne_f (t := 26) c_145_1 rfl (by decide) (q_aload_n c_145_4 rfl (v_gi (z := 0) (v := 0) c_145_5 kf_8_3 rfl (nb_ rfl) rfl rfl (up_e rfl) (v_if_ne_f (t := 26) c_145_8 rfl (by decide) (q_aload_n c_145_11 rfl (q_iload_n c_145_12 rfl (v_pi (z := 0) c_145_13 kf_8_3 rfl (nb_ rfl) rfl rfl rfl (by decide) (q_aload_n c_145_16 rfl ?_)))))))
    refine v_gr (t := 42) c_145_17 kf_8_7 rfl (nb_ rfl) rfl (q_iload_n c_145_20 rfl (q_dup2 c_145_21 ⟨rfl, rfl⟩ ?_))
    have h_17 := ir_42 hI 1
    refine v_ia (v := c 42 1) c_145_22 rfl (by decide) (by decide) (by decide) ((up_c (nn rfl)).trans (up_c (nn rfl))) (q_iconst c_145_23 (v_iadd (v := c 42 1 + 1) c_145_24 rfl (v_nrm (fun y_18 hy_18 => (v_is c_145_25 rfl (by decide) (by decide) (by decide) (q_aload_n c_145_26 rfl (v_gi (z := 0) (v := 1) c_145_27 kf_8_3 rfl (nb_ rfl) rfl rfl ((up_c (nn rfl)).trans (up_e rfl)) (v_if_ne_t (t := 37) c_145_30 rfl (by decide) ?_))))))))
    refine q_iconst c_145_37 (v_zret c_145_38 rfl (by decide) (bk_inl (v_if_ne_f (t := 22) c_246_17 rfl (by decide) (q_iconst c_246_20 (q_iret c_246_21 rfl ?_)))))
    have hI_19 := iw_41_0 (v := 0) hI ⟨by decide, by decide⟩
    have hI_20 := iw_41_0 (v := 1) hI_19 ⟨by decide, by decide⟩
    have hI_21 := iw_42 (j := 1) (v := y_18) hI_20 ⟨hy_18.1, hy_18.2⟩
    exact K (up (up (up c 41 0 0) 41 0 1) 42 1 y_18) 0 hI_21 (fun a j hm => (up_b (Decidable.or_iff_not_imp_left.mpr (fun h1 h2 => hm (Or.inr (Or.inl (Decidable.not_not.mp h1)))))).trans ((up_b (Decidable.or_iff_not_imp_left.mpr (fun h1 h2 => hm (Or.inl ⟨Decidable.not_not.mp h1, h2⟩)))).trans (up_b (Decidable.or_iff_not_imp_left.mpr (fun h1 h2 => hm (Or.inl ⟨Decidable.not_not.mp h1, h2⟩)))))) ⟨by decide, by decide⟩
  · refine v_ic_lt_f (t := 14) c_146_2 rfl ⟨by decide, (Int.not_lt.mp h_16), ha1.2⟩ (q_iload_n c_146_5 rfl (q_iload_n c_146_6 rfl ?_))
    by_cases h_22 : a1 > 1
    · refine v_ic_gt_t (t := 14) c_146_7 rfl ⟨by decide, h_22, ha1.2⟩ (q_iconst c_146_14 (v_zret c_146_15 rfl (by decide) (bk_inl (q_iconst c_246_12 (q_iconst c_246_13 (v_cv c_246_14 km_8_203 rfl rfl (nb_ rfl) ⟨⟨rfl, rfl⟩, nb_ rfl, rfl⟩ (nb_ rfl) (nb_ rfl) (q_iload_n c_145_0 rfl ?_)))))))
      refine v_if_ne_f (t := 26) c_145_1 rfl (by decide) (q_aload_n c_145_4 rfl (v_gi (z := 0) (v := 0) c_145_5 kf_8_3 rfl (nb_ rfl) rfl rfl (up_e rfl) (v_if_ne_f (t := 26) c_145_8 rfl (by decide) (q_aload_n c_145_11 rfl (q_iload_n c_145_12 rfl (v_pi (z := 0) c_145_13 kf_8_3 rfl (nb_ rfl) rfl rfl rfl (by decide) (q_aload_n c_145_16 rfl ?_)))))))
      refine v_gr (t := 42) c_145_17 kf_8_7 rfl (nb_ rfl) rfl (q_iload_n c_145_20 rfl (q_dup2 c_145_21 ⟨rfl, rfl⟩ ?_))
      have h_23 := ir_42 hI 1
      refine v_ia (v := c 42 1) c_145_22 rfl (by decide) (by decide) (by decide) ((up_c (nn rfl)).trans (up_c (nn rfl))) (q_iconst c_145_23 (v_iadd (v := c 42 1 + 1) c_145_24 rfl (v_nrm (fun y_24 hy_24 => (v_is c_145_25 rfl (by decide) (by decide) (by decide) (q_aload_n c_145_26 rfl (v_gi (z := 0) (v := 1) c_145_27 kf_8_3 rfl (nb_ rfl) rfl rfl ((up_c (nn rfl)).trans (up_e rfl)) (v_if_ne_t (t := 37) c_145_30 rfl (by decide) ?_))))))))
      refine q_iconst c_145_37 (v_zret c_145_38 rfl (by decide) (bk_inl (v_if_ne_f (t := 22) c_246_17 rfl (by decide) (q_iconst c_246_20 (q_iret c_246_21 rfl ?_)))))
      have hI_25 := iw_41_0 (v := 0) hI ⟨by decide, by decide⟩
      have hI_26 := iw_41_0 (v := 1) hI_25 ⟨by decide, by decide⟩
      have hI_27 := iw_42 (j := 1) (v := y_24) hI_26 ⟨hy_24.1, hy_24.2⟩
      exact K (up (up (up c 41 0 0) 41 0 1) 42 1 y_24) 0 hI_27 (fun a j hm => (up_b (Decidable.or_iff_not_imp_left.mpr (fun h1 h2 => hm (Or.inr (Or.inl (Decidable.not_not.mp h1)))))).trans ((up_b (Decidable.or_iff_not_imp_left.mpr (fun h1 h2 => hm (Or.inl ⟨Decidable.not_not.mp h1, h2⟩)))).trans (up_b (Decidable.or_iff_not_imp_left.mpr (fun h1 h2 => hm (Or.inl ⟨Decidable.not_not.mp h1, h2⟩)))))) ⟨by decide, by decide⟩
    · refine v_ic_gt_f (t := 14) c_146_7 rfl ⟨ha1.1, (Int.not_lt.mp h_22), by decide⟩ (q_iconst c_146_10 (q_goto (t := 15) c_146_11 rfl (v_zret c_146_15 rfl (by decide) (bk_inl (q_iconst c_246_12 (q_iconst c_246_13 (v_cv c_246_14 km_8_203 rfl rfl (nb_ rfl) ⟨⟨rfl, rfl⟩, nb_ rfl, rfl⟩ (nb_ rfl) (nb_ rfl) ?_)))))))
      refine q_iload_n c_145_0 rfl (v_if_ne_t (t := 26) c_145_1 rfl (by decide) (q_aload_n c_145_26 rfl (v_gi (z := 0) (v := 0) c_145_27 kf_8_3 rfl (nb_ rfl) rfl rfl (up_e rfl) (v_if_ne_f (t := 37) c_145_30 rfl (by decide) (q_iconst c_145_33 (q_goto (t := 38) c_145_34 rfl (v_zret c_145_38 rfl (by decide) ?_)))))))
      refine bk_inl (v_if_ne_t (t := 22) c_246_17 rfl (by decide) (q_aload_n c_246_22 rfl ?_))
      have hI_28 := iw_41_0 (v := 0) hI ⟨by decide, by decide⟩
      refine v_cv c_246_23 km_8_317 rfl rfl (nb_ rfl) ⟨⟨rfl, rfl⟩, nb_ rfl, rfl⟩ (nb_ rfl) (nb_ rfl) (s_186 hI_28 (fun c_29 hI_30 hF_31 => (bk_inl (q_iconst c_246_26 (q_istore_n c_246_27 (nb_ rfl) (q_iconst c_246_28 (q_istore_n c_246_29 (nb_ rfl) (Wp_ls [(0, .ref 41), (1, vi a1), (2, vi (-1)), (3, vi 0)] (lsub_cons rfl (lsub_cons rfl (lsub_cons rfl (lsub_cons rfl lsub_nil)))) ?_))))))))
      exact (s_246_l (sc := sc) (d := d) hI ha1 K 16) c_29 (-1) 0 hI_30 (fun a j hm => (hF_31 a j (fun h => hm (Or.inr (Or.inr h)))).trans (up_b (Decidable.or_iff_not_imp_left.mpr (fun h1 h2 => hm (Or.inl ⟨Decidable.not_not.mp h1, h2⟩))))) ⟨by decide, by decide⟩ ⟨by decide, by decide⟩ (by omega)

set_option maxRecDepth 100000 in
set_option maxHeartbeats 4000000 in
theorem s_247_l {sc : List Int32} {d P Q : Nat} {c : ME} {a1 : Int} {Z : AR → Prop} (hI : Iv 0 (-1) P Q c) (ha1 : (-2147483648) ≤ a1 ∧ a1 ≤ 2147483647) (K : ∀ (c2 : ME) (y : Int), Iv 0 (-1) P Q c2 → (∀ (a : Nat) (j : Int), ¬ ((a = 41 ∧ j = 0) ∨ a = 42 ∨ a = 59) → c2 a j = c a j) → (-2147483648) ≤ y ∧ y ≤ 2147483647 → Z (.inl (some (vi y)), Wd P Q P P c2, 0, 0)) : ∀ n : Nat, (∀ (c2 : ME) (v2 : Int) (v3 : Int), Iv 0 (-1) P Q c2 → (∀ (a : Nat) (j : Int), ¬ ((a = 41 ∧ j = 0) ∨ a = 42 ∨ a = 59) → c2 a j = c a j) → (-2147483648) ≤ v2 ∧ v2 ≤ 2147483647 → 0 ≤ v3 ∧ v3 ≤ 6 → ((a1 ≥ 0 ∧ a1 ≤ 3)) → 13 - 2 * v3 < (n : Int) → Wp sc (d + 9) 247 27 [(0, .ref 41), (1, vi a1), (2, vi v2), (3, vi v3)] [] (Wd P Q P P c2) 0 0 Z) := by
  intro n
  induction n with
  | zero => exact (by intro c2 v2 v3 hI2 hF hv2 hv3 hx0 hm9; have hP := iv_P hI; have hQ := iv_Q hI; exfalso; omega)
  | succ n ih =>
    have hP := iv_P hI
    have hQ := iv_Q hI
    intro c2 v2 v3 hI2 hF hv2 hv3 hx0 hm9
    refine q_iload_n c_247_27 rfl (q_aload_n c_247_28 rfl ?_)
    have h_1 := ir_41_20 hI
    have kn_2 : Hid (c2 41 20 = c 41 20) := hF 41 20 qn_110b29ed6
    refine v_gi (z := 20) (v := c 41 20) c_247_29 kf_8_157 rfl (nb_ rfl) rfl rfl (hid kn_2) ?_
    by_cases h_3 : v3 ≥ c 41 20
    · refine v_ic_ge_t (t := 73) c_247_32 rfl ⟨by first | exact q_730ab5169 h_1 | omega, h_3, (Int.le_trans hv3.2 (by decide))⟩ (q_iload_n c_247_73 rfl (q_iret c_247_74 rfl ?_))
      exact K c2 v2 hI2 (fun a j hm => hF a j hm) hv2
    · refine v_ic_ge_f (t := 73) c_247_32 rfl ⟨(Int.le_trans (by decide) hv3.1), (Int.not_le.mp h_3), by first | exact q_b289b7db2 h_1 | omega⟩ (q_iload_n c_247_35 rfl (q_aload_n c_247_36 rfl (q_iload_n c_247_37 rfl ?_)))
      have h_4 := ir_59_g hI2 (j := 4 * v3) (by first | exact q_aa51b186e h_1 h_3 | omega)
      have h_5 := ir_59_g hI2 (j := 4 * v3 + 1) (by first | exact q_57851f9de h_1 h_3 | omega)
      have h_6 := ir_59_g hI2 (j := 4 * v3 + 2) (by first | exact q_7296e74e6 h_1 h_3 | omega)
      have h_7 := ir_59_g hI2 (j := 4 * v3 + 3) (by first | exact q_b15525c4c h_1 h_3 | omega)
      refine v_cv c_247_38 km_8_343 rfl rfl (nb_ rfl) ⟨⟨rfl, rfl⟩, nb_ rfl, rfl⟩ (nb_ rfl) (nb_ rfl) (s_187 (v1 := c2 59 (4 * v3)) (v2 := c2 59 (4 * v3 + 1)) (v3 := c2 59 (4 * v3 + 2)) (v4 := c2 59 (4 * v3 + 3)) (r := c2 59 (4 * v3 + 1) + c2 59 (4 * v3 + 2) + c2 59 (4 * v3 + 3) + c2 59 (4 * v3)) (a1 := v3) hI2 (show 0 ≤ v3 ∧ v3 ≤ 5 from ⟨hv3.1, by first | exact q_d63a8538e h_1 h_3 | omega⟩) (rfl) (rfl) (rfl) (rfl) (by omega) (bk_inl ?_))
      by_cases h_8 : c2 59 (4 * v3 + 1) + c2 59 (4 * v3 + 2) + c2 59 (4 * v3 + 3) + c2 59 (4 * v3) ≤ 0
      · refine v_if_le_t (t := 64) c_247_41 rfl ⟨by first | exact q_e052ef40e h_4 h_5 h_6 h_7 | omega, h_8, by decide⟩ (q_iconst c_247_64 (v_iorx c_247_65 (fun y_9 hy_9 => (q_istore_n c_247_66 (nb_ rfl) (v_iinc (v := v3 + 1) c_247_67 rfl (nb_ rfl) rfl (q_goto (t := 27) c_247_70 rfl (Wp_ls [(0, .ref 41), (1, vi a1), (2, vi y_9), (3, vi (v3 + 1))] (lsub_cons rfl (lsub_cons rfl (lsub_cons rfl (lsub_cons rfl lsub_nil)))) ?_)))))))
        exact ih c2 y_9 (v3 + 1) hI2 (fun a j hm => hF a j hm) hy_9 ⟨by first | exact rgp_l hv3.1 (by decide) | omega, by first | exact q_4a76cd9c7 h_1 h_3 | omega⟩ ⟨by omega, by omega⟩ (by omega)
      · refine v_if_le_f (t := 64) c_247_41 rfl ⟨by decide, (Int.not_le.mp h_8), by first | exact q_db9ef1f4a h_4 h_5 h_6 h_7 | omega⟩ (q_aload_n c_247_44 rfl (q_iload_n c_247_45 rfl (q_iload_n c_247_46 rfl ?_)))
        have h_10 := ir_49 hI a1
        have kn_11 : Hid (c2 49 a1 = c 49 a1) := hF 49 a1 qn_556c7ab22
        have h_12 := ir_59 hI2 (a1 + 30)
        have h_13 := fal_rng (m := c 49 a1) (t := c2 59 (a1 + 30)) (g := 0) (x := c2 59 (4 * v3)) (by first | exact q_c6ed8760d h_4 | omega)
        have h_14 := fal_rng (m := c 49 a1) (t := c2 59 (a1 + 30)) (g := 1) (x := c2 59 (4 * v3 + 1)) (by first | exact q_c6ed8760d h_5 | omega)
        have h_15 := fal_rng (m := c 49 a1) (t := c2 59 (a1 + 30)) (g := 2) (x := c2 59 (4 * v3 + 2)) (by first | exact q_c6ed8760d h_6 | omega)
        have h_16 := fal_rng (m := c 49 a1) (t := c2 59 (a1 + 30)) (g := 3) (x := c2 59 (4 * v3 + 3)) (by first | exact q_c6ed8760d h_7 | omega)
        refine v_cv c_247_47 km_8_366 rfl rfl (nb_ rfl) ⟨⟨rfl, rfl⟩, nb_ rfl, rfl⟩ (nb_ rfl) (nb_ rfl) (s_190 (v1 := c 49 a1) (v2 := c2 59 (a1 + 30)) (v3 := c2 59 (4 * v3)) (v4 := c2 59 (4 * v3 + 1)) (v5 := c2 59 (4 * v3 + 2)) (v6 := c2 59 (4 * v3 + 3)) (r := (fal (c 49 a1) (c2 59 (a1 + 30)) 0 (c2 59 (4 * v3))) + (fal (c 49 a1) (c2 59 (a1 + 30)) 1 (c2 59 (4 * v3 + 1))) + (fal (c 49 a1) (c2 59 (a1 + 30)) 2 (c2 59 (4 * v3 + 2))) + (fal (c 49 a1) (c2 59 (a1 + 30)) 3 (c2 59 (4 * v3 + 3)))) (a1 := a1) (a2 := v3) hI2 (show 0 ≤ a1 ∧ a1 ≤ 3 from ⟨by omega, by omega⟩) (show 0 ≤ v3 ∧ v3 ≤ 5 from ⟨hv3.1, by first | exact q_d63a8538e h_1 h_3 | omega⟩) ((hid kn_11)) (rfl) (rfl) (rfl) (rfl) (rfl) rfl (bk_inl (q_aload_n c_247_50 rfl (q_iload_n c_247_51 rfl (v_cv c_247_52 km_8_343 rfl rfl (nb_ rfl) ⟨⟨rfl, rfl⟩, nb_ rfl, rfl⟩ (nb_ rfl) (nb_ rfl) (s_187 (v1 := c2 59 (4 * v3)) (v2 := c2 59 (4 * v3 + 1)) (v3 := c2 59 (4 * v3 + 2)) (v4 := c2 59 (4 * v3 + 3)) (r := c2 59 (4 * v3 + 1) + c2 59 (4 * v3 + 2) + c2 59 (4 * v3 + 3) + c2 59 (4 * v3)) (a1 := v3) hI2 (show 0 ≤ v3 ∧ v3 ≤ 5 from ⟨hv3.1, by first | exact q_d63a8538e h_1 h_3 | omega⟩) (rfl) (rfl) (rfl) (rfl) (by omega) (bk_inl ?_)))))))
        by_cases h_17 : (fal (c 49 a1) (c2 59 (a1 + 30)) 0 (c2 59 (4 * v3))) + (fal (c 49 a1) (c2 59 (a1 + 30)) 1 (c2 59 (4 * v3 + 1))) + (fal (c 49 a1) (c2 59 (a1 + 30)) 2 (c2 59 (4 * v3 + 2))) + (fal (c 49 a1) (c2 59 (a1 + 30)) 3 (c2 59 (4 * v3 + 3))) ≠ c2 59 (4 * v3 + 1) + c2 59 (4 * v3 + 2) + c2 59 (4 * v3 + 3) + c2 59 (4 * v3)
        · refine v_ic_ne_t (t := 64) c_247_55 rfl ⟨h_17, ⟨by first | exact q_c0b7ed1c9 h_13 h_14 h_15 h_16 | omega, by first | exact q_7895971f7 h_13 h_14 h_15 h_16 h_4 h_5 h_6 h_7 | omega⟩, by first | exact q_0023c4fc8 h_8 | omega, by first | exact q_db9ef1f4a h_4 h_5 h_6 h_7 | omega⟩ (q_iconst c_247_64 (v_iorx c_247_65 (fun y_18 hy_18 => (q_istore_n c_247_66 (nb_ rfl) (v_iinc (v := v3 + 1) c_247_67 rfl (nb_ rfl) rfl (q_goto (t := 27) c_247_70 rfl (Wp_ls [(0, .ref 41), (1, vi a1), (2, vi y_18), (3, vi (v3 + 1))] (lsub_cons rfl (lsub_cons rfl (lsub_cons rfl (lsub_cons rfl lsub_nil)))) ?_)))))))
          exact ih c2 y_18 (v3 + 1) hI2 (fun a j hm => hF a j hm) hy_18 ⟨by first | exact rgp_l hv3.1 (by decide) | omega, by first | exact q_4a76cd9c7 h_1 h_3 | omega⟩ ⟨by first | (clear ha1 hv2 hv3 h_1 h_3 h_4 h_5 h_6 h_7 h_8 h_10 h_12 h_13 h_14 h_15 h_16 h_17; omega) | omega, by first | (clear ha1 hv2 hv3 h_1 h_3 h_4 h_5 h_6 h_7 h_8 h_10 h_12 h_13 h_14 h_15 h_16 h_17; omega) | omega⟩ (by omega)
        · refine v_ic_ne_f (t := 64) c_247_55 rfl (Decidable.not_not.mp h_17) (q_iconst c_247_58 (q_iload_n c_247_59 rfl (v_shl1 c_247_60 ⟨by omega, by omega⟩ (fun y_19 hy_19 => (q_goto (t := 65) c_247_61 rfl (v_iorx c_247_65 (fun y_20 hy_20 => (q_istore_n c_247_66 (nb_ rfl) (v_iinc (v := v3 + 1) c_247_67 rfl (nb_ rfl) rfl ?_)))))))))
          refine q_goto (t := 27) c_247_70 rfl (Wp_ls [(0, .ref 41), (1, vi a1), (2, vi y_20), (3, vi (v3 + 1))] (lsub_cons rfl (lsub_cons rfl (lsub_cons rfl (lsub_cons rfl lsub_nil)))) ?_)
          exact ih c2 y_20 (v3 + 1) hI2 (fun a j hm => hF a j hm) hy_20 ⟨by first | exact rgp_l hv3.1 (by decide) | omega, by first | exact q_4a76cd9c7 h_1 h_3 | omega⟩ ⟨by first | (clear ha1 hv2 hv3 h_1 h_3 h_4 h_5 h_6 h_7 h_8 h_10 h_12 h_13 h_14 h_15 h_16 h_17; omega) | omega, by first | (clear ha1 hv2 hv3 h_1 h_3 h_4 h_5 h_6 h_7 h_8 h_10 h_12 h_13 h_14 h_15 h_16 h_17; omega) | omega⟩ (by omega)
set_option maxRecDepth 100000 in
set_option maxHeartbeats 4000000 in
theorem s_247 {sc : List Int32} {d P Q : Nat} {c : ME} {a1 : Int} {Z : AR → Prop} (hI : Iv 0 (-1) P Q c) (ha1 : (-2147483648) ≤ a1 ∧ a1 ≤ 2147483647) (K : ∀ (c2 : ME) (y : Int), Iv 0 (-1) P Q c2 → (∀ (a : Nat) (j : Int), ¬ ((a = 41 ∧ j = 0) ∨ a = 42 ∨ a = 59) → c2 a j = c a j) → (-2147483648) ≤ y ∧ y ≤ 2147483647 → Z (.inl (some (vi y)), Wd P Q P P c2, 0, 0)) : Wp sc (d + 9) 247 0 [(0, .ref 41), (1, vi a1)] [] (Wd P Q P P c) 0 0 Z := by
  have hP := iv_P hI
  have hQ := iv_Q hI
  refine q_aload_n c_247_0 rfl (q_iconst c_247_1 (v_pi (z := 0) c_247_2 kf_8_3 rfl (nb_ rfl) rfl rfl rfl (by decide) (q_aload_n c_247_5 rfl (q_iload_n c_247_6 rfl (q_aload_n c_247_7 rfl ?_)))))
  have h_21 := ir_41_22 hI
  refine v_gi (z := 22) (v := c 41 22) c_247_8 kf_8_163 rfl (nb_ rfl) rfl rfl (up_n (by decide)) (v_cv c_247_11 km_8_396 rfl rfl (nb_ rfl) ⟨⟨rfl, rfl⟩, nb_ rfl, rfl⟩ (nb_ rfl) (nb_ rfl) (q_aload_n c_212_0 rfl (q_iload_n c_212_1 rfl (q_iconst c_212_2 (q_iload_n c_212_3 rfl (q_iconst c_212_4 (v_isub (v := c 41 22 - 1) c_212_5 rfl ?_)))))))
  refine q_call c_212_6 rfl rfl rfl (q_iload_n c_146_0 rfl (q_iload_n c_146_1 rfl ?_))
  by_cases h_22 : a1 < 0
  · refine v_ic_lt_t (t := 14) c_146_2 rfl ⟨ha1.1, h_22, by decide⟩ (q_iconst c_146_14 (v_zret c_146_15 rfl (by decide) (bk_inl (q_iconst c_212_9 (q_iconst c_212_10 (v_cv c_212_11 km_8_203 rfl rfl (nb_ rfl) ⟨⟨rfl, rfl⟩, nb_ rfl, rfl⟩ (nb_ rfl) (nb_ rfl) (q_iload_n c_145_0 rfl ?_)))))))
    refine v_if_ne_f (t := 26) c_145_1 rfl (by decide) (q_aload_n c_145_4 rfl (v_gi (z := 0) (v := 0) c_145_5 kf_8_3 rfl (nb_ rfl) rfl rfl (up_e rfl) (v_if_ne_f (t := 26) c_145_8 rfl (by decide) (q_aload_n c_145_11 rfl (q_iload_n c_145_12 rfl (v_pi (z := 0) c_145_13 kf_8_3 rfl (nb_ rfl) rfl rfl rfl (by decide) (q_aload_n c_145_16 rfl ?_)))))))
    refine v_gr (t := 42) c_145_17 kf_8_7 rfl (nb_ rfl) rfl (q_iload_n c_145_20 rfl (q_dup2 c_145_21 ⟨rfl, rfl⟩ ?_))
    have h_23 := ir_42 hI 0
    refine v_ia (v := c 42 0) c_145_22 rfl (by decide) (by decide) (by decide) ((up_c (nn rfl)).trans (up_c (nn rfl))) (q_iconst c_145_23 (v_iadd (v := c 42 0 + 1) c_145_24 rfl (v_nrm (fun y_24 hy_24 => (v_is c_145_25 rfl (by decide) (by decide) (by decide) (q_aload_n c_145_26 rfl (v_gi (z := 0) (v := 1) c_145_27 kf_8_3 rfl (nb_ rfl) rfl rfl ((up_c (nn rfl)).trans (up_e rfl)) (v_if_ne_t (t := 37) c_145_30 rfl (by decide) ?_))))))))
    refine q_iconst c_145_37 (v_zret c_145_38 rfl (by decide) (bk_inl (v_zret c_212_14 rfl (by decide) (bk_inl (v_if_ne_f (t := 19) c_247_14 rfl (by decide) (q_iconst c_247_17 (q_iret c_247_18 rfl ?_)))))))
    have hI_25 := iw_41_0 (v := 0) hI ⟨by decide, by decide⟩
    have hI_26 := iw_41_0 (v := 1) hI_25 ⟨by decide, by decide⟩
    have hI_27 := iw_42 (j := 0) (v := y_24) hI_26 ⟨hy_24.1, hy_24.2⟩
    exact K (up (up (up c 41 0 0) 41 0 1) 42 0 y_24) 0 hI_27 (fun a j hm => (up_b (Decidable.or_iff_not_imp_left.mpr (fun h1 h2 => hm (Or.inr (Or.inl (Decidable.not_not.mp h1)))))).trans ((up_b (Decidable.or_iff_not_imp_left.mpr (fun h1 h2 => hm (Or.inl ⟨Decidable.not_not.mp h1, h2⟩)))).trans (up_b (Decidable.or_iff_not_imp_left.mpr (fun h1 h2 => hm (Or.inl ⟨Decidable.not_not.mp h1, h2⟩)))))) ⟨by decide, by decide⟩
  · refine v_ic_lt_f (t := 14) c_146_2 rfl ⟨by decide, (Int.not_lt.mp h_22), ha1.2⟩ (q_iload_n c_146_5 rfl (q_iload_n c_146_6 rfl ?_))
    by_cases h_28 : a1 > c 41 22 - 1
    · refine v_ic_gt_t (t := 14) c_146_7 rfl ⟨by first | exact rgm_l h_21.1 (by decide) | omega, h_28, ha1.2⟩ (q_iconst c_146_14 (v_zret c_146_15 rfl (by decide) (bk_inl (q_iconst c_212_9 (q_iconst c_212_10 (v_cv c_212_11 km_8_203 rfl rfl (nb_ rfl) ⟨⟨rfl, rfl⟩, nb_ rfl, rfl⟩ (nb_ rfl) (nb_ rfl) (q_iload_n c_145_0 rfl ?_)))))))
      refine v_if_ne_f (t := 26) c_145_1 rfl (by decide) (q_aload_n c_145_4 rfl (v_gi (z := 0) (v := 0) c_145_5 kf_8_3 rfl (nb_ rfl) rfl rfl (up_e rfl) (v_if_ne_f (t := 26) c_145_8 rfl (by decide) (q_aload_n c_145_11 rfl (q_iload_n c_145_12 rfl (v_pi (z := 0) c_145_13 kf_8_3 rfl (nb_ rfl) rfl rfl rfl (by decide) (q_aload_n c_145_16 rfl ?_)))))))
      refine v_gr (t := 42) c_145_17 kf_8_7 rfl (nb_ rfl) rfl (q_iload_n c_145_20 rfl (q_dup2 c_145_21 ⟨rfl, rfl⟩ ?_))
      have h_29 := ir_42 hI 0
      refine v_ia (v := c 42 0) c_145_22 rfl (by decide) (by decide) (by decide) ((up_c (nn rfl)).trans (up_c (nn rfl))) (q_iconst c_145_23 (v_iadd (v := c 42 0 + 1) c_145_24 rfl (v_nrm (fun y_30 hy_30 => (v_is c_145_25 rfl (by decide) (by decide) (by decide) (q_aload_n c_145_26 rfl (v_gi (z := 0) (v := 1) c_145_27 kf_8_3 rfl (nb_ rfl) rfl rfl ((up_c (nn rfl)).trans (up_e rfl)) (v_if_ne_t (t := 37) c_145_30 rfl (by decide) ?_))))))))
      refine q_iconst c_145_37 (v_zret c_145_38 rfl (by decide) (bk_inl (v_zret c_212_14 rfl (by decide) (bk_inl (v_if_ne_f (t := 19) c_247_14 rfl (by decide) (q_iconst c_247_17 (q_iret c_247_18 rfl ?_)))))))
      have hI_31 := iw_41_0 (v := 0) hI ⟨by decide, by decide⟩
      have hI_32 := iw_41_0 (v := 1) hI_31 ⟨by decide, by decide⟩
      have hI_33 := iw_42 (j := 0) (v := y_30) hI_32 ⟨hy_30.1, hy_30.2⟩
      exact K (up (up (up c 41 0 0) 41 0 1) 42 0 y_30) 0 hI_33 (fun a j hm => (up_b (Decidable.or_iff_not_imp_left.mpr (fun h1 h2 => hm (Or.inr (Or.inl (Decidable.not_not.mp h1)))))).trans ((up_b (Decidable.or_iff_not_imp_left.mpr (fun h1 h2 => hm (Or.inl ⟨Decidable.not_not.mp h1, h2⟩)))).trans (up_b (Decidable.or_iff_not_imp_left.mpr (fun h1 h2 => hm (Or.inl ⟨Decidable.not_not.mp h1, h2⟩)))))) ⟨by decide, by decide⟩
    · refine v_ic_gt_f (t := 14) c_146_7 rfl ⟨ha1.1, (Int.not_lt.mp h_28), by first | exact rgm_h h_21.2 (by decide) | omega⟩ (q_iconst c_146_10 (q_goto (t := 15) c_146_11 rfl (v_zret c_146_15 rfl (by decide) (bk_inl (q_iconst c_212_9 (q_iconst c_212_10 (v_cv c_212_11 km_8_203 rfl rfl (nb_ rfl) ⟨⟨rfl, rfl⟩, nb_ rfl, rfl⟩ (nb_ rfl) (nb_ rfl) ?_)))))))
      refine q_iload_n c_145_0 rfl (v_if_ne_t (t := 26) c_145_1 rfl (by decide) (q_aload_n c_145_26 rfl (v_gi (z := 0) (v := 0) c_145_27 kf_8_3 rfl (nb_ rfl) rfl rfl (up_e rfl) (v_if_ne_f (t := 37) c_145_30 rfl (by decide) (q_iconst c_145_33 (q_goto (t := 38) c_145_34 rfl (v_zret c_145_38 rfl (by decide) ?_)))))))
      refine bk_inl (v_zret c_212_14 rfl (by decide) (bk_inl (v_if_ne_t (t := 19) c_247_14 rfl (by decide) (q_aload_n c_247_19 rfl ?_))))
      have hI_34 := iw_41_0 (v := 0) hI ⟨by decide, by decide⟩
      refine v_cv c_247_20 km_8_317 rfl rfl (nb_ rfl) ⟨⟨rfl, rfl⟩, nb_ rfl, rfl⟩ (nb_ rfl) (nb_ rfl) (s_186 hI_34 (fun c_35 hI_36 hF_37 => (bk_inl (q_iconst c_247_23 (q_istore_n c_247_24 (nb_ rfl) (q_iconst c_247_25 (q_istore_n c_247_26 (nb_ rfl) (Wp_ls [(0, .ref 41), (1, vi a1), (2, vi 0), (3, vi 0)] (lsub_cons rfl (lsub_cons rfl (lsub_cons rfl (lsub_cons rfl lsub_nil)))) ?_))))))))
      exact (s_247_l (sc := sc) (d := d) hI ha1 K 16) c_35 0 0 hI_36 (fun a j hm => (hF_37 a j (fun h => hm (Or.inr (Or.inr h)))).trans (up_b (Decidable.or_iff_not_imp_left.mpr (fun h1 h2 => hm (Or.inl ⟨Decidable.not_not.mp h1, h2⟩))))) ⟨by decide, by decide⟩ ⟨by decide, by decide⟩ ⟨by first | exact q_720657ba9 h_22 | omega, by first | exact q_1b5e4f74b h_21 h_28 | omega⟩ (by omega)

set_option maxRecDepth 100000 in
set_option maxHeartbeats 4000000 in
theorem s_248_l {sc : List Int32} {e : Int} {d u P Q : Nat} {c : ME} {a1 : Int} {a2 : Int} {Z : AR → Prop} (hI : Iv u e P Q c) (ha1 : (-2147483648) ≤ a1 ∧ a1 ≤ 2147483647) (ha2 : (-2147483648) ≤ a2 ∧ a2 ≤ 2147483647) (K : ∀ (c2 : ME) (y : Int), Iv u e P Q c2 → (∀ (a : Nat) (j : Int), ¬ ((a = 41 ∧ j = 0) ∨ a = 42) → c2 a j = c a j) → (-2147483648) ≤ y ∧ y ≤ 2147483647 → Z (.inl (some (vi y)), Wd P Q P P c2, 0, 0)) : ∀ n : Nat, (∀ (c2 : ME) (v3 : Int) (v4 : Int) (v5 : Int), Iv u e P Q c2 → (∀ (a : Nat) (j : Int), ¬ ((a = 41 ∧ j = 0) ∨ a = 42) → c2 a j = c a j) → (-2147483648) ≤ v3 ∧ v3 ≤ 2147483647 → (-1) ≤ v4 ∧ v4 ≤ 5 → 0 ≤ v5 ∧ v5 ≤ 6 → ((a1 ≥ 0 ∧ a1 ≤ 3)) → 13 - 2 * v5 < (n : Int) → Wp sc (d + 8) 248 47 [(0, .ref 41), (1, vi a1), (2, vi a2), (3, vi v3), (4, vi v4), (5, vi v5)] [] (Wd P Q P P c2) 0 0 Z) := by
  intro n
  induction n with
  | zero => exact (by intro c2 v3 v4 v5 hI2 hF hv3 hv4 hv5 hx0 hm9; have hP := iv_P hI; have hQ := iv_Q hI; exfalso; omega)
  | succ n ih =>
    have hP := iv_P hI
    have hQ := iv_Q hI
    intro c2 v3 v4 v5 hI2 hF hv3 hv4 hv5 hx0 hm9
    refine q_iload c_248_47 rfl (q_aload_n c_248_49 rfl ?_)
    have h_1 := ir_41_20 hI
    have kn_2 : Hid (c2 41 20 = c 41 20) := hF 41 20 (fun q => q.elim (fun h => absurd h.2 (ni rfl)) (fun h => absurd h (nn rfl)))
    refine v_gi (z := 20) (v := c 41 20) c_248_50 kf_8_157 rfl (nb_ rfl) rfl rfl (hid kn_2) ?_
    by_cases h_3 : v5 ≥ c 41 20
    · refine v_ic_ge_t (t := 110) c_248_53 rfl ⟨by first | exact q_730ab5169 h_1 | omega, h_3, (Int.le_trans hv5.2 (by decide))⟩ (q_iload_n c_248_110 rfl ?_)
      by_cases h_4 : a2 ≠ 0
      · refine v_if_ne_t (t := 118) c_248_111 rfl ⟨h_4, ⟨ha2.1, ha2.2⟩, by decide, by decide⟩ (q_iload c_248_118 rfl (q_iret c_248_120 rfl ?_))
        exact K c2 v4 hI2 (fun a j hm => hF a j hm) ⟨(Int.le_trans (by decide) hv4.1), (Int.le_trans hv4.2 (by decide))⟩
      · refine v_if_ne_f (t := 118) c_248_111 rfl (Decidable.not_not.mp h_4) (q_iload_n c_248_114 rfl (q_goto (t := 120) c_248_115 rfl (q_iret c_248_120 rfl ?_)))
        exact K c2 v3 hI2 (fun a j hm => hF a j hm) hv3
    · refine v_ic_ge_f (t := 110) c_248_53 rfl ⟨(Int.le_trans (by decide) hv5.1), (Int.not_le.mp h_3), by first | exact q_b289b7db2 h_1 | omega⟩ (q_aload_n c_248_56 rfl (v_gr (t := 58) c_248_57 kf_8_65 rfl (nb_ rfl) rfl (q_iconst c_248_60 (q_iload c_248_61 rfl (v_imul (v := 4 * v5) c_248_63 rfl (q_iload_n c_248_64 rfl (v_iadd (v := a1 + 4 * v5) c_248_65 (by first | exact q_e870fe981 | omega) ?_)))))))
      have h_5 := ir_58_g hI (j := a1 + 4 * v5) (by omega)
      have kn_6 : Hid (c2 58 (a1 + 4 * v5) = c 58 (a1 + 4 * v5)) := hF 58 (a1 + 4 * v5) (fun q => q.elim (fun h => absurd h.1 (nn rfl)) (fun h => absurd h (nn rfl)))
      refine v_ia (v := c 58 (a1 + 4 * v5)) c_248_66 rfl (by decide) (by decide) (by omega) (hid kn_6) (q_istore c_248_67 (nb_ rfl) (q_iload_n c_248_69 rfl (q_iload c_248_70 rfl (v_iadd (v := c 58 (a1 + 4 * v5) + v3) c_248_72 (by first | exact q_3c678d369 | omega) (v_nrm (fun y_7 hy_7 => (q_istore_n c_248_73 (nb_ rfl) (q_iload c_248_74 rfl ?_))))))))
      refine q_iload c_248_76 rfl (q_iconst c_248_78 ?_)
      by_cases h_8 : v4 ≠ (-1)
      · refine v_ic_ne_t (t := 86) c_248_79 rfl ⟨h_8, ⟨(Int.le_trans (by decide) hv4.1), (Int.le_trans hv4.2 (by decide))⟩, by decide, by decide⟩ (q_aload_n c_248_86 rfl (v_gr (t := 58) c_248_87 kf_8_65 rfl (nb_ rfl) rfl (q_iconst c_248_90 (q_iload c_248_91 rfl (v_imul (v := 4 * v4) c_248_93 rfl (q_iload_n c_248_94 rfl (v_iadd (v := a1 + 4 * v4) c_248_95 (by first | exact q_e870fe981 | omega) ?_)))))))
        have h_9 := ir_58_g hI (j := a1 + 4 * v4) (by first | (clear ha1 ha2 hv3 hv5 h_1 h_3 h_5 h_8; omega) | omega)
        have kn_10 : Hid (c2 58 (a1 + 4 * v4) = c 58 (a1 + 4 * v4)) := hF 58 (a1 + 4 * v4) (fun q => q.elim (fun h => absurd h.1 (nn rfl)) (fun h => absurd h (nn rfl)))
        refine v_ia (v := c 58 (a1 + 4 * v4)) c_248_96 rfl (by decide) (by decide) ⟨by omega, by first | (clear ha1 ha2 hv3 hv5 h_1 h_3 h_5 h_9 h_8; omega) | omega⟩ (hid kn_10) ?_
        by_cases h_11 : c 58 (a1 + 4 * v5) ≤ c 58 (a1 + 4 * v4)
        · refine v_ic_le_t (t := 104) c_248_97 rfl ⟨by first | exact q_c4d6b60d6 h_5 | omega, h_11, by first | exact q_838dca997 h_9 | omega⟩ (v_iinc (v := v5 + 1) c_248_104 rfl (nb_ rfl) rfl (q_goto (t := 47) c_248_107 rfl (Wp_ls [(0, .ref 41), (1, vi a1), (2, vi a2), (3, vi y_7), (4, vi v4), (5, vi (v5 + 1))] (lsub_cons rfl (lsub_cons rfl (lsub_cons rfl (lsub_cons rfl (lsub_cons rfl (lsub_cons rfl lsub_nil)))))) ?_)))
          exact ih c2 y_7 v4 (v5 + 1) hI2 (fun a j hm => hF a j hm) hy_7 hv4 ⟨by first | exact rgp_l hv5.1 (by decide) | omega, by first | exact q_4a76cd9c7 h_1 h_3 | omega⟩ ⟨by first | (clear ha1 ha2 hv3 hv4 hv5 h_1 h_3 h_5 h_9 h_11 h_8; omega) | omega, by first | (clear ha1 ha2 hv3 hv4 hv5 h_1 h_3 h_5 h_9 h_11 h_8; omega) | omega⟩ (by omega)
        · refine v_ic_le_f (t := 104) c_248_97 rfl ⟨by first | exact q_c4d6b60d6 h_9 | omega, (Int.not_le.mp h_11), by first | exact q_838dca997 h_5 | omega⟩ (q_iload c_248_100 rfl (q_istore c_248_102 (nb_ rfl) (v_iinc (v := v5 + 1) c_248_104 rfl (nb_ rfl) rfl (q_goto (t := 47) c_248_107 rfl (Wp_ls [(0, .ref 41), (1, vi a1), (2, vi a2), (3, vi y_7), (4, vi v5), (5, vi (v5 + 1))] (lsub_cons rfl (lsub_cons rfl (lsub_cons rfl (lsub_cons rfl (lsub_cons rfl (lsub_cons rfl lsub_nil)))))) ?_)))))
          exact ih c2 y_7 v5 (v5 + 1) hI2 (fun a j hm => hF a j hm) hy_7 ⟨(Int.le_trans (by decide) hv5.1), by first | exact q_d63a8538e h_1 h_3 | omega⟩ ⟨by first | exact rgp_l hv5.1 (by decide) | omega, by first | exact q_4a76cd9c7 h_1 h_3 | omega⟩ ⟨by first | (clear ha1 ha2 hv3 hv4 hv5 h_1 h_3 h_5 h_9 h_11 h_8; omega) | omega, by first | (clear ha1 ha2 hv3 hv4 hv5 h_1 h_3 h_5 h_9 h_11 h_8; omega) | omega⟩ (by omega)
      · refine v_ic_ne_f (t := 86) c_248_79 rfl (Decidable.not_not.mp h_8) (q_iconst c_248_82 (q_goto (t := 97) c_248_83 rfl ?_))
        by_cases h_12 : c 58 (a1 + 4 * v5) ≤ 0
        · refine v_ic_le_t (t := 104) c_248_97 rfl ⟨by first | exact q_c4d6b60d6 h_5 | omega, h_12, by decide⟩ (v_iinc (v := v5 + 1) c_248_104 rfl (nb_ rfl) rfl (q_goto (t := 47) c_248_107 rfl (Wp_ls [(0, .ref 41), (1, vi a1), (2, vi a2), (3, vi y_7), (4, vi v4), (5, vi (v5 + 1))] (lsub_cons rfl (lsub_cons rfl (lsub_cons rfl (lsub_cons rfl (lsub_cons rfl (lsub_cons rfl lsub_nil)))))) ?_)))
          exact ih c2 y_7 v4 (v5 + 1) hI2 (fun a j hm => hF a j hm) hy_7 hv4 ⟨by first | exact rgp_l hv5.1 (by decide) | omega, by first | exact q_4a76cd9c7 h_1 h_3 | omega⟩ ⟨by omega, by omega⟩ (by omega)
        · refine v_ic_le_f (t := 104) c_248_97 rfl ⟨by decide, (Int.not_le.mp h_12), by first | exact q_838dca997 h_5 | omega⟩ (q_iload c_248_100 rfl (q_istore c_248_102 (nb_ rfl) (v_iinc (v := v5 + 1) c_248_104 rfl (nb_ rfl) rfl (q_goto (t := 47) c_248_107 rfl (Wp_ls [(0, .ref 41), (1, vi a1), (2, vi a2), (3, vi y_7), (4, vi v5), (5, vi (v5 + 1))] (lsub_cons rfl (lsub_cons rfl (lsub_cons rfl (lsub_cons rfl (lsub_cons rfl (lsub_cons rfl lsub_nil)))))) ?_)))))
          exact ih c2 y_7 v5 (v5 + 1) hI2 (fun a j hm => hF a j hm) hy_7 ⟨(Int.le_trans (by decide) hv5.1), by first | exact q_d63a8538e h_1 h_3 | omega⟩ ⟨by first | exact rgp_l hv5.1 (by decide) | omega, by first | exact q_4a76cd9c7 h_1 h_3 | omega⟩ ⟨by omega, by omega⟩ (by omega)
set_option maxRecDepth 100000 in
set_option maxHeartbeats 4000000 in
theorem s_248 {sc : List Int32} {e : Int} {d u P Q : Nat} {c : ME} {a1 : Int} {a2 : Int} {Z : AR → Prop} (hI : Iv u e P Q c) (ha1 : (-2147483648) ≤ a1 ∧ a1 ≤ 2147483647) (ha2 : (-2147483648) ≤ a2 ∧ a2 ≤ 2147483647) (K : ∀ (c2 : ME) (y : Int), Iv u e P Q c2 → (∀ (a : Nat) (j : Int), ¬ ((a = 41 ∧ j = 0) ∨ a = 42) → c2 a j = c a j) → (-2147483648) ≤ y ∧ y ≤ 2147483647 → Z (.inl (some (vi y)), Wd P Q P P c2, 0, 0)) : Wp sc (d + 8) 248 0 [(0, .ref 41), (1, vi a1), (2, vi a2)] [] (Wd P Q P P c) 0 0 Z := by
  have hP := iv_P hI
  have hQ := iv_Q hI
  refine q_aload_n c_248_0 rfl (q_iconst c_248_1 (v_pi (z := 0) c_248_2 kf_8_3 rfl (nb_ rfl) rfl rfl rfl (by decide) (q_aload_n c_248_5 rfl (q_iload_n c_248_6 rfl (q_iconst c_248_7 (q_iconst c_248_8 (q_call c_248_9 rfl rfl rfl ?_)))))))
  refine q_iload_n c_146_0 rfl (q_iload_n c_146_1 rfl ?_)
  by_cases h_13 : a1 < 0
  · refine v_ic_lt_t (t := 14) c_146_2 rfl ⟨ha1.1, h_13, by decide⟩ (q_iconst c_146_14 (v_zret c_146_15 rfl (by decide) (bk_inl (v_if_eq_t (t := 28) c_248_12 rfl (by decide) (q_iconst c_248_28 (q_iconst c_248_29 (q_iconst c_248_30 ?_)))))))
    refine v_cv c_248_31 km_8_203 rfl rfl (nb_ rfl) ⟨⟨rfl, rfl⟩, nb_ rfl, rfl⟩ (nb_ rfl) (nb_ rfl) (q_iload_n c_145_0 rfl (v_if_ne_f (t := 26) c_145_1 rfl (by decide) (q_aload_n c_145_4 rfl (v_gi (z := 0) (v := 0) c_145_5 kf_8_3 rfl (nb_ rfl) rfl rfl (up_e rfl) (v_if_ne_f (t := 26) c_145_8 rfl (by decide) (q_aload_n c_145_11 rfl (q_iload_n c_145_12 rfl ?_)))))))
    refine v_pi (z := 0) c_145_13 kf_8_3 rfl (nb_ rfl) rfl rfl rfl (by decide) (q_aload_n c_145_16 rfl (v_gr (t := 42) c_145_17 kf_8_7 rfl (nb_ rfl) rfl (q_iload_n c_145_20 rfl (q_dup2 c_145_21 ⟨rfl, rfl⟩ ?_))))
    have h_14 := ir_42 hI 1
    refine v_ia (v := c 42 1) c_145_22 rfl (by decide) (by decide) (by decide) ((up_c (nn rfl)).trans (up_c (nn rfl))) (q_iconst c_145_23 (v_iadd (v := c 42 1 + 1) c_145_24 rfl (v_nrm (fun y_15 hy_15 => (v_is c_145_25 rfl (by decide) (by decide) (by decide) (q_aload_n c_145_26 rfl (v_gi (z := 0) (v := 1) c_145_27 kf_8_3 rfl (nb_ rfl) rfl rfl ((up_c (nn rfl)).trans (up_e rfl)) (v_if_ne_t (t := 37) c_145_30 rfl (by decide) ?_))))))))
    refine q_iconst c_145_37 (v_zret c_145_38 rfl (by decide) (bk_inl (v_if_ne_f (t := 39) c_248_34 rfl (by decide) (q_iconst c_248_37 (q_iret c_248_38 rfl ?_)))))
    have hI_16 := iw_41_0 (v := 0) hI ⟨by decide, by decide⟩
    have hI_17 := iw_41_0 (v := 1) hI_16 ⟨by decide, by decide⟩
    have hI_18 := iw_42 (j := 1) (v := y_15) hI_17 ⟨hy_15.1, hy_15.2⟩
    exact K (up (up (up c 41 0 0) 41 0 1) 42 1 y_15) 0 hI_18 (fun a j hm => (up_b (Decidable.or_iff_not_imp_left.mpr (fun h1 h2 => hm (Or.inr (Decidable.not_not.mp h1))))).trans ((up_b (Decidable.or_iff_not_imp_left.mpr (fun h1 h2 => hm (Or.inl ⟨Decidable.not_not.mp h1, h2⟩)))).trans (up_b (Decidable.or_iff_not_imp_left.mpr (fun h1 h2 => hm (Or.inl ⟨Decidable.not_not.mp h1, h2⟩)))))) ⟨by decide, by decide⟩
  · refine v_ic_lt_f (t := 14) c_146_2 rfl ⟨by decide, (Int.not_lt.mp h_13), ha1.2⟩ (q_iload_n c_146_5 rfl (q_iload_n c_146_6 rfl ?_))
    by_cases h_19 : a1 > 3
    · refine v_ic_gt_t (t := 14) c_146_7 rfl ⟨by decide, h_19, ha1.2⟩ (q_iconst c_146_14 (v_zret c_146_15 rfl (by decide) (bk_inl (v_if_eq_t (t := 28) c_248_12 rfl (by decide) (q_iconst c_248_28 (q_iconst c_248_29 (q_iconst c_248_30 ?_)))))))
      refine v_cv c_248_31 km_8_203 rfl rfl (nb_ rfl) ⟨⟨rfl, rfl⟩, nb_ rfl, rfl⟩ (nb_ rfl) (nb_ rfl) (q_iload_n c_145_0 rfl (v_if_ne_f (t := 26) c_145_1 rfl (by decide) (q_aload_n c_145_4 rfl (v_gi (z := 0) (v := 0) c_145_5 kf_8_3 rfl (nb_ rfl) rfl rfl (up_e rfl) (v_if_ne_f (t := 26) c_145_8 rfl (by decide) (q_aload_n c_145_11 rfl (q_iload_n c_145_12 rfl ?_)))))))
      refine v_pi (z := 0) c_145_13 kf_8_3 rfl (nb_ rfl) rfl rfl rfl (by decide) (q_aload_n c_145_16 rfl (v_gr (t := 42) c_145_17 kf_8_7 rfl (nb_ rfl) rfl (q_iload_n c_145_20 rfl (q_dup2 c_145_21 ⟨rfl, rfl⟩ ?_))))
      have h_20 := ir_42 hI 1
      refine v_ia (v := c 42 1) c_145_22 rfl (by decide) (by decide) (by decide) ((up_c (nn rfl)).trans (up_c (nn rfl))) (q_iconst c_145_23 (v_iadd (v := c 42 1 + 1) c_145_24 rfl (v_nrm (fun y_21 hy_21 => (v_is c_145_25 rfl (by decide) (by decide) (by decide) (q_aload_n c_145_26 rfl (v_gi (z := 0) (v := 1) c_145_27 kf_8_3 rfl (nb_ rfl) rfl rfl ((up_c (nn rfl)).trans (up_e rfl)) (v_if_ne_t (t := 37) c_145_30 rfl (by decide) ?_))))))))
      refine q_iconst c_145_37 (v_zret c_145_38 rfl (by decide) (bk_inl (v_if_ne_f (t := 39) c_248_34 rfl (by decide) (q_iconst c_248_37 (q_iret c_248_38 rfl ?_)))))
      have hI_22 := iw_41_0 (v := 0) hI ⟨by decide, by decide⟩
      have hI_23 := iw_41_0 (v := 1) hI_22 ⟨by decide, by decide⟩
      have hI_24 := iw_42 (j := 1) (v := y_21) hI_23 ⟨hy_21.1, hy_21.2⟩
      exact K (up (up (up c 41 0 0) 41 0 1) 42 1 y_21) 0 hI_24 (fun a j hm => (up_b (Decidable.or_iff_not_imp_left.mpr (fun h1 h2 => hm (Or.inr (Decidable.not_not.mp h1))))).trans ((up_b (Decidable.or_iff_not_imp_left.mpr (fun h1 h2 => hm (Or.inl ⟨Decidable.not_not.mp h1, h2⟩)))).trans (up_b (Decidable.or_iff_not_imp_left.mpr (fun h1 h2 => hm (Or.inl ⟨Decidable.not_not.mp h1, h2⟩)))))) ⟨by decide, by decide⟩
    · refine v_ic_gt_f (t := 14) c_146_7 rfl ⟨ha1.1, (Int.not_lt.mp h_19), by decide⟩ (q_iconst c_146_10 (q_goto (t := 15) c_146_11 rfl (v_zret c_146_15 rfl (by decide) (bk_inl (v_if_eq_f (t := 28) c_248_12 rfl (by decide) (q_iload_n c_248_15 rfl (q_iconst c_248_16 ?_)))))))
      refine q_iconst c_248_17 (q_call c_248_18 rfl rfl rfl (q_iload_n c_146_0 rfl (q_iload_n c_146_1 rfl ?_)))
      by_cases h_25 : a2 < 0
      · refine v_ic_lt_t (t := 14) c_146_2 rfl ⟨ha2.1, h_25, by decide⟩ (q_iconst c_146_14 (v_zret c_146_15 rfl (by decide) (bk_inl (v_if_eq_t (t := 28) c_248_21 rfl (by decide) (q_iconst c_248_28 (q_iconst c_248_29 (q_iconst c_248_30 ?_)))))))
        refine v_cv c_248_31 km_8_203 rfl rfl (nb_ rfl) ⟨⟨rfl, rfl⟩, nb_ rfl, rfl⟩ (nb_ rfl) (nb_ rfl) (q_iload_n c_145_0 rfl (v_if_ne_f (t := 26) c_145_1 rfl (by decide) (q_aload_n c_145_4 rfl (v_gi (z := 0) (v := 0) c_145_5 kf_8_3 rfl (nb_ rfl) rfl rfl (up_e rfl) (v_if_ne_f (t := 26) c_145_8 rfl (by decide) (q_aload_n c_145_11 rfl (q_iload_n c_145_12 rfl ?_)))))))
        refine v_pi (z := 0) c_145_13 kf_8_3 rfl (nb_ rfl) rfl rfl rfl (by decide) (q_aload_n c_145_16 rfl (v_gr (t := 42) c_145_17 kf_8_7 rfl (nb_ rfl) rfl (q_iload_n c_145_20 rfl (q_dup2 c_145_21 ⟨rfl, rfl⟩ ?_))))
        have h_26 := ir_42 hI 1
        refine v_ia (v := c 42 1) c_145_22 rfl (by decide) (by decide) (by decide) ((up_c (nn rfl)).trans (up_c (nn rfl))) (q_iconst c_145_23 (v_iadd (v := c 42 1 + 1) c_145_24 rfl (v_nrm (fun y_27 hy_27 => (v_is c_145_25 rfl (by decide) (by decide) (by decide) (q_aload_n c_145_26 rfl (v_gi (z := 0) (v := 1) c_145_27 kf_8_3 rfl (nb_ rfl) rfl rfl ((up_c (nn rfl)).trans (up_e rfl)) (v_if_ne_t (t := 37) c_145_30 rfl (by decide) ?_))))))))
        refine q_iconst c_145_37 (v_zret c_145_38 rfl (by decide) (bk_inl (v_if_ne_f (t := 39) c_248_34 rfl (by decide) (q_iconst c_248_37 (q_iret c_248_38 rfl ?_)))))
        have hI_28 := iw_41_0 (v := 0) hI ⟨by decide, by decide⟩
        have hI_29 := iw_41_0 (v := 1) hI_28 ⟨by decide, by decide⟩
        have hI_30 := iw_42 (j := 1) (v := y_27) hI_29 ⟨hy_27.1, hy_27.2⟩
        exact K (up (up (up c 41 0 0) 41 0 1) 42 1 y_27) 0 hI_30 (fun a j hm => (up_b (Decidable.or_iff_not_imp_left.mpr (fun h1 h2 => hm (Or.inr (Decidable.not_not.mp h1))))).trans ((up_b (Decidable.or_iff_not_imp_left.mpr (fun h1 h2 => hm (Or.inl ⟨Decidable.not_not.mp h1, h2⟩)))).trans (up_b (Decidable.or_iff_not_imp_left.mpr (fun h1 h2 => hm (Or.inl ⟨Decidable.not_not.mp h1, h2⟩)))))) ⟨by decide, by decide⟩
      · refine v_ic_lt_f (t := 14) c_146_2 rfl ⟨by decide, (Int.not_lt.mp h_25), ha2.2⟩ (q_iload_n c_146_5 rfl (q_iload_n c_146_6 rfl ?_))
        by_cases h_31 : a2 > 1
        · refine v_ic_gt_t (t := 14) c_146_7 rfl ⟨by decide, h_31, ha2.2⟩ (q_iconst c_146_14 (v_zret c_146_15 rfl (by decide) (bk_inl (v_if_eq_t (t := 28) c_248_21 rfl (by decide) (q_iconst c_248_28 (q_iconst c_248_29 (q_iconst c_248_30 ?_)))))))
          refine v_cv c_248_31 km_8_203 rfl rfl (nb_ rfl) ⟨⟨rfl, rfl⟩, nb_ rfl, rfl⟩ (nb_ rfl) (nb_ rfl) (q_iload_n c_145_0 rfl (v_if_ne_f (t := 26) c_145_1 rfl (by decide) (q_aload_n c_145_4 rfl (v_gi (z := 0) (v := 0) c_145_5 kf_8_3 rfl (nb_ rfl) rfl rfl (up_e rfl) (v_if_ne_f (t := 26) c_145_8 rfl (by decide) (q_aload_n c_145_11 rfl (q_iload_n c_145_12 rfl ?_)))))))
          refine v_pi (z := 0) c_145_13 kf_8_3 rfl (nb_ rfl) rfl rfl rfl (by decide) (q_aload_n c_145_16 rfl (v_gr (t := 42) c_145_17 kf_8_7 rfl (nb_ rfl) rfl (q_iload_n c_145_20 rfl (q_dup2 c_145_21 ⟨rfl, rfl⟩ ?_))))
          have h_32 := ir_42 hI 1
          refine v_ia (v := c 42 1) c_145_22 rfl (by decide) (by decide) (by decide) ((up_c (nn rfl)).trans (up_c (nn rfl))) (q_iconst c_145_23 (v_iadd (v := c 42 1 + 1) c_145_24 rfl (v_nrm (fun y_33 hy_33 => (v_is c_145_25 rfl (by decide) (by decide) (by decide) (q_aload_n c_145_26 rfl (v_gi (z := 0) (v := 1) c_145_27 kf_8_3 rfl (nb_ rfl) rfl rfl ((up_c (nn rfl)).trans (up_e rfl)) (v_if_ne_t (t := 37) c_145_30 rfl (by decide) ?_))))))))
          refine q_iconst c_145_37 (v_zret c_145_38 rfl (by decide) (bk_inl (v_if_ne_f (t := 39) c_248_34 rfl (by decide) (q_iconst c_248_37 (q_iret c_248_38 rfl ?_)))))
          have hI_34 := iw_41_0 (v := 0) hI ⟨by decide, by decide⟩
          have hI_35 := iw_41_0 (v := 1) hI_34 ⟨by decide, by decide⟩
          have hI_36 := iw_42 (j := 1) (v := y_33) hI_35 ⟨hy_33.1, hy_33.2⟩
          exact K (up (up (up c 41 0 0) 41 0 1) 42 1 y_33) 0 hI_36 (fun a j hm => (up_b (Decidable.or_iff_not_imp_left.mpr (fun h1 h2 => hm (Or.inr (Decidable.not_not.mp h1))))).trans ((up_b (Decidable.or_iff_not_imp_left.mpr (fun h1 h2 => hm (Or.inl ⟨Decidable.not_not.mp h1, h2⟩)))).trans (up_b (Decidable.or_iff_not_imp_left.mpr (fun h1 h2 => hm (Or.inl ⟨Decidable.not_not.mp h1, h2⟩)))))) ⟨by decide, by decide⟩
        · refine v_ic_gt_f (t := 14) c_146_7 rfl ⟨ha2.1, (Int.not_lt.mp h_31), by decide⟩ (q_iconst c_146_10 (q_goto (t := 15) c_146_11 rfl (v_zret c_146_15 rfl (by decide) (bk_inl (v_if_eq_f (t := 28) c_248_21 rfl (by decide) (q_iconst c_248_24 (q_goto (t := 29) c_248_25 rfl ?_)))))))
          refine q_iconst c_248_29 (q_iconst c_248_30 (v_cv c_248_31 km_8_203 rfl rfl (nb_ rfl) ⟨⟨rfl, rfl⟩, nb_ rfl, rfl⟩ (nb_ rfl) (nb_ rfl) (q_iload_n c_145_0 rfl (v_if_ne_t (t := 26) c_145_1 rfl (by decide) (q_aload_n c_145_26 rfl (v_gi (z := 0) (v := 0) c_145_27 kf_8_3 rfl (nb_ rfl) rfl rfl (up_e rfl) (v_if_ne_f (t := 37) c_145_30 rfl (by decide) ?_)))))))
          refine q_iconst c_145_33 (q_goto (t := 38) c_145_34 rfl (v_zret c_145_38 rfl (by decide) (bk_inl (v_if_ne_t (t := 39) c_248_34 rfl (by decide) (q_iconst c_248_39 (q_istore_n c_248_40 (nb_ rfl) (q_iconst c_248_41 ?_)))))))
          refine q_istore c_248_42 (nb_ rfl) (q_iconst c_248_44 (q_istore c_248_45 (nb_ rfl) ?_))
          have hI_37 := iw_41_0 (v := 0) hI ⟨by decide, by decide⟩
          refine Wp_ls [(0, .ref 41), (1, vi a1), (2, vi a2), (3, vi 0), (4, vi (-1)), (5, vi 0)] (lsub_cons rfl (lsub_cons rfl (lsub_cons rfl (lsub_cons rfl (lsub_cons rfl (lsub_cons rfl lsub_nil)))))) ?_
          exact (s_248_l (sc := sc) (d := d) hI ha1 ha2 K 16) (up c 41 0 0) 0 (-1) 0 hI_37 (fun a j hm => up_b (Decidable.or_iff_not_imp_left.mpr (fun h1 h2 => hm (Or.inl ⟨Decidable.not_not.mp h1, h2⟩)))) ⟨by decide, by decide⟩ ⟨by decide, by decide⟩ ⟨by decide, by decide⟩ ⟨by first | exact q_720657ba9 h_13 | omega, by first | exact q_eef7e887c h_19 | omega⟩ (by omega)

set_option maxRecDepth 100000 in
set_option maxHeartbeats 4000000 in
theorem s_249_l {sc : List Int32} {d P Q : Nat} {c : ME} {Z : AR → Prop} (hI : Iv 0 (-1) P Q c)  (K : ∀ (c2 : ME) (y : Int), Iv 0 (-1) P Q c2 → (∀ (a : Nat) (j : Int), ¬ ((a = 41 ∧ j = 0) ∨ a = 59 ∨ a = 54 ∨ a = 55) → c2 a j = c a j) → (-2147483648) ≤ y ∧ y ≤ 2147483647 → Z (.inl (some (vi y)), Wd P Q P P c2, 0, 0)) : ∀ n : Nat, (∀ (c2 : ME) (v1 : Int) (v2 : Int), Iv 0 (-1) P Q c2 → (∀ (a : Nat) (j : Int), ¬ ((a = 41 ∧ j = 0) ∨ a = 59 ∨ a = 54 ∨ a = 55) → c2 a j = c a j) → (-2147483648) ≤ v1 ∧ v1 ≤ 2147483647 → 0 ≤ v2 ∧ v2 ≤ 6 → 13 - 2 * v2 < (n : Int) → Wp sc (d + 13) 249 13 [(0, .ref 41), (1, vi v1), (2, vi v2)] [] (Wd P Q P P c2) 0 0 Z) := by
  intro n
  induction n with
  | zero => exact (by intro c2 v1 v2 hI2 hF hv1 hv2 hm9; have hP := iv_P hI; have hQ := iv_Q hI; exfalso; omega)
  | succ n ih =>
    have hP := iv_P hI
    have hQ := iv_Q hI
    intro c2 v1 v2 hI2 hF hv1 hv2 hm9
    refine q_iload_n c_249_13 rfl (q_aload_n c_249_14 rfl ?_)
    have h_1 := ir_41_20 hI
    have kn_2 : Hid (c2 41 20 = c 41 20) := hF 41 20 qn_4a675523d
    refine v_gi (z := 20) (v := c 41 20) c_249_15 kf_8_157 rfl (nb_ rfl) rfl rfl (hid kn_2) ?_
    by_cases h_3 : v2 ≥ c 41 20
    · refine v_ic_ge_t (t := 50) c_249_18 rfl ⟨by first | exact q_730ab5169 h_1 | omega, h_3, (Int.le_trans hv2.2 (by decide))⟩ (q_iload_n c_249_50 rfl (q_iret c_249_51 rfl ?_))
      exact K c2 v1 hI2 (fun a j hm => hF a j hm) hv1
    · refine v_ic_ge_f (t := 50) c_249_18 rfl ⟨(Int.le_trans (by decide) hv2.1), (Int.not_le.mp h_3), by first | exact q_b289b7db2 h_1 | omega⟩ (q_iload_n c_249_21 rfl (q_aload_n c_249_22 rfl (q_iload_n c_249_23 rfl (v_cv c_249_24 km_8_378 rfl rfl (nb_ rfl) ⟨⟨rfl, rfl⟩, nb_ rfl, rfl⟩ (nb_ rfl) (nb_ rfl) (s_197 (a1 := v2) hI2 (show 0 ≤ v2 ∧ v2 ≤ 5 from ⟨hv2.1, by first | exact q_d63a8538e h_1 h_3 | omega⟩) (fun c_4 y_7 hI_5 hF_6 hy_7 => (bk_inl ?_)))))))
      by_cases h_8 : y_7 = 0
      · refine v_if_eq_t (t := 41) c_249_27 rfl h_8 (q_iconst c_249_41 (v_iadd (v := v1) c_249_42 (by first | exact q_7038fede5 | omega) (q_istore_n c_249_43 (nb_ rfl) (v_iinc (v := v2 + 1) c_249_44 rfl (nb_ rfl) rfl (q_goto (t := 13) c_249_47 rfl (Wp_ls [(0, .ref 41), (1, vi v1), (2, vi (v2 + 1))] (lsub_cons rfl (lsub_cons rfl (lsub_cons rfl lsub_nil))) ?_))))))
        exact ih c_4 v1 (v2 + 1) hI_5 (fun a j hm => (hF_6 a j (qv_5438e30b4 hm)).trans (hF a j hm)) hv1 ⟨by first | exact rgp_l hv2.1 (by decide) | omega, by first | exact q_4a76cd9c7 h_1 h_3 | omega⟩ (by omega)
      · refine v_if_eq_f (t := 41) c_249_27 rfl ⟨h_8, ⟨(Int.le_trans (by decide) hy_7.1), (Int.le_trans hy_7.2 (by decide))⟩, by decide, by decide⟩ (q_aload_n c_249_30 rfl (q_iload_n c_249_31 rfl ?_))
        have h_9 := ir_59_g hI2 (j := 4 * v2) (by first | exact q_aa51b186e h_1 h_3 | omega)
        have kn_10 : Hid (c_4 59 (4 * v2) = c2 59 (4 * v2)) := hF_6 59 (4 * v2) (fun q => q.elim (fun h => absurd h (nn rfl)) (fun h => absurd h (nn rfl)))
        have h_11 := ir_59_g hI2 (j := 4 * v2 + 1) (by first | exact q_57851f9de h_1 h_3 | omega)
        have kn_12 : Hid (c_4 59 (4 * v2 + 1) = c2 59 (4 * v2 + 1)) := hF_6 59 (4 * v2 + 1) (fun q => q.elim (fun h => absurd h (nn rfl)) (fun h => absurd h (nn rfl)))
        have h_13 := ir_59_g hI2 (j := 4 * v2 + 2) (by first | exact q_7296e74e6 h_1 h_3 | omega)
        have kn_14 : Hid (c_4 59 (4 * v2 + 2) = c2 59 (4 * v2 + 2)) := hF_6 59 (4 * v2 + 2) (fun q => q.elim (fun h => absurd h (nn rfl)) (fun h => absurd h (nn rfl)))
        have h_15 := ir_59_g hI2 (j := 4 * v2 + 3) (by first | exact q_b15525c4c h_1 h_3 | omega)
        have kn_16 : Hid (c_4 59 (4 * v2 + 3) = c2 59 (4 * v2 + 3)) := hF_6 59 (4 * v2 + 3) (fun q => q.elim (fun h => absurd h (nn rfl)) (fun h => absurd h (nn rfl)))
        refine v_cv c_249_32 km_8_343 rfl rfl (nb_ rfl) ⟨⟨rfl, rfl⟩, nb_ rfl, rfl⟩ (nb_ rfl) (nb_ rfl) (s_187 (v1 := c2 59 (4 * v2)) (v2 := c2 59 (4 * v2 + 1)) (v3 := c2 59 (4 * v2 + 2)) (v4 := c2 59 (4 * v2 + 3)) (r := c2 59 (4 * v2 + 1) + c2 59 (4 * v2 + 2) + c2 59 (4 * v2 + 3) + c2 59 (4 * v2)) (a1 := v2) hI_5 (show 0 ≤ v2 ∧ v2 ≤ 5 from ⟨hv2.1, by first | exact q_d63a8538e h_1 h_3 | omega⟩) ((hid kn_10)) ((hid kn_12)) ((hid kn_14)) ((hid kn_16)) (by omega) (bk_inl (v_bip c_249_35 (by decide) (v_idiv (v := ((c2 59 (4 * v2 + 1) + c2 59 (4 * v2 + 2) + c2 59 (4 * v2 + 3) + c2 59 (4 * v2)) / 10)) rfl (by omega) rfl (q_goto (t := 42) c_249_38 rfl (v_iadd (v := ((c2 59 (4 * v2 + 1) + c2 59 (4 * v2 + 2) + c2 59 (4 * v2 + 3) + c2 59 (4 * v2)) / 10) + v1) rfl (by first | exact q_893c89ded | omega) (v_nrm (fun y_17 hy_17 => (q_istore_n c_249_43 (nb_ rfl) ?_)))))))))
        refine v_iinc (v := v2 + 1) c_249_44 rfl (nb_ rfl) rfl (q_goto (t := 13) c_249_47 rfl (Wp_ls [(0, .ref 41), (1, vi y_17), (2, vi (v2 + 1))] (lsub_cons rfl (lsub_cons rfl (lsub_cons rfl lsub_nil))) ?_))
        exact ih c_4 y_17 (v2 + 1) hI_5 (fun a j hm => (hF_6 a j (qv_5438e30b4 hm)).trans (hF a j hm)) hy_17 ⟨by first | exact rgp_l hv2.1 (by decide) | omega, by first | exact q_4a76cd9c7 h_1 h_3 | omega⟩ (by omega)
set_option maxRecDepth 100000 in
set_option maxHeartbeats 4000000 in
theorem s_249 {sc : List Int32} {d P Q : Nat} {c : ME} {Z : AR → Prop} (hI : Iv 0 (-1) P Q c)  (K : ∀ (c2 : ME) (y : Int), Iv 0 (-1) P Q c2 → (∀ (a : Nat) (j : Int), ¬ ((a = 41 ∧ j = 0) ∨ a = 59 ∨ a = 54 ∨ a = 55) → c2 a j = c a j) → (-2147483648) ≤ y ∧ y ≤ 2147483647 → Z (.inl (some (vi y)), Wd P Q P P c2, 0, 0)) : Wp sc (d + 13) 249 0 [(0, .ref 41)] [] (Wd P Q P P c) 0 0 Z := by
  have hP := iv_P hI
  have hQ := iv_Q hI
  refine q_aload_n c_249_0 rfl (q_iconst c_249_1 (v_pi (z := 0) c_249_2 kf_8_3 rfl (nb_ rfl) rfl rfl rfl (by decide) (q_aload_n c_249_5 rfl ?_)))
  have hI_18 := iw_41_0 (v := 0) hI ⟨by decide, by decide⟩
  refine v_cv c_249_6 km_8_317 rfl rfl (nb_ rfl) ⟨⟨rfl, rfl⟩, nb_ rfl, rfl⟩ (nb_ rfl) (nb_ rfl) (s_186 hI_18 (fun c_19 hI_20 hF_21 => (bk_inl (q_iconst c_249_9 (q_istore_n c_249_10 (nb_ rfl) (q_iconst c_249_11 (q_istore_n c_249_12 (nb_ rfl) (Wp_ls [(0, .ref 41), (1, vi 0), (2, vi 0)] (lsub_cons rfl (lsub_cons rfl (lsub_cons rfl lsub_nil))) ?_))))))))
  exact (s_249_l (sc := sc) (d := d) hI K 16) c_19 0 0 hI_20 (fun a j hm => (hF_21 a j (fun h => hm (Or.inr (Or.inl h)))).trans (up_b (Decidable.or_iff_not_imp_left.mpr (fun h1 h2 => hm (Or.inl ⟨Decidable.not_not.mp h1, h2⟩))))) ⟨by decide, by decide⟩ ⟨by decide, by decide⟩ (by omega)

set_option maxRecDepth 100000 in
set_option maxHeartbeats 4000000 in
theorem s_250_l {sc : List Int32} {d P Q : Nat} {c : ME} {a1 : Int} {Z : AR → Prop} (hI : Iv 0 (-1) P Q c) (ha1 : (-2147483648) ≤ a1 ∧ a1 ≤ 2147483647) (K : ∀ (c2 : ME) (y : Int), Iv 0 (-1) P Q c2 → (∀ (a : Nat) (j : Int), ¬ ((a = 41 ∧ j = 0) ∨ a = 42 ∨ a = 59) → c2 a j = c a j) → (-2147483648) ≤ y ∧ y ≤ 2147483647 → Z (.inl (some (vi y)), Wd P Q P P c2, 0, 0)) : ∀ n : Nat, (∀ (c2 : ME) (v2 : Int) (v3 : Int), Iv 0 (-1) P Q c2 → (∀ (a : Nat) (j : Int), ¬ ((a = 41 ∧ j = 0) ∨ a = 42 ∨ a = 59) → c2 a j = c a j) → (-1) ≤ v2 ∧ v2 ≤ 5 → 0 ≤ v3 ∧ v3 ≤ 6 → ((a1 ≥ 0 ∧ a1 ≤ 5)) → 13 - 2 * v3 < (n : Int) → Wp sc (d + 9) 250 27 [(0, .ref 41), (1, vi a1), (2, vi v2), (3, vi v3)] [] (Wd P Q P P c2) 0 0 Z) := by
  intro n
  induction n with
  | zero => exact (by intro c2 v2 v3 hI2 hF hv2 hv3 hx0 hm9; have hP := iv_P hI; have hQ := iv_Q hI; exfalso; omega)
  | succ n ih =>
    have hP := iv_P hI
    have hQ := iv_Q hI
    intro c2 v2 v3 hI2 hF hv2 hv3 hx0 hm9
    refine q_iload_n c_250_27 rfl (q_aload_n c_250_28 rfl ?_)
    have h_1 := ir_41_20 hI
    have kn_2 : Hid (c2 41 20 = c 41 20) := hF 41 20 qn_110b29ed6
    refine v_gi (z := 20) (v := c 41 20) c_250_29 kf_8_157 rfl (nb_ rfl) rfl rfl (hid kn_2) ?_
    by_cases h_3 : v3 ≥ c 41 20
    · refine v_ic_ge_t (t := 92) c_250_32 rfl ⟨by first | exact q_730ab5169 h_1 | omega, h_3, (Int.le_trans hv3.2 (by decide))⟩ (q_iload_n c_250_92 rfl (q_iret c_250_93 rfl ?_))
      exact K c2 v2 hI2 (fun a j hm => hF a j hm) ⟨(Int.le_trans (by decide) hv2.1), (Int.le_trans hv2.2 (by decide))⟩
    · refine v_ic_ge_f (t := 92) c_250_32 rfl ⟨(Int.le_trans (by decide) hv3.1), (Int.not_le.mp h_3), by first | exact q_b289b7db2 h_1 | omega⟩ (q_iload_n c_250_35 rfl (q_iload_n c_250_36 rfl ?_))
      by_cases h_4 : v3 = a1
      · refine v_ic_eq_t (t := 86) c_250_37 rfl h_4 (v_iinc (v := v3 + 1) c_250_86 rfl (nb_ rfl) rfl (q_goto (t := 27) c_250_89 rfl (Wp_ls [(0, .ref 41), (1, vi a1), (2, vi v2), (3, vi (v3 + 1))] (lsub_cons rfl (lsub_cons rfl (lsub_cons rfl (lsub_cons rfl lsub_nil)))) ?_)))
        exact ih c2 v2 (v3 + 1) hI2 (fun a j hm => hF a j hm) hv2 ⟨by first | exact rgp_l hv3.1 (by decide) | omega, by first | exact q_4a76cd9c7 h_1 h_3 | omega⟩ ⟨by omega, by omega⟩ (by omega)
      · refine v_ic_eq_f (t := 86) c_250_37 rfl ⟨h_4, ⟨(Int.le_trans (by decide) hv3.1), (Int.le_trans hv3.2 (by decide))⟩, ha1.1, ha1.2⟩ (q_aload_n c_250_40 rfl (q_iload_n c_250_41 rfl ?_))
        have h_5 := ir_59_g hI2 (j := 4 * v3) (by first | exact q_aa51b186e h_1 h_3 | omega)
        have h_6 := ir_59_g hI2 (j := 4 * v3 + 1) (by first | exact q_57851f9de h_1 h_3 | omega)
        have h_7 := ir_59_g hI2 (j := 4 * v3 + 2) (by first | exact q_7296e74e6 h_1 h_3 | omega)
        have h_8 := ir_59_g hI2 (j := 4 * v3 + 3) (by first | exact q_b15525c4c h_1 h_3 | omega)
        refine v_cv c_250_42 km_8_343 rfl rfl (nb_ rfl) ⟨⟨rfl, rfl⟩, nb_ rfl, rfl⟩ (nb_ rfl) (nb_ rfl) (s_187 (v1 := c2 59 (4 * v3)) (v2 := c2 59 (4 * v3 + 1)) (v3 := c2 59 (4 * v3 + 2)) (v4 := c2 59 (4 * v3 + 3)) (r := c2 59 (4 * v3 + 1) + c2 59 (4 * v3 + 2) + c2 59 (4 * v3 + 3) + c2 59 (4 * v3)) (a1 := v3) hI2 (show 0 ≤ v3 ∧ v3 ≤ 5 from ⟨hv3.1, by first | exact q_d63a8538e h_1 h_3 | omega⟩) (rfl) (rfl) (rfl) (rfl) (by omega) (bk_inl ?_))
        by_cases h_9 : c2 59 (4 * v3 + 1) + c2 59 (4 * v3 + 2) + c2 59 (4 * v3 + 3) + c2 59 (4 * v3) ≤ 0
        · refine v_if_le_t (t := 86) c_250_45 rfl ⟨by first | exact q_e052ef40e h_5 h_6 h_7 h_8 | omega, h_9, by decide⟩ (v_iinc (v := v3 + 1) c_250_86 rfl (nb_ rfl) rfl (q_goto (t := 27) c_250_89 rfl (Wp_ls [(0, .ref 41), (1, vi a1), (2, vi v2), (3, vi (v3 + 1))] (lsub_cons rfl (lsub_cons rfl (lsub_cons rfl (lsub_cons rfl lsub_nil)))) ?_)))
          exact ih c2 v2 (v3 + 1) hI2 (fun a j hm => hF a j hm) hv2 ⟨by first | exact rgp_l hv3.1 (by decide) | omega, by first | exact q_4a76cd9c7 h_1 h_3 | omega⟩ ⟨by first | (clear ha1 hv2 hv3 h_1 h_3 h_5 h_6 h_7 h_8 h_9 h_4; omega) | omega, by first | (clear ha1 hv2 hv3 h_1 h_3 h_5 h_6 h_7 h_8 h_9 h_4; omega) | omega⟩ (by omega)
        · refine v_if_le_f (t := 86) c_250_45 rfl ⟨by decide, (Int.not_le.mp h_9), by first | exact q_db9ef1f4a h_5 h_6 h_7 h_8 | omega⟩ (q_iload_n c_250_48 rfl (q_iconst c_250_49 ?_))
          by_cases h_10 : v2 = (-1)
          · refine v_ic_eq_t (t := 84) c_250_50 rfl h_10 (q_iload_n c_250_84 rfl (q_istore_n c_250_85 (nb_ rfl) (v_iinc (v := v3 + 1) c_250_86 rfl (nb_ rfl) rfl (q_goto (t := 27) c_250_89 rfl (Wp_ls [(0, .ref 41), (1, vi a1), (2, vi v3), (3, vi (v3 + 1))] (lsub_cons rfl (lsub_cons rfl (lsub_cons rfl (lsub_cons rfl lsub_nil)))) ?_)))))
            exact ih c2 v3 (v3 + 1) hI2 (fun a j hm => hF a j hm) ⟨(Int.le_trans (by decide) hv3.1), by first | exact q_d63a8538e h_1 h_3 | omega⟩ ⟨by first | exact rgp_l hv3.1 (by decide) | omega, by first | exact q_4a76cd9c7 h_1 h_3 | omega⟩ ⟨by first | (clear ha1 hv2 hv3 h_1 h_3 h_5 h_6 h_7 h_8 h_9 h_10 h_4; omega) | omega, by first | (clear ha1 hv2 hv3 h_1 h_3 h_5 h_6 h_7 h_8 h_9 h_10 h_4; omega) | omega⟩ (by omega)
          · refine v_ic_eq_f (t := 84) c_250_50 rfl ⟨h_10, ⟨(Int.le_trans (by decide) hv2.1), (Int.le_trans hv2.2 (by decide))⟩, by decide, by decide⟩ (q_aload_n c_250_53 rfl (q_iload_n c_250_54 rfl (v_cv c_250_55 km_8_399 rfl rfl (nb_ rfl) ⟨⟨rfl, rfl⟩, nb_ rfl, rfl⟩ (nb_ rfl) (nb_ rfl) (s_204 (a1 := v3) hI2 (show 0 ≤ v3 ∧ v3 ≤ 5 from ⟨hv3.1, by first | exact q_d63a8538e h_1 h_3 | omega⟩) (fun y_11 hy_11 => (bk_inl (q_aload_n c_250_58 rfl (q_iload_n c_250_59 rfl (v_cv c_250_60 km_8_399 rfl rfl (nb_ rfl) ⟨⟨rfl, rfl⟩, nb_ rfl, rfl⟩ (nb_ rfl) (nb_ rfl) (s_204 (a1 := a1) hI2 (show 0 ≤ a1 ∧ a1 ≤ 5 from ⟨by first | (clear ha1 hv2 hv3 h_1 h_3 h_5 h_6 h_7 h_8 h_9 h_4 h_10; omega) | omega, by first | (clear ha1 hv2 hv3 h_1 h_3 h_5 h_6 h_7 h_8 h_9 h_4 h_10; omega) | omega⟩) (fun y_12 hy_12 => ?_)))))))))))
            refine bk_inl (v_isub (v := y_11 - y_12) c_250_63 rfl (v_nrm (fun y_13 hy_13 => (q_call c_250_64 rfl rfl rfl (q_iload_n c_225_0 rfl ?_)))))
            by_cases h_14 : y_13 ≥ 0
            · refine v_if_ge_t (t := 9) c_225_1 rfl ⟨by decide, h_14, hy_13.2⟩ (q_iload_n c_225_9 rfl (q_iret c_225_10 rfl (bk_inl (q_aload_n c_250_67 rfl (q_iload_n c_250_68 rfl (v_cv c_250_69 km_8_399 rfl rfl (nb_ rfl) ⟨⟨rfl, rfl⟩, nb_ rfl, rfl⟩ (nb_ rfl) (nb_ rfl) (s_204 (a1 := v2) hI2 (show 0 ≤ v2 ∧ v2 ≤ 5 from ⟨by first | exact q_a0327fb45 h_10 hv2 | omega, hv2.2⟩) (fun y_15 hy_15 => (bk_inl ?_)))))))))
              refine q_aload_n c_250_72 rfl (q_iload_n c_250_73 rfl (v_cv c_250_74 km_8_399 rfl rfl (nb_ rfl) ⟨⟨rfl, rfl⟩, nb_ rfl, rfl⟩ (nb_ rfl) (nb_ rfl) (s_204 (a1 := a1) hI2 (show 0 ≤ a1 ∧ a1 ≤ 5 from ⟨by first | (clear ha1 hv2 hv3 h_1 h_3 h_5 h_6 h_7 h_8 h_9 h_14 h_4 h_10; omega) | omega, by first | (clear ha1 hv2 hv3 h_1 h_3 h_5 h_6 h_7 h_8 h_9 h_14 h_4 h_10; omega) | omega⟩) (fun y_16 hy_16 => (bk_inl (v_isub (v := y_15 - y_16) c_250_77 rfl (v_nrm (fun y_17 hy_17 => (q_call c_250_78 rfl rfl rfl (q_iload_n c_225_0 rfl ?_))))))))))
              by_cases h_18 : y_17 ≥ 0
              · refine v_if_ge_t (t := 9) c_225_1 rfl ⟨by decide, h_18, hy_17.2⟩ (q_iload_n c_225_9 rfl (q_iret c_225_10 rfl (bk_inl ?_)))
                by_cases h_19 : y_13 ≥ y_17
                · refine v_ic_ge_t (t := 86) c_250_81 rfl ⟨hy_17.1, h_19, hy_13.2⟩ (v_iinc (v := v3 + 1) c_250_86 rfl (nb_ rfl) rfl (q_goto (t := 27) c_250_89 rfl (Wp_ls [(0, .ref 41), (1, vi a1), (2, vi v2), (3, vi (v3 + 1))] (lsub_cons rfl (lsub_cons rfl (lsub_cons rfl (lsub_cons rfl lsub_nil)))) ?_)))
                  exact ih c2 v2 (v3 + 1) hI2 (fun a j hm => hF a j hm) hv2 ⟨by first | exact rgp_l hv3.1 (by decide) | omega, by first | exact q_4a76cd9c7 h_1 h_3 | omega⟩ ⟨by first | (clear ha1 hv2 hv3 h_1 h_3 h_5 h_6 h_7 h_8 h_9 h_14 h_18 h_19 h_4 h_10; omega) | omega, by first | (clear ha1 hv2 hv3 h_1 h_3 h_5 h_6 h_7 h_8 h_9 h_14 h_18 h_19 h_4 h_10; omega) | omega⟩ (by omega)
                · refine v_ic_ge_f (t := 86) c_250_81 rfl ⟨hy_13.1, (Int.not_le.mp h_19), hy_17.2⟩ (q_iload_n c_250_84 rfl (q_istore_n c_250_85 (nb_ rfl) (v_iinc (v := v3 + 1) c_250_86 rfl (nb_ rfl) rfl (q_goto (t := 27) c_250_89 rfl (Wp_ls [(0, .ref 41), (1, vi a1), (2, vi v3), (3, vi (v3 + 1))] (lsub_cons rfl (lsub_cons rfl (lsub_cons rfl (lsub_cons rfl lsub_nil)))) ?_)))))
                  exact ih c2 v3 (v3 + 1) hI2 (fun a j hm => hF a j hm) ⟨(Int.le_trans (by decide) hv3.1), by first | exact q_d63a8538e h_1 h_3 | omega⟩ ⟨by first | exact rgp_l hv3.1 (by decide) | omega, by first | exact q_4a76cd9c7 h_1 h_3 | omega⟩ ⟨by first | (clear ha1 hv2 hv3 h_1 h_3 h_5 h_6 h_7 h_8 h_9 h_14 h_18 h_19 h_4 h_10; omega) | omega, by first | (clear ha1 hv2 hv3 h_1 h_3 h_5 h_6 h_7 h_8 h_9 h_14 h_18 h_19 h_4 h_10; omega) | omega⟩ (by omega)
              · refine v_if_ge_f (t := 9) c_225_1 rfl ⟨hy_17.1, (Int.not_le.mp h_18), by decide⟩ (q_iload_n c_225_4 rfl (v_ineg (v := 0 - y_17) c_225_5 (by omega) (v_nrm (fun y_20 hy_20 => (q_goto (t := 10) c_225_6 rfl (q_iret c_225_10 rfl (bk_inl ?_)))))))
                by_cases h_21 : y_13 ≥ y_20
                · refine v_ic_ge_t (t := 86) c_250_81 rfl ⟨hy_20.1, h_21, hy_13.2⟩ (v_iinc (v := v3 + 1) c_250_86 rfl (nb_ rfl) rfl (q_goto (t := 27) c_250_89 rfl (Wp_ls [(0, .ref 41), (1, vi a1), (2, vi v2), (3, vi (v3 + 1))] (lsub_cons rfl (lsub_cons rfl (lsub_cons rfl (lsub_cons rfl lsub_nil)))) ?_)))
                  exact ih c2 v2 (v3 + 1) hI2 (fun a j hm => hF a j hm) hv2 ⟨by first | exact rgp_l hv3.1 (by decide) | omega, by first | exact q_4a76cd9c7 h_1 h_3 | omega⟩ ⟨by first | (clear ha1 hv2 hv3 h_1 h_3 h_5 h_6 h_7 h_8 h_9 h_14 h_18 h_21 h_4 h_10; omega) | omega, by first | (clear ha1 hv2 hv3 h_1 h_3 h_5 h_6 h_7 h_8 h_9 h_14 h_18 h_21 h_4 h_10; omega) | omega⟩ (by omega)
                · refine v_ic_ge_f (t := 86) c_250_81 rfl ⟨hy_13.1, (Int.not_le.mp h_21), hy_20.2⟩ (q_iload_n c_250_84 rfl (q_istore_n c_250_85 (nb_ rfl) (v_iinc (v := v3 + 1) c_250_86 rfl (nb_ rfl) rfl (q_goto (t := 27) c_250_89 rfl (Wp_ls [(0, .ref 41), (1, vi a1), (2, vi v3), (3, vi (v3 + 1))] (lsub_cons rfl (lsub_cons rfl (lsub_cons rfl (lsub_cons rfl lsub_nil)))) ?_)))))
                  exact ih c2 v3 (v3 + 1) hI2 (fun a j hm => hF a j hm) ⟨(Int.le_trans (by decide) hv3.1), by first | exact q_d63a8538e h_1 h_3 | omega⟩ ⟨by first | exact rgp_l hv3.1 (by decide) | omega, by first | exact q_4a76cd9c7 h_1 h_3 | omega⟩ ⟨by first | (clear ha1 hv2 hv3 h_1 h_3 h_5 h_6 h_7 h_8 h_9 h_14 h_18 h_21 h_4 h_10; omega) | omega, by first | (clear ha1 hv2 hv3 h_1 h_3 h_5 h_6 h_7 h_8 h_9 h_14 h_18 h_21 h_4 h_10; omega) | omega⟩ (by omega)
            · refine v_if_ge_f (t := 9) c_225_1 rfl ⟨hy_13.1, (Int.not_le.mp h_14), by decide⟩ (q_iload_n c_225_4 rfl (v_ineg (v := 0 - y_13) c_225_5 (by omega) (v_nrm (fun y_22 hy_22 => (q_goto (t := 10) c_225_6 rfl (q_iret c_225_10 rfl (bk_inl (q_aload_n c_250_67 rfl ?_))))))))
              refine q_iload_n c_250_68 rfl (v_cv c_250_69 km_8_399 rfl rfl (nb_ rfl) ⟨⟨rfl, rfl⟩, nb_ rfl, rfl⟩ (nb_ rfl) (nb_ rfl) (s_204 (a1 := v2) hI2 (show 0 ≤ v2 ∧ v2 ≤ 5 from ⟨by first | exact q_a0327fb45 h_10 hv2 | omega, hv2.2⟩) (fun y_23 hy_23 => (bk_inl (q_aload_n c_250_72 rfl (q_iload_n c_250_73 rfl (v_cv c_250_74 km_8_399 rfl rfl (nb_ rfl) ⟨⟨rfl, rfl⟩, nb_ rfl, rfl⟩ (nb_ rfl) (nb_ rfl) (s_204 (a1 := a1) hI2 (show 0 ≤ a1 ∧ a1 ≤ 5 from ⟨by first | (clear ha1 hv2 hv3 h_1 h_3 h_5 h_6 h_7 h_8 h_9 h_14 h_4 h_10; omega) | omega, by first | (clear ha1 hv2 hv3 h_1 h_3 h_5 h_6 h_7 h_8 h_9 h_14 h_4 h_10; omega) | omega⟩) (fun y_24 hy_24 => (bk_inl (v_isub (v := y_23 - y_24) c_250_77 rfl ?_)))))))))))
              refine v_nrm (fun y_25 hy_25 => (q_call c_250_78 rfl rfl rfl (q_iload_n c_225_0 rfl ?_)))
              by_cases h_26 : y_25 ≥ 0
              · refine v_if_ge_t (t := 9) c_225_1 rfl ⟨by decide, h_26, hy_25.2⟩ (q_iload_n c_225_9 rfl (q_iret c_225_10 rfl (bk_inl ?_)))
                by_cases h_27 : y_22 ≥ y_25
                · refine v_ic_ge_t (t := 86) c_250_81 rfl ⟨hy_25.1, h_27, hy_22.2⟩ (v_iinc (v := v3 + 1) c_250_86 rfl (nb_ rfl) rfl (q_goto (t := 27) c_250_89 rfl (Wp_ls [(0, .ref 41), (1, vi a1), (2, vi v2), (3, vi (v3 + 1))] (lsub_cons rfl (lsub_cons rfl (lsub_cons rfl (lsub_cons rfl lsub_nil)))) ?_)))
                  exact ih c2 v2 (v3 + 1) hI2 (fun a j hm => hF a j hm) hv2 ⟨by first | exact rgp_l hv3.1 (by decide) | omega, by first | exact q_4a76cd9c7 h_1 h_3 | omega⟩ ⟨by first | (clear ha1 hv2 hv3 h_1 h_3 h_5 h_6 h_7 h_8 h_9 h_14 h_26 h_27 h_4 h_10; omega) | omega, by first | (clear ha1 hv2 hv3 h_1 h_3 h_5 h_6 h_7 h_8 h_9 h_14 h_26 h_27 h_4 h_10; omega) | omega⟩ (by omega)
                · refine v_ic_ge_f (t := 86) c_250_81 rfl ⟨hy_22.1, (Int.not_le.mp h_27), hy_25.2⟩ (q_iload_n c_250_84 rfl (q_istore_n c_250_85 (nb_ rfl) (v_iinc (v := v3 + 1) c_250_86 rfl (nb_ rfl) rfl (q_goto (t := 27) c_250_89 rfl (Wp_ls [(0, .ref 41), (1, vi a1), (2, vi v3), (3, vi (v3 + 1))] (lsub_cons rfl (lsub_cons rfl (lsub_cons rfl (lsub_cons rfl lsub_nil)))) ?_)))))
                  exact ih c2 v3 (v3 + 1) hI2 (fun a j hm => hF a j hm) ⟨(Int.le_trans (by decide) hv3.1), by first | exact q_d63a8538e h_1 h_3 | omega⟩ ⟨by first | exact rgp_l hv3.1 (by decide) | omega, by first | exact q_4a76cd9c7 h_1 h_3 | omega⟩ ⟨by first | (clear ha1 hv2 hv3 h_1 h_3 h_5 h_6 h_7 h_8 h_9 h_14 h_26 h_27 h_4 h_10; omega) | omega, by first | (clear ha1 hv2 hv3 h_1 h_3 h_5 h_6 h_7 h_8 h_9 h_14 h_26 h_27 h_4 h_10; omega) | omega⟩ (by omega)
              · refine v_if_ge_f (t := 9) c_225_1 rfl ⟨hy_25.1, (Int.not_le.mp h_26), by decide⟩ (q_iload_n c_225_4 rfl (v_ineg (v := 0 - y_25) c_225_5 (by omega) (v_nrm (fun y_28 hy_28 => (q_goto (t := 10) c_225_6 rfl (q_iret c_225_10 rfl (bk_inl ?_)))))))
                by_cases h_29 : y_22 ≥ y_28
                · refine v_ic_ge_t (t := 86) c_250_81 rfl ⟨hy_28.1, h_29, hy_22.2⟩ (v_iinc (v := v3 + 1) c_250_86 rfl (nb_ rfl) rfl (q_goto (t := 27) c_250_89 rfl (Wp_ls [(0, .ref 41), (1, vi a1), (2, vi v2), (3, vi (v3 + 1))] (lsub_cons rfl (lsub_cons rfl (lsub_cons rfl (lsub_cons rfl lsub_nil)))) ?_)))
                  exact ih c2 v2 (v3 + 1) hI2 (fun a j hm => hF a j hm) hv2 ⟨by first | exact rgp_l hv3.1 (by decide) | omega, by first | exact q_4a76cd9c7 h_1 h_3 | omega⟩ ⟨by first | (clear ha1 hv2 hv3 h_1 h_3 h_5 h_6 h_7 h_8 h_9 h_14 h_26 h_29 h_4 h_10; omega) | omega, by first | (clear ha1 hv2 hv3 h_1 h_3 h_5 h_6 h_7 h_8 h_9 h_14 h_26 h_29 h_4 h_10; omega) | omega⟩ (by omega)
                · refine v_ic_ge_f (t := 86) c_250_81 rfl ⟨hy_22.1, (Int.not_le.mp h_29), hy_28.2⟩ (q_iload_n c_250_84 rfl (q_istore_n c_250_85 (nb_ rfl) (v_iinc (v := v3 + 1) c_250_86 rfl (nb_ rfl) rfl (q_goto (t := 27) c_250_89 rfl (Wp_ls [(0, .ref 41), (1, vi a1), (2, vi v3), (3, vi (v3 + 1))] (lsub_cons rfl (lsub_cons rfl (lsub_cons rfl (lsub_cons rfl lsub_nil)))) ?_)))))
                  exact ih c2 v3 (v3 + 1) hI2 (fun a j hm => hF a j hm) ⟨(Int.le_trans (by decide) hv3.1), by first | exact q_d63a8538e h_1 h_3 | omega⟩ ⟨by first | exact rgp_l hv3.1 (by decide) | omega, by first | exact q_4a76cd9c7 h_1 h_3 | omega⟩ ⟨by first | (clear ha1 hv2 hv3 h_1 h_3 h_5 h_6 h_7 h_8 h_9 h_14 h_26 h_29 h_4 h_10; omega) | omega, by first | (clear ha1 hv2 hv3 h_1 h_3 h_5 h_6 h_7 h_8 h_9 h_14 h_26 h_29 h_4 h_10; omega) | omega⟩ (by omega)
set_option maxRecDepth 100000 in
set_option maxHeartbeats 4000000 in
theorem s_250 {sc : List Int32} {d P Q : Nat} {c : ME} {a1 : Int} {Z : AR → Prop} (hI : Iv 0 (-1) P Q c) (ha1 : (-2147483648) ≤ a1 ∧ a1 ≤ 2147483647) (K : ∀ (c2 : ME) (y : Int), Iv 0 (-1) P Q c2 → (∀ (a : Nat) (j : Int), ¬ ((a = 41 ∧ j = 0) ∨ a = 42 ∨ a = 59) → c2 a j = c a j) → (-2147483648) ≤ y ∧ y ≤ 2147483647 → Z (.inl (some (vi y)), Wd P Q P P c2, 0, 0)) : Wp sc (d + 9) 250 0 [(0, .ref 41), (1, vi a1)] [] (Wd P Q P P c) 0 0 Z := by
  have hP := iv_P hI
  have hQ := iv_Q hI
  refine q_aload_n c_250_0 rfl (q_iconst c_250_1 (v_pi (z := 0) c_250_2 kf_8_3 rfl (nb_ rfl) rfl rfl rfl (by decide) (q_aload_n c_250_5 rfl (q_iload_n c_250_6 rfl (q_aload_n c_250_7 rfl ?_)))))
  have h_30 := ir_41_20 hI
  refine v_gi (z := 20) (v := c 41 20) c_250_8 kf_8_157 rfl (nb_ rfl) rfl rfl (up_n (by decide)) (v_cv c_250_11 km_8_396 rfl rfl (nb_ rfl) ⟨⟨rfl, rfl⟩, nb_ rfl, rfl⟩ (nb_ rfl) (nb_ rfl) (q_aload_n c_212_0 rfl (q_iload_n c_212_1 rfl (q_iconst c_212_2 (q_iload_n c_212_3 rfl (q_iconst c_212_4 (v_isub (v := c 41 20 - 1) c_212_5 rfl ?_)))))))
  refine q_call c_212_6 rfl rfl rfl (q_iload_n c_146_0 rfl (q_iload_n c_146_1 rfl ?_))
  by_cases h_31 : a1 < 0
  · refine v_ic_lt_t (t := 14) c_146_2 rfl ⟨ha1.1, h_31, by decide⟩ (q_iconst c_146_14 (v_zret c_146_15 rfl (by decide) (bk_inl (q_iconst c_212_9 (q_iconst c_212_10 (v_cv c_212_11 km_8_203 rfl rfl (nb_ rfl) ⟨⟨rfl, rfl⟩, nb_ rfl, rfl⟩ (nb_ rfl) (nb_ rfl) (q_iload_n c_145_0 rfl ?_)))))))
    refine v_if_ne_f (t := 26) c_145_1 rfl (by decide) (q_aload_n c_145_4 rfl (v_gi (z := 0) (v := 0) c_145_5 kf_8_3 rfl (nb_ rfl) rfl rfl (up_e rfl) (v_if_ne_f (t := 26) c_145_8 rfl (by decide) (q_aload_n c_145_11 rfl (q_iload_n c_145_12 rfl (v_pi (z := 0) c_145_13 kf_8_3 rfl (nb_ rfl) rfl rfl rfl (by decide) (q_aload_n c_145_16 rfl ?_)))))))
    refine v_gr (t := 42) c_145_17 kf_8_7 rfl (nb_ rfl) rfl (q_iload_n c_145_20 rfl (q_dup2 c_145_21 ⟨rfl, rfl⟩ ?_))
    have h_32 := ir_42 hI 0
    refine v_ia (v := c 42 0) c_145_22 rfl (by decide) (by decide) (by decide) ((up_c (nn rfl)).trans (up_c (nn rfl))) (q_iconst c_145_23 (v_iadd (v := c 42 0 + 1) c_145_24 rfl (v_nrm (fun y_33 hy_33 => (v_is c_145_25 rfl (by decide) (by decide) (by decide) (q_aload_n c_145_26 rfl (v_gi (z := 0) (v := 1) c_145_27 kf_8_3 rfl (nb_ rfl) rfl rfl ((up_c (nn rfl)).trans (up_e rfl)) (v_if_ne_t (t := 37) c_145_30 rfl (by decide) ?_))))))))
    refine q_iconst c_145_37 (v_zret c_145_38 rfl (by decide) (bk_inl (v_zret c_212_14 rfl (by decide) (bk_inl (v_if_ne_f (t := 19) c_250_14 rfl (by decide) (q_iconst c_250_17 (q_iret c_250_18 rfl ?_)))))))
    have hI_34 := iw_41_0 (v := 0) hI ⟨by decide, by decide⟩
    have hI_35 := iw_41_0 (v := 1) hI_34 ⟨by decide, by decide⟩
    have hI_36 := iw_42 (j := 0) (v := y_33) hI_35 ⟨hy_33.1, hy_33.2⟩
    exact K (up (up (up c 41 0 0) 41 0 1) 42 0 y_33) 0 hI_36 (fun a j hm => (up_b (Decidable.or_iff_not_imp_left.mpr (fun h1 h2 => hm (Or.inr (Or.inl (Decidable.not_not.mp h1)))))).trans ((up_b (Decidable.or_iff_not_imp_left.mpr (fun h1 h2 => hm (Or.inl ⟨Decidable.not_not.mp h1, h2⟩)))).trans (up_b (Decidable.or_iff_not_imp_left.mpr (fun h1 h2 => hm (Or.inl ⟨Decidable.not_not.mp h1, h2⟩)))))) ⟨by decide, by decide⟩
  · refine v_ic_lt_f (t := 14) c_146_2 rfl ⟨by decide, (Int.not_lt.mp h_31), ha1.2⟩ (q_iload_n c_146_5 rfl (q_iload_n c_146_6 rfl ?_))
    by_cases h_37 : a1 > c 41 20 - 1
    · refine v_ic_gt_t (t := 14) c_146_7 rfl ⟨by first | exact rgm_l h_30.1 (by decide) | omega, h_37, ha1.2⟩ (q_iconst c_146_14 (v_zret c_146_15 rfl (by decide) (bk_inl (q_iconst c_212_9 (q_iconst c_212_10 (v_cv c_212_11 km_8_203 rfl rfl (nb_ rfl) ⟨⟨rfl, rfl⟩, nb_ rfl, rfl⟩ (nb_ rfl) (nb_ rfl) (q_iload_n c_145_0 rfl ?_)))))))
      refine v_if_ne_f (t := 26) c_145_1 rfl (by decide) (q_aload_n c_145_4 rfl (v_gi (z := 0) (v := 0) c_145_5 kf_8_3 rfl (nb_ rfl) rfl rfl (up_e rfl) (v_if_ne_f (t := 26) c_145_8 rfl (by decide) (q_aload_n c_145_11 rfl (q_iload_n c_145_12 rfl (v_pi (z := 0) c_145_13 kf_8_3 rfl (nb_ rfl) rfl rfl rfl (by decide) (q_aload_n c_145_16 rfl ?_)))))))
      refine v_gr (t := 42) c_145_17 kf_8_7 rfl (nb_ rfl) rfl (q_iload_n c_145_20 rfl (q_dup2 c_145_21 ⟨rfl, rfl⟩ ?_))
      have h_38 := ir_42 hI 0
      refine v_ia (v := c 42 0) c_145_22 rfl (by decide) (by decide) (by decide) ((up_c (nn rfl)).trans (up_c (nn rfl))) (q_iconst c_145_23 (v_iadd (v := c 42 0 + 1) c_145_24 rfl (v_nrm (fun y_39 hy_39 => (v_is c_145_25 rfl (by decide) (by decide) (by decide) (q_aload_n c_145_26 rfl (v_gi (z := 0) (v := 1) c_145_27 kf_8_3 rfl (nb_ rfl) rfl rfl ((up_c (nn rfl)).trans (up_e rfl)) (v_if_ne_t (t := 37) c_145_30 rfl (by decide) ?_))))))))
      refine q_iconst c_145_37 (v_zret c_145_38 rfl (by decide) (bk_inl (v_zret c_212_14 rfl (by decide) (bk_inl (v_if_ne_f (t := 19) c_250_14 rfl (by decide) (q_iconst c_250_17 (q_iret c_250_18 rfl ?_)))))))
      have hI_40 := iw_41_0 (v := 0) hI ⟨by decide, by decide⟩
      have hI_41 := iw_41_0 (v := 1) hI_40 ⟨by decide, by decide⟩
      have hI_42 := iw_42 (j := 0) (v := y_39) hI_41 ⟨hy_39.1, hy_39.2⟩
      exact K (up (up (up c 41 0 0) 41 0 1) 42 0 y_39) 0 hI_42 (fun a j hm => (up_b (Decidable.or_iff_not_imp_left.mpr (fun h1 h2 => hm (Or.inr (Or.inl (Decidable.not_not.mp h1)))))).trans ((up_b (Decidable.or_iff_not_imp_left.mpr (fun h1 h2 => hm (Or.inl ⟨Decidable.not_not.mp h1, h2⟩)))).trans (up_b (Decidable.or_iff_not_imp_left.mpr (fun h1 h2 => hm (Or.inl ⟨Decidable.not_not.mp h1, h2⟩)))))) ⟨by decide, by decide⟩
    · refine v_ic_gt_f (t := 14) c_146_7 rfl ⟨ha1.1, (Int.not_lt.mp h_37), by first | exact rgm_h h_30.2 (by decide) | omega⟩ (q_iconst c_146_10 (q_goto (t := 15) c_146_11 rfl (v_zret c_146_15 rfl (by decide) (bk_inl (q_iconst c_212_9 (q_iconst c_212_10 (v_cv c_212_11 km_8_203 rfl rfl (nb_ rfl) ⟨⟨rfl, rfl⟩, nb_ rfl, rfl⟩ (nb_ rfl) (nb_ rfl) ?_)))))))
      refine q_iload_n c_145_0 rfl (v_if_ne_t (t := 26) c_145_1 rfl (by decide) (q_aload_n c_145_26 rfl (v_gi (z := 0) (v := 0) c_145_27 kf_8_3 rfl (nb_ rfl) rfl rfl (up_e rfl) (v_if_ne_f (t := 37) c_145_30 rfl (by decide) (q_iconst c_145_33 (q_goto (t := 38) c_145_34 rfl (v_zret c_145_38 rfl (by decide) ?_)))))))
      refine bk_inl (v_zret c_212_14 rfl (by decide) (bk_inl (v_if_ne_t (t := 19) c_250_14 rfl (by decide) (q_aload_n c_250_19 rfl ?_))))
      have hI_43 := iw_41_0 (v := 0) hI ⟨by decide, by decide⟩
      refine v_cv c_250_20 km_8_317 rfl rfl (nb_ rfl) ⟨⟨rfl, rfl⟩, nb_ rfl, rfl⟩ (nb_ rfl) (nb_ rfl) (s_186 hI_43 (fun c_44 hI_45 hF_46 => (bk_inl (q_iconst c_250_23 (q_istore_n c_250_24 (nb_ rfl) (q_iconst c_250_25 (q_istore_n c_250_26 (nb_ rfl) (Wp_ls [(0, .ref 41), (1, vi a1), (2, vi (-1)), (3, vi 0)] (lsub_cons rfl (lsub_cons rfl (lsub_cons rfl (lsub_cons rfl lsub_nil)))) ?_))))))))
      exact (s_250_l (sc := sc) (d := d) hI ha1 K 16) c_44 (-1) 0 hI_45 (fun a j hm => (hF_46 a j (fun h => hm (Or.inr (Or.inr h)))).trans (up_b (Decidable.or_iff_not_imp_left.mpr (fun h1 h2 => hm (Or.inl ⟨Decidable.not_not.mp h1, h2⟩))))) ⟨by decide, by decide⟩ ⟨by decide, by decide⟩ ⟨by first | exact q_720657ba9 h_31 | omega, by first | exact q_3a2e67ab0 h_30 h_37 | omega⟩ (by omega)

set_option maxRecDepth 100000 in
set_option maxHeartbeats 4000000 in
theorem s_251_l {sc : List Int32} {d P Q : Nat} {c : ME} {a1 : Int} {a2 : Int} {Z : AR → Prop} (hI : Iv 0 (-1) P Q c) (ha1 : (-2147483648) ≤ a1 ∧ a1 ≤ 2147483647) (ha2 : (-2147483648) ≤ a2 ∧ a2 ≤ 2147483647) (K : ∀ (c2 : ME) (y : Int), Iv 0 (-1) P Q c2 → (∀ (a : Nat) (j : Int), ¬ ((a = 41 ∧ j = 0) ∨ a = 42 ∨ a = 59) → c2 a j = c a j) → (-2147483648) ≤ y ∧ y ≤ 2147483647 → Z (.inl (some (vi y)), Wd P Q P P c2, 0, 0)) : ∀ n : Nat, (∀ (c2 : ME) (v3 : Int) (v4 : Int), Iv 0 (-1) P Q c2 → (∀ (a : Nat) (j : Int), ¬ ((a = 41 ∧ j = 0) ∨ a = 42 ∨ a = 59) → c2 a j = c a j) → (-2147483648) ≤ v3 ∧ v3 ≤ 2147483647 → 0 ≤ v4 ∧ v4 ≤ 6 → ((a1 ≥ 0 ∧ a1 ≤ 3)) → 13 - 2 * v4 < (n : Int) → Wp sc (d + 9) 251 43 [(0, .ref 41), (1, vi a1), (2, vi a2), (3, vi v3), (4, vi v4)] [] (Wd P Q P P c2) 0 0 Z) := by
  intro n
  induction n with
  | zero => exact (by intro c2 v3 v4 hI2 hF hv3 hv4 hx0 hm9; have hP := iv_P hI; have hQ := iv_Q hI; exfalso; omega)
  | succ n ih =>
    have hP := iv_P hI
    have hQ := iv_Q hI
    intro c2 v3 v4 hI2 hF hv3 hv4 hx0 hm9
    refine q_iload c_251_43 rfl (q_aload_n c_251_45 rfl ?_)
    have h_1 := ir_41_20 hI
    have kn_2 : Hid (c2 41 20 = c 41 20) := hF 41 20 qn_110b29ed6
    refine v_gi (z := 20) (v := c 41 20) c_251_46 kf_8_157 rfl (nb_ rfl) rfl rfl (hid kn_2) ?_
    by_cases h_3 : v4 ≥ c 41 20
    · refine v_ic_ge_t (t := 68) c_251_49 rfl ⟨by first | exact q_730ab5169 h_1 | omega, h_3, (Int.le_trans hv4.2 (by decide))⟩ (q_iload_n c_251_68 rfl ?_)
      by_cases h_4 : a2 ≠ 0
      · refine v_if_ne_t (t := 76) c_251_69 rfl ⟨h_4, ⟨ha2.1, ha2.2⟩, by decide, by decide⟩ (q_aload_n c_251_76 rfl (v_cv c_251_77 km_8_387 rfl rfl (nb_ rfl) ⟨⟨rfl, rfl⟩, nb_ rfl, rfl⟩ (nb_ rfl) (nb_ rfl) (s_203 hI2 (fun y_5 hy_5 => (bk_inl (q_iload_n c_251_80 rfl (v_isub (v := y_5 - v3) c_251_81 rfl (v_nrm (fun y_6 hy_6 => (q_iret c_251_82 rfl ?_))))))))))
        exact K c2 y_6 hI2 (fun a j hm => hF a j hm) hy_6
      · refine v_if_ne_f (t := 76) c_251_69 rfl (Decidable.not_not.mp h_4) (q_iload_n c_251_72 rfl (q_goto (t := 82) c_251_73 rfl (q_iret c_251_82 rfl ?_)))
        exact K c2 v3 hI2 (fun a j hm => hF a j hm) hv3
    · refine v_ic_ge_f (t := 68) c_251_49 rfl ⟨(Int.le_trans (by decide) hv4.1), (Int.not_le.mp h_3), by first | exact q_b289b7db2 h_1 | omega⟩ (q_iload_n c_251_52 rfl (q_aload_n c_251_53 rfl (q_iload_n c_251_54 rfl (q_iload c_251_55 rfl ?_))))
      have h_7 := ir_49 hI a1
      have kn_8 : Hid (c2 49 a1 = c 49 a1) := hF 49 a1 qn_556c7ab22
      have h_9 := ir_59 hI2 (a1 + 30)
      have h_10 := ir_59_g hI2 (j := 4 * v4) (by first | exact q_aa51b186e h_1 h_3 | omega)
      have h_11 := ir_59_g hI2 (j := 4 * v4 + 1) (by first | exact q_57851f9de h_1 h_3 | omega)
      have h_12 := ir_59_g hI2 (j := 4 * v4 + 2) (by first | exact q_7296e74e6 h_1 h_3 | omega)
      have h_13 := ir_59_g hI2 (j := 4 * v4 + 3) (by first | exact q_b15525c4c h_1 h_3 | omega)
      have h_14 := fal_rng (m := c 49 a1) (t := c2 59 (a1 + 30)) (g := 0) (x := c2 59 (4 * v4)) (by first | exact q_c6ed8760d h_10 | omega)
      have h_15 := fal_rng (m := c 49 a1) (t := c2 59 (a1 + 30)) (g := 1) (x := c2 59 (4 * v4 + 1)) (by first | exact q_c6ed8760d h_11 | omega)
      have h_16 := fal_rng (m := c 49 a1) (t := c2 59 (a1 + 30)) (g := 2) (x := c2 59 (4 * v4 + 2)) (by first | exact q_c6ed8760d h_12 | omega)
      have h_17 := fal_rng (m := c 49 a1) (t := c2 59 (a1 + 30)) (g := 3) (x := c2 59 (4 * v4 + 3)) (by first | exact q_c6ed8760d h_13 | omega)
      refine v_cv c_251_57 km_8_366 rfl rfl (nb_ rfl) ⟨⟨rfl, rfl⟩, nb_ rfl, rfl⟩ (nb_ rfl) (nb_ rfl) (s_190 (v1 := c 49 a1) (v2 := c2 59 (a1 + 30)) (v3 := c2 59 (4 * v4)) (v4 := c2 59 (4 * v4 + 1)) (v5 := c2 59 (4 * v4 + 2)) (v6 := c2 59 (4 * v4 + 3)) (r := (fal (c 49 a1) (c2 59 (a1 + 30)) 0 (c2 59 (4 * v4))) + (fal (c 49 a1) (c2 59 (a1 + 30)) 1 (c2 59 (4 * v4 + 1))) + (fal (c 49 a1) (c2 59 (a1 + 30)) 2 (c2 59 (4 * v4 + 2))) + (fal (c 49 a1) (c2 59 (a1 + 30)) 3 (c2 59 (4 * v4 + 3)))) (a1 := a1) (a2 := v4) hI2 (show 0 ≤ a1 ∧ a1 ≤ 3 from ⟨by omega, by omega⟩) (show 0 ≤ v4 ∧ v4 ≤ 5 from ⟨hv4.1, by first | exact q_d63a8538e h_1 h_3 | omega⟩) ((hid kn_8)) (rfl) (rfl) (rfl) (rfl) (rfl) rfl (bk_inl (v_iadd (v := (fal (c 49 a1) (c2 59 (a1 + 30)) 0 (c2 59 (4 * v4))) + (fal (c 49 a1) (c2 59 (a1 + 30)) 1 (c2 59 (4 * v4 + 1))) + (fal (c 49 a1) (c2 59 (a1 + 30)) 2 (c2 59 (4 * v4 + 2))) + (fal (c 49 a1) (c2 59 (a1 + 30)) 3 (c2 59 (4 * v4 + 3))) + v3) rfl (by first | exact q_8299135d3 | omega) (v_nrm (fun y_18 hy_18 => (q_istore_n c_251_61 (nb_ rfl) (v_iinc (v := v4 + 1) c_251_62 rfl (nb_ rfl) rfl (q_goto (t := 43) c_251_65 rfl (Wp_ls [(0, .ref 41), (1, vi a1), (2, vi a2), (3, vi y_18), (4, vi (v4 + 1))] (lsub_cons rfl (lsub_cons rfl (lsub_cons rfl (lsub_cons rfl (lsub_cons rfl lsub_nil))))) ?_)))))))))
      exact ih c2 y_18 (v4 + 1) hI2 (fun a j hm => hF a j hm) hy_18 ⟨by first | exact rgp_l hv4.1 (by decide) | omega, by first | exact q_4a76cd9c7 h_1 h_3 | omega⟩ ⟨by first | (clear ha1 ha2 hv3 hv4 h_1 h_3 h_7 h_9 h_10 h_11 h_12 h_13 h_14 h_15 h_16 h_17; omega) | omega, by first | (clear ha1 ha2 hv3 hv4 h_1 h_3 h_7 h_9 h_10 h_11 h_12 h_13 h_14 h_15 h_16 h_17; omega) | omega⟩ (by omega)
set_option maxRecDepth 100000 in
set_option maxHeartbeats 4000000 in
theorem s_251 {sc : List Int32} {d P Q : Nat} {c : ME} {a1 : Int} {a2 : Int} {Z : AR → Prop} (hI : Iv 0 (-1) P Q c) (ha1 : (-2147483648) ≤ a1 ∧ a1 ≤ 2147483647) (ha2 : (-2147483648) ≤ a2 ∧ a2 ≤ 2147483647) (K : ∀ (c2 : ME) (y : Int), Iv 0 (-1) P Q c2 → (∀ (a : Nat) (j : Int), ¬ ((a = 41 ∧ j = 0) ∨ a = 42 ∨ a = 59) → c2 a j = c a j) → (-2147483648) ≤ y ∧ y ≤ 2147483647 → Z (.inl (some (vi y)), Wd P Q P P c2, 0, 0)) : Wp sc (d + 9) 251 0 [(0, .ref 41), (1, vi a1), (2, vi a2)] [] (Wd P Q P P c) 0 0 Z := by
  have hP := iv_P hI
  have hQ := iv_Q hI
  refine q_aload_n c_251_0 rfl (q_iconst c_251_1 (v_pi (z := 0) c_251_2 kf_8_3 rfl (nb_ rfl) rfl rfl rfl (by decide) (q_aload_n c_251_5 rfl (q_iload_n c_251_6 rfl (q_aload_n c_251_7 rfl ?_)))))
  have h_19 := ir_41_22 hI
  refine v_gi (z := 22) (v := c 41 22) c_251_8 kf_8_163 rfl (nb_ rfl) rfl rfl (up_n (by decide)) (v_cv c_251_11 km_8_396 rfl rfl (nb_ rfl) ⟨⟨rfl, rfl⟩, nb_ rfl, rfl⟩ (nb_ rfl) (nb_ rfl) (q_aload_n c_212_0 rfl (q_iload_n c_212_1 rfl (q_iconst c_212_2 (q_iload_n c_212_3 rfl (q_iconst c_212_4 (v_isub (v := c 41 22 - 1) c_212_5 rfl ?_)))))))
  refine q_call c_212_6 rfl rfl rfl (q_iload_n c_146_0 rfl (q_iload_n c_146_1 rfl ?_))
  by_cases h_20 : a1 < 0
  · refine v_ic_lt_t (t := 14) c_146_2 rfl ⟨ha1.1, h_20, by decide⟩ (q_iconst c_146_14 (v_zret c_146_15 rfl (by decide) (bk_inl (q_iconst c_212_9 (q_iconst c_212_10 (v_cv c_212_11 km_8_203 rfl rfl (nb_ rfl) ⟨⟨rfl, rfl⟩, nb_ rfl, rfl⟩ (nb_ rfl) (nb_ rfl) (q_iload_n c_145_0 rfl ?_)))))))
    refine v_if_ne_f (t := 26) c_145_1 rfl (by decide) (q_aload_n c_145_4 rfl (v_gi (z := 0) (v := 0) c_145_5 kf_8_3 rfl (nb_ rfl) rfl rfl (up_e rfl) (v_if_ne_f (t := 26) c_145_8 rfl (by decide) (q_aload_n c_145_11 rfl (q_iload_n c_145_12 rfl (v_pi (z := 0) c_145_13 kf_8_3 rfl (nb_ rfl) rfl rfl rfl (by decide) (q_aload_n c_145_16 rfl ?_)))))))
    refine v_gr (t := 42) c_145_17 kf_8_7 rfl (nb_ rfl) rfl (q_iload_n c_145_20 rfl (q_dup2 c_145_21 ⟨rfl, rfl⟩ ?_))
    have h_21 := ir_42 hI 0
    refine v_ia (v := c 42 0) c_145_22 rfl (by decide) (by decide) (by decide) ((up_c (nn rfl)).trans (up_c (nn rfl))) (q_iconst c_145_23 (v_iadd (v := c 42 0 + 1) c_145_24 rfl (v_nrm (fun y_22 hy_22 => (v_is c_145_25 rfl (by decide) (by decide) (by decide) (q_aload_n c_145_26 rfl (v_gi (z := 0) (v := 1) c_145_27 kf_8_3 rfl (nb_ rfl) rfl rfl ((up_c (nn rfl)).trans (up_e rfl)) (v_if_ne_t (t := 37) c_145_30 rfl (by decide) ?_))))))))
    refine q_iconst c_145_37 (v_zret c_145_38 rfl (by decide) (bk_inl (v_zret c_212_14 rfl (by decide) (bk_inl (v_if_eq_t (t := 32) c_251_14 rfl (by decide) (q_iconst c_251_32 (q_iret c_251_33 rfl ?_)))))))
    have hI_23 := iw_41_0 (v := 0) hI ⟨by decide, by decide⟩
    have hI_24 := iw_41_0 (v := 1) hI_23 ⟨by decide, by decide⟩
    have hI_25 := iw_42 (j := 0) (v := y_22) hI_24 ⟨hy_22.1, hy_22.2⟩
    exact K (up (up (up c 41 0 0) 41 0 1) 42 0 y_22) 0 hI_25 (fun a j hm => (up_b (Decidable.or_iff_not_imp_left.mpr (fun h1 h2 => hm (Or.inr (Or.inl (Decidable.not_not.mp h1)))))).trans ((up_b (Decidable.or_iff_not_imp_left.mpr (fun h1 h2 => hm (Or.inl ⟨Decidable.not_not.mp h1, h2⟩)))).trans (up_b (Decidable.or_iff_not_imp_left.mpr (fun h1 h2 => hm (Or.inl ⟨Decidable.not_not.mp h1, h2⟩)))))) ⟨by decide, by decide⟩
  · refine v_ic_lt_f (t := 14) c_146_2 rfl ⟨by decide, (Int.not_lt.mp h_20), ha1.2⟩ (q_iload_n c_146_5 rfl (q_iload_n c_146_6 rfl ?_))
    by_cases h_26 : a1 > c 41 22 - 1
    · refine v_ic_gt_t (t := 14) c_146_7 rfl ⟨by first | exact rgm_l h_19.1 (by decide) | omega, h_26, ha1.2⟩ (q_iconst c_146_14 (v_zret c_146_15 rfl (by decide) (bk_inl (q_iconst c_212_9 (q_iconst c_212_10 (v_cv c_212_11 km_8_203 rfl rfl (nb_ rfl) ⟨⟨rfl, rfl⟩, nb_ rfl, rfl⟩ (nb_ rfl) (nb_ rfl) (q_iload_n c_145_0 rfl ?_)))))))
      refine v_if_ne_f (t := 26) c_145_1 rfl (by decide) (q_aload_n c_145_4 rfl (v_gi (z := 0) (v := 0) c_145_5 kf_8_3 rfl (nb_ rfl) rfl rfl (up_e rfl) (v_if_ne_f (t := 26) c_145_8 rfl (by decide) (q_aload_n c_145_11 rfl (q_iload_n c_145_12 rfl (v_pi (z := 0) c_145_13 kf_8_3 rfl (nb_ rfl) rfl rfl rfl (by decide) (q_aload_n c_145_16 rfl ?_)))))))
      refine v_gr (t := 42) c_145_17 kf_8_7 rfl (nb_ rfl) rfl (q_iload_n c_145_20 rfl (q_dup2 c_145_21 ⟨rfl, rfl⟩ ?_))
      have h_27 := ir_42 hI 0
      refine v_ia (v := c 42 0) c_145_22 rfl (by decide) (by decide) (by decide) ((up_c (nn rfl)).trans (up_c (nn rfl))) (q_iconst c_145_23 (v_iadd (v := c 42 0 + 1) c_145_24 rfl (v_nrm (fun y_28 hy_28 => (v_is c_145_25 rfl (by decide) (by decide) (by decide) (q_aload_n c_145_26 rfl (v_gi (z := 0) (v := 1) c_145_27 kf_8_3 rfl (nb_ rfl) rfl rfl ((up_c (nn rfl)).trans (up_e rfl)) (v_if_ne_t (t := 37) c_145_30 rfl (by decide) ?_))))))))
      refine q_iconst c_145_37 (v_zret c_145_38 rfl (by decide) (bk_inl (v_zret c_212_14 rfl (by decide) (bk_inl (v_if_eq_t (t := 32) c_251_14 rfl (by decide) (q_iconst c_251_32 (q_iret c_251_33 rfl ?_)))))))
      have hI_29 := iw_41_0 (v := 0) hI ⟨by decide, by decide⟩
      have hI_30 := iw_41_0 (v := 1) hI_29 ⟨by decide, by decide⟩
      have hI_31 := iw_42 (j := 0) (v := y_28) hI_30 ⟨hy_28.1, hy_28.2⟩
      exact K (up (up (up c 41 0 0) 41 0 1) 42 0 y_28) 0 hI_31 (fun a j hm => (up_b (Decidable.or_iff_not_imp_left.mpr (fun h1 h2 => hm (Or.inr (Or.inl (Decidable.not_not.mp h1)))))).trans ((up_b (Decidable.or_iff_not_imp_left.mpr (fun h1 h2 => hm (Or.inl ⟨Decidable.not_not.mp h1, h2⟩)))).trans (up_b (Decidable.or_iff_not_imp_left.mpr (fun h1 h2 => hm (Or.inl ⟨Decidable.not_not.mp h1, h2⟩)))))) ⟨by decide, by decide⟩
    · refine v_ic_gt_f (t := 14) c_146_7 rfl ⟨ha1.1, (Int.not_lt.mp h_26), by first | exact rgm_h h_19.2 (by decide) | omega⟩ (q_iconst c_146_10 (q_goto (t := 15) c_146_11 rfl (v_zret c_146_15 rfl (by decide) (bk_inl (q_iconst c_212_9 (q_iconst c_212_10 (v_cv c_212_11 km_8_203 rfl rfl (nb_ rfl) ⟨⟨rfl, rfl⟩, nb_ rfl, rfl⟩ (nb_ rfl) (nb_ rfl) ?_)))))))
      refine q_iload_n c_145_0 rfl (v_if_ne_t (t := 26) c_145_1 rfl (by decide) (q_aload_n c_145_26 rfl (v_gi (z := 0) (v := 0) c_145_27 kf_8_3 rfl (nb_ rfl) rfl rfl (up_e rfl) (v_if_ne_f (t := 37) c_145_30 rfl (by decide) (q_iconst c_145_33 (q_goto (t := 38) c_145_34 rfl (v_zret c_145_38 rfl (by decide) ?_)))))))
      refine bk_inl (v_zret c_212_14 rfl (by decide) (bk_inl (v_if_eq_f (t := 32) c_251_14 rfl (by decide) (q_aload_n c_251_17 rfl (q_iload_n c_251_18 rfl (q_iconst c_251_19 (q_iconst c_251_20 ?_)))))))
      refine q_call c_251_21 rfl rfl rfl (q_iload_n c_146_0 rfl (q_iload_n c_146_1 rfl ?_))
      by_cases h_32 : a2 < 0
      · refine v_ic_lt_t (t := 14) c_146_2 rfl ⟨ha2.1, h_32, by decide⟩ (q_iconst c_146_14 (v_zret c_146_15 rfl (by decide) (bk_inl (q_iconst c_251_24 (q_iconst c_251_25 (v_cv c_251_26 km_8_203 rfl rfl (nb_ rfl) ⟨⟨rfl, rfl⟩, nb_ rfl, rfl⟩ (nb_ rfl) (nb_ rfl) (q_iload_n c_145_0 rfl ?_)))))))
        refine v_if_ne_f (t := 26) c_145_1 rfl (by decide) (q_aload_n c_145_4 rfl (v_gi (z := 0) (v := 0) c_145_5 kf_8_3 rfl (nb_ rfl) rfl rfl (up_e rfl) (v_if_ne_f (t := 26) c_145_8 rfl (by decide) (q_aload_n c_145_11 rfl (q_iload_n c_145_12 rfl (v_pi (z := 0) c_145_13 kf_8_3 rfl (nb_ rfl) rfl rfl rfl (by decide) (q_aload_n c_145_16 rfl ?_)))))))
        refine v_gr (t := 42) c_145_17 kf_8_7 rfl (nb_ rfl) rfl (q_iload_n c_145_20 rfl (q_dup2 c_145_21 ⟨rfl, rfl⟩ ?_))
        have h_33 := ir_42 hI 1
        refine v_ia (v := c 42 1) c_145_22 rfl (by decide) (by decide) (by decide) ((up_c (nn rfl)).trans (up_c (nn rfl))) (q_iconst c_145_23 (v_iadd (v := c 42 1 + 1) c_145_24 rfl (v_nrm (fun y_34 hy_34 => (v_is c_145_25 rfl (by decide) (by decide) (by decide) (q_aload_n c_145_26 rfl (v_gi (z := 0) (v := 2) c_145_27 kf_8_3 rfl (nb_ rfl) rfl rfl ((up_c (nn rfl)).trans (up_e rfl)) (v_if_ne_t (t := 37) c_145_30 rfl (by decide) ?_))))))))
        refine q_iconst c_145_37 (v_zret c_145_38 rfl (by decide) (bk_inl (v_if_ne_f (t := 34) c_251_29 rfl (by decide) (q_iconst c_251_32 (q_iret c_251_33 rfl ?_)))))
        have hI_35 := iw_41_0 (v := 0) hI ⟨by decide, by decide⟩
        have hI_36 := iw_41_0 (v := 2) hI_35 ⟨by decide, by decide⟩
        have hI_37 := iw_42 (j := 1) (v := y_34) hI_36 ⟨hy_34.1, hy_34.2⟩
        exact K (up (up (up c 41 0 0) 41 0 2) 42 1 y_34) 0 hI_37 (fun a j hm => (up_b (Decidable.or_iff_not_imp_left.mpr (fun h1 h2 => hm (Or.inr (Or.inl (Decidable.not_not.mp h1)))))).trans ((up_b (Decidable.or_iff_not_imp_left.mpr (fun h1 h2 => hm (Or.inl ⟨Decidable.not_not.mp h1, h2⟩)))).trans (up_b (Decidable.or_iff_not_imp_left.mpr (fun h1 h2 => hm (Or.inl ⟨Decidable.not_not.mp h1, h2⟩)))))) ⟨by decide, by decide⟩
      · refine v_ic_lt_f (t := 14) c_146_2 rfl ⟨by decide, (Int.not_lt.mp h_32), ha2.2⟩ (q_iload_n c_146_5 rfl (q_iload_n c_146_6 rfl ?_))
        by_cases h_38 : a2 > 1
        · refine v_ic_gt_t (t := 14) c_146_7 rfl ⟨by decide, h_38, ha2.2⟩ (q_iconst c_146_14 (v_zret c_146_15 rfl (by decide) (bk_inl (q_iconst c_251_24 (q_iconst c_251_25 (v_cv c_251_26 km_8_203 rfl rfl (nb_ rfl) ⟨⟨rfl, rfl⟩, nb_ rfl, rfl⟩ (nb_ rfl) (nb_ rfl) (q_iload_n c_145_0 rfl ?_)))))))
          refine v_if_ne_f (t := 26) c_145_1 rfl (by decide) (q_aload_n c_145_4 rfl (v_gi (z := 0) (v := 0) c_145_5 kf_8_3 rfl (nb_ rfl) rfl rfl (up_e rfl) (v_if_ne_f (t := 26) c_145_8 rfl (by decide) (q_aload_n c_145_11 rfl (q_iload_n c_145_12 rfl (v_pi (z := 0) c_145_13 kf_8_3 rfl (nb_ rfl) rfl rfl rfl (by decide) (q_aload_n c_145_16 rfl ?_)))))))
          refine v_gr (t := 42) c_145_17 kf_8_7 rfl (nb_ rfl) rfl (q_iload_n c_145_20 rfl (q_dup2 c_145_21 ⟨rfl, rfl⟩ ?_))
          have h_39 := ir_42 hI 1
          refine v_ia (v := c 42 1) c_145_22 rfl (by decide) (by decide) (by decide) ((up_c (nn rfl)).trans (up_c (nn rfl))) (q_iconst c_145_23 (v_iadd (v := c 42 1 + 1) c_145_24 rfl (v_nrm (fun y_40 hy_40 => (v_is c_145_25 rfl (by decide) (by decide) (by decide) (q_aload_n c_145_26 rfl (v_gi (z := 0) (v := 2) c_145_27 kf_8_3 rfl (nb_ rfl) rfl rfl ((up_c (nn rfl)).trans (up_e rfl)) (v_if_ne_t (t := 37) c_145_30 rfl (by decide) ?_))))))))
          refine q_iconst c_145_37 (v_zret c_145_38 rfl (by decide) (bk_inl (v_if_ne_f (t := 34) c_251_29 rfl (by decide) (q_iconst c_251_32 (q_iret c_251_33 rfl ?_)))))
          have hI_41 := iw_41_0 (v := 0) hI ⟨by decide, by decide⟩
          have hI_42 := iw_41_0 (v := 2) hI_41 ⟨by decide, by decide⟩
          have hI_43 := iw_42 (j := 1) (v := y_40) hI_42 ⟨hy_40.1, hy_40.2⟩
          exact K (up (up (up c 41 0 0) 41 0 2) 42 1 y_40) 0 hI_43 (fun a j hm => (up_b (Decidable.or_iff_not_imp_left.mpr (fun h1 h2 => hm (Or.inr (Or.inl (Decidable.not_not.mp h1)))))).trans ((up_b (Decidable.or_iff_not_imp_left.mpr (fun h1 h2 => hm (Or.inl ⟨Decidable.not_not.mp h1, h2⟩)))).trans (up_b (Decidable.or_iff_not_imp_left.mpr (fun h1 h2 => hm (Or.inl ⟨Decidable.not_not.mp h1, h2⟩)))))) ⟨by decide, by decide⟩
        · refine v_ic_gt_f (t := 14) c_146_7 rfl ⟨ha2.1, (Int.not_lt.mp h_38), by decide⟩ (q_iconst c_146_10 (q_goto (t := 15) c_146_11 rfl (v_zret c_146_15 rfl (by decide) (bk_inl (q_iconst c_251_24 (q_iconst c_251_25 (v_cv c_251_26 km_8_203 rfl rfl (nb_ rfl) ⟨⟨rfl, rfl⟩, nb_ rfl, rfl⟩ (nb_ rfl) (nb_ rfl) ?_)))))))
          refine q_iload_n c_145_0 rfl (v_if_ne_t (t := 26) c_145_1 rfl (by decide) (q_aload_n c_145_26 rfl (v_gi (z := 0) (v := 0) c_145_27 kf_8_3 rfl (nb_ rfl) rfl rfl (up_e rfl) (v_if_ne_f (t := 37) c_145_30 rfl (by decide) (q_iconst c_145_33 (q_goto (t := 38) c_145_34 rfl (v_zret c_145_38 rfl (by decide) ?_)))))))
          refine bk_inl (v_if_ne_t (t := 34) c_251_29 rfl (by decide) (q_aload_n c_251_34 rfl ?_))
          have hI_44 := iw_41_0 (v := 0) hI ⟨by decide, by decide⟩
          refine v_cv c_251_35 km_8_317 rfl rfl (nb_ rfl) ⟨⟨rfl, rfl⟩, nb_ rfl, rfl⟩ (nb_ rfl) (nb_ rfl) (s_186 hI_44 (fun c_45 hI_46 hF_47 => (bk_inl (q_iconst c_251_38 (q_istore_n c_251_39 (nb_ rfl) (q_iconst c_251_40 (q_istore c_251_41 (nb_ rfl) (Wp_ls [(0, .ref 41), (1, vi a1), (2, vi a2), (3, vi 0), (4, vi 0)] (lsub_cons rfl (lsub_cons rfl (lsub_cons rfl (lsub_cons rfl (lsub_cons rfl lsub_nil))))) ?_))))))))
          exact (s_251_l (sc := sc) (d := d) hI ha1 ha2 K 16) c_45 0 0 hI_46 (fun a j hm => (hF_47 a j (fun h => hm (Or.inr (Or.inr h)))).trans (up_b (Decidable.or_iff_not_imp_left.mpr (fun h1 h2 => hm (Or.inl ⟨Decidable.not_not.mp h1, h2⟩))))) ⟨by decide, by decide⟩ ⟨by decide, by decide⟩ ⟨by first | exact q_720657ba9 h_20 | omega, by first | exact q_1b5e4f74b h_19 h_26 | omega⟩ (by omega)

set_option maxRecDepth 100000 in
set_option maxHeartbeats 4000000 in
theorem s_252 {sc : List Int32} {e : Int} {d u P Q : Nat} {c : ME} {a1 : Int} {Z : AR → Prop} (hI : Iv u e P Q c) (ha1 : 1 ≤ a1 ∧ a1 ≤ 16) (K : ∀ (c2 : ME) (y : Int), Iv u e P Q c2 → (∀ (a : Nat) (j : Int), ¬ ((a = 41 ∧ j = 50)) → c2 a j = c a j) → 0 ≤ y ∧ y ≤ 15 → ((y < a1)) → Z (.inl (some (vi y)), Wd P Q P P c2, 0, 0)) : Wp sc (d + 7) 252 0 [(0, .ref 41), (1, vi a1)] [] (Wd P Q P P c) 0 0 Z := by
  have hP := iv_P hI
  have hQ := iv_Q hI
  refine q_aload_n c_252_0 rfl (q_aload_n c_252_1 rfl ?_)
  have h_1 := ir_41_50 hI
  refine v_gi (z := 50) (v := c 41 50) c_252_2 kf_8_438 rfl (nb_ rfl) rfl rfl rfl (v_ldcw (n := 1103515245) c_252_5 rfl (by decide +kernel) (v_imul (v := 1103515245 * c 41 50) c_252_8 (by first | exact q_95b8887df | omega) (v_nrm (fun y_2 hy_2 => (v_sip c_252_9 (by decide) (v_iadd (v := y_2 + 12345) c_252_12 rfl (v_nrm (fun y_3 hy_3 => (v_pi (z := 50) c_252_13 kf_8_438 rfl (nb_ rfl) rfl rfl rfl (by decide) ?_)))))))))
  refine q_aload_n c_252_16 rfl (v_gi (z := 50) (v := y_3) c_252_17 kf_8_438 rfl (nb_ rfl) rfl rfl (up_e rfl) (v_bip c_252_20 (by decide) (v_ishr (m := 65536) (v := (y_3 / 65536)) 16 c_252_22 (by omega) rfl (by decide) (by decide) rfl (v_sip c_252_23 (by decide) (v_and15 (v := ((y_3 / 65536) % 32768)) c_252_26 rfl (q_iload_n c_252_27 rfl ?_))))))
  have h_4 : 0 ≤ (((y_3 / 65536) % 32768) % a1) ∧ (((y_3 / 65536) % 32768) % a1) < a1 := rem_bd (by omega)
  refine v_irem (v := (((y_3 / 65536) % 32768) % a1)) rfl (by omega) rfl (q_iret c_252_29 rfl ?_)
  have hI_5 := iw_41_50 (v := y_3) hI ⟨hy_3.1, hy_3.2⟩
  exact K (up c 41 50 y_3) (((y_3 / 65536) % 32768) % a1) hI_5 (fun a j hm => up_b (Decidable.or_iff_not_imp_left.mpr (fun h1 h2 => hm ⟨Decidable.not_not.mp h1, h2⟩))) ⟨by first | exact q_c4fec1d75 h_4 | omega, by first | exact q_3c66af975 h_4 ha1 | omega⟩ (by first | exact q_84496e02d h_4 | omega)
end
section
/-! ===== contracts 24 ===== -/
theorem qn_0be1a1bbc : ¬ (((41 : Nat) = 41 ∧ (20 : Int) = 50) ∨ (41 : Nat) = 59 ∨ (41 : Nat) = 54 ∨ (41 : Nat) = 55) := (fun q => q.elim (fun h => absurd h.2 (ni rfl)) (fun q => q.elim (fun h => absurd h (nn rfl)) (fun q => q.elim (fun h => absurd h (nn rfl)) (fun h => absurd h (nn rfl)))))
theorem q_cfa352df8 {x0 : Int} (f0 : x0 ≤ 0) : x0 ≤ 2 := by omega
theorem qn_dcdf02b5e : ¬ (((41 : Nat) = 41 ∧ (21 : Int) = 50) ∨ (41 : Nat) = 59 ∨ (41 : Nat) = 54 ∨ (41 : Nat) = 55) := (fun q => q.elim (fun h => absurd h.2 (ni rfl)) (fun q => q.elim (fun h => absurd h (nn rfl)) (fun q => q.elim (fun h => absurd h (nn rfl)) (fun h => absurd h (nn rfl)))))
theorem q_bd5201688 {x0 : Int} (f0 : ¬ (x0 ≤ 0)) : (-2147483648) ≤ x0 := by omega
theorem q_5fabd302d {x0 : Int} (f0 : x0 ≤ 2) : x0 ≤ 2147483647 := by omega
theorem q_a85af2722 {x0 : Int} (f0 : x0 ≤ 2) : x0 ≤ 16 := by omega
theorem q_e26e310f0 {x0 x1 : Int} (f0 : x0 ≤ 2) (f1 : (x1 < x0)) : x1 ≤ 5 := by omega
theorem qv_cbc630ed4 {a : Nat} {j : Int} (hm : ¬ ((a = 41 ∧ j = 50) ∨ a = 59 ∨ a = 54 ∨ a = 55)) : ¬ (a = 59 ∨ a = 54 ∨ a = 55) := (fun q => q.elim (fun h => hm (Or.inr (Or.inl h))) (fun q => q.elim (fun h => hm (Or.inr (Or.inr (Or.inl h)))) (fun h => hm (Or.inr (Or.inr (Or.inr h))))))
theorem qn_fa1e0067f : ¬ (((41 : Nat) = 41 ∧ (22 : Int) = 50) ∨ (41 : Nat) = 59 ∨ (41 : Nat) = 54 ∨ (41 : Nat) = 55) := (fun q => q.elim (fun h => absurd h.2 (ni rfl)) (fun q => q.elim (fun h => absurd h (nn rfl)) (fun q => q.elim (fun h => absurd h (nn rfl)) (fun h => absurd h (nn rfl)))))
theorem q_7e5049a7f {x0 : Int} (f0 : ¬ (x0 ≤ 2)) : 0 < x0 := by omega
theorem q_54b3f207f {x0 : Int} (f0 : ¬ (x0 ≤ 2)) : 1 ≤ x0 := by omega
theorem q_25bfec670 {x0 : Int} (f0 : 0 ≤ x0 ∧ x0 ≤ 6) : x0 ≤ 16 := by omega
theorem q_eb82f921a {x0 x1 : Int} (f0 : 0 ≤ x0 ∧ x0 ≤ 6) (f1 : (x1 < x0)) : x1 ≤ 5 := by omega
theorem q_69fe74b6d {x0 : Int} (f0 : 0 ≤ x0 ∧ x0 ≤ 4) : x0 ≤ 16 := by omega
theorem q_0ca5d8218 {x0 x1 : Int} (f0 : 0 ≤ x0 ∧ x0 ≤ 4) (f1 : (x1 < x0)) : x1 ≤ 3 := by omega
theorem qv_3730a4f02 {a : Nat} {j : Int} (hm : ¬ ((a = 41 ∧ j = 0) ∨ a = 42 ∨ (a = 41 ∧ j = 50) ∨ a = 59 ∨ a = 54 ∨ a = 55)) : ¬ ((a = 41 ∧ j = 50) ∨ a = 59 ∨ a = 54 ∨ a = 55) := (fun q => q.elim (fun h => hm (Or.inr (Or.inr (Or.inl h)))) (fun q => q.elim (fun h => hm (Or.inr (Or.inr (Or.inr (Or.inl h))))) (fun q => q.elim (fun h => hm (Or.inr (Or.inr (Or.inr (Or.inr (Or.inl h)))))) (fun h => hm (Or.inr (Or.inr (Or.inr (Or.inr (Or.inr h)))))))))
theorem qn_11637025e {j : Int} : ¬ (((58 : Nat) = 41 ∧ j = 50) ∨ (58 : Nat) = 59 ∨ (58 : Nat) = 54 ∨ (58 : Nat) = 55) := (fun q => q.elim (fun h => absurd h.1 (nn rfl)) (fun q => q.elim (fun h => absurd h (nn rfl)) (fun q => q.elim (fun h => absurd h (nn rfl)) (fun h => absurd h (nn rfl)))))
theorem qn_8e56cb93c {j : Int} : ¬ (((58 : Nat) = 41 ∧ j = 0) ∨ (58 : Nat) = 42 ∨ ((58 : Nat) = 41 ∧ j = 50) ∨ (58 : Nat) = 59 ∨ (58 : Nat) = 54 ∨ (58 : Nat) = 55) := (fun q => q.elim (fun h => absurd h.1 (nn rfl)) (fun q => q.elim (fun h => absurd h (nn rfl)) (fun q => q.elim (fun h => absurd h.1 (nn rfl)) (fun q => q.elim (fun h => absurd h (nn rfl)) (fun q => q.elim (fun h => absurd h (nn rfl)) (fun h => absurd h (nn rfl)))))))
theorem q_b7e6363b0 {x0 : Int} : 630 * (x0) = 630 * x0 := by omega
theorem q_2013bec62 {x0 : Int} (f0 : 0 ≤ x0 ∧ x0 ≤ 3) : 0 ≤ 630 * x0 + 629 := by omega
theorem q_d7ceb4844 {x0 : Int} (f0 : 0 ≤ x0 ∧ x0 ≤ 3) (f1 : x0 ≠ 3) : 630 * x0 + 629 < 1890 := by omega
theorem q_7ecd0bf1e {x0 : Int} (f0 : 0 ≤ x0 ∧ x0 ≤ 3) (f1 : x0 ≠ 3) : x0 + 1 ≤ 3 := by omega
theorem q_f6b57ae70 {x0 : Int} : 630 * (x0 - 1) = 630 * x0 - 630 := by omega
theorem q_e68c9ca42 {x0 : Int} (f0 : 0 ≤ x0 ∧ x0 ≤ 3) (f1 : x0 ≠ 0) : 0 ≤ 630 * x0 - 1 := by omega
theorem q_7688c24dd {x0 : Int} (f0 : 0 ≤ x0 ∧ x0 ≤ 3) : 630 * x0 - 1 < 1890 := by omega
theorem q_69cb20f07 {x0 : Int} (f0 : 0 ≤ x0 ∧ x0 ≤ 3) (f1 : x0 ≠ 0) : 0 ≤ x0 - 1 := by omega
theorem q_c01d181a1 {x0 : Int} (f0 : 0 ≤ x0 ∧ x0 ≤ 16) : 0 ≤ x0 := by omega
theorem q_47a1838e7 {x0 : Int} (f0 : 0 ≤ x0 ∧ x0 ≤ 16) : x0 ≤ 16 := by omega
theorem q_f99bab66d {x0 : Int} (f0 : ¬ (x0 > 1)) : x0 < 2 := by omega
theorem c_253_12 : mLk 253 12 = some (.iload 4, 2) := rfl
theorem c_253_14 : mLk 253 14 = some (.iload_n 3, 1) := rfl
theorem c_253_15 : mLk 253 15 = some (.if_icmp .ge 144, 3) := rfl
theorem c_253_18 : mLk 253 18 = some (.aload_n 0, 1) := rfl
theorem c_253_19 : mLk 253 19 = some (.getfield 157, 3) := rfl
theorem c_253_22 : mLk 253 22 = some (.ifCond .le 35, 3) := rfl
theorem c_253_57 : mLk 253 57 = some (.aload_n 0, 1) := rfl
theorem c_253_58 : mLk 253 58 = some (.getfield 157, 3) := rfl
theorem c_253_61 : mLk 253 61 = some (.iconst 2, 1) := rfl
theorem c_253_62 : mLk 253 62 = some (.if_icmp .le 67, 3) := rfl
theorem c_253_129 : mLk 253 129 = some (.aload_n 0, 1) := rfl
theorem c_253_130 : mLk 253 130 = some (.getfield 157, 3) := rfl
theorem c_253_133 : mLk 253 133 = some (.ifCond .le 16, 3) := rfl
theorem c_253_149 : mLk 253 149 = some (.aload_n 0, 1) := rfl
theorem c_253_150 : mLk 253 150 = some (.invokevirtual 353, 3) := rfl
theorem c_253_153 : mLk 253 153 = some (.iinc 4 1, 3) := rfl
theorem c_253_156 : mLk 253 156 = some (.goto (-144), 3) := rfl
theorem c_253_25 : mLk 253 25 = some (.aload_n 0, 1) := rfl
theorem c_253_26 : mLk 253 26 = some (.getfield 160, 3) := rfl
theorem c_253_29 : mLk 253 29 = some (.ifCond .le 28, 3) := rfl
theorem c_253_136 : mLk 253 136 = some (.aload_n 0, 1) := rfl
theorem c_253_137 : mLk 253 137 = some (.aload_n 0, 1) := rfl
theorem c_253_138 : mLk 253 138 = some (.aload_n 0, 1) := rfl
theorem c_253_139 : mLk 253 139 = some (.getfield 157, 3) := rfl
theorem c_253_142 : mLk 253 142 = some (.invokevirtual 442, 3) := rfl
theorem c_253_145 : mLk 253 145 = some (.invokevirtual 350, 3) := rfl
theorem c_253_148 : mLk 253 148 = some (.pop, 1) := rfl
theorem c_253_65 : mLk 253 65 = some (.aload_n 0, 1) := rfl
theorem c_253_66 : mLk 253 66 = some (.getfield 163, 3) := rfl
theorem c_253_69 : mLk 253 69 = some (.ifCond .le 60, 3) := rfl
theorem c_253_72 : mLk 253 72 = some (.aload_n 0, 1) := rfl
theorem c_253_73 : mLk 253 73 = some (.aload_n 0, 1) := rfl
theorem c_253_74 : mLk 253 74 = some (.getfield 163, 3) := rfl
theorem c_253_77 : mLk 253 77 = some (.invokevirtual 442, 3) := rfl
theorem c_253_80 : mLk 253 80 = some (.istore 5, 2) := rfl
theorem c_253_82 : mLk 253 82 = some (.aload_n 0, 1) := rfl
theorem c_253_83 : mLk 253 83 = some (.aload_n 0, 1) := rfl
theorem c_253_84 : mLk 253 84 = some (.getfield 157, 3) := rfl
theorem c_253_87 : mLk 253 87 = some (.invokevirtual 442, 3) := rfl
theorem c_253_90 : mLk 253 90 = some (.istore 6, 2) := rfl
theorem c_253_92 : mLk 253 92 = some (.aload_n 0, 1) := rfl
theorem c_253_93 : mLk 253 93 = some (.bipush 16, 2) := rfl
theorem c_253_95 : mLk 253 95 = some (.invokevirtual 442, 3) := rfl
theorem c_253_98 : mLk 253 98 = some (.iload_n 2, 1) := rfl
theorem c_253_99 : mLk 253 99 = some (.if_icmp .ge 30, 3) := rfl
theorem c_253_102 : mLk 253 102 = some (.aload_n 0, 1) := rfl
theorem c_253_103 : mLk 253 103 = some (.iload 5, 2) := rfl
theorem c_253_105 : mLk 253 105 = some (.iload 6, 2) := rfl
theorem c_253_107 : mLk 253 107 = some (.iload 6, 2) := rfl
theorem c_253_109 : mLk 253 109 = some (.iconst 1, 1) := rfl
theorem c_253_110 : mLk 253 110 = some (.iadd, 1) := rfl
theorem c_253_111 : mLk 253 111 = some (.aload_n 0, 1) := rfl
theorem c_253_112 : mLk 253 112 = some (.getfield 157, 3) := rfl
theorem c_253_115 : mLk 253 115 = some (.irem, 1) := rfl
theorem c_253_116 : mLk 253 116 = some (.iload 6, 2) := rfl
theorem c_253_118 : mLk 253 118 = some (.iconst 2, 1) := rfl
theorem c_253_119 : mLk 253 119 = some (.iadd, 1) := rfl
theorem c_253_120 : mLk 253 120 = some (.aload_n 0, 1) := rfl
theorem c_253_121 : mLk 253 121 = some (.getfield 157, 3) := rfl
theorem c_253_124 : mLk 253 124 = some (.irem, 1) := rfl
theorem c_253_125 : mLk 253 125 = some (.invokevirtual 339, 3) := rfl
theorem c_253_128 : mLk 253 128 = some (.pop, 1) := rfl
theorem c_253_32 : mLk 253 32 = some (.aload_n 0, 1) := rfl
theorem c_253_33 : mLk 253 33 = some (.aload_n 0, 1) := rfl
theorem c_253_34 : mLk 253 34 = some (.getfield 160, 3) := rfl
theorem c_253_37 : mLk 253 37 = some (.invokevirtual 442, 3) := rfl
theorem c_253_40 : mLk 253 40 = some (.istore 5, 2) := rfl
theorem c_253_42 : mLk 253 42 = some (.aload_n 0, 1) := rfl
theorem c_253_43 : mLk 253 43 = some (.iload 5, 2) := rfl
theorem c_253_45 : mLk 253 45 = some (.aload_n 0, 1) := rfl
theorem c_253_46 : mLk 253 46 = some (.aload_n 0, 1) := rfl
theorem c_253_47 : mLk 253 47 = some (.getfield 157, 3) := rfl
theorem c_253_50 : mLk 253 50 = some (.invokevirtual 442, 3) := rfl
theorem c_253_53 : mLk 253 53 = some (.invokevirtual 335, 3) := rfl
theorem c_253_56 : mLk 253 56 = some (.pop, 1) := rfl
theorem c_253_0 : mLk 253 0 = some (.aload_n 0, 1) := rfl
theorem c_253_1 : mLk 253 1 = some (.invokevirtual 317, 3) := rfl
theorem c_253_4 : mLk 253 4 = some (.aload_n 0, 1) := rfl
theorem c_253_5 : mLk 253 5 = some (.iload_n 1, 1) := rfl
theorem c_253_6 : mLk 253 6 = some (.putfield 438, 3) := rfl
theorem c_253_9 : mLk 253 9 = some (.iconst 0, 1) := rfl
theorem c_253_10 : mLk 253 10 = some (.istore 4, 2) := rfl
theorem c_255_0 : mLk 255 0 = some (.aload_n 0, 1) := rfl
theorem c_255_1 : mLk 255 1 = some (.iconst 0, 1) := rfl
theorem c_255_2 : mLk 255 2 = some (.putfield 3, 3) := rfl
theorem c_255_5 : mLk 255 5 = some (.aload_n 0, 1) := rfl
theorem c_255_6 : mLk 255 6 = some (.iload_n 2, 1) := rfl
theorem c_255_7 : mLk 255 7 = some (.iload_n 3, 1) := rfl
theorem c_255_8 : mLk 255 8 = some (.invokestatic 445, 3) := rfl
theorem c_254_0 : mLk 254 0 = some (.iload_n 0, 1) := rfl
theorem c_254_1 : mLk 254 1 = some (.ifCond .lt 24, 3) := rfl
theorem c_254_25 : mLk 254 25 = some (.iconst 0, 1) := rfl
theorem c_254_26 : mLk 254 26 = some (.ireturn, 1) := rfl
theorem c_255_11 : mLk 255 11 = some (.ifCond .eq 17, 3) := rfl
theorem c_255_28 : mLk 255 28 = some (.iconst 0, 1) := rfl
theorem c_255_29 : mLk 255 29 = some (.iconst 1, 1) := rfl
theorem c_255_30 : mLk 255 30 = some (.iconst 1, 1) := rfl
theorem c_255_31 : mLk 255 31 = some (.invokevirtual 203, 3) := rfl
theorem c_255_34 : mLk 255 34 = some (.ifCond .ne 5, 3) := rfl
theorem c_255_37 : mLk 255 37 = some (.iconst 0, 1) := rfl
theorem c_255_38 : mLk 255 38 = some (.ireturn, 1) := rfl
theorem c_254_4 : mLk 254 4 = some (.iload_n 0, 1) := rfl
theorem c_254_5 : mLk 254 5 = some (.bipush 16, 2) := rfl
theorem c_254_7 : mLk 254 7 = some (.if_icmp .gt 18, 3) := rfl
theorem c_254_10 : mLk 254 10 = some (.iload_n 1, 1) := rfl
theorem c_254_11 : mLk 254 11 = some (.iconst 1, 1) := rfl
theorem c_254_12 : mLk 254 12 = some (.if_icmp .lt 13, 3) := rfl
theorem c_254_15 : mLk 254 15 = some (.iload_n 1, 1) := rfl
theorem c_254_16 : mLk 254 16 = some (.bipush 48, 2) := rfl
theorem c_254_18 : mLk 254 18 = some (.if_icmp .gt 7, 3) := rfl
theorem c_254_21 : mLk 254 21 = some (.iconst 1, 1) := rfl
theorem c_254_22 : mLk 254 22 = some (.goto 4, 3) := rfl
theorem c_255_14 : mLk 255 14 = some (.iload 4, 2) := rfl
theorem c_255_16 : mLk 255 16 = some (.iconst 0, 1) := rfl
theorem c_255_17 : mLk 255 17 = some (.iconst 3, 1) := rfl
theorem c_255_18 : mLk 255 18 = some (.invokestatic 384, 3) := rfl
theorem c_255_21 : mLk 255 21 = some (.ifCond .eq 7, 3) := rfl
theorem c_255_24 : mLk 255 24 = some (.iconst 1, 1) := rfl
theorem c_255_25 : mLk 255 25 = some (.goto 4, 3) := rfl
theorem c_255_39 : mLk 255 39 = some (.aload_n 0, 1) := rfl
theorem c_255_40 : mLk 255 40 = some (.iload_n 1, 1) := rfl
theorem c_255_41 : mLk 255 41 = some (.iload_n 2, 1) := rfl
theorem c_255_42 : mLk 255 42 = some (.iload_n 3, 1) := rfl
theorem c_255_43 : mLk 255 43 = some (.invokevirtual 448, 3) := rfl
theorem c_255_46 : mLk 255 46 = some (.iload 4, 2) := rfl
theorem c_255_48 : mLk 255 48 = some (.ifCond .ne 21, 3) := rfl
theorem c_255_69 : mLk 255 69 = some (.iload 4, 2) := rfl
theorem c_255_71 : mLk 255 71 = some (.iconst 1, 1) := rfl
theorem c_255_72 : mLk 255 72 = some (.if_icmp .ne 10, 3) := rfl
theorem c_255_82 : mLk 255 82 = some (.iload 4, 2) := rfl
theorem c_255_84 : mLk 255 84 = some (.iconst 2, 1) := rfl
theorem c_255_85 : mLk 255 85 = some (.if_icmp .ne 21, 3) := rfl
theorem c_255_106 : mLk 255 106 = some (.aload_n 0, 1) := rfl
theorem c_255_107 : mLk 255 107 = some (.invokevirtual 390, 3) := rfl
theorem c_255_110 : mLk 255 110 = some (.ireturn, 1) := rfl
theorem c_255_88 : mLk 255 88 = some (.aload_n 0, 1) := rfl
theorem c_255_89 : mLk 255 89 = some (.getfield 68, 3) := rfl
theorem c_255_92 : mLk 255 92 = some (.bipush 35, 2) := rfl
theorem c_255_94 : mLk 255 94 = some (.iaload, 1) := rfl
theorem c_255_95 : mLk 255 95 = some (.aload_n 0, 1) := rfl
theorem c_255_96 : mLk 255 96 = some (.getfield 65, 3) := rfl
theorem c_255_99 : mLk 255 99 = some (.bipush 35, 2) := rfl
theorem c_255_101 : mLk 255 101 = some (.iaload, 1) := rfl
theorem c_255_102 : mLk 255 102 = some (.isub, 1) := rfl
theorem c_255_103 : mLk 255 103 = some (.goto 7, 3) := rfl
theorem c_255_75 : mLk 255 75 = some (.aload_n 0, 1) := rfl
theorem c_255_76 : mLk 255 76 = some (.invokevirtual 387, 3) := rfl
theorem c_255_79 : mLk 255 79 = some (.goto 31, 3) := rfl
theorem c_255_51 : mLk 255 51 = some (.aload_n 0, 1) := rfl
theorem c_255_52 : mLk 255 52 = some (.getfield 68, 3) := rfl
theorem c_255_55 : mLk 255 55 = some (.bipush 36, 2) := rfl
theorem c_255_57 : mLk 255 57 = some (.iaload, 1) := rfl
theorem c_255_58 : mLk 255 58 = some (.aload_n 0, 1) := rfl
theorem c_255_59 : mLk 255 59 = some (.getfield 65, 3) := rfl
theorem c_255_62 : mLk 255 62 = some (.bipush 36, 2) := rfl
theorem c_255_64 : mLk 255 64 = some (.iaload, 1) := rfl
theorem c_255_65 : mLk 255 65 = some (.isub, 1) := rfl
theorem c_255_66 : mLk 255 66 = some (.goto 44, 3) := rfl
theorem c_256_77 : mLk 256 77 = some (.iload 10, 2) := rfl
theorem c_256_79 : mLk 256 79 = some (.iload_n 2, 1) := rfl
theorem c_256_80 : mLk 256 80 = some (.if_icmp .ge 94, 3) := rfl
theorem c_256_174 : mLk 256 174 = some (.iload 5, 2) := rfl
theorem c_256_176 : mLk 256 176 = some (.ifCond .ne 8, 3) := rfl
theorem c_256_184 : mLk 256 184 = some (.iload 5, 2) := rfl
theorem c_256_186 : mLk 256 186 = some (.iconst 1, 1) := rfl
theorem c_256_187 : mLk 256 187 = some (.if_icmp .ne 8, 3) := rfl
theorem c_256_195 : mLk 256 195 = some (.iload 9, 2) := rfl
theorem c_256_197 : mLk 256 197 = some (.ireturn, 1) := rfl
theorem c_256_190 : mLk 256 190 = some (.iload 8, 2) := rfl
theorem c_256_192 : mLk 256 192 = some (.goto 5, 3) := rfl
theorem c_256_179 : mLk 256 179 = some (.iload 7, 2) := rfl
theorem c_256_181 : mLk 256 181 = some (.goto 16, 3) := rfl
theorem c_256_83 : mLk 256 83 = some (.aload_n 0, 1) := rfl
theorem c_256_84 : mLk 256 84 = some (.iload_n 1, 1) := rfl
theorem c_256_85 : mLk 256 85 = some (.iload 10, 2) := rfl
theorem c_256_87 : mLk 256 87 = some (.iadd, 1) := rfl
theorem c_256_88 : mLk 256 88 = some (.iload_n 3, 1) := rfl
theorem c_256_89 : mLk 256 89 = some (.iload 4, 2) := rfl
theorem c_256_91 : mLk 256 91 = some (.invokevirtual 448, 3) := rfl
theorem c_256_94 : mLk 256 94 = some (.aload_n 0, 1) := rfl
theorem c_256_95 : mLk 256 95 = some (.getfield 68, 3) := rfl
theorem c_256_98 : mLk 256 98 = some (.bipush 36, 2) := rfl
theorem c_256_100 : mLk 256 100 = some (.iaload, 1) := rfl
theorem c_256_101 : mLk 256 101 = some (.aload_n 0, 1) := rfl
theorem c_256_102 : mLk 256 102 = some (.getfield 65, 3) := rfl
theorem c_256_105 : mLk 256 105 = some (.bipush 36, 2) := rfl
theorem c_256_107 : mLk 256 107 = some (.iaload, 1) := rfl
theorem c_256_108 : mLk 256 108 = some (.isub, 1) := rfl
theorem c_256_109 : mLk 256 109 = some (.istore 11, 2) := rfl
theorem c_256_111 : mLk 256 111 = some (.iload 7, 2) := rfl
theorem c_256_113 : mLk 256 113 = some (.iconst (-1), 1) := rfl
theorem c_256_114 : mLk 256 114 = some (.if_icmp .eq 10, 3) := rfl
theorem c_256_124 : mLk 256 124 = some (.iload 11, 2) := rfl
theorem c_256_126 : mLk 256 126 = some (.goto 5, 3) := rfl
theorem c_256_131 : mLk 256 131 = some (.istore 7, 2) := rfl
theorem c_256_133 : mLk 256 133 = some (.iload 11, 2) := rfl
theorem c_256_135 : mLk 256 135 = some (.iload 8, 2) := rfl
theorem c_256_137 : mLk 256 137 = some (.if_icmp .le 8, 3) := rfl
theorem c_256_145 : mLk 256 145 = some (.iload 8, 2) := rfl
theorem c_256_147 : mLk 256 147 = some (.istore 8, 2) := rfl
theorem c_256_149 : mLk 256 149 = some (.iload 9, 2) := rfl
theorem c_256_151 : mLk 256 151 = some (.aload_n 0, 1) := rfl
theorem c_256_152 : mLk 256 152 = some (.iload 6, 2) := rfl
theorem c_256_154 : mLk 256 154 = some (.invokevirtual 343, 3) := rfl
theorem c_256_157 : mLk 256 157 = some (.ifCond .ne 7, 3) := rfl
theorem c_256_164 : mLk 256 164 = some (.iconst 0, 1) := rfl
theorem c_256_165 : mLk 256 165 = some (.iadd, 1) := rfl
theorem c_256_166 : mLk 256 166 = some (.istore 9, 2) := rfl
theorem c_256_168 : mLk 256 168 = some (.iinc 10 1, 3) := rfl
theorem c_256_171 : mLk 256 171 = some (.goto (-94), 3) := rfl
theorem c_256_160 : mLk 256 160 = some (.iconst 1, 1) := rfl
theorem c_256_161 : mLk 256 161 = some (.goto 4, 3) := rfl
theorem c_256_140 : mLk 256 140 = some (.iload 11, 2) := rfl
theorem c_256_142 : mLk 256 142 = some (.goto 5, 3) := rfl
theorem c_256_117 : mLk 256 117 = some (.iload 11, 2) := rfl
theorem c_256_119 : mLk 256 119 = some (.iload 7, 2) := rfl
theorem c_256_121 : mLk 256 121 = some (.if_icmp .ge 8, 3) := rfl
theorem c_256_129 : mLk 256 129 = some (.iload 7, 2) := rfl
theorem c_256_0 : mLk 256 0 = some (.aload_n 0, 1) := rfl
theorem c_256_1 : mLk 256 1 = some (.iconst 0, 1) := rfl
theorem c_256_2 : mLk 256 2 = some (.putfield 3, 3) := rfl
theorem c_256_5 : mLk 256 5 = some (.aload_n 0, 1) := rfl
theorem c_256_6 : mLk 256 6 = some (.iload_n 2, 1) := rfl
theorem c_256_7 : mLk 256 7 = some (.iconst 1, 1) := rfl
theorem c_256_8 : mLk 256 8 = some (.bipush 10, 2) := rfl
theorem c_256_10 : mLk 256 10 = some (.invokestatic 384, 3) := rfl
theorem c_256_13 : mLk 256 13 = some (.ifCond .eq 41, 3) := rfl
theorem c_256_54 : mLk 256 54 = some (.iconst 0, 1) := rfl
theorem c_256_55 : mLk 256 55 = some (.iconst 1, 1) := rfl
theorem c_256_56 : mLk 256 56 = some (.iconst 1, 1) := rfl
theorem c_256_57 : mLk 256 57 = some (.invokevirtual 203, 3) := rfl
theorem c_256_60 : mLk 256 60 = some (.ifCond .ne 5, 3) := rfl
theorem c_256_63 : mLk 256 63 = some (.iconst 0, 1) := rfl
theorem c_256_64 : mLk 256 64 = some (.ireturn, 1) := rfl
theorem c_256_16 : mLk 256 16 = some (.iload_n 3, 1) := rfl
theorem c_256_17 : mLk 256 17 = some (.iload 4, 2) := rfl
theorem c_256_19 : mLk 256 19 = some (.invokestatic 445, 3) := rfl
theorem c_256_22 : mLk 256 22 = some (.ifCond .eq 32, 3) := rfl
theorem c_256_25 : mLk 256 25 = some (.iload 5, 2) := rfl
theorem c_256_27 : mLk 256 27 = some (.iconst 0, 1) := rfl
theorem c_256_28 : mLk 256 28 = some (.iconst 2, 1) := rfl
theorem c_256_29 : mLk 256 29 = some (.invokestatic 384, 3) := rfl
theorem c_256_32 : mLk 256 32 = some (.ifCond .eq 22, 3) := rfl
theorem c_256_35 : mLk 256 35 = some (.iload 6, 2) := rfl
theorem c_256_37 : mLk 256 37 = some (.iconst 0, 1) := rfl
theorem c_256_38 : mLk 256 38 = some (.aload_n 0, 1) := rfl
theorem c_256_39 : mLk 256 39 = some (.getfield 157, 3) := rfl
theorem c_256_42 : mLk 256 42 = some (.iconst 1, 1) := rfl
theorem c_256_43 : mLk 256 43 = some (.isub, 1) := rfl
theorem c_256_44 : mLk 256 44 = some (.invokestatic 384, 3) := rfl
theorem c_256_47 : mLk 256 47 = some (.ifCond .eq 7, 3) := rfl
theorem c_256_50 : mLk 256 50 = some (.iconst 1, 1) := rfl
theorem c_256_51 : mLk 256 51 = some (.goto 4, 3) := rfl
theorem c_256_65 : mLk 256 65 = some (.iconst (-1), 1) := rfl
theorem c_256_66 : mLk 256 66 = some (.istore 7, 2) := rfl
theorem c_256_68 : mLk 256 68 = some (.iconst 0, 1) := rfl
theorem c_256_69 : mLk 256 69 = some (.istore 8, 2) := rfl
theorem c_256_71 : mLk 256 71 = some (.iconst 0, 1) := rfl
theorem c_256_72 : mLk 256 72 = some (.istore 9, 2) := rfl
theorem c_256_74 : mLk 256 74 = some (.iconst 0, 1) := rfl
theorem c_256_75 : mLk 256 75 = some (.istore 10, 2) := rfl
theorem c_259_0 : mLk 259 0 = some (.aload_n 0, 1) := rfl
theorem c_259_1 : mLk 259 1 = some (.iconst 0, 1) := rfl
theorem c_259_2 : mLk 259 2 = some (.putfield 3, 3) := rfl
theorem c_259_5 : mLk 259 5 = some (.aload_n 0, 1) := rfl
theorem c_259_6 : mLk 259 6 = some (.getfield 185, 3) := rfl
theorem c_259_9 : mLk 259 9 = some (.iconst 3, 1) := rfl
theorem c_259_10 : mLk 259 10 = some (.if_icmp .ne 5, 3) := rfl
theorem c_259_15 : mLk 259 15 = some (.aload_n 0, 1) := rfl
theorem c_259_16 : mLk 259 16 = some (.aload_n 0, 1) := rfl
theorem c_259_17 : mLk 259 17 = some (.getfield 185, 3) := rfl
theorem c_259_20 : mLk 259 20 = some (.iconst 1, 1) := rfl
theorem c_259_21 : mLk 259 21 = some (.invokevirtual 456, 3) := rfl
theorem c_258_0 : mLk 258 0 = some (.aload_n 0, 1) := rfl
theorem c_258_1 : mLk 258 1 = some (.sipush 630, 3) := rfl
theorem c_258_4 : mLk 258 4 = some (.iload_n 1, 1) := rfl
theorem c_258_5 : mLk 258 5 = some (.imul, 1) := rfl
theorem c_258_6 : mLk 258 6 = some (.aload_n 0, 1) := rfl
theorem c_258_7 : mLk 258 7 = some (.getfield 65, 3) := rfl
theorem c_258_10 : mLk 258 10 = some (.bipush 37, 2) := rfl
theorem c_258_12 : mLk 258 12 = some (.iload_n 2, 1) := rfl
theorem c_258_13 : mLk 258 13 = some (.invokevirtual 452, 3) := rfl
theorem c_258_16 : mLk 258 16 = some (.istore_n 3, 1) := rfl
theorem c_258_17 : mLk 258 17 = some (.aload_n 0, 1) := rfl
theorem c_258_18 : mLk 258 18 = some (.iload_n 3, 1) := rfl
theorem c_258_19 : mLk 258 19 = some (.aload_n 0, 1) := rfl
theorem c_258_20 : mLk 258 20 = some (.getfield 71, 3) := rfl
theorem c_258_23 : mLk 258 23 = some (.sipush 592, 3) := rfl
theorem c_258_26 : mLk 258 26 = some (.iload_n 2, 1) := rfl
theorem c_258_27 : mLk 258 27 = some (.invokevirtual 452, 3) := rfl
theorem c_258_30 : mLk 258 30 = some (.istore_n 3, 1) := rfl
theorem c_258_31 : mLk 258 31 = some (.iload_n 2, 1) := rfl
theorem c_258_32 : mLk 258 32 = some (.ifCond .eq 16, 3) := rfl
theorem c_258_35 : mLk 258 35 = some (.aload_n 0, 1) := rfl
theorem c_258_36 : mLk 258 36 = some (.getfield 90, 3) := rfl
theorem c_258_39 : mLk 258 39 = some (.iload_n 3, 1) := rfl
theorem c_258_40 : mLk 258 40 = some (.aload_n 0, 1) := rfl
theorem c_258_41 : mLk 258 41 = some (.getfield 182, 3) := rfl
theorem c_258_44 : mLk 258 44 = some (.iastore, 1) := rfl
theorem c_258_45 : mLk 258 45 = some (.goto 13, 3) := rfl
theorem c_259_24 : mLk 259 24 = some (.aload_n 0, 1) := rfl
theorem c_259_25 : mLk 259 25 = some (.dup, 1) := rfl
theorem c_259_26 : mLk 259 26 = some (.getfield 185, 3) := rfl
theorem c_259_29 : mLk 259 29 = some (.iconst 1, 1) := rfl
theorem c_259_30 : mLk 259 30 = some (.iadd, 1) := rfl
theorem c_259_31 : mLk 259 31 = some (.putfield 185, 3) := rfl
theorem c_259_34 : mLk 259 34 = some (.aload_n 0, 1) := rfl
theorem c_259_35 : mLk 259 35 = some (.getfield 185, 3) := rfl
theorem c_259_38 : mLk 259 38 = some (.ireturn, 1) := rfl
theorem c_259_13 : mLk 259 13 = some (.iconst (-1), 1) := rfl
theorem c_259_14 : mLk 259 14 = some (.ireturn, 1) := rfl
theorem c_260_0 : mLk 260 0 = some (.aload_n 0, 1) := rfl
theorem c_260_1 : mLk 260 1 = some (.iconst 0, 1) := rfl
theorem c_260_2 : mLk 260 2 = some (.putfield 3, 3) := rfl
theorem c_260_5 : mLk 260 5 = some (.aload_n 0, 1) := rfl
theorem c_260_6 : mLk 260 6 = some (.getfield 185, 3) := rfl
theorem c_260_9 : mLk 260 9 = some (.ifCond .ne 5, 3) := rfl
theorem c_260_14 : mLk 260 14 = some (.aload_n 0, 1) := rfl
theorem c_260_15 : mLk 260 15 = some (.dup, 1) := rfl
theorem c_260_16 : mLk 260 16 = some (.getfield 185, 3) := rfl
theorem c_260_19 : mLk 260 19 = some (.iconst 1, 1) := rfl
theorem c_260_20 : mLk 260 20 = some (.isub, 1) := rfl
theorem c_260_21 : mLk 260 21 = some (.putfield 185, 3) := rfl
theorem c_260_24 : mLk 260 24 = some (.aload_n 0, 1) := rfl
theorem c_260_25 : mLk 260 25 = some (.aload_n 0, 1) := rfl
theorem c_260_26 : mLk 260 26 = some (.getfield 185, 3) := rfl
theorem c_260_29 : mLk 260 29 = some (.iconst 0, 1) := rfl
theorem c_260_30 : mLk 260 30 = some (.invokevirtual 456, 3) := rfl
theorem c_258_48 : mLk 258 48 = some (.aload_n 0, 1) := rfl
theorem c_258_49 : mLk 258 49 = some (.aload_n 0, 1) := rfl
theorem c_258_50 : mLk 258 50 = some (.getfield 90, 3) := rfl
theorem c_258_53 : mLk 258 53 = some (.iload_n 3, 1) := rfl
theorem c_258_54 : mLk 258 54 = some (.iaload, 1) := rfl
theorem c_258_55 : mLk 258 55 = some (.putfield 182, 3) := rfl
theorem c_260_33 : mLk 260 33 = some (.aload_n 0, 1) := rfl
theorem c_260_34 : mLk 260 34 = some (.iconst 0, 1) := rfl
theorem c_260_35 : mLk 260 35 = some (.putfield 188, 3) := rfl
theorem c_260_38 : mLk 260 38 = some (.aload_n 0, 1) := rfl
theorem c_260_39 : mLk 260 39 = some (.getfield 185, 3) := rfl
theorem c_260_42 : mLk 260 42 = some (.ireturn, 1) := rfl
theorem c_260_12 : mLk 260 12 = some (.iconst (-1), 1) := rfl
theorem c_260_13 : mLk 260 13 = some (.ireturn, 1) := rfl
theorem c_261_0 : mLk 261 0 = some (.aload_n 0, 1) := rfl
theorem c_261_1 : mLk 261 1 = some (.iconst 0, 1) := rfl
theorem c_261_2 : mLk 261 2 = some (.putfield 3, 3) := rfl
theorem c_261_5 : mLk 261 5 = some (.iload_n 1, 1) := rfl
theorem c_261_6 : mLk 261 6 = some (.iconst 0, 1) := rfl
theorem c_261_7 : mLk 261 7 = some (.iconst 1, 1) := rfl
theorem c_261_8 : mLk 261 8 = some (.invokestatic 384, 3) := rfl
theorem c_261_11 : mLk 261 11 = some (.ifCond .eq 12, 3) := rfl
theorem c_261_23 : mLk 261 23 = some (.iconst (-1), 1) := rfl
theorem c_261_24 : mLk 261 24 = some (.ireturn, 1) := rfl
theorem c_261_14 : mLk 261 14 = some (.aload_n 0, 1) := rfl
theorem c_261_15 : mLk 261 15 = some (.getfield 7, 3) := rfl
theorem c_261_18 : mLk 261 18 = some (.iload_n 1, 1) := rfl
theorem c_261_19 : mLk 261 19 = some (.iaload, 1) := rfl
theorem c_261_20 : mLk 261 20 = some (.goto 4, 3) := rfl
theorem c_262_0 : mLk 262 0 = some (.aload_n 0, 1) := rfl
theorem c_262_1 : mLk 262 1 = some (.iconst 0, 1) := rfl
theorem c_262_2 : mLk 262 2 = some (.putfield 3, 3) := rfl
theorem c_262_5 : mLk 262 5 = some (.iload_n 1, 1) := rfl
theorem c_262_6 : mLk 262 6 = some (.ifCond .ne 10, 3) := rfl
theorem c_262_16 : mLk 262 16 = some (.iload_n 1, 1) := rfl
theorem c_262_17 : mLk 262 17 = some (.iconst 1, 1) := rfl
theorem c_262_18 : mLk 262 18 = some (.if_icmp .ne 10, 3) := rfl
theorem c_262_28 : mLk 262 28 = some (.iload_n 1, 1) := rfl
theorem c_262_29 : mLk 262 29 = some (.iconst 2, 1) := rfl
theorem c_262_30 : mLk 262 30 = some (.if_icmp .ne 10, 3) := rfl
theorem c_262_40 : mLk 262 40 = some (.iconst (-1), 1) := rfl
theorem c_262_41 : mLk 262 41 = some (.ireturn, 1) := rfl
theorem c_262_33 : mLk 262 33 = some (.aload_n 0, 1) := rfl
theorem c_262_34 : mLk 262 34 = some (.getfield 182, 3) := rfl
theorem c_262_37 : mLk 262 37 = some (.goto 4, 3) := rfl
theorem c_262_21 : mLk 262 21 = some (.aload_n 0, 1) := rfl
theorem c_262_22 : mLk 262 22 = some (.getfield 99, 3) := rfl
theorem c_262_25 : mLk 262 25 = some (.goto 16, 3) := rfl
theorem c_262_9 : mLk 262 9 = some (.aload_n 0, 1) := rfl
theorem c_262_10 : mLk 262 10 = some (.getfield 185, 3) := rfl
theorem c_262_13 : mLk 262 13 = some (.goto 28, 3) := rfl
theorem kf_8_90 : a_lk (kF 8) 90 = some (8, 51) := rfl
theorem km_8_442 : a_lk (kM 8) 442 = some (0, 252) := rfl
theorem km_8_448 : a_lk (kM 8) 448 = some (0, 253) := rfl
theorem km_8_452 : a_lk (kM 8) 452 = some (0, 257) := rfl
theorem km_8_456 : a_lk (kM 8) 456 = some (0, 258) := rfl
set_option maxRecDepth 100000 in
set_option maxHeartbeats 4000000 in
theorem s_253_l {sc : List Int32} {d P Q : Nat} {c : ME} {a1 : Int} {a2 : Int} {a3 : Int} {Z : AR → Prop} (hI : Iv 0 (-1) P Q c) (ha1 : (-2147483648) ≤ a1 ∧ a1 ≤ 2147483647) (ha2 : 0 ≤ a2 ∧ a2 ≤ 16) (ha3 : 1 ≤ a3 ∧ a3 ≤ 48) (K : ∀ (c2 : ME), Iv 0 (-1) P Q c2 → (∀ (a : Nat) (j : Int), ¬ ((a = 41 ∧ j = 50) ∨ a = 59 ∨ a = 54 ∨ a = 55) → c2 a j = c a j) → Z (.inl (none), Wd P Q P P c2, 0, 0)) : ∀ n : Nat, (∀ (c2 : ME) (v4 : Int), Iv 0 (-1) P Q c2 → (∀ (a : Nat) (j : Int), ¬ ((a = 41 ∧ j = 50) ∨ a = 59 ∨ a = 54 ∨ a = 55) → c2 a j = c a j) → 0 ≤ v4 ∧ v4 ≤ 48 → 97 - 2 * v4 < (n : Int) → Wp sc (d + 14) 253 12 [(0, .ref 41), (1, vi a1), (2, vi a2), (3, vi a3), (4, vi v4)] [] (Wd P Q P P c2) 0 0 Z) := by
  intro n
  induction n with
  | zero => exact (by intro c2 v4 hI2 hF hv4 hm9; have hP := iv_P hI; have hQ := iv_Q hI; exfalso; omega)
  | succ n ih =>
    have hP := iv_P hI
    have hQ := iv_Q hI
    intro c2 v4 hI2 hF hv4 hm9
    refine q_iload c_253_12 rfl (q_iload_n c_253_14 rfl ?_)
    by_cases h_1 : v4 ≥ a3
    · refine v_ic_ge_t (t := 159) c_253_15 rfl ⟨(Int.le_trans (by decide) ha3.1), h_1, (Int.le_trans hv4.2 (by decide))⟩ (q_vret rfl rfl ?_)
      exact K c2 hI2 (fun a j hm => hF a j hm)
    · refine v_ic_ge_f (t := 159) c_253_15 rfl ⟨(Int.le_trans (by decide) hv4.1), (Int.not_le.mp h_1), (Int.le_trans ha3.2 (by decide))⟩ (q_aload_n c_253_18 rfl ?_)
      have h_2 := ir_41_20 hI
      have kn_3 : Hid (c2 41 20 = c 41 20) := hF 41 20 qn_0be1a1bbc
      refine v_gi (z := 20) (v := c 41 20) c_253_19 kf_8_157 rfl (nb_ rfl) rfl rfl (hid kn_3) ?_
      by_cases h_4 : c 41 20 ≤ 0
      · refine v_if_le_t (t := 57) c_253_22 rfl ⟨by first | exact q_730ab5169 h_2 | omega, h_4, by decide⟩ (q_aload_n c_253_57 rfl (v_gi (z := 20) (v := c 41 20) c_253_58 kf_8_157 rfl (nb_ rfl) rfl rfl (hid kn_3) (q_iconst c_253_61 (v_ic_le_t (t := 129) c_253_62 rfl ⟨by first | exact q_730ab5169 h_2 | omega, by first | exact q_cfa352df8 h_4 | omega, by decide⟩ (q_aload_n c_253_129 rfl (v_gi (z := 20) (v := c 41 20) c_253_130 kf_8_157 rfl (nb_ rfl) rfl rfl (hid kn_3) (v_if_le_t (t := 149) c_253_133 rfl ⟨by first | exact q_730ab5169 h_2 | omega, by first | exact q_f0d4f2762 h_4 | omega, by decide⟩ ?_)))))))
        refine q_aload_n c_253_149 rfl (v_cv c_253_150 km_8_353 rfl rfl (nb_ rfl) ⟨⟨rfl, rfl⟩, nb_ rfl, rfl⟩ (nb_ rfl) (nb_ rfl) (s_199 hI2 (fun c_5 hI_6 hF_7 => (bk_inl (v_iinc (v := v4 + 1) c_253_153 rfl (nb_ rfl) rfl (q_goto (t := 12) c_253_156 rfl (Wp_ls [(0, .ref 41), (1, vi a1), (2, vi a2), (3, vi a3), (4, vi (v4 + 1))] (lsub_cons rfl (lsub_cons rfl (lsub_cons rfl (lsub_cons rfl (lsub_cons rfl lsub_nil))))) ?_)))))))
        exact ih c_5 (v4 + 1) hI_6 (fun a j hm => (hF_7 a j (fun h => hm (Or.inr (Or.inl h)))).trans (hF a j hm)) ⟨by first | exact rgp_l hv4.1 (by decide) | omega, by first | exact q_f2816912d h_1 ha3 | omega⟩ (by omega)
      · refine v_if_le_f (t := 57) c_253_22 rfl ⟨by decide, (Int.not_le.mp h_4), by first | exact q_b289b7db2 h_2 | omega⟩ (q_aload_n c_253_25 rfl ?_)
        have h_8 := ir_41_21 hI
        have kn_9 : Hid (c2 41 21 = c 41 21) := hF 41 21 qn_dcdf02b5e
        refine v_gi (z := 21) (v := c 41 21) c_253_26 kf_8_160 rfl (nb_ rfl) rfl rfl (hid kn_9) ?_
        by_cases h_10 : c 41 21 ≤ 0
        · refine v_if_le_t (t := 57) c_253_29 rfl ⟨by first | exact q_0bfe68f8e h_8 | omega, h_10, by decide⟩ (q_aload_n c_253_57 rfl (v_gi (z := 20) (v := c 41 20) c_253_58 kf_8_157 rfl (nb_ rfl) rfl rfl (hid kn_3) (q_iconst c_253_61 ?_)))
          by_cases h_11 : c 41 20 ≤ 2
          · refine v_ic_le_t (t := 129) c_253_62 rfl ⟨by first | exact q_bd5201688 h_4 | omega, h_11, by decide⟩ (q_aload_n c_253_129 rfl (v_gi (z := 20) (v := c 41 20) c_253_130 kf_8_157 rfl (nb_ rfl) rfl rfl (hid kn_3) (v_if_le_f (t := 149) c_253_133 rfl ⟨by decide, by first | exact q_ca88f5637 h_4 | omega, by first | exact q_5fabd302d h_11 | omega⟩ (q_aload_n c_253_136 rfl (q_aload_n c_253_137 rfl (q_aload_n c_253_138 rfl (v_gi (z := 20) (v := c 41 20) c_253_139 kf_8_157 rfl (nb_ rfl) rfl rfl (hid kn_3) ?_)))))))
            refine v_cv c_253_142 km_8_442 rfl rfl (nb_ rfl) ⟨⟨rfl, rfl⟩, nb_ rfl, rfl⟩ (nb_ rfl) (nb_ rfl) (s_252 (a1 := c 41 20) hI2 (show 1 ≤ c 41 20 ∧ c 41 20 ≤ 16 from ⟨by first | exact q_6c49a4ad1 h_4 | omega, by first | exact q_a85af2722 h_11 | omega⟩) (fun c_12 y_15 hI_13 hF_14 hy_15 h_16 => (bk_inl (v_cv c_253_145 km_8_350 rfl rfl (nb_ rfl) ⟨⟨rfl, rfl⟩, nb_ rfl, rfl⟩ (nb_ rfl) (nb_ rfl) (s_198 (a1 := y_15) hI_13 (show 0 ≤ y_15 ∧ y_15 ≤ 5 from ⟨hy_15.1, by first | exact q_e26e310f0 h_11 h_16 | omega⟩) (fun c_17 y_20 hI_18 hF_19 hy_20 => (bk_inl (q_pop c_253_148 rfl (q_aload_n c_253_149 rfl (v_cv c_253_150 km_8_353 rfl rfl (nb_ rfl) ⟨⟨rfl, rfl⟩, nb_ rfl, rfl⟩ (nb_ rfl) (nb_ rfl) (s_199 hI_18 (fun c_21 hI_22 hF_23 => (bk_inl ?_)))))))))))))
            refine v_iinc (v := v4 + 1) c_253_153 rfl (nb_ rfl) rfl (q_goto (t := 12) c_253_156 rfl (Wp_ls [(0, .ref 41), (1, vi a1), (2, vi a2), (3, vi a3), (4, vi (v4 + 1))] (lsub_cons rfl (lsub_cons rfl (lsub_cons rfl (lsub_cons rfl (lsub_cons rfl lsub_nil))))) ?_))
            exact ih c_21 (v4 + 1) hI_22 (fun a j hm => (hF_23 a j (fun h => hm (Or.inr (Or.inl h)))).trans ((hF_19 a j (qv_cbc630ed4 hm)).trans ((hF_14 a j (fun h => hm (Or.inl h))).trans (hF a j hm)))) ⟨by first | exact rgp_l hv4.1 (by decide) | omega, by first | exact q_f2816912d h_1 ha3 | omega⟩ (by omega)
          · refine v_ic_le_f (t := 129) c_253_62 rfl ⟨by decide, (Int.not_le.mp h_11), by first | exact q_b289b7db2 h_2 | omega⟩ (q_aload_n c_253_65 rfl ?_)
            have h_24 := ir_41_22 hI
            have kn_25 : Hid (c2 41 22 = c 41 22) := hF 41 22 qn_fa1e0067f
            refine v_gi (z := 22) (v := c 41 22) c_253_66 kf_8_163 rfl (nb_ rfl) rfl rfl (hid kn_25) ?_
            by_cases h_26 : c 41 22 ≤ 0
            · refine v_if_le_t (t := 129) c_253_69 rfl ⟨by first | exact q_0bfe68f8e h_24 | omega, h_26, by decide⟩ (q_aload_n c_253_129 rfl (v_gi (z := 20) (v := c 41 20) c_253_130 kf_8_157 rfl (nb_ rfl) rfl rfl (hid kn_3) (v_if_le_f (t := 149) c_253_133 rfl ⟨by decide, by first | exact q_7e5049a7f h_11 | omega, by first | exact q_b289b7db2 h_2 | omega⟩ (q_aload_n c_253_136 rfl (q_aload_n c_253_137 rfl (q_aload_n c_253_138 rfl (v_gi (z := 20) (v := c 41 20) c_253_139 kf_8_157 rfl (nb_ rfl) rfl rfl (hid kn_3) ?_)))))))
              refine v_cv c_253_142 km_8_442 rfl rfl (nb_ rfl) ⟨⟨rfl, rfl⟩, nb_ rfl, rfl⟩ (nb_ rfl) (nb_ rfl) (s_252 (a1 := c 41 20) hI2 (show 1 ≤ c 41 20 ∧ c 41 20 ≤ 16 from ⟨by first | exact q_54b3f207f h_11 | omega, by first | exact q_25bfec670 h_2 | omega⟩) (fun c_27 y_30 hI_28 hF_29 hy_30 h_31 => (bk_inl (v_cv c_253_145 km_8_350 rfl rfl (nb_ rfl) ⟨⟨rfl, rfl⟩, nb_ rfl, rfl⟩ (nb_ rfl) (nb_ rfl) (s_198 (a1 := y_30) hI_28 (show 0 ≤ y_30 ∧ y_30 ≤ 5 from ⟨hy_30.1, by first | exact q_eb82f921a h_2 h_31 | omega⟩) (fun c_32 y_35 hI_33 hF_34 hy_35 => (bk_inl (q_pop c_253_148 rfl (q_aload_n c_253_149 rfl (v_cv c_253_150 km_8_353 rfl rfl (nb_ rfl) ⟨⟨rfl, rfl⟩, nb_ rfl, rfl⟩ (nb_ rfl) (nb_ rfl) (s_199 hI_33 (fun c_36 hI_37 hF_38 => (bk_inl ?_)))))))))))))
              refine v_iinc (v := v4 + 1) c_253_153 rfl (nb_ rfl) rfl (q_goto (t := 12) c_253_156 rfl (Wp_ls [(0, .ref 41), (1, vi a1), (2, vi a2), (3, vi a3), (4, vi (v4 + 1))] (lsub_cons rfl (lsub_cons rfl (lsub_cons rfl (lsub_cons rfl (lsub_cons rfl lsub_nil))))) ?_))
              exact ih c_36 (v4 + 1) hI_37 (fun a j hm => (hF_38 a j (fun h => hm (Or.inr (Or.inl h)))).trans ((hF_34 a j (qv_cbc630ed4 hm)).trans ((hF_29 a j (fun h => hm (Or.inl h))).trans (hF a j hm)))) ⟨by first | exact rgp_l hv4.1 (by decide) | omega, by first | exact q_f2816912d h_1 ha3 | omega⟩ (by omega)
            · refine v_if_le_f (t := 129) c_253_69 rfl ⟨by decide, (Int.not_le.mp h_26), by first | exact q_82d4f69ff h_24 | omega⟩ (q_aload_n c_253_72 rfl (q_aload_n c_253_73 rfl (v_gi (z := 22) (v := c 41 22) c_253_74 kf_8_163 rfl (nb_ rfl) rfl rfl (hid kn_25) (v_cv c_253_77 km_8_442 rfl rfl (nb_ rfl) ⟨⟨rfl, rfl⟩, nb_ rfl, rfl⟩ (nb_ rfl) (nb_ rfl) (s_252 (a1 := c 41 22) hI2 (show 1 ≤ c 41 22 ∧ c 41 22 ≤ 16 from ⟨by first | exact q_6c49a4ad1 h_26 | omega, by first | exact q_69fe74b6d h_24 | omega⟩) (fun c_39 y_42 hI_40 hF_41 hy_42 h_43 => (bk_inl (q_istore c_253_80 (nb_ rfl) (q_aload_n c_253_82 rfl ?_)))))))))
              refine q_aload_n c_253_83 rfl ?_
              have kn_44 : Hid (c_39 41 20 = c 41 20) := (hF_41 41 20 (fun h => absurd h.2 (ni rfl))).trans (hid kn_3)
              refine v_gi (z := 20) (v := c 41 20) c_253_84 kf_8_157 rfl (nb_ rfl) rfl rfl (hid kn_44) (v_cv c_253_87 km_8_442 rfl rfl (nb_ rfl) ⟨⟨rfl, rfl⟩, nb_ rfl, rfl⟩ (nb_ rfl) (nb_ rfl) (s_252 (a1 := c 41 20) hI_40 (show 1 ≤ c 41 20 ∧ c 41 20 ≤ 16 from ⟨by first | exact q_54b3f207f h_11 | omega, by first | exact q_25bfec670 h_2 | omega⟩) (fun c_45 y_48 hI_46 hF_47 hy_48 h_49 => (bk_inl (q_istore c_253_90 (nb_ rfl) (q_aload_n c_253_92 rfl (v_bip c_253_93 (by decide) (v_cv c_253_95 km_8_442 rfl rfl (nb_ rfl) ⟨⟨rfl, rfl⟩, nb_ rfl, rfl⟩ (nb_ rfl) (nb_ rfl) (s_252 (a1 := 16) hI_46 (show 1 ≤ 16 ∧ 16 ≤ 16 from ⟨by decide, by decide⟩) (fun c_50 y_53 hI_51 hF_52 hy_53 h_54 => (bk_inl ?_)))))))))))
              refine q_iload_n c_253_98 rfl ?_
              by_cases h_55 : y_53 ≥ a2
              · refine v_ic_ge_t (t := 129) c_253_99 rfl ⟨(Int.le_trans (by decide) ha2.1), h_55, (Int.le_trans hy_53.2 (by decide))⟩ (q_aload_n c_253_129 rfl ?_)
                have kn_56 : Hid (c_45 41 20 = c 41 20) := (hF_47 41 20 (fun h => absurd h.2 (ni rfl))).trans (hid kn_44)
                have kn_57 : Hid (c_50 41 20 = c 41 20) := (hF_52 41 20 (fun h => absurd h.2 (ni rfl))).trans (hid kn_56)
                refine v_gi (z := 20) (v := c 41 20) c_253_130 kf_8_157 rfl (nb_ rfl) rfl rfl (hid kn_57) (v_if_le_f (t := 149) c_253_133 rfl ⟨by decide, by first | exact q_7e5049a7f h_11 | omega, by first | exact q_b289b7db2 h_2 | omega⟩ (q_aload_n c_253_136 rfl (q_aload_n c_253_137 rfl (q_aload_n c_253_138 rfl (v_gi (z := 20) (v := c 41 20) c_253_139 kf_8_157 rfl (nb_ rfl) rfl rfl (hid kn_57) (v_cv c_253_142 km_8_442 rfl rfl (nb_ rfl) ⟨⟨rfl, rfl⟩, nb_ rfl, rfl⟩ (nb_ rfl) (nb_ rfl) (s_252 (a1 := c 41 20) hI_51 (show 1 ≤ c 41 20 ∧ c 41 20 ≤ 16 from ⟨by first | exact q_54b3f207f h_11 | omega, by first | exact q_25bfec670 h_2 | omega⟩) (fun c_58 y_61 hI_59 hF_60 hy_61 h_62 => (bk_inl ?_)))))))))
                refine v_cv c_253_145 km_8_350 rfl rfl (nb_ rfl) ⟨⟨rfl, rfl⟩, nb_ rfl, rfl⟩ (nb_ rfl) (nb_ rfl) (s_198 (a1 := y_61) hI_59 (show 0 ≤ y_61 ∧ y_61 ≤ 5 from ⟨hy_61.1, by first | exact q_eb82f921a h_2 h_62 | omega⟩) (fun c_63 y_66 hI_64 hF_65 hy_66 => (bk_inl (q_pop c_253_148 rfl (q_aload_n c_253_149 rfl (v_cv c_253_150 km_8_353 rfl rfl (nb_ rfl) ⟨⟨rfl, rfl⟩, nb_ rfl, rfl⟩ (nb_ rfl) (nb_ rfl) (s_199 hI_64 (fun c_67 hI_68 hF_69 => (bk_inl (v_iinc (v := v4 + 1) c_253_153 rfl (nb_ rfl) rfl (q_goto (t := 12) c_253_156 rfl ?_)))))))))))
                refine Wp_ls [(0, .ref 41), (1, vi a1), (2, vi a2), (3, vi a3), (4, vi (v4 + 1))] (lsub_cons rfl (lsub_cons rfl (lsub_cons rfl (lsub_cons rfl (lsub_cons rfl lsub_nil))))) ?_
                exact ih c_67 (v4 + 1) hI_68 (fun a j hm => (hF_69 a j (fun h => hm (Or.inr (Or.inl h)))).trans ((hF_65 a j (qv_cbc630ed4 hm)).trans ((hF_60 a j (fun h => hm (Or.inl h))).trans ((hF_52 a j (fun h => hm (Or.inl h))).trans ((hF_47 a j (fun h => hm (Or.inl h))).trans ((hF_41 a j (fun h => hm (Or.inl h))).trans (hF a j hm))))))) ⟨by first | exact rgp_l hv4.1 (by decide) | omega, by first | exact q_f2816912d h_1 ha3 | omega⟩ (by omega)
              · refine v_ic_ge_f (t := 129) c_253_99 rfl ⟨(Int.le_trans (by decide) hy_53.1), (Int.not_le.mp h_55), (Int.le_trans ha2.2 (by decide))⟩ (q_aload_n c_253_102 rfl (q_iload c_253_103 rfl (q_iload c_253_105 rfl (q_iload c_253_107 rfl (q_iconst c_253_109 (v_iadd (v := y_48 + 1) c_253_110 rfl (q_aload_n c_253_111 rfl ?_)))))))
                have kn_70 : Hid (c_45 41 20 = c 41 20) := (hF_47 41 20 (fun h => absurd h.2 (ni rfl))).trans (hid kn_44)
                have kn_71 : Hid (c_50 41 20 = c 41 20) := (hF_52 41 20 (fun h => absurd h.2 (ni rfl))).trans (hid kn_70)
                refine v_gi (z := 20) (v := c 41 20) c_253_112 kf_8_157 rfl (nb_ rfl) rfl rfl (hid kn_71) ?_
                have h_72 : 0 ≤ ((y_48 + 1) % (c 41 20)) ∧ ((y_48 + 1) % (c 41 20)) < c 41 20 := rem_bd (by omega)
                refine v_irem (v := ((y_48 + 1) % (c 41 20))) c_253_115 (by omega) rfl (q_iload c_253_116 rfl (q_iconst c_253_118 (v_iadd (v := y_48 + 2) c_253_119 rfl (q_aload_n c_253_120 rfl (v_gi (z := 20) (v := c 41 20) c_253_121 kf_8_157 rfl (nb_ rfl) rfl rfl (hid kn_71) ?_)))))
                have h_73 : 0 ≤ ((y_48 + 2) % (c 41 20)) ∧ ((y_48 + 2) % (c 41 20)) < c 41 20 := rem_bd (by omega)
                refine v_irem (v := ((y_48 + 2) % (c 41 20))) c_253_124 (by omega) rfl (v_cv c_253_125 km_8_339 rfl rfl (nb_ rfl) ⟨⟨rfl, rfl⟩, nb_ rfl, rfl⟩ (nb_ rfl) (nb_ rfl) (s_193 (a1 := y_42) (a2 := y_48) (a3 := ((y_48 + 1) % (c 41 20))) (a4 := ((y_48 + 2) % (c 41 20))) hI_51 (show 0 ≤ y_42 ∧ y_42 ≤ 3 from ⟨hy_42.1, by first | exact q_0ca5d8218 h_24 h_43 | omega⟩) (show 0 ≤ y_48 ∧ y_48 ≤ 5 from ⟨hy_48.1, by first | exact q_eb82f921a h_2 h_49 | omega⟩) (show 0 ≤ ((y_48 + 1) % (c 41 20)) ∧ ((y_48 + 1) % (c 41 20)) ≤ 5 from ⟨by first | exact q_c4fec1d75 h_72 | omega, by first | exact q_d5c4fed04 h_2 h_72 | omega⟩) (show 0 ≤ ((y_48 + 2) % (c 41 20)) ∧ ((y_48 + 2) % (c 41 20)) ≤ 5 from ⟨by first | exact q_c4fec1d75 h_73 | omega, by first | exact q_d5c4fed04 h_2 h_73 | omega⟩) (fun c_74 y_77 hI_75 hF_76 hy_77 => (bk_inl (q_pop c_253_128 rfl (q_aload_n c_253_129 rfl ?_))))))
                have kn_78 : Hid (c_74 41 20 = c 41 20) := (hF_76 41 20 (fun h => absurd h (nn rfl))).trans (hid kn_71)
                refine v_gi (z := 20) (v := c 41 20) c_253_130 kf_8_157 rfl (nb_ rfl) rfl rfl (hid kn_78) (v_if_le_f (t := 149) c_253_133 rfl ⟨by decide, by first | exact q_7e5049a7f h_11 | omega, by first | exact q_b289b7db2 h_2 | omega⟩ (q_aload_n c_253_136 rfl (q_aload_n c_253_137 rfl (q_aload_n c_253_138 rfl (v_gi (z := 20) (v := c 41 20) c_253_139 kf_8_157 rfl (nb_ rfl) rfl rfl (hid kn_78) (v_cv c_253_142 km_8_442 rfl rfl (nb_ rfl) ⟨⟨rfl, rfl⟩, nb_ rfl, rfl⟩ (nb_ rfl) (nb_ rfl) (s_252 (a1 := c 41 20) hI_75 (show 1 ≤ c 41 20 ∧ c 41 20 ≤ 16 from ⟨by first | exact q_54b3f207f h_11 | omega, by first | exact q_25bfec670 h_2 | omega⟩) (fun c_79 y_82 hI_80 hF_81 hy_82 h_83 => (bk_inl ?_)))))))))
                refine v_cv c_253_145 km_8_350 rfl rfl (nb_ rfl) ⟨⟨rfl, rfl⟩, nb_ rfl, rfl⟩ (nb_ rfl) (nb_ rfl) (s_198 (a1 := y_82) hI_80 (show 0 ≤ y_82 ∧ y_82 ≤ 5 from ⟨hy_82.1, by first | exact q_eb82f921a h_2 h_83 | omega⟩) (fun c_84 y_87 hI_85 hF_86 hy_87 => (bk_inl (q_pop c_253_148 rfl (q_aload_n c_253_149 rfl (v_cv c_253_150 km_8_353 rfl rfl (nb_ rfl) ⟨⟨rfl, rfl⟩, nb_ rfl, rfl⟩ (nb_ rfl) (nb_ rfl) (s_199 hI_85 (fun c_88 hI_89 hF_90 => (bk_inl (v_iinc (v := v4 + 1) c_253_153 rfl (nb_ rfl) rfl (q_goto (t := 12) c_253_156 rfl ?_)))))))))))
                refine Wp_ls [(0, .ref 41), (1, vi a1), (2, vi a2), (3, vi a3), (4, vi (v4 + 1))] (lsub_cons rfl (lsub_cons rfl (lsub_cons rfl (lsub_cons rfl (lsub_cons rfl lsub_nil))))) ?_
                exact ih c_88 (v4 + 1) hI_89 (fun a j hm => (hF_90 a j (fun h => hm (Or.inr (Or.inl h)))).trans ((hF_86 a j (qv_cbc630ed4 hm)).trans ((hF_81 a j (fun h => hm (Or.inl h))).trans ((hF_76 a j (fun h => hm (Or.inr (Or.inl h)))).trans ((hF_52 a j (fun h => hm (Or.inl h))).trans ((hF_47 a j (fun h => hm (Or.inl h))).trans ((hF_41 a j (fun h => hm (Or.inl h))).trans (hF a j hm)))))))) ⟨by first | exact rgp_l hv4.1 (by decide) | omega, by first | exact q_f2816912d h_1 ha3 | omega⟩ (by omega)
        · refine v_if_le_f (t := 57) c_253_29 rfl ⟨by decide, (Int.not_le.mp h_10), by first | exact q_82d4f69ff h_8 | omega⟩ (q_aload_n c_253_32 rfl (q_aload_n c_253_33 rfl (v_gi (z := 21) (v := c 41 21) c_253_34 kf_8_160 rfl (nb_ rfl) rfl rfl (hid kn_9) (v_cv c_253_37 km_8_442 rfl rfl (nb_ rfl) ⟨⟨rfl, rfl⟩, nb_ rfl, rfl⟩ (nb_ rfl) (nb_ rfl) (s_252 (a1 := c 41 21) hI2 (show 1 ≤ c 41 21 ∧ c 41 21 ≤ 16 from ⟨by first | exact q_6c49a4ad1 h_10 | omega, by first | exact q_69fe74b6d h_8 | omega⟩) (fun c_91 y_94 hI_92 hF_93 hy_94 h_95 => (bk_inl (q_istore c_253_40 (nb_ rfl) (q_aload_n c_253_42 rfl ?_)))))))))
          refine q_iload c_253_43 rfl (q_aload_n c_253_45 rfl (q_aload_n c_253_46 rfl ?_))
          have kn_96 : Hid (c_91 41 20 = c 41 20) := (hF_93 41 20 (fun h => absurd h.2 (ni rfl))).trans (hid kn_3)
          refine v_gi (z := 20) (v := c 41 20) c_253_47 kf_8_157 rfl (nb_ rfl) rfl rfl (hid kn_96) (v_cv c_253_50 km_8_442 rfl rfl (nb_ rfl) ⟨⟨rfl, rfl⟩, nb_ rfl, rfl⟩ (nb_ rfl) (nb_ rfl) (s_252 (a1 := c 41 20) hI_92 (show 1 ≤ c 41 20 ∧ c 41 20 ≤ 16 from ⟨by first | exact q_6c49a4ad1 h_4 | omega, by first | exact q_25bfec670 h_2 | omega⟩) (fun c_97 y_100 hI_98 hF_99 hy_100 h_101 => (bk_inl (v_cv c_253_53 km_8_335 rfl rfl (nb_ rfl) ⟨⟨rfl, rfl⟩, nb_ rfl, rfl⟩ (nb_ rfl) (nb_ rfl) (s_188 (a1 := y_94) (a2 := y_100) hI_98 (show 0 ≤ y_94 ∧ y_94 ≤ 3 from ⟨hy_94.1, by first | exact q_0ca5d8218 h_8 h_95 | omega⟩) (show 0 ≤ y_100 ∧ y_100 ≤ 5 from ⟨hy_100.1, by first | exact q_4176b68dd h_101 h_2 | omega⟩) (fun c_102 y_105 hI_103 hF_104 hy_105 => (bk_inl (q_pop c_253_56 rfl (q_aload_n c_253_57 rfl ?_))))))))))
          have kn_106 : Hid (c_97 41 20 = c 41 20) := (hF_99 41 20 (fun h => absurd h.2 (ni rfl))).trans (hid kn_96)
          have kn_107 : Hid (c_102 41 20 = c 41 20) := (hF_104 41 20 (fun h => absurd h (nn rfl))).trans (hid kn_106)
          refine v_gi (z := 20) (v := c 41 20) c_253_58 kf_8_157 rfl (nb_ rfl) rfl rfl (hid kn_107) (q_iconst c_253_61 ?_)
          by_cases h_108 : c 41 20 ≤ 2
          · refine v_ic_le_t (t := 129) c_253_62 rfl ⟨by first | exact q_bd5201688 h_4 | omega, h_108, by decide⟩ (q_aload_n c_253_129 rfl (v_gi (z := 20) (v := c 41 20) c_253_130 kf_8_157 rfl (nb_ rfl) rfl rfl (hid kn_107) (v_if_le_f (t := 149) c_253_133 rfl ⟨by decide, by first | exact q_ca88f5637 h_4 | omega, by first | exact q_5fabd302d h_108 | omega⟩ (q_aload_n c_253_136 rfl (q_aload_n c_253_137 rfl (q_aload_n c_253_138 rfl (v_gi (z := 20) (v := c 41 20) c_253_139 kf_8_157 rfl (nb_ rfl) rfl rfl (hid kn_107) ?_)))))))
            refine v_cv c_253_142 km_8_442 rfl rfl (nb_ rfl) ⟨⟨rfl, rfl⟩, nb_ rfl, rfl⟩ (nb_ rfl) (nb_ rfl) (s_252 (a1 := c 41 20) hI_103 (show 1 ≤ c 41 20 ∧ c 41 20 ≤ 16 from ⟨by first | exact q_6c49a4ad1 h_4 | omega, by first | exact q_a85af2722 h_108 | omega⟩) (fun c_109 y_112 hI_110 hF_111 hy_112 h_113 => (bk_inl (v_cv c_253_145 km_8_350 rfl rfl (nb_ rfl) ⟨⟨rfl, rfl⟩, nb_ rfl, rfl⟩ (nb_ rfl) (nb_ rfl) (s_198 (a1 := y_112) hI_110 (show 0 ≤ y_112 ∧ y_112 ≤ 5 from ⟨hy_112.1, by first | exact q_e26e310f0 h_108 h_113 | omega⟩) (fun c_114 y_117 hI_115 hF_116 hy_117 => (bk_inl (q_pop c_253_148 rfl (q_aload_n c_253_149 rfl (v_cv c_253_150 km_8_353 rfl rfl (nb_ rfl) ⟨⟨rfl, rfl⟩, nb_ rfl, rfl⟩ (nb_ rfl) (nb_ rfl) (s_199 hI_115 (fun c_118 hI_119 hF_120 => (bk_inl ?_)))))))))))))
            refine v_iinc (v := v4 + 1) c_253_153 rfl (nb_ rfl) rfl (q_goto (t := 12) c_253_156 rfl (Wp_ls [(0, .ref 41), (1, vi a1), (2, vi a2), (3, vi a3), (4, vi (v4 + 1))] (lsub_cons rfl (lsub_cons rfl (lsub_cons rfl (lsub_cons rfl (lsub_cons rfl lsub_nil))))) ?_))
            exact ih c_118 (v4 + 1) hI_119 (fun a j hm => (hF_120 a j (fun h => hm (Or.inr (Or.inl h)))).trans ((hF_116 a j (qv_cbc630ed4 hm)).trans ((hF_111 a j (fun h => hm (Or.inl h))).trans ((hF_104 a j (fun h => hm (Or.inr (Or.inl h)))).trans ((hF_99 a j (fun h => hm (Or.inl h))).trans ((hF_93 a j (fun h => hm (Or.inl h))).trans (hF a j hm))))))) ⟨by first | exact rgp_l hv4.1 (by decide) | omega, by first | exact q_f2816912d h_1 ha3 | omega⟩ (by omega)
          · refine v_ic_le_f (t := 129) c_253_62 rfl ⟨by decide, (Int.not_le.mp h_108), by first | exact q_b289b7db2 h_2 | omega⟩ (q_aload_n c_253_65 rfl ?_)
            have h_121 := ir_41_22 hI
            have kn_122 : Hid (c2 41 22 = c 41 22) := hF 41 22 qn_fa1e0067f
            have kn_123 : Hid (c_91 41 22 = c 41 22) := (hF_93 41 22 (fun h => absurd h.2 (ni rfl))).trans (hid kn_122)
            have kn_124 : Hid (c_97 41 22 = c 41 22) := (hF_99 41 22 (fun h => absurd h.2 (ni rfl))).trans (hid kn_123)
            have kn_125 : Hid (c_102 41 22 = c 41 22) := (hF_104 41 22 (fun h => absurd h (nn rfl))).trans (hid kn_124)
            refine v_gi (z := 22) (v := c 41 22) c_253_66 kf_8_163 rfl (nb_ rfl) rfl rfl (hid kn_125) ?_
            by_cases h_126 : c 41 22 ≤ 0
            · refine v_if_le_t (t := 129) c_253_69 rfl ⟨by first | exact q_0bfe68f8e h_121 | omega, h_126, by decide⟩ (q_aload_n c_253_129 rfl (v_gi (z := 20) (v := c 41 20) c_253_130 kf_8_157 rfl (nb_ rfl) rfl rfl (hid kn_107) (v_if_le_f (t := 149) c_253_133 rfl ⟨by decide, by first | exact q_7e5049a7f h_108 | omega, by first | exact q_b289b7db2 h_2 | omega⟩ (q_aload_n c_253_136 rfl (q_aload_n c_253_137 rfl (q_aload_n c_253_138 rfl (v_gi (z := 20) (v := c 41 20) c_253_139 kf_8_157 rfl (nb_ rfl) rfl rfl (hid kn_107) ?_)))))))
              refine v_cv c_253_142 km_8_442 rfl rfl (nb_ rfl) ⟨⟨rfl, rfl⟩, nb_ rfl, rfl⟩ (nb_ rfl) (nb_ rfl) (s_252 (a1 := c 41 20) hI_103 (show 1 ≤ c 41 20 ∧ c 41 20 ≤ 16 from ⟨by first | exact q_54b3f207f h_108 | omega, by first | exact q_25bfec670 h_2 | omega⟩) (fun c_127 y_130 hI_128 hF_129 hy_130 h_131 => (bk_inl (v_cv c_253_145 km_8_350 rfl rfl (nb_ rfl) ⟨⟨rfl, rfl⟩, nb_ rfl, rfl⟩ (nb_ rfl) (nb_ rfl) (s_198 (a1 := y_130) hI_128 (show 0 ≤ y_130 ∧ y_130 ≤ 5 from ⟨hy_130.1, by first | exact q_4176b68dd h_131 h_2 | omega⟩) (fun c_132 y_135 hI_133 hF_134 hy_135 => (bk_inl (q_pop c_253_148 rfl (q_aload_n c_253_149 rfl (v_cv c_253_150 km_8_353 rfl rfl (nb_ rfl) ⟨⟨rfl, rfl⟩, nb_ rfl, rfl⟩ (nb_ rfl) (nb_ rfl) (s_199 hI_133 (fun c_136 hI_137 hF_138 => (bk_inl ?_)))))))))))))
              refine v_iinc (v := v4 + 1) c_253_153 rfl (nb_ rfl) rfl (q_goto (t := 12) c_253_156 rfl (Wp_ls [(0, .ref 41), (1, vi a1), (2, vi a2), (3, vi a3), (4, vi (v4 + 1))] (lsub_cons rfl (lsub_cons rfl (lsub_cons rfl (lsub_cons rfl (lsub_cons rfl lsub_nil))))) ?_))
              exact ih c_136 (v4 + 1) hI_137 (fun a j hm => (hF_138 a j (fun h => hm (Or.inr (Or.inl h)))).trans ((hF_134 a j (qv_cbc630ed4 hm)).trans ((hF_129 a j (fun h => hm (Or.inl h))).trans ((hF_104 a j (fun h => hm (Or.inr (Or.inl h)))).trans ((hF_99 a j (fun h => hm (Or.inl h))).trans ((hF_93 a j (fun h => hm (Or.inl h))).trans (hF a j hm))))))) ⟨by first | exact rgp_l hv4.1 (by decide) | omega, by first | exact q_f2816912d h_1 ha3 | omega⟩ (by omega)
            · refine v_if_le_f (t := 129) c_253_69 rfl ⟨by decide, (Int.not_le.mp h_126), by first | exact q_82d4f69ff h_121 | omega⟩ (q_aload_n c_253_72 rfl (q_aload_n c_253_73 rfl (v_gi (z := 22) (v := c 41 22) c_253_74 kf_8_163 rfl (nb_ rfl) rfl rfl (hid kn_125) (v_cv c_253_77 km_8_442 rfl rfl (nb_ rfl) ⟨⟨rfl, rfl⟩, nb_ rfl, rfl⟩ (nb_ rfl) (nb_ rfl) (s_252 (a1 := c 41 22) hI_103 (show 1 ≤ c 41 22 ∧ c 41 22 ≤ 16 from ⟨by first | exact q_6c49a4ad1 h_126 | omega, by first | exact q_69fe74b6d h_121 | omega⟩) (fun c_139 y_142 hI_140 hF_141 hy_142 h_143 => (bk_inl (q_istore c_253_80 (nb_ rfl) (q_aload_n c_253_82 rfl ?_)))))))))
              refine q_aload_n c_253_83 rfl ?_
              have kn_144 : Hid (c_139 41 20 = c 41 20) := (hF_141 41 20 (fun h => absurd h.2 (ni rfl))).trans (hid kn_107)
              refine v_gi (z := 20) (v := c 41 20) c_253_84 kf_8_157 rfl (nb_ rfl) rfl rfl (hid kn_144) (v_cv c_253_87 km_8_442 rfl rfl (nb_ rfl) ⟨⟨rfl, rfl⟩, nb_ rfl, rfl⟩ (nb_ rfl) (nb_ rfl) (s_252 (a1 := c 41 20) hI_140 (show 1 ≤ c 41 20 ∧ c 41 20 ≤ 16 from ⟨by first | exact q_54b3f207f h_108 | omega, by first | exact q_25bfec670 h_2 | omega⟩) (fun c_145 y_148 hI_146 hF_147 hy_148 h_149 => (bk_inl (q_istore c_253_90 (nb_ rfl) (q_aload_n c_253_92 rfl (v_bip c_253_93 (by decide) (v_cv c_253_95 km_8_442 rfl rfl (nb_ rfl) ⟨⟨rfl, rfl⟩, nb_ rfl, rfl⟩ (nb_ rfl) (nb_ rfl) (s_252 (a1 := 16) hI_146 (show 1 ≤ 16 ∧ 16 ≤ 16 from ⟨by decide, by decide⟩) (fun c_150 y_153 hI_151 hF_152 hy_153 h_154 => (bk_inl ?_)))))))))))
              refine q_iload_n c_253_98 rfl ?_
              by_cases h_155 : y_153 ≥ a2
              · refine v_ic_ge_t (t := 129) c_253_99 rfl ⟨(Int.le_trans (by decide) ha2.1), h_155, (Int.le_trans hy_153.2 (by decide))⟩ (q_aload_n c_253_129 rfl ?_)
                have kn_156 : Hid (c_145 41 20 = c 41 20) := (hF_147 41 20 (fun h => absurd h.2 (ni rfl))).trans (hid kn_144)
                have kn_157 : Hid (c_150 41 20 = c 41 20) := (hF_152 41 20 (fun h => absurd h.2 (ni rfl))).trans (hid kn_156)
                refine v_gi (z := 20) (v := c 41 20) c_253_130 kf_8_157 rfl (nb_ rfl) rfl rfl (hid kn_157) (v_if_le_f (t := 149) c_253_133 rfl ⟨by decide, by first | exact q_7e5049a7f h_108 | omega, by first | exact q_b289b7db2 h_2 | omega⟩ (q_aload_n c_253_136 rfl (q_aload_n c_253_137 rfl (q_aload_n c_253_138 rfl (v_gi (z := 20) (v := c 41 20) c_253_139 kf_8_157 rfl (nb_ rfl) rfl rfl (hid kn_157) (v_cv c_253_142 km_8_442 rfl rfl (nb_ rfl) ⟨⟨rfl, rfl⟩, nb_ rfl, rfl⟩ (nb_ rfl) (nb_ rfl) (s_252 (a1 := c 41 20) hI_151 (show 1 ≤ c 41 20 ∧ c 41 20 ≤ 16 from ⟨by first | exact q_54b3f207f h_108 | omega, by first | exact q_25bfec670 h_2 | omega⟩) (fun c_158 y_161 hI_159 hF_160 hy_161 h_162 => (bk_inl ?_)))))))))
                refine v_cv c_253_145 km_8_350 rfl rfl (nb_ rfl) ⟨⟨rfl, rfl⟩, nb_ rfl, rfl⟩ (nb_ rfl) (nb_ rfl) (s_198 (a1 := y_161) hI_159 (show 0 ≤ y_161 ∧ y_161 ≤ 5 from ⟨hy_161.1, by first | exact q_4176b68dd h_162 h_2 | omega⟩) (fun c_163 y_166 hI_164 hF_165 hy_166 => (bk_inl (q_pop c_253_148 rfl (q_aload_n c_253_149 rfl (v_cv c_253_150 km_8_353 rfl rfl (nb_ rfl) ⟨⟨rfl, rfl⟩, nb_ rfl, rfl⟩ (nb_ rfl) (nb_ rfl) (s_199 hI_164 (fun c_167 hI_168 hF_169 => (bk_inl (v_iinc (v := v4 + 1) c_253_153 rfl (nb_ rfl) rfl (q_goto (t := 12) c_253_156 rfl ?_)))))))))))
                refine Wp_ls [(0, .ref 41), (1, vi a1), (2, vi a2), (3, vi a3), (4, vi (v4 + 1))] (lsub_cons rfl (lsub_cons rfl (lsub_cons rfl (lsub_cons rfl (lsub_cons rfl lsub_nil))))) ?_
                exact ih c_167 (v4 + 1) hI_168 (fun a j hm => (hF_169 a j (fun h => hm (Or.inr (Or.inl h)))).trans ((hF_165 a j (qv_cbc630ed4 hm)).trans ((hF_160 a j (fun h => hm (Or.inl h))).trans ((hF_152 a j (fun h => hm (Or.inl h))).trans ((hF_147 a j (fun h => hm (Or.inl h))).trans ((hF_141 a j (fun h => hm (Or.inl h))).trans ((hF_104 a j (fun h => hm (Or.inr (Or.inl h)))).trans ((hF_99 a j (fun h => hm (Or.inl h))).trans ((hF_93 a j (fun h => hm (Or.inl h))).trans (hF a j hm)))))))))) ⟨by first | exact rgp_l hv4.1 (by decide) | omega, by first | exact q_f2816912d h_1 ha3 | omega⟩ (by omega)
              · refine v_ic_ge_f (t := 129) c_253_99 rfl ⟨(Int.le_trans (by decide) hy_153.1), (Int.not_le.mp h_155), (Int.le_trans ha2.2 (by decide))⟩ (q_aload_n c_253_102 rfl (q_iload c_253_103 rfl (q_iload c_253_105 rfl (q_iload c_253_107 rfl (q_iconst c_253_109 (v_iadd (v := y_148 + 1) c_253_110 rfl (q_aload_n c_253_111 rfl ?_)))))))
                have kn_170 : Hid (c_145 41 20 = c 41 20) := (hF_147 41 20 (fun h => absurd h.2 (ni rfl))).trans (hid kn_144)
                have kn_171 : Hid (c_150 41 20 = c 41 20) := (hF_152 41 20 (fun h => absurd h.2 (ni rfl))).trans (hid kn_170)
                refine v_gi (z := 20) (v := c 41 20) c_253_112 kf_8_157 rfl (nb_ rfl) rfl rfl (hid kn_171) ?_
                have h_172 : 0 ≤ ((y_148 + 1) % (c 41 20)) ∧ ((y_148 + 1) % (c 41 20)) < c 41 20 := rem_bd (by omega)
                refine v_irem (v := ((y_148 + 1) % (c 41 20))) c_253_115 (by omega) rfl (q_iload c_253_116 rfl (q_iconst c_253_118 (v_iadd (v := y_148 + 2) c_253_119 rfl (q_aload_n c_253_120 rfl (v_gi (z := 20) (v := c 41 20) c_253_121 kf_8_157 rfl (nb_ rfl) rfl rfl (hid kn_171) ?_)))))
                have h_173 : 0 ≤ ((y_148 + 2) % (c 41 20)) ∧ ((y_148 + 2) % (c 41 20)) < c 41 20 := rem_bd (by omega)
                refine v_irem (v := ((y_148 + 2) % (c 41 20))) c_253_124 (by omega) rfl (v_cv c_253_125 km_8_339 rfl rfl (nb_ rfl) ⟨⟨rfl, rfl⟩, nb_ rfl, rfl⟩ (nb_ rfl) (nb_ rfl) (s_193 (a1 := y_142) (a2 := y_148) (a3 := ((y_148 + 1) % (c 41 20))) (a4 := ((y_148 + 2) % (c 41 20))) hI_151 (show 0 ≤ y_142 ∧ y_142 ≤ 3 from ⟨hy_142.1, by first | exact q_0ca5d8218 h_121 h_143 | omega⟩) (show 0 ≤ y_148 ∧ y_148 ≤ 5 from ⟨hy_148.1, by first | exact q_4176b68dd h_149 h_2 | omega⟩) (show 0 ≤ ((y_148 + 1) % (c 41 20)) ∧ ((y_148 + 1) % (c 41 20)) ≤ 5 from ⟨by first | exact q_c4fec1d75 h_172 | omega, by first | exact q_5fbbc52e7 h_172 h_2 | omega⟩) (show 0 ≤ ((y_148 + 2) % (c 41 20)) ∧ ((y_148 + 2) % (c 41 20)) ≤ 5 from ⟨by first | exact q_c4fec1d75 h_173 | omega, by first | exact q_5fbbc52e7 h_173 h_2 | omega⟩) (fun c_174 y_177 hI_175 hF_176 hy_177 => (bk_inl (q_pop c_253_128 rfl (q_aload_n c_253_129 rfl ?_))))))
                have kn_178 : Hid (c_174 41 20 = c 41 20) := (hF_176 41 20 (fun h => absurd h (nn rfl))).trans (hid kn_171)
                refine v_gi (z := 20) (v := c 41 20) c_253_130 kf_8_157 rfl (nb_ rfl) rfl rfl (hid kn_178) (v_if_le_f (t := 149) c_253_133 rfl ⟨by decide, by first | exact q_7e5049a7f h_108 | omega, by first | exact q_b289b7db2 h_2 | omega⟩ (q_aload_n c_253_136 rfl (q_aload_n c_253_137 rfl (q_aload_n c_253_138 rfl (v_gi (z := 20) (v := c 41 20) c_253_139 kf_8_157 rfl (nb_ rfl) rfl rfl (hid kn_178) (v_cv c_253_142 km_8_442 rfl rfl (nb_ rfl) ⟨⟨rfl, rfl⟩, nb_ rfl, rfl⟩ (nb_ rfl) (nb_ rfl) (s_252 (a1 := c 41 20) hI_175 (show 1 ≤ c 41 20 ∧ c 41 20 ≤ 16 from ⟨by first | exact q_54b3f207f h_108 | omega, by first | exact q_25bfec670 h_2 | omega⟩) (fun c_179 y_182 hI_180 hF_181 hy_182 h_183 => (bk_inl ?_)))))))))
                refine v_cv c_253_145 km_8_350 rfl rfl (nb_ rfl) ⟨⟨rfl, rfl⟩, nb_ rfl, rfl⟩ (nb_ rfl) (nb_ rfl) (s_198 (a1 := y_182) hI_180 (show 0 ≤ y_182 ∧ y_182 ≤ 5 from ⟨hy_182.1, by first | exact q_4176b68dd h_183 h_2 | omega⟩) (fun c_184 y_187 hI_185 hF_186 hy_187 => (bk_inl (q_pop c_253_148 rfl (q_aload_n c_253_149 rfl (v_cv c_253_150 km_8_353 rfl rfl (nb_ rfl) ⟨⟨rfl, rfl⟩, nb_ rfl, rfl⟩ (nb_ rfl) (nb_ rfl) (s_199 hI_185 (fun c_188 hI_189 hF_190 => (bk_inl (v_iinc (v := v4 + 1) c_253_153 rfl (nb_ rfl) rfl (q_goto (t := 12) c_253_156 rfl ?_)))))))))))
                refine Wp_ls [(0, .ref 41), (1, vi a1), (2, vi a2), (3, vi a3), (4, vi (v4 + 1))] (lsub_cons rfl (lsub_cons rfl (lsub_cons rfl (lsub_cons rfl (lsub_cons rfl lsub_nil))))) ?_
                exact ih c_188 (v4 + 1) hI_189 (fun a j hm => (hF_190 a j (fun h => hm (Or.inr (Or.inl h)))).trans ((hF_186 a j (qv_cbc630ed4 hm)).trans ((hF_181 a j (fun h => hm (Or.inl h))).trans ((hF_176 a j (fun h => hm (Or.inr (Or.inl h)))).trans ((hF_152 a j (fun h => hm (Or.inl h))).trans ((hF_147 a j (fun h => hm (Or.inl h))).trans ((hF_141 a j (fun h => hm (Or.inl h))).trans ((hF_104 a j (fun h => hm (Or.inr (Or.inl h)))).trans ((hF_99 a j (fun h => hm (Or.inl h))).trans ((hF_93 a j (fun h => hm (Or.inl h))).trans (hF a j hm))))))))))) ⟨by first | exact rgp_l hv4.1 (by decide) | omega, by first | exact q_f2816912d h_1 ha3 | omega⟩ (by omega)
set_option maxRecDepth 100000 in
set_option maxHeartbeats 4000000 in
theorem s_253 {sc : List Int32} {d P Q : Nat} {c : ME} {a1 : Int} {a2 : Int} {a3 : Int} {Z : AR → Prop} (hI : Iv 0 (-1) P Q c) (ha1 : (-2147483648) ≤ a1 ∧ a1 ≤ 2147483647) (ha2 : 0 ≤ a2 ∧ a2 ≤ 16) (ha3 : 1 ≤ a3 ∧ a3 ≤ 48) (K : ∀ (c2 : ME), Iv 0 (-1) P Q c2 → (∀ (a : Nat) (j : Int), ¬ ((a = 41 ∧ j = 50) ∨ a = 59 ∨ a = 54 ∨ a = 55) → c2 a j = c a j) → Z (.inl (none), Wd P Q P P c2, 0, 0)) : Wp sc (d + 14) 253 0 [(0, .ref 41), (1, vi a1), (2, vi a2), (3, vi a3)] [] (Wd P Q P P c) 0 0 Z := by
  have hP := iv_P hI
  have hQ := iv_Q hI
  refine q_aload_n c_253_0 rfl (v_cv c_253_1 km_8_317 rfl rfl (nb_ rfl) ⟨⟨rfl, rfl⟩, nb_ rfl, rfl⟩ (nb_ rfl) (nb_ rfl) (s_186 hI (fun c_191 hI_192 hF_193 => (bk_inl (q_aload_n c_253_4 rfl (q_iload_n c_253_5 rfl (v_pi (z := 50) c_253_6 kf_8_438 rfl (nb_ rfl) rfl rfl rfl (by decide) (q_iconst c_253_9 (q_istore c_253_10 (nb_ rfl) ?_)))))))))
  have hI_194 := iw_41_50 (v := a1) hI_192 ⟨ha1.1, ha1.2⟩
  refine Wp_ls [(0, .ref 41), (1, vi a1), (2, vi a2), (3, vi a3), (4, vi 0)] (lsub_cons rfl (lsub_cons rfl (lsub_cons rfl (lsub_cons rfl (lsub_cons rfl lsub_nil))))) ?_
  exact (s_253_l (sc := sc) (d := d) hI ha1 ha2 ha3 K 100) (up c_191 41 50 a1) 0 hI_194 (fun a j hm => (up_b (Decidable.or_iff_not_imp_left.mpr (fun h1 h2 => hm (Or.inl ⟨Decidable.not_not.mp h1, h2⟩)))).trans (hF_193 a j (fun h => hm (Or.inr (Or.inl h))))) ⟨by decide, by decide⟩ (by omega)

set_option maxRecDepth 100000 in
set_option maxHeartbeats 4000000 in
theorem s_255 {sc : List Int32} {d P Q : Nat} {c : ME} {a1 : Int} {a2 : Int} {a3 : Int} {a4 : Int} {Z : AR → Prop} (hI : Iv 0 (-1) P Q c) (ha1 : (-2147483648) ≤ a1 ∧ a1 ≤ 2147483647) (ha2 : (-2147483648) ≤ a2 ∧ a2 ≤ 2147483647) (ha3 : (-2147483648) ≤ a3 ∧ a3 ≤ 2147483647) (ha4 : (-2147483648) ≤ a4 ∧ a4 ≤ 2147483647) (K : ∀ (c2 : ME) (y : Int), Iv 0 (-1) P Q c2 → (∀ (a : Nat) (j : Int), ¬ ((a = 41 ∧ j = 0) ∨ a = 42 ∨ (a = 41 ∧ j = 50) ∨ a = 59 ∨ a = 54 ∨ a = 55) → c2 a j = c a j) → (-2147483648) ≤ y ∧ y ≤ 2147483647 → Z (.inl (some (vi y)), Wd P Q P P c2, 0, 0)) : Wp sc (d + 15) 255 0 [(0, .ref 41), (1, vi a1), (2, vi a2), (3, vi a3), (4, vi a4)] [] (Wd P Q P P c) 0 0 Z := by
  have hP := iv_P hI
  have hQ := iv_Q hI
  refine q_aload_n c_255_0 rfl (q_iconst c_255_1 (v_pi (z := 0) c_255_2 kf_8_3 rfl (nb_ rfl) rfl rfl rfl (by decide) (q_aload_n c_255_5 rfl (q_iload_n c_255_6 rfl (q_iload_n c_255_7 rfl (q_call c_255_8 rfl rfl rfl (q_iload_n c_254_0 rfl ?_)))))))
  by_cases h_1 : a2 < 0
  · refine v_if_lt_t (t := 25) c_254_1 rfl ⟨ha2.1, h_1, by decide⟩ (q_iconst c_254_25 (v_zret c_254_26 rfl (by decide) (bk_inl (v_if_eq_t (t := 28) c_255_11 rfl (by decide) (q_iconst c_255_28 (q_iconst c_255_29 (q_iconst c_255_30 ?_)))))))
    refine v_cv c_255_31 km_8_203 rfl rfl (nb_ rfl) ⟨⟨rfl, rfl⟩, nb_ rfl, rfl⟩ (nb_ rfl) (nb_ rfl) (q_iload_n c_145_0 rfl (v_if_ne_f (t := 26) c_145_1 rfl (by decide) (q_aload_n c_145_4 rfl (v_gi (z := 0) (v := 0) c_145_5 kf_8_3 rfl (nb_ rfl) rfl rfl (up_e rfl) (v_if_ne_f (t := 26) c_145_8 rfl (by decide) (q_aload_n c_145_11 rfl (q_iload_n c_145_12 rfl ?_)))))))
    refine v_pi (z := 0) c_145_13 kf_8_3 rfl (nb_ rfl) rfl rfl rfl (by decide) (q_aload_n c_145_16 rfl (v_gr (t := 42) c_145_17 kf_8_7 rfl (nb_ rfl) rfl (q_iload_n c_145_20 rfl (q_dup2 c_145_21 ⟨rfl, rfl⟩ ?_))))
    have h_2 := ir_42 hI 1
    refine v_ia (v := c 42 1) c_145_22 rfl (by decide) (by decide) (by decide) ((up_c (nn rfl)).trans (up_c (nn rfl))) (q_iconst c_145_23 (v_iadd (v := c 42 1 + 1) c_145_24 rfl (v_nrm (fun y_3 hy_3 => (v_is c_145_25 rfl (by decide) (by decide) (by decide) (q_aload_n c_145_26 rfl (v_gi (z := 0) (v := 1) c_145_27 kf_8_3 rfl (nb_ rfl) rfl rfl ((up_c (nn rfl)).trans (up_e rfl)) (v_if_ne_t (t := 37) c_145_30 rfl (by decide) ?_))))))))
    refine q_iconst c_145_37 (v_zret c_145_38 rfl (by decide) (bk_inl (v_if_ne_f (t := 39) c_255_34 rfl (by decide) (q_iconst c_255_37 (q_iret c_255_38 rfl ?_)))))
    have hI_4 := iw_41_0 (v := 0) hI ⟨by decide, by decide⟩
    have hI_5 := iw_41_0 (v := 1) hI_4 ⟨by decide, by decide⟩
    have hI_6 := iw_42 (j := 1) (v := y_3) hI_5 ⟨hy_3.1, hy_3.2⟩
    exact K (up (up (up c 41 0 0) 41 0 1) 42 1 y_3) 0 hI_6 (fun a j hm => (up_b (Decidable.or_iff_not_imp_left.mpr (fun h1 h2 => hm (Or.inr (Or.inl (Decidable.not_not.mp h1)))))).trans ((up_b (Decidable.or_iff_not_imp_left.mpr (fun h1 h2 => hm (Or.inl ⟨Decidable.not_not.mp h1, h2⟩)))).trans (up_b (Decidable.or_iff_not_imp_left.mpr (fun h1 h2 => hm (Or.inl ⟨Decidable.not_not.mp h1, h2⟩)))))) ⟨by decide, by decide⟩
  · refine v_if_lt_f (t := 25) c_254_1 rfl ⟨by decide, (Int.not_lt.mp h_1), ha2.2⟩ (q_iload_n c_254_4 rfl (v_bip c_254_5 (by decide) ?_))
    by_cases h_7 : a2 > 16
    · refine v_ic_gt_t (t := 25) c_254_7 rfl ⟨by decide, h_7, ha2.2⟩ (q_iconst c_254_25 (v_zret c_254_26 rfl (by decide) (bk_inl (v_if_eq_t (t := 28) c_255_11 rfl (by decide) (q_iconst c_255_28 (q_iconst c_255_29 (q_iconst c_255_30 ?_)))))))
      refine v_cv c_255_31 km_8_203 rfl rfl (nb_ rfl) ⟨⟨rfl, rfl⟩, nb_ rfl, rfl⟩ (nb_ rfl) (nb_ rfl) (q_iload_n c_145_0 rfl (v_if_ne_f (t := 26) c_145_1 rfl (by decide) (q_aload_n c_145_4 rfl (v_gi (z := 0) (v := 0) c_145_5 kf_8_3 rfl (nb_ rfl) rfl rfl (up_e rfl) (v_if_ne_f (t := 26) c_145_8 rfl (by decide) (q_aload_n c_145_11 rfl (q_iload_n c_145_12 rfl ?_)))))))
      refine v_pi (z := 0) c_145_13 kf_8_3 rfl (nb_ rfl) rfl rfl rfl (by decide) (q_aload_n c_145_16 rfl (v_gr (t := 42) c_145_17 kf_8_7 rfl (nb_ rfl) rfl (q_iload_n c_145_20 rfl (q_dup2 c_145_21 ⟨rfl, rfl⟩ ?_))))
      have h_8 := ir_42 hI 1
      refine v_ia (v := c 42 1) c_145_22 rfl (by decide) (by decide) (by decide) ((up_c (nn rfl)).trans (up_c (nn rfl))) (q_iconst c_145_23 (v_iadd (v := c 42 1 + 1) c_145_24 rfl (v_nrm (fun y_9 hy_9 => (v_is c_145_25 rfl (by decide) (by decide) (by decide) (q_aload_n c_145_26 rfl (v_gi (z := 0) (v := 1) c_145_27 kf_8_3 rfl (nb_ rfl) rfl rfl ((up_c (nn rfl)).trans (up_e rfl)) (v_if_ne_t (t := 37) c_145_30 rfl (by decide) ?_))))))))
      refine q_iconst c_145_37 (v_zret c_145_38 rfl (by decide) (bk_inl (v_if_ne_f (t := 39) c_255_34 rfl (by decide) (q_iconst c_255_37 (q_iret c_255_38 rfl ?_)))))
      have hI_10 := iw_41_0 (v := 0) hI ⟨by decide, by decide⟩
      have hI_11 := iw_41_0 (v := 1) hI_10 ⟨by decide, by decide⟩
      have hI_12 := iw_42 (j := 1) (v := y_9) hI_11 ⟨hy_9.1, hy_9.2⟩
      exact K (up (up (up c 41 0 0) 41 0 1) 42 1 y_9) 0 hI_12 (fun a j hm => (up_b (Decidable.or_iff_not_imp_left.mpr (fun h1 h2 => hm (Or.inr (Or.inl (Decidable.not_not.mp h1)))))).trans ((up_b (Decidable.or_iff_not_imp_left.mpr (fun h1 h2 => hm (Or.inl ⟨Decidable.not_not.mp h1, h2⟩)))).trans (up_b (Decidable.or_iff_not_imp_left.mpr (fun h1 h2 => hm (Or.inl ⟨Decidable.not_not.mp h1, h2⟩)))))) ⟨by decide, by decide⟩
    · refine v_ic_gt_f (t := 25) c_254_7 rfl ⟨ha2.1, (Int.not_lt.mp h_7), by decide⟩ (q_iload_n c_254_10 rfl (q_iconst c_254_11 ?_))
      by_cases h_13 : a3 < 1
      · refine v_ic_lt_t (t := 25) c_254_12 rfl ⟨ha3.1, h_13, by decide⟩ (q_iconst c_254_25 (v_zret c_254_26 rfl (by decide) (bk_inl (v_if_eq_t (t := 28) c_255_11 rfl (by decide) (q_iconst c_255_28 (q_iconst c_255_29 (q_iconst c_255_30 ?_)))))))
        refine v_cv c_255_31 km_8_203 rfl rfl (nb_ rfl) ⟨⟨rfl, rfl⟩, nb_ rfl, rfl⟩ (nb_ rfl) (nb_ rfl) (q_iload_n c_145_0 rfl (v_if_ne_f (t := 26) c_145_1 rfl (by decide) (q_aload_n c_145_4 rfl (v_gi (z := 0) (v := 0) c_145_5 kf_8_3 rfl (nb_ rfl) rfl rfl (up_e rfl) (v_if_ne_f (t := 26) c_145_8 rfl (by decide) (q_aload_n c_145_11 rfl (q_iload_n c_145_12 rfl ?_)))))))
        refine v_pi (z := 0) c_145_13 kf_8_3 rfl (nb_ rfl) rfl rfl rfl (by decide) (q_aload_n c_145_16 rfl (v_gr (t := 42) c_145_17 kf_8_7 rfl (nb_ rfl) rfl (q_iload_n c_145_20 rfl (q_dup2 c_145_21 ⟨rfl, rfl⟩ ?_))))
        have h_14 := ir_42 hI 1
        refine v_ia (v := c 42 1) c_145_22 rfl (by decide) (by decide) (by decide) ((up_c (nn rfl)).trans (up_c (nn rfl))) (q_iconst c_145_23 (v_iadd (v := c 42 1 + 1) c_145_24 rfl (v_nrm (fun y_15 hy_15 => (v_is c_145_25 rfl (by decide) (by decide) (by decide) (q_aload_n c_145_26 rfl (v_gi (z := 0) (v := 1) c_145_27 kf_8_3 rfl (nb_ rfl) rfl rfl ((up_c (nn rfl)).trans (up_e rfl)) (v_if_ne_t (t := 37) c_145_30 rfl (by decide) ?_))))))))
        refine q_iconst c_145_37 (v_zret c_145_38 rfl (by decide) (bk_inl (v_if_ne_f (t := 39) c_255_34 rfl (by decide) (q_iconst c_255_37 (q_iret c_255_38 rfl ?_)))))
        have hI_16 := iw_41_0 (v := 0) hI ⟨by decide, by decide⟩
        have hI_17 := iw_41_0 (v := 1) hI_16 ⟨by decide, by decide⟩
        have hI_18 := iw_42 (j := 1) (v := y_15) hI_17 ⟨hy_15.1, hy_15.2⟩
        exact K (up (up (up c 41 0 0) 41 0 1) 42 1 y_15) 0 hI_18 (fun a j hm => (up_b (Decidable.or_iff_not_imp_left.mpr (fun h1 h2 => hm (Or.inr (Or.inl (Decidable.not_not.mp h1)))))).trans ((up_b (Decidable.or_iff_not_imp_left.mpr (fun h1 h2 => hm (Or.inl ⟨Decidable.not_not.mp h1, h2⟩)))).trans (up_b (Decidable.or_iff_not_imp_left.mpr (fun h1 h2 => hm (Or.inl ⟨Decidable.not_not.mp h1, h2⟩)))))) ⟨by decide, by decide⟩
      · refine v_ic_lt_f (t := 25) c_254_12 rfl ⟨by decide, (Int.not_lt.mp h_13), ha3.2⟩ (q_iload_n c_254_15 rfl (v_bip c_254_16 (by decide) ?_))
        by_cases h_19 : a3 > 48
        · refine v_ic_gt_t (t := 25) c_254_18 rfl ⟨by decide, h_19, ha3.2⟩ (q_iconst c_254_25 (v_zret c_254_26 rfl (by decide) (bk_inl (v_if_eq_t (t := 28) c_255_11 rfl (by decide) (q_iconst c_255_28 (q_iconst c_255_29 (q_iconst c_255_30 ?_)))))))
          refine v_cv c_255_31 km_8_203 rfl rfl (nb_ rfl) ⟨⟨rfl, rfl⟩, nb_ rfl, rfl⟩ (nb_ rfl) (nb_ rfl) (q_iload_n c_145_0 rfl (v_if_ne_f (t := 26) c_145_1 rfl (by decide) (q_aload_n c_145_4 rfl (v_gi (z := 0) (v := 0) c_145_5 kf_8_3 rfl (nb_ rfl) rfl rfl (up_e rfl) (v_if_ne_f (t := 26) c_145_8 rfl (by decide) (q_aload_n c_145_11 rfl (q_iload_n c_145_12 rfl ?_)))))))
          refine v_pi (z := 0) c_145_13 kf_8_3 rfl (nb_ rfl) rfl rfl rfl (by decide) (q_aload_n c_145_16 rfl (v_gr (t := 42) c_145_17 kf_8_7 rfl (nb_ rfl) rfl (q_iload_n c_145_20 rfl (q_dup2 c_145_21 ⟨rfl, rfl⟩ ?_))))
          have h_20 := ir_42 hI 1
          refine v_ia (v := c 42 1) c_145_22 rfl (by decide) (by decide) (by decide) ((up_c (nn rfl)).trans (up_c (nn rfl))) (q_iconst c_145_23 (v_iadd (v := c 42 1 + 1) c_145_24 rfl (v_nrm (fun y_21 hy_21 => (v_is c_145_25 rfl (by decide) (by decide) (by decide) (q_aload_n c_145_26 rfl (v_gi (z := 0) (v := 1) c_145_27 kf_8_3 rfl (nb_ rfl) rfl rfl ((up_c (nn rfl)).trans (up_e rfl)) (v_if_ne_t (t := 37) c_145_30 rfl (by decide) ?_))))))))
          refine q_iconst c_145_37 (v_zret c_145_38 rfl (by decide) (bk_inl (v_if_ne_f (t := 39) c_255_34 rfl (by decide) (q_iconst c_255_37 (q_iret c_255_38 rfl ?_)))))
          have hI_22 := iw_41_0 (v := 0) hI ⟨by decide, by decide⟩
          have hI_23 := iw_41_0 (v := 1) hI_22 ⟨by decide, by decide⟩
          have hI_24 := iw_42 (j := 1) (v := y_21) hI_23 ⟨hy_21.1, hy_21.2⟩
          exact K (up (up (up c 41 0 0) 41 0 1) 42 1 y_21) 0 hI_24 (fun a j hm => (up_b (Decidable.or_iff_not_imp_left.mpr (fun h1 h2 => hm (Or.inr (Or.inl (Decidable.not_not.mp h1)))))).trans ((up_b (Decidable.or_iff_not_imp_left.mpr (fun h1 h2 => hm (Or.inl ⟨Decidable.not_not.mp h1, h2⟩)))).trans (up_b (Decidable.or_iff_not_imp_left.mpr (fun h1 h2 => hm (Or.inl ⟨Decidable.not_not.mp h1, h2⟩)))))) ⟨by decide, by decide⟩
        · refine v_ic_gt_f (t := 25) c_254_18 rfl ⟨ha3.1, (Int.not_lt.mp h_19), by decide⟩ (q_iconst c_254_21 (q_goto (t := 26) c_254_22 rfl (v_zret c_254_26 rfl (by decide) (bk_inl (v_if_eq_f (t := 28) c_255_11 rfl (by decide) (q_iload c_255_14 rfl (q_iconst c_255_16 ?_)))))))
          refine q_iconst c_255_17 (q_call c_255_18 rfl rfl rfl (q_iload_n c_146_0 rfl (q_iload_n c_146_1 rfl ?_)))
          by_cases h_25 : a4 < 0
          · refine v_ic_lt_t (t := 14) c_146_2 rfl ⟨ha4.1, h_25, by decide⟩ (q_iconst c_146_14 (v_zret c_146_15 rfl (by decide) (bk_inl (v_if_eq_t (t := 28) c_255_21 rfl (by decide) (q_iconst c_255_28 (q_iconst c_255_29 (q_iconst c_255_30 ?_)))))))
            refine v_cv c_255_31 km_8_203 rfl rfl (nb_ rfl) ⟨⟨rfl, rfl⟩, nb_ rfl, rfl⟩ (nb_ rfl) (nb_ rfl) (q_iload_n c_145_0 rfl (v_if_ne_f (t := 26) c_145_1 rfl (by decide) (q_aload_n c_145_4 rfl (v_gi (z := 0) (v := 0) c_145_5 kf_8_3 rfl (nb_ rfl) rfl rfl (up_e rfl) (v_if_ne_f (t := 26) c_145_8 rfl (by decide) (q_aload_n c_145_11 rfl (q_iload_n c_145_12 rfl ?_)))))))
            refine v_pi (z := 0) c_145_13 kf_8_3 rfl (nb_ rfl) rfl rfl rfl (by decide) (q_aload_n c_145_16 rfl (v_gr (t := 42) c_145_17 kf_8_7 rfl (nb_ rfl) rfl (q_iload_n c_145_20 rfl (q_dup2 c_145_21 ⟨rfl, rfl⟩ ?_))))
            have h_26 := ir_42 hI 1
            refine v_ia (v := c 42 1) c_145_22 rfl (by decide) (by decide) (by decide) ((up_c (nn rfl)).trans (up_c (nn rfl))) (q_iconst c_145_23 (v_iadd (v := c 42 1 + 1) c_145_24 rfl (v_nrm (fun y_27 hy_27 => (v_is c_145_25 rfl (by decide) (by decide) (by decide) (q_aload_n c_145_26 rfl (v_gi (z := 0) (v := 1) c_145_27 kf_8_3 rfl (nb_ rfl) rfl rfl ((up_c (nn rfl)).trans (up_e rfl)) (v_if_ne_t (t := 37) c_145_30 rfl (by decide) ?_))))))))
            refine q_iconst c_145_37 (v_zret c_145_38 rfl (by decide) (bk_inl (v_if_ne_f (t := 39) c_255_34 rfl (by decide) (q_iconst c_255_37 (q_iret c_255_38 rfl ?_)))))
            have hI_28 := iw_41_0 (v := 0) hI ⟨by decide, by decide⟩
            have hI_29 := iw_41_0 (v := 1) hI_28 ⟨by decide, by decide⟩
            have hI_30 := iw_42 (j := 1) (v := y_27) hI_29 ⟨hy_27.1, hy_27.2⟩
            exact K (up (up (up c 41 0 0) 41 0 1) 42 1 y_27) 0 hI_30 (fun a j hm => (up_b (Decidable.or_iff_not_imp_left.mpr (fun h1 h2 => hm (Or.inr (Or.inl (Decidable.not_not.mp h1)))))).trans ((up_b (Decidable.or_iff_not_imp_left.mpr (fun h1 h2 => hm (Or.inl ⟨Decidable.not_not.mp h1, h2⟩)))).trans (up_b (Decidable.or_iff_not_imp_left.mpr (fun h1 h2 => hm (Or.inl ⟨Decidable.not_not.mp h1, h2⟩)))))) ⟨by decide, by decide⟩
          · refine v_ic_lt_f (t := 14) c_146_2 rfl ⟨by decide, (Int.not_lt.mp h_25), ha4.2⟩ (q_iload_n c_146_5 rfl (q_iload_n c_146_6 rfl ?_))
            by_cases h_31 : a4 > 3
            · refine v_ic_gt_t (t := 14) c_146_7 rfl ⟨by decide, h_31, ha4.2⟩ (q_iconst c_146_14 (v_zret c_146_15 rfl (by decide) (bk_inl (v_if_eq_t (t := 28) c_255_21 rfl (by decide) (q_iconst c_255_28 (q_iconst c_255_29 (q_iconst c_255_30 ?_)))))))
              refine v_cv c_255_31 km_8_203 rfl rfl (nb_ rfl) ⟨⟨rfl, rfl⟩, nb_ rfl, rfl⟩ (nb_ rfl) (nb_ rfl) (q_iload_n c_145_0 rfl (v_if_ne_f (t := 26) c_145_1 rfl (by decide) (q_aload_n c_145_4 rfl (v_gi (z := 0) (v := 0) c_145_5 kf_8_3 rfl (nb_ rfl) rfl rfl (up_e rfl) (v_if_ne_f (t := 26) c_145_8 rfl (by decide) (q_aload_n c_145_11 rfl (q_iload_n c_145_12 rfl ?_)))))))
              refine v_pi (z := 0) c_145_13 kf_8_3 rfl (nb_ rfl) rfl rfl rfl (by decide) (q_aload_n c_145_16 rfl (v_gr (t := 42) c_145_17 kf_8_7 rfl (nb_ rfl) rfl (q_iload_n c_145_20 rfl (q_dup2 c_145_21 ⟨rfl, rfl⟩ ?_))))
              have h_32 := ir_42 hI 1
              refine v_ia (v := c 42 1) c_145_22 rfl (by decide) (by decide) (by decide) ((up_c (nn rfl)).trans (up_c (nn rfl))) (q_iconst c_145_23 (v_iadd (v := c 42 1 + 1) c_145_24 rfl (v_nrm (fun y_33 hy_33 => (v_is c_145_25 rfl (by decide) (by decide) (by decide) (q_aload_n c_145_26 rfl (v_gi (z := 0) (v := 1) c_145_27 kf_8_3 rfl (nb_ rfl) rfl rfl ((up_c (nn rfl)).trans (up_e rfl)) (v_if_ne_t (t := 37) c_145_30 rfl (by decide) ?_))))))))
              refine q_iconst c_145_37 (v_zret c_145_38 rfl (by decide) (bk_inl (v_if_ne_f (t := 39) c_255_34 rfl (by decide) (q_iconst c_255_37 (q_iret c_255_38 rfl ?_)))))
              have hI_34 := iw_41_0 (v := 0) hI ⟨by decide, by decide⟩
              have hI_35 := iw_41_0 (v := 1) hI_34 ⟨by decide, by decide⟩
              have hI_36 := iw_42 (j := 1) (v := y_33) hI_35 ⟨hy_33.1, hy_33.2⟩
              exact K (up (up (up c 41 0 0) 41 0 1) 42 1 y_33) 0 hI_36 (fun a j hm => (up_b (Decidable.or_iff_not_imp_left.mpr (fun h1 h2 => hm (Or.inr (Or.inl (Decidable.not_not.mp h1)))))).trans ((up_b (Decidable.or_iff_not_imp_left.mpr (fun h1 h2 => hm (Or.inl ⟨Decidable.not_not.mp h1, h2⟩)))).trans (up_b (Decidable.or_iff_not_imp_left.mpr (fun h1 h2 => hm (Or.inl ⟨Decidable.not_not.mp h1, h2⟩)))))) ⟨by decide, by decide⟩
            · refine v_ic_gt_f (t := 14) c_146_7 rfl ⟨ha4.1, (Int.not_lt.mp h_31), by decide⟩ (q_iconst c_146_10 (q_goto (t := 15) c_146_11 rfl (v_zret c_146_15 rfl (by decide) (bk_inl (v_if_eq_f (t := 28) c_255_21 rfl (by decide) (q_iconst c_255_24 (q_goto (t := 29) c_255_25 rfl ?_)))))))
              refine q_iconst c_255_29 (q_iconst c_255_30 (v_cv c_255_31 km_8_203 rfl rfl (nb_ rfl) ⟨⟨rfl, rfl⟩, nb_ rfl, rfl⟩ (nb_ rfl) (nb_ rfl) (q_iload_n c_145_0 rfl (v_if_ne_t (t := 26) c_145_1 rfl (by decide) (q_aload_n c_145_26 rfl (v_gi (z := 0) (v := 0) c_145_27 kf_8_3 rfl (nb_ rfl) rfl rfl (up_e rfl) (v_if_ne_f (t := 37) c_145_30 rfl (by decide) ?_)))))))
              refine q_iconst c_145_33 (q_goto (t := 38) c_145_34 rfl (v_zret c_145_38 rfl (by decide) (bk_inl (v_if_ne_t (t := 39) c_255_34 rfl (by decide) (q_aload_n c_255_39 rfl (q_iload_n c_255_40 rfl (q_iload_n c_255_41 rfl ?_)))))))
              refine q_iload_n c_255_42 rfl ?_
              have hI_37 := iw_41_0 (v := 0) hI ⟨by decide, by decide⟩
              refine v_cv c_255_43 km_8_448 rfl rfl (nb_ rfl) ⟨⟨rfl, rfl⟩, nb_ rfl, rfl⟩ (nb_ rfl) (nb_ rfl) (s_253 (a1 := a1) (a2 := a2) (a3 := a3) hI_37 (show (-2147483648) ≤ a1 ∧ a1 ≤ 2147483647 from ha1) (show 0 ≤ a2 ∧ a2 ≤ 16 from ⟨by first | exact q_720657ba9 h_1 | omega, by first | exact q_7f2151846 h_7 | omega⟩) (show 1 ≤ a3 ∧ a3 ≤ 48 from ⟨by first | exact q_f19038599 h_13 | omega, by first | exact q_1cdd54b12 h_19 | omega⟩) (fun c_38 hI_39 hF_40 => (bk_inl (q_iload c_255_46 rfl ?_))))
              by_cases h_41 : a4 ≠ 0
              · refine v_if_ne_t (t := 69) c_255_48 rfl ⟨h_41, ⟨ha4.1, ha4.2⟩, by decide, by decide⟩ (q_iload c_255_69 rfl (q_iconst c_255_71 ?_))
                by_cases h_42 : a4 ≠ 1
                · refine v_ic_ne_t (t := 82) c_255_72 rfl ⟨h_42, ⟨ha4.1, ha4.2⟩, by decide, by decide⟩ (q_iload c_255_82 rfl (q_iconst c_255_84 ?_))
                  by_cases h_43 : a4 ≠ 2
                  · refine v_ic_ne_t (t := 106) c_255_85 rfl ⟨h_43, ⟨ha4.1, ha4.2⟩, by decide, by decide⟩ (q_aload_n c_255_106 rfl (v_cv c_255_107 km_8_390 rfl rfl (nb_ rfl) ⟨⟨rfl, rfl⟩, nb_ rfl, rfl⟩ (nb_ rfl) (nb_ rfl) (s_209 hI_39 (fun y_44 hy_44 => (bk_inl (q_iret c_255_110 rfl ?_))))))
                    exact K c_38 y_44 hI_39 (fun a j hm => (hF_40 a j (qv_3730a4f02 hm)).trans (up_b (Decidable.or_iff_not_imp_left.mpr (fun h1 h2 => hm (Or.inl ⟨Decidable.not_not.mp h1, h2⟩))))) hy_44
                  · refine v_ic_ne_f (t := 106) c_255_85 rfl (Decidable.not_not.mp h_43) (q_aload_n c_255_88 rfl (v_gr (t := 59) c_255_89 kf_8_68 rfl (nb_ rfl) rfl (v_bip c_255_92 (by decide) ?_)))
                    have h_45 := ir_59 hI_39 35
                    refine v_ia (v := c_38 59 35) c_255_94 rfl (by decide) (by decide) (by decide) rfl (q_aload_n c_255_95 rfl (v_gr (t := 58) c_255_96 kf_8_65 rfl (nb_ rfl) rfl (v_bip c_255_99 (by decide) ?_)))
                    have h_46 := ir_58 hI 35
                    have kn_47 : Hid (c_38 58 35 = c 58 35) := (hF_40 58 35 qn_11637025e).trans (up_c (nn rfl))
                    refine v_ia (v := c 58 35) c_255_101 rfl (by decide) (by decide) (by decide) (hid kn_47) (v_isub (v := c_38 59 35 - c 58 35) c_255_102 (by first | exact q_888803a02 | omega) (v_nrm (fun y_48 hy_48 => (q_goto (t := 110) c_255_103 rfl (q_iret c_255_110 rfl ?_)))))
                    exact K c_38 y_48 hI_39 (fun a j hm => (hF_40 a j (qv_3730a4f02 hm)).trans (up_b (Decidable.or_iff_not_imp_left.mpr (fun h1 h2 => hm (Or.inl ⟨Decidable.not_not.mp h1, h2⟩))))) hy_48
                · refine v_ic_ne_f (t := 82) c_255_72 rfl (Decidable.not_not.mp h_42) (q_aload_n c_255_75 rfl (v_cv c_255_76 km_8_387 rfl rfl (nb_ rfl) ⟨⟨rfl, rfl⟩, nb_ rfl, rfl⟩ (nb_ rfl) (nb_ rfl) (s_203 hI_39 (fun y_49 hy_49 => (bk_inl (q_goto (t := 110) c_255_79 rfl (q_iret c_255_110 rfl ?_)))))))
                  exact K c_38 y_49 hI_39 (fun a j hm => (hF_40 a j (qv_3730a4f02 hm)).trans (up_b (Decidable.or_iff_not_imp_left.mpr (fun h1 h2 => hm (Or.inl ⟨Decidable.not_not.mp h1, h2⟩))))) hy_49
              · refine v_if_ne_f (t := 69) c_255_48 rfl (Decidable.not_not.mp h_41) (q_aload_n c_255_51 rfl (v_gr (t := 59) c_255_52 kf_8_68 rfl (nb_ rfl) rfl (v_bip c_255_55 (by decide) ?_)))
                have h_50 := ir_59 hI_39 36
                refine v_ia (v := c_38 59 36) c_255_57 rfl (by decide) (by decide) (by decide) rfl (q_aload_n c_255_58 rfl (v_gr (t := 58) c_255_59 kf_8_65 rfl (nb_ rfl) rfl (v_bip c_255_62 (by decide) ?_)))
                have h_51 := ir_58 hI 36
                have kn_52 : Hid (c_38 58 36 = c 58 36) := (hF_40 58 36 qn_11637025e).trans (up_c (nn rfl))
                refine v_ia (v := c 58 36) c_255_64 rfl (by decide) (by decide) (by decide) (hid kn_52) (v_isub (v := c_38 59 36 - c 58 36) c_255_65 (by first | exact q_888803a02 | omega) (v_nrm (fun y_53 hy_53 => (q_goto (t := 110) c_255_66 rfl (q_iret c_255_110 rfl ?_)))))
                exact K c_38 y_53 hI_39 (fun a j hm => (hF_40 a j (qv_3730a4f02 hm)).trans (up_b (Decidable.or_iff_not_imp_left.mpr (fun h1 h2 => hm (Or.inl ⟨Decidable.not_not.mp h1, h2⟩))))) hy_53

set_option maxRecDepth 100000 in
set_option maxHeartbeats 4000000 in
theorem s_256_l {sc : List Int32} {d P Q : Nat} {c : ME} {a1 : Int} {a2 : Int} {a3 : Int} {a4 : Int} {a5 : Int} {a6 : Int} {Z : AR → Prop} (hI : Iv 0 (-1) P Q c) (ha1 : (-2147483648) ≤ a1 ∧ a1 ≤ 2147483647) (ha2 : (-2147483648) ≤ a2 ∧ a2 ≤ 2147483647) (ha3 : (-2147483648) ≤ a3 ∧ a3 ≤ 2147483647) (ha4 : (-2147483648) ≤ a4 ∧ a4 ≤ 2147483647) (ha5 : (-2147483648) ≤ a5 ∧ a5 ≤ 2147483647) (ha6 : (-2147483648) ≤ a6 ∧ a6 ≤ 2147483647) (K : ∀ (c2 : ME) (y : Int), Iv 0 (-1) P Q c2 → (∀ (a : Nat) (j : Int), ¬ ((a = 41 ∧ j = 0) ∨ a = 42 ∨ (a = 41 ∧ j = 50) ∨ a = 59 ∨ a = 54 ∨ a = 55) → c2 a j = c a j) → (-2147483648) ≤ y ∧ y ≤ 2147483647 → Z (.inl (some (vi y)), Wd P Q P P c2, 0, 0)) : ∀ n : Nat, (∀ (c2 : ME) (v7 : Int) (v8 : Int) (v9 : Int) (v10 : Int), Iv 0 (-1) P Q c2 → (∀ (a : Nat) (j : Int), ¬ ((a = 41 ∧ j = 0) ∨ a = 42 ∨ (a = 41 ∧ j = 50) ∨ a = 59 ∨ a = 54 ∨ a = 55) → c2 a j = c a j) → (-2147483648) ≤ v7 ∧ v7 ≤ 2147483647 → 0 ≤ v8 ∧ v8 ≤ 2147483647 → (-2147483648) ≤ v9 ∧ v9 ≤ 2147483647 → 0 ≤ v10 ∧ v10 ≤ 10 → ((a2 ≥ 1 ∧ a2 ≤ 10)) → ((a6 ≥ 0 ∧ a6 ≤ 5)) → ((a3 ≥ 0 ∧ a3 ≤ 16)) → ((a4 ≥ 1 ∧ a4 ≤ 48)) → 21 - 2 * v10 < (n : Int) → Wp sc (d + 15) 256 77 [(0, .ref 41), (1, vi a1), (2, vi a2), (3, vi a3), (4, vi a4), (5, vi a5), (6, vi a6), (7, vi v7), (8, vi v8), (9, vi v9), (10, vi v10)] [] (Wd P Q P P c2) 0 0 Z) := by
  intro n
  induction n with
  | zero => exact (by intro c2 v7 v8 v9 v10 hI2 hF hv7 hv8 hv9 hv10 hx0 hx1 hx2 hx3 hm9; have hP := iv_P hI; have hQ := iv_Q hI; exfalso; omega)
  | succ n ih =>
    have hP := iv_P hI
    have hQ := iv_Q hI
    intro c2 v7 v8 v9 v10 hI2 hF hv7 hv8 hv9 hv10 hx0 hx1 hx2 hx3 hm9
    refine q_iload c_256_77 rfl (q_iload_n c_256_79 rfl ?_)
    by_cases h_1 : v10 ≥ a2
    · refine v_ic_ge_t (t := 174) c_256_80 rfl ⟨ha2.1, h_1, (Int.le_trans hv10.2 (by decide))⟩ (q_iload c_256_174 rfl ?_)
      by_cases h_2 : a5 ≠ 0
      · refine v_if_ne_t (t := 184) c_256_176 rfl ⟨h_2, ⟨ha5.1, ha5.2⟩, by decide, by decide⟩ (q_iload c_256_184 rfl (q_iconst c_256_186 ?_))
        by_cases h_3 : a5 ≠ 1
        · refine v_ic_ne_t (t := 195) c_256_187 rfl ⟨h_3, ⟨ha5.1, ha5.2⟩, by decide, by decide⟩ (q_iload c_256_195 rfl (q_iret c_256_197 rfl ?_))
          exact K c2 v9 hI2 (fun a j hm => hF a j hm) hv9
        · refine v_ic_ne_f (t := 195) c_256_187 rfl (Decidable.not_not.mp h_3) (q_iload c_256_190 rfl (q_goto (t := 197) c_256_192 rfl (q_iret c_256_197 rfl ?_)))
          exact K c2 v8 hI2 (fun a j hm => hF a j hm) ⟨(Int.le_trans (by decide) hv8.1), hv8.2⟩
      · refine v_if_ne_f (t := 184) c_256_176 rfl (Decidable.not_not.mp h_2) (q_iload c_256_179 rfl (q_goto (t := 197) c_256_181 rfl (q_iret c_256_197 rfl ?_)))
        exact K c2 v7 hI2 (fun a j hm => hF a j hm) hv7
    · refine v_ic_ge_f (t := 174) c_256_80 rfl ⟨(Int.le_trans (by decide) hv10.1), (Int.not_le.mp h_1), ha2.2⟩ (q_aload_n c_256_83 rfl (q_iload_n c_256_84 rfl (q_iload c_256_85 rfl (v_iadd (v := a1 + v10) c_256_87 rfl (v_nrm (fun y_4 hy_4 => (q_iload_n c_256_88 rfl (q_iload c_256_89 rfl ?_))))))))
      refine v_cv c_256_91 km_8_448 rfl rfl (nb_ rfl) ⟨⟨rfl, rfl⟩, nb_ rfl, rfl⟩ (nb_ rfl) (nb_ rfl) (s_253 (a1 := y_4) (a2 := a3) (a3 := a4) hI2 (show (-2147483648) ≤ y_4 ∧ y_4 ≤ 2147483647 from hy_4) (show 0 ≤ a3 ∧ a3 ≤ 16 from ⟨by first | (clear ha1 ha2 ha3 ha4 ha5 ha6 hv7 hv8 hv9 hv10 hx0 hx1 hx3 h_1; omega) | omega, by first | (clear ha1 ha2 ha3 ha4 ha5 ha6 hv7 hv8 hv9 hv10 hx0 hx1 hx3 h_1; omega) | omega⟩) (show 1 ≤ a4 ∧ a4 ≤ 48 from ⟨by first | (clear ha1 ha2 ha3 ha4 ha5 ha6 hv7 hv8 hv9 hv10 hx0 hx1 hx2 h_1; omega) | omega, by first | (clear ha1 ha2 ha3 ha4 ha5 ha6 hv7 hv8 hv9 hv10 hx0 hx1 hx2 h_1; omega) | omega⟩) (fun c_5 hI_6 hF_7 => (bk_inl (q_aload_n c_256_94 rfl (v_gr (t := 59) c_256_95 kf_8_68 rfl (nb_ rfl) rfl (v_bip c_256_98 (by decide) ?_))))))
      have h_8 := ir_59 hI_6 36
      refine v_ia (v := c_5 59 36) c_256_100 rfl (by decide) (by decide) (by decide) rfl (q_aload_n c_256_101 rfl (v_gr (t := 58) c_256_102 kf_8_65 rfl (nb_ rfl) rfl (v_bip c_256_105 (by decide) ?_)))
      have h_9 := ir_58 hI 36
      have kn_10 : Hid (c2 58 36 = c 58 36) := hF 58 36 qn_8e56cb93c
      have kn_11 : Hid (c_5 58 36 = c 58 36) := (hF_7 58 36 qn_11637025e).trans (hid kn_10)
      refine v_ia (v := c 58 36) c_256_107 rfl (by decide) (by decide) (by decide) (hid kn_11) (v_isub (v := c_5 59 36 - c 58 36) c_256_108 (by first | exact q_888803a02 | omega) (v_nrm (fun y_12 hy_12 => (q_istore c_256_109 (nb_ rfl) (q_iload c_256_111 rfl (q_iconst c_256_113 ?_))))))
      by_cases h_13 : v7 = (-1)
      · refine v_ic_eq_t (t := 124) c_256_114 rfl h_13 (q_iload c_256_124 rfl (q_goto (t := 131) c_256_126 rfl (q_istore c_256_131 (nb_ rfl) (q_iload c_256_133 rfl (q_iload c_256_135 rfl ?_)))))
        by_cases h_14 : y_12 ≤ v8
        · refine v_ic_le_t (t := 145) c_256_137 rfl ⟨hy_12.1, h_14, hv8.2⟩ (q_iload c_256_145 rfl (q_istore c_256_147 (nb_ rfl) (q_iload c_256_149 rfl (q_aload_n c_256_151 rfl (q_iload c_256_152 rfl ?_)))))
          have h_15 := ir_59_g hI_6 (j := 4 * a6) (by first | (clear ha1 ha2 ha3 ha4 ha5 ha6 hv7 hv8 hv9 hv10 hx0 hx2 hx3 h_1 h_8 h_9 h_13 h_14; omega) | omega)
          have h_16 := ir_59_g hI_6 (j := 4 * a6 + 1) (by first | (clear ha1 ha2 ha3 ha4 ha5 ha6 hv7 hv8 hv9 hv10 hx0 hx2 hx3 h_1 h_8 h_9 h_13 h_14 h_15; omega) | omega)
          have h_17 := ir_59_g hI_6 (j := 4 * a6 + 2) (by first | (clear ha1 ha2 ha3 ha4 ha5 ha6 hv7 hv8 hv9 hv10 hx0 hx2 hx3 h_1 h_8 h_9 h_13 h_14 h_15 h_16; omega) | omega)
          have h_18 := ir_59_g hI_6 (j := 4 * a6 + 3) (by first | (clear ha1 ha2 ha3 ha4 ha5 ha6 hv7 hv8 hv9 hv10 hx0 hx2 hx3 h_1 h_8 h_9 h_13 h_14 h_15 h_16 h_17; omega) | omega)
          refine v_cv c_256_154 km_8_343 rfl rfl (nb_ rfl) ⟨⟨rfl, rfl⟩, nb_ rfl, rfl⟩ (nb_ rfl) (nb_ rfl) (s_187 (v1 := c_5 59 (4 * a6)) (v2 := c_5 59 (4 * a6 + 1)) (v3 := c_5 59 (4 * a6 + 2)) (v4 := c_5 59 (4 * a6 + 3)) (r := c_5 59 (4 * a6 + 1) + c_5 59 (4 * a6 + 2) + c_5 59 (4 * a6 + 3) + c_5 59 (4 * a6)) (a1 := a6) hI_6 (show 0 ≤ a6 ∧ a6 ≤ 5 from ⟨by first | (clear ha1 ha2 ha3 ha4 ha5 ha6 hv7 hv8 hv9 hv10 hx0 hx2 hx3 h_1 h_8 h_9 h_13 h_14; omega) | omega, by first | (clear ha1 ha2 ha3 ha4 ha5 ha6 hv7 hv8 hv9 hv10 hx0 hx2 hx3 h_1 h_8 h_9 h_13 h_14; omega) | omega⟩) (rfl) (rfl) (rfl) (rfl) (by omega) (bk_inl ?_))
          by_cases h_19 : c_5 59 (4 * a6 + 1) + c_5 59 (4 * a6 + 2) + c_5 59 (4 * a6 + 3) + c_5 59 (4 * a6) ≠ 0
          · refine v_if_ne_t (t := 164) c_256_157 rfl ⟨h_19, ⟨by first | exact q_e052ef40e h_15 h_16 h_17 h_18 | omega, by first | exact q_db9ef1f4a h_15 h_16 h_17 h_18 | omega⟩, by decide, by decide⟩ (q_iconst c_256_164 (v_iadd (v := v9) c_256_165 (by first | exact q_7038fede5 | omega) (q_istore c_256_166 (nb_ rfl) (v_iinc (v := v10 + 1) c_256_168 rfl (nb_ rfl) rfl (Wp_ls [(10, vi (v10 + 1)), (9, vi v9), (8, vi v8), (7, vi y_12), (11, vi y_12), (0, .ref 41), (1, vi a1), (2, vi a2), (3, vi a3), (4, vi a4), (5, vi a5), (6, vi a6)] (lsub_cons rfl (lsub_cons rfl (lsub_cons rfl (lsub_cons rfl (lsub_cons rfl (lsub_cons rfl (lsub_cons rfl (lsub_cons rfl (lsub_cons rfl (lsub_cons rfl (lsub_cons rfl (lsub_cons rfl lsub_nil)))))))))))) (q_goto (t := 77) c_256_171 rfl (Wp_ls [(0, .ref 41), (1, vi a1), (2, vi a2), (3, vi a3), (4, vi a4), (5, vi a5), (6, vi a6), (7, vi y_12), (8, vi v8), (9, vi v9), (10, vi (v10 + 1))] (lsub_cons rfl (lsub_cons rfl (lsub_cons rfl (lsub_cons rfl (lsub_cons rfl (lsub_cons rfl (lsub_cons rfl (lsub_cons rfl (lsub_cons rfl (lsub_cons rfl (lsub_cons rfl lsub_nil))))))))))) ?_)))))))
            exact ih c_5 y_12 v8 v9 (v10 + 1) hI_6 (fun a j hm => (hF_7 a j (qv_3730a4f02 hm)).trans (hF a j hm)) hy_12 hv8 hv9 ⟨by first | exact rgp_l hv10.1 (by decide) | omega, by first | (clear ha1 ha2 ha3 ha4 ha5 ha6 hv7 hv8 hv9 hv10 hx1 hx2 hx3 h_8 h_9 h_13 h_14 h_15 h_16 h_17 h_18 h_19; omega) | omega⟩ ⟨by first | (clear ha1 ha2 ha3 ha4 ha5 ha6 hv7 hv8 hv9 hv10 hx1 hx2 hx3 h_1 h_8 h_9 h_13 h_14 h_15 h_16 h_17 h_18 h_19; omega) | omega, by first | (clear ha1 ha2 ha3 ha4 ha5 ha6 hv7 hv8 hv9 hv10 hx1 hx2 hx3 h_1 h_8 h_9 h_13 h_14 h_15 h_16 h_17 h_18 h_19; omega) | omega⟩ ⟨by first | (clear ha1 ha2 ha3 ha4 ha5 ha6 hv7 hv8 hv9 hv10 hx0 hx2 hx3 h_1 h_8 h_9 h_13 h_14 h_15 h_16 h_17 h_18 h_19; omega) | omega, by first | (clear ha1 ha2 ha3 ha4 ha5 ha6 hv7 hv8 hv9 hv10 hx0 hx2 hx3 h_1 h_8 h_9 h_13 h_14 h_15 h_16 h_17 h_18 h_19; omega) | omega⟩ ⟨by first | (clear ha1 ha2 ha3 ha4 ha5 ha6 hv7 hv8 hv9 hv10 hx0 hx1 hx3 h_1 h_8 h_9 h_13 h_14 h_15 h_16 h_17 h_18 h_19; omega) | omega, by first | (clear ha1 ha2 ha3 ha4 ha5 ha6 hv7 hv8 hv9 hv10 hx0 hx1 hx3 h_1 h_8 h_9 h_13 h_14 h_15 h_16 h_17 h_18 h_19; omega) | omega⟩ ⟨by first | (clear ha1 ha2 ha3 ha4 ha5 ha6 hv7 hv8 hv9 hv10 hx0 hx1 hx2 h_1 h_8 h_9 h_13 h_14 h_15 h_16 h_17 h_18 h_19; omega) | omega, by first | (clear ha1 ha2 ha3 ha4 ha5 ha6 hv7 hv8 hv9 hv10 hx0 hx1 hx2 h_1 h_8 h_9 h_13 h_14 h_15 h_16 h_17 h_18 h_19; omega) | omega⟩ (by omega)
          · refine v_if_ne_f (t := 164) c_256_157 rfl (Decidable.not_not.mp h_19) (q_iconst c_256_160 (q_goto (t := 165) c_256_161 rfl (v_iadd (v := v9 + 1) c_256_165 rfl (v_nrm (fun y_20 hy_20 => (q_istore c_256_166 (nb_ rfl) (v_iinc (v := v10 + 1) c_256_168 rfl (nb_ rfl) rfl (Wp_ls [(10, vi (v10 + 1)), (9, vi y_20), (8, vi v8), (7, vi y_12), (11, vi y_12), (0, .ref 41), (1, vi a1), (2, vi a2), (3, vi a3), (4, vi a4), (5, vi a5), (6, vi a6)] (lsub_cons rfl (lsub_cons rfl (lsub_cons rfl (lsub_cons rfl (lsub_cons rfl (lsub_cons rfl (lsub_cons rfl (lsub_cons rfl (lsub_cons rfl (lsub_cons rfl (lsub_cons rfl (lsub_cons rfl lsub_nil)))))))))))) ?_))))))))
            refine q_goto (t := 77) c_256_171 rfl (Wp_ls [(0, .ref 41), (1, vi a1), (2, vi a2), (3, vi a3), (4, vi a4), (5, vi a5), (6, vi a6), (7, vi y_12), (8, vi v8), (9, vi y_20), (10, vi (v10 + 1))] (lsub_cons rfl (lsub_cons rfl (lsub_cons rfl (lsub_cons rfl (lsub_cons rfl (lsub_cons rfl (lsub_cons rfl (lsub_cons rfl (lsub_cons rfl (lsub_cons rfl (lsub_cons rfl lsub_nil))))))))))) ?_)
            exact ih c_5 y_12 v8 y_20 (v10 + 1) hI_6 (fun a j hm => (hF_7 a j (qv_3730a4f02 hm)).trans (hF a j hm)) hy_12 hv8 hy_20 ⟨by first | exact rgp_l hv10.1 (by decide) | omega, by first | (clear ha1 ha2 ha3 ha4 ha5 ha6 hv7 hv8 hv9 hv10 hx1 hx2 hx3 h_8 h_9 h_13 h_14 h_15 h_16 h_17 h_18 h_19; omega) | omega⟩ ⟨by first | (clear ha1 ha2 ha3 ha4 ha5 ha6 hv7 hv8 hv9 hv10 hx1 hx2 hx3 h_1 h_8 h_9 h_13 h_14 h_15 h_16 h_17 h_18 h_19; omega) | omega, by first | (clear ha1 ha2 ha3 ha4 ha5 ha6 hv7 hv8 hv9 hv10 hx1 hx2 hx3 h_1 h_8 h_9 h_13 h_14 h_15 h_16 h_17 h_18 h_19; omega) | omega⟩ ⟨by first | (clear ha1 ha2 ha3 ha4 ha5 ha6 hv7 hv8 hv9 hv10 hx0 hx2 hx3 h_1 h_8 h_9 h_13 h_14 h_15 h_16 h_17 h_18 h_19; omega) | omega, by first | (clear ha1 ha2 ha3 ha4 ha5 ha6 hv7 hv8 hv9 hv10 hx0 hx2 hx3 h_1 h_8 h_9 h_13 h_14 h_15 h_16 h_17 h_18 h_19; omega) | omega⟩ ⟨by first | (clear ha1 ha2 ha3 ha4 ha5 ha6 hv7 hv8 hv9 hv10 hx0 hx1 hx3 h_1 h_8 h_9 h_13 h_14 h_15 h_16 h_17 h_18 h_19; omega) | omega, by first | (clear ha1 ha2 ha3 ha4 ha5 ha6 hv7 hv8 hv9 hv10 hx0 hx1 hx3 h_1 h_8 h_9 h_13 h_14 h_15 h_16 h_17 h_18 h_19; omega) | omega⟩ ⟨by first | (clear ha1 ha2 ha3 ha4 ha5 ha6 hv7 hv8 hv9 hv10 hx0 hx1 hx2 h_1 h_8 h_9 h_13 h_14 h_15 h_16 h_17 h_18 h_19; omega) | omega, by first | (clear ha1 ha2 ha3 ha4 ha5 ha6 hv7 hv8 hv9 hv10 hx0 hx1 hx2 h_1 h_8 h_9 h_13 h_14 h_15 h_16 h_17 h_18 h_19; omega) | omega⟩ (by omega)
        · refine v_ic_le_f (t := 145) c_256_137 rfl ⟨(Int.le_trans (by decide) hv8.1), (Int.not_le.mp h_14), hy_12.2⟩ (q_iload c_256_140 rfl (q_goto (t := 147) c_256_142 rfl (q_istore c_256_147 (nb_ rfl) (q_iload c_256_149 rfl (q_aload_n c_256_151 rfl (q_iload c_256_152 rfl ?_))))))
          have h_21 := ir_59_g hI_6 (j := 4 * a6) (by first | (clear ha1 ha2 ha3 ha4 ha5 ha6 hv7 hv8 hv9 hv10 hx0 hx2 hx3 h_1 h_8 h_9 h_13 h_14; omega) | omega)
          have h_22 := ir_59_g hI_6 (j := 4 * a6 + 1) (by first | (clear ha1 ha2 ha3 ha4 ha5 ha6 hv7 hv8 hv9 hv10 hx0 hx2 hx3 h_1 h_8 h_9 h_13 h_14 h_21; omega) | omega)
          have h_23 := ir_59_g hI_6 (j := 4 * a6 + 2) (by first | (clear ha1 ha2 ha3 ha4 ha5 ha6 hv7 hv8 hv9 hv10 hx0 hx2 hx3 h_1 h_8 h_9 h_13 h_14 h_21 h_22; omega) | omega)
          have h_24 := ir_59_g hI_6 (j := 4 * a6 + 3) (by first | (clear ha1 ha2 ha3 ha4 ha5 ha6 hv7 hv8 hv9 hv10 hx0 hx2 hx3 h_1 h_8 h_9 h_13 h_14 h_21 h_22 h_23; omega) | omega)
          refine v_cv c_256_154 km_8_343 rfl rfl (nb_ rfl) ⟨⟨rfl, rfl⟩, nb_ rfl, rfl⟩ (nb_ rfl) (nb_ rfl) (s_187 (v1 := c_5 59 (4 * a6)) (v2 := c_5 59 (4 * a6 + 1)) (v3 := c_5 59 (4 * a6 + 2)) (v4 := c_5 59 (4 * a6 + 3)) (r := c_5 59 (4 * a6 + 1) + c_5 59 (4 * a6 + 2) + c_5 59 (4 * a6 + 3) + c_5 59 (4 * a6)) (a1 := a6) hI_6 (show 0 ≤ a6 ∧ a6 ≤ 5 from ⟨by first | (clear ha1 ha2 ha3 ha4 ha5 ha6 hv7 hv8 hv9 hv10 hx0 hx2 hx3 h_1 h_8 h_9 h_13 h_14; omega) | omega, by first | (clear ha1 ha2 ha3 ha4 ha5 ha6 hv7 hv8 hv9 hv10 hx0 hx2 hx3 h_1 h_8 h_9 h_13 h_14; omega) | omega⟩) (rfl) (rfl) (rfl) (rfl) (by omega) (bk_inl ?_))
          by_cases h_25 : c_5 59 (4 * a6 + 1) + c_5 59 (4 * a6 + 2) + c_5 59 (4 * a6 + 3) + c_5 59 (4 * a6) ≠ 0
          · refine v_if_ne_t (t := 164) c_256_157 rfl ⟨h_25, ⟨by first | exact q_e052ef40e h_21 h_22 h_23 h_24 | omega, by first | exact q_db9ef1f4a h_21 h_22 h_23 h_24 | omega⟩, by decide, by decide⟩ (q_iconst c_256_164 (v_iadd (v := v9) c_256_165 (by first | exact q_7038fede5 | omega) (q_istore c_256_166 (nb_ rfl) (v_iinc (v := v10 + 1) c_256_168 rfl (nb_ rfl) rfl (Wp_ls [(10, vi (v10 + 1)), (9, vi v9), (8, vi y_12), (7, vi y_12), (11, vi y_12), (0, .ref 41), (1, vi a1), (2, vi a2), (3, vi a3), (4, vi a4), (5, vi a5), (6, vi a6)] (lsub_cons rfl (lsub_cons rfl (lsub_cons rfl (lsub_cons rfl (lsub_cons rfl (lsub_cons rfl (lsub_cons rfl (lsub_cons rfl (lsub_cons rfl (lsub_cons rfl (lsub_cons rfl (lsub_cons rfl lsub_nil)))))))))))) (q_goto (t := 77) c_256_171 rfl (Wp_ls [(0, .ref 41), (1, vi a1), (2, vi a2), (3, vi a3), (4, vi a4), (5, vi a5), (6, vi a6), (7, vi y_12), (8, vi y_12), (9, vi v9), (10, vi (v10 + 1))] (lsub_cons rfl (lsub_cons rfl (lsub_cons rfl (lsub_cons rfl (lsub_cons rfl (lsub_cons rfl (lsub_cons rfl (lsub_cons rfl (lsub_cons rfl (lsub_cons rfl (lsub_cons rfl lsub_nil))))))))))) ?_)))))))
            exact ih c_5 y_12 y_12 v9 (v10 + 1) hI_6 (fun a j hm => (hF_7 a j (qv_3730a4f02 hm)).trans (hF a j hm)) hy_12 ⟨by first | exact q_263c88b99 h_14 hv8 | omega, hy_12.2⟩ hv9 ⟨by first | exact rgp_l hv10.1 (by decide) | omega, by first | (clear ha1 ha2 ha3 ha4 ha5 ha6 hv7 hv8 hv9 hv10 hx1 hx2 hx3 h_8 h_9 h_13 h_14 h_21 h_22 h_23 h_24 h_25; omega) | omega⟩ ⟨by first | (clear ha1 ha2 ha3 ha4 ha5 ha6 hv7 hv8 hv9 hv10 hx1 hx2 hx3 h_1 h_8 h_9 h_13 h_14 h_21 h_22 h_23 h_24 h_25; omega) | omega, by first | (clear ha1 ha2 ha3 ha4 ha5 ha6 hv7 hv8 hv9 hv10 hx1 hx2 hx3 h_1 h_8 h_9 h_13 h_14 h_21 h_22 h_23 h_24 h_25; omega) | omega⟩ ⟨by first | (clear ha1 ha2 ha3 ha4 ha5 ha6 hv7 hv8 hv9 hv10 hx0 hx2 hx3 h_1 h_8 h_9 h_13 h_14 h_21 h_22 h_23 h_24 h_25; omega) | omega, by first | (clear ha1 ha2 ha3 ha4 ha5 ha6 hv7 hv8 hv9 hv10 hx0 hx2 hx3 h_1 h_8 h_9 h_13 h_14 h_21 h_22 h_23 h_24 h_25; omega) | omega⟩ ⟨by first | (clear ha1 ha2 ha3 ha4 ha5 ha6 hv7 hv8 hv9 hv10 hx0 hx1 hx3 h_1 h_8 h_9 h_13 h_14 h_21 h_22 h_23 h_24 h_25; omega) | omega, by first | (clear ha1 ha2 ha3 ha4 ha5 ha6 hv7 hv8 hv9 hv10 hx0 hx1 hx3 h_1 h_8 h_9 h_13 h_14 h_21 h_22 h_23 h_24 h_25; omega) | omega⟩ ⟨by first | (clear ha1 ha2 ha3 ha4 ha5 ha6 hv7 hv8 hv9 hv10 hx0 hx1 hx2 h_1 h_8 h_9 h_13 h_14 h_21 h_22 h_23 h_24 h_25; omega) | omega, by first | (clear ha1 ha2 ha3 ha4 ha5 ha6 hv7 hv8 hv9 hv10 hx0 hx1 hx2 h_1 h_8 h_9 h_13 h_14 h_21 h_22 h_23 h_24 h_25; omega) | omega⟩ (by omega)
          · refine v_if_ne_f (t := 164) c_256_157 rfl (Decidable.not_not.mp h_25) (q_iconst c_256_160 (q_goto (t := 165) c_256_161 rfl (v_iadd (v := v9 + 1) c_256_165 rfl (v_nrm (fun y_26 hy_26 => (q_istore c_256_166 (nb_ rfl) (v_iinc (v := v10 + 1) c_256_168 rfl (nb_ rfl) rfl (Wp_ls [(10, vi (v10 + 1)), (9, vi y_26), (8, vi y_12), (7, vi y_12), (11, vi y_12), (0, .ref 41), (1, vi a1), (2, vi a2), (3, vi a3), (4, vi a4), (5, vi a5), (6, vi a6)] (lsub_cons rfl (lsub_cons rfl (lsub_cons rfl (lsub_cons rfl (lsub_cons rfl (lsub_cons rfl (lsub_cons rfl (lsub_cons rfl (lsub_cons rfl (lsub_cons rfl (lsub_cons rfl (lsub_cons rfl lsub_nil)))))))))))) ?_))))))))
            refine q_goto (t := 77) c_256_171 rfl (Wp_ls [(0, .ref 41), (1, vi a1), (2, vi a2), (3, vi a3), (4, vi a4), (5, vi a5), (6, vi a6), (7, vi y_12), (8, vi y_12), (9, vi y_26), (10, vi (v10 + 1))] (lsub_cons rfl (lsub_cons rfl (lsub_cons rfl (lsub_cons rfl (lsub_cons rfl (lsub_cons rfl (lsub_cons rfl (lsub_cons rfl (lsub_cons rfl (lsub_cons rfl (lsub_cons rfl lsub_nil))))))))))) ?_)
            exact ih c_5 y_12 y_12 y_26 (v10 + 1) hI_6 (fun a j hm => (hF_7 a j (qv_3730a4f02 hm)).trans (hF a j hm)) hy_12 ⟨by first | exact q_263c88b99 h_14 hv8 | omega, hy_12.2⟩ hy_26 ⟨by first | exact rgp_l hv10.1 (by decide) | omega, by first | (clear ha1 ha2 ha3 ha4 ha5 ha6 hv7 hv8 hv9 hv10 hx1 hx2 hx3 h_8 h_9 h_13 h_14 h_21 h_22 h_23 h_24 h_25; omega) | omega⟩ ⟨by first | (clear ha1 ha2 ha3 ha4 ha5 ha6 hv7 hv8 hv9 hv10 hx1 hx2 hx3 h_1 h_8 h_9 h_13 h_14 h_21 h_22 h_23 h_24 h_25; omega) | omega, by first | (clear ha1 ha2 ha3 ha4 ha5 ha6 hv7 hv8 hv9 hv10 hx1 hx2 hx3 h_1 h_8 h_9 h_13 h_14 h_21 h_22 h_23 h_24 h_25; omega) | omega⟩ ⟨by first | (clear ha1 ha2 ha3 ha4 ha5 ha6 hv7 hv8 hv9 hv10 hx0 hx2 hx3 h_1 h_8 h_9 h_13 h_14 h_21 h_22 h_23 h_24 h_25; omega) | omega, by first | (clear ha1 ha2 ha3 ha4 ha5 ha6 hv7 hv8 hv9 hv10 hx0 hx2 hx3 h_1 h_8 h_9 h_13 h_14 h_21 h_22 h_23 h_24 h_25; omega) | omega⟩ ⟨by first | (clear ha1 ha2 ha3 ha4 ha5 ha6 hv7 hv8 hv9 hv10 hx0 hx1 hx3 h_1 h_8 h_9 h_13 h_14 h_21 h_22 h_23 h_24 h_25; omega) | omega, by first | (clear ha1 ha2 ha3 ha4 ha5 ha6 hv7 hv8 hv9 hv10 hx0 hx1 hx3 h_1 h_8 h_9 h_13 h_14 h_21 h_22 h_23 h_24 h_25; omega) | omega⟩ ⟨by first | (clear ha1 ha2 ha3 ha4 ha5 ha6 hv7 hv8 hv9 hv10 hx0 hx1 hx2 h_1 h_8 h_9 h_13 h_14 h_21 h_22 h_23 h_24 h_25; omega) | omega, by first | (clear ha1 ha2 ha3 ha4 ha5 ha6 hv7 hv8 hv9 hv10 hx0 hx1 hx2 h_1 h_8 h_9 h_13 h_14 h_21 h_22 h_23 h_24 h_25; omega) | omega⟩ (by omega)
      · refine v_ic_eq_f (t := 124) c_256_114 rfl ⟨h_13, ⟨hv7.1, hv7.2⟩, by decide, by decide⟩ (q_iload c_256_117 rfl (q_iload c_256_119 rfl ?_))
        by_cases h_27 : y_12 ≥ v7
        · refine v_ic_ge_t (t := 129) c_256_121 rfl ⟨hv7.1, h_27, hy_12.2⟩ (q_iload c_256_129 rfl (q_istore c_256_131 (nb_ rfl) (q_iload c_256_133 rfl (q_iload c_256_135 rfl ?_))))
          by_cases h_28 : y_12 ≤ v8
          · refine v_ic_le_t (t := 145) c_256_137 rfl ⟨hy_12.1, h_28, hv8.2⟩ (q_iload c_256_145 rfl (q_istore c_256_147 (nb_ rfl) (q_iload c_256_149 rfl (q_aload_n c_256_151 rfl (q_iload c_256_152 rfl ?_)))))
            have h_29 := ir_59_g hI_6 (j := 4 * a6) (by first | (clear ha1 ha2 ha3 ha4 ha5 ha6 hv7 hv8 hv9 hv10 hx0 hx2 hx3 h_1 h_8 h_9 h_27 h_28 h_13; omega) | omega)
            have h_30 := ir_59_g hI_6 (j := 4 * a6 + 1) (by first | (clear ha1 ha2 ha3 ha4 ha5 ha6 hv7 hv8 hv9 hv10 hx0 hx2 hx3 h_1 h_8 h_9 h_27 h_28 h_29 h_13; omega) | omega)
            have h_31 := ir_59_g hI_6 (j := 4 * a6 + 2) (by first | (clear ha1 ha2 ha3 ha4 ha5 ha6 hv7 hv8 hv9 hv10 hx0 hx2 hx3 h_1 h_8 h_9 h_27 h_28 h_29 h_30 h_13; omega) | omega)
            have h_32 := ir_59_g hI_6 (j := 4 * a6 + 3) (by first | (clear ha1 ha2 ha3 ha4 ha5 ha6 hv7 hv8 hv9 hv10 hx0 hx2 hx3 h_1 h_8 h_9 h_27 h_28 h_29 h_30 h_31 h_13; omega) | omega)
            refine v_cv c_256_154 km_8_343 rfl rfl (nb_ rfl) ⟨⟨rfl, rfl⟩, nb_ rfl, rfl⟩ (nb_ rfl) (nb_ rfl) (s_187 (v1 := c_5 59 (4 * a6)) (v2 := c_5 59 (4 * a6 + 1)) (v3 := c_5 59 (4 * a6 + 2)) (v4 := c_5 59 (4 * a6 + 3)) (r := c_5 59 (4 * a6 + 1) + c_5 59 (4 * a6 + 2) + c_5 59 (4 * a6 + 3) + c_5 59 (4 * a6)) (a1 := a6) hI_6 (show 0 ≤ a6 ∧ a6 ≤ 5 from ⟨by first | (clear ha1 ha2 ha3 ha4 ha5 ha6 hv7 hv8 hv9 hv10 hx0 hx2 hx3 h_1 h_8 h_9 h_27 h_28 h_13; omega) | omega, by first | (clear ha1 ha2 ha3 ha4 ha5 ha6 hv7 hv8 hv9 hv10 hx0 hx2 hx3 h_1 h_8 h_9 h_27 h_28 h_13; omega) | omega⟩) (rfl) (rfl) (rfl) (rfl) (by omega) (bk_inl ?_))
            by_cases h_33 : c_5 59 (4 * a6 + 1) + c_5 59 (4 * a6 + 2) + c_5 59 (4 * a6 + 3) + c_5 59 (4 * a6) ≠ 0
            · refine v_if_ne_t (t := 164) c_256_157 rfl ⟨h_33, ⟨by first | exact q_e052ef40e h_29 h_30 h_31 h_32 | omega, by first | exact q_db9ef1f4a h_29 h_30 h_31 h_32 | omega⟩, by decide, by decide⟩ (q_iconst c_256_164 (v_iadd (v := v9) c_256_165 (by first | exact q_7038fede5 | omega) (q_istore c_256_166 (nb_ rfl) (v_iinc (v := v10 + 1) c_256_168 rfl (nb_ rfl) rfl (Wp_ls [(10, vi (v10 + 1)), (9, vi v9), (8, vi v8), (7, vi v7), (11, vi y_12), (0, .ref 41), (1, vi a1), (2, vi a2), (3, vi a3), (4, vi a4), (5, vi a5), (6, vi a6)] (lsub_cons rfl (lsub_cons rfl (lsub_cons rfl (lsub_cons rfl (lsub_cons rfl (lsub_cons rfl (lsub_cons rfl (lsub_cons rfl (lsub_cons rfl (lsub_cons rfl (lsub_cons rfl (lsub_cons rfl lsub_nil)))))))))))) (q_goto (t := 77) c_256_171 rfl (Wp_ls [(0, .ref 41), (1, vi a1), (2, vi a2), (3, vi a3), (4, vi a4), (5, vi a5), (6, vi a6), (7, vi v7), (8, vi v8), (9, vi v9), (10, vi (v10 + 1))] (lsub_cons rfl (lsub_cons rfl (lsub_cons rfl (lsub_cons rfl (lsub_cons rfl (lsub_cons rfl (lsub_cons rfl (lsub_cons rfl (lsub_cons rfl (lsub_cons rfl (lsub_cons rfl lsub_nil))))))))))) ?_)))))))
              exact ih c_5 v7 v8 v9 (v10 + 1) hI_6 (fun a j hm => (hF_7 a j (qv_3730a4f02 hm)).trans (hF a j hm)) hv7 hv8 hv9 ⟨by first | exact rgp_l hv10.1 (by decide) | omega, by first | (clear ha1 ha2 ha3 ha4 ha5 ha6 hv7 hv8 hv9 hv10 hx1 hx2 hx3 h_8 h_9 h_27 h_28 h_29 h_30 h_31 h_32 h_13 h_33; omega) | omega⟩ ⟨by first | (clear ha1 ha2 ha3 ha4 ha5 ha6 hv7 hv8 hv9 hv10 hx1 hx2 hx3 h_1 h_8 h_9 h_27 h_28 h_29 h_30 h_31 h_32 h_13 h_33; omega) | omega, by first | (clear ha1 ha2 ha3 ha4 ha5 ha6 hv7 hv8 hv9 hv10 hx1 hx2 hx3 h_1 h_8 h_9 h_27 h_28 h_29 h_30 h_31 h_32 h_13 h_33; omega) | omega⟩ ⟨by first | (clear ha1 ha2 ha3 ha4 ha5 ha6 hv7 hv8 hv9 hv10 hx0 hx2 hx3 h_1 h_8 h_9 h_27 h_28 h_29 h_30 h_31 h_32 h_13 h_33; omega) | omega, by first | (clear ha1 ha2 ha3 ha4 ha5 ha6 hv7 hv8 hv9 hv10 hx0 hx2 hx3 h_1 h_8 h_9 h_27 h_28 h_29 h_30 h_31 h_32 h_13 h_33; omega) | omega⟩ ⟨by first | (clear ha1 ha2 ha3 ha4 ha5 ha6 hv7 hv8 hv9 hv10 hx0 hx1 hx3 h_1 h_8 h_9 h_27 h_28 h_29 h_30 h_31 h_32 h_13 h_33; omega) | omega, by first | (clear ha1 ha2 ha3 ha4 ha5 ha6 hv7 hv8 hv9 hv10 hx0 hx1 hx3 h_1 h_8 h_9 h_27 h_28 h_29 h_30 h_31 h_32 h_13 h_33; omega) | omega⟩ ⟨by first | (clear ha1 ha2 ha3 ha4 ha5 ha6 hv7 hv8 hv9 hv10 hx0 hx1 hx2 h_1 h_8 h_9 h_27 h_28 h_29 h_30 h_31 h_32 h_13 h_33; omega) | omega, by first | (clear ha1 ha2 ha3 ha4 ha5 ha6 hv7 hv8 hv9 hv10 hx0 hx1 hx2 h_1 h_8 h_9 h_27 h_28 h_29 h_30 h_31 h_32 h_13 h_33; omega) | omega⟩ (by omega)
            · refine v_if_ne_f (t := 164) c_256_157 rfl (Decidable.not_not.mp h_33) (q_iconst c_256_160 (q_goto (t := 165) c_256_161 rfl (v_iadd (v := v9 + 1) c_256_165 rfl (v_nrm (fun y_34 hy_34 => (q_istore c_256_166 (nb_ rfl) (v_iinc (v := v10 + 1) c_256_168 rfl (nb_ rfl) rfl (Wp_ls [(10, vi (v10 + 1)), (9, vi y_34), (8, vi v8), (7, vi v7), (11, vi y_12), (0, .ref 41), (1, vi a1), (2, vi a2), (3, vi a3), (4, vi a4), (5, vi a5), (6, vi a6)] (lsub_cons rfl (lsub_cons rfl (lsub_cons rfl (lsub_cons rfl (lsub_cons rfl (lsub_cons rfl (lsub_cons rfl (lsub_cons rfl (lsub_cons rfl (lsub_cons rfl (lsub_cons rfl (lsub_cons rfl lsub_nil)))))))))))) ?_))))))))
              refine q_goto (t := 77) c_256_171 rfl (Wp_ls [(0, .ref 41), (1, vi a1), (2, vi a2), (3, vi a3), (4, vi a4), (5, vi a5), (6, vi a6), (7, vi v7), (8, vi v8), (9, vi y_34), (10, vi (v10 + 1))] (lsub_cons rfl (lsub_cons rfl (lsub_cons rfl (lsub_cons rfl (lsub_cons rfl (lsub_cons rfl (lsub_cons rfl (lsub_cons rfl (lsub_cons rfl (lsub_cons rfl (lsub_cons rfl lsub_nil))))))))))) ?_)
              exact ih c_5 v7 v8 y_34 (v10 + 1) hI_6 (fun a j hm => (hF_7 a j (qv_3730a4f02 hm)).trans (hF a j hm)) hv7 hv8 hy_34 ⟨by first | exact rgp_l hv10.1 (by decide) | omega, by first | (clear ha1 ha2 ha3 ha4 ha5 ha6 hv7 hv8 hv9 hv10 hx1 hx2 hx3 h_8 h_9 h_27 h_28 h_29 h_30 h_31 h_32 h_33 h_13; omega) | omega⟩ ⟨by first | (clear ha1 ha2 ha3 ha4 ha5 ha6 hv7 hv8 hv9 hv10 hx1 hx2 hx3 h_1 h_8 h_9 h_27 h_28 h_29 h_30 h_31 h_32 h_33 h_13; omega) | omega, by first | (clear ha1 ha2 ha3 ha4 ha5 ha6 hv7 hv8 hv9 hv10 hx1 hx2 hx3 h_1 h_8 h_9 h_27 h_28 h_29 h_30 h_31 h_32 h_33 h_13; omega) | omega⟩ ⟨by first | (clear ha1 ha2 ha3 ha4 ha5 ha6 hv7 hv8 hv9 hv10 hx0 hx2 hx3 h_1 h_8 h_9 h_27 h_28 h_29 h_30 h_31 h_32 h_33 h_13; omega) | omega, by first | (clear ha1 ha2 ha3 ha4 ha5 ha6 hv7 hv8 hv9 hv10 hx0 hx2 hx3 h_1 h_8 h_9 h_27 h_28 h_29 h_30 h_31 h_32 h_33 h_13; omega) | omega⟩ ⟨by first | (clear ha1 ha2 ha3 ha4 ha5 ha6 hv7 hv8 hv9 hv10 hx0 hx1 hx3 h_1 h_8 h_9 h_27 h_28 h_29 h_30 h_31 h_32 h_33 h_13; omega) | omega, by first | (clear ha1 ha2 ha3 ha4 ha5 ha6 hv7 hv8 hv9 hv10 hx0 hx1 hx3 h_1 h_8 h_9 h_27 h_28 h_29 h_30 h_31 h_32 h_33 h_13; omega) | omega⟩ ⟨by first | (clear ha1 ha2 ha3 ha4 ha5 ha6 hv7 hv8 hv9 hv10 hx0 hx1 hx2 h_1 h_8 h_9 h_27 h_28 h_29 h_30 h_31 h_32 h_33 h_13; omega) | omega, by first | (clear ha1 ha2 ha3 ha4 ha5 ha6 hv7 hv8 hv9 hv10 hx0 hx1 hx2 h_1 h_8 h_9 h_27 h_28 h_29 h_30 h_31 h_32 h_33 h_13; omega) | omega⟩ (by omega)
          · refine v_ic_le_f (t := 145) c_256_137 rfl ⟨(Int.le_trans (by decide) hv8.1), (Int.not_le.mp h_28), hy_12.2⟩ (q_iload c_256_140 rfl (q_goto (t := 147) c_256_142 rfl (q_istore c_256_147 (nb_ rfl) (q_iload c_256_149 rfl (q_aload_n c_256_151 rfl (q_iload c_256_152 rfl ?_))))))
            have h_35 := ir_59_g hI_6 (j := 4 * a6) (by first | (clear ha1 ha2 ha3 ha4 ha5 ha6 hv7 hv8 hv9 hv10 hx0 hx2 hx3 h_1 h_8 h_9 h_27 h_28 h_13; omega) | omega)
            have h_36 := ir_59_g hI_6 (j := 4 * a6 + 1) (by first | (clear ha1 ha2 ha3 ha4 ha5 ha6 hv7 hv8 hv9 hv10 hx0 hx2 hx3 h_1 h_8 h_9 h_27 h_28 h_35 h_13; omega) | omega)
            have h_37 := ir_59_g hI_6 (j := 4 * a6 + 2) (by first | (clear ha1 ha2 ha3 ha4 ha5 ha6 hv7 hv8 hv9 hv10 hx0 hx2 hx3 h_1 h_8 h_9 h_27 h_28 h_35 h_36 h_13; omega) | omega)
            have h_38 := ir_59_g hI_6 (j := 4 * a6 + 3) (by first | (clear ha1 ha2 ha3 ha4 ha5 ha6 hv7 hv8 hv9 hv10 hx0 hx2 hx3 h_1 h_8 h_9 h_27 h_28 h_35 h_36 h_37 h_13; omega) | omega)
            refine v_cv c_256_154 km_8_343 rfl rfl (nb_ rfl) ⟨⟨rfl, rfl⟩, nb_ rfl, rfl⟩ (nb_ rfl) (nb_ rfl) (s_187 (v1 := c_5 59 (4 * a6)) (v2 := c_5 59 (4 * a6 + 1)) (v3 := c_5 59 (4 * a6 + 2)) (v4 := c_5 59 (4 * a6 + 3)) (r := c_5 59 (4 * a6 + 1) + c_5 59 (4 * a6 + 2) + c_5 59 (4 * a6 + 3) + c_5 59 (4 * a6)) (a1 := a6) hI_6 (show 0 ≤ a6 ∧ a6 ≤ 5 from ⟨by first | (clear ha1 ha2 ha3 ha4 ha5 ha6 hv7 hv8 hv9 hv10 hx0 hx2 hx3 h_1 h_8 h_9 h_27 h_28 h_13; omega) | omega, by first | (clear ha1 ha2 ha3 ha4 ha5 ha6 hv7 hv8 hv9 hv10 hx0 hx2 hx3 h_1 h_8 h_9 h_27 h_28 h_13; omega) | omega⟩) (rfl) (rfl) (rfl) (rfl) (by omega) (bk_inl ?_))
            by_cases h_39 : c_5 59 (4 * a6 + 1) + c_5 59 (4 * a6 + 2) + c_5 59 (4 * a6 + 3) + c_5 59 (4 * a6) ≠ 0
            · refine v_if_ne_t (t := 164) c_256_157 rfl ⟨h_39, ⟨by first | exact q_e052ef40e h_35 h_36 h_37 h_38 | omega, by first | exact q_db9ef1f4a h_35 h_36 h_37 h_38 | omega⟩, by decide, by decide⟩ (q_iconst c_256_164 (v_iadd (v := v9) c_256_165 (by first | exact q_7038fede5 | omega) (q_istore c_256_166 (nb_ rfl) (v_iinc (v := v10 + 1) c_256_168 rfl (nb_ rfl) rfl (Wp_ls [(10, vi (v10 + 1)), (9, vi v9), (8, vi y_12), (7, vi v7), (11, vi y_12), (0, .ref 41), (1, vi a1), (2, vi a2), (3, vi a3), (4, vi a4), (5, vi a5), (6, vi a6)] (lsub_cons rfl (lsub_cons rfl (lsub_cons rfl (lsub_cons rfl (lsub_cons rfl (lsub_cons rfl (lsub_cons rfl (lsub_cons rfl (lsub_cons rfl (lsub_cons rfl (lsub_cons rfl (lsub_cons rfl lsub_nil)))))))))))) (q_goto (t := 77) c_256_171 rfl (Wp_ls [(0, .ref 41), (1, vi a1), (2, vi a2), (3, vi a3), (4, vi a4), (5, vi a5), (6, vi a6), (7, vi v7), (8, vi y_12), (9, vi v9), (10, vi (v10 + 1))] (lsub_cons rfl (lsub_cons rfl (lsub_cons rfl (lsub_cons rfl (lsub_cons rfl (lsub_cons rfl (lsub_cons rfl (lsub_cons rfl (lsub_cons rfl (lsub_cons rfl (lsub_cons rfl lsub_nil))))))))))) ?_)))))))
              exact ih c_5 v7 y_12 v9 (v10 + 1) hI_6 (fun a j hm => (hF_7 a j (qv_3730a4f02 hm)).trans (hF a j hm)) hv7 ⟨by first | exact q_263c88b99 h_28 hv8 | omega, hy_12.2⟩ hv9 ⟨by first | exact rgp_l hv10.1 (by decide) | omega, by first | (clear ha1 ha2 ha3 ha4 ha5 ha6 hv7 hv8 hv9 hv10 hx1 hx2 hx3 h_8 h_9 h_27 h_28 h_35 h_36 h_37 h_38 h_13 h_39; omega) | omega⟩ ⟨by first | (clear ha1 ha2 ha3 ha4 ha5 ha6 hv7 hv8 hv9 hv10 hx1 hx2 hx3 h_1 h_8 h_9 h_27 h_28 h_35 h_36 h_37 h_38 h_13 h_39; omega) | omega, by first | (clear ha1 ha2 ha3 ha4 ha5 ha6 hv7 hv8 hv9 hv10 hx1 hx2 hx3 h_1 h_8 h_9 h_27 h_28 h_35 h_36 h_37 h_38 h_13 h_39; omega) | omega⟩ ⟨by first | (clear ha1 ha2 ha3 ha4 ha5 ha6 hv7 hv8 hv9 hv10 hx0 hx2 hx3 h_1 h_8 h_9 h_27 h_28 h_35 h_36 h_37 h_38 h_13 h_39; omega) | omega, by first | (clear ha1 ha2 ha3 ha4 ha5 ha6 hv7 hv8 hv9 hv10 hx0 hx2 hx3 h_1 h_8 h_9 h_27 h_28 h_35 h_36 h_37 h_38 h_13 h_39; omega) | omega⟩ ⟨by first | (clear ha1 ha2 ha3 ha4 ha5 ha6 hv7 hv8 hv9 hv10 hx0 hx1 hx3 h_1 h_8 h_9 h_27 h_28 h_35 h_36 h_37 h_38 h_13 h_39; omega) | omega, by first | (clear ha1 ha2 ha3 ha4 ha5 ha6 hv7 hv8 hv9 hv10 hx0 hx1 hx3 h_1 h_8 h_9 h_27 h_28 h_35 h_36 h_37 h_38 h_13 h_39; omega) | omega⟩ ⟨by first | (clear ha1 ha2 ha3 ha4 ha5 ha6 hv7 hv8 hv9 hv10 hx0 hx1 hx2 h_1 h_8 h_9 h_27 h_28 h_35 h_36 h_37 h_38 h_13 h_39; omega) | omega, by first | (clear ha1 ha2 ha3 ha4 ha5 ha6 hv7 hv8 hv9 hv10 hx0 hx1 hx2 h_1 h_8 h_9 h_27 h_28 h_35 h_36 h_37 h_38 h_13 h_39; omega) | omega⟩ (by omega)
            · refine v_if_ne_f (t := 164) c_256_157 rfl (Decidable.not_not.mp h_39) (q_iconst c_256_160 (q_goto (t := 165) c_256_161 rfl (v_iadd (v := v9 + 1) c_256_165 rfl (v_nrm (fun y_40 hy_40 => (q_istore c_256_166 (nb_ rfl) (v_iinc (v := v10 + 1) c_256_168 rfl (nb_ rfl) rfl (Wp_ls [(10, vi (v10 + 1)), (9, vi y_40), (8, vi y_12), (7, vi v7), (11, vi y_12), (0, .ref 41), (1, vi a1), (2, vi a2), (3, vi a3), (4, vi a4), (5, vi a5), (6, vi a6)] (lsub_cons rfl (lsub_cons rfl (lsub_cons rfl (lsub_cons rfl (lsub_cons rfl (lsub_cons rfl (lsub_cons rfl (lsub_cons rfl (lsub_cons rfl (lsub_cons rfl (lsub_cons rfl (lsub_cons rfl lsub_nil)))))))))))) ?_))))))))
              refine q_goto (t := 77) c_256_171 rfl (Wp_ls [(0, .ref 41), (1, vi a1), (2, vi a2), (3, vi a3), (4, vi a4), (5, vi a5), (6, vi a6), (7, vi v7), (8, vi y_12), (9, vi y_40), (10, vi (v10 + 1))] (lsub_cons rfl (lsub_cons rfl (lsub_cons rfl (lsub_cons rfl (lsub_cons rfl (lsub_cons rfl (lsub_cons rfl (lsub_cons rfl (lsub_cons rfl (lsub_cons rfl (lsub_cons rfl lsub_nil))))))))))) ?_)
              exact ih c_5 v7 y_12 y_40 (v10 + 1) hI_6 (fun a j hm => (hF_7 a j (qv_3730a4f02 hm)).trans (hF a j hm)) hv7 ⟨by first | exact q_263c88b99 h_28 hv8 | omega, hy_12.2⟩ hy_40 ⟨by first | exact rgp_l hv10.1 (by decide) | omega, by first | (clear ha1 ha2 ha3 ha4 ha5 ha6 hv7 hv8 hv9 hv10 hx1 hx2 hx3 h_8 h_9 h_27 h_28 h_35 h_36 h_37 h_38 h_39 h_13; omega) | omega⟩ ⟨by first | (clear ha1 ha2 ha3 ha4 ha5 ha6 hv7 hv8 hv9 hv10 hx1 hx2 hx3 h_1 h_8 h_9 h_27 h_28 h_35 h_36 h_37 h_38 h_39 h_13; omega) | omega, by first | (clear ha1 ha2 ha3 ha4 ha5 ha6 hv7 hv8 hv9 hv10 hx1 hx2 hx3 h_1 h_8 h_9 h_27 h_28 h_35 h_36 h_37 h_38 h_39 h_13; omega) | omega⟩ ⟨by first | (clear ha1 ha2 ha3 ha4 ha5 ha6 hv7 hv8 hv9 hv10 hx0 hx2 hx3 h_1 h_8 h_9 h_27 h_28 h_35 h_36 h_37 h_38 h_39 h_13; omega) | omega, by first | (clear ha1 ha2 ha3 ha4 ha5 ha6 hv7 hv8 hv9 hv10 hx0 hx2 hx3 h_1 h_8 h_9 h_27 h_28 h_35 h_36 h_37 h_38 h_39 h_13; omega) | omega⟩ ⟨by first | (clear ha1 ha2 ha3 ha4 ha5 ha6 hv7 hv8 hv9 hv10 hx0 hx1 hx3 h_1 h_8 h_9 h_27 h_28 h_35 h_36 h_37 h_38 h_39 h_13; omega) | omega, by first | (clear ha1 ha2 ha3 ha4 ha5 ha6 hv7 hv8 hv9 hv10 hx0 hx1 hx3 h_1 h_8 h_9 h_27 h_28 h_35 h_36 h_37 h_38 h_39 h_13; omega) | omega⟩ ⟨by first | (clear ha1 ha2 ha3 ha4 ha5 ha6 hv7 hv8 hv9 hv10 hx0 hx1 hx2 h_1 h_8 h_9 h_27 h_28 h_35 h_36 h_37 h_38 h_39 h_13; omega) | omega, by first | (clear ha1 ha2 ha3 ha4 ha5 ha6 hv7 hv8 hv9 hv10 hx0 hx1 hx2 h_1 h_8 h_9 h_27 h_28 h_35 h_36 h_37 h_38 h_39 h_13; omega) | omega⟩ (by omega)
        · refine v_ic_ge_f (t := 129) c_256_121 rfl ⟨hy_12.1, (Int.not_le.mp h_27), hv7.2⟩ (q_iload c_256_124 rfl (q_goto (t := 131) c_256_126 rfl (q_istore c_256_131 (nb_ rfl) (q_iload c_256_133 rfl (q_iload c_256_135 rfl ?_)))))
          by_cases h_41 : y_12 ≤ v8
          · refine v_ic_le_t (t := 145) c_256_137 rfl ⟨hy_12.1, h_41, hv8.2⟩ (q_iload c_256_145 rfl (q_istore c_256_147 (nb_ rfl) (q_iload c_256_149 rfl (q_aload_n c_256_151 rfl (q_iload c_256_152 rfl ?_)))))
            have h_42 := ir_59_g hI_6 (j := 4 * a6) (by first | (clear ha1 ha2 ha3 ha4 ha5 ha6 hv7 hv8 hv9 hv10 hx0 hx2 hx3 h_1 h_8 h_9 h_27 h_41 h_13; omega) | omega)
            have h_43 := ir_59_g hI_6 (j := 4 * a6 + 1) (by first | (clear ha1 ha2 ha3 ha4 ha5 ha6 hv7 hv8 hv9 hv10 hx0 hx2 hx3 h_1 h_8 h_9 h_27 h_41 h_42 h_13; omega) | omega)
            have h_44 := ir_59_g hI_6 (j := 4 * a6 + 2) (by first | (clear ha1 ha2 ha3 ha4 ha5 ha6 hv7 hv8 hv9 hv10 hx0 hx2 hx3 h_1 h_8 h_9 h_27 h_41 h_42 h_43 h_13; omega) | omega)
            have h_45 := ir_59_g hI_6 (j := 4 * a6 + 3) (by first | (clear ha1 ha2 ha3 ha4 ha5 ha6 hv7 hv8 hv9 hv10 hx0 hx2 hx3 h_1 h_8 h_9 h_27 h_41 h_42 h_43 h_44 h_13; omega) | omega)
            refine v_cv c_256_154 km_8_343 rfl rfl (nb_ rfl) ⟨⟨rfl, rfl⟩, nb_ rfl, rfl⟩ (nb_ rfl) (nb_ rfl) (s_187 (v1 := c_5 59 (4 * a6)) (v2 := c_5 59 (4 * a6 + 1)) (v3 := c_5 59 (4 * a6 + 2)) (v4 := c_5 59 (4 * a6 + 3)) (r := c_5 59 (4 * a6 + 1) + c_5 59 (4 * a6 + 2) + c_5 59 (4 * a6 + 3) + c_5 59 (4 * a6)) (a1 := a6) hI_6 (show 0 ≤ a6 ∧ a6 ≤ 5 from ⟨by first | (clear ha1 ha2 ha3 ha4 ha5 ha6 hv7 hv8 hv9 hv10 hx0 hx2 hx3 h_1 h_8 h_9 h_27 h_41 h_13; omega) | omega, by first | (clear ha1 ha2 ha3 ha4 ha5 ha6 hv7 hv8 hv9 hv10 hx0 hx2 hx3 h_1 h_8 h_9 h_27 h_41 h_13; omega) | omega⟩) (rfl) (rfl) (rfl) (rfl) (by omega) (bk_inl ?_))
            by_cases h_46 : c_5 59 (4 * a6 + 1) + c_5 59 (4 * a6 + 2) + c_5 59 (4 * a6 + 3) + c_5 59 (4 * a6) ≠ 0
            · refine v_if_ne_t (t := 164) c_256_157 rfl ⟨h_46, ⟨by first | exact q_e052ef40e h_42 h_43 h_44 h_45 | omega, by first | exact q_db9ef1f4a h_42 h_43 h_44 h_45 | omega⟩, by decide, by decide⟩ (q_iconst c_256_164 (v_iadd (v := v9) c_256_165 (by first | exact q_7038fede5 | omega) (q_istore c_256_166 (nb_ rfl) (v_iinc (v := v10 + 1) c_256_168 rfl (nb_ rfl) rfl (Wp_ls [(10, vi (v10 + 1)), (9, vi v9), (8, vi v8), (7, vi y_12), (11, vi y_12), (0, .ref 41), (1, vi a1), (2, vi a2), (3, vi a3), (4, vi a4), (5, vi a5), (6, vi a6)] (lsub_cons rfl (lsub_cons rfl (lsub_cons rfl (lsub_cons rfl (lsub_cons rfl (lsub_cons rfl (lsub_cons rfl (lsub_cons rfl (lsub_cons rfl (lsub_cons rfl (lsub_cons rfl (lsub_cons rfl lsub_nil)))))))))))) (q_goto (t := 77) c_256_171 rfl (Wp_ls [(0, .ref 41), (1, vi a1), (2, vi a2), (3, vi a3), (4, vi a4), (5, vi a5), (6, vi a6), (7, vi y_12), (8, vi v8), (9, vi v9), (10, vi (v10 + 1))] (lsub_cons rfl (lsub_cons rfl (lsub_cons rfl (lsub_cons rfl (lsub_cons rfl (lsub_cons rfl (lsub_cons rfl (lsub_cons rfl (lsub_cons rfl (lsub_cons rfl (lsub_cons rfl lsub_nil))))))))))) ?_)))))))
              exact ih c_5 y_12 v8 v9 (v10 + 1) hI_6 (fun a j hm => (hF_7 a j (qv_3730a4f02 hm)).trans (hF a j hm)) hy_12 hv8 hv9 ⟨by first | exact rgp_l hv10.1 (by decide) | omega, by first | (clear ha1 ha2 ha3 ha4 ha5 ha6 hv7 hv8 hv9 hv10 hx1 hx2 hx3 h_8 h_9 h_27 h_41 h_42 h_43 h_44 h_45 h_13 h_46; omega) | omega⟩ ⟨by first | (clear ha1 ha2 ha3 ha4 ha5 ha6 hv7 hv8 hv9 hv10 hx1 hx2 hx3 h_1 h_8 h_9 h_27 h_41 h_42 h_43 h_44 h_45 h_13 h_46; omega) | omega, by first | (clear ha1 ha2 ha3 ha4 ha5 ha6 hv7 hv8 hv9 hv10 hx1 hx2 hx3 h_1 h_8 h_9 h_27 h_41 h_42 h_43 h_44 h_45 h_13 h_46; omega) | omega⟩ ⟨by first | (clear ha1 ha2 ha3 ha4 ha5 ha6 hv7 hv8 hv9 hv10 hx0 hx2 hx3 h_1 h_8 h_9 h_27 h_41 h_42 h_43 h_44 h_45 h_13 h_46; omega) | omega, by first | (clear ha1 ha2 ha3 ha4 ha5 ha6 hv7 hv8 hv9 hv10 hx0 hx2 hx3 h_1 h_8 h_9 h_27 h_41 h_42 h_43 h_44 h_45 h_13 h_46; omega) | omega⟩ ⟨by first | (clear ha1 ha2 ha3 ha4 ha5 ha6 hv7 hv8 hv9 hv10 hx0 hx1 hx3 h_1 h_8 h_9 h_27 h_41 h_42 h_43 h_44 h_45 h_13 h_46; omega) | omega, by first | (clear ha1 ha2 ha3 ha4 ha5 ha6 hv7 hv8 hv9 hv10 hx0 hx1 hx3 h_1 h_8 h_9 h_27 h_41 h_42 h_43 h_44 h_45 h_13 h_46; omega) | omega⟩ ⟨by first | (clear ha1 ha2 ha3 ha4 ha5 ha6 hv7 hv8 hv9 hv10 hx0 hx1 hx2 h_1 h_8 h_9 h_27 h_41 h_42 h_43 h_44 h_45 h_13 h_46; omega) | omega, by first | (clear ha1 ha2 ha3 ha4 ha5 ha6 hv7 hv8 hv9 hv10 hx0 hx1 hx2 h_1 h_8 h_9 h_27 h_41 h_42 h_43 h_44 h_45 h_13 h_46; omega) | omega⟩ (by omega)
            · refine v_if_ne_f (t := 164) c_256_157 rfl (Decidable.not_not.mp h_46) (q_iconst c_256_160 (q_goto (t := 165) c_256_161 rfl (v_iadd (v := v9 + 1) c_256_165 rfl (v_nrm (fun y_47 hy_47 => (q_istore c_256_166 (nb_ rfl) (v_iinc (v := v10 + 1) c_256_168 rfl (nb_ rfl) rfl (Wp_ls [(10, vi (v10 + 1)), (9, vi y_47), (8, vi v8), (7, vi y_12), (11, vi y_12), (0, .ref 41), (1, vi a1), (2, vi a2), (3, vi a3), (4, vi a4), (5, vi a5), (6, vi a6)] (lsub_cons rfl (lsub_cons rfl (lsub_cons rfl (lsub_cons rfl (lsub_cons rfl (lsub_cons rfl (lsub_cons rfl (lsub_cons rfl (lsub_cons rfl (lsub_cons rfl (lsub_cons rfl (lsub_cons rfl lsub_nil)))))))))))) ?_))))))))
              refine q_goto (t := 77) c_256_171 rfl (Wp_ls [(0, .ref 41), (1, vi a1), (2, vi a2), (3, vi a3), (4, vi a4), (5, vi a5), (6, vi a6), (7, vi y_12), (8, vi v8), (9, vi y_47), (10, vi (v10 + 1))] (lsub_cons rfl (lsub_cons rfl (lsub_cons rfl (lsub_cons rfl (lsub_cons rfl (lsub_cons rfl (lsub_cons rfl (lsub_cons rfl (lsub_cons rfl (lsub_cons rfl (lsub_cons rfl lsub_nil))))))))))) ?_)
              exact ih c_5 y_12 v8 y_47 (v10 + 1) hI_6 (fun a j hm => (hF_7 a j (qv_3730a4f02 hm)).trans (hF a j hm)) hy_12 hv8 hy_47 ⟨by first | exact rgp_l hv10.1 (by decide) | omega, by first | (clear ha1 ha2 ha3 ha4 ha5 ha6 hv7 hv8 hv9 hv10 hx1 hx2 hx3 h_8 h_9 h_27 h_41 h_42 h_43 h_44 h_45 h_46 h_13; omega) | omega⟩ ⟨by first | (clear ha1 ha2 ha3 ha4 ha5 ha6 hv7 hv8 hv9 hv10 hx1 hx2 hx3 h_1 h_8 h_9 h_27 h_41 h_42 h_43 h_44 h_45 h_46 h_13; omega) | omega, by first | (clear ha1 ha2 ha3 ha4 ha5 ha6 hv7 hv8 hv9 hv10 hx1 hx2 hx3 h_1 h_8 h_9 h_27 h_41 h_42 h_43 h_44 h_45 h_46 h_13; omega) | omega⟩ ⟨by first | (clear ha1 ha2 ha3 ha4 ha5 ha6 hv7 hv8 hv9 hv10 hx0 hx2 hx3 h_1 h_8 h_9 h_27 h_41 h_42 h_43 h_44 h_45 h_46 h_13; omega) | omega, by first | (clear ha1 ha2 ha3 ha4 ha5 ha6 hv7 hv8 hv9 hv10 hx0 hx2 hx3 h_1 h_8 h_9 h_27 h_41 h_42 h_43 h_44 h_45 h_46 h_13; omega) | omega⟩ ⟨by first | (clear ha1 ha2 ha3 ha4 ha5 ha6 hv7 hv8 hv9 hv10 hx0 hx1 hx3 h_1 h_8 h_9 h_27 h_41 h_42 h_43 h_44 h_45 h_46 h_13; omega) | omega, by first | (clear ha1 ha2 ha3 ha4 ha5 ha6 hv7 hv8 hv9 hv10 hx0 hx1 hx3 h_1 h_8 h_9 h_27 h_41 h_42 h_43 h_44 h_45 h_46 h_13; omega) | omega⟩ ⟨by first | (clear ha1 ha2 ha3 ha4 ha5 ha6 hv7 hv8 hv9 hv10 hx0 hx1 hx2 h_1 h_8 h_9 h_27 h_41 h_42 h_43 h_44 h_45 h_46 h_13; omega) | omega, by first | (clear ha1 ha2 ha3 ha4 ha5 ha6 hv7 hv8 hv9 hv10 hx0 hx1 hx2 h_1 h_8 h_9 h_27 h_41 h_42 h_43 h_44 h_45 h_46 h_13; omega) | omega⟩ (by omega)
          · refine v_ic_le_f (t := 145) c_256_137 rfl ⟨(Int.le_trans (by decide) hv8.1), (Int.not_le.mp h_41), hy_12.2⟩ (q_iload c_256_140 rfl (q_goto (t := 147) c_256_142 rfl (q_istore c_256_147 (nb_ rfl) (q_iload c_256_149 rfl (q_aload_n c_256_151 rfl (q_iload c_256_152 rfl ?_))))))
            have h_48 := ir_59_g hI_6 (j := 4 * a6) (by first | (clear ha1 ha2 ha3 ha4 ha5 ha6 hv7 hv8 hv9 hv10 hx0 hx2 hx3 h_1 h_8 h_9 h_27 h_41 h_13; omega) | omega)
            have h_49 := ir_59_g hI_6 (j := 4 * a6 + 1) (by first | (clear ha1 ha2 ha3 ha4 ha5 ha6 hv7 hv8 hv9 hv10 hx0 hx2 hx3 h_1 h_8 h_9 h_27 h_41 h_48 h_13; omega) | omega)
            have h_50 := ir_59_g hI_6 (j := 4 * a6 + 2) (by first | (clear ha1 ha2 ha3 ha4 ha5 ha6 hv7 hv8 hv9 hv10 hx0 hx2 hx3 h_1 h_8 h_9 h_27 h_41 h_48 h_49 h_13; omega) | omega)
            have h_51 := ir_59_g hI_6 (j := 4 * a6 + 3) (by first | (clear ha1 ha2 ha3 ha4 ha5 ha6 hv7 hv8 hv9 hv10 hx0 hx2 hx3 h_1 h_8 h_9 h_27 h_41 h_48 h_49 h_50 h_13; omega) | omega)
            refine v_cv c_256_154 km_8_343 rfl rfl (nb_ rfl) ⟨⟨rfl, rfl⟩, nb_ rfl, rfl⟩ (nb_ rfl) (nb_ rfl) (s_187 (v1 := c_5 59 (4 * a6)) (v2 := c_5 59 (4 * a6 + 1)) (v3 := c_5 59 (4 * a6 + 2)) (v4 := c_5 59 (4 * a6 + 3)) (r := c_5 59 (4 * a6 + 1) + c_5 59 (4 * a6 + 2) + c_5 59 (4 * a6 + 3) + c_5 59 (4 * a6)) (a1 := a6) hI_6 (show 0 ≤ a6 ∧ a6 ≤ 5 from ⟨by first | (clear ha1 ha2 ha3 ha4 ha5 ha6 hv7 hv8 hv9 hv10 hx0 hx2 hx3 h_1 h_8 h_9 h_27 h_41 h_13; omega) | omega, by first | (clear ha1 ha2 ha3 ha4 ha5 ha6 hv7 hv8 hv9 hv10 hx0 hx2 hx3 h_1 h_8 h_9 h_27 h_41 h_13; omega) | omega⟩) (rfl) (rfl) (rfl) (rfl) (by omega) (bk_inl ?_))
            by_cases h_52 : c_5 59 (4 * a6 + 1) + c_5 59 (4 * a6 + 2) + c_5 59 (4 * a6 + 3) + c_5 59 (4 * a6) ≠ 0
            · refine v_if_ne_t (t := 164) c_256_157 rfl ⟨h_52, ⟨by first | exact q_e052ef40e h_48 h_49 h_50 h_51 | omega, by first | exact q_db9ef1f4a h_48 h_49 h_50 h_51 | omega⟩, by decide, by decide⟩ (q_iconst c_256_164 (v_iadd (v := v9) c_256_165 (by first | exact q_7038fede5 | omega) (q_istore c_256_166 (nb_ rfl) (v_iinc (v := v10 + 1) c_256_168 rfl (nb_ rfl) rfl (Wp_ls [(10, vi (v10 + 1)), (9, vi v9), (8, vi y_12), (7, vi y_12), (11, vi y_12), (0, .ref 41), (1, vi a1), (2, vi a2), (3, vi a3), (4, vi a4), (5, vi a5), (6, vi a6)] (lsub_cons rfl (lsub_cons rfl (lsub_cons rfl (lsub_cons rfl (lsub_cons rfl (lsub_cons rfl (lsub_cons rfl (lsub_cons rfl (lsub_cons rfl (lsub_cons rfl (lsub_cons rfl (lsub_cons rfl lsub_nil)))))))))))) (q_goto (t := 77) c_256_171 rfl (Wp_ls [(0, .ref 41), (1, vi a1), (2, vi a2), (3, vi a3), (4, vi a4), (5, vi a5), (6, vi a6), (7, vi y_12), (8, vi y_12), (9, vi v9), (10, vi (v10 + 1))] (lsub_cons rfl (lsub_cons rfl (lsub_cons rfl (lsub_cons rfl (lsub_cons rfl (lsub_cons rfl (lsub_cons rfl (lsub_cons rfl (lsub_cons rfl (lsub_cons rfl (lsub_cons rfl lsub_nil))))))))))) ?_)))))))
              exact ih c_5 y_12 y_12 v9 (v10 + 1) hI_6 (fun a j hm => (hF_7 a j (qv_3730a4f02 hm)).trans (hF a j hm)) hy_12 ⟨by first | exact q_263c88b99 h_41 hv8 | omega, hy_12.2⟩ hv9 ⟨by first | exact rgp_l hv10.1 (by decide) | omega, by first | (clear ha1 ha2 ha3 ha4 ha5 ha6 hv7 hv8 hv9 hv10 hx1 hx2 hx3 h_8 h_9 h_27 h_41 h_48 h_49 h_50 h_51 h_13 h_52; omega) | omega⟩ ⟨by first | (clear ha1 ha2 ha3 ha4 ha5 ha6 hv7 hv8 hv9 hv10 hx1 hx2 hx3 h_1 h_8 h_9 h_27 h_41 h_48 h_49 h_50 h_51 h_13 h_52; omega) | omega, by first | (clear ha1 ha2 ha3 ha4 ha5 ha6 hv7 hv8 hv9 hv10 hx1 hx2 hx3 h_1 h_8 h_9 h_27 h_41 h_48 h_49 h_50 h_51 h_13 h_52; omega) | omega⟩ ⟨by first | (clear ha1 ha2 ha3 ha4 ha5 ha6 hv7 hv8 hv9 hv10 hx0 hx2 hx3 h_1 h_8 h_9 h_27 h_41 h_48 h_49 h_50 h_51 h_13 h_52; omega) | omega, by first | (clear ha1 ha2 ha3 ha4 ha5 ha6 hv7 hv8 hv9 hv10 hx0 hx2 hx3 h_1 h_8 h_9 h_27 h_41 h_48 h_49 h_50 h_51 h_13 h_52; omega) | omega⟩ ⟨by first | (clear ha1 ha2 ha3 ha4 ha5 ha6 hv7 hv8 hv9 hv10 hx0 hx1 hx3 h_1 h_8 h_9 h_27 h_41 h_48 h_49 h_50 h_51 h_13 h_52; omega) | omega, by first | (clear ha1 ha2 ha3 ha4 ha5 ha6 hv7 hv8 hv9 hv10 hx0 hx1 hx3 h_1 h_8 h_9 h_27 h_41 h_48 h_49 h_50 h_51 h_13 h_52; omega) | omega⟩ ⟨by first | (clear ha1 ha2 ha3 ha4 ha5 ha6 hv7 hv8 hv9 hv10 hx0 hx1 hx2 h_1 h_8 h_9 h_27 h_41 h_48 h_49 h_50 h_51 h_13 h_52; omega) | omega, by first | (clear ha1 ha2 ha3 ha4 ha5 ha6 hv7 hv8 hv9 hv10 hx0 hx1 hx2 h_1 h_8 h_9 h_27 h_41 h_48 h_49 h_50 h_51 h_13 h_52; omega) | omega⟩ (by omega)
            · refine v_if_ne_f (t := 164) c_256_157 rfl (Decidable.not_not.mp h_52) (q_iconst c_256_160 (q_goto (t := 165) c_256_161 rfl (v_iadd (v := v9 + 1) c_256_165 rfl (v_nrm (fun y_53 hy_53 => (q_istore c_256_166 (nb_ rfl) (v_iinc (v := v10 + 1) c_256_168 rfl (nb_ rfl) rfl (Wp_ls [(10, vi (v10 + 1)), (9, vi y_53), (8, vi y_12), (7, vi y_12), (11, vi y_12), (0, .ref 41), (1, vi a1), (2, vi a2), (3, vi a3), (4, vi a4), (5, vi a5), (6, vi a6)] (lsub_cons rfl (lsub_cons rfl (lsub_cons rfl (lsub_cons rfl (lsub_cons rfl (lsub_cons rfl (lsub_cons rfl (lsub_cons rfl (lsub_cons rfl (lsub_cons rfl (lsub_cons rfl (lsub_cons rfl lsub_nil)))))))))))) ?_))))))))
              refine q_goto (t := 77) c_256_171 rfl (Wp_ls [(0, .ref 41), (1, vi a1), (2, vi a2), (3, vi a3), (4, vi a4), (5, vi a5), (6, vi a6), (7, vi y_12), (8, vi y_12), (9, vi y_53), (10, vi (v10 + 1))] (lsub_cons rfl (lsub_cons rfl (lsub_cons rfl (lsub_cons rfl (lsub_cons rfl (lsub_cons rfl (lsub_cons rfl (lsub_cons rfl (lsub_cons rfl (lsub_cons rfl (lsub_cons rfl lsub_nil))))))))))) ?_)
              exact ih c_5 y_12 y_12 y_53 (v10 + 1) hI_6 (fun a j hm => (hF_7 a j (qv_3730a4f02 hm)).trans (hF a j hm)) hy_12 ⟨by first | exact q_263c88b99 h_41 hv8 | omega, hy_12.2⟩ hy_53 ⟨by first | exact rgp_l hv10.1 (by decide) | omega, by first | (clear ha1 ha2 ha3 ha4 ha5 ha6 hv7 hv8 hv9 hv10 hx1 hx2 hx3 h_8 h_9 h_27 h_41 h_48 h_49 h_50 h_51 h_52 h_13; omega) | omega⟩ ⟨by first | (clear ha1 ha2 ha3 ha4 ha5 ha6 hv7 hv8 hv9 hv10 hx1 hx2 hx3 h_1 h_8 h_9 h_27 h_41 h_48 h_49 h_50 h_51 h_52 h_13; omega) | omega, by first | (clear ha1 ha2 ha3 ha4 ha5 ha6 hv7 hv8 hv9 hv10 hx1 hx2 hx3 h_1 h_8 h_9 h_27 h_41 h_48 h_49 h_50 h_51 h_52 h_13; omega) | omega⟩ ⟨by first | (clear ha1 ha2 ha3 ha4 ha5 ha6 hv7 hv8 hv9 hv10 hx0 hx2 hx3 h_1 h_8 h_9 h_27 h_41 h_48 h_49 h_50 h_51 h_52 h_13; omega) | omega, by first | (clear ha1 ha2 ha3 ha4 ha5 ha6 hv7 hv8 hv9 hv10 hx0 hx2 hx3 h_1 h_8 h_9 h_27 h_41 h_48 h_49 h_50 h_51 h_52 h_13; omega) | omega⟩ ⟨by first | (clear ha1 ha2 ha3 ha4 ha5 ha6 hv7 hv8 hv9 hv10 hx0 hx1 hx3 h_1 h_8 h_9 h_27 h_41 h_48 h_49 h_50 h_51 h_52 h_13; omega) | omega, by first | (clear ha1 ha2 ha3 ha4 ha5 ha6 hv7 hv8 hv9 hv10 hx0 hx1 hx3 h_1 h_8 h_9 h_27 h_41 h_48 h_49 h_50 h_51 h_52 h_13; omega) | omega⟩ ⟨by first | (clear ha1 ha2 ha3 ha4 ha5 ha6 hv7 hv8 hv9 hv10 hx0 hx1 hx2 h_1 h_8 h_9 h_27 h_41 h_48 h_49 h_50 h_51 h_52 h_13; omega) | omega, by first | (clear ha1 ha2 ha3 ha4 ha5 ha6 hv7 hv8 hv9 hv10 hx0 hx1 hx2 h_1 h_8 h_9 h_27 h_41 h_48 h_49 h_50 h_51 h_52 h_13; omega) | omega⟩ (by omega)
set_option maxRecDepth 100000 in
set_option maxHeartbeats 4000000 in
theorem s_256 {sc : List Int32} {d P Q : Nat} {c : ME} {a1 : Int} {a2 : Int} {a3 : Int} {a4 : Int} {a5 : Int} {a6 : Int} {Z : AR → Prop} (hI : Iv 0 (-1) P Q c) (ha1 : (-2147483648) ≤ a1 ∧ a1 ≤ 2147483647) (ha2 : (-2147483648) ≤ a2 ∧ a2 ≤ 2147483647) (ha3 : (-2147483648) ≤ a3 ∧ a3 ≤ 2147483647) (ha4 : (-2147483648) ≤ a4 ∧ a4 ≤ 2147483647) (ha5 : (-2147483648) ≤ a5 ∧ a5 ≤ 2147483647) (ha6 : (-2147483648) ≤ a6 ∧ a6 ≤ 2147483647) (K : ∀ (c2 : ME) (y : Int), Iv 0 (-1) P Q c2 → (∀ (a : Nat) (j : Int), ¬ ((a = 41 ∧ j = 0) ∨ a = 42 ∨ (a = 41 ∧ j = 50) ∨ a = 59 ∨ a = 54 ∨ a = 55) → c2 a j = c a j) → (-2147483648) ≤ y ∧ y ≤ 2147483647 → Z (.inl (some (vi y)), Wd P Q P P c2, 0, 0)) : Wp sc (d + 15) 256 0 [(0, .ref 41), (1, vi a1), (2, vi a2), (3, vi a3), (4, vi a4), (5, vi a5), (6, vi a6)] [] (Wd P Q P P c) 0 0 Z := by
  have hP := iv_P hI
  have hQ := iv_Q hI
  refine q_aload_n c_256_0 rfl (q_iconst c_256_1 (v_pi (z := 0) c_256_2 kf_8_3 rfl (nb_ rfl) rfl rfl rfl (by decide) (q_aload_n c_256_5 rfl (q_iload_n c_256_6 rfl (q_iconst c_256_7 (v_bip c_256_8 (by decide) (q_call c_256_10 rfl rfl rfl ?_)))))))
  refine q_iload_n c_146_0 rfl (q_iload_n c_146_1 rfl ?_)
  by_cases h_54 : a2 < 1
  · refine v_ic_lt_t (t := 14) c_146_2 rfl ⟨ha2.1, h_54, by decide⟩ (q_iconst c_146_14 (v_zret c_146_15 rfl (by decide) (bk_inl (v_if_eq_t (t := 54) c_256_13 rfl (by decide) (q_iconst c_256_54 (q_iconst c_256_55 (q_iconst c_256_56 ?_)))))))
    refine v_cv c_256_57 km_8_203 rfl rfl (nb_ rfl) ⟨⟨rfl, rfl⟩, nb_ rfl, rfl⟩ (nb_ rfl) (nb_ rfl) (q_iload_n c_145_0 rfl (v_if_ne_f (t := 26) c_145_1 rfl (by decide) (q_aload_n c_145_4 rfl (v_gi (z := 0) (v := 0) c_145_5 kf_8_3 rfl (nb_ rfl) rfl rfl (up_e rfl) (v_if_ne_f (t := 26) c_145_8 rfl (by decide) (q_aload_n c_145_11 rfl (q_iload_n c_145_12 rfl ?_)))))))
    refine v_pi (z := 0) c_145_13 kf_8_3 rfl (nb_ rfl) rfl rfl rfl (by decide) (q_aload_n c_145_16 rfl (v_gr (t := 42) c_145_17 kf_8_7 rfl (nb_ rfl) rfl (q_iload_n c_145_20 rfl (q_dup2 c_145_21 ⟨rfl, rfl⟩ ?_))))
    have h_55 := ir_42 hI 1
    refine v_ia (v := c 42 1) c_145_22 rfl (by decide) (by decide) (by decide) ((up_c (nn rfl)).trans (up_c (nn rfl))) (q_iconst c_145_23 (v_iadd (v := c 42 1 + 1) c_145_24 rfl (v_nrm (fun y_56 hy_56 => (v_is c_145_25 rfl (by decide) (by decide) (by decide) (q_aload_n c_145_26 rfl (v_gi (z := 0) (v := 1) c_145_27 kf_8_3 rfl (nb_ rfl) rfl rfl ((up_c (nn rfl)).trans (up_e rfl)) (v_if_ne_t (t := 37) c_145_30 rfl (by decide) ?_))))))))
    refine q_iconst c_145_37 (v_zret c_145_38 rfl (by decide) (bk_inl (v_if_ne_f (t := 65) c_256_60 rfl (by decide) (q_iconst c_256_63 (q_iret c_256_64 rfl ?_)))))
    have hI_57 := iw_41_0 (v := 0) hI ⟨by decide, by decide⟩
    have hI_58 := iw_41_0 (v := 1) hI_57 ⟨by decide, by decide⟩
    have hI_59 := iw_42 (j := 1) (v := y_56) hI_58 ⟨hy_56.1, hy_56.2⟩
    exact K (up (up (up c 41 0 0) 41 0 1) 42 1 y_56) 0 hI_59 (fun a j hm => (up_b (Decidable.or_iff_not_imp_left.mpr (fun h1 h2 => hm (Or.inr (Or.inl (Decidable.not_not.mp h1)))))).trans ((up_b (Decidable.or_iff_not_imp_left.mpr (fun h1 h2 => hm (Or.inl ⟨Decidable.not_not.mp h1, h2⟩)))).trans (up_b (Decidable.or_iff_not_imp_left.mpr (fun h1 h2 => hm (Or.inl ⟨Decidable.not_not.mp h1, h2⟩)))))) ⟨by decide, by decide⟩
  · refine v_ic_lt_f (t := 14) c_146_2 rfl ⟨by decide, (Int.not_lt.mp h_54), ha2.2⟩ (q_iload_n c_146_5 rfl (q_iload_n c_146_6 rfl ?_))
    by_cases h_60 : a2 > 10
    · refine v_ic_gt_t (t := 14) c_146_7 rfl ⟨by decide, h_60, ha2.2⟩ (q_iconst c_146_14 (v_zret c_146_15 rfl (by decide) (bk_inl (v_if_eq_t (t := 54) c_256_13 rfl (by decide) (q_iconst c_256_54 (q_iconst c_256_55 (q_iconst c_256_56 ?_)))))))
      refine v_cv c_256_57 km_8_203 rfl rfl (nb_ rfl) ⟨⟨rfl, rfl⟩, nb_ rfl, rfl⟩ (nb_ rfl) (nb_ rfl) (q_iload_n c_145_0 rfl (v_if_ne_f (t := 26) c_145_1 rfl (by decide) (q_aload_n c_145_4 rfl (v_gi (z := 0) (v := 0) c_145_5 kf_8_3 rfl (nb_ rfl) rfl rfl (up_e rfl) (v_if_ne_f (t := 26) c_145_8 rfl (by decide) (q_aload_n c_145_11 rfl (q_iload_n c_145_12 rfl ?_)))))))
      refine v_pi (z := 0) c_145_13 kf_8_3 rfl (nb_ rfl) rfl rfl rfl (by decide) (q_aload_n c_145_16 rfl (v_gr (t := 42) c_145_17 kf_8_7 rfl (nb_ rfl) rfl (q_iload_n c_145_20 rfl (q_dup2 c_145_21 ⟨rfl, rfl⟩ ?_))))
      have h_61 := ir_42 hI 1
      refine v_ia (v := c 42 1) c_145_22 rfl (by decide) (by decide) (by decide) ((up_c (nn rfl)).trans (up_c (nn rfl))) (q_iconst c_145_23 (v_iadd (v := c 42 1 + 1) c_145_24 rfl (v_nrm (fun y_62 hy_62 => (v_is c_145_25 rfl (by decide) (by decide) (by decide) (q_aload_n c_145_26 rfl (v_gi (z := 0) (v := 1) c_145_27 kf_8_3 rfl (nb_ rfl) rfl rfl ((up_c (nn rfl)).trans (up_e rfl)) (v_if_ne_t (t := 37) c_145_30 rfl (by decide) ?_))))))))
      refine q_iconst c_145_37 (v_zret c_145_38 rfl (by decide) (bk_inl (v_if_ne_f (t := 65) c_256_60 rfl (by decide) (q_iconst c_256_63 (q_iret c_256_64 rfl ?_)))))
      have hI_63 := iw_41_0 (v := 0) hI ⟨by decide, by decide⟩
      have hI_64 := iw_41_0 (v := 1) hI_63 ⟨by decide, by decide⟩
      have hI_65 := iw_42 (j := 1) (v := y_62) hI_64 ⟨hy_62.1, hy_62.2⟩
      exact K (up (up (up c 41 0 0) 41 0 1) 42 1 y_62) 0 hI_65 (fun a j hm => (up_b (Decidable.or_iff_not_imp_left.mpr (fun h1 h2 => hm (Or.inr (Or.inl (Decidable.not_not.mp h1)))))).trans ((up_b (Decidable.or_iff_not_imp_left.mpr (fun h1 h2 => hm (Or.inl ⟨Decidable.not_not.mp h1, h2⟩)))).trans (up_b (Decidable.or_iff_not_imp_left.mpr (fun h1 h2 => hm (Or.inl ⟨Decidable.not_not.mp h1, h2⟩)))))) ⟨by decide, by decide⟩
    · refine v_ic_gt_f (t := 14) c_146_7 rfl ⟨ha2.1, (Int.not_lt.mp h_60), by decide⟩ (q_iconst c_146_10 (q_goto (t := 15) c_146_11 rfl (v_zret c_146_15 rfl (by decide) (bk_inl (v_if_eq_f (t := 54) c_256_13 rfl (by decide) (q_iload_n c_256_16 rfl (q_iload c_256_17 rfl ?_)))))))
      refine q_call c_256_19 rfl rfl rfl (q_iload_n c_254_0 rfl ?_)
      by_cases h_66 : a3 < 0
      · refine v_if_lt_t (t := 25) c_254_1 rfl ⟨ha3.1, h_66, by decide⟩ (q_iconst c_254_25 (v_zret c_254_26 rfl (by decide) (bk_inl (v_if_eq_t (t := 54) c_256_22 rfl (by decide) (q_iconst c_256_54 (q_iconst c_256_55 (q_iconst c_256_56 ?_)))))))
        refine v_cv c_256_57 km_8_203 rfl rfl (nb_ rfl) ⟨⟨rfl, rfl⟩, nb_ rfl, rfl⟩ (nb_ rfl) (nb_ rfl) (q_iload_n c_145_0 rfl (v_if_ne_f (t := 26) c_145_1 rfl (by decide) (q_aload_n c_145_4 rfl (v_gi (z := 0) (v := 0) c_145_5 kf_8_3 rfl (nb_ rfl) rfl rfl (up_e rfl) (v_if_ne_f (t := 26) c_145_8 rfl (by decide) (q_aload_n c_145_11 rfl (q_iload_n c_145_12 rfl ?_)))))))
        refine v_pi (z := 0) c_145_13 kf_8_3 rfl (nb_ rfl) rfl rfl rfl (by decide) (q_aload_n c_145_16 rfl (v_gr (t := 42) c_145_17 kf_8_7 rfl (nb_ rfl) rfl (q_iload_n c_145_20 rfl (q_dup2 c_145_21 ⟨rfl, rfl⟩ ?_))))
        have h_67 := ir_42 hI 1
        refine v_ia (v := c 42 1) c_145_22 rfl (by decide) (by decide) (by decide) ((up_c (nn rfl)).trans (up_c (nn rfl))) (q_iconst c_145_23 (v_iadd (v := c 42 1 + 1) c_145_24 rfl (v_nrm (fun y_68 hy_68 => (v_is c_145_25 rfl (by decide) (by decide) (by decide) (q_aload_n c_145_26 rfl (v_gi (z := 0) (v := 1) c_145_27 kf_8_3 rfl (nb_ rfl) rfl rfl ((up_c (nn rfl)).trans (up_e rfl)) (v_if_ne_t (t := 37) c_145_30 rfl (by decide) ?_))))))))
        refine q_iconst c_145_37 (v_zret c_145_38 rfl (by decide) (bk_inl (v_if_ne_f (t := 65) c_256_60 rfl (by decide) (q_iconst c_256_63 (q_iret c_256_64 rfl ?_)))))
        have hI_69 := iw_41_0 (v := 0) hI ⟨by decide, by decide⟩
        have hI_70 := iw_41_0 (v := 1) hI_69 ⟨by decide, by decide⟩
        have hI_71 := iw_42 (j := 1) (v := y_68) hI_70 ⟨hy_68.1, hy_68.2⟩
        exact K (up (up (up c 41 0 0) 41 0 1) 42 1 y_68) 0 hI_71 (fun a j hm => (up_b (Decidable.or_iff_not_imp_left.mpr (fun h1 h2 => hm (Or.inr (Or.inl (Decidable.not_not.mp h1)))))).trans ((up_b (Decidable.or_iff_not_imp_left.mpr (fun h1 h2 => hm (Or.inl ⟨Decidable.not_not.mp h1, h2⟩)))).trans (up_b (Decidable.or_iff_not_imp_left.mpr (fun h1 h2 => hm (Or.inl ⟨Decidable.not_not.mp h1, h2⟩)))))) ⟨by decide, by decide⟩
      · refine v_if_lt_f (t := 25) c_254_1 rfl ⟨by decide, (Int.not_lt.mp h_66), ha3.2⟩ (q_iload_n c_254_4 rfl (v_bip c_254_5 (by decide) ?_))
        by_cases h_72 : a3 > 16
        · refine v_ic_gt_t (t := 25) c_254_7 rfl ⟨by decide, h_72, ha3.2⟩ (q_iconst c_254_25 (v_zret c_254_26 rfl (by decide) (bk_inl (v_if_eq_t (t := 54) c_256_22 rfl (by decide) (q_iconst c_256_54 (q_iconst c_256_55 (q_iconst c_256_56 ?_)))))))
          refine v_cv c_256_57 km_8_203 rfl rfl (nb_ rfl) ⟨⟨rfl, rfl⟩, nb_ rfl, rfl⟩ (nb_ rfl) (nb_ rfl) (q_iload_n c_145_0 rfl (v_if_ne_f (t := 26) c_145_1 rfl (by decide) (q_aload_n c_145_4 rfl (v_gi (z := 0) (v := 0) c_145_5 kf_8_3 rfl (nb_ rfl) rfl rfl (up_e rfl) (v_if_ne_f (t := 26) c_145_8 rfl (by decide) (q_aload_n c_145_11 rfl (q_iload_n c_145_12 rfl ?_)))))))
          refine v_pi (z := 0) c_145_13 kf_8_3 rfl (nb_ rfl) rfl rfl rfl (by decide) (q_aload_n c_145_16 rfl (v_gr (t := 42) c_145_17 kf_8_7 rfl (nb_ rfl) rfl (q_iload_n c_145_20 rfl (q_dup2 c_145_21 ⟨rfl, rfl⟩ ?_))))
          have h_73 := ir_42 hI 1
          refine v_ia (v := c 42 1) c_145_22 rfl (by decide) (by decide) (by decide) ((up_c (nn rfl)).trans (up_c (nn rfl))) (q_iconst c_145_23 (v_iadd (v := c 42 1 + 1) c_145_24 rfl (v_nrm (fun y_74 hy_74 => (v_is c_145_25 rfl (by decide) (by decide) (by decide) (q_aload_n c_145_26 rfl (v_gi (z := 0) (v := 1) c_145_27 kf_8_3 rfl (nb_ rfl) rfl rfl ((up_c (nn rfl)).trans (up_e rfl)) (v_if_ne_t (t := 37) c_145_30 rfl (by decide) ?_))))))))
          refine q_iconst c_145_37 (v_zret c_145_38 rfl (by decide) (bk_inl (v_if_ne_f (t := 65) c_256_60 rfl (by decide) (q_iconst c_256_63 (q_iret c_256_64 rfl ?_)))))
          have hI_75 := iw_41_0 (v := 0) hI ⟨by decide, by decide⟩
          have hI_76 := iw_41_0 (v := 1) hI_75 ⟨by decide, by decide⟩
          have hI_77 := iw_42 (j := 1) (v := y_74) hI_76 ⟨hy_74.1, hy_74.2⟩
          exact K (up (up (up c 41 0 0) 41 0 1) 42 1 y_74) 0 hI_77 (fun a j hm => (up_b (Decidable.or_iff_not_imp_left.mpr (fun h1 h2 => hm (Or.inr (Or.inl (Decidable.not_not.mp h1)))))).trans ((up_b (Decidable.or_iff_not_imp_left.mpr (fun h1 h2 => hm (Or.inl ⟨Decidable.not_not.mp h1, h2⟩)))).trans (up_b (Decidable.or_iff_not_imp_left.mpr (fun h1 h2 => hm (Or.inl ⟨Decidable.not_not.mp h1, h2⟩)))))) ⟨by decide, by decide⟩
        · refine v_ic_gt_f (t := 25) c_254_7 rfl ⟨ha3.1, (Int.not_lt.mp h_72), by decide⟩ (q_iload_n c_254_10 rfl (q_iconst c_254_11 ?_))
          by_cases h_78 : a4 < 1
          · refine v_ic_lt_t (t := 25) c_254_12 rfl ⟨ha4.1, h_78, by decide⟩ (q_iconst c_254_25 (v_zret c_254_26 rfl (by decide) (bk_inl (v_if_eq_t (t := 54) c_256_22 rfl (by decide) (q_iconst c_256_54 (q_iconst c_256_55 (q_iconst c_256_56 ?_)))))))
            refine v_cv c_256_57 km_8_203 rfl rfl (nb_ rfl) ⟨⟨rfl, rfl⟩, nb_ rfl, rfl⟩ (nb_ rfl) (nb_ rfl) (q_iload_n c_145_0 rfl (v_if_ne_f (t := 26) c_145_1 rfl (by decide) (q_aload_n c_145_4 rfl (v_gi (z := 0) (v := 0) c_145_5 kf_8_3 rfl (nb_ rfl) rfl rfl (up_e rfl) (v_if_ne_f (t := 26) c_145_8 rfl (by decide) (q_aload_n c_145_11 rfl (q_iload_n c_145_12 rfl ?_)))))))
            refine v_pi (z := 0) c_145_13 kf_8_3 rfl (nb_ rfl) rfl rfl rfl (by decide) (q_aload_n c_145_16 rfl (v_gr (t := 42) c_145_17 kf_8_7 rfl (nb_ rfl) rfl (q_iload_n c_145_20 rfl (q_dup2 c_145_21 ⟨rfl, rfl⟩ ?_))))
            have h_79 := ir_42 hI 1
            refine v_ia (v := c 42 1) c_145_22 rfl (by decide) (by decide) (by decide) ((up_c (nn rfl)).trans (up_c (nn rfl))) (q_iconst c_145_23 (v_iadd (v := c 42 1 + 1) c_145_24 rfl (v_nrm (fun y_80 hy_80 => (v_is c_145_25 rfl (by decide) (by decide) (by decide) (q_aload_n c_145_26 rfl (v_gi (z := 0) (v := 1) c_145_27 kf_8_3 rfl (nb_ rfl) rfl rfl ((up_c (nn rfl)).trans (up_e rfl)) (v_if_ne_t (t := 37) c_145_30 rfl (by decide) ?_))))))))
            refine q_iconst c_145_37 (v_zret c_145_38 rfl (by decide) (bk_inl (v_if_ne_f (t := 65) c_256_60 rfl (by decide) (q_iconst c_256_63 (q_iret c_256_64 rfl ?_)))))
            have hI_81 := iw_41_0 (v := 0) hI ⟨by decide, by decide⟩
            have hI_82 := iw_41_0 (v := 1) hI_81 ⟨by decide, by decide⟩
            have hI_83 := iw_42 (j := 1) (v := y_80) hI_82 ⟨hy_80.1, hy_80.2⟩
            exact K (up (up (up c 41 0 0) 41 0 1) 42 1 y_80) 0 hI_83 (fun a j hm => (up_b (Decidable.or_iff_not_imp_left.mpr (fun h1 h2 => hm (Or.inr (Or.inl (Decidable.not_not.mp h1)))))).trans ((up_b (Decidable.or_iff_not_imp_left.mpr (fun h1 h2 => hm (Or.inl ⟨Decidable.not_not.mp h1, h2⟩)))).trans (up_b (Decidable.or_iff_not_imp_left.mpr (fun h1 h2 => hm (Or.inl ⟨Decidable.not_not.mp h1, h2⟩)))))) ⟨by decide, by decide⟩
          · refine v_ic_lt_f (t := 25) c_254_12 rfl ⟨by decide, (Int.not_lt.mp h_78), ha4.2⟩ (q_iload_n c_254_15 rfl (v_bip c_254_16 (by decide) ?_))
            by_cases h_84 : a4 > 48
            · refine v_ic_gt_t (t := 25) c_254_18 rfl ⟨by decide, h_84, ha4.2⟩ (q_iconst c_254_25 (v_zret c_254_26 rfl (by decide) (bk_inl (v_if_eq_t (t := 54) c_256_22 rfl (by decide) (q_iconst c_256_54 (q_iconst c_256_55 (q_iconst c_256_56 ?_)))))))
              refine v_cv c_256_57 km_8_203 rfl rfl (nb_ rfl) ⟨⟨rfl, rfl⟩, nb_ rfl, rfl⟩ (nb_ rfl) (nb_ rfl) (q_iload_n c_145_0 rfl (v_if_ne_f (t := 26) c_145_1 rfl (by decide) (q_aload_n c_145_4 rfl (v_gi (z := 0) (v := 0) c_145_5 kf_8_3 rfl (nb_ rfl) rfl rfl (up_e rfl) (v_if_ne_f (t := 26) c_145_8 rfl (by decide) (q_aload_n c_145_11 rfl (q_iload_n c_145_12 rfl ?_)))))))
              refine v_pi (z := 0) c_145_13 kf_8_3 rfl (nb_ rfl) rfl rfl rfl (by decide) (q_aload_n c_145_16 rfl (v_gr (t := 42) c_145_17 kf_8_7 rfl (nb_ rfl) rfl (q_iload_n c_145_20 rfl (q_dup2 c_145_21 ⟨rfl, rfl⟩ ?_))))
              have h_85 := ir_42 hI 1
              refine v_ia (v := c 42 1) c_145_22 rfl (by decide) (by decide) (by decide) ((up_c (nn rfl)).trans (up_c (nn rfl))) (q_iconst c_145_23 (v_iadd (v := c 42 1 + 1) c_145_24 rfl (v_nrm (fun y_86 hy_86 => (v_is c_145_25 rfl (by decide) (by decide) (by decide) (q_aload_n c_145_26 rfl (v_gi (z := 0) (v := 1) c_145_27 kf_8_3 rfl (nb_ rfl) rfl rfl ((up_c (nn rfl)).trans (up_e rfl)) (v_if_ne_t (t := 37) c_145_30 rfl (by decide) ?_))))))))
              refine q_iconst c_145_37 (v_zret c_145_38 rfl (by decide) (bk_inl (v_if_ne_f (t := 65) c_256_60 rfl (by decide) (q_iconst c_256_63 (q_iret c_256_64 rfl ?_)))))
              have hI_87 := iw_41_0 (v := 0) hI ⟨by decide, by decide⟩
              have hI_88 := iw_41_0 (v := 1) hI_87 ⟨by decide, by decide⟩
              have hI_89 := iw_42 (j := 1) (v := y_86) hI_88 ⟨hy_86.1, hy_86.2⟩
              exact K (up (up (up c 41 0 0) 41 0 1) 42 1 y_86) 0 hI_89 (fun a j hm => (up_b (Decidable.or_iff_not_imp_left.mpr (fun h1 h2 => hm (Or.inr (Or.inl (Decidable.not_not.mp h1)))))).trans ((up_b (Decidable.or_iff_not_imp_left.mpr (fun h1 h2 => hm (Or.inl ⟨Decidable.not_not.mp h1, h2⟩)))).trans (up_b (Decidable.or_iff_not_imp_left.mpr (fun h1 h2 => hm (Or.inl ⟨Decidable.not_not.mp h1, h2⟩)))))) ⟨by decide, by decide⟩
            · refine v_ic_gt_f (t := 25) c_254_18 rfl ⟨ha4.1, (Int.not_lt.mp h_84), by decide⟩ (q_iconst c_254_21 (q_goto (t := 26) c_254_22 rfl (v_zret c_254_26 rfl (by decide) (bk_inl (v_if_eq_f (t := 54) c_256_22 rfl (by decide) (q_iload c_256_25 rfl (q_iconst c_256_27 ?_)))))))
              refine q_iconst c_256_28 (q_call c_256_29 rfl rfl rfl (q_iload_n c_146_0 rfl (q_iload_n c_146_1 rfl ?_)))
              by_cases h_90 : a5 < 0
              · refine v_ic_lt_t (t := 14) c_146_2 rfl ⟨ha5.1, h_90, by decide⟩ (q_iconst c_146_14 (v_zret c_146_15 rfl (by decide) (bk_inl (v_if_eq_t (t := 54) c_256_32 rfl (by decide) (q_iconst c_256_54 (q_iconst c_256_55 (q_iconst c_256_56 ?_)))))))
                refine v_cv c_256_57 km_8_203 rfl rfl (nb_ rfl) ⟨⟨rfl, rfl⟩, nb_ rfl, rfl⟩ (nb_ rfl) (nb_ rfl) (q_iload_n c_145_0 rfl (v_if_ne_f (t := 26) c_145_1 rfl (by decide) (q_aload_n c_145_4 rfl (v_gi (z := 0) (v := 0) c_145_5 kf_8_3 rfl (nb_ rfl) rfl rfl (up_e rfl) (v_if_ne_f (t := 26) c_145_8 rfl (by decide) (q_aload_n c_145_11 rfl (q_iload_n c_145_12 rfl ?_)))))))
                refine v_pi (z := 0) c_145_13 kf_8_3 rfl (nb_ rfl) rfl rfl rfl (by decide) (q_aload_n c_145_16 rfl (v_gr (t := 42) c_145_17 kf_8_7 rfl (nb_ rfl) rfl (q_iload_n c_145_20 rfl (q_dup2 c_145_21 ⟨rfl, rfl⟩ ?_))))
                have h_91 := ir_42 hI 1
                refine v_ia (v := c 42 1) c_145_22 rfl (by decide) (by decide) (by decide) ((up_c (nn rfl)).trans (up_c (nn rfl))) (q_iconst c_145_23 (v_iadd (v := c 42 1 + 1) c_145_24 rfl (v_nrm (fun y_92 hy_92 => (v_is c_145_25 rfl (by decide) (by decide) (by decide) (q_aload_n c_145_26 rfl (v_gi (z := 0) (v := 1) c_145_27 kf_8_3 rfl (nb_ rfl) rfl rfl ((up_c (nn rfl)).trans (up_e rfl)) (v_if_ne_t (t := 37) c_145_30 rfl (by decide) ?_))))))))
                refine q_iconst c_145_37 (v_zret c_145_38 rfl (by decide) (bk_inl (v_if_ne_f (t := 65) c_256_60 rfl (by decide) (q_iconst c_256_63 (q_iret c_256_64 rfl ?_)))))
                have hI_93 := iw_41_0 (v := 0) hI ⟨by decide, by decide⟩
                have hI_94 := iw_41_0 (v := 1) hI_93 ⟨by decide, by decide⟩
                have hI_95 := iw_42 (j := 1) (v := y_92) hI_94 ⟨hy_92.1, hy_92.2⟩
                exact K (up (up (up c 41 0 0) 41 0 1) 42 1 y_92) 0 hI_95 (fun a j hm => (up_b (Decidable.or_iff_not_imp_left.mpr (fun h1 h2 => hm (Or.inr (Or.inl (Decidable.not_not.mp h1)))))).trans ((up_b (Decidable.or_iff_not_imp_left.mpr (fun h1 h2 => hm (Or.inl ⟨Decidable.not_not.mp h1, h2⟩)))).trans (up_b (Decidable.or_iff_not_imp_left.mpr (fun h1 h2 => hm (Or.inl ⟨Decidable.not_not.mp h1, h2⟩)))))) ⟨by decide, by decide⟩
              · refine v_ic_lt_f (t := 14) c_146_2 rfl ⟨by decide, (Int.not_lt.mp h_90), ha5.2⟩ (q_iload_n c_146_5 rfl (q_iload_n c_146_6 rfl ?_))
                by_cases h_96 : a5 > 2
                · refine v_ic_gt_t (t := 14) c_146_7 rfl ⟨by decide, h_96, ha5.2⟩ (q_iconst c_146_14 (v_zret c_146_15 rfl (by decide) (bk_inl (v_if_eq_t (t := 54) c_256_32 rfl (by decide) (q_iconst c_256_54 (q_iconst c_256_55 (q_iconst c_256_56 ?_)))))))
                  refine v_cv c_256_57 km_8_203 rfl rfl (nb_ rfl) ⟨⟨rfl, rfl⟩, nb_ rfl, rfl⟩ (nb_ rfl) (nb_ rfl) (q_iload_n c_145_0 rfl (v_if_ne_f (t := 26) c_145_1 rfl (by decide) (q_aload_n c_145_4 rfl (v_gi (z := 0) (v := 0) c_145_5 kf_8_3 rfl (nb_ rfl) rfl rfl (up_e rfl) (v_if_ne_f (t := 26) c_145_8 rfl (by decide) (q_aload_n c_145_11 rfl (q_iload_n c_145_12 rfl ?_)))))))
                  refine v_pi (z := 0) c_145_13 kf_8_3 rfl (nb_ rfl) rfl rfl rfl (by decide) (q_aload_n c_145_16 rfl (v_gr (t := 42) c_145_17 kf_8_7 rfl (nb_ rfl) rfl (q_iload_n c_145_20 rfl (q_dup2 c_145_21 ⟨rfl, rfl⟩ ?_))))
                  have h_97 := ir_42 hI 1
                  refine v_ia (v := c 42 1) c_145_22 rfl (by decide) (by decide) (by decide) ((up_c (nn rfl)).trans (up_c (nn rfl))) (q_iconst c_145_23 (v_iadd (v := c 42 1 + 1) c_145_24 rfl (v_nrm (fun y_98 hy_98 => (v_is c_145_25 rfl (by decide) (by decide) (by decide) (q_aload_n c_145_26 rfl (v_gi (z := 0) (v := 1) c_145_27 kf_8_3 rfl (nb_ rfl) rfl rfl ((up_c (nn rfl)).trans (up_e rfl)) (v_if_ne_t (t := 37) c_145_30 rfl (by decide) ?_))))))))
                  refine q_iconst c_145_37 (v_zret c_145_38 rfl (by decide) (bk_inl (v_if_ne_f (t := 65) c_256_60 rfl (by decide) (q_iconst c_256_63 (q_iret c_256_64 rfl ?_)))))
                  have hI_99 := iw_41_0 (v := 0) hI ⟨by decide, by decide⟩
                  have hI_100 := iw_41_0 (v := 1) hI_99 ⟨by decide, by decide⟩
                  have hI_101 := iw_42 (j := 1) (v := y_98) hI_100 ⟨hy_98.1, hy_98.2⟩
                  exact K (up (up (up c 41 0 0) 41 0 1) 42 1 y_98) 0 hI_101 (fun a j hm => (up_b (Decidable.or_iff_not_imp_left.mpr (fun h1 h2 => hm (Or.inr (Or.inl (Decidable.not_not.mp h1)))))).trans ((up_b (Decidable.or_iff_not_imp_left.mpr (fun h1 h2 => hm (Or.inl ⟨Decidable.not_not.mp h1, h2⟩)))).trans (up_b (Decidable.or_iff_not_imp_left.mpr (fun h1 h2 => hm (Or.inl ⟨Decidable.not_not.mp h1, h2⟩)))))) ⟨by decide, by decide⟩
                · refine v_ic_gt_f (t := 14) c_146_7 rfl ⟨ha5.1, (Int.not_lt.mp h_96), by decide⟩ (q_iconst c_146_10 (q_goto (t := 15) c_146_11 rfl (v_zret c_146_15 rfl (by decide) (bk_inl (v_if_eq_f (t := 54) c_256_32 rfl (by decide) (q_iload c_256_35 rfl (q_iconst c_256_37 ?_)))))))
                  refine q_aload_n c_256_38 rfl ?_
                  have h_102 := ir_41_20 hI
                  refine v_gi (z := 20) (v := c 41 20) c_256_39 kf_8_157 rfl (nb_ rfl) rfl rfl (up_n (by decide)) (q_iconst c_256_42 (v_isub (v := c 41 20 - 1) c_256_43 rfl (q_call c_256_44 rfl rfl rfl (q_iload_n c_146_0 rfl (q_iload_n c_146_1 rfl ?_)))))
                  by_cases h_103 : a6 < 0
                  · refine v_ic_lt_t (t := 14) c_146_2 rfl ⟨ha6.1, h_103, by decide⟩ (q_iconst c_146_14 (v_zret c_146_15 rfl (by decide) (bk_inl (v_if_eq_t (t := 54) c_256_47 rfl (by decide) (q_iconst c_256_54 (q_iconst c_256_55 (q_iconst c_256_56 ?_)))))))
                    refine v_cv c_256_57 km_8_203 rfl rfl (nb_ rfl) ⟨⟨rfl, rfl⟩, nb_ rfl, rfl⟩ (nb_ rfl) (nb_ rfl) (q_iload_n c_145_0 rfl (v_if_ne_f (t := 26) c_145_1 rfl (by decide) (q_aload_n c_145_4 rfl (v_gi (z := 0) (v := 0) c_145_5 kf_8_3 rfl (nb_ rfl) rfl rfl (up_e rfl) (v_if_ne_f (t := 26) c_145_8 rfl (by decide) (q_aload_n c_145_11 rfl (q_iload_n c_145_12 rfl ?_)))))))
                    refine v_pi (z := 0) c_145_13 kf_8_3 rfl (nb_ rfl) rfl rfl rfl (by decide) (q_aload_n c_145_16 rfl (v_gr (t := 42) c_145_17 kf_8_7 rfl (nb_ rfl) rfl (q_iload_n c_145_20 rfl (q_dup2 c_145_21 ⟨rfl, rfl⟩ ?_))))
                    have h_104 := ir_42 hI 1
                    refine v_ia (v := c 42 1) c_145_22 rfl (by decide) (by decide) (by decide) ((up_c (nn rfl)).trans (up_c (nn rfl))) (q_iconst c_145_23 (v_iadd (v := c 42 1 + 1) c_145_24 rfl (v_nrm (fun y_105 hy_105 => (v_is c_145_25 rfl (by decide) (by decide) (by decide) (q_aload_n c_145_26 rfl (v_gi (z := 0) (v := 1) c_145_27 kf_8_3 rfl (nb_ rfl) rfl rfl ((up_c (nn rfl)).trans (up_e rfl)) (v_if_ne_t (t := 37) c_145_30 rfl (by decide) ?_))))))))
                    refine q_iconst c_145_37 (v_zret c_145_38 rfl (by decide) (bk_inl (v_if_ne_f (t := 65) c_256_60 rfl (by decide) (q_iconst c_256_63 (q_iret c_256_64 rfl ?_)))))
                    have hI_106 := iw_41_0 (v := 0) hI ⟨by decide, by decide⟩
                    have hI_107 := iw_41_0 (v := 1) hI_106 ⟨by decide, by decide⟩
                    have hI_108 := iw_42 (j := 1) (v := y_105) hI_107 ⟨hy_105.1, hy_105.2⟩
                    exact K (up (up (up c 41 0 0) 41 0 1) 42 1 y_105) 0 hI_108 (fun a j hm => (up_b (Decidable.or_iff_not_imp_left.mpr (fun h1 h2 => hm (Or.inr (Or.inl (Decidable.not_not.mp h1)))))).trans ((up_b (Decidable.or_iff_not_imp_left.mpr (fun h1 h2 => hm (Or.inl ⟨Decidable.not_not.mp h1, h2⟩)))).trans (up_b (Decidable.or_iff_not_imp_left.mpr (fun h1 h2 => hm (Or.inl ⟨Decidable.not_not.mp h1, h2⟩)))))) ⟨by decide, by decide⟩
                  · refine v_ic_lt_f (t := 14) c_146_2 rfl ⟨by decide, (Int.not_lt.mp h_103), ha6.2⟩ (q_iload_n c_146_5 rfl (q_iload_n c_146_6 rfl ?_))
                    by_cases h_109 : a6 > c 41 20 - 1
                    · refine v_ic_gt_t (t := 14) c_146_7 rfl ⟨by first | exact rgm_l h_102.1 (by decide) | omega, h_109, ha6.2⟩ (q_iconst c_146_14 (v_zret c_146_15 rfl (by decide) (bk_inl (v_if_eq_t (t := 54) c_256_47 rfl (by decide) (q_iconst c_256_54 (q_iconst c_256_55 (q_iconst c_256_56 ?_)))))))
                      refine v_cv c_256_57 km_8_203 rfl rfl (nb_ rfl) ⟨⟨rfl, rfl⟩, nb_ rfl, rfl⟩ (nb_ rfl) (nb_ rfl) (q_iload_n c_145_0 rfl (v_if_ne_f (t := 26) c_145_1 rfl (by decide) (q_aload_n c_145_4 rfl (v_gi (z := 0) (v := 0) c_145_5 kf_8_3 rfl (nb_ rfl) rfl rfl (up_e rfl) (v_if_ne_f (t := 26) c_145_8 rfl (by decide) (q_aload_n c_145_11 rfl (q_iload_n c_145_12 rfl ?_)))))))
                      refine v_pi (z := 0) c_145_13 kf_8_3 rfl (nb_ rfl) rfl rfl rfl (by decide) (q_aload_n c_145_16 rfl (v_gr (t := 42) c_145_17 kf_8_7 rfl (nb_ rfl) rfl (q_iload_n c_145_20 rfl (q_dup2 c_145_21 ⟨rfl, rfl⟩ ?_))))
                      have h_110 := ir_42 hI 1
                      refine v_ia (v := c 42 1) c_145_22 rfl (by decide) (by decide) (by decide) ((up_c (nn rfl)).trans (up_c (nn rfl))) (q_iconst c_145_23 (v_iadd (v := c 42 1 + 1) c_145_24 rfl (v_nrm (fun y_111 hy_111 => (v_is c_145_25 rfl (by decide) (by decide) (by decide) (q_aload_n c_145_26 rfl (v_gi (z := 0) (v := 1) c_145_27 kf_8_3 rfl (nb_ rfl) rfl rfl ((up_c (nn rfl)).trans (up_e rfl)) (v_if_ne_t (t := 37) c_145_30 rfl (by decide) ?_))))))))
                      refine q_iconst c_145_37 (v_zret c_145_38 rfl (by decide) (bk_inl (v_if_ne_f (t := 65) c_256_60 rfl (by decide) (q_iconst c_256_63 (q_iret c_256_64 rfl ?_)))))
                      have hI_112 := iw_41_0 (v := 0) hI ⟨by decide, by decide⟩
                      have hI_113 := iw_41_0 (v := 1) hI_112 ⟨by decide, by decide⟩
                      have hI_114 := iw_42 (j := 1) (v := y_111) hI_113 ⟨hy_111.1, hy_111.2⟩
                      exact K (up (up (up c 41 0 0) 41 0 1) 42 1 y_111) 0 hI_114 (fun a j hm => (up_b (Decidable.or_iff_not_imp_left.mpr (fun h1 h2 => hm (Or.inr (Or.inl (Decidable.not_not.mp h1)))))).trans ((up_b (Decidable.or_iff_not_imp_left.mpr (fun h1 h2 => hm (Or.inl ⟨Decidable.not_not.mp h1, h2⟩)))).trans (up_b (Decidable.or_iff_not_imp_left.mpr (fun h1 h2 => hm (Or.inl ⟨Decidable.not_not.mp h1, h2⟩)))))) ⟨by decide, by decide⟩
                    · refine v_ic_gt_f (t := 14) c_146_7 rfl ⟨ha6.1, (Int.not_lt.mp h_109), by first | exact rgm_h h_102.2 (by decide) | omega⟩ (q_iconst c_146_10 (q_goto (t := 15) c_146_11 rfl (v_zret c_146_15 rfl (by decide) (bk_inl (v_if_eq_f (t := 54) c_256_47 rfl (by decide) (q_iconst c_256_50 (q_goto (t := 55) c_256_51 rfl ?_)))))))
                      refine q_iconst c_256_55 (q_iconst c_256_56 (v_cv c_256_57 km_8_203 rfl rfl (nb_ rfl) ⟨⟨rfl, rfl⟩, nb_ rfl, rfl⟩ (nb_ rfl) (nb_ rfl) (q_iload_n c_145_0 rfl (v_if_ne_t (t := 26) c_145_1 rfl (by decide) (q_aload_n c_145_26 rfl (v_gi (z := 0) (v := 0) c_145_27 kf_8_3 rfl (nb_ rfl) rfl rfl (up_e rfl) (v_if_ne_f (t := 37) c_145_30 rfl (by decide) ?_)))))))
                      refine q_iconst c_145_33 (q_goto (t := 38) c_145_34 rfl (v_zret c_145_38 rfl (by decide) (bk_inl (v_if_ne_t (t := 65) c_256_60 rfl (by decide) (q_iconst c_256_65 (q_istore c_256_66 (nb_ rfl) (q_iconst c_256_68 ?_)))))))
                      refine q_istore c_256_69 (nb_ rfl) (q_iconst c_256_71 (q_istore c_256_72 (nb_ rfl) (q_iconst c_256_74 (q_istore c_256_75 (nb_ rfl) ?_))))
                      have hI_115 := iw_41_0 (v := 0) hI ⟨by decide, by decide⟩
                      refine Wp_ls [(0, .ref 41), (1, vi a1), (2, vi a2), (3, vi a3), (4, vi a4), (5, vi a5), (6, vi a6), (7, vi (-1)), (8, vi 0), (9, vi 0), (10, vi 0)] (lsub_cons rfl (lsub_cons rfl (lsub_cons rfl (lsub_cons rfl (lsub_cons rfl (lsub_cons rfl (lsub_cons rfl (lsub_cons rfl (lsub_cons rfl (lsub_cons rfl (lsub_cons rfl lsub_nil))))))))))) ?_
                      exact (s_256_l (sc := sc) (d := d) hI ha1 ha2 ha3 ha4 ha5 ha6 K 24) (up c 41 0 0) (-1) 0 0 0 hI_115 (fun a j hm => up_b (Decidable.or_iff_not_imp_left.mpr (fun h1 h2 => hm (Or.inl ⟨Decidable.not_not.mp h1, h2⟩)))) ⟨by decide, by decide⟩ ⟨by decide, by decide⟩ ⟨by decide, by decide⟩ ⟨by decide, by decide⟩ ⟨by first | exact q_f19038599 h_54 | omega, by first | exact q_92a66bdad h_60 | omega⟩ ⟨by first | exact q_720657ba9 h_103 | omega, by first | exact q_3a2e67ab0 h_102 h_109 | omega⟩ ⟨by first | exact q_720657ba9 h_66 | omega, by first | exact q_7f2151846 h_72 | omega⟩ ⟨by first | exact q_f19038599 h_78 | omega, by first | exact q_1cdd54b12 h_84 | omega⟩ (by omega)


set_option maxRecDepth 100000 in
set_option maxHeartbeats 4000000 in
theorem s_259 {sc : List Int32} {d P Q : Nat} {c : ME} {Z : AR → Prop} (hI : Iv 0 (-1) P Q c)  (K : ∀ (c2 : ME) (y : Int), Iv 0 (-1) P Q c2 → (∀ (a : Nat) (j : Int), ¬ ((a = 41 ∧ j = 0) ∨ (a = 41 ∧ j = 52) ∨ a = 66) → c2 a j = c a j) → (-1) ≤ y ∧ y ≤ 3 → ((c 41 52 = 3 ∧ c2 41 52 = 3 ∧ y = (-1)) ∨ (c 41 52 ≤ 2 ∧ c2 41 52 = c 41 52 + 1 ∧ y = c2 41 52)) → Z (.inl (some (vi y)), Wd P Q P P c2, 0, 0)) : Wp sc (d + 8) 259 0 [(0, .ref 41)] [] (Wd P Q P P c) 0 0 Z := by
  have hP := iv_P hI
  have hQ := iv_Q hI
  refine q_aload_n c_259_0 rfl (q_iconst c_259_1 (v_pi (z := 0) c_259_2 kf_8_3 rfl (nb_ rfl) rfl rfl rfl (by decide) (q_aload_n c_259_5 rfl ?_)))
  have h_1 := ir_41_52 hI
  refine v_gi (z := 52) (v := c 41 52) c_259_6 kf_8_185 rfl (nb_ rfl) rfl rfl (up_n (by decide)) (q_iconst c_259_9 ?_)
  by_cases h_2 : c 41 52 ≠ 3
  · refine v_ic_ne_t (t := 15) c_259_10 rfl ⟨h_2, ⟨(Int.le_trans (by decide) h_1.1), (Int.le_trans h_1.2 (by decide))⟩, by decide, by decide⟩ (q_aload_n c_259_15 rfl (q_aload_n c_259_16 rfl (v_gi (z := 52) (v := c 41 52) c_259_17 kf_8_185 rfl (nb_ rfl) rfl rfl (up_n (by decide)) (q_iconst c_259_20 (v_cv c_259_21 km_8_456 rfl rfl (nb_ rfl) ⟨⟨rfl, rfl⟩, nb_ rfl, rfl⟩ (nb_ rfl) (nb_ rfl) (q_aload_n c_258_0 rfl (v_sip c_258_1 (by decide) ?_)))))))
    refine q_iload_n c_258_4 rfl (v_imul (v := 630 * c 41 52) c_258_5 (by first | exact q_b7e6363b0 | omega) (q_aload_n c_258_6 rfl (v_gr (t := 58) c_258_7 kf_8_65 rfl (nb_ rfl) rfl (v_bip c_258_10 (by decide) (q_iload_n c_258_12 rfl (v_cv c_258_13 km_8_452 rfl rfl (nb_ rfl) ⟨⟨rfl, rfl⟩, nb_ rfl, rfl⟩ (nb_ rfl) (nb_ rfl) (s_257k (t := 58) (nt := 37) (q := 630 * c 41 52) (n := 37) (v := 630 * c 41 52 + 37) rfl (by decide) (by decide) (by decide) (by omega) (by omega) (by omega) (bk_inl ?_))))))))
    refine q_istore_n c_258_16 (nb_ rfl) (q_aload_n c_258_17 rfl (q_iload_n c_258_18 rfl (q_aload_n c_258_19 rfl (v_gr (t := 60) c_258_20 kf_8_71 rfl (nb_ rfl) rfl (v_sip c_258_23 (by decide) (q_iload_n c_258_26 rfl (v_cv c_258_27 km_8_452 rfl rfl (nb_ rfl) ⟨⟨rfl, rfl⟩, nb_ rfl, rfl⟩ (nb_ rfl) (nb_ rfl) (s_257k (t := 60) (nt := 592) (q := 630 * c 41 52 + 37) (n := 592) (v := 630 * c 41 52 + 629) rfl (by decide) (by decide) (by decide) (by omega) (by omega) (by omega) ?_))))))))
    refine bk_inl (q_istore_n c_258_30 (nb_ rfl) (q_iload_n c_258_31 rfl (v_if_eq_f (t := 48) c_258_32 rfl (by decide) (q_aload_n c_258_35 rfl (v_gr (t := 66) c_258_36 kf_8_90 rfl (nb_ rfl) rfl (q_iload_n c_258_39 rfl (q_aload_n c_258_40 rfl ?_)))))))
    have h_3 := ir_41_35 hI
    refine v_gi (z := 35) (v := c 41 35) c_258_41 kf_8_182 rfl (nb_ rfl) rfl rfl ((upc_c (by omega)).trans ((upc_c (by omega)).trans (up_n (by decide)))) (v_is c_258_44 rfl (by decide) (by decide) ⟨by first | exact q_2013bec62 h_1 | omega, by first | exact q_d7ceb4844 h_1 h_2 | omega⟩ (q_goto (t := 58) c_258_45 rfl (q_vret rfl rfl (bk_inl (q_aload_n c_259_24 rfl (q_dup c_259_25 rfl (v_gi (z := 52) (v := c 41 52) c_259_26 kf_8_185 rfl (nb_ rfl) rfl rfl ((up_c (nn rfl)).trans ((upc_c (by omega)).trans ((upc_c (by omega)).trans (up_n (by decide))))) ?_)))))))
    refine q_iconst c_259_29 (v_iadd (v := c 41 52 + 1) c_259_30 rfl (v_pi (z := 52) c_259_31 kf_8_185 rfl (nb_ rfl) rfl rfl rfl (by decide) (q_aload_n c_259_34 rfl (v_gi (z := 52) (v := c 41 52 + 1) c_259_35 kf_8_185 rfl (nb_ rfl) rfl rfl (up_e rfl) (q_iret c_259_38 rfl ?_)))))
    have hI_4 := iw_41_0 (v := 0) hI ⟨by decide, by decide⟩
    have hI_5 := cp_58_66 (w := 630 * c 41 52) (i := c 41 52) hI_4 (by omega) (by omega)
    have hI_6 := cp_60_66 (w := 630 * c 41 52 + 37) (i := c 41 52) hI_5 (by omega) (by omega)
    have hI_7 := iw_66 (j := 630 * c 41 52 + 629) (v := c 41 35) hI_6 (by omega) (by omega)
    have hI_8 := iw_41_52 (v := c 41 52 + 1) hI_7 ⟨by first | exact rgp_l h_1.1 (by decide) | omega, by first | exact q_7ecd0bf1e h_1 h_2 | omega⟩
    have h_9 : (up (up (upc (upc (up c 41 0 0) 58 0 66 (630 * c 41 52) 37) 60 0 66 (630 * c 41 52 + 37) 592) 66 (630 * c 41 52 + 629) (c 41 35)) 41 52 (c 41 52 + 1)) 41 52 = c 41 52 + 1 := (up_e rfl)
    exact K (up (up (upc (upc (up c 41 0 0) 58 0 66 (630 * c 41 52) 37) 60 0 66 (630 * c 41 52 + 37) 592) 66 (630 * c 41 52 + 629) (c 41 35)) 41 52 (c 41 52 + 1)) (c 41 52 + 1) hI_8 (fun a j hm => (up_b (Decidable.or_iff_not_imp_left.mpr (fun h1 h2 => hm (Or.inr (Or.inl ⟨Decidable.not_not.mp h1, h2⟩))))).trans ((up_b (Decidable.or_iff_not_imp_left.mpr (fun h1 h2 => hm (Or.inr (Or.inr (Decidable.not_not.mp h1)))))).trans ((upc_c (fun h => hm (Or.inr (Or.inr h)))).trans ((upc_c (fun h => hm (Or.inr (Or.inr h)))).trans (up_b (Decidable.or_iff_not_imp_left.mpr (fun h1 h2 => hm (Or.inl ⟨Decidable.not_not.mp h1, h2⟩)))))))) ⟨by first | exact rgp_l h_1.1 (by decide) | omega, by first | exact q_7ecd0bf1e h_1 h_2 | omega⟩ (Or.inr ⟨by first | exact q_20607f14c h_1 h_2 | omega, by first | assumption | omega, by first | assumption | omega⟩)
  · refine v_ic_ne_f (t := 15) c_259_10 rfl (Decidable.not_not.mp h_2) (q_iconst c_259_13 (q_iret c_259_14 rfl ?_))
    have hI_10 := iw_41_0 (v := 0) hI ⟨by decide, by decide⟩
    have h_11 : (up c 41 0 0) 41 52 = c 41 52 := (up_n (by decide))
    exact K (up c 41 0 0) (-1) hI_10 (fun a j hm => up_b (Decidable.or_iff_not_imp_left.mpr (fun h1 h2 => hm (Or.inl ⟨Decidable.not_not.mp h1, h2⟩)))) ⟨by decide, by decide⟩ (Or.inl ⟨by first | exact q_f16cccee8 h_1 h_2 | omega, by first | exact q_f16cccee8 h_1 h_2 | omega, by first | assumption | omega⟩)

set_option maxRecDepth 100000 in
set_option maxHeartbeats 4000000 in
theorem s_260 {sc : List Int32} {d P Q : Nat} {c : ME} {Z : AR → Prop} (hI : Iv 0 (-1) P Q c)  (K : ∀ (c2 : ME) (y : Int), Iv 0 (-1) P Q c2 → (∀ (a : Nat) (j : Int), ¬ ((a = 41 ∧ j = 0) ∨ (a = 41 ∧ j = 52) ∨ (a = 41 ∧ j = 35) ∨ (a = 41 ∧ j = 36) ∨ a = 58 ∨ a = 60) → c2 a j = c a j) → (-1) ≤ y ∧ y ≤ 3 → ((c 41 52 = 0 ∧ c2 41 52 = 0 ∧ y = (-1)) ∨ (c 41 52 > 0 ∧ c2 41 52 = c 41 52 - 1 ∧ y = c2 41 52)) → Z (.inl (some (vi y)), Wd P Q P P c2, 0, 0)) : Wp sc (d + 8) 260 0 [(0, .ref 41)] [] (Wd P Q P P c) 0 0 Z := by
  have hP := iv_P hI
  have hQ := iv_Q hI
  refine q_aload_n c_260_0 rfl (q_iconst c_260_1 (v_pi (z := 0) c_260_2 kf_8_3 rfl (nb_ rfl) rfl rfl rfl (by decide) (q_aload_n c_260_5 rfl ?_)))
  have h_1 := ir_41_52 hI
  refine v_gi (z := 52) (v := c 41 52) c_260_6 kf_8_185 rfl (nb_ rfl) rfl rfl (up_n (by decide)) ?_
  by_cases h_2 : c 41 52 ≠ 0
  · refine v_if_ne_t (t := 14) c_260_9 rfl ⟨h_2, ⟨(Int.le_trans (by decide) h_1.1), (Int.le_trans h_1.2 (by decide))⟩, by decide, by decide⟩ (q_aload_n c_260_14 rfl (q_dup c_260_15 rfl (v_gi (z := 52) (v := c 41 52) c_260_16 kf_8_185 rfl (nb_ rfl) rfl rfl (up_n (by decide)) (q_iconst c_260_19 (v_isub (v := c 41 52 - 1) c_260_20 rfl (v_pi (z := 52) c_260_21 kf_8_185 rfl (nb_ rfl) rfl rfl rfl (by decide) (q_aload_n c_260_24 rfl ?_)))))))
    refine q_aload_n c_260_25 rfl (v_gi (z := 52) (v := c 41 52 - 1) c_260_26 kf_8_185 rfl (nb_ rfl) rfl rfl (up_e rfl) (q_iconst c_260_29 (v_cv c_260_30 km_8_456 rfl rfl (nb_ rfl) ⟨⟨rfl, rfl⟩, nb_ rfl, rfl⟩ (nb_ rfl) (nb_ rfl) (q_aload_n c_258_0 rfl (v_sip c_258_1 (by decide) (q_iload_n c_258_4 rfl (v_imul (v := 630 * c 41 52 - 630) c_258_5 (by first | exact q_f6b57ae70 | omega) ?_)))))))
    refine q_aload_n c_258_6 rfl (v_gr (t := 58) c_258_7 kf_8_65 rfl (nb_ rfl) rfl (v_bip c_258_10 (by decide) (q_iload_n c_258_12 rfl (v_cv c_258_13 km_8_452 rfl rfl (nb_ rfl) ⟨⟨rfl, rfl⟩, nb_ rfl, rfl⟩ (nb_ rfl) (nb_ rfl) (s_257r (t := 58) (nt := 37) (q := 630 * c 41 52 - 630) (n := 37) (v := 630 * c 41 52 - 593) rfl (by decide) (by decide) (by decide) (by omega) (by omega) (by omega) (bk_inl (q_istore_n c_258_16 (nb_ rfl) (q_aload_n c_258_17 rfl ?_))))))))
    refine q_iload_n c_258_18 rfl (q_aload_n c_258_19 rfl (v_gr (t := 60) c_258_20 kf_8_71 rfl (nb_ rfl) rfl (v_sip c_258_23 (by decide) (q_iload_n c_258_26 rfl (v_cv c_258_27 km_8_452 rfl rfl (nb_ rfl) ⟨⟨rfl, rfl⟩, nb_ rfl, rfl⟩ (nb_ rfl) (nb_ rfl) (s_257r (t := 60) (nt := 592) (q := 630 * c 41 52 - 593) (n := 592) (v := 630 * c 41 52 - 1) rfl (by decide) (by decide) (by decide) (by omega) (by omega) (by omega) (bk_inl (q_istore_n c_258_30 (nb_ rfl) ?_))))))))
    refine q_iload_n c_258_31 rfl (v_if_eq_t (t := 48) c_258_32 rfl (by decide) (q_aload_n c_258_48 rfl (q_aload_n c_258_49 rfl (v_gr (t := 66) c_258_50 kf_8_90 rfl (nb_ rfl) rfl (q_iload_n c_258_53 rfl ?_)))))
    have h_3 := ir_66 hI (630 * c 41 52 - 1)
    have h_4 := ir_66_9 hI (j := 630 * c 41 52 - 1) (by omega)
    refine v_ia (v := c 66 (630 * c 41 52 - 1)) c_258_54 rfl (by decide) (by decide) ⟨by first | exact q_e68c9ca42 h_1 h_2 | omega, by first | exact q_7688c24dd h_1 | omega⟩ ((upc_c (by omega)).trans ((upc_c (by omega)).trans ((up_c (nn rfl)).trans (up_c (nn rfl))))) (v_pi (z := 35) c_258_55 kf_8_182 rfl (nb_ rfl) rfl rfl rfl (by decide) (q_vret rfl rfl (bk_inl (q_aload_n c_260_33 rfl (q_iconst c_260_34 (v_pi (z := 36) c_260_35 kf_8_188 rfl (nb_ rfl) rfl rfl rfl (by decide) (q_aload_n c_260_38 rfl ?_)))))))
    refine v_gi (z := 52) (v := c 41 52 - 1) c_260_39 kf_8_185 rfl (nb_ rfl) rfl rfl ((up_n (by decide)).trans ((up_n (by decide)).trans ((upc_c (by omega)).trans ((upc_c (by omega)).trans (up_e rfl))))) (q_iret c_260_42 rfl ?_)
    have hI_5 := iw_41_0 (v := 0) hI ⟨by decide, by decide⟩
    have hI_6 := iw_41_52 (v := c 41 52 - 1) hI_5 ⟨by first | exact q_69cb20f07 h_1 h_2 | omega, by first | exact rgm_h h_1.2 (by decide) | omega⟩
    have hI_7 := cp_66_58 (w := 630 * c 41 52 - 630) (i := c 41 52 - 1) hI_6 (by omega) (by omega)
    have hI_8 := cp_66_60 (w := 630 * c 41 52 - 593) (i := c 41 52 - 1) hI_7 (by omega) (by omega)
    have hI_9 := iw_41_35 (v := c 66 (630 * c 41 52 - 1)) hI_8 ⟨by first | exact q_c01d181a1 h_4 | omega, by first | exact q_47a1838e7 h_4 | omega⟩
    have hI_10 := iw_41_36 (v := 0) hI_9 ⟨by decide, by decide⟩
    have h_11 : (up (up (upc (upc (up (up c 41 0 0) 41 52 (c 41 52 - 1)) 66 (630 * c 41 52 - 630) 58 0 37) 66 (630 * c 41 52 - 593) 60 0 592) 41 35 (c 66 (630 * c 41 52 - 1))) 41 36 0) 41 52 = c 41 52 - 1 := ((up_n (by decide)).trans ((up_n (by decide)).trans ((upc_c (by omega)).trans ((upc_c (by omega)).trans (up_e rfl)))))
    exact K (up (up (upc (upc (up (up c 41 0 0) 41 52 (c 41 52 - 1)) 66 (630 * c 41 52 - 630) 58 0 37) 66 (630 * c 41 52 - 593) 60 0 592) 41 35 (c 66 (630 * c 41 52 - 1))) 41 36 0) (c 41 52 - 1) hI_10 (fun a j hm => (up_b (Decidable.or_iff_not_imp_left.mpr (fun h1 h2 => hm (Or.inr (Or.inr (Or.inr (Or.inl ⟨Decidable.not_not.mp h1, h2⟩))))))).trans ((up_b (Decidable.or_iff_not_imp_left.mpr (fun h1 h2 => hm (Or.inr (Or.inr (Or.inl ⟨Decidable.not_not.mp h1, h2⟩)))))).trans ((upc_c (fun h => hm (Or.inr (Or.inr (Or.inr (Or.inr (Or.inr h))))))).trans ((upc_c (fun h => hm (Or.inr (Or.inr (Or.inr (Or.inr (Or.inl h))))))).trans ((up_b (Decidable.or_iff_not_imp_left.mpr (fun h1 h2 => hm (Or.inr (Or.inl ⟨Decidable.not_not.mp h1, h2⟩))))).trans (up_b (Decidable.or_iff_not_imp_left.mpr (fun h1 h2 => hm (Or.inl ⟨Decidable.not_not.mp h1, h2⟩))))))))) ⟨by first | exact rgm_l h_1.1 (by decide) | omega, by first | exact rgm_h h_1.2 (by decide) | omega⟩ (Or.inr ⟨by first | exact q_c6195508a h_1 h_2 | omega, by first | assumption | omega, by first | assumption | omega⟩)
  · refine v_if_ne_f (t := 14) c_260_9 rfl (Decidable.not_not.mp h_2) (q_iconst c_260_12 (q_iret c_260_13 rfl ?_))
    have hI_12 := iw_41_0 (v := 0) hI ⟨by decide, by decide⟩
    have h_13 : (up c 41 0 0) 41 52 = c 41 52 := (up_n (by decide))
    exact K (up c 41 0 0) (-1) hI_12 (fun a j hm => up_b (Decidable.or_iff_not_imp_left.mpr (fun h1 h2 => hm (Or.inl ⟨Decidable.not_not.mp h1, h2⟩)))) ⟨by decide, by decide⟩ (Or.inl ⟨by first | exact q_163d1c5eb h_1 h_2 | omega, by first | exact q_163d1c5eb h_1 h_2 | omega, by first | assumption | omega⟩)

set_option maxRecDepth 100000 in
set_option maxHeartbeats 4000000 in
theorem s_261 {sc : List Int32} {e : Int} {d u P Q : Nat} {c : ME} {a1 : Int} {Z : AR → Prop} (hI : Iv u e P Q c) (ha1 : (-2147483648) ≤ a1 ∧ a1 ≤ 2147483647) (K : ∀ (c2 : ME) (y : Int), Iv u e P Q c2 → (∀ (a : Nat) (j : Int), ¬ ((a = 41 ∧ j = 0)) → c2 a j = c a j) → (-2147483648) ≤ y ∧ y ≤ 2147483647 → Z (.inl (some (vi y)), Wd P Q P P c2, 0, 0)) : Wp sc (d + 8) 261 0 [(0, .ref 41), (1, vi a1)] [] (Wd P Q P P c) 0 0 Z := by
  have hP := iv_P hI
  have hQ := iv_Q hI
  refine q_aload_n c_261_0 rfl (q_iconst c_261_1 (v_pi (z := 0) c_261_2 kf_8_3 rfl (nb_ rfl) rfl rfl rfl (by decide) (q_iload_n c_261_5 rfl (q_iconst c_261_6 (q_iconst c_261_7 (q_call c_261_8 rfl rfl rfl (q_iload_n c_146_0 rfl ?_)))))))
  refine q_iload_n c_146_1 rfl ?_
  by_cases h_1 : a1 < 0
  · refine v_ic_lt_t (t := 14) c_146_2 rfl ⟨ha1.1, h_1, by decide⟩ (q_iconst c_146_14 (v_zret c_146_15 rfl (by decide) (bk_inl (v_if_eq_t (t := 23) c_261_11 rfl (by decide) (q_iconst c_261_23 (q_iret c_261_24 rfl ?_))))))
    have hI_2 := iw_41_0 (v := 0) hI ⟨by decide, by decide⟩
    exact K (up c 41 0 0) (-1) hI_2 (fun a j hm => up_b (Decidable.or_iff_not_imp_left.mpr (fun h1 h2 => hm ⟨Decidable.not_not.mp h1, h2⟩))) ⟨by decide, by decide⟩
  · refine v_ic_lt_f (t := 14) c_146_2 rfl ⟨by decide, (Int.not_lt.mp h_1), ha1.2⟩ (q_iload_n c_146_5 rfl (q_iload_n c_146_6 rfl ?_))
    by_cases h_3 : a1 > 1
    · refine v_ic_gt_t (t := 14) c_146_7 rfl ⟨by decide, h_3, ha1.2⟩ (q_iconst c_146_14 (v_zret c_146_15 rfl (by decide) (bk_inl (v_if_eq_t (t := 23) c_261_11 rfl (by decide) (q_iconst c_261_23 (q_iret c_261_24 rfl ?_))))))
      have hI_4 := iw_41_0 (v := 0) hI ⟨by decide, by decide⟩
      exact K (up c 41 0 0) (-1) hI_4 (fun a j hm => up_b (Decidable.or_iff_not_imp_left.mpr (fun h1 h2 => hm ⟨Decidable.not_not.mp h1, h2⟩))) ⟨by decide, by decide⟩
    · refine v_ic_gt_f (t := 14) c_146_7 rfl ⟨ha1.1, (Int.not_lt.mp h_3), by decide⟩ (q_iconst c_146_10 (q_goto (t := 15) c_146_11 rfl (v_zret c_146_15 rfl (by decide) (bk_inl (v_if_eq_f (t := 23) c_261_11 rfl (by decide) (q_aload_n c_261_14 rfl (v_gr (t := 42) c_261_15 kf_8_7 rfl (nb_ rfl) rfl ?_)))))))
      refine q_iload_n c_261_18 rfl ?_
      have h_5 := ir_42 hI a1
      refine v_ia (v := c 42 a1) c_261_19 rfl (by decide) (by decide) ⟨by first | exact q_720657ba9 h_1 | omega, by first | exact q_f99bab66d h_3 | omega⟩ (up_c (nn rfl)) (q_goto (t := 24) c_261_20 rfl (q_iret c_261_24 rfl ?_))
      have hI_6 := iw_41_0 (v := 0) hI ⟨by decide, by decide⟩
      exact K (up c 41 0 0) (c 42 a1) hI_6 (fun a j hm => up_b (Decidable.or_iff_not_imp_left.mpr (fun h1 h2 => hm ⟨Decidable.not_not.mp h1, h2⟩))) h_5

set_option maxRecDepth 100000 in
set_option maxHeartbeats 4000000 in
theorem s_262 {sc : List Int32} {e : Int} {d u P Q : Nat} {c : ME} {a1 : Int} {Z : AR → Prop} (hI : Iv u e P Q c) (ha1 : (-2147483648) ≤ a1 ∧ a1 ≤ 2147483647) (K : ∀ (c2 : ME) (y : Int), Iv u e P Q c2 → (∀ (a : Nat) (j : Int), ¬ ((a = 41 ∧ j = 0)) → c2 a j = c a j) → (-2147483648) ≤ y ∧ y ≤ 2147483647 → Z (.inl (some (vi y)), Wd P Q P P c2, 0, 0)) : Wp sc (d + 7) 262 0 [(0, .ref 41), (1, vi a1)] [] (Wd P Q P P c) 0 0 Z := by
  have hP := iv_P hI
  have hQ := iv_Q hI
  refine q_aload_n c_262_0 rfl (q_iconst c_262_1 (v_pi (z := 0) c_262_2 kf_8_3 rfl (nb_ rfl) rfl rfl rfl (by decide) (q_iload_n c_262_5 rfl ?_)))
  by_cases h_1 : a1 ≠ 0
  · refine v_if_ne_t (t := 16) c_262_6 rfl ⟨h_1, ⟨ha1.1, ha1.2⟩, by decide, by decide⟩ (q_iload_n c_262_16 rfl (q_iconst c_262_17 ?_))
    by_cases h_2 : a1 ≠ 1
    · refine v_ic_ne_t (t := 28) c_262_18 rfl ⟨h_2, ⟨ha1.1, ha1.2⟩, by decide, by decide⟩ (q_iload_n c_262_28 rfl (q_iconst c_262_29 ?_))
      by_cases h_3 : a1 ≠ 2
      · refine v_ic_ne_t (t := 40) c_262_30 rfl ⟨h_3, ⟨ha1.1, ha1.2⟩, by decide, by decide⟩ (q_iconst c_262_40 (q_iret c_262_41 rfl ?_))
        have hI_4 := iw_41_0 (v := 0) hI ⟨by decide, by decide⟩
        exact K (up c 41 0 0) (-1) hI_4 (fun a j hm => up_b (Decidable.or_iff_not_imp_left.mpr (fun h1 h2 => hm ⟨Decidable.not_not.mp h1, h2⟩))) ⟨by decide, by decide⟩
      · refine v_ic_ne_f (t := 40) c_262_30 rfl (Decidable.not_not.mp h_3) (q_aload_n c_262_33 rfl ?_)
        have h_5 := ir_41_35 hI
        refine v_gi (z := 35) (v := c 41 35) c_262_34 kf_8_182 rfl (nb_ rfl) rfl rfl (up_n (by decide)) (q_goto (t := 41) c_262_37 rfl (q_iret c_262_41 rfl ?_))
        have hI_6 := iw_41_0 (v := 0) hI ⟨by decide, by decide⟩
        exact K (up c 41 0 0) (c 41 35) hI_6 (fun a j hm => up_b (Decidable.or_iff_not_imp_left.mpr (fun h1 h2 => hm ⟨Decidable.not_not.mp h1, h2⟩))) ⟨(Int.le_trans (by decide) h_5.1), (Int.le_trans h_5.2 (by decide))⟩
    · refine v_ic_ne_f (t := 28) c_262_18 rfl (Decidable.not_not.mp h_2) (q_aload_n c_262_21 rfl ?_)
      have h_7 := ir_41_2 hI
      refine v_gi (z := 2) (v := c 41 2) c_262_22 kf_8_99 rfl (nb_ rfl) rfl rfl (up_n (by decide)) (q_goto (t := 41) c_262_25 rfl (q_iret c_262_41 rfl ?_))
      have hI_8 := iw_41_0 (v := 0) hI ⟨by decide, by decide⟩
      exact K (up c 41 0 0) (c 41 2) hI_8 (fun a j hm => up_b (Decidable.or_iff_not_imp_left.mpr (fun h1 h2 => hm ⟨Decidable.not_not.mp h1, h2⟩))) ⟨(Int.le_trans (by decide) h_7.1), (Int.le_trans h_7.2 (by decide))⟩
  · refine v_if_ne_f (t := 16) c_262_6 rfl (Decidable.not_not.mp h_1) (q_aload_n c_262_9 rfl ?_)
    have h_9 := ir_41_52 hI
    refine v_gi (z := 52) (v := c 41 52) c_262_10 kf_8_185 rfl (nb_ rfl) rfl rfl (up_n (by decide)) (q_goto (t := 41) c_262_13 rfl (q_iret c_262_41 rfl ?_))
    have hI_10 := iw_41_0 (v := 0) hI ⟨by decide, by decide⟩
    exact K (up c 41 0 0) (c 41 52) hI_10 (fun a j hm => up_b (Decidable.or_iff_not_imp_left.mpr (fun h1 h2 => hm ⟨Decidable.not_not.mp h1, h2⟩))) ⟨(Int.le_trans (by decide) h_9.1), (Int.le_trans h_9.2 (by decide))⟩
end
