/-! ===== contracts 21 ===== -/
theorem qn_9656212e3 : ¬ (((41 : Nat) = 41 ∧ (47 : Int) = 0) ∨ (41 : Nat) = 42 ∨ (41 : Nat) = 59) := (fun q => q.elim (fun h => absurd h.2 (ni rfl)) (fun q => q.elim (fun h => absurd h (nn rfl)) (fun h => absurd h (nn rfl))))
theorem qn_e16c4d0f0 {j : Int} : ¬ (((62 : Nat) = 41 ∧ j = 0) ∨ (62 : Nat) = 42 ∨ (62 : Nat) = 59) := (fun q => q.elim (fun h => absurd h.1 (nn rfl)) (fun q => q.elim (fun h => absurd h (nn rfl)) (fun h => absurd h (nn rfl))))
theorem qn_556c7ab22 {j : Int} : ¬ (((49 : Nat) = 41 ∧ j = 0) ∨ (49 : Nat) = 42 ∨ (49 : Nat) = 59) := (fun q => q.elim (fun h => absurd h.1 (nn rfl)) (fun q => q.elim (fun h => absurd h (nn rfl)) (fun h => absurd h (nn rfl))))
theorem q_eb3a7ad7a {x0 : Int} (f0 : 0 ≤ x0 ∧ x0 ≤ 3) : 0 ≤ x0 := by omega
theorem q_c99d6ea93 {x0 : Int} (f0 : 0 ≤ x0 ∧ x0 ≤ 3) : x0 ≤ 3 := by omega
theorem q_9182abc2f {x0 : Int} : (x0) + 30 = x0 + 30 := by omega
theorem q_fe383d6ec {x0 x1 x2 x3 x4 x5 x6 x7 : Int} (f0 : 0 ≤ x0 ∧ x0 ≤ x1) (f1 : 0 ≤ x2 ∧ x2 ≤ x3) (f2 : 0 ≤ x4 ∧ x4 ≤ x5) (f3 : 0 ≤ x6 ∧ x6 ≤ x7) : (-2147483648) ≤ x3 + x5 + x7 + x1 - x0 - x2 - x4 - x6 := by omega
theorem q_4e357606a {x0 x1 x2 x3 x4 x5 x6 x7 : Int} (f0 : 0 ≤ x0 ∧ x0 ≤ x1) (f1 : 0 ≤ x2 ∧ x2 ≤ x3) (f2 : 0 ≤ x4 ∧ x4 ≤ x5) (f3 : 0 ≤ x6 ∧ x6 ≤ x7) (f4 : x1 + x3 + x5 + x7 ≤ 9999) : x3 + x5 + x7 + x1 - x0 - x2 - x4 - x6 ≤ 2147483647 := by omega
theorem q_1fe14b988 {x0 x1 : Int} (f0 : ¬ (x0 ≥ x1)) (f1 : 0 ≤ x0 ∧ x0 ≤ 8) : 0 ≤ x1 := by omega
theorem q_a093e8b4d {x0 x1 : Int} (f0 : x0 ≤ x1) (f1 : 0 ≤ x1 ∧ x1 ≤ 8) : x0 ≤ 8 := by omega
theorem q_d894f56d7 {x0 x1 : Int} (f0 : ¬ (x0 > x1)) (f1 : 1 ≤ x0 ∧ x0 ≤ 64) : 0 ≤ x1 := by omega
theorem qn_1a460b46b : ¬ (((41 : Nat) = 41 ∧ (22 : Int) = 0) ∨ (41 : Nat) = 42 ∨ (41 : Nat) = 59) := (fun q => q.elim (fun h => absurd h.2 (ni rfl)) (fun q => q.elim (fun h => absurd h (nn rfl)) (fun h => absurd h (nn rfl))))
theorem qn_110b29ed6 : ¬ (((41 : Nat) = 41 ∧ (20 : Int) = 0) ∨ (41 : Nat) = 42 ∨ (41 : Nat) = 59) := (fun q => q.elim (fun h => absurd h.2 (ni rfl)) (fun q => q.elim (fun h => absurd h (nn rfl)) (fun h => absurd h (nn rfl))))
theorem q_6b730c0e0 {x0 x1 : Int} (f0 : 0 ≤ x0 ∧ x0 ≤ 4) (f1 : 0 ≤ x1 ∧ x1 < x0) : x1 ≤ 3 := by omega
theorem q_37f19ee02 {x0 x1 x2 x3 : Int} (f0 : 0 ≤ x0 ∧ x0 < x1) (f1 : 0 ≤ x2 ∧ x2 < x3) : (-2147483648) ≤ x0 + 10 * x2 := by omega
theorem q_112b0dcbc {x0 x1 x2 x3 : Int} (f0 : 0 ≤ x0 ∧ x0 ≤ 4) (f1 : 0 ≤ x1 ∧ x1 < x2) (f2 : 0 ≤ x2 ∧ x2 ≤ 6) (f3 : 0 ≤ x3 ∧ x3 < x0) : x1 + 10 * x3 ≤ 2147483647 := by omega
theorem q_d5c4fed04 {x0 x1 : Int} (f0 : 0 ≤ x0 ∧ x0 ≤ 6) (f1 : 0 ≤ x1 ∧ x1 < x0) : x1 ≤ 5 := by omega
theorem q_263c88b99 {x0 x1 : Int} (f0 : ¬ (x0 ≤ x1)) (f1 : 0 ≤ x1 ∧ x1 ≤ 2147483647) : 0 ≤ x0 := by omega
theorem q_238d50ffa {x0 x1 x2 : Int} (f0 : 0 ≤ x0 ∧ x0 ≤ 6) (f1 : 0 ≤ x1 ∧ x1 < x0) (f2 : 0 ≤ x2 ∧ x2 ≤ 3) : 4 * x1 + x2 < 24 := by omega
theorem c_221_53 : mLk 221 53 = some (.iload_n 3, 1) := rfl
theorem c_221_54 : mLk 221 54 = some (.iload_n 2, 1) := rfl
theorem c_221_55 : mLk 221 55 = some (.if_icmp .ge 48, 3) := rfl
theorem c_221_103 : mLk 221 103 = some (.iload_n 2, 1) := rfl
theorem c_221_104 : mLk 221 104 = some (.aload_n 0, 1) := rfl
theorem c_221_105 : mLk 221 105 = some (.getfield 176, 3) := rfl
theorem c_221_108 : mLk 221 108 = some (.if_icmp .ne 11, 3) := rfl
theorem c_221_119 : mLk 221 119 = some (.aload_n 0, 1) := rfl
theorem c_221_120 : mLk 221 120 = some (.iload_n 1, 1) := rfl
theorem c_221_121 : mLk 221 121 = some (.invokevirtual 343, 3) := rfl
theorem c_221_124 : mLk 221 124 = some (.aload_n 0, 1) := rfl
theorem c_221_125 : mLk 221 125 = some (.aload_n 0, 1) := rfl
theorem c_221_126 : mLk 221 126 = some (.getfield 77, 3) := rfl
theorem c_221_129 : mLk 221 129 = some (.iload_n 2, 1) := rfl
theorem c_221_130 : mLk 221 130 = some (.iaload, 1) := rfl
theorem c_221_131 : mLk 221 131 = some (.iload_n 1, 1) := rfl
theorem c_221_132 : mLk 221 132 = some (.invokevirtual 366, 3) := rfl
theorem c_221_136 : mLk 221 136 = some (.ireturn, 1) := rfl
theorem c_221_111 : mLk 221 111 = some (.aload_n 0, 1) := rfl
theorem c_221_112 : mLk 221 112 = some (.iload_n 1, 1) := rfl
theorem c_221_113 : mLk 221 113 = some (.invokevirtual 343, 3) := rfl
theorem c_221_116 : mLk 221 116 = some (.goto 20, 3) := rfl
theorem c_221_58 : mLk 221 58 = some (.iconst 0, 1) := rfl
theorem c_221_59 : mLk 221 59 = some (.istore 4, 2) := rfl
theorem c_221_61 : mLk 221 61 = some (.iload 4, 2) := rfl
theorem c_221_63 : mLk 221 63 = some (.iconst 4, 1) := rfl
theorem c_221_64 : mLk 221 64 = some (.if_icmp .ge 33, 3) := rfl
theorem c_221_67 : mLk 221 67 = some (.aload_n 0, 1) := rfl
theorem c_221_68 : mLk 221 68 = some (.getfield 68, 3) := rfl
theorem c_221_71 : mLk 221 71 = some (.iconst 4, 1) := rfl
theorem c_221_72 : mLk 221 72 = some (.iload_n 1, 1) := rfl
theorem c_221_73 : mLk 221 73 = some (.imul, 1) := rfl
theorem c_221_74 : mLk 221 74 = some (.iload 4, 2) := rfl
theorem c_221_76 : mLk 221 76 = some (.iadd, 1) := rfl
theorem c_221_77 : mLk 221 77 = some (.aload_n 0, 1) := rfl
theorem c_221_78 : mLk 221 78 = some (.aload_n 0, 1) := rfl
theorem c_221_79 : mLk 221 79 = some (.getfield 77, 3) := rfl
theorem c_221_82 : mLk 221 82 = some (.iload_n 3, 1) := rfl
theorem c_221_83 : mLk 221 83 = some (.iaload, 1) := rfl
theorem c_221_84 : mLk 221 84 = some (.iload_n 1, 1) := rfl
theorem c_221_85 : mLk 221 85 = some (.iload 4, 2) := rfl
theorem c_221_87 : mLk 221 87 = some (.invokevirtual 363, 3) := rfl
theorem c_221_90 : mLk 221 90 = some (.iastore, 1) := rfl
theorem c_221_91 : mLk 221 91 = some (.iinc 4 1, 3) := rfl
theorem c_221_94 : mLk 221 94 = some (.goto (-33), 3) := rfl
theorem c_221_97 : mLk 221 97 = some (.iinc 3 1, 3) := rfl
theorem c_221_100 : mLk 221 100 = some (.goto (-47), 3) := rfl
theorem c_221_0 : mLk 221 0 = some (.aload_n 0, 1) := rfl
theorem c_221_1 : mLk 221 1 = some (.iconst 0, 1) := rfl
theorem c_221_2 : mLk 221 2 = some (.putfield 3, 3) := rfl
theorem c_221_5 : mLk 221 5 = some (.aload_n 0, 1) := rfl
theorem c_221_6 : mLk 221 6 = some (.iload_n 1, 1) := rfl
theorem c_221_7 : mLk 221 7 = some (.aload_n 0, 1) := rfl
theorem c_221_8 : mLk 221 8 = some (.getfield 157, 3) := rfl
theorem c_221_11 : mLk 221 11 = some (.invokevirtual 396, 3) := rfl
theorem c_221_14 : mLk 221 14 = some (.ifCond .eq 21, 3) := rfl
theorem c_221_35 : mLk 221 35 = some (.iconst 0, 1) := rfl
theorem c_221_36 : mLk 221 36 = some (.ireturn, 1) := rfl
theorem c_221_17 : mLk 221 17 = some (.aload_n 0, 1) := rfl
theorem c_221_18 : mLk 221 18 = some (.iload_n 2, 1) := rfl
theorem c_221_19 : mLk 221 19 = some (.ifCond .lt 7, 3) := rfl
theorem c_221_26 : mLk 221 26 = some (.iconst 0, 1) := rfl
theorem c_221_27 : mLk 221 27 = some (.iconst 2, 1) := rfl
theorem c_221_28 : mLk 221 28 = some (.iconst 1, 1) := rfl
theorem c_221_29 : mLk 221 29 = some (.invokevirtual 203, 3) := rfl
theorem c_221_32 : mLk 221 32 = some (.ifCond .ne 5, 3) := rfl
theorem c_221_22 : mLk 221 22 = some (.iconst 1, 1) := rfl
theorem c_221_23 : mLk 221 23 = some (.goto 4, 3) := rfl
theorem c_221_37 : mLk 221 37 = some (.iload_n 2, 1) := rfl
theorem c_221_38 : mLk 221 38 = some (.aload_n 0, 1) := rfl
theorem c_221_39 : mLk 221 39 = some (.getfield 176, 3) := rfl
theorem c_221_42 : mLk 221 42 = some (.if_icmp .le 5, 3) := rfl
theorem c_221_47 : mLk 221 47 = some (.aload_n 0, 1) := rfl
theorem c_221_48 : mLk 221 48 = some (.invokevirtual 317, 3) := rfl
theorem c_221_51 : mLk 221 51 = some (.iconst 0, 1) := rfl
theorem c_221_52 : mLk 221 52 = some (.istore_n 3, 1) := rfl
theorem c_221_45 : mLk 221 45 = some (.iconst (-1), 1) := rfl
theorem c_221_46 : mLk 221 46 = some (.ireturn, 1) := rfl
theorem c_223_4 : mLk 223 4 = some (.iload_n 3, 1) := rfl
theorem c_223_5 : mLk 223 5 = some (.aload_n 0, 1) := rfl
theorem c_223_6 : mLk 223 6 = some (.getfield 157, 3) := rfl
theorem c_223_9 : mLk 223 9 = some (.if_icmp .ge 23, 3) := rfl
theorem c_223_32 : mLk 223 32 = some (.iload_n 2, 1) := rfl
theorem c_223_33 : mLk 223 33 = some (.ireturn, 1) := rfl
theorem c_223_12 : mLk 223 12 = some (.iload_n 2, 1) := rfl
theorem c_223_13 : mLk 223 13 = some (.iload_n 1, 1) := rfl
theorem c_223_14 : mLk 223 14 = some (.iload_n 3, 1) := rfl
theorem c_223_15 : mLk 223 15 = some (.ishr, 1) := rfl
theorem c_223_16 : mLk 223 16 = some (.iconst 1, 1) := rfl
theorem c_223_17 : mLk 223 17 = some (.iand, 1) := rfl
theorem c_223_18 : mLk 223 18 = some (.aload_n 0, 1) := rfl
theorem c_223_19 : mLk 223 19 = some (.iload_n 3, 1) := rfl
theorem c_223_20 : mLk 223 20 = some (.invokevirtual 343, 3) := rfl
theorem c_223_24 : mLk 223 24 = some (.iadd, 1) := rfl
theorem c_223_25 : mLk 223 25 = some (.istore_n 2, 1) := rfl
theorem c_223_26 : mLk 223 26 = some (.iinc 3 1, 3) := rfl
theorem c_223_29 : mLk 223 29 = some (.goto (-25), 3) := rfl
theorem c_223_0 : mLk 223 0 = some (.iconst 0, 1) := rfl
theorem c_223_1 : mLk 223 1 = some (.istore_n 2, 1) := rfl
theorem c_223_2 : mLk 223 2 = some (.iconst 0, 1) := rfl
theorem c_223_3 : mLk 223 3 = some (.istore_n 3, 1) := rfl
theorem c_224_4 : mLk 224 4 = some (.iload_n 3, 1) := rfl
theorem c_224_5 : mLk 224 5 = some (.aload_n 0, 1) := rfl
theorem c_224_6 : mLk 224 6 = some (.getfield 157, 3) := rfl
theorem c_224_9 : mLk 224 9 = some (.if_icmp .ge 23, 3) := rfl
theorem c_224_32 : mLk 224 32 = some (.iload_n 2, 1) := rfl
theorem c_224_33 : mLk 224 33 = some (.ireturn, 1) := rfl
theorem c_224_12 : mLk 224 12 = some (.iload_n 2, 1) := rfl
theorem c_224_13 : mLk 224 13 = some (.iload_n 1, 1) := rfl
theorem c_224_14 : mLk 224 14 = some (.iload_n 3, 1) := rfl
theorem c_224_15 : mLk 224 15 = some (.ishr, 1) := rfl
theorem c_224_16 : mLk 224 16 = some (.iconst 1, 1) := rfl
theorem c_224_17 : mLk 224 17 = some (.iand, 1) := rfl
theorem c_224_18 : mLk 224 18 = some (.aload_n 0, 1) := rfl
theorem c_224_19 : mLk 224 19 = some (.iload_n 3, 1) := rfl
theorem c_224_20 : mLk 224 20 = some (.invokevirtual 375, 3) := rfl
theorem c_224_23 : mLk 224 23 = some (.imul, 1) := rfl
theorem c_224_24 : mLk 224 24 = some (.iadd, 1) := rfl
theorem c_224_25 : mLk 224 25 = some (.istore_n 2, 1) := rfl
theorem c_224_26 : mLk 224 26 = some (.iinc 3 1, 3) := rfl
theorem c_224_29 : mLk 224 29 = some (.goto (-25), 3) := rfl
theorem c_224_0 : mLk 224 0 = some (.iconst 0, 1) := rfl
theorem c_224_1 : mLk 224 1 = some (.istore_n 2, 1) := rfl
theorem c_224_2 : mLk 224 2 = some (.iconst 0, 1) := rfl
theorem c_224_3 : mLk 224 3 = some (.istore_n 3, 1) := rfl
theorem c_226_0 : mLk 226 0 = some (.iconst 2, 1) := rfl
theorem c_226_1 : mLk 226 1 = some (.aload_n 0, 1) := rfl
theorem c_226_2 : mLk 226 2 = some (.iload_n 2, 1) := rfl
theorem c_226_3 : mLk 226 3 = some (.invokevirtual 408, 3) := rfl
theorem c_226_6 : mLk 226 6 = some (.imul, 1) := rfl
theorem c_226_7 : mLk 226 7 = some (.aload_n 0, 1) := rfl
theorem c_226_8 : mLk 226 8 = some (.iload_n 1, 1) := rfl
theorem c_226_9 : mLk 226 9 = some (.invokevirtual 408, 3) := rfl
theorem c_226_12 : mLk 226 12 = some (.isub, 1) := rfl
theorem c_226_13 : mLk 226 13 = some (.invokestatic 411, 3) := rfl
theorem c_225_0 : mLk 225 0 = some (.iload_n 0, 1) := rfl
theorem c_225_1 : mLk 225 1 = some (.ifCond .ge 8, 3) := rfl
theorem c_225_9 : mLk 225 9 = some (.iload_n 0, 1) := rfl
theorem c_225_10 : mLk 225 10 = some (.ireturn, 1) := rfl
theorem c_226_16 : mLk 226 16 = some (.ireturn, 1) := rfl
theorem c_225_4 : mLk 225 4 = some (.iload_n 0, 1) := rfl
theorem c_225_5 : mLk 225 5 = some (.ineg, 1) := rfl
theorem c_225_6 : mLk 225 6 = some (.goto 4, 3) := rfl
theorem c_227_59 : mLk 227 59 = some (.iload 5, 2) := rfl
theorem c_227_61 : mLk 227 61 = some (.iload_n 1, 1) := rfl
theorem c_227_62 : mLk 227 62 = some (.if_icmp .gt 55, 3) := rfl
theorem c_227_117 : mLk 227 117 = some (.iload_n 2, 1) := rfl
theorem c_227_118 : mLk 227 118 = some (.ifCond .ne 13, 3) := rfl
theorem c_227_131 : mLk 227 131 = some (.iload 4, 2) := rfl
theorem c_227_133 : mLk 227 133 = some (.ireturn, 1) := rfl
theorem c_227_121 : mLk 227 121 = some (.aload_n 0, 1) := rfl
theorem c_227_122 : mLk 227 122 = some (.iload_n 1, 1) := rfl
theorem c_227_123 : mLk 227 123 = some (.iload 4, 2) := rfl
theorem c_227_125 : mLk 227 125 = some (.invokevirtual 405, 3) := rfl
theorem c_227_128 : mLk 227 128 = some (.goto 5, 3) := rfl
theorem c_227_65 : mLk 227 65 = some (.iload 5, 2) := rfl
theorem c_227_67 : mLk 227 67 = some (.iload_n 1, 1) := rfl
theorem c_227_68 : mLk 227 68 = some (.iconst (-1), 1) := rfl
theorem c_227_69 : mLk 227 69 = some (.ixor, 1) := rfl
theorem c_227_70 : mLk 227 70 = some (.iand, 1) := rfl
theorem c_227_71 : mLk 227 71 = some (.ifCond .ne 40, 3) := rfl
theorem c_227_111 : mLk 227 111 = some (.iinc 5 1, 3) := rfl
theorem c_227_114 : mLk 227 114 = some (.goto (-55), 3) := rfl
theorem c_227_74 : mLk 227 74 = some (.iload 5, 2) := rfl
theorem c_227_76 : mLk 227 76 = some (.iload_n 3, 1) := rfl
theorem c_227_77 : mLk 227 77 = some (.iand, 1) := rfl
theorem c_227_78 : mLk 227 78 = some (.ifCond .ne 6, 3) := rfl
theorem c_227_84 : mLk 227 84 = some (.iload 4, 2) := rfl
theorem c_227_86 : mLk 227 86 = some (.iconst (-1), 1) := rfl
theorem c_227_87 : mLk 227 87 = some (.if_icmp .eq 20, 3) := rfl
theorem c_227_107 : mLk 227 107 = some (.iload 5, 2) := rfl
theorem c_227_109 : mLk 227 109 = some (.istore 4, 2) := rfl
theorem c_227_90 : mLk 227 90 = some (.aload_n 0, 1) := rfl
theorem c_227_91 : mLk 227 91 = some (.iload_n 1, 1) := rfl
theorem c_227_92 : mLk 227 92 = some (.iload 5, 2) := rfl
theorem c_227_94 : mLk 227 94 = some (.invokevirtual 405, 3) := rfl
theorem c_227_97 : mLk 227 97 = some (.aload_n 0, 1) := rfl
theorem c_227_98 : mLk 227 98 = some (.iload_n 1, 1) := rfl
theorem c_227_99 : mLk 227 99 = some (.iload 4, 2) := rfl
theorem c_227_101 : mLk 227 101 = some (.invokevirtual 405, 3) := rfl
theorem c_227_104 : mLk 227 104 = some (.if_icmp .ge 7, 3) := rfl
theorem c_227_81 : mLk 227 81 = some (.goto 30, 3) := rfl
theorem c_227_0 : mLk 227 0 = some (.aload_n 0, 1) := rfl
theorem c_227_1 : mLk 227 1 = some (.iconst 0, 1) := rfl
theorem c_227_2 : mLk 227 2 = some (.putfield 3, 3) := rfl
theorem c_227_5 : mLk 227 5 = some (.aload_n 0, 1) := rfl
theorem c_227_6 : mLk 227 6 = some (.aload_n 0, 1) := rfl
theorem c_227_7 : mLk 227 7 = some (.iload_n 1, 1) := rfl
theorem c_227_8 : mLk 227 8 = some (.invokevirtual 402, 3) := rfl
theorem c_222_0 : mLk 222 0 = some (.iload_n 1, 1) := rfl
theorem c_222_1 : mLk 222 1 = some (.ifCond .lt 17, 3) := rfl
theorem c_222_18 : mLk 222 18 = some (.iconst 0, 1) := rfl
theorem c_222_19 : mLk 222 19 = some (.ireturn, 1) := rfl
theorem c_227_11 : mLk 227 11 = some (.ifCond .eq 16, 3) := rfl
theorem c_227_27 : mLk 227 27 = some (.iconst 0, 1) := rfl
theorem c_227_28 : mLk 227 28 = some (.iconst 1, 1) := rfl
theorem c_227_29 : mLk 227 29 = some (.iconst 1, 1) := rfl
theorem c_227_30 : mLk 227 30 = some (.invokevirtual 203, 3) := rfl
theorem c_227_33 : mLk 227 33 = some (.ifCond .ne 5, 3) := rfl
theorem c_227_36 : mLk 227 36 = some (.iconst 0, 1) := rfl
theorem c_227_37 : mLk 227 37 = some (.ireturn, 1) := rfl
theorem c_222_4 : mLk 222 4 = some (.iload_n 1, 1) := rfl
theorem c_222_5 : mLk 222 5 = some (.iconst 1, 1) := rfl
theorem c_222_6 : mLk 222 6 = some (.aload_n 0, 1) := rfl
theorem c_222_7 : mLk 222 7 = some (.getfield 157, 3) := rfl
theorem c_222_10 : mLk 222 10 = some (.ishl, 1) := rfl
theorem c_222_11 : mLk 222 11 = some (.if_icmp .ge 7, 3) := rfl
theorem c_222_14 : mLk 222 14 = some (.iconst 1, 1) := rfl
theorem c_222_15 : mLk 222 15 = some (.goto 4, 3) := rfl
theorem c_227_14 : mLk 227 14 = some (.iload_n 2, 1) := rfl
theorem c_227_15 : mLk 227 15 = some (.iconst 0, 1) := rfl
theorem c_227_16 : mLk 227 16 = some (.iconst 1, 1) := rfl
theorem c_227_17 : mLk 227 17 = some (.invokestatic 384, 3) := rfl
theorem c_227_20 : mLk 227 20 = some (.ifCond .eq 7, 3) := rfl
theorem c_227_23 : mLk 227 23 = some (.iconst 1, 1) := rfl
theorem c_227_24 : mLk 227 24 = some (.goto 4, 3) := rfl
theorem c_227_38 : mLk 227 38 = some (.iload_n 1, 1) := rfl
theorem c_227_39 : mLk 227 39 = some (.ifCond .ne 5, 3) := rfl
theorem c_227_44 : mLk 227 44 = some (.aload_n 0, 1) := rfl
theorem c_227_45 : mLk 227 45 = some (.invokevirtual 317, 3) := rfl
theorem c_227_48 : mLk 227 48 = some (.iload_n 1, 1) := rfl
theorem c_227_49 : mLk 227 49 = some (.iload_n 1, 1) := rfl
theorem c_227_50 : mLk 227 50 = some (.ineg, 1) := rfl
theorem c_227_51 : mLk 227 51 = some (.iand, 1) := rfl
theorem c_227_52 : mLk 227 52 = some (.istore_n 3, 1) := rfl
theorem c_227_53 : mLk 227 53 = some (.iconst (-1), 1) := rfl
theorem c_227_54 : mLk 227 54 = some (.istore 4, 2) := rfl
theorem c_227_56 : mLk 227 56 = some (.iconst 1, 1) := rfl
theorem c_227_57 : mLk 227 57 = some (.istore 5, 2) := rfl
theorem c_227_42 : mLk 227 42 = some (.iconst 0, 1) := rfl
theorem c_227_43 : mLk 227 43 = some (.ireturn, 1) := rfl
theorem c_228_69 : mLk 228 69 = some (.iload 6, 2) := rfl
theorem c_228_71 : mLk 228 71 = some (.iload 4, 2) := rfl
theorem c_228_73 : mLk 228 73 = some (.if_icmp .gt 76, 3) := rfl
theorem c_228_149 : mLk 228 149 = some (.iload_n 3, 1) := rfl
theorem c_228_150 : mLk 228 150 = some (.ifCond .ne 12, 3) := rfl
theorem c_228_162 : mLk 228 162 = some (.iload_n 3, 1) := rfl
theorem c_228_163 : mLk 228 163 = some (.iconst 1, 1) := rfl
theorem c_228_164 : mLk 228 164 = some (.if_icmp .ne 12, 3) := rfl
theorem c_228_176 : mLk 228 176 = some (.iload 5, 2) := rfl
theorem c_228_178 : mLk 228 178 = some (.ireturn, 1) := rfl
theorem c_228_167 : mLk 228 167 = some (.aload_n 0, 1) := rfl
theorem c_228_168 : mLk 228 168 = some (.iload 5, 2) := rfl
theorem c_228_170 : mLk 228 170 = some (.invokevirtual 408, 3) := rfl
theorem c_228_173 : mLk 228 173 = some (.goto 5, 3) := rfl
theorem c_228_153 : mLk 228 153 = some (.aload_n 0, 1) := rfl
theorem c_228_154 : mLk 228 154 = some (.iload 5, 2) := rfl
theorem c_228_156 : mLk 228 156 = some (.invokevirtual 414, 3) := rfl
theorem c_228_159 : mLk 228 159 = some (.goto 19, 3) := rfl
theorem c_228_76 : mLk 228 76 = some (.iload 6, 2) := rfl
theorem c_228_78 : mLk 228 78 = some (.iload 4, 2) := rfl
theorem c_228_80 : mLk 228 80 = some (.iconst (-1), 1) := rfl
theorem c_228_81 : mLk 228 81 = some (.ixor, 1) := rfl
theorem c_228_82 : mLk 228 82 = some (.iand, 1) := rfl
theorem c_228_83 : mLk 228 83 = some (.ifCond .ne 60, 3) := rfl
theorem c_228_143 : mLk 228 143 = some (.iinc 6 1, 3) := rfl
theorem c_228_146 : mLk 228 146 = some (.goto (-77), 3) := rfl
theorem c_228_86 : mLk 228 86 = some (.aload_n 0, 1) := rfl
theorem c_228_87 : mLk 228 87 = some (.iload 6, 2) := rfl
theorem c_228_89 : mLk 228 89 = some (.invokevirtual 408, 3) := rfl
theorem c_228_92 : mLk 228 92 = some (.iload_n 2, 1) := rfl
theorem c_228_93 : mLk 228 93 = some (.if_icmp .le 6, 3) := rfl
theorem c_228_99 : mLk 228 99 = some (.aload_n 0, 1) := rfl
theorem c_228_100 : mLk 228 100 = some (.iload 6, 2) := rfl
theorem c_228_102 : mLk 228 102 = some (.invokevirtual 414, 3) := rfl
theorem c_228_105 : mLk 228 105 = some (.aload_n 0, 1) := rfl
theorem c_228_106 : mLk 228 106 = some (.iload 5, 2) := rfl
theorem c_228_108 : mLk 228 108 = some (.invokevirtual 414, 3) := rfl
theorem c_228_111 : mLk 228 111 = some (.isub, 1) := rfl
theorem c_228_112 : mLk 228 112 = some (.istore 7, 2) := rfl
theorem c_228_114 : mLk 228 114 = some (.iload 7, 2) := rfl
theorem c_228_116 : mLk 228 116 = some (.ifCond .gt 23, 3) := rfl
theorem c_228_139 : mLk 228 139 = some (.iload 6, 2) := rfl
theorem c_228_141 : mLk 228 141 = some (.istore 5, 2) := rfl
theorem c_228_119 : mLk 228 119 = some (.iload 7, 2) := rfl
theorem c_228_121 : mLk 228 121 = some (.ifCond .ne 22, 3) := rfl
theorem c_228_124 : mLk 228 124 = some (.aload_n 0, 1) := rfl
theorem c_228_125 : mLk 228 125 = some (.iload 6, 2) := rfl
theorem c_228_127 : mLk 228 127 = some (.invokevirtual 408, 3) := rfl
theorem c_228_130 : mLk 228 130 = some (.aload_n 0, 1) := rfl
theorem c_228_131 : mLk 228 131 = some (.iload 5, 2) := rfl
theorem c_228_133 : mLk 228 133 = some (.invokevirtual 408, 3) := rfl
theorem c_228_136 : mLk 228 136 = some (.if_icmp .ge 7, 3) := rfl
theorem c_228_96 : mLk 228 96 = some (.goto 47, 3) := rfl
theorem c_228_0 : mLk 228 0 = some (.aload_n 0, 1) := rfl
theorem c_228_1 : mLk 228 1 = some (.iconst 0, 1) := rfl
theorem c_228_2 : mLk 228 2 = some (.putfield 3, 3) := rfl
theorem c_228_5 : mLk 228 5 = some (.aload_n 0, 1) := rfl
theorem c_228_6 : mLk 228 6 = some (.aload_n 0, 1) := rfl
theorem c_228_7 : mLk 228 7 = some (.iload_n 1, 1) := rfl
theorem c_228_8 : mLk 228 8 = some (.invokevirtual 402, 3) := rfl
theorem c_228_11 : mLk 228 11 = some (.ifCond .eq 27, 3) := rfl
theorem c_228_38 : mLk 228 38 = some (.iconst 0, 1) := rfl
theorem c_228_39 : mLk 228 39 = some (.iconst 1, 1) := rfl
theorem c_228_40 : mLk 228 40 = some (.iconst 1, 1) := rfl
theorem c_228_41 : mLk 228 41 = some (.invokevirtual 203, 3) := rfl
theorem c_228_44 : mLk 228 44 = some (.ifCond .ne 5, 3) := rfl
theorem c_228_47 : mLk 228 47 = some (.iconst 0, 1) := rfl
theorem c_228_48 : mLk 228 48 = some (.ireturn, 1) := rfl
theorem c_228_14 : mLk 228 14 = some (.iload_n 2, 1) := rfl
theorem c_228_15 : mLk 228 15 = some (.iconst 0, 1) := rfl
theorem c_228_16 : mLk 228 16 = some (.ldc_w 413, 3) := rfl
theorem c_228_19 : mLk 228 19 = some (.invokestatic 384, 3) := rfl
theorem c_228_22 : mLk 228 22 = some (.ifCond .eq 16, 3) := rfl
theorem c_228_25 : mLk 228 25 = some (.iload_n 3, 1) := rfl
theorem c_228_26 : mLk 228 26 = some (.iconst 0, 1) := rfl
theorem c_228_27 : mLk 228 27 = some (.iconst 2, 1) := rfl
theorem c_228_28 : mLk 228 28 = some (.invokestatic 384, 3) := rfl
theorem c_228_31 : mLk 228 31 = some (.ifCond .eq 7, 3) := rfl
theorem c_228_34 : mLk 228 34 = some (.iconst 1, 1) := rfl
theorem c_228_35 : mLk 228 35 = some (.goto 4, 3) := rfl
theorem c_228_49 : mLk 228 49 = some (.aload_n 0, 1) := rfl
theorem c_228_50 : mLk 228 50 = some (.invokevirtual 317, 3) := rfl
theorem c_228_53 : mLk 228 53 = some (.iload_n 1, 1) := rfl
theorem c_228_54 : mLk 228 54 = some (.aload_n 0, 1) := rfl
theorem c_228_55 : mLk 228 55 = some (.invokevirtual 390, 3) := rfl
theorem c_228_58 : mLk 228 58 = some (.iconst (-1), 1) := rfl
theorem c_228_59 : mLk 228 59 = some (.ixor, 1) := rfl
theorem c_228_60 : mLk 228 60 = some (.iand, 1) := rfl
theorem c_228_61 : mLk 228 61 = some (.istore 4, 2) := rfl
theorem c_228_63 : mLk 228 63 = some (.iconst 0, 1) := rfl
theorem c_228_64 : mLk 228 64 = some (.istore 5, 2) := rfl
theorem c_228_66 : mLk 228 66 = some (.iconst 1, 1) := rfl
theorem c_228_67 : mLk 228 67 = some (.istore 6, 2) := rfl
theorem c_229_12 : mLk 229 12 = some (.iload_n 3, 1) := rfl
theorem c_229_13 : mLk 229 13 = some (.iconst 4, 1) := rfl
theorem c_229_14 : mLk 229 14 = some (.if_icmp .ge 37, 3) := rfl
theorem c_229_51 : mLk 229 51 = some (.iconst 1, 1) := rfl
theorem c_229_52 : mLk 229 52 = some (.ireturn, 1) := rfl
theorem c_229_17 : mLk 229 17 = some (.aload_n 0, 1) := rfl
theorem c_229_18 : mLk 229 18 = some (.getfield 83, 3) := rfl
theorem c_229_21 : mLk 229 21 = some (.iload_n 3, 1) := rfl
theorem c_229_22 : mLk 229 22 = some (.iaload, 1) := rfl
theorem c_229_23 : mLk 229 23 = some (.iconst (-1), 1) := rfl
theorem c_229_24 : mLk 229 24 = some (.if_icmp .eq 21, 3) := rfl
theorem c_229_45 : mLk 229 45 = some (.iinc 3 1, 3) := rfl
theorem c_229_48 : mLk 229 48 = some (.goto (-36), 3) := rfl
theorem c_229_27 : mLk 229 27 = some (.aload_n 0, 1) := rfl
theorem c_229_28 : mLk 229 28 = some (.iload_n 1, 1) := rfl
theorem c_229_29 : mLk 229 29 = some (.iload_n 2, 1) := rfl
theorem c_229_30 : mLk 229 30 = some (.iload_n 3, 1) := rfl
theorem c_229_31 : mLk 229 31 = some (.invokevirtual 363, 3) := rfl
theorem c_229_34 : mLk 229 34 = some (.aload_n 0, 1) := rfl
theorem c_229_35 : mLk 229 35 = some (.getfield 83, 3) := rfl
theorem c_229_38 : mLk 229 38 = some (.iload_n 3, 1) := rfl
theorem c_229_39 : mLk 229 39 = some (.iaload, 1) := rfl
theorem c_229_40 : mLk 229 40 = some (.if_icmp .eq 5, 3) := rfl
theorem c_229_43 : mLk 229 43 = some (.iconst 0, 1) := rfl
theorem c_229_44 : mLk 229 44 = some (.ireturn, 1) := rfl
theorem c_229_0 : mLk 229 0 = some (.aload_n 0, 1) := rfl
theorem c_229_1 : mLk 229 1 = some (.iload_n 2, 1) := rfl
theorem c_229_2 : mLk 229 2 = some (.invokevirtual 343, 3) := rfl
theorem c_229_5 : mLk 229 5 = some (.ifCond .ne 5, 3) := rfl
theorem c_229_10 : mLk 229 10 = some (.iconst 0, 1) := rfl
theorem c_229_11 : mLk 229 11 = some (.istore_n 3, 1) := rfl
theorem c_229_8 : mLk 229 8 = some (.iconst 0, 1) := rfl
theorem c_229_9 : mLk 229 9 = some (.ireturn, 1) := rfl
theorem c_230_33 : mLk 230 33 = some (.iload 4, 2) := rfl
theorem c_230_35 : mLk 230 35 = some (.aload_n 0, 1) := rfl
theorem c_230_36 : mLk 230 36 = some (.getfield 163, 3) := rfl
theorem c_230_39 : mLk 230 39 = some (.aload_n 0, 1) := rfl
theorem c_230_40 : mLk 230 40 = some (.getfield 157, 3) := rfl
theorem c_230_43 : mLk 230 43 = some (.imul, 1) := rfl
theorem c_230_44 : mLk 230 44 = some (.if_icmp .ge 64, 3) := rfl
theorem c_230_108 : mLk 230 108 = some (.iload_n 1, 1) := rfl
theorem c_230_109 : mLk 230 109 = some (.ifCond .ne 7, 3) := rfl
theorem c_230_116 : mLk 230 116 = some (.iload_n 3, 1) := rfl
theorem c_230_117 : mLk 230 117 = some (.ireturn, 1) := rfl
theorem c_230_112 : mLk 230 112 = some (.iload_n 2, 1) := rfl
theorem c_230_113 : mLk 230 113 = some (.goto 4, 3) := rfl
theorem c_230_47 : mLk 230 47 = some (.aload_n 0, 1) := rfl
theorem c_230_48 : mLk 230 48 = some (.iload 4, 2) := rfl
theorem c_230_50 : mLk 230 50 = some (.aload_n 0, 1) := rfl
theorem c_230_51 : mLk 230 51 = some (.getfield 157, 3) := rfl
theorem c_230_54 : mLk 230 54 = some (.idiv, 1) := rfl
theorem c_230_55 : mLk 230 55 = some (.iload 4, 2) := rfl
theorem c_230_57 : mLk 230 57 = some (.aload_n 0, 1) := rfl
theorem c_230_58 : mLk 230 58 = some (.getfield 157, 3) := rfl
theorem c_230_61 : mLk 230 61 = some (.irem, 1) := rfl
theorem c_230_62 : mLk 230 62 = some (.invokevirtual 417, 3) := rfl
theorem c_230_65 : mLk 230 65 = some (.ifCond .ne 6, 3) := rfl
theorem c_230_71 : mLk 230 71 = some (.iinc 2 1, 3) := rfl
theorem c_230_74 : mLk 230 74 = some (.iload_n 3, 1) := rfl
theorem c_230_75 : mLk 230 75 = some (.iconst (-1), 1) := rfl
theorem c_230_76 : mLk 230 76 = some (.if_icmp .ne 24, 3) := rfl
theorem c_230_100 : mLk 230 100 = some (.iload_n 3, 1) := rfl
theorem c_230_101 : mLk 230 101 = some (.istore_n 3, 1) := rfl
theorem c_230_102 : mLk 230 102 = some (.iinc 4 1, 3) := rfl
theorem c_230_105 : mLk 230 105 = some (.goto (-72), 3) := rfl
theorem c_230_79 : mLk 230 79 = some (.bipush 10, 2) := rfl
theorem c_230_81 : mLk 230 81 = some (.iload 4, 2) := rfl
theorem c_230_83 : mLk 230 83 = some (.aload_n 0, 1) := rfl
theorem c_230_84 : mLk 230 84 = some (.getfield 157, 3) := rfl
theorem c_230_87 : mLk 230 87 = some (.idiv, 1) := rfl
theorem c_230_88 : mLk 230 88 = some (.imul, 1) := rfl
theorem c_230_89 : mLk 230 89 = some (.iload 4, 2) := rfl
theorem c_230_91 : mLk 230 91 = some (.aload_n 0, 1) := rfl
theorem c_230_92 : mLk 230 92 = some (.getfield 157, 3) := rfl
theorem c_230_95 : mLk 230 95 = some (.irem, 1) := rfl
theorem c_230_96 : mLk 230 96 = some (.iadd, 1) := rfl
theorem c_230_97 : mLk 230 97 = some (.goto 4, 3) := rfl
theorem c_230_68 : mLk 230 68 = some (.goto 34, 3) := rfl
theorem c_230_0 : mLk 230 0 = some (.aload_n 0, 1) := rfl
theorem c_230_1 : mLk 230 1 = some (.iconst 0, 1) := rfl
theorem c_230_2 : mLk 230 2 = some (.putfield 3, 3) := rfl
theorem c_230_5 : mLk 230 5 = some (.aload_n 0, 1) := rfl
theorem c_230_6 : mLk 230 6 = some (.iload_n 1, 1) := rfl
theorem c_230_7 : mLk 230 7 = some (.iconst 0, 1) := rfl
theorem c_230_8 : mLk 230 8 = some (.iconst 1, 1) := rfl
theorem c_230_9 : mLk 230 9 = some (.invokestatic 384, 3) := rfl
theorem c_230_12 : mLk 230 12 = some (.iconst 1, 1) := rfl
theorem c_230_13 : mLk 230 13 = some (.iconst 1, 1) := rfl
theorem c_230_14 : mLk 230 14 = some (.invokevirtual 203, 3) := rfl
theorem c_230_17 : mLk 230 17 = some (.ifCond .ne 5, 3) := rfl
theorem c_230_20 : mLk 230 20 = some (.iconst 0, 1) := rfl
theorem c_230_21 : mLk 230 21 = some (.ireturn, 1) := rfl
theorem c_230_22 : mLk 230 22 = some (.aload_n 0, 1) := rfl
theorem c_230_23 : mLk 230 23 = some (.invokevirtual 317, 3) := rfl
theorem c_230_26 : mLk 230 26 = some (.iconst 0, 1) := rfl
theorem c_230_27 : mLk 230 27 = some (.istore_n 2, 1) := rfl
theorem c_230_28 : mLk 230 28 = some (.iconst (-1), 1) := rfl
theorem c_230_29 : mLk 230 29 = some (.istore_n 3, 1) := rfl
theorem c_230_30 : mLk 230 30 = some (.iconst 0, 1) := rfl
theorem c_230_31 : mLk 230 31 = some (.istore 4, 2) := rfl
theorem c_231_4 : mLk 231 4 = some (.iload_n 3, 1) := rfl
theorem c_231_5 : mLk 231 5 = some (.aload_n 0, 1) := rfl
theorem c_231_6 : mLk 231 6 = some (.getfield 163, 3) := rfl
theorem c_231_9 : mLk 231 9 = some (.aload_n 0, 1) := rfl
theorem c_231_10 : mLk 231 10 = some (.getfield 157, 3) := rfl
theorem c_231_13 : mLk 231 13 = some (.imul, 1) := rfl
theorem c_231_14 : mLk 231 14 = some (.if_icmp .ge 140, 3) := rfl
theorem c_231_154 : mLk 231 154 = some (.iload_n 2, 1) := rfl
theorem c_231_155 : mLk 231 155 = some (.ireturn, 1) := rfl
theorem c_231_17 : mLk 231 17 = some (.aload_n 0, 1) := rfl
theorem c_231_18 : mLk 231 18 = some (.iload_n 3, 1) := rfl
theorem c_231_19 : mLk 231 19 = some (.aload_n 0, 1) := rfl
theorem c_231_20 : mLk 231 20 = some (.getfield 157, 3) := rfl
theorem c_231_23 : mLk 231 23 = some (.idiv, 1) := rfl
theorem c_231_24 : mLk 231 24 = some (.iload_n 3, 1) := rfl
theorem c_231_25 : mLk 231 25 = some (.aload_n 0, 1) := rfl
theorem c_231_26 : mLk 231 26 = some (.getfield 157, 3) := rfl
theorem c_231_29 : mLk 231 29 = some (.irem, 1) := rfl
theorem c_231_30 : mLk 231 30 = some (.invokevirtual 417, 3) := rfl
theorem c_231_33 : mLk 231 33 = some (.ifCond .ne 6, 3) := rfl
theorem c_231_39 : mLk 231 39 = some (.iconst 0, 1) := rfl
theorem c_231_40 : mLk 231 40 = some (.istore 4, 2) := rfl
theorem c_231_42 : mLk 231 42 = some (.iconst 0, 1) := rfl
theorem c_231_43 : mLk 231 43 = some (.istore 5, 2) := rfl
theorem c_231_36 : mLk 231 36 = some (.goto 112, 3) := rfl
theorem c_231_148 : mLk 231 148 = some (.iinc 3 1, 3) := rfl
theorem c_231_151 : mLk 231 151 = some (.goto (-147), 3) := rfl
theorem c_231_45 : mLk 231 45 = some (.iload 5, 2) := rfl
theorem c_231_47 : mLk 231 47 = some (.aload_n 0, 1) := rfl
theorem c_231_48 : mLk 231 48 = some (.getfield 163, 3) := rfl
theorem c_231_51 : mLk 231 51 = some (.aload_n 0, 1) := rfl
theorem c_231_52 : mLk 231 52 = some (.getfield 157, 3) := rfl
theorem c_231_55 : mLk 231 55 = some (.imul, 1) := rfl
theorem c_231_56 : mLk 231 56 = some (.if_icmp .ge 79, 3) := rfl
theorem c_231_135 : mLk 231 135 = some (.iload 4, 2) := rfl
theorem c_231_137 : mLk 231 137 = some (.iload_n 2, 1) := rfl
theorem c_231_138 : mLk 231 138 = some (.if_icmp .le 8, 3) := rfl
theorem c_231_146 : mLk 231 146 = some (.iload_n 2, 1) := rfl
theorem c_231_147 : mLk 231 147 = some (.istore_n 2, 1) := rfl
theorem c_231_141 : mLk 231 141 = some (.iload 4, 2) := rfl
theorem c_231_143 : mLk 231 143 = some (.goto 4, 3) := rfl
theorem c_231_59 : mLk 231 59 = some (.iload 4, 2) := rfl
theorem c_231_61 : mLk 231 61 = some (.aload_n 0, 1) := rfl
theorem c_231_62 : mLk 231 62 = some (.iload 5, 2) := rfl
theorem c_231_64 : mLk 231 64 = some (.aload_n 0, 1) := rfl
theorem c_231_65 : mLk 231 65 = some (.getfield 157, 3) := rfl
theorem c_231_68 : mLk 231 68 = some (.idiv, 1) := rfl
theorem c_231_69 : mLk 231 69 = some (.iload 5, 2) := rfl
theorem c_231_71 : mLk 231 71 = some (.aload_n 0, 1) := rfl
theorem c_231_72 : mLk 231 72 = some (.getfield 157, 3) := rfl
theorem c_231_75 : mLk 231 75 = some (.irem, 1) := rfl
theorem c_231_76 : mLk 231 76 = some (.invokevirtual 417, 3) := rfl
theorem c_231_79 : mLk 231 79 = some (.ifCond .eq 46, 3) := rfl
theorem c_231_125 : mLk 231 125 = some (.iconst 0, 1) := rfl
theorem c_231_126 : mLk 231 126 = some (.iadd, 1) := rfl
theorem c_231_127 : mLk 231 127 = some (.istore 4, 2) := rfl
theorem c_231_129 : mLk 231 129 = some (.iinc 5 1, 3) := rfl
theorem c_231_132 : mLk 231 132 = some (.goto (-87), 3) := rfl
theorem c_231_82 : mLk 231 82 = some (.aload_n 0, 1) := rfl
theorem c_231_83 : mLk 231 83 = some (.iload 5, 2) := rfl
theorem c_231_85 : mLk 231 85 = some (.aload_n 0, 1) := rfl
theorem c_231_86 : mLk 231 86 = some (.getfield 157, 3) := rfl
theorem c_231_89 : mLk 231 89 = some (.idiv, 1) := rfl
theorem c_231_90 : mLk 231 90 = some (.iload 5, 2) := rfl
theorem c_231_92 : mLk 231 92 = some (.aload_n 0, 1) := rfl
theorem c_231_93 : mLk 231 93 = some (.getfield 157, 3) := rfl
theorem c_231_96 : mLk 231 96 = some (.irem, 1) := rfl
theorem c_231_97 : mLk 231 97 = some (.iload_n 1, 1) := rfl
theorem c_231_98 : mLk 231 98 = some (.invokevirtual 363, 3) := rfl
theorem c_231_101 : mLk 231 101 = some (.aload_n 0, 1) := rfl
theorem c_231_102 : mLk 231 102 = some (.iload_n 3, 1) := rfl
theorem c_231_103 : mLk 231 103 = some (.aload_n 0, 1) := rfl
theorem c_231_104 : mLk 231 104 = some (.getfield 157, 3) := rfl
theorem c_231_107 : mLk 231 107 = some (.idiv, 1) := rfl
theorem c_231_108 : mLk 231 108 = some (.iload_n 3, 1) := rfl
theorem c_231_109 : mLk 231 109 = some (.aload_n 0, 1) := rfl
theorem c_231_110 : mLk 231 110 = some (.getfield 157, 3) := rfl
theorem c_231_113 : mLk 231 113 = some (.irem, 1) := rfl
theorem c_231_114 : mLk 231 114 = some (.iload_n 1, 1) := rfl
theorem c_231_115 : mLk 231 115 = some (.invokevirtual 363, 3) := rfl
theorem c_231_118 : mLk 231 118 = some (.if_icmp .ne 7, 3) := rfl
theorem c_231_121 : mLk 231 121 = some (.iconst 1, 1) := rfl
theorem c_231_122 : mLk 231 122 = some (.goto 4, 3) := rfl
theorem c_231_0 : mLk 231 0 = some (.iconst 0, 1) := rfl
theorem c_231_1 : mLk 231 1 = some (.istore_n 2, 1) := rfl
theorem c_231_2 : mLk 231 2 = some (.iconst 0, 1) := rfl
theorem c_231_3 : mLk 231 3 = some (.istore_n 3, 1) := rfl
theorem km_8_402 : a_lk (kM 8) 402 = some (0, 222) := rfl
theorem km_8_405 : a_lk (kM 8) 405 = some (0, 226) := rfl
theorem km_8_408 : a_lk (kM 8) 408 = some (0, 223) := rfl
theorem km_8_414 : a_lk (kM 8) 414 = some (0, 224) := rfl
theorem km_8_417 : a_lk (kM 8) 417 = some (0, 229) := rfl
set_option maxRecDepth 100000 in
set_option maxHeartbeats 4000000 in
theorem s_221_l {sc : List Int32} {d P Q : Nat} {c : ME} {a1 : Int} {a2 : Int} {Z : AR → Prop} (hI : Iv 0 (-1) P Q c) (ha1 : (-2147483648) ≤ a1 ∧ a1 ≤ 2147483647) (ha2 : (-2147483648) ≤ a2 ∧ a2 ≤ 2147483647) (K : ∀ (c2 : ME) (y : Int), Iv 0 (-1) P Q c2 → (∀ (a : Nat) (j : Int), ¬ ((a = 41 ∧ j = 0) ∨ a = 42 ∨ a = 59) → c2 a j = c a j) → (-2147483648) ≤ y ∧ y ≤ 2147483647 → Z (.inl (some (vi y)), Wd P Q P P c2, 0, 0)) : ∀ n : Nat, (∀ (c2 : ME) (v3 : Int), Iv 0 (-1) P Q c2 → (∀ (a : Nat) (j : Int), ¬ ((a = 41 ∧ j = 0) ∨ a = 42 ∨ a = 59) → c2 a j = c a j) → 0 ≤ v3 ∧ v3 ≤ 8 → ((a2 ≤ c 41 47)) → ((a1 ≥ 0 ∧ a1 ≤ 5)) → ((a2 ≥ 0 ∧ a2 ≤ 8)) → 17 - 2 * v3 < (n : Int) → Wp sc (d + 9) 221 53 [(0, .ref 41), (1, vi a1), (2, vi a2), (3, vi v3)] [] (Wd P Q P P c2) 0 0 Z) := by
  intro n
  induction n with
  | zero => exact (by intro c2 v3 hI2 hF hv3 hx0 hx1 hx2 hm9; have hP := iv_P hI; have hQ := iv_Q hI; exfalso; omega)
  | succ n ih =>
    have hP := iv_P hI
    have hQ := iv_Q hI
    intro c2 v3 hI2 hF hv3 hx0 hx1 hx2 hm9
    have h_1 := ir_41_47 hI
    have hIo : Iv 59 (-1) P Q c2 := iv_open hI2
    have hsum_2 := ir_59_r hI2 (of_decide_eq_true rfl) (j := a1) (by omega)
    have h_3 := ir_59_g hI2 (j := 4 * a1) (by omega)
    have h_4 := ir_59_g hI2 (j := 4 * a1 + 1) (by omega)
    have h_5 := ir_59_g hI2 (j := 4 * a1 + 2) (by omega)
    have h_6 := ir_59_g hI2 (j := 4 * a1 + 3) (by omega)
    refine q_iload_n c_221_53 rfl (q_iload_n c_221_54 rfl ?_)
    by_cases h_7 : v3 ≥ a2
    · refine v_ic_ge_t (t := 103) c_221_55 rfl ⟨ha2.1, h_7, (ler hv3.2 rfl)⟩ (q_iload_n c_221_103 rfl (q_aload_n c_221_104 rfl ?_))
      have kn_8 : Hid (c2 41 47 = c 41 47) := hF 41 47 qn_9656212e3
      refine v_gi (z := 47) (v := c 41 47) c_221_105 kf_8_176 rfl (Nat.le_of_ble_eq_true rfl) rfl rfl (hid kn_8) ?_
      by_cases h_9 : a2 ≠ c 41 47
      · refine v_ic_ne_t (t := 119) c_221_108 rfl ⟨h_9, ⟨ha2.1, ha2.2⟩, (lel h_1.1 rfl), (ler h_1.2 rfl)⟩ (q_aload_n c_221_119 rfl (q_iload_n c_221_120 rfl (v_cv c_221_121 km_8_343 rfl rfl (Nat.le_of_ble_eq_true rfl) ⟨⟨rfl, rfl⟩, Nat.le_of_ble_eq_true rfl, rfl⟩ (Nat.le_of_ble_eq_true rfl) (Nat.le_of_ble_eq_true rfl) (s_187 (v1 := c2 59 (4 * a1)) (v2 := c2 59 (4 * a1 + 1)) (v3 := c2 59 (4 * a1 + 2)) (v4 := c2 59 (4 * a1 + 3)) (r := c2 59 (4 * a1 + 1) + c2 59 (4 * a1 + 2) + c2 59 (4 * a1 + 3) + c2 59 (4 * a1)) (a1 := a1) hIo (show 0 ≤ a1 ∧ a1 ≤ 5 from ⟨by first | (clear ha1 ha2 hv3 hx0 hx2 h_1 h_3 h_4 h_5 h_6 hsum_2 h_7 h_9; omega) | omega, by first | (clear ha1 ha2 hv3 hx0 hx2 h_1 h_3 h_4 h_5 h_6 hsum_2 h_7 h_9; omega) | omega⟩) (rfl) (rfl) (rfl) (rfl) (by omega) (bk_inl (q_aload_n c_221_124 rfl (q_aload_n c_221_125 rfl (v_gr (t := 62) c_221_126 kf_8_77 rfl (Nat.le_of_ble_eq_true rfl) rfl ?_))))))))
        refine q_iload_n c_221_129 rfl ?_
        have h_10 := ir_62 hI a2
        have kn_11 : Hid (c2 62 a2 = c 62 a2) := hF 62 a2 qn_e16c4d0f0
        refine v_ia (v := c 62 a2) c_221_130 rfl (of_decide_eq_true rfl) (of_decide_eq_true rfl) ⟨by first | (clear ha1 ha2 hv3 hx0 hx1 h_1 h_3 h_4 h_5 h_6 hsum_2 h_7 h_10 h_9; omega) | omega, by first | (clear ha1 ha2 hv3 hx1 hx2 h_3 h_4 h_5 h_6 hsum_2 h_7 h_10; omega) | omega⟩ (hid kn_11) (q_iload_n c_221_131 rfl ?_)
        have h_12 := ir_49 hI (c 62 a2)
        have kn_13 : Hid (c2 49 (c 62 a2) = c 49 (c 62 a2)) := hF 49 (c 62 a2) qn_556c7ab22
        have h_14 := ir_59 hI2 (c 62 a2 + 30)
        have h_15 := fal_rng (m := c 49 (c 62 a2)) (t := c2 59 (c 62 a2 + 30)) (g := 0) (x := c2 59 (4 * a1)) ((q_c6ed8760d h_3))
        have h_16 := fal_rng (m := c 49 (c 62 a2)) (t := c2 59 (c 62 a2 + 30)) (g := 1) (x := c2 59 (4 * a1 + 1)) ((q_c6ed8760d h_4))
        have h_17 := fal_rng (m := c 49 (c 62 a2)) (t := c2 59 (c 62 a2 + 30)) (g := 2) (x := c2 59 (4 * a1 + 2)) ((q_c6ed8760d h_5))
        have h_18 := fal_rng (m := c 49 (c 62 a2)) (t := c2 59 (c 62 a2 + 30)) (g := 3) (x := c2 59 (4 * a1 + 3)) ((q_c6ed8760d h_6))
        refine v_cv c_221_132 km_8_366 rfl rfl (Nat.le_of_ble_eq_true rfl) ⟨⟨rfl, rfl⟩, Nat.le_of_ble_eq_true rfl, rfl⟩ (Nat.le_of_ble_eq_true rfl) (Nat.le_of_ble_eq_true rfl) (s_190 (v1 := c 49 (c 62 a2)) (v2 := c2 59 (c 62 a2 + 30)) (v3 := c2 59 (4 * a1)) (v4 := c2 59 (4 * a1 + 1)) (v5 := c2 59 (4 * a1 + 2)) (v6 := c2 59 (4 * a1 + 3)) (r := (fal (c 49 (c 62 a2)) (c2 59 (c 62 a2 + 30)) 0 (c2 59 (4 * a1))) + (fal (c 49 (c 62 a2)) (c2 59 (c 62 a2 + 30)) 1 (c2 59 (4 * a1 + 1))) + (fal (c 49 (c 62 a2)) (c2 59 (c 62 a2 + 30)) 2 (c2 59 (4 * a1 + 2))) + (fal (c 49 (c 62 a2)) (c2 59 (c 62 a2 + 30)) 3 (c2 59 (4 * a1 + 3)))) (a1 := c 62 a2) (a2 := a1) hIo (show 0 ≤ c 62 a2 ∧ c 62 a2 ≤ 3 from ⟨(q_eb3a7ad7a h_10), (q_c99d6ea93 h_10)⟩) (show 0 ≤ a1 ∧ a1 ≤ 5 from ⟨by first | (clear ha1 ha2 hv3 hx0 hx2 h_1 h_3 h_4 h_5 h_6 hsum_2 h_7 h_10 h_9; omega) | omega, by first | (clear ha1 ha2 hv3 hx0 hx2 h_1 h_3 h_4 h_5 h_6 hsum_2 h_7 h_10 h_9; omega) | omega⟩) ((congrArg (c2 49) (show (c 62 a2) = c 62 a2 from by first | exact q_ef0f4cfe4 | assumption | exact Int.le_antisymm (by omega) (by omega))).trans (hid kn_13)) ((congrArg (c2 59) (show (c 62 a2) + 30 = c 62 a2 + 30 from by first | exact q_9182abc2f | assumption | exact Int.le_antisymm (by omega) (by omega)))) (rfl) (rfl) (rfl) (rfl) rfl (bk_inl ?_))
        refine v_isub (v := c2 59 (4 * a1 + 1) + c2 59 (4 * a1 + 2) + c2 59 (4 * a1 + 3) + c2 59 (4 * a1) - (fal (c 49 (c 62 a2)) (c2 59 (c 62 a2 + 30)) 0 (c2 59 (4 * a1))) - (fal (c 49 (c 62 a2)) (c2 59 (c 62 a2 + 30)) 1 (c2 59 (4 * a1 + 1))) - (fal (c 49 (c 62 a2)) (c2 59 (c 62 a2 + 30)) 2 (c2 59 (4 * a1 + 2))) - (fal (c 49 (c 62 a2)) (c2 59 (c 62 a2 + 30)) 3 (c2 59 (4 * a1 + 3)))) rfl (by first | (clear ha1 ha2 hv3 hx0 hx1 hx2 h_1 h_3 h_4 h_5 h_6 hsum_2 h_7 h_10 h_12 h_14 h_15 h_16 h_17 h_18 h_9; omega) | omega) (q_iret c_221_136 rfl ?_)
        have hr_19 : ∀ j : Int, rs 59 j → c2 59 j + c2 59 (j + 1) + c2 59 (j + 2) + c2 59 (j + 3) ≤ 9999 := by
          intro j9 hj9
          obtain ⟨k9, rfl, hk9⟩ := rs_59 hj9
          by_cases e_20 : k9 = a1
          · skip
            have h_21 : c2 59 (4 * k9) = c2 59 (4 * a1) := (congrArg (c2 59) (show 4 * k9 = 4 * a1 from by first | assumption | exact Int.le_antisymm (by omega) (by omega)))
            have h_22 : c2 59 (4 * k9 + 1) = c2 59 (4 * a1 + 1) := (congrArg (c2 59) (show 4 * k9 + 1 = 4 * a1 + 1 from by first | assumption | exact Int.le_antisymm (by omega) (by omega)))
            have h_23 : c2 59 (4 * k9 + 2) = c2 59 (4 * a1 + 2) := (congrArg (c2 59) (show 4 * k9 + 2 = 4 * a1 + 2 from by first | assumption | exact Int.le_antisymm (by omega) (by omega)))
            have h_24 : c2 59 (4 * k9 + 3) = c2 59 (4 * a1 + 3) := (congrArg (c2 59) (show 4 * k9 + 3 = 4 * a1 + 3 from by first | assumption | exact Int.le_antisymm (by omega) (by omega)))
            omega
          have h_25 := iv_r hI2 59 (4 * k9) hj9 (by omega)
          have h_26 := ir_59_g hI2 (j := 4 * k9) ((q_9f1d5ffdc hk9))
          have h_27 : c2 59 (4 * k9) = c2 59 (4 * k9) := rfl
          have h_28 := ir_59_g hI2 (j := 4 * k9 + 1) ((q_0a2ee6f8f hk9))
          have h_29 : c2 59 (4 * k9 + 1) = c2 59 (4 * k9 + 1) := rfl
          have h_30 := ir_59_g hI2 (j := 4 * k9 + 2) ((q_e07a293a2 hk9))
          have h_31 : c2 59 (4 * k9 + 2) = c2 59 (4 * k9 + 2) := rfl
          have h_32 := ir_59_g hI2 (j := 4 * k9 + 3) ((q_d09cb0b73 hk9))
          have h_33 : c2 59 (4 * k9 + 3) = c2 59 (4 * k9 + 3) := rfl
          omega
        have hI_34 := iv_close hIo hr_19
        exact K c2 (c2 59 (4 * a1 + 1) + c2 59 (4 * a1 + 2) + c2 59 (4 * a1 + 3) + c2 59 (4 * a1) - (fal (c 49 (c 62 a2)) (c2 59 (c 62 a2 + 30)) 0 (c2 59 (4 * a1))) - (fal (c 49 (c 62 a2)) (c2 59 (c 62 a2 + 30)) 1 (c2 59 (4 * a1 + 1))) - (fal (c 49 (c 62 a2)) (c2 59 (c 62 a2 + 30)) 2 (c2 59 (4 * a1 + 2))) - (fal (c 49 (c 62 a2)) (c2 59 (c 62 a2 + 30)) 3 (c2 59 (4 * a1 + 3)))) hI_34 (fun a j hm => hF a j hm) ⟨(q_fe383d6ec h_15 h_16 h_17 h_18), (q_4e357606a h_15 h_16 h_17 h_18 hsum_2)⟩
      · refine v_ic_ne_f (t := 119) c_221_108 rfl (Decidable.not_not.mp h_9) (q_aload_n c_221_111 rfl (q_iload_n c_221_112 rfl (v_cv c_221_113 km_8_343 rfl rfl (Nat.le_of_ble_eq_true rfl) ⟨⟨rfl, rfl⟩, Nat.le_of_ble_eq_true rfl, rfl⟩ (Nat.le_of_ble_eq_true rfl) (Nat.le_of_ble_eq_true rfl) (s_187 (v1 := c2 59 (4 * a1)) (v2 := c2 59 (4 * a1 + 1)) (v3 := c2 59 (4 * a1 + 2)) (v4 := c2 59 (4 * a1 + 3)) (r := c2 59 (4 * a1 + 1) + c2 59 (4 * a1 + 2) + c2 59 (4 * a1 + 3) + c2 59 (4 * a1)) (a1 := a1) hIo (show 0 ≤ a1 ∧ a1 ≤ 5 from ⟨by first | (clear ha1 ha2 hv3 hx0 hx2 h_1 h_3 h_4 h_5 h_6 hsum_2 h_7 h_9; omega) | omega, by first | (clear ha1 ha2 hv3 hx0 hx2 h_1 h_3 h_4 h_5 h_6 hsum_2 h_7 h_9; omega) | omega⟩) (rfl) (rfl) (rfl) (rfl) (by omega) (bk_inl (q_goto (t := 136) c_221_116 rfl (q_iret c_221_136 rfl ?_)))))))
        have hr_35 : ∀ j : Int, rs 59 j → c2 59 j + c2 59 (j + 1) + c2 59 (j + 2) + c2 59 (j + 3) ≤ 9999 := by
          intro j9 hj9
          obtain ⟨k9, rfl, hk9⟩ := rs_59 hj9
          by_cases e_36 : k9 = a1
          · skip
            have h_37 : c2 59 (4 * k9) = c2 59 (4 * a1) := (congrArg (c2 59) (show 4 * k9 = 4 * a1 from by omega))
            have h_38 : c2 59 (4 * k9 + 1) = c2 59 (4 * a1 + 1) := (congrArg (c2 59) (show 4 * k9 + 1 = 4 * a1 + 1 from by omega))
            have h_39 : c2 59 (4 * k9 + 2) = c2 59 (4 * a1 + 2) := (congrArg (c2 59) (show 4 * k9 + 2 = 4 * a1 + 2 from by omega))
            have h_40 : c2 59 (4 * k9 + 3) = c2 59 (4 * a1 + 3) := (congrArg (c2 59) (show 4 * k9 + 3 = 4 * a1 + 3 from by omega))
            omega
          have h_41 := iv_r hI2 59 (4 * k9) hj9 (by omega)
          have h_42 := ir_59_g hI2 (j := 4 * k9) ((q_9f1d5ffdc hk9))
          have h_43 : c2 59 (4 * k9) = c2 59 (4 * k9) := rfl
          have h_44 := ir_59_g hI2 (j := 4 * k9 + 1) ((q_0a2ee6f8f hk9))
          have h_45 : c2 59 (4 * k9 + 1) = c2 59 (4 * k9 + 1) := rfl
          have h_46 := ir_59_g hI2 (j := 4 * k9 + 2) ((q_e07a293a2 hk9))
          have h_47 : c2 59 (4 * k9 + 2) = c2 59 (4 * k9 + 2) := rfl
          have h_48 := ir_59_g hI2 (j := 4 * k9 + 3) ((q_d09cb0b73 hk9))
          have h_49 : c2 59 (4 * k9 + 3) = c2 59 (4 * k9 + 3) := rfl
          omega
        have hI_50 := iv_close hIo hr_35
        exact K c2 (c2 59 (4 * a1 + 1) + c2 59 (4 * a1 + 2) + c2 59 (4 * a1 + 3) + c2 59 (4 * a1)) hI_50 (fun a j hm => hF a j hm) ⟨(q_e052ef40e h_3 h_4 h_5 h_6), (q_6719c4bfd hsum_2)⟩
    · refine v_ic_ge_f (t := 103) c_221_55 rfl ⟨(lel hv3.1 rfl), (Int.not_le.mp h_7), ha2.2⟩ (q_iconst c_221_58 (q_istore c_221_59 (Nat.le_of_ble_eq_true rfl) (q_iload c_221_61 rfl (q_iconst c_221_63 (v_ic_ge_f (t := 97) c_221_64 rfl (of_decide_eq_true rfl) (q_aload_n c_221_67 rfl (v_gr (t := 59) c_221_68 kf_8_68 rfl (Nat.le_of_ble_eq_true rfl) rfl ?_)))))))
      refine q_iconst c_221_71 (q_iload_n c_221_72 rfl (v_imul (v := 4 * a1) c_221_73 rfl (q_iload c_221_74 rfl (v_iadd (v := 4 * a1) c_221_76 (by omega) (q_aload_n c_221_77 rfl (q_aload_n c_221_78 rfl (v_gr (t := 62) c_221_79 kf_8_77 rfl (Nat.le_of_ble_eq_true rfl) rfl ?_)))))))
      refine q_iload_n c_221_82 rfl ?_
      have h_51 := ir_62 hI v3
      have kn_52 : Hid (c2 62 v3 = c 62 v3) := hF 62 v3 qn_e16c4d0f0
      refine v_ia (v := c 62 v3) c_221_83 rfl (of_decide_eq_true rfl) (of_decide_eq_true rfl) ⟨hv3.1, by first | (clear ha1 ha2 hv3 hx0 hx1 h_1 h_3 h_4 h_5 h_6 hsum_2 h_51; omega) | omega⟩ (hid kn_52) (q_iload_n c_221_84 rfl (q_iload c_221_85 rfl ?_))
      have h_53 := ir_49 hI (c 62 v3)
      have kn_54 : Hid (c2 49 (c 62 v3) = c 49 (c 62 v3)) := hF 49 (c 62 v3) qn_556c7ab22
      have h_55 := ir_59 hI2 (c 62 v3 + 30)
      have h_56 := fal_rng (m := c 49 (c 62 v3)) (t := c2 59 (c 62 v3 + 30)) (g := 0) (x := c2 59 (4 * a1)) ((q_c6ed8760d h_3))
      refine v_cv c_221_87 km_8_363 rfl rfl (Nat.le_of_ble_eq_true rfl) ⟨⟨rfl, rfl⟩, Nat.le_of_ble_eq_true rfl, rfl⟩ (Nat.le_of_ble_eq_true rfl) (Nat.le_of_ble_eq_true rfl) (s_189 (v1 := c 49 (c 62 v3)) (v2 := c2 59 (c 62 v3 + 30)) (v3 := c2 59 (4 * a1)) (r := (fal (c 49 (c 62 v3)) (c2 59 (c 62 v3 + 30)) 0 (c2 59 (4 * a1)))) (a1 := c 62 v3) (a2 := a1) (a3 := 0) hIo (show 0 ≤ c 62 v3 ∧ c 62 v3 ≤ 3 from ⟨(q_eb3a7ad7a h_51), (q_c99d6ea93 h_51)⟩) (show 0 ≤ a1 ∧ a1 ≤ 5 from ⟨by first | (clear ha1 ha2 hv3 hx0 hx2 h_1 h_3 h_4 h_5 h_6 hsum_2 h_7 h_51; omega) | omega, by first | (clear ha1 ha2 hv3 hx0 hx2 h_1 h_3 h_4 h_5 h_6 hsum_2 h_7 h_51; omega) | omega⟩) (show 0 ≤ 0 ∧ 0 ≤ 3 from ⟨of_decide_eq_true rfl, of_decide_eq_true rfl⟩) ((congrArg (c2 49) (show (c 62 v3) = c 62 v3 from (q_ef0f4cfe4))).trans (hid kn_54)) ((congrArg (c2 59) (show (c 62 v3) + 30 = c 62 v3 + 30 from (q_9182abc2f)))) ((congrArg (c2 59) (show 4 * a1 + 0 = 4 * a1 from (q_8baad3eb5)))) rfl (bk_inl (v_is c_221_90 rfl (of_decide_eq_true rfl) (of_decide_eq_true rfl) ⟨by first | (clear ha1 ha2 hv3 hx0 hx2 h_1 h_3 h_4 h_5 h_6 hsum_2 h_7 h_51 h_53 h_55 h_56; omega) | omega, by first | (clear ha1 ha2 hv3 hx0 hx2 h_1 h_3 h_4 h_5 h_6 hsum_2 h_7 h_51 h_53 h_55 h_56; omega) | omega⟩ (v_iinc (v := 1) c_221_91 rfl (Nat.le_of_ble_eq_true rfl) (of_decide_eq_true rfl) (q_goto (t := 61) c_221_94 rfl (q_iload c_221_61 rfl (q_iconst c_221_63 (v_ic_ge_f (t := 97) c_221_64 rfl (of_decide_eq_true rfl) ?_))))))))
      refine q_aload_n c_221_67 rfl (v_gr (t := 59) c_221_68 kf_8_68 rfl (Nat.le_of_ble_eq_true rfl) rfl (q_iconst c_221_71 (q_iload_n c_221_72 rfl (v_imul (v := 4 * a1) c_221_73 rfl (q_iload c_221_74 rfl (v_iadd (v := 4 * a1 + 1) c_221_76 rfl (q_aload_n c_221_77 rfl ?_)))))))
      refine q_aload_n c_221_78 rfl (v_gr (t := 62) c_221_79 kf_8_77 rfl (Nat.le_of_ble_eq_true rfl) rfl (q_iload_n c_221_82 rfl (v_ia (v := c 62 v3) c_221_83 rfl (of_decide_eq_true rfl) (of_decide_eq_true rfl) ⟨hv3.1, by first | (clear ha1 ha2 hv3 hx0 hx1 h_1 h_3 h_4 h_5 h_6 hsum_2 h_51 h_53 h_55 h_56; omega) | omega⟩ ((up_c (nn rfl)).trans (hid kn_52)) (q_iload_n c_221_84 rfl (q_iload c_221_85 rfl ?_)))))
      have hI_57 := iw_row (a := 59) (j := 4 * a1) (v := (fal (c 49 (c 62 v3)) (c2 59 (c 62 v3 + 30)) 0 (c2 59 (4 * a1)))) hIo (by omega) (Or.inl rfl) ⟨by omega, by omega, by omega⟩
      have h_58 := fal_rng (m := c 49 (c 62 v3)) (t := c2 59 (c 62 v3 + 30)) (g := 1) (x := c2 59 (4 * a1 + 1)) ((q_c6ed8760d h_4))
      refine v_cv c_221_87 km_8_363 rfl rfl (Nat.le_of_ble_eq_true rfl) ⟨⟨rfl, rfl⟩, Nat.le_of_ble_eq_true rfl, rfl⟩ (Nat.le_of_ble_eq_true rfl) (Nat.le_of_ble_eq_true rfl) (s_189 (v1 := c 49 (c 62 v3)) (v2 := c2 59 (c 62 v3 + 30)) (v3 := c2 59 (4 * a1 + 1)) (r := (fal (c 49 (c 62 v3)) (c2 59 (c 62 v3 + 30)) 1 (c2 59 (4 * a1 + 1)))) (a1 := c 62 v3) (a2 := a1) (a3 := 1) hI_57 (show 0 ≤ c 62 v3 ∧ c 62 v3 ≤ 3 from ⟨(q_eb3a7ad7a h_51), (q_c99d6ea93 h_51)⟩) (show 0 ≤ a1 ∧ a1 ≤ 5 from ⟨by first | (clear ha1 ha2 hv3 hx0 hx2 h_1 h_3 h_4 h_5 h_6 hsum_2 h_7 h_51 h_53 h_55 h_56; omega) | omega, by first | (clear ha1 ha2 hv3 hx0 hx2 h_1 h_3 h_4 h_5 h_6 hsum_2 h_7 h_51 h_53 h_55 h_56; omega) | omega⟩) (show 0 ≤ 1 ∧ 1 ≤ 3 from ⟨of_decide_eq_true rfl, of_decide_eq_true rfl⟩) ((congrArg ((up c2 59 (4 * a1) (fal (c 49 (c 62 v3)) (c2 59 (c 62 v3 + 30)) 0 (c2 59 (4 * a1)))) 49) (show (c 62 v3) = c 62 v3 from (q_ef0f4cfe4))).trans ((up_c (nn rfl)).trans (hid kn_54))) ((congrArg ((up c2 59 (4 * a1) (fal (c 49 (c 62 v3)) (c2 59 (c 62 v3 + 30)) 0 (c2 59 (4 * a1)))) 59) (show (c 62 v3) + 30 = c 62 v3 + 30 from (q_9182abc2f))).trans (up_n (ne_g (by first | (clear ha1 ha2 hv3 hx0 hx2 h_1 h_3 h_4 h_5 h_6 hsum_2 h_7 h_53 h_55 h_56; omega) | omega)))) ((up_n ((ne_a0 (ni rfl))))) rfl (bk_inl ?_))
      refine v_is c_221_90 rfl (of_decide_eq_true rfl) (of_decide_eq_true rfl) ⟨by first | (clear ha1 ha2 hv3 hx0 hx2 h_1 h_3 h_4 h_5 h_6 hsum_2 h_7 h_51 h_53 h_55 h_56 h_58; omega) | omega, by first | (clear ha1 ha2 hv3 hx0 hx2 h_1 h_3 h_4 h_5 h_6 hsum_2 h_7 h_51 h_53 h_55 h_56 h_58; omega) | omega⟩ (v_iinc (v := 2) c_221_91 rfl (Nat.le_of_ble_eq_true rfl) (of_decide_eq_true rfl) (q_goto (t := 61) c_221_94 rfl (q_iload c_221_61 rfl (q_iconst c_221_63 (v_ic_ge_f (t := 97) c_221_64 rfl (of_decide_eq_true rfl) (q_aload_n c_221_67 rfl (v_gr (t := 59) c_221_68 kf_8_68 rfl (Nat.le_of_ble_eq_true rfl) rfl ?_)))))))
      refine q_iconst c_221_71 (q_iload_n c_221_72 rfl (v_imul (v := 4 * a1) c_221_73 rfl (q_iload c_221_74 rfl (v_iadd (v := 4 * a1 + 2) c_221_76 rfl (q_aload_n c_221_77 rfl (q_aload_n c_221_78 rfl (v_gr (t := 62) c_221_79 kf_8_77 rfl (Nat.le_of_ble_eq_true rfl) rfl ?_)))))))
      refine q_iload_n c_221_82 rfl (v_ia (v := c 62 v3) c_221_83 rfl (of_decide_eq_true rfl) (of_decide_eq_true rfl) ⟨hv3.1, by first | (clear ha1 ha2 hv3 hx0 hx1 h_1 h_3 h_4 h_5 h_6 hsum_2 h_51 h_53 h_55 h_56 h_58; omega) | omega⟩ ((up_c (nn rfl)).trans ((up_c (nn rfl)).trans (hid kn_52))) (q_iload_n c_221_84 rfl (q_iload c_221_85 rfl ?_)))
      have hI_59 := iw_row (a := 59) (j := 4 * a1 + 1) (v := (fal (c 49 (c 62 v3)) (c2 59 (c 62 v3 + 30)) 1 (c2 59 (4 * a1 + 1)))) hI_57 (by omega) (Or.inl rfl) ⟨by omega, by omega, by omega⟩
      have h_60 := fal_rng (m := c 49 (c 62 v3)) (t := c2 59 (c 62 v3 + 30)) (g := 2) (x := c2 59 (4 * a1 + 2)) ((q_c6ed8760d h_5))
      refine v_cv c_221_87 km_8_363 rfl rfl (Nat.le_of_ble_eq_true rfl) ⟨⟨rfl, rfl⟩, Nat.le_of_ble_eq_true rfl, rfl⟩ (Nat.le_of_ble_eq_true rfl) (Nat.le_of_ble_eq_true rfl) (s_189 (v1 := c 49 (c 62 v3)) (v2 := c2 59 (c 62 v3 + 30)) (v3 := c2 59 (4 * a1 + 2)) (r := (fal (c 49 (c 62 v3)) (c2 59 (c 62 v3 + 30)) 2 (c2 59 (4 * a1 + 2)))) (a1 := c 62 v3) (a2 := a1) (a3 := 2) hI_59 (show 0 ≤ c 62 v3 ∧ c 62 v3 ≤ 3 from ⟨(q_eb3a7ad7a h_51), (q_c99d6ea93 h_51)⟩) (show 0 ≤ a1 ∧ a1 ≤ 5 from ⟨by first | (clear ha1 ha2 hv3 hx0 hx2 h_1 h_3 h_4 h_5 h_6 hsum_2 h_7 h_51 h_53 h_55 h_56 h_58; omega) | omega, by first | (clear ha1 ha2 hv3 hx0 hx2 h_1 h_3 h_4 h_5 h_6 hsum_2 h_7 h_51 h_53 h_55 h_56 h_58; omega) | omega⟩) (show 0 ≤ 2 ∧ 2 ≤ 3 from ⟨of_decide_eq_true rfl, of_decide_eq_true rfl⟩) ((congrArg ((up (up c2 59 (4 * a1) (fal (c 49 (c 62 v3)) (c2 59 (c 62 v3 + 30)) 0 (c2 59 (4 * a1)))) 59 (4 * a1 + 1) (fal (c 49 (c 62 v3)) (c2 59 (c 62 v3 + 30)) 1 (c2 59 (4 * a1 + 1)))) 49) (show (c 62 v3) = c 62 v3 from (q_ef0f4cfe4))).trans ((up_c (nn rfl)).trans ((up_c (nn rfl)).trans (hid kn_54)))) ((congrArg ((up (up c2 59 (4 * a1) (fal (c 49 (c 62 v3)) (c2 59 (c 62 v3 + 30)) 0 (c2 59 (4 * a1)))) 59 (4 * a1 + 1) (fal (c 49 (c 62 v3)) (c2 59 (c 62 v3 + 30)) 1 (c2 59 (4 * a1 + 1)))) 59) (show (c 62 v3) + 30 = c 62 v3 + 30 from (q_9182abc2f))).trans ((up_n (ne_g (by first | (clear ha1 ha2 hv3 hx0 hx2 h_1 h_3 h_4 h_5 h_6 hsum_2 h_7 h_53 h_55 h_56 h_58; omega) | omega))).trans (up_n (ne_g (by first | (clear ha1 ha2 hv3 hx0 hx2 h_1 h_3 h_4 h_5 h_6 hsum_2 h_7 h_53 h_55 h_56 h_58; omega) | omega))))) (((up_n ((ne_aa (ni rfl)))).trans (up_n ((ne_a0 (ni rfl)))))) rfl ?_)
      refine bk_inl (v_is c_221_90 rfl (of_decide_eq_true rfl) (of_decide_eq_true rfl) ⟨by first | (clear ha1 ha2 hv3 hx0 hx2 h_1 h_3 h_4 h_5 h_6 hsum_2 h_7 h_51 h_53 h_55 h_56 h_58 h_60; omega) | omega, by first | (clear ha1 ha2 hv3 hx0 hx2 h_1 h_3 h_4 h_5 h_6 hsum_2 h_7 h_51 h_53 h_55 h_56 h_58 h_60; omega) | omega⟩ (v_iinc (v := 3) c_221_91 rfl (Nat.le_of_ble_eq_true rfl) (of_decide_eq_true rfl) (q_goto (t := 61) c_221_94 rfl (q_iload c_221_61 rfl (q_iconst c_221_63 (v_ic_ge_f (t := 97) c_221_64 rfl (of_decide_eq_true rfl) (q_aload_n c_221_67 rfl ?_)))))))
      refine v_gr (t := 59) c_221_68 kf_8_68 rfl (Nat.le_of_ble_eq_true rfl) rfl (q_iconst c_221_71 (q_iload_n c_221_72 rfl (v_imul (v := 4 * a1) c_221_73 rfl (q_iload c_221_74 rfl (v_iadd (v := 4 * a1 + 3) c_221_76 rfl (q_aload_n c_221_77 rfl (q_aload_n c_221_78 rfl ?_)))))))
      refine v_gr (t := 62) c_221_79 kf_8_77 rfl (Nat.le_of_ble_eq_true rfl) rfl (q_iload_n c_221_82 rfl (v_ia (v := c 62 v3) c_221_83 rfl (of_decide_eq_true rfl) (of_decide_eq_true rfl) ⟨hv3.1, by first | (clear ha1 ha2 hv3 hx0 hx1 h_1 h_3 h_4 h_5 h_6 hsum_2 h_51 h_53 h_55 h_56 h_58 h_60; omega) | omega⟩ ((up_c (nn rfl)).trans ((up_c (nn rfl)).trans ((up_c (nn rfl)).trans (hid kn_52)))) (q_iload_n c_221_84 rfl (q_iload c_221_85 rfl ?_))))
      have hI_61 := iw_row (a := 59) (j := 4 * a1 + 2) (v := (fal (c 49 (c 62 v3)) (c2 59 (c 62 v3 + 30)) 2 (c2 59 (4 * a1 + 2)))) hI_59 (by omega) (Or.inl rfl) ⟨by omega, by omega, by omega⟩
      have h_62 := fal_rng (m := c 49 (c 62 v3)) (t := c2 59 (c 62 v3 + 30)) (g := 3) (x := c2 59 (4 * a1 + 3)) ((q_c6ed8760d h_6))
      refine v_cv c_221_87 km_8_363 rfl rfl (Nat.le_of_ble_eq_true rfl) ⟨⟨rfl, rfl⟩, Nat.le_of_ble_eq_true rfl, rfl⟩ (Nat.le_of_ble_eq_true rfl) (Nat.le_of_ble_eq_true rfl) (s_189 (v1 := c 49 (c 62 v3)) (v2 := c2 59 (c 62 v3 + 30)) (v3 := c2 59 (4 * a1 + 3)) (r := (fal (c 49 (c 62 v3)) (c2 59 (c 62 v3 + 30)) 3 (c2 59 (4 * a1 + 3)))) (a1 := c 62 v3) (a2 := a1) (a3 := 3) hI_61 (show 0 ≤ c 62 v3 ∧ c 62 v3 ≤ 3 from ⟨(q_eb3a7ad7a h_51), (q_c99d6ea93 h_51)⟩) (show 0 ≤ a1 ∧ a1 ≤ 5 from ⟨by first | (clear ha1 ha2 hv3 hx0 hx2 h_1 h_3 h_4 h_5 h_6 hsum_2 h_7 h_51 h_53 h_55 h_56 h_58 h_60; omega) | omega, by first | (clear ha1 ha2 hv3 hx0 hx2 h_1 h_3 h_4 h_5 h_6 hsum_2 h_7 h_51 h_53 h_55 h_56 h_58 h_60; omega) | omega⟩) (show 0 ≤ 3 ∧ 3 ≤ 3 from ⟨of_decide_eq_true rfl, of_decide_eq_true rfl⟩) ((congrArg ((up (up (up c2 59 (4 * a1) (fal (c 49 (c 62 v3)) (c2 59 (c 62 v3 + 30)) 0 (c2 59 (4 * a1)))) 59 (4 * a1 + 1) (fal (c 49 (c 62 v3)) (c2 59 (c 62 v3 + 30)) 1 (c2 59 (4 * a1 + 1)))) 59 (4 * a1 + 2) (fal (c 49 (c 62 v3)) (c2 59 (c 62 v3 + 30)) 2 (c2 59 (4 * a1 + 2)))) 49) (show (c 62 v3) = c 62 v3 from (q_ef0f4cfe4))).trans ((up_c (nn rfl)).trans ((up_c (nn rfl)).trans ((up_c (nn rfl)).trans (hid kn_54))))) ((congrArg ((up (up (up c2 59 (4 * a1) (fal (c 49 (c 62 v3)) (c2 59 (c 62 v3 + 30)) 0 (c2 59 (4 * a1)))) 59 (4 * a1 + 1) (fal (c 49 (c 62 v3)) (c2 59 (c 62 v3 + 30)) 1 (c2 59 (4 * a1 + 1)))) 59 (4 * a1 + 2) (fal (c 49 (c 62 v3)) (c2 59 (c 62 v3 + 30)) 2 (c2 59 (4 * a1 + 2)))) 59) (show (c 62 v3) + 30 = c 62 v3 + 30 from (q_9182abc2f))).trans ((up_n (ne_g (by first | (clear ha1 ha2 hv3 hx0 hx2 h_1 h_3 h_4 h_5 h_6 hsum_2 h_7 h_53 h_55 h_56 h_58 h_60; omega) | omega))).trans ((up_n (ne_g (by first | (clear ha1 ha2 hv3 hx0 hx2 h_1 h_3 h_4 h_5 h_6 hsum_2 h_7 h_53 h_55 h_56 h_58 h_60; omega) | omega))).trans (up_n (ne_g (by first | (clear ha1 ha2 hv3 hx0 hx2 h_1 h_3 h_4 h_5 h_6 hsum_2 h_7 h_53 h_55 h_56 h_58 h_60; omega) | omega)))))) (((up_n ((ne_aa (ni rfl)))).trans ((up_n ((ne_aa (ni rfl)))).trans (up_n ((ne_a0 (ni rfl))))))) rfl ?_)
      refine bk_inl (v_is c_221_90 rfl (of_decide_eq_true rfl) (of_decide_eq_true rfl) ⟨by first | (clear ha1 ha2 hv3 hx0 hx2 h_1 h_3 h_4 h_5 h_6 hsum_2 h_7 h_51 h_53 h_55 h_56 h_58 h_60 h_62; omega) | omega, by first | (clear ha1 ha2 hv3 hx0 hx2 h_1 h_3 h_4 h_5 h_6 hsum_2 h_7 h_51 h_53 h_55 h_56 h_58 h_60 h_62; omega) | omega⟩ (v_iinc (v := 4) c_221_91 rfl (Nat.le_of_ble_eq_true rfl) (of_decide_eq_true rfl) (Wp_ls [(4, vi 4), (0, .ref 41), (1, vi a1), (2, vi a2), (3, vi v3)] (lsub_cons rfl (lsub_cons rfl (lsub_cons rfl (lsub_cons rfl (lsub_cons rfl lsub_nil))))) (q_goto (t := 61) c_221_94 rfl (q_iload c_221_61 rfl (q_iconst c_221_63 (v_ic_ge_t (t := 97) c_221_64 rfl (of_decide_eq_true rfl) ?_)))))))
      refine v_iinc (v := v3 + 1) c_221_97 rfl (Nat.le_of_ble_eq_true rfl) rfl (q_goto (t := 53) c_221_100 rfl ?_)
      have hI_63 := iw_row (a := 59) (j := 4 * a1 + 3) (v := (fal (c 49 (c 62 v3)) (c2 59 (c 62 v3 + 30)) 3 (c2 59 (4 * a1 + 3)))) hI_61 (by omega) (Or.inl rfl) ⟨by omega, by omega, by omega⟩
      have hr_64 : ∀ j : Int, rs 59 j → (up (up (up (up c2 59 (4 * a1) (fal (c 49 (c 62 v3)) (c2 59 (c 62 v3 + 30)) 0 (c2 59 (4 * a1)))) 59 (4 * a1 + 1) (fal (c 49 (c 62 v3)) (c2 59 (c 62 v3 + 30)) 1 (c2 59 (4 * a1 + 1)))) 59 (4 * a1 + 2) (fal (c 49 (c 62 v3)) (c2 59 (c 62 v3 + 30)) 2 (c2 59 (4 * a1 + 2)))) 59 (4 * a1 + 3) (fal (c 49 (c 62 v3)) (c2 59 (c 62 v3 + 30)) 3 (c2 59 (4 * a1 + 3)))) 59 j + (up (up (up (up c2 59 (4 * a1) (fal (c 49 (c 62 v3)) (c2 59 (c 62 v3 + 30)) 0 (c2 59 (4 * a1)))) 59 (4 * a1 + 1) (fal (c 49 (c 62 v3)) (c2 59 (c 62 v3 + 30)) 1 (c2 59 (4 * a1 + 1)))) 59 (4 * a1 + 2) (fal (c 49 (c 62 v3)) (c2 59 (c 62 v3 + 30)) 2 (c2 59 (4 * a1 + 2)))) 59 (4 * a1 + 3) (fal (c 49 (c 62 v3)) (c2 59 (c 62 v3 + 30)) 3 (c2 59 (4 * a1 + 3)))) 59 (j + 1) + (up (up (up (up c2 59 (4 * a1) (fal (c 49 (c 62 v3)) (c2 59 (c 62 v3 + 30)) 0 (c2 59 (4 * a1)))) 59 (4 * a1 + 1) (fal (c 49 (c 62 v3)) (c2 59 (c 62 v3 + 30)) 1 (c2 59 (4 * a1 + 1)))) 59 (4 * a1 + 2) (fal (c 49 (c 62 v3)) (c2 59 (c 62 v3 + 30)) 2 (c2 59 (4 * a1 + 2)))) 59 (4 * a1 + 3) (fal (c 49 (c 62 v3)) (c2 59 (c 62 v3 + 30)) 3 (c2 59 (4 * a1 + 3)))) 59 (j + 2) + (up (up (up (up c2 59 (4 * a1) (fal (c 49 (c 62 v3)) (c2 59 (c 62 v3 + 30)) 0 (c2 59 (4 * a1)))) 59 (4 * a1 + 1) (fal (c 49 (c 62 v3)) (c2 59 (c 62 v3 + 30)) 1 (c2 59 (4 * a1 + 1)))) 59 (4 * a1 + 2) (fal (c 49 (c 62 v3)) (c2 59 (c 62 v3 + 30)) 2 (c2 59 (4 * a1 + 2)))) 59 (4 * a1 + 3) (fal (c 49 (c 62 v3)) (c2 59 (c 62 v3 + 30)) 3 (c2 59 (4 * a1 + 3)))) 59 (j + 3) ≤ 9999 := by
        intro j9 hj9
        obtain ⟨k9, rfl, hk9⟩ := rs_59 hj9
        by_cases e_65 : k9 = a1
        · skip
          have h_66 : (up (up (up (up c2 59 (4 * a1) (fal (c 49 (c 62 v3)) (c2 59 (c 62 v3 + 30)) 0 (c2 59 (4 * a1)))) 59 (4 * a1 + 1) (fal (c 49 (c 62 v3)) (c2 59 (c 62 v3 + 30)) 1 (c2 59 (4 * a1 + 1)))) 59 (4 * a1 + 2) (fal (c 49 (c 62 v3)) (c2 59 (c 62 v3 + 30)) 2 (c2 59 (4 * a1 + 2)))) 59 (4 * a1 + 3) (fal (c 49 (c 62 v3)) (c2 59 (c 62 v3 + 30)) 3 (c2 59 (4 * a1 + 3)))) 59 (4 * k9) = (fal (c 49 (c 62 v3)) (c2 59 (c 62 v3 + 30)) 0 (c2 59 (4 * a1))) := (congrArg ((up (up (up (up c2 59 (4 * a1) (fal (c 49 (c 62 v3)) (c2 59 (c 62 v3 + 30)) 0 (c2 59 (4 * a1)))) 59 (4 * a1 + 1) (fal (c 49 (c 62 v3)) (c2 59 (c 62 v3 + 30)) 1 (c2 59 (4 * a1 + 1)))) 59 (4 * a1 + 2) (fal (c 49 (c 62 v3)) (c2 59 (c 62 v3 + 30)) 2 (c2 59 (4 * a1 + 2)))) 59 (4 * a1 + 3) (fal (c 49 (c 62 v3)) (c2 59 (c 62 v3 + 30)) 3 (c2 59 (4 * a1 + 3)))) 59) (show 4 * k9 = 4 * a1 from by omega)).trans ((up_n ((ne_0a (ni rfl)))).trans ((up_n ((ne_0a (ni rfl)))).trans ((up_n ((ne_0a (ni rfl)))).trans (up_e rfl))))
          have h_67 : (up (up (up (up c2 59 (4 * a1) (fal (c 49 (c 62 v3)) (c2 59 (c 62 v3 + 30)) 0 (c2 59 (4 * a1)))) 59 (4 * a1 + 1) (fal (c 49 (c 62 v3)) (c2 59 (c 62 v3 + 30)) 1 (c2 59 (4 * a1 + 1)))) 59 (4 * a1 + 2) (fal (c 49 (c 62 v3)) (c2 59 (c 62 v3 + 30)) 2 (c2 59 (4 * a1 + 2)))) 59 (4 * a1 + 3) (fal (c 49 (c 62 v3)) (c2 59 (c 62 v3 + 30)) 3 (c2 59 (4 * a1 + 3)))) 59 (4 * k9 + 1) = (fal (c 49 (c 62 v3)) (c2 59 (c 62 v3 + 30)) 1 (c2 59 (4 * a1 + 1))) := (congrArg ((up (up (up (up c2 59 (4 * a1) (fal (c 49 (c 62 v3)) (c2 59 (c 62 v3 + 30)) 0 (c2 59 (4 * a1)))) 59 (4 * a1 + 1) (fal (c 49 (c 62 v3)) (c2 59 (c 62 v3 + 30)) 1 (c2 59 (4 * a1 + 1)))) 59 (4 * a1 + 2) (fal (c 49 (c 62 v3)) (c2 59 (c 62 v3 + 30)) 2 (c2 59 (4 * a1 + 2)))) 59 (4 * a1 + 3) (fal (c 49 (c 62 v3)) (c2 59 (c 62 v3 + 30)) 3 (c2 59 (4 * a1 + 3)))) 59) (show 4 * k9 + 1 = 4 * a1 + 1 from by omega)).trans ((up_n ((ne_aa (ni rfl)))).trans ((up_n ((ne_aa (ni rfl)))).trans (up_e rfl)))
          have h_68 : (up (up (up (up c2 59 (4 * a1) (fal (c 49 (c 62 v3)) (c2 59 (c 62 v3 + 30)) 0 (c2 59 (4 * a1)))) 59 (4 * a1 + 1) (fal (c 49 (c 62 v3)) (c2 59 (c 62 v3 + 30)) 1 (c2 59 (4 * a1 + 1)))) 59 (4 * a1 + 2) (fal (c 49 (c 62 v3)) (c2 59 (c 62 v3 + 30)) 2 (c2 59 (4 * a1 + 2)))) 59 (4 * a1 + 3) (fal (c 49 (c 62 v3)) (c2 59 (c 62 v3 + 30)) 3 (c2 59 (4 * a1 + 3)))) 59 (4 * k9 + 2) = (fal (c 49 (c 62 v3)) (c2 59 (c 62 v3 + 30)) 2 (c2 59 (4 * a1 + 2))) := (congrArg ((up (up (up (up c2 59 (4 * a1) (fal (c 49 (c 62 v3)) (c2 59 (c 62 v3 + 30)) 0 (c2 59 (4 * a1)))) 59 (4 * a1 + 1) (fal (c 49 (c 62 v3)) (c2 59 (c 62 v3 + 30)) 1 (c2 59 (4 * a1 + 1)))) 59 (4 * a1 + 2) (fal (c 49 (c 62 v3)) (c2 59 (c 62 v3 + 30)) 2 (c2 59 (4 * a1 + 2)))) 59 (4 * a1 + 3) (fal (c 49 (c 62 v3)) (c2 59 (c 62 v3 + 30)) 3 (c2 59 (4 * a1 + 3)))) 59) (show 4 * k9 + 2 = 4 * a1 + 2 from by omega)).trans ((up_n ((ne_aa (ni rfl)))).trans (up_e rfl))
          have h_69 : (up (up (up (up c2 59 (4 * a1) (fal (c 49 (c 62 v3)) (c2 59 (c 62 v3 + 30)) 0 (c2 59 (4 * a1)))) 59 (4 * a1 + 1) (fal (c 49 (c 62 v3)) (c2 59 (c 62 v3 + 30)) 1 (c2 59 (4 * a1 + 1)))) 59 (4 * a1 + 2) (fal (c 49 (c 62 v3)) (c2 59 (c 62 v3 + 30)) 2 (c2 59 (4 * a1 + 2)))) 59 (4 * a1 + 3) (fal (c 49 (c 62 v3)) (c2 59 (c 62 v3 + 30)) 3 (c2 59 (4 * a1 + 3)))) 59 (4 * k9 + 3) = (fal (c 49 (c 62 v3)) (c2 59 (c 62 v3 + 30)) 3 (c2 59 (4 * a1 + 3))) := (congrArg ((up (up (up (up c2 59 (4 * a1) (fal (c 49 (c 62 v3)) (c2 59 (c 62 v3 + 30)) 0 (c2 59 (4 * a1)))) 59 (4 * a1 + 1) (fal (c 49 (c 62 v3)) (c2 59 (c 62 v3 + 30)) 1 (c2 59 (4 * a1 + 1)))) 59 (4 * a1 + 2) (fal (c 49 (c 62 v3)) (c2 59 (c 62 v3 + 30)) 2 (c2 59 (4 * a1 + 2)))) 59 (4 * a1 + 3) (fal (c 49 (c 62 v3)) (c2 59 (c 62 v3 + 30)) 3 (c2 59 (4 * a1 + 3)))) 59) (show 4 * k9 + 3 = 4 * a1 + 3 from by omega)).trans (up_e rfl)
          omega
        have h_70 := iv_r hI2 59 (4 * k9) hj9 (by omega)
        have h_71 := ir_59_g hI2 (j := 4 * k9) ((q_9f1d5ffdc hk9))
        have h_72 : (up (up (up (up c2 59 (4 * a1) (fal (c 49 (c 62 v3)) (c2 59 (c 62 v3 + 30)) 0 (c2 59 (4 * a1)))) 59 (4 * a1 + 1) (fal (c 49 (c 62 v3)) (c2 59 (c 62 v3 + 30)) 1 (c2 59 (4 * a1 + 1)))) 59 (4 * a1 + 2) (fal (c 49 (c 62 v3)) (c2 59 (c 62 v3 + 30)) 2 (c2 59 (4 * a1 + 2)))) 59 (4 * a1 + 3) (fal (c 49 (c 62 v3)) (c2 59 (c 62 v3 + 30)) 3 (c2 59 (4 * a1 + 3)))) 59 (4 * k9) = c2 59 (4 * k9) := ((up_n ((q_8ac71c5f3))).trans ((up_n ((q_c037f51da))).trans ((up_n ((q_b2cb8bf87))).trans (up_n ((q_336fb6678 e_65))))))
        have h_73 := ir_59_g hI2 (j := 4 * k9 + 1) ((q_0a2ee6f8f hk9))
        have h_74 : (up (up (up (up c2 59 (4 * a1) (fal (c 49 (c 62 v3)) (c2 59 (c 62 v3 + 30)) 0 (c2 59 (4 * a1)))) 59 (4 * a1 + 1) (fal (c 49 (c 62 v3)) (c2 59 (c 62 v3 + 30)) 1 (c2 59 (4 * a1 + 1)))) 59 (4 * a1 + 2) (fal (c 49 (c 62 v3)) (c2 59 (c 62 v3 + 30)) 2 (c2 59 (4 * a1 + 2)))) 59 (4 * a1 + 3) (fal (c 49 (c 62 v3)) (c2 59 (c 62 v3 + 30)) 3 (c2 59 (4 * a1 + 3)))) 59 (4 * k9 + 1) = c2 59 (4 * k9 + 1) := ((up_n ((q_7c6b1b09a))).trans ((up_n ((q_3650b790c))).trans ((up_n ((q_52b51d728 e_65))).trans (up_n ((q_e5bcc673e))))))
        have h_75 := ir_59_g hI2 (j := 4 * k9 + 2) ((q_e07a293a2 hk9))
        have h_76 : (up (up (up (up c2 59 (4 * a1) (fal (c 49 (c 62 v3)) (c2 59 (c 62 v3 + 30)) 0 (c2 59 (4 * a1)))) 59 (4 * a1 + 1) (fal (c 49 (c 62 v3)) (c2 59 (c 62 v3 + 30)) 1 (c2 59 (4 * a1 + 1)))) 59 (4 * a1 + 2) (fal (c 49 (c 62 v3)) (c2 59 (c 62 v3 + 30)) 2 (c2 59 (4 * a1 + 2)))) 59 (4 * a1 + 3) (fal (c 49 (c 62 v3)) (c2 59 (c 62 v3 + 30)) 3 (c2 59 (4 * a1 + 3)))) 59 (4 * k9 + 2) = c2 59 (4 * k9 + 2) := ((up_n ((q_91c5bd343))).trans ((up_n ((q_27892e29e e_65))).trans ((up_n ((q_08c3d7060))).trans (up_n ((q_ae83e86ba))))))
        have h_77 := ir_59_g hI2 (j := 4 * k9 + 3) ((q_d09cb0b73 hk9))
        have h_78 : (up (up (up (up c2 59 (4 * a1) (fal (c 49 (c 62 v3)) (c2 59 (c 62 v3 + 30)) 0 (c2 59 (4 * a1)))) 59 (4 * a1 + 1) (fal (c 49 (c 62 v3)) (c2 59 (c 62 v3 + 30)) 1 (c2 59 (4 * a1 + 1)))) 59 (4 * a1 + 2) (fal (c 49 (c 62 v3)) (c2 59 (c 62 v3 + 30)) 2 (c2 59 (4 * a1 + 2)))) 59 (4 * a1 + 3) (fal (c 49 (c 62 v3)) (c2 59 (c 62 v3 + 30)) 3 (c2 59 (4 * a1 + 3)))) 59 (4 * k9 + 3) = c2 59 (4 * k9 + 3) := ((up_n ((q_2db9f474b e_65))).trans ((up_n ((q_28d70e8e5))).trans ((up_n ((q_6d5c6886e))).trans (up_n ((q_b6789388a))))))
        omega
      have hI_79 := iv_close hI_63 hr_64
      refine Wp_ls [(0, .ref 41), (1, vi a1), (2, vi a2), (3, vi (v3 + 1))] (lsub_cons rfl (lsub_cons rfl (lsub_cons rfl (lsub_cons rfl lsub_nil)))) ?_
      exact ih (up (up (up (up c2 59 (4 * a1) (fal (c 49 (c 62 v3)) (c2 59 (c 62 v3 + 30)) 0 (c2 59 (4 * a1)))) 59 (4 * a1 + 1) (fal (c 49 (c 62 v3)) (c2 59 (c 62 v3 + 30)) 1 (c2 59 (4 * a1 + 1)))) 59 (4 * a1 + 2) (fal (c 49 (c 62 v3)) (c2 59 (c 62 v3 + 30)) 2 (c2 59 (4 * a1 + 2)))) 59 (4 * a1 + 3) (fal (c 49 (c 62 v3)) (c2 59 (c 62 v3 + 30)) 3 (c2 59 (4 * a1 + 3)))) (v3 + 1) hI_79 (fun a j hm => (up_b (Decidable.or_iff_not_imp_left.mpr (fun h1 h2 => hm (Or.inr (Or.inr (Decidable.not_not.mp h1)))))).trans ((up_b (Decidable.or_iff_not_imp_left.mpr (fun h1 h2 => hm (Or.inr (Or.inr (Decidable.not_not.mp h1)))))).trans ((up_b (Decidable.or_iff_not_imp_left.mpr (fun h1 h2 => hm (Or.inr (Or.inr (Decidable.not_not.mp h1)))))).trans ((up_b (Decidable.or_iff_not_imp_left.mpr (fun h1 h2 => hm (Or.inr (Or.inr (Decidable.not_not.mp h1)))))).trans (hF a j hm))))) ⟨(rgp_l hv3.1 (of_decide_eq_true rfl)), by first | (clear ha1 ha2 hv3 hx0 hx1 h_1 h_3 h_4 h_5 h_6 hsum_2 h_51 h_53 h_55 h_56 h_58 h_60 h_62; omega) | omega⟩ (by first | (clear ha1 ha2 hv3 hx1 hx2 h_1 h_3 h_4 h_5 h_6 hsum_2 h_7 h_51 h_53 h_55 h_56 h_58 h_60 h_62; omega) | omega) ⟨by first | (clear ha1 ha2 hv3 hx0 hx2 h_1 h_3 h_4 h_5 h_6 hsum_2 h_7 h_51 h_53 h_55 h_56 h_58 h_60 h_62; omega) | omega, by first | (clear ha1 ha2 hv3 hx0 hx2 h_1 h_3 h_4 h_5 h_6 hsum_2 h_7 h_51 h_53 h_55 h_56 h_58 h_60 h_62; omega) | omega⟩ ⟨(q_1fe14b988 h_7 hv3), by first | (clear ha1 ha2 hv3 hx0 hx1 h_1 h_3 h_4 h_5 h_6 hsum_2 h_7 h_51 h_53 h_55 h_56 h_58 h_60 h_62; omega) | omega⟩ (by omega)
set_option maxRecDepth 100000 in
set_option maxHeartbeats 4000000 in
theorem s_221 {sc : List Int32} {d P Q : Nat} {c : ME} {a1 : Int} {a2 : Int} {Z : AR → Prop} (hI : Iv 0 (-1) P Q c) (ha1 : (-2147483648) ≤ a1 ∧ a1 ≤ 2147483647) (ha2 : (-2147483648) ≤ a2 ∧ a2 ≤ 2147483647) (K : ∀ (c2 : ME) (y : Int), Iv 0 (-1) P Q c2 → (∀ (a : Nat) (j : Int), ¬ ((a = 41 ∧ j = 0) ∨ a = 42 ∨ a = 59) → c2 a j = c a j) → (-2147483648) ≤ y ∧ y ≤ 2147483647 → Z (.inl (some (vi y)), Wd P Q P P c2, 0, 0)) : Wp sc (d + 9) 221 0 [(0, .ref 41), (1, vi a1), (2, vi a2)] [] (Wd P Q P P c) 0 0 Z := by
  have hP := iv_P hI
  have hQ := iv_Q hI
  refine q_aload_n c_221_0 rfl (q_iconst c_221_1 (v_pi (z := 0) c_221_2 kf_8_3 rfl (Nat.le_of_ble_eq_true rfl) rfl rfl rfl (of_decide_eq_true rfl) (q_aload_n c_221_5 rfl (q_iload_n c_221_6 rfl (q_aload_n c_221_7 rfl ?_)))))
  have h_80 := ir_41_20 hI
  refine v_gi (z := 20) (v := c 41 20) c_221_8 kf_8_157 rfl (Nat.le_of_ble_eq_true rfl) rfl rfl (up_n (ni rfl)) (v_cv c_221_11 km_8_396 rfl rfl (Nat.le_of_ble_eq_true rfl) ⟨⟨rfl, rfl⟩, Nat.le_of_ble_eq_true rfl, rfl⟩ (Nat.le_of_ble_eq_true rfl) (Nat.le_of_ble_eq_true rfl) (q_aload_n c_212_0 rfl (q_iload_n c_212_1 rfl (q_iconst c_212_2 (q_iload_n c_212_3 rfl (q_iconst c_212_4 (v_isub (v := c 41 20 - 1) c_212_5 rfl ?_)))))))
  refine q_call c_212_6 rfl rfl rfl (q_iload_n c_146_0 rfl (q_iload_n c_146_1 rfl ?_))
  by_cases h_81 : a1 < 0
  · refine v_ic_lt_t (t := 14) c_146_2 rfl ⟨ha1.1, h_81, of_decide_eq_true rfl⟩ (q_iconst c_146_14 (v_zret c_146_15 rfl (of_decide_eq_true rfl) (bk_inl (q_iconst c_212_9 (q_iconst c_212_10 (v_cv c_212_11 km_8_203 rfl rfl (Nat.le_of_ble_eq_true rfl) ⟨⟨rfl, rfl⟩, Nat.le_of_ble_eq_true rfl, rfl⟩ (Nat.le_of_ble_eq_true rfl) (Nat.le_of_ble_eq_true rfl) (q_iload_n c_145_0 rfl ?_)))))))
    refine v_if_ne_f (t := 26) c_145_1 rfl (of_decide_eq_true rfl) (q_aload_n c_145_4 rfl (v_gi (z := 0) (v := 0) c_145_5 kf_8_3 rfl (Nat.le_of_ble_eq_true rfl) rfl rfl (up_e rfl) (v_if_ne_f (t := 26) c_145_8 rfl (of_decide_eq_true rfl) (q_aload_n c_145_11 rfl (q_iload_n c_145_12 rfl (v_pi (z := 0) c_145_13 kf_8_3 rfl (Nat.le_of_ble_eq_true rfl) rfl rfl rfl (of_decide_eq_true rfl) (q_aload_n c_145_16 rfl ?_)))))))
    refine v_gr (t := 42) c_145_17 kf_8_7 rfl (Nat.le_of_ble_eq_true rfl) rfl (q_iload_n c_145_20 rfl (q_dup2 c_145_21 ⟨rfl, rfl⟩ ?_))
    have h_82 := ir_42 hI 0
    refine v_ia (v := c 42 0) c_145_22 rfl (of_decide_eq_true rfl) (of_decide_eq_true rfl) (of_decide_eq_true rfl) ((up_c (nn rfl)).trans (up_c (nn rfl))) (q_iconst c_145_23 (v_iadd (v := c 42 0 + 1) c_145_24 rfl (v_nrm (fun y_83 hy_83 => (v_is c_145_25 rfl (of_decide_eq_true rfl) (of_decide_eq_true rfl) (of_decide_eq_true rfl) (q_aload_n c_145_26 rfl (v_gi (z := 0) (v := 1) c_145_27 kf_8_3 rfl (Nat.le_of_ble_eq_true rfl) rfl rfl ((up_c (nn rfl)).trans (up_e rfl)) (v_if_ne_t (t := 37) c_145_30 rfl (of_decide_eq_true rfl) ?_))))))))
    refine q_iconst c_145_37 (v_zret c_145_38 rfl (of_decide_eq_true rfl) (bk_inl (v_zret c_212_14 rfl (of_decide_eq_true rfl) (bk_inl (v_if_eq_t (t := 35) c_221_14 rfl (of_decide_eq_true rfl) (q_iconst c_221_35 (q_iret c_221_36 rfl ?_)))))))
    have hI_84 := iw_41_0 (v := 0) hI ⟨of_decide_eq_true rfl, of_decide_eq_true rfl⟩
    have hI_85 := iw_41_0 (v := 1) hI_84 ⟨of_decide_eq_true rfl, of_decide_eq_true rfl⟩
    have hI_86 := iw_42 (j := 0) (v := y_83) hI_85 ⟨hy_83.1, hy_83.2⟩
    exact K (up (up (up c 41 0 0) 41 0 1) 42 0 y_83) 0 hI_86 (fun a j hm => (up_b (Decidable.or_iff_not_imp_left.mpr (fun h1 h2 => hm (Or.inr (Or.inl (Decidable.not_not.mp h1)))))).trans ((up_b (Decidable.or_iff_not_imp_left.mpr (fun h1 h2 => hm (Or.inl ⟨Decidable.not_not.mp h1, h2⟩)))).trans (up_b (Decidable.or_iff_not_imp_left.mpr (fun h1 h2 => hm (Or.inl ⟨Decidable.not_not.mp h1, h2⟩)))))) ⟨of_decide_eq_true rfl, of_decide_eq_true rfl⟩
  · refine v_ic_lt_f (t := 14) c_146_2 rfl ⟨of_decide_eq_true rfl, (Int.not_lt.mp h_81), ha1.2⟩ (q_iload_n c_146_5 rfl (q_iload_n c_146_6 rfl ?_))
    by_cases h_87 : a1 > c 41 20 - 1
    · refine v_ic_gt_t (t := 14) c_146_7 rfl ⟨(rgm_l h_80.1 (of_decide_eq_true rfl)), h_87, ha1.2⟩ (q_iconst c_146_14 (v_zret c_146_15 rfl (of_decide_eq_true rfl) (bk_inl (q_iconst c_212_9 (q_iconst c_212_10 (v_cv c_212_11 km_8_203 rfl rfl (Nat.le_of_ble_eq_true rfl) ⟨⟨rfl, rfl⟩, Nat.le_of_ble_eq_true rfl, rfl⟩ (Nat.le_of_ble_eq_true rfl) (Nat.le_of_ble_eq_true rfl) (q_iload_n c_145_0 rfl ?_)))))))
      refine v_if_ne_f (t := 26) c_145_1 rfl (of_decide_eq_true rfl) (q_aload_n c_145_4 rfl (v_gi (z := 0) (v := 0) c_145_5 kf_8_3 rfl (Nat.le_of_ble_eq_true rfl) rfl rfl (up_e rfl) (v_if_ne_f (t := 26) c_145_8 rfl (of_decide_eq_true rfl) (q_aload_n c_145_11 rfl (q_iload_n c_145_12 rfl (v_pi (z := 0) c_145_13 kf_8_3 rfl (Nat.le_of_ble_eq_true rfl) rfl rfl rfl (of_decide_eq_true rfl) (q_aload_n c_145_16 rfl ?_)))))))
      refine v_gr (t := 42) c_145_17 kf_8_7 rfl (Nat.le_of_ble_eq_true rfl) rfl (q_iload_n c_145_20 rfl (q_dup2 c_145_21 ⟨rfl, rfl⟩ ?_))
      have h_88 := ir_42 hI 0
      refine v_ia (v := c 42 0) c_145_22 rfl (of_decide_eq_true rfl) (of_decide_eq_true rfl) (of_decide_eq_true rfl) ((up_c (nn rfl)).trans (up_c (nn rfl))) (q_iconst c_145_23 (v_iadd (v := c 42 0 + 1) c_145_24 rfl (v_nrm (fun y_89 hy_89 => (v_is c_145_25 rfl (of_decide_eq_true rfl) (of_decide_eq_true rfl) (of_decide_eq_true rfl) (q_aload_n c_145_26 rfl (v_gi (z := 0) (v := 1) c_145_27 kf_8_3 rfl (Nat.le_of_ble_eq_true rfl) rfl rfl ((up_c (nn rfl)).trans (up_e rfl)) (v_if_ne_t (t := 37) c_145_30 rfl (of_decide_eq_true rfl) ?_))))))))
      refine q_iconst c_145_37 (v_zret c_145_38 rfl (of_decide_eq_true rfl) (bk_inl (v_zret c_212_14 rfl (of_decide_eq_true rfl) (bk_inl (v_if_eq_t (t := 35) c_221_14 rfl (of_decide_eq_true rfl) (q_iconst c_221_35 (q_iret c_221_36 rfl ?_)))))))
      have hI_90 := iw_41_0 (v := 0) hI ⟨of_decide_eq_true rfl, of_decide_eq_true rfl⟩
      have hI_91 := iw_41_0 (v := 1) hI_90 ⟨of_decide_eq_true rfl, of_decide_eq_true rfl⟩
      have hI_92 := iw_42 (j := 0) (v := y_89) hI_91 ⟨hy_89.1, hy_89.2⟩
      exact K (up (up (up c 41 0 0) 41 0 1) 42 0 y_89) 0 hI_92 (fun a j hm => (up_b (Decidable.or_iff_not_imp_left.mpr (fun h1 h2 => hm (Or.inr (Or.inl (Decidable.not_not.mp h1)))))).trans ((up_b (Decidable.or_iff_not_imp_left.mpr (fun h1 h2 => hm (Or.inl ⟨Decidable.not_not.mp h1, h2⟩)))).trans (up_b (Decidable.or_iff_not_imp_left.mpr (fun h1 h2 => hm (Or.inl ⟨Decidable.not_not.mp h1, h2⟩)))))) ⟨of_decide_eq_true rfl, of_decide_eq_true rfl⟩
    · refine v_ic_gt_f (t := 14) c_146_7 rfl ⟨ha1.1, (Int.not_lt.mp h_87), (rgm_h h_80.2 (of_decide_eq_true rfl))⟩ (q_iconst c_146_10 (q_goto (t := 15) c_146_11 rfl (v_zret c_146_15 rfl (of_decide_eq_true rfl) (bk_inl (q_iconst c_212_9 (q_iconst c_212_10 (v_cv c_212_11 km_8_203 rfl rfl (Nat.le_of_ble_eq_true rfl) ⟨⟨rfl, rfl⟩, Nat.le_of_ble_eq_true rfl, rfl⟩ (Nat.le_of_ble_eq_true rfl) (Nat.le_of_ble_eq_true rfl) ?_)))))))
      refine q_iload_n c_145_0 rfl (v_if_ne_t (t := 26) c_145_1 rfl (of_decide_eq_true rfl) (q_aload_n c_145_26 rfl (v_gi (z := 0) (v := 0) c_145_27 kf_8_3 rfl (Nat.le_of_ble_eq_true rfl) rfl rfl (up_e rfl) (v_if_ne_f (t := 37) c_145_30 rfl (of_decide_eq_true rfl) (q_iconst c_145_33 (q_goto (t := 38) c_145_34 rfl (v_zret c_145_38 rfl (of_decide_eq_true rfl) ?_)))))))
      refine bk_inl (v_zret c_212_14 rfl (of_decide_eq_true rfl) (bk_inl (v_if_eq_f (t := 35) c_221_14 rfl (of_decide_eq_true rfl) (q_aload_n c_221_17 rfl (q_iload_n c_221_18 rfl ?_)))))
      by_cases h_93 : a2 < 0
      · refine v_if_lt_t (t := 26) c_221_19 rfl ⟨ha2.1, h_93, of_decide_eq_true rfl⟩ (q_iconst c_221_26 (q_iconst c_221_27 (q_iconst c_221_28 (v_cv c_221_29 km_8_203 rfl rfl (Nat.le_of_ble_eq_true rfl) ⟨⟨rfl, rfl⟩, Nat.le_of_ble_eq_true rfl, rfl⟩ (Nat.le_of_ble_eq_true rfl) (Nat.le_of_ble_eq_true rfl) (q_iload_n c_145_0 rfl (v_if_ne_f (t := 26) c_145_1 rfl (of_decide_eq_true rfl) (q_aload_n c_145_4 rfl ?_)))))))
        refine v_gi (z := 0) (v := 0) c_145_5 kf_8_3 rfl (Nat.le_of_ble_eq_true rfl) rfl rfl (up_e rfl) (v_if_ne_f (t := 26) c_145_8 rfl (of_decide_eq_true rfl) (q_aload_n c_145_11 rfl (q_iload_n c_145_12 rfl (v_pi (z := 0) c_145_13 kf_8_3 rfl (Nat.le_of_ble_eq_true rfl) rfl rfl rfl (of_decide_eq_true rfl) (q_aload_n c_145_16 rfl (v_gr (t := 42) c_145_17 kf_8_7 rfl (Nat.le_of_ble_eq_true rfl) rfl (q_iload_n c_145_20 rfl ?_)))))))
        refine q_dup2 c_145_21 ⟨rfl, rfl⟩ ?_
        have h_94 := ir_42 hI 1
        refine v_ia (v := c 42 1) c_145_22 rfl (of_decide_eq_true rfl) (of_decide_eq_true rfl) (of_decide_eq_true rfl) ((up_c (nn rfl)).trans (up_c (nn rfl))) (q_iconst c_145_23 (v_iadd (v := c 42 1 + 1) c_145_24 rfl (v_nrm (fun y_95 hy_95 => (v_is c_145_25 rfl (of_decide_eq_true rfl) (of_decide_eq_true rfl) (of_decide_eq_true rfl) (q_aload_n c_145_26 rfl (v_gi (z := 0) (v := 2) c_145_27 kf_8_3 rfl (Nat.le_of_ble_eq_true rfl) rfl rfl ((up_c (nn rfl)).trans (up_e rfl)) (v_if_ne_t (t := 37) c_145_30 rfl (of_decide_eq_true rfl) ?_))))))))
        refine q_iconst c_145_37 (v_zret c_145_38 rfl (of_decide_eq_true rfl) (bk_inl (v_if_ne_f (t := 37) c_221_32 rfl (of_decide_eq_true rfl) (q_iconst c_221_35 (q_iret c_221_36 rfl ?_)))))
        have hI_96 := iw_41_0 (v := 0) hI ⟨of_decide_eq_true rfl, of_decide_eq_true rfl⟩
        have hI_97 := iw_41_0 (v := 2) hI_96 ⟨of_decide_eq_true rfl, of_decide_eq_true rfl⟩
        have hI_98 := iw_42 (j := 1) (v := y_95) hI_97 ⟨hy_95.1, hy_95.2⟩
        exact K (up (up (up c 41 0 0) 41 0 2) 42 1 y_95) 0 hI_98 (fun a j hm => (up_b (Decidable.or_iff_not_imp_left.mpr (fun h1 h2 => hm (Or.inr (Or.inl (Decidable.not_not.mp h1)))))).trans ((up_b (Decidable.or_iff_not_imp_left.mpr (fun h1 h2 => hm (Or.inl ⟨Decidable.not_not.mp h1, h2⟩)))).trans (up_b (Decidable.or_iff_not_imp_left.mpr (fun h1 h2 => hm (Or.inl ⟨Decidable.not_not.mp h1, h2⟩)))))) ⟨of_decide_eq_true rfl, of_decide_eq_true rfl⟩
      · refine v_if_lt_f (t := 26) c_221_19 rfl ⟨of_decide_eq_true rfl, (Int.not_lt.mp h_93), ha2.2⟩ (q_iconst c_221_22 (q_goto (t := 27) c_221_23 rfl (q_iconst c_221_27 (q_iconst c_221_28 (v_cv c_221_29 km_8_203 rfl rfl (Nat.le_of_ble_eq_true rfl) ⟨⟨rfl, rfl⟩, Nat.le_of_ble_eq_true rfl, rfl⟩ (Nat.le_of_ble_eq_true rfl) (Nat.le_of_ble_eq_true rfl) (q_iload_n c_145_0 rfl (v_if_ne_t (t := 26) c_145_1 rfl (of_decide_eq_true rfl) ?_)))))))
        refine q_aload_n c_145_26 rfl (v_gi (z := 0) (v := 0) c_145_27 kf_8_3 rfl (Nat.le_of_ble_eq_true rfl) rfl rfl (up_e rfl) (v_if_ne_f (t := 37) c_145_30 rfl (of_decide_eq_true rfl) (q_iconst c_145_33 (q_goto (t := 38) c_145_34 rfl (v_zret c_145_38 rfl (of_decide_eq_true rfl) (bk_inl (v_if_ne_t (t := 37) c_221_32 rfl (of_decide_eq_true rfl) ?_)))))))
        refine q_iload_n c_221_37 rfl (q_aload_n c_221_38 rfl ?_)
        have h_99 := ir_41_47 hI
        refine v_gi (z := 47) (v := c 41 47) c_221_39 kf_8_176 rfl (Nat.le_of_ble_eq_true rfl) rfl rfl (up_n (ni rfl)) ?_
        by_cases h_100 : a2 ≤ c 41 47
        · refine v_ic_le_t (t := 47) c_221_42 rfl ⟨ha2.1, h_100, (ler h_99.2 rfl)⟩ (q_aload_n c_221_47 rfl ?_)
          have hI_101 := iw_41_0 (v := 0) hI ⟨of_decide_eq_true rfl, of_decide_eq_true rfl⟩
          refine v_cv c_221_48 km_8_317 rfl rfl (Nat.le_of_ble_eq_true rfl) ⟨⟨rfl, rfl⟩, Nat.le_of_ble_eq_true rfl, rfl⟩ (Nat.le_of_ble_eq_true rfl) (Nat.le_of_ble_eq_true rfl) (s_186 hI_101 (fun c_102 hI_103 hF_104 => (bk_inl (q_iconst c_221_51 (q_istore_n c_221_52 (Nat.le_of_ble_eq_true rfl) (Wp_ls [(0, .ref 41), (1, vi a1), (2, vi a2), (3, vi 0)] (lsub_cons rfl (lsub_cons rfl (lsub_cons rfl (lsub_cons rfl lsub_nil)))) ?_))))))
          exact (s_221_l (sc := sc) (d := d) hI ha1 ha2 K 20) c_102 0 hI_103 (fun a j hm => (hF_104 a j (fun h => hm (Or.inr (Or.inr h)))).trans (up_b (Decidable.or_iff_not_imp_left.mpr (fun h1 h2 => hm (Or.inl ⟨Decidable.not_not.mp h1, h2⟩))))) ⟨of_decide_eq_true rfl, of_decide_eq_true rfl⟩ ((q_514734711 h_100)) ⟨(q_720657ba9 h_81), (q_3a2e67ab0 h_80 h_87)⟩ ⟨(q_720657ba9 h_93), (q_a093e8b4d h_100 h_99)⟩ (by omega)
        · refine v_ic_le_f (t := 47) c_221_42 rfl ⟨(lel h_99.1 rfl), (Int.not_le.mp h_100), ha2.2⟩ (q_iconst c_221_45 (q_iret c_221_46 rfl ?_))
          have hI_105 := iw_41_0 (v := 0) hI ⟨of_decide_eq_true rfl, of_decide_eq_true rfl⟩
          exact K (up c 41 0 0) (-1) hI_105 (fun a j hm => up_b (Decidable.or_iff_not_imp_left.mpr (fun h1 h2 => hm (Or.inl ⟨Decidable.not_not.mp h1, h2⟩)))) ⟨of_decide_eq_true rfl, of_decide_eq_true rfl⟩

set_option maxRecDepth 100000 in
set_option maxHeartbeats 4000000 in
theorem s_223_l {sc : List Int32} {e : Int} {d u P Q : Nat} {c : ME} {a1 : Int} {Z : AR → Prop} (hI : Iv u e P Q c) (ha1 : (-2147483648) ≤ a1 ∧ a1 ≤ 2147483647) (K : ∀ (y : Int), (-2147483648) ≤ y ∧ y ≤ 2147483647 → Z (.inl (some (vi y)), Wd P Q P P c, 0, 0)) : ∀ n : Nat, (∀ (v2 : Int) (v3 : Int), (-2147483648) ≤ v2 ∧ v2 ≤ 2147483647 → 0 ≤ v3 ∧ v3 ≤ 6 → 13 - 2 * v3 < (n : Int) → Wp sc (d + 8) 223 4 [(0, .ref 41), (1, vi a1), (2, vi v2), (3, vi v3)] [] (Wd P Q P P c) 0 0 Z) := by
  intro n
  induction n with
  | zero => exact (by intro v2 v3 hv2 hv3 hm9; have hP := iv_P hI; have hQ := iv_Q hI; exfalso; omega)
  | succ n ih =>
    have hP := iv_P hI
    have hQ := iv_Q hI
    intro v2 v3 hv2 hv3 hm9
    refine q_iload_n c_223_4 rfl (q_aload_n c_223_5 rfl ?_)
    have h_1 := ir_41_20 hI
    refine v_gi (z := 20) (v := c 41 20) c_223_6 kf_8_157 rfl (Nat.le_of_ble_eq_true rfl) rfl rfl rfl ?_
    by_cases h_2 : v3 ≥ c 41 20
    · refine v_ic_ge_t (t := 32) c_223_9 rfl ⟨(lel h_1.1 rfl), h_2, (ler hv3.2 rfl)⟩ (q_iload_n c_223_32 rfl (q_iret c_223_33 rfl ?_))
      exact K v2 hv2
    · refine v_ic_ge_f (t := 32) c_223_9 rfl ⟨(lel hv3.1 rfl), (Int.not_le.mp h_2), (ler h_1.2 rfl)⟩ (q_iload_n c_223_12 rfl (q_iload_n c_223_13 rfl (q_iload_n c_223_14 rfl (v_ishrx c_223_15 (fun y_3 hy_3 => (q_iconst c_223_16 (v_iandx c_223_17 (fun y_4 hy_4 => (q_aload_n c_223_18 rfl ?_)))))))))
      refine q_iload_n c_223_19 rfl ?_
      have h_5 := ir_59_g hI (j := 4 * v3) ((q_aa51b186e h_1 h_2))
      have h_6 := ir_59_g hI (j := 4 * v3 + 1) ((q_57851f9de h_1 h_2))
      have h_7 := ir_59_g hI (j := 4 * v3 + 2) ((q_7296e74e6 h_1 h_2))
      have h_8 := ir_59_g hI (j := 4 * v3 + 3) ((q_b15525c4c h_1 h_2))
      refine v_cv c_223_20 km_8_343 rfl rfl (Nat.le_of_ble_eq_true rfl) ⟨⟨rfl, rfl⟩, Nat.le_of_ble_eq_true rfl, rfl⟩ (Nat.le_of_ble_eq_true rfl) (Nat.le_of_ble_eq_true rfl) (s_187 (v1 := c 59 (4 * v3)) (v2 := c 59 (4 * v3 + 1)) (v3 := c 59 (4 * v3 + 2)) (v4 := c 59 (4 * v3 + 3)) (r := c 59 (4 * v3 + 1) + c 59 (4 * v3 + 2) + c 59 (4 * v3 + 3) + c 59 (4 * v3)) (a1 := v3) hI (show 0 ≤ v3 ∧ v3 ≤ 5 from ⟨hv3.1, (q_d63a8538e h_1 h_2)⟩) (rfl) (rfl) (rfl) (rfl) (by omega) (bk_inl (v_imul (v := (y_4 * (c 59 (4 * v3 + 1) + c 59 (4 * v3 + 2) + c 59 (4 * v3 + 3) + c 59 (4 * v3)))) rfl rfl (v_nrm (fun y_9 hy_9 => (v_iadd (v := v2 + y_9) c_223_24 rfl (v_nrm (fun y_10 hy_10 => (q_istore_n c_223_25 (Nat.le_of_ble_eq_true rfl) (v_iinc (v := v3 + 1) c_223_26 rfl (Nat.le_of_ble_eq_true rfl) rfl ?_))))))))))
      refine q_goto (t := 4) c_223_29 rfl (Wp_ls [(0, .ref 41), (1, vi a1), (2, vi y_10), (3, vi (v3 + 1))] (lsub_cons rfl (lsub_cons rfl (lsub_cons rfl (lsub_cons rfl lsub_nil)))) ?_)
      exact ih y_10 (v3 + 1) hy_10 ⟨(rgp_l hv3.1 (of_decide_eq_true rfl)), (q_4a76cd9c7 h_1 h_2)⟩ (by omega)
set_option maxRecDepth 100000 in
set_option maxHeartbeats 4000000 in
theorem s_223 {sc : List Int32} {e : Int} {d u P Q : Nat} {c : ME} {a1 : Int} {Z : AR → Prop} (hI : Iv u e P Q c) (ha1 : (-2147483648) ≤ a1 ∧ a1 ≤ 2147483647) (K : ∀ (y : Int), (-2147483648) ≤ y ∧ y ≤ 2147483647 → Z (.inl (some (vi y)), Wd P Q P P c, 0, 0)) : Wp sc (d + 8) 223 0 [(0, .ref 41), (1, vi a1)] [] (Wd P Q P P c) 0 0 Z := by
  have hP := iv_P hI
  have hQ := iv_Q hI
  refine q_iconst c_223_0 (q_istore_n c_223_1 (Nat.le_of_ble_eq_true rfl) (q_iconst c_223_2 (q_istore_n c_223_3 (Nat.le_of_ble_eq_true rfl) (Wp_ls [(0, .ref 41), (1, vi a1), (2, vi 0), (3, vi 0)] (lsub_cons rfl (lsub_cons rfl (lsub_cons rfl (lsub_cons rfl lsub_nil)))) ?_))))
  exact (s_223_l (sc := sc) (d := d) hI ha1 K 16) 0 0 ⟨of_decide_eq_true rfl, of_decide_eq_true rfl⟩ ⟨of_decide_eq_true rfl, of_decide_eq_true rfl⟩ (by omega)

set_option maxRecDepth 100000 in
set_option maxHeartbeats 4000000 in
theorem s_224_l {sc : List Int32} {e : Int} {d u P Q : Nat} {c : ME} {a1 : Int} {Z : AR → Prop} (hI : Iv u e P Q c) (ha1 : (-2147483648) ≤ a1 ∧ a1 ≤ 2147483647) (K : ∀ (c2 : ME) (y : Int), Iv u e P Q c2 → (∀ (a : Nat) (j : Int), ¬ (a = 54 ∨ a = 55) → c2 a j = c a j) → (-2147483648) ≤ y ∧ y ≤ 2147483647 → Z (.inl (some (vi y)), Wd P Q P P c2, 0, 0)) : ∀ n : Nat, (∀ (c2 : ME) (v2 : Int) (v3 : Int), Iv u e P Q c2 → (∀ (a : Nat) (j : Int), ¬ (a = 54 ∨ a = 55) → c2 a j = c a j) → (-2147483648) ≤ v2 ∧ v2 ≤ 2147483647 → 0 ≤ v3 ∧ v3 ≤ 6 → 13 - 2 * v3 < (n : Int) → Wp sc (d + 12) 224 4 [(0, .ref 41), (1, vi a1), (2, vi v2), (3, vi v3)] [] (Wd P Q P P c2) 0 0 Z) := by
  intro n
  induction n with
  | zero => exact (by intro c2 v2 v3 hI2 hF hv2 hv3 hm9; have hP := iv_P hI; have hQ := iv_Q hI; exfalso; omega)
  | succ n ih =>
    have hP := iv_P hI
    have hQ := iv_Q hI
    intro c2 v2 v3 hI2 hF hv2 hv3 hm9
    refine q_iload_n c_224_4 rfl (q_aload_n c_224_5 rfl ?_)
    have h_1 := ir_41_20 hI
    have kn_2 : Hid (c2 41 20 = c 41 20) := hF 41 20 (fun q => q.elim (fun h => absurd h (nn rfl)) (fun h => absurd h (nn rfl)))
    refine v_gi (z := 20) (v := c 41 20) c_224_6 kf_8_157 rfl (Nat.le_of_ble_eq_true rfl) rfl rfl (hid kn_2) ?_
    by_cases h_3 : v3 ≥ c 41 20
    · refine v_ic_ge_t (t := 32) c_224_9 rfl ⟨(q_730ab5169 h_1), h_3, (ler hv3.2 rfl)⟩ (q_iload_n c_224_32 rfl (q_iret c_224_33 rfl ?_))
      exact K c2 v2 hI2 (fun a j hm => hF a j hm) hv2
    · refine v_ic_ge_f (t := 32) c_224_9 rfl ⟨(lel hv3.1 rfl), (Int.not_le.mp h_3), (q_b289b7db2 h_1)⟩ (q_iload_n c_224_12 rfl (q_iload_n c_224_13 rfl (q_iload_n c_224_14 rfl (v_ishrx c_224_15 (fun y_4 hy_4 => (q_iconst c_224_16 (v_iandx c_224_17 (fun y_5 hy_5 => (q_aload_n c_224_18 rfl ?_)))))))))
      refine q_iload_n c_224_19 rfl (v_cv c_224_20 km_8_375 rfl rfl (Nat.le_of_ble_eq_true rfl) ⟨⟨rfl, rfl⟩, Nat.le_of_ble_eq_true rfl, rfl⟩ (Nat.le_of_ble_eq_true rfl) (Nat.le_of_ble_eq_true rfl) (s_196 (a1 := v3) hI2 (show 0 ≤ v3 ∧ v3 ≤ 5 from ⟨hv3.1, (q_d63a8538e h_1 h_3)⟩) (fun c_6 y_9 hI_7 hF_8 hy_9 => (bk_inl (v_imul (v := (y_5 * y_9)) c_224_23 rfl (v_nrm (fun y_10 hy_10 => (v_iadd (v := v2 + y_10) c_224_24 rfl (v_nrm (fun y_11 hy_11 => (q_istore_n c_224_25 (Nat.le_of_ble_eq_true rfl) ?_)))))))))))
      refine v_iinc (v := v3 + 1) c_224_26 rfl (Nat.le_of_ble_eq_true rfl) rfl (q_goto (t := 4) c_224_29 rfl (Wp_ls [(0, .ref 41), (1, vi a1), (2, vi y_11), (3, vi (v3 + 1))] (lsub_cons rfl (lsub_cons rfl (lsub_cons rfl (lsub_cons rfl lsub_nil)))) ?_))
      exact ih c_6 y_11 (v3 + 1) hI_7 (fun a j hm => (hF_8 a j hm).trans (hF a j hm)) hy_11 ⟨(rgp_l hv3.1 (of_decide_eq_true rfl)), (q_4a76cd9c7 h_1 h_3)⟩ (by omega)
set_option maxRecDepth 100000 in
set_option maxHeartbeats 4000000 in
theorem s_224 {sc : List Int32} {e : Int} {d u P Q : Nat} {c : ME} {a1 : Int} {Z : AR → Prop} (hI : Iv u e P Q c) (ha1 : (-2147483648) ≤ a1 ∧ a1 ≤ 2147483647) (K : ∀ (c2 : ME) (y : Int), Iv u e P Q c2 → (∀ (a : Nat) (j : Int), ¬ (a = 54 ∨ a = 55) → c2 a j = c a j) → (-2147483648) ≤ y ∧ y ≤ 2147483647 → Z (.inl (some (vi y)), Wd P Q P P c2, 0, 0)) : Wp sc (d + 12) 224 0 [(0, .ref 41), (1, vi a1)] [] (Wd P Q P P c) 0 0 Z := by
  have hP := iv_P hI
  have hQ := iv_Q hI
  refine q_iconst c_224_0 (q_istore_n c_224_1 (Nat.le_of_ble_eq_true rfl) (q_iconst c_224_2 (q_istore_n c_224_3 (Nat.le_of_ble_eq_true rfl) (Wp_ls [(0, .ref 41), (1, vi a1), (2, vi 0), (3, vi 0)] (lsub_cons rfl (lsub_cons rfl (lsub_cons rfl (lsub_cons rfl lsub_nil)))) ?_))))
  exact (s_224_l (sc := sc) (d := d) hI ha1 K 16) c 0 0 hI (fun a j hm => rfl) ⟨of_decide_eq_true rfl, of_decide_eq_true rfl⟩ ⟨of_decide_eq_true rfl, of_decide_eq_true rfl⟩ (by omega)

set_option maxRecDepth 100000 in
set_option maxHeartbeats 4000000 in
theorem s_226 {sc : List Int32} {e : Int} {d u P Q : Nat} {c : ME} {a1 : Int} {a2 : Int} {Z : AR → Prop} (hI : Iv u e P Q c) (ha1 : (-2147483648) ≤ a1 ∧ a1 ≤ 2147483647) (ha2 : (-2147483648) ≤ a2 ∧ a2 ≤ 2147483647) (K : ∀ (y : Int), (-2147483648) ≤ y ∧ y ≤ 2147483647 → Z (.inl (some (vi y)), Wd P Q P P c, 0, 0)) : Wp sc (d + 9) 226 0 [(0, .ref 41), (1, vi a1), (2, vi a2)] [] (Wd P Q P P c) 0 0 Z := by
  have hP := iv_P hI
  have hQ := iv_Q hI
  refine q_iconst c_226_0 (q_aload_n c_226_1 rfl (q_iload_n c_226_2 rfl (v_cv c_226_3 km_8_408 rfl rfl (Nat.le_of_ble_eq_true rfl) ⟨⟨rfl, rfl⟩, Nat.le_of_ble_eq_true rfl, rfl⟩ (Nat.le_of_ble_eq_true rfl) (Nat.le_of_ble_eq_true rfl) (s_223 (a1 := a2) hI (show (-2147483648) ≤ a2 ∧ a2 ≤ 2147483647 from ha2) (fun y_1 hy_1 => (bk_inl (v_imul (v := 2 * y_1) c_226_6 rfl (v_nrm (fun y_2 hy_2 => (q_aload_n c_226_7 rfl ?_))))))))))
  refine q_iload_n c_226_8 rfl (v_cv c_226_9 km_8_408 rfl rfl (Nat.le_of_ble_eq_true rfl) ⟨⟨rfl, rfl⟩, Nat.le_of_ble_eq_true rfl, rfl⟩ (Nat.le_of_ble_eq_true rfl) (Nat.le_of_ble_eq_true rfl) (s_223 (a1 := a1) hI (show (-2147483648) ≤ a1 ∧ a1 ≤ 2147483647 from ha1) (fun y_3 hy_3 => (bk_inl (v_isub (v := y_2 - y_3) c_226_12 rfl (v_nrm (fun y_4 hy_4 => (q_call c_226_13 rfl rfl rfl (q_iload_n c_225_0 rfl ?_)))))))))
  by_cases h_5 : y_4 ≥ 0
  · refine v_if_ge_t (t := 9) c_225_1 rfl ⟨of_decide_eq_true rfl, h_5, hy_4.2⟩ (q_iload_n c_225_9 rfl (q_iret c_225_10 rfl (bk_inl (q_iret c_226_16 rfl ?_))))
    exact K y_4 hy_4
  · refine v_if_ge_f (t := 9) c_225_1 rfl ⟨hy_4.1, (Int.not_le.mp h_5), of_decide_eq_true rfl⟩ (q_iload_n c_225_4 rfl (v_ineg (v := 0 - y_4) c_225_5 (by omega) (v_nrm (fun y_6 hy_6 => (q_goto (t := 10) c_225_6 rfl (q_iret c_225_10 rfl (bk_inl (q_iret c_226_16 rfl ?_))))))))
    exact K y_6 hy_6

set_option maxRecDepth 100000 in
set_option maxHeartbeats 4000000 in
theorem s_227_l {sc : List Int32} {d P Q : Nat} {c : ME} {a1 : Int} {a2 : Int} {Z : AR → Prop} (hI : Iv 0 (-1) P Q c) (ha1 : (-2147483648) ≤ a1 ∧ a1 ≤ 2147483647) (ha2 : (-2147483648) ≤ a2 ∧ a2 ≤ 2147483647) (K : ∀ (c2 : ME) (y : Int), Iv 0 (-1) P Q c2 → (∀ (a : Nat) (j : Int), ¬ ((a = 41 ∧ j = 0) ∨ a = 42 ∨ a = 59) → c2 a j = c a j) → (-2147483648) ≤ y ∧ y ≤ 2147483647 → Z (.inl (some (vi y)), Wd P Q P P c2, 0, 0)) : ∀ n : Nat, (∀ (c2 : ME) (v3 : Int) (v4 : Int) (v5 : Int), Iv 0 (-1) P Q c2 → (∀ (a : Nat) (j : Int), ¬ ((a = 41 ∧ j = 0) ∨ a = 42 ∨ a = 59) → c2 a j = c a j) → (-2147483648) ≤ v3 ∧ v3 ≤ 2147483647 → (-1) ≤ v4 ∧ v4 ≤ 64 → 1 ≤ v5 ∧ v5 ≤ 64 → ((a1 ≥ 0 ∧ a1 ≤ 63)) → 129 - 2 * v5 < (n : Int) → Wp sc (d + 10) 227 59 [(0, .ref 41), (1, vi a1), (2, vi a2), (3, vi v3), (4, vi v4), (5, vi v5)] [] (Wd P Q P P c2) 0 0 Z) := by
  intro n
  induction n with
  | zero => exact (by intro c2 v3 v4 v5 hI2 hF hv3 hv4 hv5 hx0 hm9; have hP := iv_P hI; have hQ := iv_Q hI; exfalso; omega)
  | succ n ih =>
    have hP := iv_P hI
    have hQ := iv_Q hI
    intro c2 v3 v4 v5 hI2 hF hv3 hv4 hv5 hx0 hm9
    refine q_iload c_227_59 rfl (q_iload_n c_227_61 rfl ?_)
    by_cases h_1 : v5 > a1
    · refine v_ic_gt_t (t := 117) c_227_62 rfl ⟨ha1.1, h_1, (ler hv5.2 rfl)⟩ (q_iload_n c_227_117 rfl ?_)
      by_cases h_2 : a2 ≠ 0
      · refine v_if_ne_t (t := 131) c_227_118 rfl ⟨h_2, ⟨ha2.1, ha2.2⟩, of_decide_eq_true rfl, of_decide_eq_true rfl⟩ (q_iload c_227_131 rfl (q_iret c_227_133 rfl ?_))
        exact K c2 v4 hI2 (fun a j hm => hF a j hm) ⟨(lel hv4.1 rfl), (ler hv4.2 rfl)⟩
      · refine v_if_ne_f (t := 131) c_227_118 rfl (Decidable.not_not.mp h_2) (q_aload_n c_227_121 rfl (q_iload_n c_227_122 rfl (q_iload c_227_123 rfl (v_cv c_227_125 km_8_405 rfl rfl (Nat.le_of_ble_eq_true rfl) ⟨⟨rfl, rfl⟩, Nat.le_of_ble_eq_true rfl, rfl⟩ (Nat.le_of_ble_eq_true rfl) (Nat.le_of_ble_eq_true rfl) (s_226 (a1 := a1) (a2 := v4) hI2 (show (-2147483648) ≤ a1 ∧ a1 ≤ 2147483647 from ha1) (show (-2147483648) ≤ v4 ∧ v4 ≤ 2147483647 from ⟨(lel hv4.1 rfl), (ler hv4.2 rfl)⟩) (fun y_3 hy_3 => (bk_inl (q_goto (t := 133) c_227_128 rfl (q_iret c_227_133 rfl ?_)))))))))
        exact K c2 y_3 hI2 (fun a j hm => hF a j hm) hy_3
    · refine v_ic_gt_f (t := 117) c_227_62 rfl ⟨(lel hv5.1 rfl), (Int.not_lt.mp h_1), ha1.2⟩ (q_iload c_227_65 rfl (q_iload_n c_227_67 rfl (q_iconst c_227_68 (v_ixorx c_227_69 (fun y_4 hy_4 => (v_iandl c_227_70 ⟨by omega, by omega⟩ (fun y_5 hy_5 => ?_)))))))
      by_cases h_6 : y_5 ≠ 0
      · refine v_if_ne_t (t := 111) c_227_71 rfl ⟨h_6, ⟨by omega, by omega⟩, of_decide_eq_true rfl, of_decide_eq_true rfl⟩ (v_iinc (v := v5 + 1) c_227_111 rfl (Nat.le_of_ble_eq_true rfl) rfl (q_goto (t := 59) c_227_114 rfl (Wp_ls [(0, .ref 41), (1, vi a1), (2, vi a2), (3, vi v3), (4, vi v4), (5, vi (v5 + 1))] (lsub_cons rfl (lsub_cons rfl (lsub_cons rfl (lsub_cons rfl (lsub_cons rfl (lsub_cons rfl lsub_nil)))))) ?_)))
        exact ih c2 v3 v4 (v5 + 1) hI2 (fun a j hm => hF a j hm) hv3 hv4 ⟨(rgp_l hv5.1 (of_decide_eq_true rfl)), by first | (clear ha1 ha2 hv3 hv4 hv5 h_6; omega) | omega⟩ ⟨(q_d894f56d7 h_1 hv5), by first | (clear ha1 ha2 hv3 hv4 hv5 h_1 h_6; omega) | omega⟩ (by omega)
      · refine v_if_ne_f (t := 111) c_227_71 rfl (Decidable.not_not.mp h_6) (q_iload c_227_74 rfl (q_iload_n c_227_76 rfl (v_iandl c_227_77 ⟨by omega, by omega⟩ (fun y_7 hy_7 => ?_))))
        by_cases h_8 : y_7 ≠ 0
        · refine v_if_ne_t (t := 84) c_227_78 rfl ⟨h_8, ⟨by omega, by omega⟩, of_decide_eq_true rfl, of_decide_eq_true rfl⟩ (q_iload c_227_84 rfl (q_iconst c_227_86 ?_))
          by_cases h_9 : v4 = (-1)
          · refine v_ic_eq_t (t := 107) c_227_87 rfl h_9 (q_iload c_227_107 rfl (q_istore c_227_109 (Nat.le_of_ble_eq_true rfl) (v_iinc (v := v5 + 1) c_227_111 rfl (Nat.le_of_ble_eq_true rfl) rfl (q_goto (t := 59) c_227_114 rfl (Wp_ls [(0, .ref 41), (1, vi a1), (2, vi a2), (3, vi v3), (4, vi v5), (5, vi (v5 + 1))] (lsub_cons rfl (lsub_cons rfl (lsub_cons rfl (lsub_cons rfl (lsub_cons rfl (lsub_cons rfl lsub_nil)))))) ?_)))))
            exact ih c2 v3 v5 (v5 + 1) hI2 (fun a j hm => hF a j hm) hv3 ⟨(lel hv5.1 rfl), hv5.2⟩ ⟨(rgp_l hv5.1 (of_decide_eq_true rfl)), by first | (clear ha1 ha2 hv3 hv4 hv5 h_6 h_9 h_8; omega) | omega⟩ ⟨(q_d894f56d7 h_1 hv5), by first | (clear ha1 ha2 hv3 hv4 hv5 h_1 h_6 h_9 h_8; omega) | omega⟩ (by omega)
          · refine v_ic_eq_f (t := 107) c_227_87 rfl ⟨h_9, ⟨(lel hv4.1 rfl), (ler hv4.2 rfl)⟩, of_decide_eq_true rfl, of_decide_eq_true rfl⟩ (q_aload_n c_227_90 rfl (q_iload_n c_227_91 rfl (q_iload c_227_92 rfl (v_cv c_227_94 km_8_405 rfl rfl (Nat.le_of_ble_eq_true rfl) ⟨⟨rfl, rfl⟩, Nat.le_of_ble_eq_true rfl, rfl⟩ (Nat.le_of_ble_eq_true rfl) (Nat.le_of_ble_eq_true rfl) (s_226 (a1 := a1) (a2 := v5) hI2 (show (-2147483648) ≤ a1 ∧ a1 ≤ 2147483647 from ha1) (show (-2147483648) ≤ v5 ∧ v5 ≤ 2147483647 from ⟨(lel hv5.1 rfl), (ler hv5.2 rfl)⟩) (fun y_10 hy_10 => (bk_inl (q_aload_n c_227_97 rfl (q_iload_n c_227_98 rfl ?_)))))))))
            refine q_iload c_227_99 rfl (v_cv c_227_101 km_8_405 rfl rfl (Nat.le_of_ble_eq_true rfl) ⟨⟨rfl, rfl⟩, Nat.le_of_ble_eq_true rfl, rfl⟩ (Nat.le_of_ble_eq_true rfl) (Nat.le_of_ble_eq_true rfl) (s_226 (a1 := a1) (a2 := v4) hI2 (show (-2147483648) ≤ a1 ∧ a1 ≤ 2147483647 from ha1) (show (-2147483648) ≤ v4 ∧ v4 ≤ 2147483647 from ⟨(lel hv4.1 rfl), (ler hv4.2 rfl)⟩) (fun y_11 hy_11 => (bk_inl ?_))))
            by_cases h_12 : y_10 ≥ y_11
            · refine v_ic_ge_t (t := 111) c_227_104 rfl ⟨hy_11.1, h_12, hy_10.2⟩ (v_iinc (v := v5 + 1) c_227_111 rfl (Nat.le_of_ble_eq_true rfl) rfl (q_goto (t := 59) c_227_114 rfl (Wp_ls [(0, .ref 41), (1, vi a1), (2, vi a2), (3, vi v3), (4, vi v4), (5, vi (v5 + 1))] (lsub_cons rfl (lsub_cons rfl (lsub_cons rfl (lsub_cons rfl (lsub_cons rfl (lsub_cons rfl lsub_nil)))))) ?_)))
              exact ih c2 v3 v4 (v5 + 1) hI2 (fun a j hm => hF a j hm) hv3 hv4 ⟨(rgp_l hv5.1 (of_decide_eq_true rfl)), by first | (clear ha1 ha2 hv3 hv4 hv5 h_6 h_12 h_8 h_9; omega) | omega⟩ ⟨(q_d894f56d7 h_1 hv5), by first | (clear ha1 ha2 hv3 hv4 hv5 h_1 h_6 h_12 h_8 h_9; omega) | omega⟩ (by omega)
            · refine v_ic_ge_f (t := 111) c_227_104 rfl ⟨hy_10.1, (Int.not_le.mp h_12), hy_11.2⟩ (q_iload c_227_107 rfl (q_istore c_227_109 (Nat.le_of_ble_eq_true rfl) (v_iinc (v := v5 + 1) c_227_111 rfl (Nat.le_of_ble_eq_true rfl) rfl (q_goto (t := 59) c_227_114 rfl (Wp_ls [(0, .ref 41), (1, vi a1), (2, vi a2), (3, vi v3), (4, vi v5), (5, vi (v5 + 1))] (lsub_cons rfl (lsub_cons rfl (lsub_cons rfl (lsub_cons rfl (lsub_cons rfl (lsub_cons rfl lsub_nil)))))) ?_)))))
              exact ih c2 v3 v5 (v5 + 1) hI2 (fun a j hm => hF a j hm) hv3 ⟨(lel hv5.1 rfl), hv5.2⟩ ⟨(rgp_l hv5.1 (of_decide_eq_true rfl)), by first | (clear ha1 ha2 hv3 hv4 hv5 h_6 h_12 h_8 h_9; omega) | omega⟩ ⟨(q_d894f56d7 h_1 hv5), by first | (clear ha1 ha2 hv3 hv4 hv5 h_1 h_6 h_12 h_8 h_9; omega) | omega⟩ (by omega)
        · refine v_if_ne_f (t := 84) c_227_78 rfl (Decidable.not_not.mp h_8) (q_goto (t := 111) c_227_81 rfl (v_iinc (v := v5 + 1) c_227_111 rfl (Nat.le_of_ble_eq_true rfl) rfl (q_goto (t := 59) c_227_114 rfl (Wp_ls [(0, .ref 41), (1, vi a1), (2, vi a2), (3, vi v3), (4, vi v4), (5, vi (v5 + 1))] (lsub_cons rfl (lsub_cons rfl (lsub_cons rfl (lsub_cons rfl (lsub_cons rfl (lsub_cons rfl lsub_nil)))))) ?_))))
          exact ih c2 v3 v4 (v5 + 1) hI2 (fun a j hm => hF a j hm) hv3 hv4 ⟨(rgp_l hv5.1 (of_decide_eq_true rfl)), by omega⟩ ⟨(q_d894f56d7 h_1 hv5), by omega⟩ (by omega)
set_option maxRecDepth 100000 in
set_option maxHeartbeats 4000000 in
theorem s_227 {sc : List Int32} {d P Q : Nat} {c : ME} {a1 : Int} {a2 : Int} {Z : AR → Prop} (hI : Iv 0 (-1) P Q c) (ha1 : (-2147483648) ≤ a1 ∧ a1 ≤ 2147483647) (ha2 : (-2147483648) ≤ a2 ∧ a2 ≤ 2147483647) (K : ∀ (c2 : ME) (y : Int), Iv 0 (-1) P Q c2 → (∀ (a : Nat) (j : Int), ¬ ((a = 41 ∧ j = 0) ∨ a = 42 ∨ a = 59) → c2 a j = c a j) → (-2147483648) ≤ y ∧ y ≤ 2147483647 → Z (.inl (some (vi y)), Wd P Q P P c2, 0, 0)) : Wp sc (d + 10) 227 0 [(0, .ref 41), (1, vi a1), (2, vi a2)] [] (Wd P Q P P c) 0 0 Z := by
  have hP := iv_P hI
  have hQ := iv_Q hI
  refine q_aload_n c_227_0 rfl (q_iconst c_227_1 (v_pi (z := 0) c_227_2 kf_8_3 rfl (Nat.le_of_ble_eq_true rfl) rfl rfl rfl (of_decide_eq_true rfl) (q_aload_n c_227_5 rfl (q_aload_n c_227_6 rfl (q_iload_n c_227_7 rfl (v_cv c_227_8 km_8_402 rfl rfl (Nat.le_of_ble_eq_true rfl) ⟨⟨rfl, rfl⟩, Nat.le_of_ble_eq_true rfl, rfl⟩ (Nat.le_of_ble_eq_true rfl) (Nat.le_of_ble_eq_true rfl) (q_iload_n c_222_0 rfl ?_)))))))
  by_cases h_13 : a1 < 0
  · refine v_if_lt_t (t := 18) c_222_1 rfl ⟨ha1.1, h_13, of_decide_eq_true rfl⟩ (q_iconst c_222_18 (v_zret c_222_19 rfl (of_decide_eq_true rfl) (bk_inl (v_if_eq_t (t := 27) c_227_11 rfl (of_decide_eq_true rfl) (q_iconst c_227_27 (q_iconst c_227_28 (q_iconst c_227_29 ?_)))))))
    refine v_cv c_227_30 km_8_203 rfl rfl (Nat.le_of_ble_eq_true rfl) ⟨⟨rfl, rfl⟩, Nat.le_of_ble_eq_true rfl, rfl⟩ (Nat.le_of_ble_eq_true rfl) (Nat.le_of_ble_eq_true rfl) (q_iload_n c_145_0 rfl (v_if_ne_f (t := 26) c_145_1 rfl (of_decide_eq_true rfl) (q_aload_n c_145_4 rfl (v_gi (z := 0) (v := 0) c_145_5 kf_8_3 rfl (Nat.le_of_ble_eq_true rfl) rfl rfl (up_e rfl) (v_if_ne_f (t := 26) c_145_8 rfl (of_decide_eq_true rfl) (q_aload_n c_145_11 rfl (q_iload_n c_145_12 rfl ?_)))))))
    refine v_pi (z := 0) c_145_13 kf_8_3 rfl (Nat.le_of_ble_eq_true rfl) rfl rfl rfl (of_decide_eq_true rfl) (q_aload_n c_145_16 rfl (v_gr (t := 42) c_145_17 kf_8_7 rfl (Nat.le_of_ble_eq_true rfl) rfl (q_iload_n c_145_20 rfl (q_dup2 c_145_21 ⟨rfl, rfl⟩ ?_))))
    have h_14 := ir_42 hI 1
    refine v_ia (v := c 42 1) c_145_22 rfl (of_decide_eq_true rfl) (of_decide_eq_true rfl) (of_decide_eq_true rfl) ((up_c (nn rfl)).trans (up_c (nn rfl))) (q_iconst c_145_23 (v_iadd (v := c 42 1 + 1) c_145_24 rfl (v_nrm (fun y_15 hy_15 => (v_is c_145_25 rfl (of_decide_eq_true rfl) (of_decide_eq_true rfl) (of_decide_eq_true rfl) (q_aload_n c_145_26 rfl (v_gi (z := 0) (v := 1) c_145_27 kf_8_3 rfl (Nat.le_of_ble_eq_true rfl) rfl rfl ((up_c (nn rfl)).trans (up_e rfl)) (v_if_ne_t (t := 37) c_145_30 rfl (of_decide_eq_true rfl) ?_))))))))
    refine q_iconst c_145_37 (v_zret c_145_38 rfl (of_decide_eq_true rfl) (bk_inl (v_if_ne_f (t := 38) c_227_33 rfl (of_decide_eq_true rfl) (q_iconst c_227_36 (q_iret c_227_37 rfl ?_)))))
    have hI_16 := iw_41_0 (v := 0) hI ⟨of_decide_eq_true rfl, of_decide_eq_true rfl⟩
    have hI_17 := iw_41_0 (v := 1) hI_16 ⟨of_decide_eq_true rfl, of_decide_eq_true rfl⟩
    have hI_18 := iw_42 (j := 1) (v := y_15) hI_17 ⟨hy_15.1, hy_15.2⟩
    exact K (up (up (up c 41 0 0) 41 0 1) 42 1 y_15) 0 hI_18 (fun a j hm => (up_b (Decidable.or_iff_not_imp_left.mpr (fun h1 h2 => hm (Or.inr (Or.inl (Decidable.not_not.mp h1)))))).trans ((up_b (Decidable.or_iff_not_imp_left.mpr (fun h1 h2 => hm (Or.inl ⟨Decidable.not_not.mp h1, h2⟩)))).trans (up_b (Decidable.or_iff_not_imp_left.mpr (fun h1 h2 => hm (Or.inl ⟨Decidable.not_not.mp h1, h2⟩)))))) ⟨of_decide_eq_true rfl, of_decide_eq_true rfl⟩
  · refine v_if_lt_f (t := 18) c_222_1 rfl ⟨of_decide_eq_true rfl, (Int.not_lt.mp h_13), ha1.2⟩ (q_iload_n c_222_4 rfl (q_iconst c_222_5 (q_aload_n c_222_6 rfl ?_)))
    have h_19 := ir_41_20 hI
    refine v_gi (z := 20) (v := c 41 20) c_222_7 kf_8_157 rfl (Nat.le_of_ble_eq_true rfl) rfl rfl (up_n (ni rfl)) (v_shl1 c_222_10 ⟨by omega, by omega⟩ (fun y_20 hy_20 => ?_))
    by_cases h_21 : a1 ≥ y_20
    · refine v_ic_ge_t (t := 18) c_222_11 rfl ⟨(lel hy_20.1 rfl), h_21, ha1.2⟩ (q_iconst c_222_18 (v_zret c_222_19 rfl (of_decide_eq_true rfl) (bk_inl (v_if_eq_t (t := 27) c_227_11 rfl (of_decide_eq_true rfl) (q_iconst c_227_27 (q_iconst c_227_28 (q_iconst c_227_29 ?_)))))))
      refine v_cv c_227_30 km_8_203 rfl rfl (Nat.le_of_ble_eq_true rfl) ⟨⟨rfl, rfl⟩, Nat.le_of_ble_eq_true rfl, rfl⟩ (Nat.le_of_ble_eq_true rfl) (Nat.le_of_ble_eq_true rfl) (q_iload_n c_145_0 rfl (v_if_ne_f (t := 26) c_145_1 rfl (of_decide_eq_true rfl) (q_aload_n c_145_4 rfl (v_gi (z := 0) (v := 0) c_145_5 kf_8_3 rfl (Nat.le_of_ble_eq_true rfl) rfl rfl (up_e rfl) (v_if_ne_f (t := 26) c_145_8 rfl (of_decide_eq_true rfl) (q_aload_n c_145_11 rfl (q_iload_n c_145_12 rfl ?_)))))))
      refine v_pi (z := 0) c_145_13 kf_8_3 rfl (Nat.le_of_ble_eq_true rfl) rfl rfl rfl (of_decide_eq_true rfl) (q_aload_n c_145_16 rfl (v_gr (t := 42) c_145_17 kf_8_7 rfl (Nat.le_of_ble_eq_true rfl) rfl (q_iload_n c_145_20 rfl (q_dup2 c_145_21 ⟨rfl, rfl⟩ ?_))))
      have h_22 := ir_42 hI 1
      refine v_ia (v := c 42 1) c_145_22 rfl (of_decide_eq_true rfl) (of_decide_eq_true rfl) (of_decide_eq_true rfl) ((up_c (nn rfl)).trans (up_c (nn rfl))) (q_iconst c_145_23 (v_iadd (v := c 42 1 + 1) c_145_24 rfl (v_nrm (fun y_23 hy_23 => (v_is c_145_25 rfl (of_decide_eq_true rfl) (of_decide_eq_true rfl) (of_decide_eq_true rfl) (q_aload_n c_145_26 rfl (v_gi (z := 0) (v := 1) c_145_27 kf_8_3 rfl (Nat.le_of_ble_eq_true rfl) rfl rfl ((up_c (nn rfl)).trans (up_e rfl)) (v_if_ne_t (t := 37) c_145_30 rfl (of_decide_eq_true rfl) ?_))))))))
      refine q_iconst c_145_37 (v_zret c_145_38 rfl (of_decide_eq_true rfl) (bk_inl (v_if_ne_f (t := 38) c_227_33 rfl (of_decide_eq_true rfl) (q_iconst c_227_36 (q_iret c_227_37 rfl ?_)))))
      have hI_24 := iw_41_0 (v := 0) hI ⟨of_decide_eq_true rfl, of_decide_eq_true rfl⟩
      have hI_25 := iw_41_0 (v := 1) hI_24 ⟨of_decide_eq_true rfl, of_decide_eq_true rfl⟩
      have hI_26 := iw_42 (j := 1) (v := y_23) hI_25 ⟨hy_23.1, hy_23.2⟩
      exact K (up (up (up c 41 0 0) 41 0 1) 42 1 y_23) 0 hI_26 (fun a j hm => (up_b (Decidable.or_iff_not_imp_left.mpr (fun h1 h2 => hm (Or.inr (Or.inl (Decidable.not_not.mp h1)))))).trans ((up_b (Decidable.or_iff_not_imp_left.mpr (fun h1 h2 => hm (Or.inl ⟨Decidable.not_not.mp h1, h2⟩)))).trans (up_b (Decidable.or_iff_not_imp_left.mpr (fun h1 h2 => hm (Or.inl ⟨Decidable.not_not.mp h1, h2⟩)))))) ⟨of_decide_eq_true rfl, of_decide_eq_true rfl⟩
    · refine v_ic_ge_f (t := 18) c_222_11 rfl ⟨ha1.1, (Int.not_le.mp h_21), (ler hy_20.2 rfl)⟩ (q_iconst c_222_14 (q_goto (t := 19) c_222_15 rfl (v_zret c_222_19 rfl (of_decide_eq_true rfl) (bk_inl (v_if_eq_f (t := 27) c_227_11 rfl (of_decide_eq_true rfl) (q_iload_n c_227_14 rfl (q_iconst c_227_15 ?_)))))))
      refine q_iconst c_227_16 (q_call c_227_17 rfl rfl rfl (q_iload_n c_146_0 rfl (q_iload_n c_146_1 rfl ?_)))
      by_cases h_27 : a2 < 0
      · refine v_ic_lt_t (t := 14) c_146_2 rfl ⟨ha2.1, h_27, of_decide_eq_true rfl⟩ (q_iconst c_146_14 (v_zret c_146_15 rfl (of_decide_eq_true rfl) (bk_inl (v_if_eq_t (t := 27) c_227_20 rfl (of_decide_eq_true rfl) (q_iconst c_227_27 (q_iconst c_227_28 (q_iconst c_227_29 ?_)))))))
        refine v_cv c_227_30 km_8_203 rfl rfl (Nat.le_of_ble_eq_true rfl) ⟨⟨rfl, rfl⟩, Nat.le_of_ble_eq_true rfl, rfl⟩ (Nat.le_of_ble_eq_true rfl) (Nat.le_of_ble_eq_true rfl) (q_iload_n c_145_0 rfl (v_if_ne_f (t := 26) c_145_1 rfl (of_decide_eq_true rfl) (q_aload_n c_145_4 rfl (v_gi (z := 0) (v := 0) c_145_5 kf_8_3 rfl (Nat.le_of_ble_eq_true rfl) rfl rfl (up_e rfl) (v_if_ne_f (t := 26) c_145_8 rfl (of_decide_eq_true rfl) (q_aload_n c_145_11 rfl (q_iload_n c_145_12 rfl ?_)))))))
        refine v_pi (z := 0) c_145_13 kf_8_3 rfl (Nat.le_of_ble_eq_true rfl) rfl rfl rfl (of_decide_eq_true rfl) (q_aload_n c_145_16 rfl (v_gr (t := 42) c_145_17 kf_8_7 rfl (Nat.le_of_ble_eq_true rfl) rfl (q_iload_n c_145_20 rfl (q_dup2 c_145_21 ⟨rfl, rfl⟩ ?_))))
        have h_28 := ir_42 hI 1
        refine v_ia (v := c 42 1) c_145_22 rfl (of_decide_eq_true rfl) (of_decide_eq_true rfl) (of_decide_eq_true rfl) ((up_c (nn rfl)).trans (up_c (nn rfl))) (q_iconst c_145_23 (v_iadd (v := c 42 1 + 1) c_145_24 rfl (v_nrm (fun y_29 hy_29 => (v_is c_145_25 rfl (of_decide_eq_true rfl) (of_decide_eq_true rfl) (of_decide_eq_true rfl) (q_aload_n c_145_26 rfl (v_gi (z := 0) (v := 1) c_145_27 kf_8_3 rfl (Nat.le_of_ble_eq_true rfl) rfl rfl ((up_c (nn rfl)).trans (up_e rfl)) (v_if_ne_t (t := 37) c_145_30 rfl (of_decide_eq_true rfl) ?_))))))))
        refine q_iconst c_145_37 (v_zret c_145_38 rfl (of_decide_eq_true rfl) (bk_inl (v_if_ne_f (t := 38) c_227_33 rfl (of_decide_eq_true rfl) (q_iconst c_227_36 (q_iret c_227_37 rfl ?_)))))
        have hI_30 := iw_41_0 (v := 0) hI ⟨of_decide_eq_true rfl, of_decide_eq_true rfl⟩
        have hI_31 := iw_41_0 (v := 1) hI_30 ⟨of_decide_eq_true rfl, of_decide_eq_true rfl⟩
        have hI_32 := iw_42 (j := 1) (v := y_29) hI_31 ⟨hy_29.1, hy_29.2⟩
        exact K (up (up (up c 41 0 0) 41 0 1) 42 1 y_29) 0 hI_32 (fun a j hm => (up_b (Decidable.or_iff_not_imp_left.mpr (fun h1 h2 => hm (Or.inr (Or.inl (Decidable.not_not.mp h1)))))).trans ((up_b (Decidable.or_iff_not_imp_left.mpr (fun h1 h2 => hm (Or.inl ⟨Decidable.not_not.mp h1, h2⟩)))).trans (up_b (Decidable.or_iff_not_imp_left.mpr (fun h1 h2 => hm (Or.inl ⟨Decidable.not_not.mp h1, h2⟩)))))) ⟨of_decide_eq_true rfl, of_decide_eq_true rfl⟩
      · refine v_ic_lt_f (t := 14) c_146_2 rfl ⟨of_decide_eq_true rfl, (Int.not_lt.mp h_27), ha2.2⟩ (q_iload_n c_146_5 rfl (q_iload_n c_146_6 rfl ?_))
        by_cases h_33 : a2 > 1
        · refine v_ic_gt_t (t := 14) c_146_7 rfl ⟨of_decide_eq_true rfl, h_33, ha2.2⟩ (q_iconst c_146_14 (v_zret c_146_15 rfl (of_decide_eq_true rfl) (bk_inl (v_if_eq_t (t := 27) c_227_20 rfl (of_decide_eq_true rfl) (q_iconst c_227_27 (q_iconst c_227_28 (q_iconst c_227_29 ?_)))))))
          refine v_cv c_227_30 km_8_203 rfl rfl (Nat.le_of_ble_eq_true rfl) ⟨⟨rfl, rfl⟩, Nat.le_of_ble_eq_true rfl, rfl⟩ (Nat.le_of_ble_eq_true rfl) (Nat.le_of_ble_eq_true rfl) (q_iload_n c_145_0 rfl (v_if_ne_f (t := 26) c_145_1 rfl (of_decide_eq_true rfl) (q_aload_n c_145_4 rfl (v_gi (z := 0) (v := 0) c_145_5 kf_8_3 rfl (Nat.le_of_ble_eq_true rfl) rfl rfl (up_e rfl) (v_if_ne_f (t := 26) c_145_8 rfl (of_decide_eq_true rfl) (q_aload_n c_145_11 rfl (q_iload_n c_145_12 rfl ?_)))))))
          refine v_pi (z := 0) c_145_13 kf_8_3 rfl (Nat.le_of_ble_eq_true rfl) rfl rfl rfl (of_decide_eq_true rfl) (q_aload_n c_145_16 rfl (v_gr (t := 42) c_145_17 kf_8_7 rfl (Nat.le_of_ble_eq_true rfl) rfl (q_iload_n c_145_20 rfl (q_dup2 c_145_21 ⟨rfl, rfl⟩ ?_))))
          have h_34 := ir_42 hI 1
          refine v_ia (v := c 42 1) c_145_22 rfl (of_decide_eq_true rfl) (of_decide_eq_true rfl) (of_decide_eq_true rfl) ((up_c (nn rfl)).trans (up_c (nn rfl))) (q_iconst c_145_23 (v_iadd (v := c 42 1 + 1) c_145_24 rfl (v_nrm (fun y_35 hy_35 => (v_is c_145_25 rfl (of_decide_eq_true rfl) (of_decide_eq_true rfl) (of_decide_eq_true rfl) (q_aload_n c_145_26 rfl (v_gi (z := 0) (v := 1) c_145_27 kf_8_3 rfl (Nat.le_of_ble_eq_true rfl) rfl rfl ((up_c (nn rfl)).trans (up_e rfl)) (v_if_ne_t (t := 37) c_145_30 rfl (of_decide_eq_true rfl) ?_))))))))
          refine q_iconst c_145_37 (v_zret c_145_38 rfl (of_decide_eq_true rfl) (bk_inl (v_if_ne_f (t := 38) c_227_33 rfl (of_decide_eq_true rfl) (q_iconst c_227_36 (q_iret c_227_37 rfl ?_)))))
          have hI_36 := iw_41_0 (v := 0) hI ⟨of_decide_eq_true rfl, of_decide_eq_true rfl⟩
          have hI_37 := iw_41_0 (v := 1) hI_36 ⟨of_decide_eq_true rfl, of_decide_eq_true rfl⟩
          have hI_38 := iw_42 (j := 1) (v := y_35) hI_37 ⟨hy_35.1, hy_35.2⟩
          exact K (up (up (up c 41 0 0) 41 0 1) 42 1 y_35) 0 hI_38 (fun a j hm => (up_b (Decidable.or_iff_not_imp_left.mpr (fun h1 h2 => hm (Or.inr (Or.inl (Decidable.not_not.mp h1)))))).trans ((up_b (Decidable.or_iff_not_imp_left.mpr (fun h1 h2 => hm (Or.inl ⟨Decidable.not_not.mp h1, h2⟩)))).trans (up_b (Decidable.or_iff_not_imp_left.mpr (fun h1 h2 => hm (Or.inl ⟨Decidable.not_not.mp h1, h2⟩)))))) ⟨of_decide_eq_true rfl, of_decide_eq_true rfl⟩
        · refine v_ic_gt_f (t := 14) c_146_7 rfl ⟨ha2.1, (Int.not_lt.mp h_33), of_decide_eq_true rfl⟩ (q_iconst c_146_10 (q_goto (t := 15) c_146_11 rfl (v_zret c_146_15 rfl (of_decide_eq_true rfl) (bk_inl (v_if_eq_f (t := 27) c_227_20 rfl (of_decide_eq_true rfl) (q_iconst c_227_23 (q_goto (t := 28) c_227_24 rfl ?_)))))))
          refine q_iconst c_227_28 (q_iconst c_227_29 (v_cv c_227_30 km_8_203 rfl rfl (Nat.le_of_ble_eq_true rfl) ⟨⟨rfl, rfl⟩, Nat.le_of_ble_eq_true rfl, rfl⟩ (Nat.le_of_ble_eq_true rfl) (Nat.le_of_ble_eq_true rfl) (q_iload_n c_145_0 rfl (v_if_ne_t (t := 26) c_145_1 rfl (of_decide_eq_true rfl) (q_aload_n c_145_26 rfl (v_gi (z := 0) (v := 0) c_145_27 kf_8_3 rfl (Nat.le_of_ble_eq_true rfl) rfl rfl (up_e rfl) (v_if_ne_f (t := 37) c_145_30 rfl (of_decide_eq_true rfl) ?_)))))))
          refine q_iconst c_145_33 (q_goto (t := 38) c_145_34 rfl (v_zret c_145_38 rfl (of_decide_eq_true rfl) (bk_inl (v_if_ne_t (t := 38) c_227_33 rfl (of_decide_eq_true rfl) (q_iload_n c_227_38 rfl ?_)))))
          by_cases h_39 : a1 ≠ 0
          · refine v_if_ne_t (t := 44) c_227_39 rfl ⟨h_39, ⟨ha1.1, ha1.2⟩, of_decide_eq_true rfl, of_decide_eq_true rfl⟩ (q_aload_n c_227_44 rfl ?_)
            have hI_40 := iw_41_0 (v := 0) hI ⟨of_decide_eq_true rfl, of_decide_eq_true rfl⟩
            refine v_cv c_227_45 km_8_317 rfl rfl (Nat.le_of_ble_eq_true rfl) ⟨⟨rfl, rfl⟩, Nat.le_of_ble_eq_true rfl, rfl⟩ (Nat.le_of_ble_eq_true rfl) (Nat.le_of_ble_eq_true rfl) (s_186 hI_40 (fun c_41 hI_42 hF_43 => (bk_inl (q_iload_n c_227_48 rfl (q_iload_n c_227_49 rfl (v_ineg (v := 0 - a1) c_227_50 (by omega) (v_iandl c_227_51 ⟨by omega, by omega⟩ (fun y_44 hy_44 => (q_istore_n c_227_52 (Nat.le_of_ble_eq_true rfl) (q_iconst c_227_53 ?_))))))))))
            refine q_istore c_227_54 (Nat.le_of_ble_eq_true rfl) (q_iconst c_227_56 (q_istore c_227_57 (Nat.le_of_ble_eq_true rfl) (Wp_ls [(0, .ref 41), (1, vi a1), (2, vi a2), (3, vi y_44), (4, vi (-1)), (5, vi 1)] (lsub_cons rfl (lsub_cons rfl (lsub_cons rfl (lsub_cons rfl (lsub_cons rfl (lsub_cons rfl lsub_nil)))))) ?_)))
            exact (s_227_l (sc := sc) (d := d) hI ha1 ha2 K 130) c_41 y_44 (-1) 1 hI_42 (fun a j hm => (hF_43 a j (fun h => hm (Or.inr (Or.inr h)))).trans (up_b (Decidable.or_iff_not_imp_left.mpr (fun h1 h2 => hm (Or.inl ⟨Decidable.not_not.mp h1, h2⟩))))) ⟨by first | (clear ha1 ha2 h_13 h_19 h_21 h_27 h_33 h_39; omega) | omega, by first | (clear ha1 ha2 h_13 h_19 h_27 h_33 h_39; omega) | omega⟩ ⟨of_decide_eq_true rfl, of_decide_eq_true rfl⟩ ⟨of_decide_eq_true rfl, of_decide_eq_true rfl⟩ ⟨(q_720657ba9 h_13), by first | (clear ha1 ha2 h_13 h_19 h_27 h_33 h_39; omega) | omega⟩ (by omega)
          · refine v_if_ne_f (t := 44) c_227_39 rfl (Decidable.not_not.mp h_39) (q_iconst c_227_42 (q_iret c_227_43 rfl ?_))
            have hI_45 := iw_41_0 (v := 0) hI ⟨of_decide_eq_true rfl, of_decide_eq_true rfl⟩
            exact K (up c 41 0 0) 0 hI_45 (fun a j hm => up_b (Decidable.or_iff_not_imp_left.mpr (fun h1 h2 => hm (Or.inl ⟨Decidable.not_not.mp h1, h2⟩)))) ⟨of_decide_eq_true rfl, of_decide_eq_true rfl⟩

set_option maxRecDepth 100000 in
set_option maxHeartbeats 4000000 in
theorem s_228_l {sc : List Int32} {d P Q : Nat} {c : ME} {a1 : Int} {a2 : Int} {a3 : Int} {Z : AR → Prop} (hI : Iv 0 (-1) P Q c) (ha1 : (-2147483648) ≤ a1 ∧ a1 ≤ 2147483647) (ha2 : (-2147483648) ≤ a2 ∧ a2 ≤ 2147483647) (ha3 : (-2147483648) ≤ a3 ∧ a3 ≤ 2147483647) (K : ∀ (c2 : ME) (y : Int), Iv 0 (-1) P Q c2 → (∀ (a : Nat) (j : Int), ¬ ((a = 41 ∧ j = 0) ∨ a = 42 ∨ a = 59 ∨ a = 54 ∨ a = 55) → c2 a j = c a j) → (-2147483648) ≤ y ∧ y ≤ 2147483647 → Z (.inl (some (vi y)), Wd P Q P P c2, 0, 0)) : ∀ n : Nat, (∀ (c2 : ME) (v4 : Int) (v5 : Int) (v6 : Int), Iv 0 (-1) P Q c2 → (∀ (a : Nat) (j : Int), ¬ ((a = 41 ∧ j = 0) ∨ a = 42 ∨ a = 59 ∨ a = 54 ∨ a = 55) → c2 a j = c a j) → 0 ≤ v4 ∧ v4 ≤ 63 → 0 ≤ v5 ∧ v5 ≤ 64 → 1 ≤ v6 ∧ v6 ≤ 64 → 129 - 2 * v6 < (n : Int) → Wp sc (d + 13) 228 69 [(0, .ref 41), (1, vi a1), (2, vi a2), (3, vi a3), (4, vi v4), (5, vi v5), (6, vi v6)] [] (Wd P Q P P c2) 0 0 Z) := by
  intro n
  induction n with
  | zero => exact (by intro c2 v4 v5 v6 hI2 hF hv4 hv5 hv6 hm9; have hP := iv_P hI; have hQ := iv_Q hI; exfalso; omega)
  | succ n ih =>
    have hP := iv_P hI
    have hQ := iv_Q hI
    intro c2 v4 v5 v6 hI2 hF hv4 hv5 hv6 hm9
    refine q_iload c_228_69 rfl (q_iload c_228_71 rfl ?_)
    by_cases h_1 : v6 > v4
    · refine v_ic_gt_t (t := 149) c_228_73 rfl ⟨(lel hv4.1 rfl), h_1, (ler hv6.2 rfl)⟩ (q_iload_n c_228_149 rfl ?_)
      by_cases h_2 : a3 ≠ 0
      · refine v_if_ne_t (t := 162) c_228_150 rfl ⟨h_2, ⟨ha3.1, ha3.2⟩, of_decide_eq_true rfl, of_decide_eq_true rfl⟩ (q_iload_n c_228_162 rfl (q_iconst c_228_163 ?_))
        by_cases h_3 : a3 ≠ 1
        · refine v_ic_ne_t (t := 176) c_228_164 rfl ⟨h_3, ⟨ha3.1, ha3.2⟩, of_decide_eq_true rfl, of_decide_eq_true rfl⟩ (q_iload c_228_176 rfl (q_iret c_228_178 rfl ?_))
          exact K c2 v5 hI2 (fun a j hm => hF a j hm) ⟨(lel hv5.1 rfl), (ler hv5.2 rfl)⟩
        · refine v_ic_ne_f (t := 176) c_228_164 rfl (Decidable.not_not.mp h_3) (q_aload_n c_228_167 rfl (q_iload c_228_168 rfl (v_cv c_228_170 km_8_408 rfl rfl (Nat.le_of_ble_eq_true rfl) ⟨⟨rfl, rfl⟩, Nat.le_of_ble_eq_true rfl, rfl⟩ (Nat.le_of_ble_eq_true rfl) (Nat.le_of_ble_eq_true rfl) (s_223 (a1 := v5) hI2 (show (-2147483648) ≤ v5 ∧ v5 ≤ 2147483647 from ⟨(lel hv5.1 rfl), (ler hv5.2 rfl)⟩) (fun y_4 hy_4 => (bk_inl (q_goto (t := 178) c_228_173 rfl (q_iret c_228_178 rfl ?_))))))))
          exact K c2 y_4 hI2 (fun a j hm => hF a j hm) hy_4
      · refine v_if_ne_f (t := 162) c_228_150 rfl (Decidable.not_not.mp h_2) (q_aload_n c_228_153 rfl (q_iload c_228_154 rfl (v_cv c_228_156 km_8_414 rfl rfl (Nat.le_of_ble_eq_true rfl) ⟨⟨rfl, rfl⟩, Nat.le_of_ble_eq_true rfl, rfl⟩ (Nat.le_of_ble_eq_true rfl) (Nat.le_of_ble_eq_true rfl) (s_224 (a1 := v5) hI2 (show (-2147483648) ≤ v5 ∧ v5 ≤ 2147483647 from ⟨(lel hv5.1 rfl), (ler hv5.2 rfl)⟩) (fun c_5 y_8 hI_6 hF_7 hy_8 => (bk_inl (q_goto (t := 178) c_228_159 rfl (q_iret c_228_178 rfl ?_))))))))
        exact K c_5 y_8 hI_6 (fun a j hm => (hF_7 a j (qv_bcc235c24 hm)).trans (hF a j hm)) hy_8
    · refine v_ic_gt_f (t := 149) c_228_73 rfl ⟨(lel hv6.1 rfl), (Int.not_lt.mp h_1), (ler hv4.2 rfl)⟩ (q_iload c_228_76 rfl (q_iload c_228_78 rfl (q_iconst c_228_80 (v_ixorx c_228_81 (fun y_9 hy_9 => (v_iandl c_228_82 ⟨by omega, by omega⟩ (fun y_10 hy_10 => ?_)))))))
      by_cases h_11 : y_10 ≠ 0
      · refine v_if_ne_t (t := 143) c_228_83 rfl ⟨h_11, ⟨by omega, by omega⟩, of_decide_eq_true rfl, of_decide_eq_true rfl⟩ (v_iinc (v := v6 + 1) c_228_143 rfl (Nat.le_of_ble_eq_true rfl) rfl (q_goto (t := 69) c_228_146 rfl (Wp_ls [(0, .ref 41), (1, vi a1), (2, vi a2), (3, vi a3), (4, vi v4), (5, vi v5), (6, vi (v6 + 1))] (lsub_cons rfl (lsub_cons rfl (lsub_cons rfl (lsub_cons rfl (lsub_cons rfl (lsub_cons rfl (lsub_cons rfl lsub_nil))))))) ?_)))
        exact ih c2 v4 v5 (v6 + 1) hI2 (fun a j hm => hF a j hm) hv4 hv5 ⟨(rgp_l hv6.1 (of_decide_eq_true rfl)), (q_8ed797edd h_1 hv4)⟩ (by omega)
      · refine v_if_ne_f (t := 143) c_228_83 rfl (Decidable.not_not.mp h_11) (q_aload_n c_228_86 rfl (q_iload c_228_87 rfl (v_cv c_228_89 km_8_408 rfl rfl (Nat.le_of_ble_eq_true rfl) ⟨⟨rfl, rfl⟩, Nat.le_of_ble_eq_true rfl, rfl⟩ (Nat.le_of_ble_eq_true rfl) (Nat.le_of_ble_eq_true rfl) (s_223 (a1 := v6) hI2 (show (-2147483648) ≤ v6 ∧ v6 ≤ 2147483647 from ⟨(lel hv6.1 rfl), (ler hv6.2 rfl)⟩) (fun y_12 hy_12 => (bk_inl (q_iload_n c_228_92 rfl ?_)))))))
        by_cases h_13 : y_12 ≤ a2
        · refine v_ic_le_t (t := 99) c_228_93 rfl ⟨hy_12.1, h_13, ha2.2⟩ (q_aload_n c_228_99 rfl (q_iload c_228_100 rfl (v_cv c_228_102 km_8_414 rfl rfl (Nat.le_of_ble_eq_true rfl) ⟨⟨rfl, rfl⟩, Nat.le_of_ble_eq_true rfl, rfl⟩ (Nat.le_of_ble_eq_true rfl) (Nat.le_of_ble_eq_true rfl) (s_224 (a1 := v6) hI2 (show (-2147483648) ≤ v6 ∧ v6 ≤ 2147483647 from ⟨(lel hv6.1 rfl), (ler hv6.2 rfl)⟩) (fun c_14 y_17 hI_15 hF_16 hy_17 => (bk_inl (q_aload_n c_228_105 rfl (q_iload c_228_106 rfl (v_cv c_228_108 km_8_414 rfl rfl (Nat.le_of_ble_eq_true rfl) ⟨⟨rfl, rfl⟩, Nat.le_of_ble_eq_true rfl, rfl⟩ (Nat.le_of_ble_eq_true rfl) (Nat.le_of_ble_eq_true rfl) (s_224 (a1 := v5) hI_15 (show (-2147483648) ≤ v5 ∧ v5 ≤ 2147483647 from ⟨(lel hv5.1 rfl), (ler hv5.2 rfl)⟩) (fun c_18 y_21 hI_19 hF_20 hy_21 => ?_)))))))))))
          refine bk_inl (v_isub (v := y_17 - y_21) c_228_111 rfl (v_nrm (fun y_22 hy_22 => (q_istore c_228_112 (Nat.le_of_ble_eq_true rfl) (q_iload c_228_114 rfl ?_)))))
          by_cases h_23 : y_22 > 0
          · refine v_if_gt_t (t := 139) c_228_116 rfl ⟨of_decide_eq_true rfl, h_23, hy_22.2⟩ (q_iload c_228_139 rfl (q_istore c_228_141 (Nat.le_of_ble_eq_true rfl) (v_iinc (v := v6 + 1) c_228_143 rfl (Nat.le_of_ble_eq_true rfl) rfl (q_goto (t := 69) c_228_146 rfl (Wp_ls [(0, .ref 41), (1, vi a1), (2, vi a2), (3, vi a3), (4, vi v4), (5, vi v6), (6, vi (v6 + 1))] (lsub_cons rfl (lsub_cons rfl (lsub_cons rfl (lsub_cons rfl (lsub_cons rfl (lsub_cons rfl (lsub_cons rfl lsub_nil))))))) ?_)))))
            exact ih c_18 v4 v6 (v6 + 1) hI_19 (fun a j hm => (hF_20 a j (qv_bcc235c24 hm)).trans ((hF_16 a j (qv_bcc235c24 hm)).trans (hF a j hm))) hv4 ⟨(lel hv6.1 rfl), hv6.2⟩ ⟨(rgp_l hv6.1 (of_decide_eq_true rfl)), (q_8ed797edd h_1 hv4)⟩ (by omega)
          · refine v_if_gt_f (t := 139) c_228_116 rfl ⟨hy_22.1, (Int.not_lt.mp h_23), of_decide_eq_true rfl⟩ (q_iload c_228_119 rfl ?_)
            by_cases h_24 : y_22 ≠ 0
            · refine v_if_ne_t (t := 143) c_228_121 rfl ⟨h_24, ⟨hy_22.1, hy_22.2⟩, of_decide_eq_true rfl, of_decide_eq_true rfl⟩ (v_iinc (v := v6 + 1) c_228_143 rfl (Nat.le_of_ble_eq_true rfl) rfl (q_goto (t := 69) c_228_146 rfl (Wp_ls [(0, .ref 41), (1, vi a1), (2, vi a2), (3, vi a3), (4, vi v4), (5, vi v5), (6, vi (v6 + 1))] (lsub_cons rfl (lsub_cons rfl (lsub_cons rfl (lsub_cons rfl (lsub_cons rfl (lsub_cons rfl (lsub_cons rfl lsub_nil))))))) ?_)))
              exact ih c_18 v4 v5 (v6 + 1) hI_19 (fun a j hm => (hF_20 a j (qv_bcc235c24 hm)).trans ((hF_16 a j (qv_bcc235c24 hm)).trans (hF a j hm))) hv4 hv5 ⟨(rgp_l hv6.1 (of_decide_eq_true rfl)), (q_8ed797edd h_1 hv4)⟩ (by omega)
            · refine v_if_ne_f (t := 143) c_228_121 rfl (Decidable.not_not.mp h_24) (q_aload_n c_228_124 rfl (q_iload c_228_125 rfl (v_cv c_228_127 km_8_408 rfl rfl (Nat.le_of_ble_eq_true rfl) ⟨⟨rfl, rfl⟩, Nat.le_of_ble_eq_true rfl, rfl⟩ (Nat.le_of_ble_eq_true rfl) (Nat.le_of_ble_eq_true rfl) (s_223 (a1 := v6) hI_19 (show (-2147483648) ≤ v6 ∧ v6 ≤ 2147483647 from ⟨(lel hv6.1 rfl), (ler hv6.2 rfl)⟩) (fun y_25 hy_25 => (bk_inl (q_aload_n c_228_130 rfl (q_iload c_228_131 rfl (v_cv c_228_133 km_8_408 rfl rfl (Nat.le_of_ble_eq_true rfl) ⟨⟨rfl, rfl⟩, Nat.le_of_ble_eq_true rfl, rfl⟩ (Nat.le_of_ble_eq_true rfl) (Nat.le_of_ble_eq_true rfl) (s_223 (a1 := v5) hI_19 (show (-2147483648) ≤ v5 ∧ v5 ≤ 2147483647 from ⟨(lel hv5.1 rfl), (ler hv5.2 rfl)⟩) (fun y_26 hy_26 => ?_)))))))))))
              refine bk_inl ?_
              by_cases h_27 : y_25 ≥ y_26
              · refine v_ic_ge_t (t := 143) c_228_136 rfl ⟨hy_26.1, h_27, hy_25.2⟩ (v_iinc (v := v6 + 1) c_228_143 rfl (Nat.le_of_ble_eq_true rfl) rfl (q_goto (t := 69) c_228_146 rfl (Wp_ls [(0, .ref 41), (1, vi a1), (2, vi a2), (3, vi a3), (4, vi v4), (5, vi v5), (6, vi (v6 + 1))] (lsub_cons rfl (lsub_cons rfl (lsub_cons rfl (lsub_cons rfl (lsub_cons rfl (lsub_cons rfl (lsub_cons rfl lsub_nil))))))) ?_)))
                exact ih c_18 v4 v5 (v6 + 1) hI_19 (fun a j hm => (hF_20 a j (qv_bcc235c24 hm)).trans ((hF_16 a j (qv_bcc235c24 hm)).trans (hF a j hm))) hv4 hv5 ⟨(rgp_l hv6.1 (of_decide_eq_true rfl)), (q_8ed797edd h_1 hv4)⟩ (by omega)
              · refine v_ic_ge_f (t := 143) c_228_136 rfl ⟨hy_25.1, (Int.not_le.mp h_27), hy_26.2⟩ (q_iload c_228_139 rfl (q_istore c_228_141 (Nat.le_of_ble_eq_true rfl) (v_iinc (v := v6 + 1) c_228_143 rfl (Nat.le_of_ble_eq_true rfl) rfl (q_goto (t := 69) c_228_146 rfl (Wp_ls [(0, .ref 41), (1, vi a1), (2, vi a2), (3, vi a3), (4, vi v4), (5, vi v6), (6, vi (v6 + 1))] (lsub_cons rfl (lsub_cons rfl (lsub_cons rfl (lsub_cons rfl (lsub_cons rfl (lsub_cons rfl (lsub_cons rfl lsub_nil))))))) ?_)))))
                exact ih c_18 v4 v6 (v6 + 1) hI_19 (fun a j hm => (hF_20 a j (qv_bcc235c24 hm)).trans ((hF_16 a j (qv_bcc235c24 hm)).trans (hF a j hm))) hv4 ⟨(lel hv6.1 rfl), hv6.2⟩ ⟨(rgp_l hv6.1 (of_decide_eq_true rfl)), (q_8ed797edd h_1 hv4)⟩ (by omega)
        · refine v_ic_le_f (t := 99) c_228_93 rfl ⟨ha2.1, (Int.not_le.mp h_13), hy_12.2⟩ (q_goto (t := 143) c_228_96 rfl (v_iinc (v := v6 + 1) c_228_143 rfl (Nat.le_of_ble_eq_true rfl) rfl (q_goto (t := 69) c_228_146 rfl (Wp_ls [(0, .ref 41), (1, vi a1), (2, vi a2), (3, vi a3), (4, vi v4), (5, vi v5), (6, vi (v6 + 1))] (lsub_cons rfl (lsub_cons rfl (lsub_cons rfl (lsub_cons rfl (lsub_cons rfl (lsub_cons rfl (lsub_cons rfl lsub_nil))))))) ?_))))
          exact ih c2 v4 v5 (v6 + 1) hI2 (fun a j hm => hF a j hm) hv4 hv5 ⟨(rgp_l hv6.1 (of_decide_eq_true rfl)), (q_8ed797edd h_1 hv4)⟩ (by omega)
set_option maxRecDepth 100000 in
set_option maxHeartbeats 4000000 in
theorem s_228 {sc : List Int32} {d P Q : Nat} {c : ME} {a1 : Int} {a2 : Int} {a3 : Int} {Z : AR → Prop} (hI : Iv 0 (-1) P Q c) (ha1 : (-2147483648) ≤ a1 ∧ a1 ≤ 2147483647) (ha2 : (-2147483648) ≤ a2 ∧ a2 ≤ 2147483647) (ha3 : (-2147483648) ≤ a3 ∧ a3 ≤ 2147483647) (K : ∀ (c2 : ME) (y : Int), Iv 0 (-1) P Q c2 → (∀ (a : Nat) (j : Int), ¬ ((a = 41 ∧ j = 0) ∨ a = 42 ∨ a = 59 ∨ a = 54 ∨ a = 55) → c2 a j = c a j) → (-2147483648) ≤ y ∧ y ≤ 2147483647 → Z (.inl (some (vi y)), Wd P Q P P c2, 0, 0)) : Wp sc (d + 13) 228 0 [(0, .ref 41), (1, vi a1), (2, vi a2), (3, vi a3)] [] (Wd P Q P P c) 0 0 Z := by
  have hP := iv_P hI
  have hQ := iv_Q hI
  refine q_aload_n c_228_0 rfl (q_iconst c_228_1 (v_pi (z := 0) c_228_2 kf_8_3 rfl (Nat.le_of_ble_eq_true rfl) rfl rfl rfl (of_decide_eq_true rfl) (q_aload_n c_228_5 rfl (q_aload_n c_228_6 rfl (q_iload_n c_228_7 rfl (v_cv c_228_8 km_8_402 rfl rfl (Nat.le_of_ble_eq_true rfl) ⟨⟨rfl, rfl⟩, Nat.le_of_ble_eq_true rfl, rfl⟩ (Nat.le_of_ble_eq_true rfl) (Nat.le_of_ble_eq_true rfl) (q_iload_n c_222_0 rfl ?_)))))))
  by_cases h_28 : a1 < 0
  · refine v_if_lt_t (t := 18) c_222_1 rfl ⟨ha1.1, h_28, of_decide_eq_true rfl⟩ (q_iconst c_222_18 (v_zret c_222_19 rfl (of_decide_eq_true rfl) (bk_inl (v_if_eq_t (t := 38) c_228_11 rfl (of_decide_eq_true rfl) (q_iconst c_228_38 (q_iconst c_228_39 (q_iconst c_228_40 ?_)))))))
    refine v_cv c_228_41 km_8_203 rfl rfl (Nat.le_of_ble_eq_true rfl) ⟨⟨rfl, rfl⟩, Nat.le_of_ble_eq_true rfl, rfl⟩ (Nat.le_of_ble_eq_true rfl) (Nat.le_of_ble_eq_true rfl) (q_iload_n c_145_0 rfl (v_if_ne_f (t := 26) c_145_1 rfl (of_decide_eq_true rfl) (q_aload_n c_145_4 rfl (v_gi (z := 0) (v := 0) c_145_5 kf_8_3 rfl (Nat.le_of_ble_eq_true rfl) rfl rfl (up_e rfl) (v_if_ne_f (t := 26) c_145_8 rfl (of_decide_eq_true rfl) (q_aload_n c_145_11 rfl (q_iload_n c_145_12 rfl ?_)))))))
    refine v_pi (z := 0) c_145_13 kf_8_3 rfl (Nat.le_of_ble_eq_true rfl) rfl rfl rfl (of_decide_eq_true rfl) (q_aload_n c_145_16 rfl (v_gr (t := 42) c_145_17 kf_8_7 rfl (Nat.le_of_ble_eq_true rfl) rfl (q_iload_n c_145_20 rfl (q_dup2 c_145_21 ⟨rfl, rfl⟩ ?_))))
    have h_29 := ir_42 hI 1
    refine v_ia (v := c 42 1) c_145_22 rfl (of_decide_eq_true rfl) (of_decide_eq_true rfl) (of_decide_eq_true rfl) ((up_c (nn rfl)).trans (up_c (nn rfl))) (q_iconst c_145_23 (v_iadd (v := c 42 1 + 1) c_145_24 rfl (v_nrm (fun y_30 hy_30 => (v_is c_145_25 rfl (of_decide_eq_true rfl) (of_decide_eq_true rfl) (of_decide_eq_true rfl) (q_aload_n c_145_26 rfl (v_gi (z := 0) (v := 1) c_145_27 kf_8_3 rfl (Nat.le_of_ble_eq_true rfl) rfl rfl ((up_c (nn rfl)).trans (up_e rfl)) (v_if_ne_t (t := 37) c_145_30 rfl (of_decide_eq_true rfl) ?_))))))))
    refine q_iconst c_145_37 (v_zret c_145_38 rfl (of_decide_eq_true rfl) (bk_inl (v_if_ne_f (t := 49) c_228_44 rfl (of_decide_eq_true rfl) (q_iconst c_228_47 (q_iret c_228_48 rfl ?_)))))
    have hI_31 := iw_41_0 (v := 0) hI ⟨of_decide_eq_true rfl, of_decide_eq_true rfl⟩
    have hI_32 := iw_41_0 (v := 1) hI_31 ⟨of_decide_eq_true rfl, of_decide_eq_true rfl⟩
    have hI_33 := iw_42 (j := 1) (v := y_30) hI_32 ⟨hy_30.1, hy_30.2⟩
    exact K (up (up (up c 41 0 0) 41 0 1) 42 1 y_30) 0 hI_33 (fun a j hm => (up_b (Decidable.or_iff_not_imp_left.mpr (fun h1 h2 => hm (Or.inr (Or.inl (Decidable.not_not.mp h1)))))).trans ((up_b (Decidable.or_iff_not_imp_left.mpr (fun h1 h2 => hm (Or.inl ⟨Decidable.not_not.mp h1, h2⟩)))).trans (up_b (Decidable.or_iff_not_imp_left.mpr (fun h1 h2 => hm (Or.inl ⟨Decidable.not_not.mp h1, h2⟩)))))) ⟨of_decide_eq_true rfl, of_decide_eq_true rfl⟩
  · refine v_if_lt_f (t := 18) c_222_1 rfl ⟨of_decide_eq_true rfl, (Int.not_lt.mp h_28), ha1.2⟩ (q_iload_n c_222_4 rfl (q_iconst c_222_5 (q_aload_n c_222_6 rfl ?_)))
    have h_34 := ir_41_20 hI
    refine v_gi (z := 20) (v := c 41 20) c_222_7 kf_8_157 rfl (Nat.le_of_ble_eq_true rfl) rfl rfl (up_n (ni rfl)) (v_shl1 c_222_10 ⟨by omega, by omega⟩ (fun y_35 hy_35 => ?_))
    by_cases h_36 : a1 ≥ y_35
    · refine v_ic_ge_t (t := 18) c_222_11 rfl ⟨(lel hy_35.1 rfl), h_36, ha1.2⟩ (q_iconst c_222_18 (v_zret c_222_19 rfl (of_decide_eq_true rfl) (bk_inl (v_if_eq_t (t := 38) c_228_11 rfl (of_decide_eq_true rfl) (q_iconst c_228_38 (q_iconst c_228_39 (q_iconst c_228_40 ?_)))))))
      refine v_cv c_228_41 km_8_203 rfl rfl (Nat.le_of_ble_eq_true rfl) ⟨⟨rfl, rfl⟩, Nat.le_of_ble_eq_true rfl, rfl⟩ (Nat.le_of_ble_eq_true rfl) (Nat.le_of_ble_eq_true rfl) (q_iload_n c_145_0 rfl (v_if_ne_f (t := 26) c_145_1 rfl (of_decide_eq_true rfl) (q_aload_n c_145_4 rfl (v_gi (z := 0) (v := 0) c_145_5 kf_8_3 rfl (Nat.le_of_ble_eq_true rfl) rfl rfl (up_e rfl) (v_if_ne_f (t := 26) c_145_8 rfl (of_decide_eq_true rfl) (q_aload_n c_145_11 rfl (q_iload_n c_145_12 rfl ?_)))))))
      refine v_pi (z := 0) c_145_13 kf_8_3 rfl (Nat.le_of_ble_eq_true rfl) rfl rfl rfl (of_decide_eq_true rfl) (q_aload_n c_145_16 rfl (v_gr (t := 42) c_145_17 kf_8_7 rfl (Nat.le_of_ble_eq_true rfl) rfl (q_iload_n c_145_20 rfl (q_dup2 c_145_21 ⟨rfl, rfl⟩ ?_))))
      have h_37 := ir_42 hI 1
      refine v_ia (v := c 42 1) c_145_22 rfl (of_decide_eq_true rfl) (of_decide_eq_true rfl) (of_decide_eq_true rfl) ((up_c (nn rfl)).trans (up_c (nn rfl))) (q_iconst c_145_23 (v_iadd (v := c 42 1 + 1) c_145_24 rfl (v_nrm (fun y_38 hy_38 => (v_is c_145_25 rfl (of_decide_eq_true rfl) (of_decide_eq_true rfl) (of_decide_eq_true rfl) (q_aload_n c_145_26 rfl (v_gi (z := 0) (v := 1) c_145_27 kf_8_3 rfl (Nat.le_of_ble_eq_true rfl) rfl rfl ((up_c (nn rfl)).trans (up_e rfl)) (v_if_ne_t (t := 37) c_145_30 rfl (of_decide_eq_true rfl) ?_))))))))
      refine q_iconst c_145_37 (v_zret c_145_38 rfl (of_decide_eq_true rfl) (bk_inl (v_if_ne_f (t := 49) c_228_44 rfl (of_decide_eq_true rfl) (q_iconst c_228_47 (q_iret c_228_48 rfl ?_)))))
      have hI_39 := iw_41_0 (v := 0) hI ⟨of_decide_eq_true rfl, of_decide_eq_true rfl⟩
      have hI_40 := iw_41_0 (v := 1) hI_39 ⟨of_decide_eq_true rfl, of_decide_eq_true rfl⟩
      have hI_41 := iw_42 (j := 1) (v := y_38) hI_40 ⟨hy_38.1, hy_38.2⟩
      exact K (up (up (up c 41 0 0) 41 0 1) 42 1 y_38) 0 hI_41 (fun a j hm => (up_b (Decidable.or_iff_not_imp_left.mpr (fun h1 h2 => hm (Or.inr (Or.inl (Decidable.not_not.mp h1)))))).trans ((up_b (Decidable.or_iff_not_imp_left.mpr (fun h1 h2 => hm (Or.inl ⟨Decidable.not_not.mp h1, h2⟩)))).trans (up_b (Decidable.or_iff_not_imp_left.mpr (fun h1 h2 => hm (Or.inl ⟨Decidable.not_not.mp h1, h2⟩)))))) ⟨of_decide_eq_true rfl, of_decide_eq_true rfl⟩
    · refine v_ic_ge_f (t := 18) c_222_11 rfl ⟨ha1.1, (Int.not_le.mp h_36), (ler hy_35.2 rfl)⟩ (q_iconst c_222_14 (q_goto (t := 19) c_222_15 rfl (v_zret c_222_19 rfl (of_decide_eq_true rfl) (bk_inl (v_if_eq_f (t := 38) c_228_11 rfl (of_decide_eq_true rfl) (q_iload_n c_228_14 rfl (q_iconst c_228_15 ?_)))))))
      refine v_ldcw (n := 99999) c_228_16 rfl (by decide +kernel) (q_call c_228_19 rfl rfl rfl (q_iload_n c_146_0 rfl (q_iload_n c_146_1 rfl ?_)))
      by_cases h_42 : a2 < 0
      · refine v_ic_lt_t (t := 14) c_146_2 rfl ⟨ha2.1, h_42, of_decide_eq_true rfl⟩ (q_iconst c_146_14 (v_zret c_146_15 rfl (of_decide_eq_true rfl) (bk_inl (v_if_eq_t (t := 38) c_228_22 rfl (of_decide_eq_true rfl) (q_iconst c_228_38 (q_iconst c_228_39 (q_iconst c_228_40 ?_)))))))
        refine v_cv c_228_41 km_8_203 rfl rfl (Nat.le_of_ble_eq_true rfl) ⟨⟨rfl, rfl⟩, Nat.le_of_ble_eq_true rfl, rfl⟩ (Nat.le_of_ble_eq_true rfl) (Nat.le_of_ble_eq_true rfl) (q_iload_n c_145_0 rfl (v_if_ne_f (t := 26) c_145_1 rfl (of_decide_eq_true rfl) (q_aload_n c_145_4 rfl (v_gi (z := 0) (v := 0) c_145_5 kf_8_3 rfl (Nat.le_of_ble_eq_true rfl) rfl rfl (up_e rfl) (v_if_ne_f (t := 26) c_145_8 rfl (of_decide_eq_true rfl) (q_aload_n c_145_11 rfl (q_iload_n c_145_12 rfl ?_)))))))
        refine v_pi (z := 0) c_145_13 kf_8_3 rfl (Nat.le_of_ble_eq_true rfl) rfl rfl rfl (of_decide_eq_true rfl) (q_aload_n c_145_16 rfl (v_gr (t := 42) c_145_17 kf_8_7 rfl (Nat.le_of_ble_eq_true rfl) rfl (q_iload_n c_145_20 rfl (q_dup2 c_145_21 ⟨rfl, rfl⟩ ?_))))
        have h_43 := ir_42 hI 1
        refine v_ia (v := c 42 1) c_145_22 rfl (of_decide_eq_true rfl) (of_decide_eq_true rfl) (of_decide_eq_true rfl) ((up_c (nn rfl)).trans (up_c (nn rfl))) (q_iconst c_145_23 (v_iadd (v := c 42 1 + 1) c_145_24 rfl (v_nrm (fun y_44 hy_44 => (v_is c_145_25 rfl (of_decide_eq_true rfl) (of_decide_eq_true rfl) (of_decide_eq_true rfl) (q_aload_n c_145_26 rfl (v_gi (z := 0) (v := 1) c_145_27 kf_8_3 rfl (Nat.le_of_ble_eq_true rfl) rfl rfl ((up_c (nn rfl)).trans (up_e rfl)) (v_if_ne_t (t := 37) c_145_30 rfl (of_decide_eq_true rfl) ?_))))))))
        refine q_iconst c_145_37 (v_zret c_145_38 rfl (of_decide_eq_true rfl) (bk_inl (v_if_ne_f (t := 49) c_228_44 rfl (of_decide_eq_true rfl) (q_iconst c_228_47 (q_iret c_228_48 rfl ?_)))))
        have hI_45 := iw_41_0 (v := 0) hI ⟨of_decide_eq_true rfl, of_decide_eq_true rfl⟩
        have hI_46 := iw_41_0 (v := 1) hI_45 ⟨of_decide_eq_true rfl, of_decide_eq_true rfl⟩
        have hI_47 := iw_42 (j := 1) (v := y_44) hI_46 ⟨hy_44.1, hy_44.2⟩
        exact K (up (up (up c 41 0 0) 41 0 1) 42 1 y_44) 0 hI_47 (fun a j hm => (up_b (Decidable.or_iff_not_imp_left.mpr (fun h1 h2 => hm (Or.inr (Or.inl (Decidable.not_not.mp h1)))))).trans ((up_b (Decidable.or_iff_not_imp_left.mpr (fun h1 h2 => hm (Or.inl ⟨Decidable.not_not.mp h1, h2⟩)))).trans (up_b (Decidable.or_iff_not_imp_left.mpr (fun h1 h2 => hm (Or.inl ⟨Decidable.not_not.mp h1, h2⟩)))))) ⟨of_decide_eq_true rfl, of_decide_eq_true rfl⟩
      · refine v_ic_lt_f (t := 14) c_146_2 rfl ⟨of_decide_eq_true rfl, (Int.not_lt.mp h_42), ha2.2⟩ (q_iload_n c_146_5 rfl (q_iload_n c_146_6 rfl ?_))
        by_cases h_48 : a2 > 99999
        · refine v_ic_gt_t (t := 14) c_146_7 rfl ⟨of_decide_eq_true rfl, h_48, ha2.2⟩ (q_iconst c_146_14 (v_zret c_146_15 rfl (of_decide_eq_true rfl) (bk_inl (v_if_eq_t (t := 38) c_228_22 rfl (of_decide_eq_true rfl) (q_iconst c_228_38 (q_iconst c_228_39 (q_iconst c_228_40 ?_)))))))
          refine v_cv c_228_41 km_8_203 rfl rfl (Nat.le_of_ble_eq_true rfl) ⟨⟨rfl, rfl⟩, Nat.le_of_ble_eq_true rfl, rfl⟩ (Nat.le_of_ble_eq_true rfl) (Nat.le_of_ble_eq_true rfl) (q_iload_n c_145_0 rfl (v_if_ne_f (t := 26) c_145_1 rfl (of_decide_eq_true rfl) (q_aload_n c_145_4 rfl (v_gi (z := 0) (v := 0) c_145_5 kf_8_3 rfl (Nat.le_of_ble_eq_true rfl) rfl rfl (up_e rfl) (v_if_ne_f (t := 26) c_145_8 rfl (of_decide_eq_true rfl) (q_aload_n c_145_11 rfl (q_iload_n c_145_12 rfl ?_)))))))
          refine v_pi (z := 0) c_145_13 kf_8_3 rfl (Nat.le_of_ble_eq_true rfl) rfl rfl rfl (of_decide_eq_true rfl) (q_aload_n c_145_16 rfl (v_gr (t := 42) c_145_17 kf_8_7 rfl (Nat.le_of_ble_eq_true rfl) rfl (q_iload_n c_145_20 rfl (q_dup2 c_145_21 ⟨rfl, rfl⟩ ?_))))
          have h_49 := ir_42 hI 1
          refine v_ia (v := c 42 1) c_145_22 rfl (of_decide_eq_true rfl) (of_decide_eq_true rfl) (of_decide_eq_true rfl) ((up_c (nn rfl)).trans (up_c (nn rfl))) (q_iconst c_145_23 (v_iadd (v := c 42 1 + 1) c_145_24 rfl (v_nrm (fun y_50 hy_50 => (v_is c_145_25 rfl (of_decide_eq_true rfl) (of_decide_eq_true rfl) (of_decide_eq_true rfl) (q_aload_n c_145_26 rfl (v_gi (z := 0) (v := 1) c_145_27 kf_8_3 rfl (Nat.le_of_ble_eq_true rfl) rfl rfl ((up_c (nn rfl)).trans (up_e rfl)) (v_if_ne_t (t := 37) c_145_30 rfl (of_decide_eq_true rfl) ?_))))))))
          refine q_iconst c_145_37 (v_zret c_145_38 rfl (of_decide_eq_true rfl) (bk_inl (v_if_ne_f (t := 49) c_228_44 rfl (of_decide_eq_true rfl) (q_iconst c_228_47 (q_iret c_228_48 rfl ?_)))))
          have hI_51 := iw_41_0 (v := 0) hI ⟨of_decide_eq_true rfl, of_decide_eq_true rfl⟩
          have hI_52 := iw_41_0 (v := 1) hI_51 ⟨of_decide_eq_true rfl, of_decide_eq_true rfl⟩
          have hI_53 := iw_42 (j := 1) (v := y_50) hI_52 ⟨hy_50.1, hy_50.2⟩
          exact K (up (up (up c 41 0 0) 41 0 1) 42 1 y_50) 0 hI_53 (fun a j hm => (up_b (Decidable.or_iff_not_imp_left.mpr (fun h1 h2 => hm (Or.inr (Or.inl (Decidable.not_not.mp h1)))))).trans ((up_b (Decidable.or_iff_not_imp_left.mpr (fun h1 h2 => hm (Or.inl ⟨Decidable.not_not.mp h1, h2⟩)))).trans (up_b (Decidable.or_iff_not_imp_left.mpr (fun h1 h2 => hm (Or.inl ⟨Decidable.not_not.mp h1, h2⟩)))))) ⟨of_decide_eq_true rfl, of_decide_eq_true rfl⟩
        · refine v_ic_gt_f (t := 14) c_146_7 rfl ⟨ha2.1, (Int.not_lt.mp h_48), of_decide_eq_true rfl⟩ (q_iconst c_146_10 (q_goto (t := 15) c_146_11 rfl (v_zret c_146_15 rfl (of_decide_eq_true rfl) (bk_inl (v_if_eq_f (t := 38) c_228_22 rfl (of_decide_eq_true rfl) (q_iload_n c_228_25 rfl (q_iconst c_228_26 ?_)))))))
          refine q_iconst c_228_27 (q_call c_228_28 rfl rfl rfl (q_iload_n c_146_0 rfl (q_iload_n c_146_1 rfl ?_)))
          by_cases h_54 : a3 < 0
          · refine v_ic_lt_t (t := 14) c_146_2 rfl ⟨ha3.1, h_54, of_decide_eq_true rfl⟩ (q_iconst c_146_14 (v_zret c_146_15 rfl (of_decide_eq_true rfl) (bk_inl (v_if_eq_t (t := 38) c_228_31 rfl (of_decide_eq_true rfl) (q_iconst c_228_38 (q_iconst c_228_39 (q_iconst c_228_40 ?_)))))))
            refine v_cv c_228_41 km_8_203 rfl rfl (Nat.le_of_ble_eq_true rfl) ⟨⟨rfl, rfl⟩, Nat.le_of_ble_eq_true rfl, rfl⟩ (Nat.le_of_ble_eq_true rfl) (Nat.le_of_ble_eq_true rfl) (q_iload_n c_145_0 rfl (v_if_ne_f (t := 26) c_145_1 rfl (of_decide_eq_true rfl) (q_aload_n c_145_4 rfl (v_gi (z := 0) (v := 0) c_145_5 kf_8_3 rfl (Nat.le_of_ble_eq_true rfl) rfl rfl (up_e rfl) (v_if_ne_f (t := 26) c_145_8 rfl (of_decide_eq_true rfl) (q_aload_n c_145_11 rfl (q_iload_n c_145_12 rfl ?_)))))))
            refine v_pi (z := 0) c_145_13 kf_8_3 rfl (Nat.le_of_ble_eq_true rfl) rfl rfl rfl (of_decide_eq_true rfl) (q_aload_n c_145_16 rfl (v_gr (t := 42) c_145_17 kf_8_7 rfl (Nat.le_of_ble_eq_true rfl) rfl (q_iload_n c_145_20 rfl (q_dup2 c_145_21 ⟨rfl, rfl⟩ ?_))))
            have h_55 := ir_42 hI 1
            refine v_ia (v := c 42 1) c_145_22 rfl (of_decide_eq_true rfl) (of_decide_eq_true rfl) (of_decide_eq_true rfl) ((up_c (nn rfl)).trans (up_c (nn rfl))) (q_iconst c_145_23 (v_iadd (v := c 42 1 + 1) c_145_24 rfl (v_nrm (fun y_56 hy_56 => (v_is c_145_25 rfl (of_decide_eq_true rfl) (of_decide_eq_true rfl) (of_decide_eq_true rfl) (q_aload_n c_145_26 rfl (v_gi (z := 0) (v := 1) c_145_27 kf_8_3 rfl (Nat.le_of_ble_eq_true rfl) rfl rfl ((up_c (nn rfl)).trans (up_e rfl)) (v_if_ne_t (t := 37) c_145_30 rfl (of_decide_eq_true rfl) ?_))))))))
            refine q_iconst c_145_37 (v_zret c_145_38 rfl (of_decide_eq_true rfl) (bk_inl (v_if_ne_f (t := 49) c_228_44 rfl (of_decide_eq_true rfl) (q_iconst c_228_47 (q_iret c_228_48 rfl ?_)))))
            have hI_57 := iw_41_0 (v := 0) hI ⟨of_decide_eq_true rfl, of_decide_eq_true rfl⟩
            have hI_58 := iw_41_0 (v := 1) hI_57 ⟨of_decide_eq_true rfl, of_decide_eq_true rfl⟩
            have hI_59 := iw_42 (j := 1) (v := y_56) hI_58 ⟨hy_56.1, hy_56.2⟩
            exact K (up (up (up c 41 0 0) 41 0 1) 42 1 y_56) 0 hI_59 (fun a j hm => (up_b (Decidable.or_iff_not_imp_left.mpr (fun h1 h2 => hm (Or.inr (Or.inl (Decidable.not_not.mp h1)))))).trans ((up_b (Decidable.or_iff_not_imp_left.mpr (fun h1 h2 => hm (Or.inl ⟨Decidable.not_not.mp h1, h2⟩)))).trans (up_b (Decidable.or_iff_not_imp_left.mpr (fun h1 h2 => hm (Or.inl ⟨Decidable.not_not.mp h1, h2⟩)))))) ⟨of_decide_eq_true rfl, of_decide_eq_true rfl⟩
          · refine v_ic_lt_f (t := 14) c_146_2 rfl ⟨of_decide_eq_true rfl, (Int.not_lt.mp h_54), ha3.2⟩ (q_iload_n c_146_5 rfl (q_iload_n c_146_6 rfl ?_))
            by_cases h_60 : a3 > 2
            · refine v_ic_gt_t (t := 14) c_146_7 rfl ⟨of_decide_eq_true rfl, h_60, ha3.2⟩ (q_iconst c_146_14 (v_zret c_146_15 rfl (of_decide_eq_true rfl) (bk_inl (v_if_eq_t (t := 38) c_228_31 rfl (of_decide_eq_true rfl) (q_iconst c_228_38 (q_iconst c_228_39 (q_iconst c_228_40 ?_)))))))
              refine v_cv c_228_41 km_8_203 rfl rfl (Nat.le_of_ble_eq_true rfl) ⟨⟨rfl, rfl⟩, Nat.le_of_ble_eq_true rfl, rfl⟩ (Nat.le_of_ble_eq_true rfl) (Nat.le_of_ble_eq_true rfl) (q_iload_n c_145_0 rfl (v_if_ne_f (t := 26) c_145_1 rfl (of_decide_eq_true rfl) (q_aload_n c_145_4 rfl (v_gi (z := 0) (v := 0) c_145_5 kf_8_3 rfl (Nat.le_of_ble_eq_true rfl) rfl rfl (up_e rfl) (v_if_ne_f (t := 26) c_145_8 rfl (of_decide_eq_true rfl) (q_aload_n c_145_11 rfl (q_iload_n c_145_12 rfl ?_)))))))
              refine v_pi (z := 0) c_145_13 kf_8_3 rfl (Nat.le_of_ble_eq_true rfl) rfl rfl rfl (of_decide_eq_true rfl) (q_aload_n c_145_16 rfl (v_gr (t := 42) c_145_17 kf_8_7 rfl (Nat.le_of_ble_eq_true rfl) rfl (q_iload_n c_145_20 rfl (q_dup2 c_145_21 ⟨rfl, rfl⟩ ?_))))
              have h_61 := ir_42 hI 1
              refine v_ia (v := c 42 1) c_145_22 rfl (of_decide_eq_true rfl) (of_decide_eq_true rfl) (of_decide_eq_true rfl) ((up_c (nn rfl)).trans (up_c (nn rfl))) (q_iconst c_145_23 (v_iadd (v := c 42 1 + 1) c_145_24 rfl (v_nrm (fun y_62 hy_62 => (v_is c_145_25 rfl (of_decide_eq_true rfl) (of_decide_eq_true rfl) (of_decide_eq_true rfl) (q_aload_n c_145_26 rfl (v_gi (z := 0) (v := 1) c_145_27 kf_8_3 rfl (Nat.le_of_ble_eq_true rfl) rfl rfl ((up_c (nn rfl)).trans (up_e rfl)) (v_if_ne_t (t := 37) c_145_30 rfl (of_decide_eq_true rfl) ?_))))))))
              refine q_iconst c_145_37 (v_zret c_145_38 rfl (of_decide_eq_true rfl) (bk_inl (v_if_ne_f (t := 49) c_228_44 rfl (of_decide_eq_true rfl) (q_iconst c_228_47 (q_iret c_228_48 rfl ?_)))))
              have hI_63 := iw_41_0 (v := 0) hI ⟨of_decide_eq_true rfl, of_decide_eq_true rfl⟩
              have hI_64 := iw_41_0 (v := 1) hI_63 ⟨of_decide_eq_true rfl, of_decide_eq_true rfl⟩
              have hI_65 := iw_42 (j := 1) (v := y_62) hI_64 ⟨hy_62.1, hy_62.2⟩
              exact K (up (up (up c 41 0 0) 41 0 1) 42 1 y_62) 0 hI_65 (fun a j hm => (up_b (Decidable.or_iff_not_imp_left.mpr (fun h1 h2 => hm (Or.inr (Or.inl (Decidable.not_not.mp h1)))))).trans ((up_b (Decidable.or_iff_not_imp_left.mpr (fun h1 h2 => hm (Or.inl ⟨Decidable.not_not.mp h1, h2⟩)))).trans (up_b (Decidable.or_iff_not_imp_left.mpr (fun h1 h2 => hm (Or.inl ⟨Decidable.not_not.mp h1, h2⟩)))))) ⟨of_decide_eq_true rfl, of_decide_eq_true rfl⟩
            · refine v_ic_gt_f (t := 14) c_146_7 rfl ⟨ha3.1, (Int.not_lt.mp h_60), of_decide_eq_true rfl⟩ (q_iconst c_146_10 (q_goto (t := 15) c_146_11 rfl (v_zret c_146_15 rfl (of_decide_eq_true rfl) (bk_inl (v_if_eq_f (t := 38) c_228_31 rfl (of_decide_eq_true rfl) (q_iconst c_228_34 (q_goto (t := 39) c_228_35 rfl ?_)))))))
              refine q_iconst c_228_39 (q_iconst c_228_40 (v_cv c_228_41 km_8_203 rfl rfl (Nat.le_of_ble_eq_true rfl) ⟨⟨rfl, rfl⟩, Nat.le_of_ble_eq_true rfl, rfl⟩ (Nat.le_of_ble_eq_true rfl) (Nat.le_of_ble_eq_true rfl) (q_iload_n c_145_0 rfl (v_if_ne_t (t := 26) c_145_1 rfl (of_decide_eq_true rfl) (q_aload_n c_145_26 rfl (v_gi (z := 0) (v := 0) c_145_27 kf_8_3 rfl (Nat.le_of_ble_eq_true rfl) rfl rfl (up_e rfl) (v_if_ne_f (t := 37) c_145_30 rfl (of_decide_eq_true rfl) ?_)))))))
              refine q_iconst c_145_33 (q_goto (t := 38) c_145_34 rfl (v_zret c_145_38 rfl (of_decide_eq_true rfl) (bk_inl (v_if_ne_t (t := 49) c_228_44 rfl (of_decide_eq_true rfl) (q_aload_n c_228_49 rfl ?_)))))
              have hI_66 := iw_41_0 (v := 0) hI ⟨of_decide_eq_true rfl, of_decide_eq_true rfl⟩
              refine v_cv c_228_50 km_8_317 rfl rfl (Nat.le_of_ble_eq_true rfl) ⟨⟨rfl, rfl⟩, Nat.le_of_ble_eq_true rfl, rfl⟩ (Nat.le_of_ble_eq_true rfl) (Nat.le_of_ble_eq_true rfl) (s_186 hI_66 (fun c_67 hI_68 hF_69 => (bk_inl (q_iload_n c_228_53 rfl (q_aload_n c_228_54 rfl (v_cv c_228_55 km_8_390 rfl rfl (Nat.le_of_ble_eq_true rfl) ⟨⟨rfl, rfl⟩, Nat.le_of_ble_eq_true rfl, rfl⟩ (Nat.le_of_ble_eq_true rfl) (Nat.le_of_ble_eq_true rfl) (s_209 hI_68 (fun y_70 hy_70 => (bk_inl (q_iconst c_228_58 (v_ixorx c_228_59 (fun y_71 hy_71 => ?_))))))))))))
              refine v_iandl c_228_60 ⟨by omega, by omega⟩ (fun y_72 hy_72 => (q_istore c_228_61 (Nat.le_of_ble_eq_true rfl) (q_iconst c_228_63 (q_istore c_228_64 (Nat.le_of_ble_eq_true rfl) (q_iconst c_228_66 (q_istore c_228_67 (Nat.le_of_ble_eq_true rfl) (Wp_ls [(0, .ref 41), (1, vi a1), (2, vi a2), (3, vi a3), (4, vi y_72), (5, vi 0), (6, vi 1)] (lsub_cons rfl (lsub_cons rfl (lsub_cons rfl (lsub_cons rfl (lsub_cons rfl (lsub_cons rfl (lsub_cons rfl lsub_nil))))))) ?_)))))))
              exact (s_228_l (sc := sc) (d := d) hI ha1 ha2 ha3 K 130) c_67 y_72 0 1 hI_68 (fun a j hm => (hF_69 a j (fun h => hm (Or.inr (Or.inr (Or.inl h))))).trans (up_b (Decidable.or_iff_not_imp_left.mpr (fun h1 h2 => hm (Or.inl ⟨Decidable.not_not.mp h1, h2⟩))))) ⟨by omega, by omega⟩ ⟨of_decide_eq_true rfl, of_decide_eq_true rfl⟩ ⟨of_decide_eq_true rfl, of_decide_eq_true rfl⟩ (by omega)

set_option maxRecDepth 100000 in
set_option maxHeartbeats 4000000 in
theorem s_229_l {sc : List Int32} {e : Int} {d u P Q : Nat} {c : ME} {a1 : Int} {a2 : Int} {Z : AR → Prop} (hI : Iv u e P Q c) (ha1 : 0 ≤ a1 ∧ a1 ≤ 3) (ha2 : 0 ≤ a2 ∧ a2 ≤ 5) (K : ∀ (y : Int), 0 ≤ y ∧ y ≤ 1 → Z (.inl (some (vi y)), Wd P Q P P c, 0, 0)) : ∀ n : Nat, (∀ (v3 : Int), 0 ≤ v3 ∧ v3 ≤ 4 → 9 - 2 * v3 < (n : Int) → Wp sc (d + 8) 229 12 [(0, .ref 41), (1, vi a1), (2, vi a2), (3, vi v3)] [] (Wd P Q P P c) 0 0 Z) := by
  intro n
  induction n with
  | zero => exact (by intro v3 hv3 hm9; have hP := iv_P hI; have hQ := iv_Q hI; exfalso; omega)
  | succ n ih =>
    have hP := iv_P hI
    have hQ := iv_Q hI
    intro v3 hv3 hm9
    refine q_iload_n c_229_12 rfl (q_iconst c_229_13 ?_)
    by_cases h_1 : v3 ≥ 4
    · refine v_ic_ge_t (t := 51) c_229_14 rfl ⟨of_decide_eq_true rfl, h_1, (ler hv3.2 rfl)⟩ (q_iconst c_229_51 (v_zret c_229_52 rfl (of_decide_eq_true rfl) ?_))
      exact K 1 ⟨of_decide_eq_true rfl, of_decide_eq_true rfl⟩
    · refine v_ic_ge_f (t := 51) c_229_14 rfl ⟨(lel hv3.1 rfl), (Int.not_le.mp h_1), of_decide_eq_true rfl⟩ (q_aload_n c_229_17 rfl (v_gr (t := 64) c_229_18 kf_8_83 rfl (Nat.le_of_ble_eq_true rfl) rfl (q_iload_n c_229_21 rfl ?_)))
      have h_2 := ir_64 hI v3
      refine v_ia (v := c 64 v3) c_229_22 rfl (of_decide_eq_true rfl) (of_decide_eq_true rfl) ⟨hv3.1, (q_2e808647e h_1)⟩ rfl (q_iconst c_229_23 ?_)
      by_cases h_3 : c 64 v3 = (-1)
      · refine v_ic_eq_t (t := 45) c_229_24 rfl h_3 (v_iinc (v := v3 + 1) c_229_45 rfl (Nat.le_of_ble_eq_true rfl) rfl (q_goto (t := 12) c_229_48 rfl (Wp_ls [(0, .ref 41), (1, vi a1), (2, vi a2), (3, vi (v3 + 1))] (lsub_cons rfl (lsub_cons rfl (lsub_cons rfl (lsub_cons rfl lsub_nil)))) ?_)))
        exact ih (v3 + 1) ⟨(rgp_l hv3.1 (of_decide_eq_true rfl)), (q_121241f94 h_1)⟩ (by omega)
      · refine v_ic_eq_f (t := 45) c_229_24 rfl ⟨h_3, ⟨(lel h_2.1 rfl), (ler h_2.2 rfl)⟩, of_decide_eq_true rfl, of_decide_eq_true rfl⟩ (q_aload_n c_229_27 rfl (q_iload_n c_229_28 rfl (q_iload_n c_229_29 rfl (q_iload_n c_229_30 rfl ?_))))
        have h_4 := ir_49 hI a1
        have h_5 := ir_59 hI (a1 + 30)
        have h_6 := ir_59_g hI (j := 4 * a2 + v3) ((q_e3e978779 h_1 ha2))
        have h_7 := fal_rng (m := c 49 a1) (t := c 59 (a1 + 30)) (g := v3) (x := c 59 (4 * a2 + v3)) ((q_c6ed8760d h_6))
        refine v_cv c_229_31 km_8_363 rfl rfl (Nat.le_of_ble_eq_true rfl) ⟨⟨rfl, rfl⟩, Nat.le_of_ble_eq_true rfl, rfl⟩ (Nat.le_of_ble_eq_true rfl) (Nat.le_of_ble_eq_true rfl) (s_189 (v1 := c 49 a1) (v2 := c 59 (a1 + 30)) (v3 := c 59 (4 * a2 + v3)) (r := (fal (c 49 a1) (c 59 (a1 + 30)) v3 (c 59 (4 * a2 + v3)))) (a1 := a1) (a2 := a2) (a3 := v3) hI (show 0 ≤ a1 ∧ a1 ≤ 3 from ha1) (show 0 ≤ a2 ∧ a2 ≤ 5 from ha2) (show 0 ≤ v3 ∧ v3 ≤ 3 from ⟨hv3.1, (q_482ef8d41 h_1)⟩) (rfl) (rfl) (rfl) rfl (bk_inl (q_aload_n c_229_34 rfl (v_gr (t := 64) c_229_35 kf_8_83 rfl (Nat.le_of_ble_eq_true rfl) rfl (q_iload_n c_229_38 rfl (v_ia (v := c 64 v3) c_229_39 rfl (of_decide_eq_true rfl) (of_decide_eq_true rfl) ⟨hv3.1, (q_2e808647e h_1)⟩ rfl ?_))))))
        by_cases h_8 : (fal (c 49 a1) (c 59 (a1 + 30)) v3 (c 59 (4 * a2 + v3))) = c 64 v3
        · refine v_ic_eq_t (t := 45) c_229_40 rfl h_8 (v_iinc (v := v3 + 1) c_229_45 rfl (Nat.le_of_ble_eq_true rfl) rfl (q_goto (t := 12) c_229_48 rfl (Wp_ls [(0, .ref 41), (1, vi a1), (2, vi a2), (3, vi (v3 + 1))] (lsub_cons rfl (lsub_cons rfl (lsub_cons rfl (lsub_cons rfl lsub_nil)))) ?_)))
          exact ih (v3 + 1) ⟨(rgp_l hv3.1 (of_decide_eq_true rfl)), (q_121241f94 h_1)⟩ (by omega)
        · refine v_ic_eq_f (t := 45) c_229_40 rfl ⟨h_8, ⟨(q_fda856264 h_7), (q_4bf067e8d h_6 h_7)⟩, (lel h_2.1 rfl), (ler h_2.2 rfl)⟩ (q_iconst c_229_43 (v_zret c_229_44 rfl (of_decide_eq_true rfl) ?_))
          exact K 0 ⟨of_decide_eq_true rfl, of_decide_eq_true rfl⟩
set_option maxRecDepth 100000 in
set_option maxHeartbeats 4000000 in
theorem s_229 {sc : List Int32} {e : Int} {d u P Q : Nat} {c : ME} {a1 : Int} {a2 : Int} {Z : AR → Prop} (hI : Iv u e P Q c) (ha1 : 0 ≤ a1 ∧ a1 ≤ 3) (ha2 : 0 ≤ a2 ∧ a2 ≤ 5) (K : ∀ (y : Int), 0 ≤ y ∧ y ≤ 1 → Z (.inl (some (vi y)), Wd P Q P P c, 0, 0)) : Wp sc (d + 8) 229 0 [(0, .ref 41), (1, vi a1), (2, vi a2)] [] (Wd P Q P P c) 0 0 Z := by
  have hP := iv_P hI
  have hQ := iv_Q hI
  refine q_aload_n c_229_0 rfl (q_iload_n c_229_1 rfl ?_)
  have h_9 := ir_59_g hI (j := 4 * a2) ((q_9f1d5ffdc ha2))
  have h_10 := ir_59_g hI (j := 4 * a2 + 1) ((q_0a2ee6f8f ha2))
  have h_11 := ir_59_g hI (j := 4 * a2 + 2) ((q_e07a293a2 ha2))
  have h_12 := ir_59_g hI (j := 4 * a2 + 3) ((q_d09cb0b73 ha2))
  refine v_cv c_229_2 km_8_343 rfl rfl (Nat.le_of_ble_eq_true rfl) ⟨⟨rfl, rfl⟩, Nat.le_of_ble_eq_true rfl, rfl⟩ (Nat.le_of_ble_eq_true rfl) (Nat.le_of_ble_eq_true rfl) (s_187 (v1 := c 59 (4 * a2)) (v2 := c 59 (4 * a2 + 1)) (v3 := c 59 (4 * a2 + 2)) (v4 := c 59 (4 * a2 + 3)) (r := c 59 (4 * a2 + 1) + c 59 (4 * a2 + 2) + c 59 (4 * a2 + 3) + c 59 (4 * a2)) (a1 := a2) hI (show 0 ≤ a2 ∧ a2 ≤ 5 from ha2) (rfl) (rfl) (rfl) (rfl) (by omega) (bk_inl ?_))
  by_cases h_13 : c 59 (4 * a2 + 1) + c 59 (4 * a2 + 2) + c 59 (4 * a2 + 3) + c 59 (4 * a2) ≠ 0
  · refine v_if_ne_t (t := 10) c_229_5 rfl ⟨h_13, ⟨(q_8c4697e7c h_10 h_11 h_12 h_9), (q_46d991406 h_10 h_11 h_12 h_9)⟩, of_decide_eq_true rfl, of_decide_eq_true rfl⟩ (q_iconst c_229_10 (q_istore_n c_229_11 (Nat.le_of_ble_eq_true rfl) (Wp_ls [(0, .ref 41), (1, vi a1), (2, vi a2), (3, vi 0)] (lsub_cons rfl (lsub_cons rfl (lsub_cons rfl (lsub_cons rfl lsub_nil)))) ?_)))
    exact (s_229_l (sc := sc) (d := d) hI ha1 ha2 K 12) 0 ⟨of_decide_eq_true rfl, of_decide_eq_true rfl⟩ (by omega)
  · refine v_if_ne_f (t := 10) c_229_5 rfl (Decidable.not_not.mp h_13) (q_iconst c_229_8 (v_zret c_229_9 rfl (of_decide_eq_true rfl) ?_))
    exact K 0 ⟨of_decide_eq_true rfl, of_decide_eq_true rfl⟩

set_option maxRecDepth 100000 in
set_option maxHeartbeats 4000000 in
theorem s_230_l {sc : List Int32} {d P Q : Nat} {c : ME} {a1 : Int} {Z : AR → Prop} (hI : Iv 0 (-1) P Q c) (ha1 : (-2147483648) ≤ a1 ∧ a1 ≤ 2147483647) (K : ∀ (c2 : ME) (y : Int), Iv 0 (-1) P Q c2 → (∀ (a : Nat) (j : Int), ¬ ((a = 41 ∧ j = 0) ∨ a = 42 ∨ a = 59) → c2 a j = c a j) → (-2147483648) ≤ y ∧ y ≤ 2147483647 → Z (.inl (some (vi y)), Wd P Q P P c2, 0, 0)) : ∀ n : Nat, (∀ (c2 : ME) (v2 : Int) (v3 : Int) (v4 : Int), Iv 0 (-1) P Q c2 → (∀ (a : Nat) (j : Int), ¬ ((a = 41 ∧ j = 0) ∨ a = 42 ∨ a = 59) → c2 a j = c a j) → (-2147483648) ≤ v2 ∧ v2 ≤ 2147483647 → (-2147483648) ≤ v3 ∧ v3 ≤ 2147483647 → 0 ≤ v4 ∧ v4 ≤ 24 → 49 - 2 * v4 < (n : Int) → Wp sc (d + 9) 230 33 [(0, .ref 41), (1, vi a1), (2, vi v2), (3, vi v3), (4, vi v4)] [] (Wd P Q P P c2) 0 0 Z) := by
  intro n
  induction n with
  | zero => exact (by intro c2 v2 v3 v4 hI2 hF hv2 hv3 hv4 hm9; have hP := iv_P hI; have hQ := iv_Q hI; exfalso; omega)
  | succ n ih =>
    have hP := iv_P hI
    have hQ := iv_Q hI
    intro c2 v2 v3 v4 hI2 hF hv2 hv3 hv4 hm9
    refine q_iload c_230_33 rfl (q_aload_n c_230_35 rfl ?_)
    have h_1 := ir_41_22 hI
    have kn_2 : Hid (c2 41 22 = c 41 22) := hF 41 22 qn_1a460b46b
    refine v_gi (z := 22) (v := c 41 22) c_230_36 kf_8_163 rfl (Nat.le_of_ble_eq_true rfl) rfl rfl (hid kn_2) (q_aload_n c_230_39 rfl ?_)
    have h_3 := ir_41_20 hI
    have kn_4 : Hid (c2 41 20 = c 41 20) := hF 41 20 qn_110b29ed6
    refine v_gi (z := 20) (v := c 41 20) c_230_40 kf_8_157 rfl (Nat.le_of_ble_eq_true rfl) rfl rfl (hid kn_4) ?_
    have h_5 : 0 ≤ (c 41 22) * (c 41 20) ∧ (c 41 22) * (c 41 20) ≤ 6 * (c 41 22) := mul_bd (by omega) (by omega) (by omega)
    have h_6 : 0 ≤ (c 41 22) * (c 41 20) ∧ (c 41 22) * (c 41 20) ≤ 4 * (c 41 20) := mul_bd2 (by omega) (by omega) (by omega)
    refine v_imul (v := ((c 41 22) * (c 41 20))) c_230_43 rfl ?_
    by_cases h_7 : v4 ≥ ((c 41 22) * (c 41 20))
    · refine v_ic_ge_t (t := 108) c_230_44 rfl ⟨by omega, h_7, (ler hv4.2 rfl)⟩ (q_iload_n c_230_108 rfl ?_)
      by_cases h_8 : a1 ≠ 0
      · refine v_if_ne_t (t := 116) c_230_109 rfl ⟨h_8, ⟨ha1.1, ha1.2⟩, of_decide_eq_true rfl, of_decide_eq_true rfl⟩ (q_iload_n c_230_116 rfl (q_iret c_230_117 rfl ?_))
        exact K c2 v3 hI2 (fun a j hm => hF a j hm) hv3
      · refine v_if_ne_f (t := 116) c_230_109 rfl (Decidable.not_not.mp h_8) (q_iload_n c_230_112 rfl (q_goto (t := 117) c_230_113 rfl (q_iret c_230_117 rfl ?_)))
        exact K c2 v2 hI2 (fun a j hm => hF a j hm) hv2
    · refine v_ic_ge_f (t := 108) c_230_44 rfl ⟨(lel hv4.1 rfl), (Int.not_le.mp h_7), by omega⟩ (q_aload_n c_230_47 rfl (q_iload c_230_48 rfl (q_aload_n c_230_50 rfl (v_gi (z := 20) (v := c 41 20) c_230_51 kf_8_157 rfl (Nat.le_of_ble_eq_true rfl) rfl rfl (hid kn_4) ?_))))
      have h_9 : 0 ≤ (v4 / (c 41 20)) ∧ (v4 / (c 41 20)) < c 41 22 := div_lt (by omega) (by omega) (by omega)
      refine v_idiv (v := (v4 / (c 41 20))) c_230_54 (by omega) rfl (q_iload c_230_55 rfl (q_aload_n c_230_57 rfl (v_gi (z := 20) (v := c 41 20) c_230_58 kf_8_157 rfl (Nat.le_of_ble_eq_true rfl) rfl rfl (hid kn_4) ?_)))
      have h_10 : 0 ≤ (v4 % (c 41 20)) ∧ (v4 % (c 41 20)) < c 41 20 := rem_bd (by omega)
      refine v_irem (v := (v4 % (c 41 20))) c_230_61 (by omega) rfl (v_cv c_230_62 km_8_417 rfl rfl (Nat.le_of_ble_eq_true rfl) ⟨⟨rfl, rfl⟩, Nat.le_of_ble_eq_true rfl, rfl⟩ (Nat.le_of_ble_eq_true rfl) (Nat.le_of_ble_eq_true rfl) (s_229 (a1 := (v4 / (c 41 20))) (a2 := (v4 % (c 41 20))) hI2 (show 0 ≤ (v4 / (c 41 20)) ∧ (v4 / (c 41 20)) ≤ 3 from ⟨(q_c4fec1d75 h_9), (q_6b730c0e0 h_1 h_9)⟩) (show 0 ≤ (v4 % (c 41 20)) ∧ (v4 % (c 41 20)) ≤ 5 from ⟨(q_c4fec1d75 h_10), (q_5fbbc52e7 h_10 h_3)⟩) (fun y_11 hy_11 => (bk_inl ?_))))
      by_cases h_12 : y_11 ≠ 0
      · refine v_if_ne_t (t := 71) c_230_65 rfl ⟨h_12, ⟨(lel hy_11.1 rfl), (ler hy_11.2 rfl)⟩, of_decide_eq_true rfl, of_decide_eq_true rfl⟩ (v_iincx c_230_71 rfl (of_decide_eq_true rfl) (fun y_13 hy_13 => (q_iload_n c_230_74 rfl (q_iconst c_230_75 ?_))))
        by_cases h_14 : v3 ≠ (-1)
        · refine v_ic_ne_t (t := 100) c_230_76 rfl ⟨h_14, ⟨hv3.1, hv3.2⟩, of_decide_eq_true rfl, of_decide_eq_true rfl⟩ (q_iload_n c_230_100 rfl (q_istore_n c_230_101 (Nat.le_of_ble_eq_true rfl) (v_iinc (v := v4 + 1) c_230_102 rfl (Nat.le_of_ble_eq_true rfl) rfl (q_goto (t := 33) c_230_105 rfl (Wp_ls [(0, .ref 41), (1, vi a1), (2, vi y_13), (3, vi v3), (4, vi (v4 + 1))] (lsub_cons rfl (lsub_cons rfl (lsub_cons rfl (lsub_cons rfl (lsub_cons rfl lsub_nil))))) ?_)))))
          exact ih c2 y_13 v3 (v4 + 1) hI2 (fun a j hm => hF a j hm) hy_13 hv3 ⟨(rgp_l hv4.1 (of_decide_eq_true rfl)), by first | (clear ha1 hv2 hv3 hv4 h_1 h_5 h_9 h_10 h_12 h_14; omega) | omega⟩ (by omega)
        · refine v_ic_ne_f (t := 100) c_230_76 rfl (Decidable.not_not.mp h_14) (v_bip c_230_79 (of_decide_eq_true rfl) (q_iload c_230_81 rfl (q_aload_n c_230_83 rfl (v_gi (z := 20) (v := c 41 20) c_230_84 kf_8_157 rfl (Nat.le_of_ble_eq_true rfl) rfl rfl (hid kn_4) ?_))))
          have h_15 : 0 ≤ (v4 / (c 41 20)) ∧ (v4 / (c 41 20)) < c 41 22 := div_lt (by omega) (by omega) (by omega)
          refine v_idiv (v := (v4 / (c 41 20))) c_230_87 (by omega) rfl (v_imul (v := 10 * (v4 / (c 41 20))) c_230_88 rfl (q_iload c_230_89 rfl (q_aload_n c_230_91 rfl (v_gi (z := 20) (v := c 41 20) c_230_92 kf_8_157 rfl (Nat.le_of_ble_eq_true rfl) rfl rfl (hid kn_4) ?_))))
          have h_16 : 0 ≤ (v4 % (c 41 20)) ∧ (v4 % (c 41 20)) < c 41 20 := rem_bd (by omega)
          refine v_irem (v := (v4 % (c 41 20))) c_230_95 (by omega) rfl (v_iadd (v := (v4 % (c 41 20)) + 10 * (v4 / (c 41 20))) c_230_96 (by first | (clear ha1 hv2 hv3 hv4 h_1 h_3 h_5 h_6 h_7 h_9 h_10 h_14 h_15 h_16 h_12; omega) | omega) (q_goto (t := 101) c_230_97 rfl (q_istore_n c_230_101 (Nat.le_of_ble_eq_true rfl) (v_iinc (v := v4 + 1) c_230_102 rfl (Nat.le_of_ble_eq_true rfl) rfl (q_goto (t := 33) c_230_105 rfl (Wp_ls [(0, .ref 41), (1, vi a1), (2, vi y_13), (3, vi ((v4 % (c 41 20)) + 10 * (v4 / (c 41 20)))), (4, vi (v4 + 1))] (lsub_cons rfl (lsub_cons rfl (lsub_cons rfl (lsub_cons rfl (lsub_cons rfl lsub_nil))))) ?_))))))
          exact ih c2 y_13 ((v4 % (c 41 20)) + 10 * (v4 / (c 41 20))) (v4 + 1) hI2 (fun a j hm => hF a j hm) hy_13 ⟨(q_37f19ee02 h_10 h_9), (q_112b0dcbc h_1 h_10 h_3 h_9)⟩ ⟨(rgp_l hv4.1 (of_decide_eq_true rfl)), by first | (clear ha1 hv2 hv3 hv4 h_1 h_5 h_9 h_10 h_14 h_15 h_16 h_12; omega) | omega⟩ (by omega)
      · refine v_if_ne_f (t := 71) c_230_65 rfl (Decidable.not_not.mp h_12) (q_goto (t := 102) c_230_68 rfl (v_iinc (v := v4 + 1) c_230_102 rfl (Nat.le_of_ble_eq_true rfl) rfl (q_goto (t := 33) c_230_105 rfl (Wp_ls [(0, .ref 41), (1, vi a1), (2, vi v2), (3, vi v3), (4, vi (v4 + 1))] (lsub_cons rfl (lsub_cons rfl (lsub_cons rfl (lsub_cons rfl (lsub_cons rfl lsub_nil))))) ?_))))
        exact ih c2 v2 v3 (v4 + 1) hI2 (fun a j hm => hF a j hm) hv2 hv3 ⟨(rgp_l hv4.1 (of_decide_eq_true rfl)), by omega⟩ (by omega)
set_option maxRecDepth 100000 in
set_option maxHeartbeats 4000000 in
theorem s_230 {sc : List Int32} {d P Q : Nat} {c : ME} {a1 : Int} {Z : AR → Prop} (hI : Iv 0 (-1) P Q c) (ha1 : (-2147483648) ≤ a1 ∧ a1 ≤ 2147483647) (K : ∀ (c2 : ME) (y : Int), Iv 0 (-1) P Q c2 → (∀ (a : Nat) (j : Int), ¬ ((a = 41 ∧ j = 0) ∨ a = 42 ∨ a = 59) → c2 a j = c a j) → (-2147483648) ≤ y ∧ y ≤ 2147483647 → Z (.inl (some (vi y)), Wd P Q P P c2, 0, 0)) : Wp sc (d + 9) 230 0 [(0, .ref 41), (1, vi a1)] [] (Wd P Q P P c) 0 0 Z := by
  have hP := iv_P hI
  have hQ := iv_Q hI
  refine q_aload_n c_230_0 rfl (q_iconst c_230_1 (v_pi (z := 0) c_230_2 kf_8_3 rfl (Nat.le_of_ble_eq_true rfl) rfl rfl rfl (of_decide_eq_true rfl) (q_aload_n c_230_5 rfl (q_iload_n c_230_6 rfl (q_iconst c_230_7 (q_iconst c_230_8 (q_call c_230_9 rfl rfl rfl ?_)))))))
  refine q_iload_n c_146_0 rfl (q_iload_n c_146_1 rfl ?_)
  by_cases h_17 : a1 < 0
  · refine v_ic_lt_t (t := 14) c_146_2 rfl ⟨ha1.1, h_17, of_decide_eq_true rfl⟩ (q_iconst c_146_14 (v_zret c_146_15 rfl (of_decide_eq_true rfl) (bk_inl (q_iconst c_230_12 (q_iconst c_230_13 (v_cv c_230_14 km_8_203 rfl rfl (Nat.le_of_ble_eq_true rfl) ⟨⟨rfl, rfl⟩, Nat.le_of_ble_eq_true rfl, rfl⟩ (Nat.le_of_ble_eq_true rfl) (Nat.le_of_ble_eq_true rfl) (q_iload_n c_145_0 rfl ?_)))))))
    refine v_if_ne_f (t := 26) c_145_1 rfl (of_decide_eq_true rfl) (q_aload_n c_145_4 rfl (v_gi (z := 0) (v := 0) c_145_5 kf_8_3 rfl (Nat.le_of_ble_eq_true rfl) rfl rfl (up_e rfl) (v_if_ne_f (t := 26) c_145_8 rfl (of_decide_eq_true rfl) (q_aload_n c_145_11 rfl (q_iload_n c_145_12 rfl (v_pi (z := 0) c_145_13 kf_8_3 rfl (Nat.le_of_ble_eq_true rfl) rfl rfl rfl (of_decide_eq_true rfl) (q_aload_n c_145_16 rfl ?_)))))))
    refine v_gr (t := 42) c_145_17 kf_8_7 rfl (Nat.le_of_ble_eq_true rfl) rfl (q_iload_n c_145_20 rfl (q_dup2 c_145_21 ⟨rfl, rfl⟩ ?_))
    have h_18 := ir_42 hI 1
    refine v_ia (v := c 42 1) c_145_22 rfl (of_decide_eq_true rfl) (of_decide_eq_true rfl) (of_decide_eq_true rfl) ((up_c (nn rfl)).trans (up_c (nn rfl))) (q_iconst c_145_23 (v_iadd (v := c 42 1 + 1) c_145_24 rfl (v_nrm (fun y_19 hy_19 => (v_is c_145_25 rfl (of_decide_eq_true rfl) (of_decide_eq_true rfl) (of_decide_eq_true rfl) (q_aload_n c_145_26 rfl (v_gi (z := 0) (v := 1) c_145_27 kf_8_3 rfl (Nat.le_of_ble_eq_true rfl) rfl rfl ((up_c (nn rfl)).trans (up_e rfl)) (v_if_ne_t (t := 37) c_145_30 rfl (of_decide_eq_true rfl) ?_))))))))
    refine q_iconst c_145_37 (v_zret c_145_38 rfl (of_decide_eq_true rfl) (bk_inl (v_if_ne_f (t := 22) c_230_17 rfl (of_decide_eq_true rfl) (q_iconst c_230_20 (q_iret c_230_21 rfl ?_)))))
    have hI_20 := iw_41_0 (v := 0) hI ⟨of_decide_eq_true rfl, of_decide_eq_true rfl⟩
    have hI_21 := iw_41_0 (v := 1) hI_20 ⟨of_decide_eq_true rfl, of_decide_eq_true rfl⟩
    have hI_22 := iw_42 (j := 1) (v := y_19) hI_21 ⟨hy_19.1, hy_19.2⟩
    exact K (up (up (up c 41 0 0) 41 0 1) 42 1 y_19) 0 hI_22 (fun a j hm => (up_b (Decidable.or_iff_not_imp_left.mpr (fun h1 h2 => hm (Or.inr (Or.inl (Decidable.not_not.mp h1)))))).trans ((up_b (Decidable.or_iff_not_imp_left.mpr (fun h1 h2 => hm (Or.inl ⟨Decidable.not_not.mp h1, h2⟩)))).trans (up_b (Decidable.or_iff_not_imp_left.mpr (fun h1 h2 => hm (Or.inl ⟨Decidable.not_not.mp h1, h2⟩)))))) ⟨of_decide_eq_true rfl, of_decide_eq_true rfl⟩
  · refine v_ic_lt_f (t := 14) c_146_2 rfl ⟨of_decide_eq_true rfl, (Int.not_lt.mp h_17), ha1.2⟩ (q_iload_n c_146_5 rfl (q_iload_n c_146_6 rfl ?_))
    by_cases h_23 : a1 > 1
    · refine v_ic_gt_t (t := 14) c_146_7 rfl ⟨of_decide_eq_true rfl, h_23, ha1.2⟩ (q_iconst c_146_14 (v_zret c_146_15 rfl (of_decide_eq_true rfl) (bk_inl (q_iconst c_230_12 (q_iconst c_230_13 (v_cv c_230_14 km_8_203 rfl rfl (Nat.le_of_ble_eq_true rfl) ⟨⟨rfl, rfl⟩, Nat.le_of_ble_eq_true rfl, rfl⟩ (Nat.le_of_ble_eq_true rfl) (Nat.le_of_ble_eq_true rfl) (q_iload_n c_145_0 rfl ?_)))))))
      refine v_if_ne_f (t := 26) c_145_1 rfl (of_decide_eq_true rfl) (q_aload_n c_145_4 rfl (v_gi (z := 0) (v := 0) c_145_5 kf_8_3 rfl (Nat.le_of_ble_eq_true rfl) rfl rfl (up_e rfl) (v_if_ne_f (t := 26) c_145_8 rfl (of_decide_eq_true rfl) (q_aload_n c_145_11 rfl (q_iload_n c_145_12 rfl (v_pi (z := 0) c_145_13 kf_8_3 rfl (Nat.le_of_ble_eq_true rfl) rfl rfl rfl (of_decide_eq_true rfl) (q_aload_n c_145_16 rfl ?_)))))))
      refine v_gr (t := 42) c_145_17 kf_8_7 rfl (Nat.le_of_ble_eq_true rfl) rfl (q_iload_n c_145_20 rfl (q_dup2 c_145_21 ⟨rfl, rfl⟩ ?_))
      have h_24 := ir_42 hI 1
      refine v_ia (v := c 42 1) c_145_22 rfl (of_decide_eq_true rfl) (of_decide_eq_true rfl) (of_decide_eq_true rfl) ((up_c (nn rfl)).trans (up_c (nn rfl))) (q_iconst c_145_23 (v_iadd (v := c 42 1 + 1) c_145_24 rfl (v_nrm (fun y_25 hy_25 => (v_is c_145_25 rfl (of_decide_eq_true rfl) (of_decide_eq_true rfl) (of_decide_eq_true rfl) (q_aload_n c_145_26 rfl (v_gi (z := 0) (v := 1) c_145_27 kf_8_3 rfl (Nat.le_of_ble_eq_true rfl) rfl rfl ((up_c (nn rfl)).trans (up_e rfl)) (v_if_ne_t (t := 37) c_145_30 rfl (of_decide_eq_true rfl) ?_))))))))
      refine q_iconst c_145_37 (v_zret c_145_38 rfl (of_decide_eq_true rfl) (bk_inl (v_if_ne_f (t := 22) c_230_17 rfl (of_decide_eq_true rfl) (q_iconst c_230_20 (q_iret c_230_21 rfl ?_)))))
      have hI_26 := iw_41_0 (v := 0) hI ⟨of_decide_eq_true rfl, of_decide_eq_true rfl⟩
      have hI_27 := iw_41_0 (v := 1) hI_26 ⟨of_decide_eq_true rfl, of_decide_eq_true rfl⟩
      have hI_28 := iw_42 (j := 1) (v := y_25) hI_27 ⟨hy_25.1, hy_25.2⟩
      exact K (up (up (up c 41 0 0) 41 0 1) 42 1 y_25) 0 hI_28 (fun a j hm => (up_b (Decidable.or_iff_not_imp_left.mpr (fun h1 h2 => hm (Or.inr (Or.inl (Decidable.not_not.mp h1)))))).trans ((up_b (Decidable.or_iff_not_imp_left.mpr (fun h1 h2 => hm (Or.inl ⟨Decidable.not_not.mp h1, h2⟩)))).trans (up_b (Decidable.or_iff_not_imp_left.mpr (fun h1 h2 => hm (Or.inl ⟨Decidable.not_not.mp h1, h2⟩)))))) ⟨of_decide_eq_true rfl, of_decide_eq_true rfl⟩
    · refine v_ic_gt_f (t := 14) c_146_7 rfl ⟨ha1.1, (Int.not_lt.mp h_23), of_decide_eq_true rfl⟩ (q_iconst c_146_10 (q_goto (t := 15) c_146_11 rfl (v_zret c_146_15 rfl (of_decide_eq_true rfl) (bk_inl (q_iconst c_230_12 (q_iconst c_230_13 (v_cv c_230_14 km_8_203 rfl rfl (Nat.le_of_ble_eq_true rfl) ⟨⟨rfl, rfl⟩, Nat.le_of_ble_eq_true rfl, rfl⟩ (Nat.le_of_ble_eq_true rfl) (Nat.le_of_ble_eq_true rfl) ?_)))))))
      refine q_iload_n c_145_0 rfl (v_if_ne_t (t := 26) c_145_1 rfl (of_decide_eq_true rfl) (q_aload_n c_145_26 rfl (v_gi (z := 0) (v := 0) c_145_27 kf_8_3 rfl (Nat.le_of_ble_eq_true rfl) rfl rfl (up_e rfl) (v_if_ne_f (t := 37) c_145_30 rfl (of_decide_eq_true rfl) (q_iconst c_145_33 (q_goto (t := 38) c_145_34 rfl (v_zret c_145_38 rfl (of_decide_eq_true rfl) ?_)))))))
      refine bk_inl (v_if_ne_t (t := 22) c_230_17 rfl (of_decide_eq_true rfl) (q_aload_n c_230_22 rfl ?_))
      have hI_29 := iw_41_0 (v := 0) hI ⟨of_decide_eq_true rfl, of_decide_eq_true rfl⟩
      refine v_cv c_230_23 km_8_317 rfl rfl (Nat.le_of_ble_eq_true rfl) ⟨⟨rfl, rfl⟩, Nat.le_of_ble_eq_true rfl, rfl⟩ (Nat.le_of_ble_eq_true rfl) (Nat.le_of_ble_eq_true rfl) (s_186 hI_29 (fun c_30 hI_31 hF_32 => (bk_inl (q_iconst c_230_26 (q_istore_n c_230_27 (Nat.le_of_ble_eq_true rfl) (q_iconst c_230_28 (q_istore_n c_230_29 (Nat.le_of_ble_eq_true rfl) (q_iconst c_230_30 (q_istore c_230_31 (Nat.le_of_ble_eq_true rfl) ?_)))))))))
      refine Wp_ls [(0, .ref 41), (1, vi a1), (2, vi 0), (3, vi (-1)), (4, vi 0)] (lsub_cons rfl (lsub_cons rfl (lsub_cons rfl (lsub_cons rfl (lsub_cons rfl lsub_nil))))) ?_
      exact (s_230_l (sc := sc) (d := d) hI ha1 K 52) c_30 0 (-1) 0 hI_31 (fun a j hm => (hF_32 a j (fun h => hm (Or.inr (Or.inr h)))).trans (up_b (Decidable.or_iff_not_imp_left.mpr (fun h1 h2 => hm (Or.inl ⟨Decidable.not_not.mp h1, h2⟩))))) ⟨of_decide_eq_true rfl, of_decide_eq_true rfl⟩ ⟨of_decide_eq_true rfl, of_decide_eq_true rfl⟩ ⟨of_decide_eq_true rfl, of_decide_eq_true rfl⟩ (by omega)

set_option maxRecDepth 100000 in
set_option maxHeartbeats 4000000 in
theorem s_231_l {sc : List Int32} {e : Int} {d u P Q : Nat} {c : ME} {a1 : Int} {Z : AR → Prop} (hI : Iv u e P Q c) (ha1 : 0 ≤ a1 ∧ a1 ≤ 3) (K : ∀ (y : Int), (-2147483648) ≤ y ∧ y ≤ 2147483647 → Z (.inl (some (vi y)), Wd P Q P P c, 0, 0)) : ∀ n : Nat, (∀ (v2 : Int) (v3 : Int), 0 ≤ v2 ∧ v2 ≤ 2147483647 → 0 ≤ v3 ∧ v3 ≤ 25 → 1377 - 53 * v3 < (n : Int) → Wp sc (d + 9) 231 4 [(0, .ref 41), (1, vi a1), (2, vi v2), (3, vi v3)] [] (Wd P Q P P c) 0 0 Z) ∧ (∀ (v2 : Int) (v3 : Int) (v4 : Int) (v5 : Int), 0 ≤ v2 ∧ v2 ≤ 2147483647 → 0 ≤ v3 ∧ v3 ≤ 24 → (-2147483648) ≤ v4 ∧ v4 ≤ 2147483647 → 0 ≤ v5 ∧ v5 ≤ 24 → ((v3 < ((c 41 22) * (c 41 20)))) → 1374 - 53 * v3 - 2 * v5 < (n : Int) → Wp sc (d + 9) 231 45 [(0, .ref 41), (1, vi a1), (2, vi v2), (3, vi v3), (4, vi v4), (5, vi v5)] [] (Wd P Q P P c) 0 0 Z) := by
  intro n
  induction n with
  | zero => exact (by exact ⟨by (intro v2 v3 hv2 hv3 hm9; have hP := iv_P hI; have hQ := iv_Q hI; exfalso; omega), by (intro v2 v3 v4 v5 hv2 hv3 hv4 hv5 hx0 hm9; have hP := iv_P hI; have hQ := iv_Q hI; exfalso; omega)⟩)
  | succ n ih =>
    have hP := iv_P hI
    have hQ := iv_Q hI
    refine ⟨?_, ?_⟩
    · skip
      intro v2 v3 hv2 hv3 hm9
      refine q_iload_n c_231_4 rfl (q_aload_n c_231_5 rfl ?_)
      have h_1 := ir_41_22 hI
      refine v_gi (z := 22) (v := c 41 22) c_231_6 kf_8_163 rfl (Nat.le_of_ble_eq_true rfl) rfl rfl rfl (q_aload_n c_231_9 rfl ?_)
      have h_2 := ir_41_20 hI
      refine v_gi (z := 20) (v := c 41 20) c_231_10 kf_8_157 rfl (Nat.le_of_ble_eq_true rfl) rfl rfl rfl ?_
      have h_3 : 0 ≤ (c 41 22) * (c 41 20) ∧ (c 41 22) * (c 41 20) ≤ 6 * (c 41 22) := mul_bd (by omega) (by omega) (by omega)
      have h_4 : 0 ≤ (c 41 22) * (c 41 20) ∧ (c 41 22) * (c 41 20) ≤ 4 * (c 41 20) := mul_bd2 (by omega) (by omega) (by omega)
      refine v_imul (v := ((c 41 22) * (c 41 20))) c_231_13 rfl ?_
      by_cases h_5 : v3 ≥ ((c 41 22) * (c 41 20))
      · refine v_ic_ge_t (t := 154) c_231_14 rfl ⟨by omega, h_5, (ler hv3.2 rfl)⟩ (q_iload_n c_231_154 rfl (q_iret c_231_155 rfl ?_))
        exact K v2 ⟨(lel hv2.1 rfl), hv2.2⟩
      · refine v_ic_ge_f (t := 154) c_231_14 rfl ⟨(lel hv3.1 rfl), (Int.not_le.mp h_5), by omega⟩ (q_aload_n c_231_17 rfl (q_iload_n c_231_18 rfl (q_aload_n c_231_19 rfl (v_gi (z := 20) (v := c 41 20) c_231_20 kf_8_157 rfl (Nat.le_of_ble_eq_true rfl) rfl rfl rfl ?_))))
        have h_6 : 0 ≤ (v3 / (c 41 20)) ∧ (v3 / (c 41 20)) < c 41 22 := div_lt (by omega) (by omega) (by omega)
        refine v_idiv (v := (v3 / (c 41 20))) c_231_23 (by omega) rfl (q_iload_n c_231_24 rfl (q_aload_n c_231_25 rfl (v_gi (z := 20) (v := c 41 20) c_231_26 kf_8_157 rfl (Nat.le_of_ble_eq_true rfl) rfl rfl rfl ?_)))
        have h_7 : 0 ≤ (v3 % (c 41 20)) ∧ (v3 % (c 41 20)) < c 41 20 := rem_bd (by omega)
        refine v_irem (v := (v3 % (c 41 20))) c_231_29 (by omega) rfl (v_cv c_231_30 km_8_417 rfl rfl (Nat.le_of_ble_eq_true rfl) ⟨⟨rfl, rfl⟩, Nat.le_of_ble_eq_true rfl, rfl⟩ (Nat.le_of_ble_eq_true rfl) (Nat.le_of_ble_eq_true rfl) (s_229 (a1 := (v3 / (c 41 20))) (a2 := (v3 % (c 41 20))) hI (show 0 ≤ (v3 / (c 41 20)) ∧ (v3 / (c 41 20)) ≤ 3 from ⟨(q_c4fec1d75 h_6), (q_6b730c0e0 h_1 h_6)⟩) (show 0 ≤ (v3 % (c 41 20)) ∧ (v3 % (c 41 20)) ≤ 5 from ⟨(q_c4fec1d75 h_7), (q_d5c4fed04 h_2 h_7)⟩) (fun y_8 hy_8 => (bk_inl ?_))))
        by_cases h_9 : y_8 ≠ 0
        · refine v_if_ne_t (t := 39) c_231_33 rfl ⟨h_9, ⟨(lel hy_8.1 rfl), (ler hy_8.2 rfl)⟩, of_decide_eq_true rfl, of_decide_eq_true rfl⟩ (q_iconst c_231_39 (q_istore c_231_40 (Nat.le_of_ble_eq_true rfl) (q_iconst c_231_42 (q_istore c_231_43 (Nat.le_of_ble_eq_true rfl) (Wp_ls [(0, .ref 41), (1, vi a1), (2, vi v2), (3, vi v3), (4, vi 0), (5, vi 0)] (lsub_cons rfl (lsub_cons rfl (lsub_cons rfl (lsub_cons rfl (lsub_cons rfl (lsub_cons rfl lsub_nil)))))) ?_)))))
          exact ih.2 v2 v3 0 0 hv2 ⟨hv3.1, by first | (clear ha1 hv2 hv3 h_1 h_3 h_6 h_7 h_9; omega) | omega⟩ ⟨of_decide_eq_true rfl, of_decide_eq_true rfl⟩ ⟨of_decide_eq_true rfl, of_decide_eq_true rfl⟩ ((q_d17d18138 h_5)) (by omega)
        · refine v_if_ne_f (t := 39) c_231_33 rfl (Decidable.not_not.mp h_9) (q_goto (t := 148) c_231_36 rfl (v_iinc (v := v3 + 1) c_231_148 rfl (Nat.le_of_ble_eq_true rfl) rfl (q_goto (t := 4) c_231_151 rfl (Wp_ls [(0, .ref 41), (1, vi a1), (2, vi v2), (3, vi (v3 + 1))] (lsub_cons rfl (lsub_cons rfl (lsub_cons rfl (lsub_cons rfl lsub_nil)))) ?_))))
          exact ih.1 v2 (v3 + 1) hv2 ⟨(rgp_l hv3.1 (of_decide_eq_true rfl)), by omega⟩ (by omega)
    · skip
      intro v2 v3 v4 v5 hv2 hv3 hv4 hv5 hx0 hm9
      refine q_iload c_231_45 rfl (q_aload_n c_231_47 rfl ?_)
      have h_10 := ir_41_22 hI
      refine v_gi (z := 22) (v := c 41 22) c_231_48 kf_8_163 rfl (Nat.le_of_ble_eq_true rfl) rfl rfl rfl (q_aload_n c_231_51 rfl ?_)
      have h_11 := ir_41_20 hI
      refine v_gi (z := 20) (v := c 41 20) c_231_52 kf_8_157 rfl (Nat.le_of_ble_eq_true rfl) rfl rfl rfl ?_
      have h_12 : 0 ≤ (c 41 22) * (c 41 20) ∧ (c 41 22) * (c 41 20) ≤ 6 * (c 41 22) := mul_bd (by omega) (by omega) (by omega)
      have h_13 : 0 ≤ (c 41 22) * (c 41 20) ∧ (c 41 22) * (c 41 20) ≤ 4 * (c 41 20) := mul_bd2 (by omega) (by omega) (by omega)
      refine v_imul (v := ((c 41 22) * (c 41 20))) c_231_55 rfl ?_
      by_cases h_14 : v5 ≥ ((c 41 22) * (c 41 20))
      · refine v_ic_ge_t (t := 135) c_231_56 rfl ⟨by omega, h_14, (ler hv5.2 rfl)⟩ (q_iload c_231_135 rfl (q_iload_n c_231_137 rfl ?_))
        by_cases h_15 : v4 ≤ v2
        · refine v_ic_le_t (t := 146) c_231_138 rfl ⟨hv4.1, h_15, hv2.2⟩ (q_iload_n c_231_146 rfl (q_istore_n c_231_147 (Nat.le_of_ble_eq_true rfl) (v_iinc (v := v3 + 1) c_231_148 rfl (Nat.le_of_ble_eq_true rfl) rfl (q_goto (t := 4) c_231_151 rfl (Wp_ls [(0, .ref 41), (1, vi a1), (2, vi v2), (3, vi (v3 + 1))] (lsub_cons rfl (lsub_cons rfl (lsub_cons rfl (lsub_cons rfl lsub_nil)))) ?_)))))
          exact ih.1 v2 (v3 + 1) hv2 ⟨(rgp_l hv3.1 (of_decide_eq_true rfl)), (rgp_h hv3.2 (of_decide_eq_true rfl))⟩ (by omega)
        · refine v_ic_le_f (t := 146) c_231_138 rfl ⟨(lel hv2.1 rfl), (Int.not_le.mp h_15), hv4.2⟩ (q_iload c_231_141 rfl (q_goto (t := 147) c_231_143 rfl (q_istore_n c_231_147 (Nat.le_of_ble_eq_true rfl) (v_iinc (v := v3 + 1) c_231_148 rfl (Nat.le_of_ble_eq_true rfl) rfl (q_goto (t := 4) c_231_151 rfl (Wp_ls [(0, .ref 41), (1, vi a1), (2, vi v4), (3, vi (v3 + 1))] (lsub_cons rfl (lsub_cons rfl (lsub_cons rfl (lsub_cons rfl lsub_nil)))) ?_))))))
          exact ih.1 v4 (v3 + 1) ⟨(q_263c88b99 h_15 hv2), hv4.2⟩ ⟨(rgp_l hv3.1 (of_decide_eq_true rfl)), (rgp_h hv3.2 (of_decide_eq_true rfl))⟩ (by omega)
      · refine v_ic_ge_f (t := 135) c_231_56 rfl ⟨(lel hv5.1 rfl), (Int.not_le.mp h_14), by omega⟩ (q_iload c_231_59 rfl (q_aload_n c_231_61 rfl (q_iload c_231_62 rfl (q_aload_n c_231_64 rfl (v_gi (z := 20) (v := c 41 20) c_231_65 kf_8_157 rfl (Nat.le_of_ble_eq_true rfl) rfl rfl rfl ?_)))))
        have h_16 : 0 ≤ (v5 / (c 41 20)) ∧ (v5 / (c 41 20)) < c 41 22 := div_lt (by omega) (by omega) (by omega)
        refine v_idiv (v := (v5 / (c 41 20))) c_231_68 (by omega) rfl (q_iload c_231_69 rfl (q_aload_n c_231_71 rfl (v_gi (z := 20) (v := c 41 20) c_231_72 kf_8_157 rfl (Nat.le_of_ble_eq_true rfl) rfl rfl rfl ?_)))
        have h_17 : 0 ≤ (v5 % (c 41 20)) ∧ (v5 % (c 41 20)) < c 41 20 := rem_bd (by omega)
        refine v_irem (v := (v5 % (c 41 20))) c_231_75 (by omega) rfl (v_cv c_231_76 km_8_417 rfl rfl (Nat.le_of_ble_eq_true rfl) ⟨⟨rfl, rfl⟩, Nat.le_of_ble_eq_true rfl, rfl⟩ (Nat.le_of_ble_eq_true rfl) (Nat.le_of_ble_eq_true rfl) (s_229 (a1 := (v5 / (c 41 20))) (a2 := (v5 % (c 41 20))) hI (show 0 ≤ (v5 / (c 41 20)) ∧ (v5 / (c 41 20)) ≤ 3 from ⟨(q_c4fec1d75 h_16), (q_6b730c0e0 h_10 h_16)⟩) (show 0 ≤ (v5 % (c 41 20)) ∧ (v5 % (c 41 20)) ≤ 5 from ⟨(q_c4fec1d75 h_17), (q_d5c4fed04 h_11 h_17)⟩) (fun y_18 hy_18 => (bk_inl ?_))))
        by_cases h_19 : y_18 = 0
        · refine v_if_eq_t (t := 125) c_231_79 rfl h_19 (q_iconst c_231_125 (v_iadd (v := v4) c_231_126 (by first | (clear ha1 hv2 hv3 hv4 hv5 hx0 h_10 h_11 h_12 h_13 h_14 h_16 h_17 h_19; omega) | omega) (q_istore c_231_127 (Nat.le_of_ble_eq_true rfl) (v_iinc (v := v5 + 1) c_231_129 rfl (Nat.le_of_ble_eq_true rfl) rfl (q_goto (t := 45) c_231_132 rfl (Wp_ls [(0, .ref 41), (1, vi a1), (2, vi v2), (3, vi v3), (4, vi v4), (5, vi (v5 + 1))] (lsub_cons rfl (lsub_cons rfl (lsub_cons rfl (lsub_cons rfl (lsub_cons rfl (lsub_cons rfl lsub_nil)))))) ?_))))))
          exact ih.2 v2 v3 v4 (v5 + 1) hv2 hv3 hv4 ⟨(rgp_l hv5.1 (of_decide_eq_true rfl)), by first | (clear ha1 hv2 hv3 hv4 hv5 hx0 h_10 h_12 h_16 h_17 h_19; omega) | omega⟩ (by first | (clear ha1 hv2 hv3 hv4 hv5 h_10 h_11 h_12 h_13 h_14 h_16 h_17 h_19; omega) | omega) (by omega)
        · refine v_if_eq_f (t := 125) c_231_79 rfl ⟨h_19, ⟨(lel hy_18.1 rfl), (ler hy_18.2 rfl)⟩, of_decide_eq_true rfl, of_decide_eq_true rfl⟩ (q_aload_n c_231_82 rfl (q_iload c_231_83 rfl (q_aload_n c_231_85 rfl (v_gi (z := 20) (v := c 41 20) c_231_86 kf_8_157 rfl (Nat.le_of_ble_eq_true rfl) rfl rfl rfl ?_))))
          have h_20 : 0 ≤ (v5 / (c 41 20)) ∧ (v5 / (c 41 20)) < c 41 22 := div_lt (by omega) (by omega) (by omega)
          refine v_idiv (v := (v5 / (c 41 20))) c_231_89 (by omega) rfl (q_iload c_231_90 rfl (q_aload_n c_231_92 rfl (v_gi (z := 20) (v := c 41 20) c_231_93 kf_8_157 rfl (Nat.le_of_ble_eq_true rfl) rfl rfl rfl ?_)))
          have h_21 : 0 ≤ (v5 % (c 41 20)) ∧ (v5 % (c 41 20)) < c 41 20 := rem_bd (by omega)
          refine v_irem (v := (v5 % (c 41 20))) c_231_96 (by omega) rfl (q_iload_n c_231_97 rfl ?_)
          have h_22 := ir_49 hI (v5 / (c 41 20))
          have h_23 := ir_59 hI ((v5 / (c 41 20)) + 30)
          have h_24 := ir_59_g hI (j := 4 * (v5 % (c 41 20)) + a1) ((q_238d50ffa h_11 h_17 ha1))
          have h_25 := fal_rng (m := c 49 (v5 / (c 41 20))) (t := c 59 ((v5 / (c 41 20)) + 30)) (g := a1) (x := c 59 (4 * (v5 % (c 41 20)) + a1)) ((q_c6ed8760d h_24))
          refine v_cv c_231_98 km_8_363 rfl rfl (Nat.le_of_ble_eq_true rfl) ⟨⟨rfl, rfl⟩, Nat.le_of_ble_eq_true rfl, rfl⟩ (Nat.le_of_ble_eq_true rfl) (Nat.le_of_ble_eq_true rfl) (s_189 (v1 := c 49 (v5 / (c 41 20))) (v2 := c 59 ((v5 / (c 41 20)) + 30)) (v3 := c 59 (4 * (v5 % (c 41 20)) + a1)) (r := (fal (c 49 (v5 / (c 41 20))) (c 59 ((v5 / (c 41 20)) + 30)) a1 (c 59 (4 * (v5 % (c 41 20)) + a1)))) (a1 := (v5 / (c 41 20))) (a2 := (v5 % (c 41 20))) (a3 := a1) hI (show 0 ≤ (v5 / (c 41 20)) ∧ (v5 / (c 41 20)) ≤ 3 from ⟨(q_c4fec1d75 h_16), (q_6b730c0e0 h_10 h_16)⟩) (show 0 ≤ (v5 % (c 41 20)) ∧ (v5 % (c 41 20)) ≤ 5 from ⟨(q_c4fec1d75 h_17), (q_d5c4fed04 h_11 h_17)⟩) (show 0 ≤ a1 ∧ a1 ≤ 3 from ha1) (rfl) (rfl) (rfl) rfl (bk_inl (q_aload_n c_231_101 rfl (q_iload_n c_231_102 rfl (q_aload_n c_231_103 rfl (v_gi (z := 20) (v := c 41 20) c_231_104 kf_8_157 rfl (Nat.le_of_ble_eq_true rfl) rfl rfl rfl ?_))))))
          have h_26 : 0 ≤ (v3 / (c 41 20)) ∧ (v3 / (c 41 20)) < c 41 22 := div_lt (by omega) (by omega) (by omega)
          refine v_idiv (v := (v3 / (c 41 20))) c_231_107 (by omega) rfl (q_iload_n c_231_108 rfl (q_aload_n c_231_109 rfl (v_gi (z := 20) (v := c 41 20) c_231_110 kf_8_157 rfl (Nat.le_of_ble_eq_true rfl) rfl rfl rfl ?_)))
          have h_27 : 0 ≤ (v3 % (c 41 20)) ∧ (v3 % (c 41 20)) < c 41 20 := rem_bd (by omega)
          refine v_irem (v := (v3 % (c 41 20))) c_231_113 (by omega) rfl (q_iload_n c_231_114 rfl ?_)
          have h_28 := ir_49 hI (v3 / (c 41 20))
          have h_29 := ir_59 hI ((v3 / (c 41 20)) + 30)
          have h_30 := ir_59_g hI (j := 4 * (v3 % (c 41 20)) + a1) ((q_238d50ffa h_11 h_27 ha1))
          have h_31 := fal_rng (m := c 49 (v3 / (c 41 20))) (t := c 59 ((v3 / (c 41 20)) + 30)) (g := a1) (x := c 59 (4 * (v3 % (c 41 20)) + a1)) ((q_c6ed8760d h_30))
          refine v_cv c_231_115 km_8_363 rfl rfl (Nat.le_of_ble_eq_true rfl) ⟨⟨rfl, rfl⟩, Nat.le_of_ble_eq_true rfl, rfl⟩ (Nat.le_of_ble_eq_true rfl) (Nat.le_of_ble_eq_true rfl) (s_189 (v1 := c 49 (v3 / (c 41 20))) (v2 := c 59 ((v3 / (c 41 20)) + 30)) (v3 := c 59 (4 * (v3 % (c 41 20)) + a1)) (r := (fal (c 49 (v3 / (c 41 20))) (c 59 ((v3 / (c 41 20)) + 30)) a1 (c 59 (4 * (v3 % (c 41 20)) + a1)))) (a1 := (v3 / (c 41 20))) (a2 := (v3 % (c 41 20))) (a3 := a1) hI (show 0 ≤ (v3 / (c 41 20)) ∧ (v3 / (c 41 20)) ≤ 3 from ⟨(q_c4fec1d75 h_26), (q_6b730c0e0 h_10 h_26)⟩) (show 0 ≤ (v3 % (c 41 20)) ∧ (v3 % (c 41 20)) ≤ 5 from ⟨(q_c4fec1d75 h_27), (q_d5c4fed04 h_11 h_27)⟩) (show 0 ≤ a1 ∧ a1 ≤ 3 from ha1) (rfl) (rfl) (rfl) rfl (bk_inl ?_))
          by_cases h_32 : (fal (c 49 (v5 / (c 41 20))) (c 59 ((v5 / (c 41 20)) + 30)) a1 (c 59 (4 * (v5 % (c 41 20)) + a1))) ≠ (fal (c 49 (v3 / (c 41 20))) (c 59 ((v3 / (c 41 20)) + 30)) a1 (c 59 (4 * (v3 % (c 41 20)) + a1)))
          · refine v_ic_ne_t (t := 125) c_231_118 rfl ⟨h_32, ⟨(q_fda856264 h_25), (q_4bf067e8d h_24 h_25)⟩, (q_fda856264 h_31), (q_4bf067e8d h_30 h_31)⟩ (q_iconst c_231_125 (v_iadd (v := v4) c_231_126 (by first | (clear ha1 hv2 hv3 hv4 hv5 hx0 h_10 h_11 h_12 h_13 h_14 h_16 h_17 h_20 h_21 h_22 h_23 h_24 h_25 h_26 h_27 h_28 h_29 h_30 h_31 h_19 h_32; omega) | omega) (q_istore c_231_127 (Nat.le_of_ble_eq_true rfl) (v_iinc (v := v5 + 1) c_231_129 rfl (Nat.le_of_ble_eq_true rfl) rfl (q_goto (t := 45) c_231_132 rfl (Wp_ls [(0, .ref 41), (1, vi a1), (2, vi v2), (3, vi v3), (4, vi v4), (5, vi (v5 + 1))] (lsub_cons rfl (lsub_cons rfl (lsub_cons rfl (lsub_cons rfl (lsub_cons rfl (lsub_cons rfl lsub_nil)))))) ?_))))))
            exact ih.2 v2 v3 v4 (v5 + 1) hv2 hv3 hv4 ⟨(rgp_l hv5.1 (of_decide_eq_true rfl)), by first | (clear ha1 hv2 hv3 hv4 hv5 hx0 h_10 h_12 h_16 h_17 h_20 h_21 h_22 h_23 h_24 h_25 h_26 h_27 h_28 h_29 h_30 h_31 h_19 h_32; omega) | omega⟩ (by first | (clear ha1 hv2 hv3 hv4 hv5 h_10 h_11 h_12 h_13 h_14 h_16 h_17 h_20 h_21 h_22 h_23 h_24 h_25 h_26 h_27 h_28 h_29 h_30 h_31 h_19 h_32; omega) | omega) (by omega)
          · refine v_ic_ne_f (t := 125) c_231_118 rfl (Decidable.not_not.mp h_32) (q_iconst c_231_121 (q_goto (t := 126) c_231_122 rfl (v_iadd (v := v4 + 1) c_231_126 rfl (v_nrm (fun y_33 hy_33 => (q_istore c_231_127 (Nat.le_of_ble_eq_true rfl) (v_iinc (v := v5 + 1) c_231_129 rfl (Nat.le_of_ble_eq_true rfl) rfl (q_goto (t := 45) c_231_132 rfl ?_))))))))
            refine Wp_ls [(0, .ref 41), (1, vi a1), (2, vi v2), (3, vi v3), (4, vi y_33), (5, vi (v5 + 1))] (lsub_cons rfl (lsub_cons rfl (lsub_cons rfl (lsub_cons rfl (lsub_cons rfl (lsub_cons rfl lsub_nil)))))) ?_
            exact ih.2 v2 v3 y_33 (v5 + 1) hv2 hv3 hy_33 ⟨(rgp_l hv5.1 (of_decide_eq_true rfl)), by first | (clear ha1 hv2 hv3 hv4 hv5 hx0 h_10 h_12 h_16 h_17 h_20 h_21 h_22 h_23 h_24 h_25 h_26 h_27 h_28 h_29 h_30 h_31 h_32 h_19; omega) | omega⟩ (by first | (clear ha1 hv2 hv3 hv4 hv5 h_10 h_11 h_12 h_13 h_14 h_16 h_17 h_20 h_21 h_22 h_23 h_24 h_25 h_26 h_27 h_28 h_29 h_30 h_31 h_32 h_19; omega) | omega) (by omega)
set_option maxRecDepth 100000 in
set_option maxHeartbeats 4000000 in
theorem s_231 {sc : List Int32} {e : Int} {d u P Q : Nat} {c : ME} {a1 : Int} {Z : AR → Prop} (hI : Iv u e P Q c) (ha1 : 0 ≤ a1 ∧ a1 ≤ 3) (K : ∀ (y : Int), (-2147483648) ≤ y ∧ y ≤ 2147483647 → Z (.inl (some (vi y)), Wd P Q P P c, 0, 0)) : Wp sc (d + 9) 231 0 [(0, .ref 41), (1, vi a1)] [] (Wd P Q P P c) 0 0 Z := by
  have hP := iv_P hI
  have hQ := iv_Q hI
  refine q_iconst c_231_0 (q_istore_n c_231_1 (Nat.le_of_ble_eq_true rfl) (q_iconst c_231_2 (q_istore_n c_231_3 (Nat.le_of_ble_eq_true rfl) (Wp_ls [(0, .ref 41), (1, vi a1), (2, vi 0), (3, vi 0)] (lsub_cons rfl (lsub_cons rfl (lsub_cons rfl (lsub_cons rfl lsub_nil)))) ?_))))
  exact (s_231_l (sc := sc) (d := d) hI ha1 K 1380).1 0 0 ⟨of_decide_eq_true rfl, of_decide_eq_true rfl⟩ ⟨of_decide_eq_true rfl, of_decide_eq_true rfl⟩ (by omega)

