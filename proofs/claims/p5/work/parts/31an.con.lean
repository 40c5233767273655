/-! ===== contracts 8 ===== -/
theorem q_72f86bfab {x0 : Int} (f0 : ¬ (x0 > 9999)) : x0 ≤ 9999 := by omega
theorem qv_3032f6718 {P : Nat} {a : Nat} {j : Int} (hm : ¬ ((a = 0 ∧ j = 13) ∨ a = (P + 10) ∨ a = (P + 11))) : ¬ (a = (P + 10) ∨ a = (P + 11)) := (fun q => q.elim (fun h => hm (Or.inr (Or.inl h))) (fun h => hm (Or.inr (Or.inr h))))
theorem qn_ab81a8ac9 {P : Nat} {j : Int} (hP : P = 13 ∨ P = 25) : ¬ ((P = 0 ∧ j = 13) ∨ P = (P + 10) ∨ P = (P + 11)) := (fun q => q.elim (fun h => absurd h.1 (np0 hP rfl)) (fun q => q.elim (fun h => absurd h (p0p rfl)) (fun h => absurd h (p0p rfl))))
theorem qn_5876f74f1 {P : Nat} {j : Int} (hP : P = 13 ∨ P = 25) : ¬ (((38 : Nat) = 0 ∧ j = 13) ∨ (38 : Nat) = (P + 10) ∨ (38 : Nat) = (P + 11)) := (fun q => q.elim (fun h => absurd h.1 (nn rfl)) (fun q => q.elim (fun h => absurd h (pn hP rfl rfl)) (fun h => absurd h (pn hP rfl rfl))))
theorem qn_4bb47e378 {P : Nat} (hP : P = 13 ∨ P = 25) : ¬ ((38 : Nat) = (P + 10) ∨ (38 : Nat) = (P + 11)) := (fun q => q.elim (fun h => absurd h (pn hP rfl rfl)) (fun h => absurd h (pn hP rfl rfl)))
theorem qv_da6bc483e {P : Nat} {a : Nat} {j : Int} (hm : ¬ ((a = 0 ∧ j = 12) ∨ a = (P + 10) ∨ a = (P + 11) ∨ a = 40)) : ¬ (a = (P + 10) ∨ a = (P + 11)) := (fun q => q.elim (fun h => hm (Or.inr (Or.inl h))) (fun h => hm (Or.inr (Or.inr (Or.inl h)))))
theorem q_1eecf77db {x0 : Int} (f0 : ¬ (x0 > 99)) : x0 + 1 ≤ 100 := by omega
theorem q_e0f71dbae {x0 x1 x2 : Int} (f0 : 0 ≤ x0 ∧ x0 ≤ 6) (f1 : ¬ (x1 > x0 - 1)) (f2 : ¬ (x2 > 4)) (f3 : x2 ≠ 4) : 4 * x1 + x2 < 24 := by omega
theorem q_adb162ac9 {x0 : Int} (f0 : ¬ (x0 > 4)) (f1 : x0 ≠ 4) : x0 ≤ 3 := by omega
theorem q_fda856264 {x0 x1 : Int} (f0 : 0 ≤ x0 ∧ x0 ≤ x1) : (-2147483648) ≤ x0 := by omega
theorem q_4bf067e8d {x0 x1 : Int} (f0 : 0 ≤ x0 ∧ x0 ≤ 9999) (f1 : 0 ≤ x1 ∧ x1 ≤ x0) : x1 ≤ 2147483647 := by omega
theorem q_c0b7ed1c9 {x0 x1 x2 x3 x4 x5 x6 x7 : Int} (f0 : 0 ≤ x0 ∧ x0 ≤ x1) (f1 : 0 ≤ x2 ∧ x2 ≤ x3) (f2 : 0 ≤ x4 ∧ x4 ≤ x5) (f3 : 0 ≤ x6 ∧ x6 ≤ x7) : (-2147483648) ≤ x0 + x2 + x4 + x6 := by omega
theorem q_c7a0dd24d {x0 x1 x2 x3 x4 x5 x6 x7 : Int} (f0 : 0 ≤ x0 ∧ x0 ≤ 9999) (f1 : 0 ≤ x1 ∧ x1 ≤ 9999) (f2 : 0 ≤ x2 ∧ x2 ≤ 9999) (f3 : 0 ≤ x3 ∧ x3 ≤ 9999) (f4 : 0 ≤ x4 ∧ x4 ≤ x0) (f5 : 0 ≤ x5 ∧ x5 ≤ x1) (f6 : 0 ≤ x6 ∧ x6 ≤ x2) (f7 : 0 ≤ x7 ∧ x7 ≤ x3) : x4 + x5 + x6 + x7 ≤ 2147483647 := by omega
theorem q_39694b04c {x0 x1 : Int} (f0 : ¬ (x0 > x1 - 1)) (f1 : 0 ≤ x1 ∧ x1 ≤ 6) : 4 * x0 < 24 := by omega
theorem q_daba94bfb {x0 x1 : Int} (f0 : ¬ (x0 > x1 - 1)) (f1 : 0 ≤ x1 ∧ x1 ≤ 6) : 4 * x0 + 1 < 24 := by omega
theorem q_c56a483ea {x0 x1 : Int} (f0 : ¬ (x0 > x1 - 1)) (f1 : 0 ≤ x1 ∧ x1 ≤ 6) : 4 * x0 + 2 < 24 := by omega
theorem q_bd71cc491 {x0 x1 : Int} (f0 : ¬ (x0 > x1 - 1)) (f1 : 0 ≤ x1 ∧ x1 ≤ 6) : 4 * x0 + 3 < 24 := by omega
theorem q_2aee6eea3 {x0 x1 : Int} (f0 : ¬ (x0 > x1 - 1)) (f1 : 0 ≤ x1 ∧ x1 ≤ 6) : x0 ≤ 5 := by omega
theorem q_a579d0053 {x0 x1 : Int} (f0 : 0 ≤ x0 ∧ x0 ≤ 9999) (f1 : 0 ≤ x1 ∧ x1 ≤ x0) : x1 ≤ 9999 := by omega
theorem c_104_0 : mLk 104 0 = some (.aload_n 0, 1) := rfl
theorem c_104_1 : mLk 104 1 = some (.iload_n 1, 1) := rfl
theorem c_104_2 : mLk 104 2 = some (.iconst 0, 1) := rfl
theorem c_104_3 : mLk 104 3 = some (.sipush 9999, 3) := rfl
theorem c_104_6 : mLk 104 6 = some (.invokestatic 157, 3) := rfl
theorem c_104_9 : mLk 104 9 = some (.ifCond .eq 75, 3) := rfl
theorem c_104_84 : mLk 104 84 = some (.iconst 0, 1) := rfl
theorem c_104_85 : mLk 104 85 = some (.invokevirtual 161, 3) := rfl
theorem c_104_12 : mLk 104 12 = some (.iload_n 2, 1) := rfl
theorem c_104_13 : mLk 104 13 = some (.iconst 0, 1) := rfl
theorem c_104_14 : mLk 104 14 = some (.sipush 9999, 3) := rfl
theorem c_104_17 : mLk 104 17 = some (.invokestatic 157, 3) := rfl
theorem c_104_20 : mLk 104 20 = some (.ifCond .eq 64, 3) := rfl
theorem c_104_23 : mLk 104 23 = some (.iload_n 3, 1) := rfl
theorem c_104_24 : mLk 104 24 = some (.iconst 0, 1) := rfl
theorem c_104_25 : mLk 104 25 = some (.sipush 9999, 3) := rfl
theorem c_104_28 : mLk 104 28 = some (.invokestatic 157, 3) := rfl
theorem c_104_31 : mLk 104 31 = some (.ifCond .eq 53, 3) := rfl
theorem c_104_34 : mLk 104 34 = some (.iload 4, 2) := rfl
theorem c_104_36 : mLk 104 36 = some (.iconst 0, 1) := rfl
theorem c_104_37 : mLk 104 37 = some (.sipush 9999, 3) := rfl
theorem c_104_40 : mLk 104 40 = some (.invokestatic 157, 3) := rfl
theorem c_104_43 : mLk 104 43 = some (.ifCond .eq 41, 3) := rfl
theorem c_104_46 : mLk 104 46 = some (.iload 5, 2) := rfl
theorem c_104_48 : mLk 104 48 = some (.iconst 0, 1) := rfl
theorem c_104_49 : mLk 104 49 = some (.sipush 400, 3) := rfl
theorem c_104_52 : mLk 104 52 = some (.invokestatic 157, 3) := rfl
theorem c_104_55 : mLk 104 55 = some (.ifCond .eq 29, 3) := rfl
theorem c_104_58 : mLk 104 58 = some (.iload 6, 2) := rfl
theorem c_104_60 : mLk 104 60 = some (.iconst 0, 1) := rfl
theorem c_104_61 : mLk 104 61 = some (.sipush 400, 3) := rfl
theorem c_104_64 : mLk 104 64 = some (.invokestatic 157, 3) := rfl
theorem c_104_67 : mLk 104 67 = some (.ifCond .eq 17, 3) := rfl
theorem c_104_70 : mLk 104 70 = some (.iload 7, 2) := rfl
theorem c_104_72 : mLk 104 72 = some (.iconst 0, 1) := rfl
theorem c_104_73 : mLk 104 73 = some (.iconst 5, 1) := rfl
theorem c_104_74 : mLk 104 74 = some (.invokestatic 157, 3) := rfl
theorem c_104_77 : mLk 104 77 = some (.ifCond .eq 7, 3) := rfl
theorem c_104_80 : mLk 104 80 = some (.iconst 1, 1) := rfl
theorem c_104_81 : mLk 104 81 = some (.goto 4, 3) := rfl
theorem c_104_88 : mLk 104 88 = some (.aload_n 0, 1) := rfl
theorem c_104_89 : mLk 104 89 = some (.getfield 50, 3) := rfl
theorem c_104_92 : mLk 104 92 = some (.getfield 109, 3) := rfl
theorem c_104_95 : mLk 104 95 = some (.iload_n 1, 1) := rfl
theorem c_104_96 : mLk 104 96 = some (.iload_n 2, 1) := rfl
theorem c_104_97 : mLk 104 97 = some (.iload_n 3, 1) := rfl
theorem c_104_98 : mLk 104 98 = some (.iload 4, 2) := rfl
theorem c_104_100 : mLk 104 100 = some (.iload 5, 2) := rfl
theorem c_104_102 : mLk 104 102 = some (.iload 6, 2) := rfl
theorem c_104_104 : mLk 104 104 = some (.iload 7, 2) := rfl
theorem c_104_106 : mLk 104 106 = some (.invokevirtual 226, 3) := rfl
theorem c_104_109 : mLk 104 109 = some (.ireturn, 1) := rfl
theorem c_105_17 : mLk 105 17 = some (.iload 4, 2) := rfl
theorem c_105_19 : mLk 105 19 = some (.aload_n 0, 1) := rfl
theorem c_105_20 : mLk 105 20 = some (.getfield 50, 3) := rfl
theorem c_105_23 : mLk 105 23 = some (.getfield 102, 3) := rfl
theorem c_105_26 : mLk 105 26 = some (.if_icmp .ge 48, 3) := rfl
theorem c_105_74 : mLk 105 74 = some (.iload_n 1, 1) := rfl
theorem c_105_75 : mLk 105 75 = some (.ifCond .ne 7, 3) := rfl
theorem c_105_82 : mLk 105 82 = some (.iload_n 3, 1) := rfl
theorem c_105_83 : mLk 105 83 = some (.ireturn, 1) := rfl
theorem c_105_78 : mLk 105 78 = some (.iload_n 2, 1) := rfl
theorem c_105_79 : mLk 105 79 = some (.goto 4, 3) := rfl
theorem c_105_29 : mLk 105 29 = some (.aload_n 0, 1) := rfl
theorem c_105_30 : mLk 105 30 = some (.getfield 62, 3) := rfl
theorem c_105_33 : mLk 105 33 = some (.iload 4, 2) := rfl
theorem c_105_35 : mLk 105 35 = some (.invokevirtual 187, 3) := rfl
theorem c_105_38 : mLk 105 38 = some (.ifCond .le 15, 3) := rfl
theorem c_105_53 : mLk 105 53 = some (.iconst (-1), 1) := rfl
theorem c_105_54 : mLk 105 54 = some (.istore 5, 2) := rfl
theorem c_105_56 : mLk 105 56 = some (.iload 5, 2) := rfl
theorem c_105_58 : mLk 105 58 = some (.iload_n 3, 1) := rfl
theorem c_105_59 : mLk 105 59 = some (.if_icmp .le 9, 3) := rfl
theorem c_105_68 : mLk 105 68 = some (.iinc 4 1, 3) := rfl
theorem c_105_71 : mLk 105 71 = some (.goto (-54), 3) := rfl
theorem c_105_41 : mLk 105 41 = some (.aload_n 0, 1) := rfl
theorem c_105_42 : mLk 105 42 = some (.getfield 62, 3) := rfl
theorem c_105_45 : mLk 105 45 = some (.iload 4, 2) := rfl
theorem c_105_47 : mLk 105 47 = some (.invokevirtual 223, 3) := rfl
theorem c_105_50 : mLk 105 50 = some (.goto 4, 3) := rfl
theorem c_105_62 : mLk 105 62 = some (.iload 5, 2) := rfl
theorem c_105_64 : mLk 105 64 = some (.istore_n 3, 1) := rfl
theorem c_105_65 : mLk 105 65 = some (.iload 4, 2) := rfl
theorem c_105_67 : mLk 105 67 = some (.istore_n 2, 1) := rfl
theorem c_105_0 : mLk 105 0 = some (.aload_n 0, 1) := rfl
theorem c_105_1 : mLk 105 1 = some (.iload_n 1, 1) := rfl
theorem c_105_2 : mLk 105 2 = some (.iconst 0, 1) := rfl
theorem c_105_3 : mLk 105 3 = some (.iconst 1, 1) := rfl
theorem c_105_4 : mLk 105 4 = some (.invokestatic 157, 3) := rfl
theorem c_105_7 : mLk 105 7 = some (.invokevirtual 161, 3) := rfl
theorem c_105_10 : mLk 105 10 = some (.iconst (-1), 1) := rfl
theorem c_105_11 : mLk 105 11 = some (.istore_n 2, 1) := rfl
theorem c_105_12 : mLk 105 12 = some (.iconst (-1), 1) := rfl
theorem c_105_13 : mLk 105 13 = some (.istore_n 3, 1) := rfl
theorem c_105_14 : mLk 105 14 = some (.iconst 0, 1) := rfl
theorem c_105_15 : mLk 105 15 = some (.istore 4, 2) := rfl
theorem c_106_4 : mLk 106 4 = some (.iload_n 2, 1) := rfl
theorem c_106_5 : mLk 106 5 = some (.aload_n 0, 1) := rfl
theorem c_106_6 : mLk 106 6 = some (.getfield 50, 3) := rfl
theorem c_106_9 : mLk 106 9 = some (.getfield 102, 3) := rfl
theorem c_106_12 : mLk 106 12 = some (.if_icmp .ge 26, 3) := rfl
theorem c_106_38 : mLk 106 38 = some (.iload_n 1, 1) := rfl
theorem c_106_39 : mLk 106 39 = some (.ireturn, 1) := rfl
theorem c_106_15 : mLk 106 15 = some (.aload_n 0, 1) := rfl
theorem c_106_16 : mLk 106 16 = some (.getfield 62, 3) := rfl
theorem c_106_19 : mLk 106 19 = some (.iload_n 2, 1) := rfl
theorem c_106_20 : mLk 106 20 = some (.invokevirtual 230, 3) := rfl
theorem c_106_23 : mLk 106 23 = some (.ifCond .eq 9, 3) := rfl
theorem c_106_32 : mLk 106 32 = some (.iinc 2 1, 3) := rfl
theorem c_106_35 : mLk 106 35 = some (.goto (-31), 3) := rfl
theorem c_106_26 : mLk 106 26 = some (.iload_n 1, 1) := rfl
theorem c_106_27 : mLk 106 27 = some (.iconst 1, 1) := rfl
theorem c_106_28 : mLk 106 28 = some (.iload_n 2, 1) := rfl
theorem c_106_29 : mLk 106 29 = some (.ishl, 1) := rfl
theorem c_106_30 : mLk 106 30 = some (.ior, 1) := rfl
theorem c_106_31 : mLk 106 31 = some (.istore_n 1, 1) := rfl
theorem c_106_0 : mLk 106 0 = some (.iconst 0, 1) := rfl
theorem c_106_1 : mLk 106 1 = some (.istore_n 1, 1) := rfl
theorem c_106_2 : mLk 106 2 = some (.iconst 0, 1) := rfl
theorem c_106_3 : mLk 106 3 = some (.istore_n 2, 1) := rfl
theorem c_107_4 : mLk 107 4 = some (.iload_n 2, 1) := rfl
theorem c_107_5 : mLk 107 5 = some (.aload_n 0, 1) := rfl
theorem c_107_6 : mLk 107 6 = some (.getfield 50, 3) := rfl
theorem c_107_9 : mLk 107 9 = some (.getfield 102, 3) := rfl
theorem c_107_12 : mLk 107 12 = some (.if_icmp .ge 34, 3) := rfl
theorem c_107_46 : mLk 107 46 = some (.iload_n 1, 1) := rfl
theorem c_107_47 : mLk 107 47 = some (.ireturn, 1) := rfl
theorem c_107_15 : mLk 107 15 = some (.aload_n 0, 1) := rfl
theorem c_107_16 : mLk 107 16 = some (.getfield 62, 3) := rfl
theorem c_107_19 : mLk 107 19 = some (.iload_n 2, 1) := rfl
theorem c_107_20 : mLk 107 20 = some (.invokevirtual 230, 3) := rfl
theorem c_107_23 : mLk 107 23 = some (.ifCond .eq 17, 3) := rfl
theorem c_107_40 : mLk 107 40 = some (.iinc 2 1, 3) := rfl
theorem c_107_43 : mLk 107 43 = some (.goto (-39), 3) := rfl
theorem c_107_26 : mLk 107 26 = some (.iload_n 1, 1) := rfl
theorem c_107_27 : mLk 107 27 = some (.aload_n 0, 1) := rfl
theorem c_107_28 : mLk 107 28 = some (.getfield 62, 3) := rfl
theorem c_107_31 : mLk 107 31 = some (.iload_n 2, 1) := rfl
theorem c_107_32 : mLk 107 32 = some (.invokevirtual 187, 3) := rfl
theorem c_107_35 : mLk 107 35 = some (.bipush 10, 2) := rfl
theorem c_107_39 : mLk 107 39 = some (.istore_n 1, 1) := rfl
theorem c_107_0 : mLk 107 0 = some (.iconst 0, 1) := rfl
theorem c_107_1 : mLk 107 1 = some (.istore_n 1, 1) := rfl
theorem c_107_2 : mLk 107 2 = some (.iconst 0, 1) := rfl
theorem c_107_3 : mLk 107 3 = some (.istore_n 2, 1) := rfl
theorem c_108_0 : mLk 108 0 = some (.aload_n 0, 1) := rfl
theorem c_108_1 : mLk 108 1 = some (.iload_n 1, 1) := rfl
theorem c_108_2 : mLk 108 2 = some (.invokevirtual 184, 3) := rfl
theorem c_108_5 : mLk 108 5 = some (.aload_n 0, 1) := rfl
theorem c_108_6 : mLk 108 6 = some (.iload_n 2, 1) := rfl
theorem c_108_7 : mLk 108 7 = some (.invokevirtual 184, 3) := rfl
theorem c_108_10 : mLk 108 10 = some (.aload_n 0, 1) := rfl
theorem c_108_11 : mLk 108 11 = some (.getfield 66, 3) := rfl
theorem c_108_14 : mLk 108 14 = some (.aload_n 0, 1) := rfl
theorem c_108_15 : mLk 108 15 = some (.getfield 62, 3) := rfl
theorem c_108_18 : mLk 108 18 = some (.invokevirtual 233, 3) := rfl
theorem c_108_21 : mLk 108 21 = some (.aload_n 0, 1) := rfl
theorem c_108_22 : mLk 108 22 = some (.getfield 66, 3) := rfl
theorem c_108_25 : mLk 108 25 = some (.iload_n 1, 1) := rfl
theorem c_108_26 : mLk 108 26 = some (.iload_n 2, 1) := rfl
theorem c_108_27 : mLk 108 27 = some (.invokevirtual 236, 3) := rfl
theorem c_108_30 : mLk 108 30 = some (.ifCond .eq 14, 3) := rfl
theorem c_108_44 : mLk 108 44 = some (.iconst (-1), 1) := rfl
theorem c_108_45 : mLk 108 45 = some (.ireturn, 1) := rfl
theorem c_108_33 : mLk 108 33 = some (.aload_n 0, 1) := rfl
theorem c_108_34 : mLk 108 34 = some (.getfield 66, 3) := rfl
theorem c_108_37 : mLk 108 37 = some (.iload_n 2, 1) := rfl
theorem c_108_38 : mLk 108 38 = some (.invokevirtual 223, 3) := rfl
theorem c_108_41 : mLk 108 41 = some (.goto 4, 3) := rfl
theorem c_109_18 : mLk 109 18 = some (.iload_n 2, 1) := rfl
theorem c_109_19 : mLk 109 19 = some (.bipush 99, 2) := rfl
theorem c_109_21 : mLk 109 21 = some (.if_icmp .gt 34, 3) := rfl
theorem c_109_55 : mLk 109 55 = some (.iconst (-1), 1) := rfl
theorem c_109_56 : mLk 109 56 = some (.ireturn, 1) := rfl
theorem c_109_24 : mLk 109 24 = some (.aload_n 0, 1) := rfl
theorem c_109_25 : mLk 109 25 = some (.getfield 66, 3) := rfl
theorem c_109_28 : mLk 109 28 = some (.iload_n 1, 1) := rfl
theorem c_109_29 : mLk 109 29 = some (.invokevirtual 230, 3) := rfl
theorem c_109_32 : mLk 109 32 = some (.ifCond .eq 5, 3) := rfl
theorem c_109_37 : mLk 109 37 = some (.aload_n 0, 1) := rfl
theorem c_109_38 : mLk 109 38 = some (.getfield 66, 3) := rfl
theorem c_109_41 : mLk 109 41 = some (.invokevirtual 240, 3) := rfl
theorem c_109_44 : mLk 109 44 = some (.ifCond .ne 5, 3) := rfl
theorem c_109_49 : mLk 109 49 = some (.iinc 2 1, 3) := rfl
theorem c_109_52 : mLk 109 52 = some (.goto (-34), 3) := rfl
theorem c_109_47 : mLk 109 47 = some (.iconst (-1), 1) := rfl
theorem c_109_48 : mLk 109 48 = some (.ireturn, 1) := rfl
theorem c_109_35 : mLk 109 35 = some (.iload_n 2, 1) := rfl
theorem c_109_36 : mLk 109 36 = some (.ireturn, 1) := rfl
theorem c_109_0 : mLk 109 0 = some (.aload_n 0, 1) := rfl
theorem c_109_1 : mLk 109 1 = some (.iload_n 1, 1) := rfl
theorem c_109_2 : mLk 109 2 = some (.invokevirtual 184, 3) := rfl
theorem c_109_5 : mLk 109 5 = some (.aload_n 0, 1) := rfl
theorem c_109_6 : mLk 109 6 = some (.getfield 66, 3) := rfl
theorem c_109_9 : mLk 109 9 = some (.aload_n 0, 1) := rfl
theorem c_109_10 : mLk 109 10 = some (.getfield 62, 3) := rfl
theorem c_109_13 : mLk 109 13 = some (.invokevirtual 233, 3) := rfl
theorem c_109_16 : mLk 109 16 = some (.iconst 0, 1) := rfl
theorem c_109_17 : mLk 109 17 = some (.istore_n 2, 1) := rfl
theorem c_110_0 : mLk 110 0 = some (.aload_n 0, 1) := rfl
theorem c_110_1 : mLk 110 1 = some (.iload_n 1, 1) := rfl
theorem c_110_2 : mLk 110 2 = some (.invokevirtual 200, 3) := rfl
theorem c_110_5 : mLk 110 5 = some (.aload_n 0, 1) := rfl
theorem c_110_6 : mLk 110 6 = some (.iload_n 2, 1) := rfl
theorem c_110_7 : mLk 110 7 = some (.invokevirtual 184, 3) := rfl
theorem c_110_10 : mLk 110 10 = some (.aload_n 0, 1) := rfl
theorem c_110_11 : mLk 110 11 = some (.iload_n 3, 1) := rfl
theorem c_110_12 : mLk 110 12 = some (.iconst 0, 1) := rfl
theorem c_110_13 : mLk 110 13 = some (.iconst 4, 1) := rfl
theorem c_110_14 : mLk 110 14 = some (.invokestatic 157, 3) := rfl
theorem c_110_17 : mLk 110 17 = some (.invokevirtual 161, 3) := rfl
theorem c_110_20 : mLk 110 20 = some (.aload_n 0, 1) := rfl
theorem c_110_21 : mLk 110 21 = some (.getfield 66, 3) := rfl
theorem c_110_24 : mLk 110 24 = some (.aload_n 0, 1) := rfl
theorem c_110_25 : mLk 110 25 = some (.getfield 62, 3) := rfl
theorem c_110_28 : mLk 110 28 = some (.invokevirtual 233, 3) := rfl
theorem c_110_31 : mLk 110 31 = some (.aload_n 0, 1) := rfl
theorem c_110_32 : mLk 110 32 = some (.getfield 66, 3) := rfl
theorem c_110_35 : mLk 110 35 = some (.iload_n 1, 1) := rfl
theorem c_110_36 : mLk 110 36 = some (.iload_n 2, 1) := rfl
theorem c_110_37 : mLk 110 37 = some (.invokevirtual 243, 3) := rfl
theorem c_110_40 : mLk 110 40 = some (.pop, 1) := rfl
theorem c_110_41 : mLk 110 41 = some (.iload_n 3, 1) := rfl
theorem c_110_42 : mLk 110 42 = some (.iconst 4, 1) := rfl
theorem c_110_43 : mLk 110 43 = some (.if_icmp .ne 25, 3) := rfl
theorem c_110_68 : mLk 110 68 = some (.aload_n 0, 1) := rfl
theorem c_110_69 : mLk 110 69 = some (.getfield 66, 3) := rfl
theorem c_110_72 : mLk 110 72 = some (.iload_n 2, 1) := rfl
theorem c_110_73 : mLk 110 73 = some (.iload_n 3, 1) := rfl
theorem c_110_74 : mLk 110 74 = some (.invokevirtual 196, 3) := rfl
theorem c_110_77 : mLk 110 77 = some (.ireturn, 1) := rfl
theorem c_110_46 : mLk 110 46 = some (.aload_n 0, 1) := rfl
theorem c_110_47 : mLk 110 47 = some (.getfield 66, 3) := rfl
theorem c_110_50 : mLk 110 50 = some (.getfield 174, 3) := rfl
theorem c_110_53 : mLk 110 53 = some (.bipush 32, 2) := rfl
theorem c_110_55 : mLk 110 55 = some (.iaload, 1) := rfl
theorem c_110_56 : mLk 110 56 = some (.aload_n 0, 1) := rfl
theorem c_110_57 : mLk 110 57 = some (.getfield 62, 3) := rfl
theorem c_110_60 : mLk 110 60 = some (.getfield 174, 3) := rfl
theorem c_110_63 : mLk 110 63 = some (.bipush 32, 2) := rfl
theorem c_110_65 : mLk 110 65 = some (.iaload, 1) := rfl
theorem c_110_66 : mLk 110 66 = some (.isub, 1) := rfl
theorem c_110_67 : mLk 110 67 = some (.ireturn, 1) := rfl
theorem c_111_0 : mLk 111 0 = some (.aload_n 0, 1) := rfl
theorem c_111_1 : mLk 111 1 = some (.iload_n 1, 1) := rfl
theorem c_111_2 : mLk 111 2 = some (.invokevirtual 206, 3) := rfl
theorem c_111_5 : mLk 111 5 = some (.aload_n 0, 1) := rfl
theorem c_111_6 : mLk 111 6 = some (.iload_n 2, 1) := rfl
theorem c_111_7 : mLk 111 7 = some (.invokevirtual 184, 3) := rfl
theorem c_111_10 : mLk 111 10 = some (.aload_n 0, 1) := rfl
theorem c_111_11 : mLk 111 11 = some (.iload_n 3, 1) := rfl
theorem c_111_12 : mLk 111 12 = some (.iconst 0, 1) := rfl
theorem c_111_13 : mLk 111 13 = some (.iconst 4, 1) := rfl
theorem c_111_14 : mLk 111 14 = some (.invokestatic 157, 3) := rfl
theorem c_111_17 : mLk 111 17 = some (.invokevirtual 161, 3) := rfl
theorem c_111_20 : mLk 111 20 = some (.iload_n 3, 1) := rfl
theorem c_111_21 : mLk 111 21 = some (.iconst 4, 1) := rfl
theorem c_111_22 : mLk 111 22 = some (.if_icmp .ne 15, 3) := rfl
theorem c_111_37 : mLk 111 37 = some (.aload_n 0, 1) := rfl
theorem c_111_38 : mLk 111 38 = some (.getfield 62, 3) := rfl
theorem c_111_41 : mLk 111 41 = some (.iload_n 1, 1) := rfl
theorem c_111_42 : mLk 111 42 = some (.iload_n 2, 1) := rfl
theorem c_111_43 : mLk 111 43 = some (.iload_n 3, 1) := rfl
theorem c_111_44 : mLk 111 44 = some (.invokevirtual 249, 3) := rfl
theorem c_111_47 : mLk 111 47 = some (.ireturn, 1) := rfl
theorem c_111_25 : mLk 111 25 = some (.aload_n 0, 1) := rfl
theorem c_111_26 : mLk 111 26 = some (.getfield 62, 3) := rfl
theorem c_111_29 : mLk 111 29 = some (.iload_n 1, 1) := rfl
theorem c_111_30 : mLk 111 30 = some (.iload_n 2, 1) := rfl
theorem c_111_31 : mLk 111 31 = some (.invokevirtual 246, 3) := rfl
theorem c_111_34 : mLk 111 34 = some (.goto 13, 3) := rfl
theorem c_112_49 : mLk 112 49 = some (.iload 4, 2) := rfl
theorem c_112_51 : mLk 112 51 = some (.bipush 99, 2) := rfl
theorem c_112_53 : mLk 112 53 = some (.if_icmp .gt 34, 3) := rfl
theorem c_112_87 : mLk 112 87 = some (.iconst (-1), 1) := rfl
theorem c_112_88 : mLk 112 88 = some (.ireturn, 1) := rfl
theorem c_112_56 : mLk 112 56 = some (.aload_n 0, 1) := rfl
theorem c_112_57 : mLk 112 57 = some (.getfield 66, 3) := rfl
theorem c_112_60 : mLk 112 60 = some (.iload_n 1, 1) := rfl
theorem c_112_61 : mLk 112 61 = some (.invokevirtual 193, 3) := rfl
theorem c_112_64 : mLk 112 64 = some (.iload_n 3, 1) := rfl
theorem c_112_65 : mLk 112 65 = some (.if_icmp .lt 6, 3) := rfl
theorem c_112_71 : mLk 112 71 = some (.aload_n 0, 1) := rfl
theorem c_112_72 : mLk 112 72 = some (.getfield 66, 3) := rfl
theorem c_112_75 : mLk 112 75 = some (.iload_n 2, 1) := rfl
theorem c_112_76 : mLk 112 76 = some (.iload_n 1, 1) := rfl
theorem c_112_77 : mLk 112 77 = some (.invokevirtual 243, 3) := rfl
theorem c_112_80 : mLk 112 80 = some (.pop, 1) := rfl
theorem c_112_81 : mLk 112 81 = some (.iinc 4 1, 3) := rfl
theorem c_112_84 : mLk 112 84 = some (.goto (-35), 3) := rfl
theorem c_112_68 : mLk 112 68 = some (.iload 4, 2) := rfl
theorem c_112_70 : mLk 112 70 = some (.ireturn, 1) := rfl
theorem c_112_0 : mLk 112 0 = some (.aload_n 0, 1) := rfl
theorem c_112_1 : mLk 112 1 = some (.iload_n 1, 1) := rfl
theorem c_112_2 : mLk 112 2 = some (.invokevirtual 184, 3) := rfl
theorem c_112_5 : mLk 112 5 = some (.aload_n 0, 1) := rfl
theorem c_112_6 : mLk 112 6 = some (.iload_n 2, 1) := rfl
theorem c_112_7 : mLk 112 7 = some (.invokevirtual 200, 3) := rfl
theorem c_112_10 : mLk 112 10 = some (.aload_n 0, 1) := rfl
theorem c_112_11 : mLk 112 11 = some (.iload_n 3, 1) := rfl
theorem c_112_12 : mLk 112 12 = some (.iconst 0, 1) := rfl
theorem c_112_13 : mLk 112 13 = some (.sipush 1000, 3) := rfl
theorem c_112_16 : mLk 112 16 = some (.invokestatic 157, 3) := rfl
theorem c_112_19 : mLk 112 19 = some (.invokevirtual 161, 3) := rfl
theorem c_112_22 : mLk 112 22 = some (.aload_n 0, 1) := rfl
theorem c_112_23 : mLk 112 23 = some (.getfield 62, 3) := rfl
theorem c_112_26 : mLk 112 26 = some (.iload_n 1, 1) := rfl
theorem c_112_27 : mLk 112 27 = some (.invokevirtual 187, 3) := rfl
theorem c_112_30 : mLk 112 30 = some (.ifCond .ne 5, 3) := rfl
theorem c_112_35 : mLk 112 35 = some (.aload_n 0, 1) := rfl
theorem c_112_36 : mLk 112 36 = some (.getfield 66, 3) := rfl
theorem c_112_39 : mLk 112 39 = some (.aload_n 0, 1) := rfl
theorem c_112_40 : mLk 112 40 = some (.getfield 62, 3) := rfl
theorem c_112_43 : mLk 112 43 = some (.invokevirtual 233, 3) := rfl
theorem c_112_46 : mLk 112 46 = some (.iconst 0, 1) := rfl
theorem c_112_47 : mLk 112 47 = some (.istore 4, 2) := rfl
theorem c_112_33 : mLk 112 33 = some (.iconst (-1), 1) := rfl
theorem c_112_34 : mLk 112 34 = some (.ireturn, 1) := rfl
theorem c_113_4 : mLk 113 4 = some (.iload_n 3, 1) := rfl
theorem c_113_5 : mLk 113 5 = some (.iconst 4, 1) := rfl
theorem c_113_6 : mLk 113 6 = some (.if_icmp .ge 39, 3) := rfl
theorem c_113_45 : mLk 113 45 = some (.iload_n 2, 1) := rfl
theorem c_113_46 : mLk 113 46 = some (.ireturn, 1) := rfl
theorem c_113_9 : mLk 113 9 = some (.aload_n 0, 1) := rfl
theorem c_113_10 : mLk 113 10 = some (.getfield 44, 3) := rfl
theorem c_113_13 : mLk 113 13 = some (.iload_n 3, 1) := rfl
theorem c_113_14 : mLk 113 14 = some (.aload_n 0, 1) := rfl
theorem c_113_15 : mLk 113 15 = some (.getfield 62, 3) := rfl
theorem c_113_18 : mLk 113 18 = some (.iload_n 1, 1) := rfl
theorem c_113_19 : mLk 113 19 = some (.iload_n 3, 1) := rfl
theorem c_113_20 : mLk 113 20 = some (.aload_n 0, 1) := rfl
theorem c_113_21 : mLk 113 21 = some (.getfield 44, 3) := rfl
theorem c_113_24 : mLk 113 24 = some (.iload_n 3, 1) := rfl
theorem c_113_25 : mLk 113 25 = some (.iaload, 1) := rfl
theorem c_113_26 : mLk 113 26 = some (.invokevirtual 354, 3) := rfl
theorem c_113_29 : mLk 113 29 = some (.iastore, 1) := rfl
theorem c_113_30 : mLk 113 30 = some (.iload_n 2, 1) := rfl
theorem c_113_31 : mLk 113 31 = some (.aload_n 0, 1) := rfl
theorem c_113_32 : mLk 113 32 = some (.getfield 44, 3) := rfl
theorem c_113_35 : mLk 113 35 = some (.iload_n 3, 1) := rfl
theorem c_113_38 : mLk 113 38 = some (.istore_n 2, 1) := rfl
theorem c_113_39 : mLk 113 39 = some (.iinc 3 1, 3) := rfl
theorem c_113_42 : mLk 113 42 = some (.goto (-38), 3) := rfl
theorem c_113_0 : mLk 113 0 = some (.iconst 0, 1) := rfl
theorem c_113_1 : mLk 113 1 = some (.istore_n 2, 1) := rfl
theorem c_113_2 : mLk 113 2 = some (.iconst 0, 1) := rfl
theorem c_113_3 : mLk 113 3 = some (.istore_n 3, 1) := rfl
theorem kf_7_44 : a_lk (kF 7) 44 = some (7, 6) := rfl
theorem km_7_226 : a_lk (kM 7) 226 = some (0, 20) := rfl
theorem km_7_230 : a_lk (kM 7) 230 = some (0, 57) := rfl
theorem km_7_233 : a_lk (kM 7) 233 = some (0, 66) := rfl
theorem km_7_236 : a_lk (kM 7) 236 = some (0, 55) := rfl
theorem km_7_240 : a_lk (kM 7) 240 = some (0, 60) := rfl
theorem km_7_243 : a_lk (kM 7) 243 = some (0, 44) := rfl
theorem km_7_246 : a_lk (kM 7) 246 = some (0, 49) := rfl
theorem km_7_249 : a_lk (kM 7) 249 = some (0, 48) := rfl
theorem km_7_354 : a_lk (kM 7) 354 = some (0, 47) := rfl
set_option maxRecDepth 100000 in
set_option maxHeartbeats 4000000 in
theorem s_104 {sc : List Int32} {e : Int} {d u P Q : Nat} {c : ME} {a1 : Int} {a2 : Int} {a3 : Int} {a4 : Int} {a5 : Int} {a6 : Int} {a7 : Int} {Z : AR → Prop} (hI : Iv u e P Q c) (ha1 : (-2147483648) ≤ a1 ∧ a1 ≤ 2147483647) (ha2 : (-2147483648) ≤ a2 ∧ a2 ≤ 2147483647) (ha3 : (-2147483648) ≤ a3 ∧ a3 ≤ 2147483647) (ha4 : (-2147483648) ≤ a4 ∧ a4 ≤ 2147483647) (ha5 : (-2147483648) ≤ a5 ∧ a5 ≤ 2147483647) (ha6 : (-2147483648) ≤ a6 ∧ a6 ≤ 2147483647) (ha7 : (-2147483648) ≤ a7 ∧ a7 ≤ 2147483647) (T101 : ∀ c2 : ME, Iv u e P Q c2 → (∀ (a : Nat) (j : Int), ¬ ((a = 0 ∧ j = 13) ∨ a = (P + 10) ∨ a = (P + 11)) → c2 a j = c a j) → Z (.inr 101, Wd P Q P P c2, 1, 6)) (K : ∀ (c2 : ME) (y : Int), Iv u e P Q c2 → (∀ (a : Nat) (j : Int), ¬ ((a = 0 ∧ j = 13) ∨ a = (P + 10) ∨ a = (P + 11)) → c2 a j = c a j) → (-2147483648) ≤ y ∧ y ≤ 2147483647 → Z (.inl (some (vi y)), Wd P Q P P c2, 0, 0)) : Wp sc (d + 9) 104 0 [(0, .ref 0), (1, vi a1), (2, vi a2), (3, vi a3), (4, vi a4), (5, vi a5), (6, vi a6), (7, vi a7)] [] (Wd P Q P P c) 0 0 Z := by
  have hP := iv_P hI
  have hQ := iv_Q hI
  refine q_aload_n c_104_0 rfl (q_iload_n c_104_1 rfl (q_iconst c_104_2 (v_sip c_104_3 (of_decide_eq_true rfl) (q_call c_104_6 rfl rfl rfl (q_iload_n c_80_0 rfl (q_iload_n c_80_1 rfl ?_))))))
  by_cases h_1 : a1 < 0
  · refine v_ic_lt_t (t := 14) c_80_2 rfl ⟨ha1.1, h_1, of_decide_eq_true rfl⟩ (q_iconst c_80_14 (v_zret c_80_15 rfl (of_decide_eq_true rfl) (bk_inl (v_if_eq_t (t := 84) c_104_9 rfl (of_decide_eq_true rfl) (q_iconst c_104_84 (v_cv c_104_85 km_7_161 rfl rfl (Nat.le_of_ble_eq_true rfl) ⟨⟨rfl, rfl⟩, Nat.le_of_ble_eq_true rfl, rfl⟩ (Nat.le_of_ble_eq_true rfl) (Nat.le_of_ble_eq_true rfl) (q_iload_n c_81_0 rfl ?_)))))))
    refine v_if_ne_f (t := 25) c_81_1 rfl (of_decide_eq_true rfl) (q_aload_n c_81_4 rfl (q_dup c_81_5 rfl ?_))
    have h_2 := ir_0_13 hI
    refine v_gi (z := 13) (v := c 0 13) c_81_6 kf_7_330 rfl (Nat.le_of_ble_eq_true rfl) rfl rfl rfl (q_iconst c_81_9 (v_iadd (v := c 0 13 + 1) c_81_10 rfl (v_nrm (fun y_3 hy_3 => (v_pi (z := 13) c_81_11 kf_7_330 rfl (Nat.le_of_ble_eq_true rfl) rfl rfl rfl (of_decide_eq_true rfl) (v_new c_81_14 rfl (of_decide_eq_true rfl) (by omega) (Nat.le_of_ble_eq_true rfl) (of_decide_eq_true rfl) rfl (bk_out rfl rfl ?_)))))))
    have hI_4 := iw_0_13 (v := y_3) hI ⟨hy_3.1, hy_3.2⟩
    exact T101 _ hI_4 (fun a j hm => up_b (Decidable.or_iff_not_imp_left.mpr (fun h1 h2 => hm (Or.inl ⟨Decidable.not_not.mp h1, h2⟩))))
  · refine v_ic_lt_f (t := 14) c_80_2 rfl ⟨of_decide_eq_true rfl, (Int.not_lt.mp h_1), ha1.2⟩ (q_iload_n c_80_5 rfl (q_iload_n c_80_6 rfl ?_))
    by_cases h_5 : a1 > 9999
    · refine v_ic_gt_t (t := 14) c_80_7 rfl ⟨of_decide_eq_true rfl, h_5, ha1.2⟩ (q_iconst c_80_14 (v_zret c_80_15 rfl (of_decide_eq_true rfl) (bk_inl (v_if_eq_t (t := 84) c_104_9 rfl (of_decide_eq_true rfl) (q_iconst c_104_84 (v_cv c_104_85 km_7_161 rfl rfl (Nat.le_of_ble_eq_true rfl) ⟨⟨rfl, rfl⟩, Nat.le_of_ble_eq_true rfl, rfl⟩ (Nat.le_of_ble_eq_true rfl) (Nat.le_of_ble_eq_true rfl) (q_iload_n c_81_0 rfl ?_)))))))
      refine v_if_ne_f (t := 25) c_81_1 rfl (of_decide_eq_true rfl) (q_aload_n c_81_4 rfl (q_dup c_81_5 rfl ?_))
      have h_6 := ir_0_13 hI
      refine v_gi (z := 13) (v := c 0 13) c_81_6 kf_7_330 rfl (Nat.le_of_ble_eq_true rfl) rfl rfl rfl (q_iconst c_81_9 (v_iadd (v := c 0 13 + 1) c_81_10 rfl (v_nrm (fun y_7 hy_7 => (v_pi (z := 13) c_81_11 kf_7_330 rfl (Nat.le_of_ble_eq_true rfl) rfl rfl rfl (of_decide_eq_true rfl) (v_new c_81_14 rfl (of_decide_eq_true rfl) (by omega) (Nat.le_of_ble_eq_true rfl) (of_decide_eq_true rfl) rfl (bk_out rfl rfl ?_)))))))
      have hI_8 := iw_0_13 (v := y_7) hI ⟨hy_7.1, hy_7.2⟩
      exact T101 _ hI_8 (fun a j hm => up_b (Decidable.or_iff_not_imp_left.mpr (fun h1 h2 => hm (Or.inl ⟨Decidable.not_not.mp h1, h2⟩))))
    · refine v_ic_gt_f (t := 14) c_80_7 rfl ⟨ha1.1, (Int.not_lt.mp h_5), of_decide_eq_true rfl⟩ (q_iconst c_80_10 (q_goto (t := 15) c_80_11 rfl (v_zret c_80_15 rfl (of_decide_eq_true rfl) (bk_inl (v_if_eq_f (t := 84) c_104_9 rfl (of_decide_eq_true rfl) (q_iload_n c_104_12 rfl (q_iconst c_104_13 ?_)))))))
      refine v_sip c_104_14 (of_decide_eq_true rfl) (q_call c_104_17 rfl rfl rfl (q_iload_n c_80_0 rfl (q_iload_n c_80_1 rfl ?_)))
      by_cases h_9 : a2 < 0
      · refine v_ic_lt_t (t := 14) c_80_2 rfl ⟨ha2.1, h_9, of_decide_eq_true rfl⟩ (q_iconst c_80_14 (v_zret c_80_15 rfl (of_decide_eq_true rfl) (bk_inl (v_if_eq_t (t := 84) c_104_20 rfl (of_decide_eq_true rfl) (q_iconst c_104_84 (v_cv c_104_85 km_7_161 rfl rfl (Nat.le_of_ble_eq_true rfl) ⟨⟨rfl, rfl⟩, Nat.le_of_ble_eq_true rfl, rfl⟩ (Nat.le_of_ble_eq_true rfl) (Nat.le_of_ble_eq_true rfl) (q_iload_n c_81_0 rfl ?_)))))))
        refine v_if_ne_f (t := 25) c_81_1 rfl (of_decide_eq_true rfl) (q_aload_n c_81_4 rfl (q_dup c_81_5 rfl ?_))
        have h_10 := ir_0_13 hI
        refine v_gi (z := 13) (v := c 0 13) c_81_6 kf_7_330 rfl (Nat.le_of_ble_eq_true rfl) rfl rfl rfl (q_iconst c_81_9 (v_iadd (v := c 0 13 + 1) c_81_10 rfl (v_nrm (fun y_11 hy_11 => (v_pi (z := 13) c_81_11 kf_7_330 rfl (Nat.le_of_ble_eq_true rfl) rfl rfl rfl (of_decide_eq_true rfl) (v_new c_81_14 rfl (of_decide_eq_true rfl) (by omega) (Nat.le_of_ble_eq_true rfl) (of_decide_eq_true rfl) rfl (bk_out rfl rfl ?_)))))))
        have hI_12 := iw_0_13 (v := y_11) hI ⟨hy_11.1, hy_11.2⟩
        exact T101 _ hI_12 (fun a j hm => up_b (Decidable.or_iff_not_imp_left.mpr (fun h1 h2 => hm (Or.inl ⟨Decidable.not_not.mp h1, h2⟩))))
      · refine v_ic_lt_f (t := 14) c_80_2 rfl ⟨of_decide_eq_true rfl, (Int.not_lt.mp h_9), ha2.2⟩ (q_iload_n c_80_5 rfl (q_iload_n c_80_6 rfl ?_))
        by_cases h_13 : a2 > 9999
        · refine v_ic_gt_t (t := 14) c_80_7 rfl ⟨of_decide_eq_true rfl, h_13, ha2.2⟩ (q_iconst c_80_14 (v_zret c_80_15 rfl (of_decide_eq_true rfl) (bk_inl (v_if_eq_t (t := 84) c_104_20 rfl (of_decide_eq_true rfl) (q_iconst c_104_84 (v_cv c_104_85 km_7_161 rfl rfl (Nat.le_of_ble_eq_true rfl) ⟨⟨rfl, rfl⟩, Nat.le_of_ble_eq_true rfl, rfl⟩ (Nat.le_of_ble_eq_true rfl) (Nat.le_of_ble_eq_true rfl) (q_iload_n c_81_0 rfl ?_)))))))
          refine v_if_ne_f (t := 25) c_81_1 rfl (of_decide_eq_true rfl) (q_aload_n c_81_4 rfl (q_dup c_81_5 rfl ?_))
          have h_14 := ir_0_13 hI
          refine v_gi (z := 13) (v := c 0 13) c_81_6 kf_7_330 rfl (Nat.le_of_ble_eq_true rfl) rfl rfl rfl (q_iconst c_81_9 (v_iadd (v := c 0 13 + 1) c_81_10 rfl (v_nrm (fun y_15 hy_15 => (v_pi (z := 13) c_81_11 kf_7_330 rfl (Nat.le_of_ble_eq_true rfl) rfl rfl rfl (of_decide_eq_true rfl) (v_new c_81_14 rfl (of_decide_eq_true rfl) (by omega) (Nat.le_of_ble_eq_true rfl) (of_decide_eq_true rfl) rfl (bk_out rfl rfl ?_)))))))
          have hI_16 := iw_0_13 (v := y_15) hI ⟨hy_15.1, hy_15.2⟩
          exact T101 _ hI_16 (fun a j hm => up_b (Decidable.or_iff_not_imp_left.mpr (fun h1 h2 => hm (Or.inl ⟨Decidable.not_not.mp h1, h2⟩))))
        · refine v_ic_gt_f (t := 14) c_80_7 rfl ⟨ha2.1, (Int.not_lt.mp h_13), of_decide_eq_true rfl⟩ (q_iconst c_80_10 (q_goto (t := 15) c_80_11 rfl (v_zret c_80_15 rfl (of_decide_eq_true rfl) (bk_inl (v_if_eq_f (t := 84) c_104_20 rfl (of_decide_eq_true rfl) (q_iload_n c_104_23 rfl (q_iconst c_104_24 ?_)))))))
          refine v_sip c_104_25 (of_decide_eq_true rfl) (q_call c_104_28 rfl rfl rfl (q_iload_n c_80_0 rfl (q_iload_n c_80_1 rfl ?_)))
          by_cases h_17 : a3 < 0
          · refine v_ic_lt_t (t := 14) c_80_2 rfl ⟨ha3.1, h_17, of_decide_eq_true rfl⟩ (q_iconst c_80_14 (v_zret c_80_15 rfl (of_decide_eq_true rfl) (bk_inl (v_if_eq_t (t := 84) c_104_31 rfl (of_decide_eq_true rfl) (q_iconst c_104_84 (v_cv c_104_85 km_7_161 rfl rfl (Nat.le_of_ble_eq_true rfl) ⟨⟨rfl, rfl⟩, Nat.le_of_ble_eq_true rfl, rfl⟩ (Nat.le_of_ble_eq_true rfl) (Nat.le_of_ble_eq_true rfl) (q_iload_n c_81_0 rfl ?_)))))))
            refine v_if_ne_f (t := 25) c_81_1 rfl (of_decide_eq_true rfl) (q_aload_n c_81_4 rfl (q_dup c_81_5 rfl ?_))
            have h_18 := ir_0_13 hI
            refine v_gi (z := 13) (v := c 0 13) c_81_6 kf_7_330 rfl (Nat.le_of_ble_eq_true rfl) rfl rfl rfl (q_iconst c_81_9 (v_iadd (v := c 0 13 + 1) c_81_10 rfl (v_nrm (fun y_19 hy_19 => (v_pi (z := 13) c_81_11 kf_7_330 rfl (Nat.le_of_ble_eq_true rfl) rfl rfl rfl (of_decide_eq_true rfl) (v_new c_81_14 rfl (of_decide_eq_true rfl) (by omega) (Nat.le_of_ble_eq_true rfl) (of_decide_eq_true rfl) rfl (bk_out rfl rfl ?_)))))))
            have hI_20 := iw_0_13 (v := y_19) hI ⟨hy_19.1, hy_19.2⟩
            exact T101 _ hI_20 (fun a j hm => up_b (Decidable.or_iff_not_imp_left.mpr (fun h1 h2 => hm (Or.inl ⟨Decidable.not_not.mp h1, h2⟩))))
          · refine v_ic_lt_f (t := 14) c_80_2 rfl ⟨of_decide_eq_true rfl, (Int.not_lt.mp h_17), ha3.2⟩ (q_iload_n c_80_5 rfl (q_iload_n c_80_6 rfl ?_))
            by_cases h_21 : a3 > 9999
            · refine v_ic_gt_t (t := 14) c_80_7 rfl ⟨of_decide_eq_true rfl, h_21, ha3.2⟩ (q_iconst c_80_14 (v_zret c_80_15 rfl (of_decide_eq_true rfl) (bk_inl (v_if_eq_t (t := 84) c_104_31 rfl (of_decide_eq_true rfl) (q_iconst c_104_84 (v_cv c_104_85 km_7_161 rfl rfl (Nat.le_of_ble_eq_true rfl) ⟨⟨rfl, rfl⟩, Nat.le_of_ble_eq_true rfl, rfl⟩ (Nat.le_of_ble_eq_true rfl) (Nat.le_of_ble_eq_true rfl) (q_iload_n c_81_0 rfl ?_)))))))
              refine v_if_ne_f (t := 25) c_81_1 rfl (of_decide_eq_true rfl) (q_aload_n c_81_4 rfl (q_dup c_81_5 rfl ?_))
              have h_22 := ir_0_13 hI
              refine v_gi (z := 13) (v := c 0 13) c_81_6 kf_7_330 rfl (Nat.le_of_ble_eq_true rfl) rfl rfl rfl (q_iconst c_81_9 (v_iadd (v := c 0 13 + 1) c_81_10 rfl (v_nrm (fun y_23 hy_23 => (v_pi (z := 13) c_81_11 kf_7_330 rfl (Nat.le_of_ble_eq_true rfl) rfl rfl rfl (of_decide_eq_true rfl) (v_new c_81_14 rfl (of_decide_eq_true rfl) (by omega) (Nat.le_of_ble_eq_true rfl) (of_decide_eq_true rfl) rfl (bk_out rfl rfl ?_)))))))
              have hI_24 := iw_0_13 (v := y_23) hI ⟨hy_23.1, hy_23.2⟩
              exact T101 _ hI_24 (fun a j hm => up_b (Decidable.or_iff_not_imp_left.mpr (fun h1 h2 => hm (Or.inl ⟨Decidable.not_not.mp h1, h2⟩))))
            · refine v_ic_gt_f (t := 14) c_80_7 rfl ⟨ha3.1, (Int.not_lt.mp h_21), of_decide_eq_true rfl⟩ (q_iconst c_80_10 (q_goto (t := 15) c_80_11 rfl (v_zret c_80_15 rfl (of_decide_eq_true rfl) (bk_inl (v_if_eq_f (t := 84) c_104_31 rfl (of_decide_eq_true rfl) (q_iload c_104_34 rfl (q_iconst c_104_36 ?_)))))))
              refine v_sip c_104_37 (of_decide_eq_true rfl) (q_call c_104_40 rfl rfl rfl (q_iload_n c_80_0 rfl (q_iload_n c_80_1 rfl ?_)))
              by_cases h_25 : a4 < 0
              · refine v_ic_lt_t (t := 14) c_80_2 rfl ⟨ha4.1, h_25, of_decide_eq_true rfl⟩ (q_iconst c_80_14 (v_zret c_80_15 rfl (of_decide_eq_true rfl) (bk_inl (v_if_eq_t (t := 84) c_104_43 rfl (of_decide_eq_true rfl) (q_iconst c_104_84 (v_cv c_104_85 km_7_161 rfl rfl (Nat.le_of_ble_eq_true rfl) ⟨⟨rfl, rfl⟩, Nat.le_of_ble_eq_true rfl, rfl⟩ (Nat.le_of_ble_eq_true rfl) (Nat.le_of_ble_eq_true rfl) (q_iload_n c_81_0 rfl ?_)))))))
                refine v_if_ne_f (t := 25) c_81_1 rfl (of_decide_eq_true rfl) (q_aload_n c_81_4 rfl (q_dup c_81_5 rfl ?_))
                have h_26 := ir_0_13 hI
                refine v_gi (z := 13) (v := c 0 13) c_81_6 kf_7_330 rfl (Nat.le_of_ble_eq_true rfl) rfl rfl rfl (q_iconst c_81_9 (v_iadd (v := c 0 13 + 1) c_81_10 rfl (v_nrm (fun y_27 hy_27 => (v_pi (z := 13) c_81_11 kf_7_330 rfl (Nat.le_of_ble_eq_true rfl) rfl rfl rfl (of_decide_eq_true rfl) (v_new c_81_14 rfl (of_decide_eq_true rfl) (by omega) (Nat.le_of_ble_eq_true rfl) (of_decide_eq_true rfl) rfl (bk_out rfl rfl ?_)))))))
                have hI_28 := iw_0_13 (v := y_27) hI ⟨hy_27.1, hy_27.2⟩
                exact T101 _ hI_28 (fun a j hm => up_b (Decidable.or_iff_not_imp_left.mpr (fun h1 h2 => hm (Or.inl ⟨Decidable.not_not.mp h1, h2⟩))))
              · refine v_ic_lt_f (t := 14) c_80_2 rfl ⟨of_decide_eq_true rfl, (Int.not_lt.mp h_25), ha4.2⟩ (q_iload_n c_80_5 rfl (q_iload_n c_80_6 rfl ?_))
                by_cases h_29 : a4 > 9999
                · refine v_ic_gt_t (t := 14) c_80_7 rfl ⟨of_decide_eq_true rfl, h_29, ha4.2⟩ (q_iconst c_80_14 (v_zret c_80_15 rfl (of_decide_eq_true rfl) (bk_inl (v_if_eq_t (t := 84) c_104_43 rfl (of_decide_eq_true rfl) (q_iconst c_104_84 (v_cv c_104_85 km_7_161 rfl rfl (Nat.le_of_ble_eq_true rfl) ⟨⟨rfl, rfl⟩, Nat.le_of_ble_eq_true rfl, rfl⟩ (Nat.le_of_ble_eq_true rfl) (Nat.le_of_ble_eq_true rfl) (q_iload_n c_81_0 rfl ?_)))))))
                  refine v_if_ne_f (t := 25) c_81_1 rfl (of_decide_eq_true rfl) (q_aload_n c_81_4 rfl (q_dup c_81_5 rfl ?_))
                  have h_30 := ir_0_13 hI
                  refine v_gi (z := 13) (v := c 0 13) c_81_6 kf_7_330 rfl (Nat.le_of_ble_eq_true rfl) rfl rfl rfl (q_iconst c_81_9 (v_iadd (v := c 0 13 + 1) c_81_10 rfl (v_nrm (fun y_31 hy_31 => (v_pi (z := 13) c_81_11 kf_7_330 rfl (Nat.le_of_ble_eq_true rfl) rfl rfl rfl (of_decide_eq_true rfl) (v_new c_81_14 rfl (of_decide_eq_true rfl) (by omega) (Nat.le_of_ble_eq_true rfl) (of_decide_eq_true rfl) rfl (bk_out rfl rfl ?_)))))))
                  have hI_32 := iw_0_13 (v := y_31) hI ⟨hy_31.1, hy_31.2⟩
                  exact T101 _ hI_32 (fun a j hm => up_b (Decidable.or_iff_not_imp_left.mpr (fun h1 h2 => hm (Or.inl ⟨Decidable.not_not.mp h1, h2⟩))))
                · refine v_ic_gt_f (t := 14) c_80_7 rfl ⟨ha4.1, (Int.not_lt.mp h_29), of_decide_eq_true rfl⟩ (q_iconst c_80_10 (q_goto (t := 15) c_80_11 rfl (v_zret c_80_15 rfl (of_decide_eq_true rfl) (bk_inl (v_if_eq_f (t := 84) c_104_43 rfl (of_decide_eq_true rfl) (q_iload c_104_46 rfl (q_iconst c_104_48 ?_)))))))
                  refine v_sip c_104_49 (of_decide_eq_true rfl) (q_call c_104_52 rfl rfl rfl (q_iload_n c_80_0 rfl (q_iload_n c_80_1 rfl ?_)))
                  by_cases h_33 : a5 < 0
                  · refine v_ic_lt_t (t := 14) c_80_2 rfl ⟨ha5.1, h_33, of_decide_eq_true rfl⟩ (q_iconst c_80_14 (v_zret c_80_15 rfl (of_decide_eq_true rfl) (bk_inl (v_if_eq_t (t := 84) c_104_55 rfl (of_decide_eq_true rfl) (q_iconst c_104_84 (v_cv c_104_85 km_7_161 rfl rfl (Nat.le_of_ble_eq_true rfl) ⟨⟨rfl, rfl⟩, Nat.le_of_ble_eq_true rfl, rfl⟩ (Nat.le_of_ble_eq_true rfl) (Nat.le_of_ble_eq_true rfl) (q_iload_n c_81_0 rfl ?_)))))))
                    refine v_if_ne_f (t := 25) c_81_1 rfl (of_decide_eq_true rfl) (q_aload_n c_81_4 rfl (q_dup c_81_5 rfl ?_))
                    have h_34 := ir_0_13 hI
                    refine v_gi (z := 13) (v := c 0 13) c_81_6 kf_7_330 rfl (Nat.le_of_ble_eq_true rfl) rfl rfl rfl (q_iconst c_81_9 (v_iadd (v := c 0 13 + 1) c_81_10 rfl (v_nrm (fun y_35 hy_35 => (v_pi (z := 13) c_81_11 kf_7_330 rfl (Nat.le_of_ble_eq_true rfl) rfl rfl rfl (of_decide_eq_true rfl) (v_new c_81_14 rfl (of_decide_eq_true rfl) (by omega) (Nat.le_of_ble_eq_true rfl) (of_decide_eq_true rfl) rfl (bk_out rfl rfl ?_)))))))
                    have hI_36 := iw_0_13 (v := y_35) hI ⟨hy_35.1, hy_35.2⟩
                    exact T101 _ hI_36 (fun a j hm => up_b (Decidable.or_iff_not_imp_left.mpr (fun h1 h2 => hm (Or.inl ⟨Decidable.not_not.mp h1, h2⟩))))
                  · refine v_ic_lt_f (t := 14) c_80_2 rfl ⟨of_decide_eq_true rfl, (Int.not_lt.mp h_33), ha5.2⟩ (q_iload_n c_80_5 rfl (q_iload_n c_80_6 rfl ?_))
                    by_cases h_37 : a5 > 400
                    · refine v_ic_gt_t (t := 14) c_80_7 rfl ⟨of_decide_eq_true rfl, h_37, ha5.2⟩ (q_iconst c_80_14 (v_zret c_80_15 rfl (of_decide_eq_true rfl) (bk_inl (v_if_eq_t (t := 84) c_104_55 rfl (of_decide_eq_true rfl) (q_iconst c_104_84 (v_cv c_104_85 km_7_161 rfl rfl (Nat.le_of_ble_eq_true rfl) ⟨⟨rfl, rfl⟩, Nat.le_of_ble_eq_true rfl, rfl⟩ (Nat.le_of_ble_eq_true rfl) (Nat.le_of_ble_eq_true rfl) (q_iload_n c_81_0 rfl ?_)))))))
                      refine v_if_ne_f (t := 25) c_81_1 rfl (of_decide_eq_true rfl) (q_aload_n c_81_4 rfl (q_dup c_81_5 rfl ?_))
                      have h_38 := ir_0_13 hI
                      refine v_gi (z := 13) (v := c 0 13) c_81_6 kf_7_330 rfl (Nat.le_of_ble_eq_true rfl) rfl rfl rfl (q_iconst c_81_9 (v_iadd (v := c 0 13 + 1) c_81_10 rfl (v_nrm (fun y_39 hy_39 => (v_pi (z := 13) c_81_11 kf_7_330 rfl (Nat.le_of_ble_eq_true rfl) rfl rfl rfl (of_decide_eq_true rfl) (v_new c_81_14 rfl (of_decide_eq_true rfl) (by omega) (Nat.le_of_ble_eq_true rfl) (of_decide_eq_true rfl) rfl (bk_out rfl rfl ?_)))))))
                      have hI_40 := iw_0_13 (v := y_39) hI ⟨hy_39.1, hy_39.2⟩
                      exact T101 _ hI_40 (fun a j hm => up_b (Decidable.or_iff_not_imp_left.mpr (fun h1 h2 => hm (Or.inl ⟨Decidable.not_not.mp h1, h2⟩))))
                    · refine v_ic_gt_f (t := 14) c_80_7 rfl ⟨ha5.1, (Int.not_lt.mp h_37), of_decide_eq_true rfl⟩ (q_iconst c_80_10 (q_goto (t := 15) c_80_11 rfl (v_zret c_80_15 rfl (of_decide_eq_true rfl) (bk_inl (v_if_eq_f (t := 84) c_104_55 rfl (of_decide_eq_true rfl) (q_iload c_104_58 rfl (q_iconst c_104_60 ?_)))))))
                      refine v_sip c_104_61 (of_decide_eq_true rfl) (q_call c_104_64 rfl rfl rfl (q_iload_n c_80_0 rfl (q_iload_n c_80_1 rfl ?_)))
                      by_cases h_41 : a6 < 0
                      · refine v_ic_lt_t (t := 14) c_80_2 rfl ⟨ha6.1, h_41, of_decide_eq_true rfl⟩ (q_iconst c_80_14 (v_zret c_80_15 rfl (of_decide_eq_true rfl) (bk_inl (v_if_eq_t (t := 84) c_104_67 rfl (of_decide_eq_true rfl) (q_iconst c_104_84 (v_cv c_104_85 km_7_161 rfl rfl (Nat.le_of_ble_eq_true rfl) ⟨⟨rfl, rfl⟩, Nat.le_of_ble_eq_true rfl, rfl⟩ (Nat.le_of_ble_eq_true rfl) (Nat.le_of_ble_eq_true rfl) (q_iload_n c_81_0 rfl ?_)))))))
                        refine v_if_ne_f (t := 25) c_81_1 rfl (of_decide_eq_true rfl) (q_aload_n c_81_4 rfl (q_dup c_81_5 rfl ?_))
                        have h_42 := ir_0_13 hI
                        refine v_gi (z := 13) (v := c 0 13) c_81_6 kf_7_330 rfl (Nat.le_of_ble_eq_true rfl) rfl rfl rfl (q_iconst c_81_9 (v_iadd (v := c 0 13 + 1) c_81_10 rfl (v_nrm (fun y_43 hy_43 => (v_pi (z := 13) c_81_11 kf_7_330 rfl (Nat.le_of_ble_eq_true rfl) rfl rfl rfl (of_decide_eq_true rfl) (v_new c_81_14 rfl (of_decide_eq_true rfl) (by omega) (Nat.le_of_ble_eq_true rfl) (of_decide_eq_true rfl) rfl (bk_out rfl rfl ?_)))))))
                        have hI_44 := iw_0_13 (v := y_43) hI ⟨hy_43.1, hy_43.2⟩
                        exact T101 _ hI_44 (fun a j hm => up_b (Decidable.or_iff_not_imp_left.mpr (fun h1 h2 => hm (Or.inl ⟨Decidable.not_not.mp h1, h2⟩))))
                      · refine v_ic_lt_f (t := 14) c_80_2 rfl ⟨of_decide_eq_true rfl, (Int.not_lt.mp h_41), ha6.2⟩ (q_iload_n c_80_5 rfl (q_iload_n c_80_6 rfl ?_))
                        by_cases h_45 : a6 > 400
                        · refine v_ic_gt_t (t := 14) c_80_7 rfl ⟨of_decide_eq_true rfl, h_45, ha6.2⟩ (q_iconst c_80_14 (v_zret c_80_15 rfl (of_decide_eq_true rfl) (bk_inl (v_if_eq_t (t := 84) c_104_67 rfl (of_decide_eq_true rfl) (q_iconst c_104_84 (v_cv c_104_85 km_7_161 rfl rfl (Nat.le_of_ble_eq_true rfl) ⟨⟨rfl, rfl⟩, Nat.le_of_ble_eq_true rfl, rfl⟩ (Nat.le_of_ble_eq_true rfl) (Nat.le_of_ble_eq_true rfl) (q_iload_n c_81_0 rfl ?_)))))))
                          refine v_if_ne_f (t := 25) c_81_1 rfl (of_decide_eq_true rfl) (q_aload_n c_81_4 rfl (q_dup c_81_5 rfl ?_))
                          have h_46 := ir_0_13 hI
                          refine v_gi (z := 13) (v := c 0 13) c_81_6 kf_7_330 rfl (Nat.le_of_ble_eq_true rfl) rfl rfl rfl (q_iconst c_81_9 (v_iadd (v := c 0 13 + 1) c_81_10 rfl (v_nrm (fun y_47 hy_47 => (v_pi (z := 13) c_81_11 kf_7_330 rfl (Nat.le_of_ble_eq_true rfl) rfl rfl rfl (of_decide_eq_true rfl) (v_new c_81_14 rfl (of_decide_eq_true rfl) (by omega) (Nat.le_of_ble_eq_true rfl) (of_decide_eq_true rfl) rfl (bk_out rfl rfl ?_)))))))
                          have hI_48 := iw_0_13 (v := y_47) hI ⟨hy_47.1, hy_47.2⟩
                          exact T101 _ hI_48 (fun a j hm => up_b (Decidable.or_iff_not_imp_left.mpr (fun h1 h2 => hm (Or.inl ⟨Decidable.not_not.mp h1, h2⟩))))
                        · refine v_ic_gt_f (t := 14) c_80_7 rfl ⟨ha6.1, (Int.not_lt.mp h_45), of_decide_eq_true rfl⟩ (q_iconst c_80_10 (q_goto (t := 15) c_80_11 rfl (v_zret c_80_15 rfl (of_decide_eq_true rfl) (bk_inl (v_if_eq_f (t := 84) c_104_67 rfl (of_decide_eq_true rfl) (q_iload c_104_70 rfl (q_iconst c_104_72 ?_)))))))
                          refine q_iconst c_104_73 (q_call c_104_74 rfl rfl rfl (q_iload_n c_80_0 rfl (q_iload_n c_80_1 rfl ?_)))
                          by_cases h_49 : a7 < 0
                          · refine v_ic_lt_t (t := 14) c_80_2 rfl ⟨ha7.1, h_49, of_decide_eq_true rfl⟩ (q_iconst c_80_14 (v_zret c_80_15 rfl (of_decide_eq_true rfl) (bk_inl (v_if_eq_t (t := 84) c_104_77 rfl (of_decide_eq_true rfl) (q_iconst c_104_84 (v_cv c_104_85 km_7_161 rfl rfl (Nat.le_of_ble_eq_true rfl) ⟨⟨rfl, rfl⟩, Nat.le_of_ble_eq_true rfl, rfl⟩ (Nat.le_of_ble_eq_true rfl) (Nat.le_of_ble_eq_true rfl) (q_iload_n c_81_0 rfl ?_)))))))
                            refine v_if_ne_f (t := 25) c_81_1 rfl (of_decide_eq_true rfl) (q_aload_n c_81_4 rfl (q_dup c_81_5 rfl ?_))
                            have h_50 := ir_0_13 hI
                            refine v_gi (z := 13) (v := c 0 13) c_81_6 kf_7_330 rfl (Nat.le_of_ble_eq_true rfl) rfl rfl rfl (q_iconst c_81_9 (v_iadd (v := c 0 13 + 1) c_81_10 rfl (v_nrm (fun y_51 hy_51 => (v_pi (z := 13) c_81_11 kf_7_330 rfl (Nat.le_of_ble_eq_true rfl) rfl rfl rfl (of_decide_eq_true rfl) (v_new c_81_14 rfl (of_decide_eq_true rfl) (by omega) (Nat.le_of_ble_eq_true rfl) (of_decide_eq_true rfl) rfl (bk_out rfl rfl ?_)))))))
                            have hI_52 := iw_0_13 (v := y_51) hI ⟨hy_51.1, hy_51.2⟩
                            exact T101 _ hI_52 (fun a j hm => up_b (Decidable.or_iff_not_imp_left.mpr (fun h1 h2 => hm (Or.inl ⟨Decidable.not_not.mp h1, h2⟩))))
                          · refine v_ic_lt_f (t := 14) c_80_2 rfl ⟨of_decide_eq_true rfl, (Int.not_lt.mp h_49), ha7.2⟩ (q_iload_n c_80_5 rfl (q_iload_n c_80_6 rfl ?_))
                            by_cases h_53 : a7 > 5
                            · refine v_ic_gt_t (t := 14) c_80_7 rfl ⟨of_decide_eq_true rfl, h_53, ha7.2⟩ (q_iconst c_80_14 (v_zret c_80_15 rfl (of_decide_eq_true rfl) (bk_inl (v_if_eq_t (t := 84) c_104_77 rfl (of_decide_eq_true rfl) (q_iconst c_104_84 (v_cv c_104_85 km_7_161 rfl rfl (Nat.le_of_ble_eq_true rfl) ⟨⟨rfl, rfl⟩, Nat.le_of_ble_eq_true rfl, rfl⟩ (Nat.le_of_ble_eq_true rfl) (Nat.le_of_ble_eq_true rfl) (q_iload_n c_81_0 rfl ?_)))))))
                              refine v_if_ne_f (t := 25) c_81_1 rfl (of_decide_eq_true rfl) (q_aload_n c_81_4 rfl (q_dup c_81_5 rfl ?_))
                              have h_54 := ir_0_13 hI
                              refine v_gi (z := 13) (v := c 0 13) c_81_6 kf_7_330 rfl (Nat.le_of_ble_eq_true rfl) rfl rfl rfl (q_iconst c_81_9 (v_iadd (v := c 0 13 + 1) c_81_10 rfl (v_nrm (fun y_55 hy_55 => (v_pi (z := 13) c_81_11 kf_7_330 rfl (Nat.le_of_ble_eq_true rfl) rfl rfl rfl (of_decide_eq_true rfl) (v_new c_81_14 rfl (of_decide_eq_true rfl) (by omega) (Nat.le_of_ble_eq_true rfl) (of_decide_eq_true rfl) rfl (bk_out rfl rfl ?_)))))))
                              have hI_56 := iw_0_13 (v := y_55) hI ⟨hy_55.1, hy_55.2⟩
                              exact T101 _ hI_56 (fun a j hm => up_b (Decidable.or_iff_not_imp_left.mpr (fun h1 h2 => hm (Or.inl ⟨Decidable.not_not.mp h1, h2⟩))))
                            · refine v_ic_gt_f (t := 14) c_80_7 rfl ⟨ha7.1, (Int.not_lt.mp h_53), of_decide_eq_true rfl⟩ (q_iconst c_80_10 (q_goto (t := 15) c_80_11 rfl (v_zret c_80_15 rfl (of_decide_eq_true rfl) (bk_inl (v_if_eq_f (t := 84) c_104_77 rfl (of_decide_eq_true rfl) (q_iconst c_104_80 (q_goto (t := 85) c_104_81 rfl ?_)))))))
                              refine v_cv c_104_85 km_7_161 rfl rfl (Nat.le_of_ble_eq_true rfl) ⟨⟨rfl, rfl⟩, Nat.le_of_ble_eq_true rfl, rfl⟩ (Nat.le_of_ble_eq_true rfl) (Nat.le_of_ble_eq_true rfl) (q_iload_n c_81_0 rfl (v_if_ne_t (t := 25) c_81_1 rfl (of_decide_eq_true rfl) (q_vret rfl rfl (bk_inl (q_aload_n c_104_88 rfl (v_gr (t := P) c_104_89 kf_7_50 rfl (Nat.le_of_ble_eq_true rfl) rfl (v_gr (t := (P + 7)) c_104_92 kf_7_109 (ck_p0 hP) (a68z hP) rfl ?_)))))))
                              refine q_iload_n c_104_95 rfl (q_iload_n c_104_96 rfl (q_iload_n c_104_97 rfl (q_iload c_104_98 rfl (q_iload c_104_100 rfl (q_iload c_104_102 rfl (q_iload c_104_104 rfl (v_cv c_104_106 km_7_226 rfl (ck_p7 hP) (a68 hP rfl) ⟨⟨rfl, rfl⟩, of_decide_eq_true rfl, rfl⟩ (Nat.le_of_ble_eq_true rfl) (Nat.le_of_ble_eq_true rfl) (s_20 (a1 := a1) (a2 := a2) (a3 := a3) (a4 := a4) (a5 := a5) (a6 := a6) (a7 := a7) hI hP (show 0 ≤ a1 ∧ a1 ≤ 9999 from ⟨(q_720657ba9 h_1), (q_72f86bfab h_5)⟩) (show 0 ≤ a2 ∧ a2 ≤ 9999 from ⟨(q_720657ba9 h_9), (q_72f86bfab h_13)⟩) (show 0 ≤ a3 ∧ a3 ≤ 9999 from ⟨(q_720657ba9 h_17), (q_72f86bfab h_21)⟩) (show 0 ≤ a4 ∧ a4 ≤ 9999 from ⟨(q_720657ba9 h_25), (q_72f86bfab h_29)⟩) (show (-2147483648) ≤ a5 ∧ a5 ≤ 2147483647 from ha5) (show (-2147483648) ≤ a6 ∧ a6 ≤ 2147483647 from ha6) (show (-2147483648) ≤ a7 ∧ a7 ≤ 2147483647 from ha7) (fun c_57 y_60 hI_58 hF_59 hy_60 => ?_)))))))))
                              refine bk_inl (q_iret c_104_109 rfl ?_)
                              exact K c_57 y_60 hI_58 (fun a j hm => hF_59 a j (qv_3032f6718 hm)) ⟨(lel hy_60.1 rfl), (ler hy_60.2 rfl)⟩

set_option maxRecDepth 100000 in
set_option maxHeartbeats 4000000 in
theorem s_105_l {sc : List Int32} {e : Int} {d u P Q : Nat} {c : ME} {a1 : Int} {Z : AR → Prop} (hI : Iv u e P Q c) (ha1 : (-2147483648) ≤ a1 ∧ a1 ≤ 2147483647) (T101 : ∀ c2 : ME, Iv u e P Q c2 → (∀ (a : Nat) (j : Int), ¬ ((a = 0 ∧ j = 13) ∨ a = (P + 10) ∨ a = (P + 11)) → c2 a j = c a j) → Z (.inr 101, Wd P Q P P c2, 1, 6)) (K : ∀ (c2 : ME) (y : Int), Iv u e P Q c2 → (∀ (a : Nat) (j : Int), ¬ ((a = 0 ∧ j = 13) ∨ a = (P + 10) ∨ a = (P + 11)) → c2 a j = c a j) → (-2147483648) ≤ y ∧ y ≤ 2147483647 → Z (.inl (some (vi y)), Wd P Q P P c2, 0, 0)) : ∀ n : Nat, (∀ (c2 : ME) (v2 : Int) (v3 : Int) (v4 : Int), Iv u e P Q c2 → (∀ (a : Nat) (j : Int), ¬ ((a = 0 ∧ j = 13) ∨ a = (P + 10) ∨ a = (P + 11)) → c2 a j = c a j) → (-1) ≤ v2 ∧ v2 ≤ 5 → (-1) ≤ v3 ∧ v3 ≤ 99 → 0 ≤ v4 ∧ v4 ≤ 6 → 13 - 2 * v4 < (n : Int) → Wp sc (d + 10) 105 17 [(0, .ref 0), (1, vi a1), (2, vi v2), (3, vi v3), (4, vi v4)] [] (Wd P Q P P c2) 0 0 Z) := by
  intro n
  induction n with
  | zero => exact (by intro c2 v2 v3 v4 hI2 hF hv2 hv3 hv4 hm9; have hP := iv_P hI; have hQ := iv_Q hI; exfalso; omega)
  | succ n ih =>
    have hP := iv_P hI
    have hQ := iv_Q hI
    intro c2 v2 v3 v4 hI2 hF hv2 hv3 hv4 hm9
    refine q_iload c_105_17 rfl (q_aload_n c_105_19 rfl (v_gr (t := P) c_105_20 kf_7_50 rfl (Nat.le_of_ble_eq_true rfl) rfl ?_))
    have h_1 := ir_p0_0 hI hP
    have kn_2 : Hid (c2 P 0 = c P 0) := hF P 0 (qn_ab81a8ac9 hP)
    refine v_gi (z := 0) (v := c P 0) c_105_23 kf_7_102 (ck_p0 hP) (a68z hP) rfl rfl (hid kn_2) ?_
    by_cases h_3 : v4 ≥ c P 0
    · refine v_ic_ge_t (t := 74) c_105_26 rfl ⟨(q_730ab5169 h_1), h_3, (ler hv4.2 rfl)⟩ (q_iload_n c_105_74 rfl ?_)
      by_cases h_4 : a1 ≠ 0
      · refine v_if_ne_t (t := 82) c_105_75 rfl ⟨h_4, ⟨ha1.1, ha1.2⟩, of_decide_eq_true rfl, of_decide_eq_true rfl⟩ (q_iload_n c_105_82 rfl (q_iret c_105_83 rfl ?_))
        exact K c2 v3 hI2 (fun a j hm => hF a j hm) ⟨(lel hv3.1 rfl), (ler hv3.2 rfl)⟩
      · refine v_if_ne_f (t := 82) c_105_75 rfl (Decidable.not_not.mp h_4) (q_iload_n c_105_78 rfl (q_goto (t := 83) c_105_79 rfl (q_iret c_105_83 rfl ?_)))
        exact K c2 v2 hI2 (fun a j hm => hF a j hm) ⟨(lel hv2.1 rfl), (ler hv2.2 rfl)⟩
    · refine v_ic_ge_f (t := 74) c_105_26 rfl ⟨(lel hv4.1 rfl), (Int.not_le.mp h_3), (q_b289b7db2 h_1)⟩ (q_aload_n c_105_29 rfl (v_gr (t := 37) c_105_30 kf_7_62 rfl (Nat.le_of_ble_eq_true rfl) rfl (q_iload c_105_33 rfl ?_)))
      have h_5 := ir_38_g hI (j := 4 * v4) ((q_aa51b186e h_1 h_3))
      have kn_6 : Hid (c2 38 (4 * v4) = c 38 (4 * v4)) := hF 38 (4 * v4) (qn_5876f74f1 hP)
      have h_7 := ir_38_g hI (j := 4 * v4 + 1) ((q_57851f9de h_1 h_3))
      have kn_8 : Hid (c2 38 (4 * v4 + 1) = c 38 (4 * v4 + 1)) := hF 38 (4 * v4 + 1) (qn_5876f74f1 hP)
      have h_9 := ir_38_g hI (j := 4 * v4 + 2) ((q_7296e74e6 h_1 h_3))
      have kn_10 : Hid (c2 38 (4 * v4 + 2) = c 38 (4 * v4 + 2)) := hF 38 (4 * v4 + 2) (qn_5876f74f1 hP)
      have h_11 := ir_38_g hI (j := 4 * v4 + 3) ((q_b15525c4c h_1 h_3))
      have kn_12 : Hid (c2 38 (4 * v4 + 3) = c 38 (4 * v4 + 3)) := hF 38 (4 * v4 + 3) (qn_5876f74f1 hP)
      refine v_cv c_105_35 km_7_187 rfl rfl (Nat.le_of_ble_eq_true rfl) ⟨⟨rfl, rfl⟩, Nat.le_of_ble_eq_true rfl, rfl⟩ (Nat.le_of_ble_eq_true rfl) (Nat.le_of_ble_eq_true rfl) (s_43 (v1 := c 38 (4 * v4)) (v2 := c 38 (4 * v4 + 1)) (v3 := c 38 (4 * v4 + 2)) (v4 := c 38 (4 * v4 + 3)) (r := c 38 (4 * v4 + 1) + c 38 (4 * v4 + 2) + c 38 (4 * v4 + 3) + c 38 (4 * v4)) (a1 := v4) hI2 (.inl ⟨rfl, rfl⟩) (show 0 ≤ v4 ∧ v4 ≤ 5 from ⟨hv4.1, (q_d63a8538e h_1 h_3)⟩) ((hid kn_6)) ((hid kn_8)) ((hid kn_10)) ((hid kn_12)) (by omega) (bk_inl ?_))
      by_cases h_13 : c 38 (4 * v4 + 1) + c 38 (4 * v4 + 2) + c 38 (4 * v4 + 3) + c 38 (4 * v4) ≤ 0
      · refine v_if_le_t (t := 53) c_105_38 rfl ⟨(q_94559468f h_11 h_5 h_7 h_9), h_13, of_decide_eq_true rfl⟩ (q_iconst c_105_53 (q_istore c_105_54 (Nat.le_of_ble_eq_true rfl) (q_iload c_105_56 rfl (q_iload_n c_105_58 rfl (v_ic_le_t (t := 68) c_105_59 rfl ⟨of_decide_eq_true rfl, (lel hv3.1 rfl), (ler hv3.2 rfl)⟩ (v_iinc (v := v4 + 1) c_105_68 rfl (Nat.le_of_ble_eq_true rfl) rfl (q_goto (t := 17) c_105_71 rfl ?_)))))))
        refine Wp_ls [(0, .ref 0), (1, vi a1), (2, vi v2), (3, vi v3), (4, vi (v4 + 1))] (lsub_cons rfl (lsub_cons rfl (lsub_cons rfl (lsub_cons rfl (lsub_cons rfl lsub_nil))))) ?_
        exact ih c2 v2 v3 (v4 + 1) hI2 (fun a j hm => hF a j hm) hv2 hv3 ⟨(rgp_l hv4.1 (of_decide_eq_true rfl)), (q_4a76cd9c7 h_1 h_3)⟩ (by omega)
      · refine v_if_le_f (t := 53) c_105_38 rfl ⟨of_decide_eq_true rfl, (Int.not_le.mp h_13), (q_f81653045 h_11 h_5 h_7 h_9)⟩ (q_aload_n c_105_41 rfl (v_gr (t := 37) c_105_42 kf_7_62 rfl (Nat.le_of_ble_eq_true rfl) rfl (q_iload c_105_45 rfl (v_cv c_105_47 km_7_223 rfl rfl (Nat.le_of_ble_eq_true rfl) ⟨⟨rfl, rfl⟩, Nat.le_of_ble_eq_true rfl, rfl⟩ (Nat.le_of_ble_eq_true rfl) (Nat.le_of_ble_eq_true rfl) (s_56 (a1 := v4) hI2 (.inl ⟨rfl, rfl⟩) (show 0 ≤ v4 ∧ v4 ≤ 5 from ⟨hv4.1, (q_d63a8538e h_1 h_3)⟩) (fun c_14 y_17 hI_15 hF_16 hy_17 => (bk_inl (q_goto (t := 54) c_105_50 rfl (q_istore c_105_54 (Nat.le_of_ble_eq_true rfl) ?_)))))))))
        refine q_iload c_105_56 rfl (q_iload_n c_105_58 rfl ?_)
        by_cases h_18 : y_17 ≤ v3
        · refine v_ic_le_t (t := 68) c_105_59 rfl ⟨(lel hy_17.1 rfl), h_18, (ler hv3.2 rfl)⟩ (v_iinc (v := v4 + 1) c_105_68 rfl (Nat.le_of_ble_eq_true rfl) rfl (q_goto (t := 17) c_105_71 rfl (Wp_ls [(0, .ref 0), (1, vi a1), (2, vi v2), (3, vi v3), (4, vi (v4 + 1))] (lsub_cons rfl (lsub_cons rfl (lsub_cons rfl (lsub_cons rfl (lsub_cons rfl lsub_nil))))) ?_)))
          exact ih c_14 v2 v3 (v4 + 1) hI_15 (fun a j hm => (hF_16 a j (qv_3032f6718 hm)).trans (hF a j hm)) hv2 hv3 ⟨(rgp_l hv4.1 (of_decide_eq_true rfl)), (q_4a76cd9c7 h_1 h_3)⟩ (by omega)
        · refine v_ic_le_f (t := 68) c_105_59 rfl ⟨(lel hv3.1 rfl), (Int.not_le.mp h_18), (ler hy_17.2 rfl)⟩ (q_iload c_105_62 rfl (q_istore_n c_105_64 (Nat.le_of_ble_eq_true rfl) (q_iload c_105_65 rfl (q_istore_n c_105_67 (Nat.le_of_ble_eq_true rfl) (v_iinc (v := v4 + 1) c_105_68 rfl (Nat.le_of_ble_eq_true rfl) rfl (q_goto (t := 17) c_105_71 rfl (Wp_ls [(0, .ref 0), (1, vi a1), (2, vi v4), (3, vi y_17), (4, vi (v4 + 1))] (lsub_cons rfl (lsub_cons rfl (lsub_cons rfl (lsub_cons rfl (lsub_cons rfl lsub_nil))))) ?_)))))))
          exact ih c_14 v4 y_17 (v4 + 1) hI_15 (fun a j hm => (hF_16 a j (qv_3032f6718 hm)).trans (hF a j hm)) ⟨(lel hv4.1 rfl), (q_d63a8538e h_1 h_3)⟩ ⟨(lel hy_17.1 rfl), hy_17.2⟩ ⟨(rgp_l hv4.1 (of_decide_eq_true rfl)), (q_4a76cd9c7 h_1 h_3)⟩ (by omega)
set_option maxRecDepth 100000 in
set_option maxHeartbeats 4000000 in
theorem s_105 {sc : List Int32} {e : Int} {d u P Q : Nat} {c : ME} {a1 : Int} {Z : AR → Prop} (hI : Iv u e P Q c) (ha1 : (-2147483648) ≤ a1 ∧ a1 ≤ 2147483647) (T101 : ∀ c2 : ME, Iv u e P Q c2 → (∀ (a : Nat) (j : Int), ¬ ((a = 0 ∧ j = 13) ∨ a = (P + 10) ∨ a = (P + 11)) → c2 a j = c a j) → Z (.inr 101, Wd P Q P P c2, 1, 6)) (K : ∀ (c2 : ME) (y : Int), Iv u e P Q c2 → (∀ (a : Nat) (j : Int), ¬ ((a = 0 ∧ j = 13) ∨ a = (P + 10) ∨ a = (P + 11)) → c2 a j = c a j) → (-2147483648) ≤ y ∧ y ≤ 2147483647 → Z (.inl (some (vi y)), Wd P Q P P c2, 0, 0)) : Wp sc (d + 10) 105 0 [(0, .ref 0), (1, vi a1)] [] (Wd P Q P P c) 0 0 Z := by
  have hP := iv_P hI
  have hQ := iv_Q hI
  refine q_aload_n c_105_0 rfl (q_iload_n c_105_1 rfl (q_iconst c_105_2 (q_iconst c_105_3 (q_call c_105_4 rfl rfl rfl (q_iload_n c_80_0 rfl (q_iload_n c_80_1 rfl ?_))))))
  by_cases h_19 : a1 < 0
  · refine v_ic_lt_t (t := 14) c_80_2 rfl ⟨ha1.1, h_19, of_decide_eq_true rfl⟩ (q_iconst c_80_14 (v_zret c_80_15 rfl (of_decide_eq_true rfl) (bk_inl (v_cv c_105_7 km_7_161 rfl rfl (Nat.le_of_ble_eq_true rfl) ⟨⟨rfl, rfl⟩, Nat.le_of_ble_eq_true rfl, rfl⟩ (Nat.le_of_ble_eq_true rfl) (Nat.le_of_ble_eq_true rfl) (q_iload_n c_81_0 rfl (v_if_ne_f (t := 25) c_81_1 rfl (of_decide_eq_true rfl) (q_aload_n c_81_4 rfl ?_)))))))
    refine q_dup c_81_5 rfl ?_
    have h_20 := ir_0_13 hI
    refine v_gi (z := 13) (v := c 0 13) c_81_6 kf_7_330 rfl (Nat.le_of_ble_eq_true rfl) rfl rfl rfl (q_iconst c_81_9 (v_iadd (v := c 0 13 + 1) c_81_10 rfl (v_nrm (fun y_21 hy_21 => (v_pi (z := 13) c_81_11 kf_7_330 rfl (Nat.le_of_ble_eq_true rfl) rfl rfl rfl (of_decide_eq_true rfl) (v_new c_81_14 rfl (of_decide_eq_true rfl) (by omega) (Nat.le_of_ble_eq_true rfl) (of_decide_eq_true rfl) rfl (bk_out rfl rfl ?_)))))))
    have hI_22 := iw_0_13 (v := y_21) hI ⟨hy_21.1, hy_21.2⟩
    exact T101 _ hI_22 (fun a j hm => up_b (Decidable.or_iff_not_imp_left.mpr (fun h1 h2 => hm (Or.inl ⟨Decidable.not_not.mp h1, h2⟩))))
  · refine v_ic_lt_f (t := 14) c_80_2 rfl ⟨of_decide_eq_true rfl, (Int.not_lt.mp h_19), ha1.2⟩ (q_iload_n c_80_5 rfl (q_iload_n c_80_6 rfl ?_))
    by_cases h_23 : a1 > 1
    · refine v_ic_gt_t (t := 14) c_80_7 rfl ⟨of_decide_eq_true rfl, h_23, ha1.2⟩ (q_iconst c_80_14 (v_zret c_80_15 rfl (of_decide_eq_true rfl) (bk_inl (v_cv c_105_7 km_7_161 rfl rfl (Nat.le_of_ble_eq_true rfl) ⟨⟨rfl, rfl⟩, Nat.le_of_ble_eq_true rfl, rfl⟩ (Nat.le_of_ble_eq_true rfl) (Nat.le_of_ble_eq_true rfl) (q_iload_n c_81_0 rfl (v_if_ne_f (t := 25) c_81_1 rfl (of_decide_eq_true rfl) (q_aload_n c_81_4 rfl ?_)))))))
      refine q_dup c_81_5 rfl ?_
      have h_24 := ir_0_13 hI
      refine v_gi (z := 13) (v := c 0 13) c_81_6 kf_7_330 rfl (Nat.le_of_ble_eq_true rfl) rfl rfl rfl (q_iconst c_81_9 (v_iadd (v := c 0 13 + 1) c_81_10 rfl (v_nrm (fun y_25 hy_25 => (v_pi (z := 13) c_81_11 kf_7_330 rfl (Nat.le_of_ble_eq_true rfl) rfl rfl rfl (of_decide_eq_true rfl) (v_new c_81_14 rfl (of_decide_eq_true rfl) (by omega) (Nat.le_of_ble_eq_true rfl) (of_decide_eq_true rfl) rfl (bk_out rfl rfl ?_)))))))
      have hI_26 := iw_0_13 (v := y_25) hI ⟨hy_25.1, hy_25.2⟩
      exact T101 _ hI_26 (fun a j hm => up_b (Decidable.or_iff_not_imp_left.mpr (fun h1 h2 => hm (Or.inl ⟨Decidable.not_not.mp h1, h2⟩))))
    · refine v_ic_gt_f (t := 14) c_80_7 rfl ⟨ha1.1, (Int.not_lt.mp h_23), of_decide_eq_true rfl⟩ (q_iconst c_80_10 (q_goto (t := 15) c_80_11 rfl (v_zret c_80_15 rfl (of_decide_eq_true rfl) (bk_inl (v_cv c_105_7 km_7_161 rfl rfl (Nat.le_of_ble_eq_true rfl) ⟨⟨rfl, rfl⟩, Nat.le_of_ble_eq_true rfl, rfl⟩ (Nat.le_of_ble_eq_true rfl) (Nat.le_of_ble_eq_true rfl) (q_iload_n c_81_0 rfl (v_if_ne_t (t := 25) c_81_1 rfl (of_decide_eq_true rfl) ?_)))))))
      refine q_vret rfl rfl (bk_inl (q_iconst c_105_10 (q_istore_n c_105_11 (Nat.le_of_ble_eq_true rfl) (q_iconst c_105_12 (q_istore_n c_105_13 (Nat.le_of_ble_eq_true rfl) (q_iconst c_105_14 (q_istore c_105_15 (Nat.le_of_ble_eq_true rfl) ?_)))))))
      refine Wp_ls [(0, .ref 0), (1, vi a1), (2, vi (-1)), (3, vi (-1)), (4, vi 0)] (lsub_cons rfl (lsub_cons rfl (lsub_cons rfl (lsub_cons rfl (lsub_cons rfl lsub_nil))))) ?_
      exact (s_105_l (sc := sc) (d := d) hI ha1 T101 K 16) c (-1) (-1) 0 hI (fun a j hm => rfl) ⟨of_decide_eq_true rfl, of_decide_eq_true rfl⟩ ⟨of_decide_eq_true rfl, of_decide_eq_true rfl⟩ ⟨of_decide_eq_true rfl, of_decide_eq_true rfl⟩ (by omega)

set_option maxRecDepth 100000 in
set_option maxHeartbeats 4000000 in
theorem s_106_l {sc : List Int32} {e : Int} {d u P Q : Nat} {c : ME} {Z : AR → Prop} (hI : Iv u e P Q c)  (K : ∀ (c2 : ME) (y : Int), Iv u e P Q c2 → (∀ (a : Nat) (j : Int), ¬ (a = (P + 10) ∨ a = (P + 11)) → c2 a j = c a j) → (-2147483648) ≤ y ∧ y ≤ 2147483647 → Z (.inl (some (vi y)), Wd P Q P P c2, 0, 0)) : ∀ n : Nat, (∀ (c2 : ME) (v1 : Int) (v2 : Int), Iv u e P Q c2 → (∀ (a : Nat) (j : Int), ¬ (a = (P + 10) ∨ a = (P + 11)) → c2 a j = c a j) → (-2147483648) ≤ v1 ∧ v1 ≤ 2147483647 → 0 ≤ v2 ∧ v2 ≤ 6 → 13 - 2 * v2 < (n : Int) → Wp sc (d + 11) 106 4 [(0, .ref 0), (1, vi v1), (2, vi v2)] [] (Wd P Q P P c2) 0 0 Z) := by
  intro n
  induction n with
  | zero => exact (by intro c2 v1 v2 hI2 hF hv1 hv2 hm9; have hP := iv_P hI; have hQ := iv_Q hI; exfalso; omega)
  | succ n ih =>
    have hP := iv_P hI
    have hQ := iv_Q hI
    intro c2 v1 v2 hI2 hF hv1 hv2 hm9
    refine q_iload_n c_106_4 rfl (q_aload_n c_106_5 rfl (v_gr (t := P) c_106_6 kf_7_50 rfl (Nat.le_of_ble_eq_true rfl) rfl ?_))
    have h_1 := ir_p0_0 hI hP
    have kn_2 : Hid (c2 P 0 = c P 0) := hF P 0 (fun q => q.elim (fun h => absurd h (p0p rfl)) (fun h => absurd h (p0p rfl)))
    refine v_gi (z := 0) (v := c P 0) c_106_9 kf_7_102 (ck_p0 hP) (a68z hP) rfl rfl (hid kn_2) ?_
    by_cases h_3 : v2 ≥ c P 0
    · refine v_ic_ge_t (t := 38) c_106_12 rfl ⟨(q_730ab5169 h_1), h_3, (ler hv2.2 rfl)⟩ (q_iload_n c_106_38 rfl (q_iret c_106_39 rfl ?_))
      exact K c2 v1 hI2 (fun a j hm => hF a j hm) hv1
    · refine v_ic_ge_f (t := 38) c_106_12 rfl ⟨(lel hv2.1 rfl), (Int.not_le.mp h_3), (q_b289b7db2 h_1)⟩ (q_aload_n c_106_15 rfl (v_gr (t := 37) c_106_16 kf_7_62 rfl (Nat.le_of_ble_eq_true rfl) rfl (q_iload_n c_106_19 rfl (v_cv c_106_20 km_7_230 rfl rfl (Nat.le_of_ble_eq_true rfl) ⟨⟨rfl, rfl⟩, Nat.le_of_ble_eq_true rfl, rfl⟩ (Nat.le_of_ble_eq_true rfl) (Nat.le_of_ble_eq_true rfl) (s_57 (a1 := v2) hI2 (.inl ⟨rfl, rfl⟩) (show 0 ≤ v2 ∧ v2 ≤ 5 from ⟨hv2.1, (q_d63a8538e h_1 h_3)⟩) (fun c_4 y_7 hI_5 hF_6 hy_7 => (bk_inl ?_)))))))
      by_cases h_8 : y_7 = 0
      · refine v_if_eq_t (t := 32) c_106_23 rfl h_8 (v_iinc (v := v2 + 1) c_106_32 rfl (Nat.le_of_ble_eq_true rfl) rfl (q_goto (t := 4) c_106_35 rfl (Wp_ls [(0, .ref 0), (1, vi v1), (2, vi (v2 + 1))] (lsub_cons rfl (lsub_cons rfl (lsub_cons rfl lsub_nil))) ?_)))
        exact ih c_4 v1 (v2 + 1) hI_5 (fun a j hm => (hF_6 a j hm).trans (hF a j hm)) hv1 ⟨(rgp_l hv2.1 (of_decide_eq_true rfl)), (q_4a76cd9c7 h_1 h_3)⟩ (by omega)
      · refine v_if_eq_f (t := 32) c_106_23 rfl ⟨h_8, ⟨(lel hy_7.1 rfl), (ler hy_7.2 rfl)⟩, of_decide_eq_true rfl, of_decide_eq_true rfl⟩ (q_iload_n c_106_26 rfl (q_iconst c_106_27 (q_iload_n c_106_28 rfl (v_shl1 c_106_29 ⟨by omega, by omega⟩ (fun y_9 hy_9 => (v_iorx c_106_30 (fun y_10 hy_10 => (q_istore_n c_106_31 (Nat.le_of_ble_eq_true rfl) (v_iinc (v := v2 + 1) c_106_32 rfl (Nat.le_of_ble_eq_true rfl) rfl ?_)))))))))
        refine q_goto (t := 4) c_106_35 rfl (Wp_ls [(0, .ref 0), (1, vi y_10), (2, vi (v2 + 1))] (lsub_cons rfl (lsub_cons rfl (lsub_cons rfl lsub_nil))) ?_)
        exact ih c_4 y_10 (v2 + 1) hI_5 (fun a j hm => (hF_6 a j hm).trans (hF a j hm)) hy_10 ⟨(rgp_l hv2.1 (of_decide_eq_true rfl)), (q_4a76cd9c7 h_1 h_3)⟩ (by omega)
set_option maxRecDepth 100000 in
set_option maxHeartbeats 4000000 in
theorem s_106 {sc : List Int32} {e : Int} {d u P Q : Nat} {c : ME} {Z : AR → Prop} (hI : Iv u e P Q c)  (K : ∀ (c2 : ME) (y : Int), Iv u e P Q c2 → (∀ (a : Nat) (j : Int), ¬ (a = (P + 10) ∨ a = (P + 11)) → c2 a j = c a j) → (-2147483648) ≤ y ∧ y ≤ 2147483647 → Z (.inl (some (vi y)), Wd P Q P P c2, 0, 0)) : Wp sc (d + 11) 106 0 [(0, .ref 0)] [] (Wd P Q P P c) 0 0 Z := by
  have hP := iv_P hI
  have hQ := iv_Q hI
  refine q_iconst c_106_0 (q_istore_n c_106_1 (Nat.le_of_ble_eq_true rfl) (q_iconst c_106_2 (q_istore_n c_106_3 (Nat.le_of_ble_eq_true rfl) (Wp_ls [(0, .ref 0), (1, vi 0), (2, vi 0)] (lsub_cons rfl (lsub_cons rfl (lsub_cons rfl lsub_nil))) ?_))))
  exact (s_106_l (sc := sc) (d := d) hI K 16) c 0 0 hI (fun a j hm => rfl) ⟨of_decide_eq_true rfl, of_decide_eq_true rfl⟩ ⟨of_decide_eq_true rfl, of_decide_eq_true rfl⟩ (by omega)

set_option maxRecDepth 100000 in
set_option maxHeartbeats 4000000 in
theorem s_107_l {sc : List Int32} {e : Int} {d u P Q : Nat} {c : ME} {Z : AR → Prop} (hI : Iv u e P Q c)  (K : ∀ (c2 : ME) (y : Int), Iv u e P Q c2 → (∀ (a : Nat) (j : Int), ¬ (a = (P + 10) ∨ a = (P + 11)) → c2 a j = c a j) → (-2147483648) ≤ y ∧ y ≤ 2147483647 → Z (.inl (some (vi y)), Wd P Q P P c2, 0, 0)) : ∀ n : Nat, (∀ (c2 : ME) (v1 : Int) (v2 : Int), Iv u e P Q c2 → (∀ (a : Nat) (j : Int), ¬ (a = (P + 10) ∨ a = (P + 11)) → c2 a j = c a j) → (-2147483648) ≤ v1 ∧ v1 ≤ 2147483647 → 0 ≤ v2 ∧ v2 ≤ 6 → 13 - 2 * v2 < (n : Int) → Wp sc (d + 11) 107 4 [(0, .ref 0), (1, vi v1), (2, vi v2)] [] (Wd P Q P P c2) 0 0 Z) := by
  intro n
  induction n with
  | zero => exact (by intro c2 v1 v2 hI2 hF hv1 hv2 hm9; have hP := iv_P hI; have hQ := iv_Q hI; exfalso; omega)
  | succ n ih =>
    have hP := iv_P hI
    have hQ := iv_Q hI
    intro c2 v1 v2 hI2 hF hv1 hv2 hm9
    refine q_iload_n c_107_4 rfl (q_aload_n c_107_5 rfl (v_gr (t := P) c_107_6 kf_7_50 rfl (Nat.le_of_ble_eq_true rfl) rfl ?_))
    have h_1 := ir_p0_0 hI hP
    have kn_2 : Hid (c2 P 0 = c P 0) := hF P 0 (fun q => q.elim (fun h => absurd h (p0p rfl)) (fun h => absurd h (p0p rfl)))
    refine v_gi (z := 0) (v := c P 0) c_107_9 kf_7_102 (ck_p0 hP) (a68z hP) rfl rfl (hid kn_2) ?_
    by_cases h_3 : v2 ≥ c P 0
    · refine v_ic_ge_t (t := 46) c_107_12 rfl ⟨(q_730ab5169 h_1), h_3, (ler hv2.2 rfl)⟩ (q_iload_n c_107_46 rfl (q_iret c_107_47 rfl ?_))
      exact K c2 v1 hI2 (fun a j hm => hF a j hm) hv1
    · refine v_ic_ge_f (t := 46) c_107_12 rfl ⟨(lel hv2.1 rfl), (Int.not_le.mp h_3), (q_b289b7db2 h_1)⟩ (q_aload_n c_107_15 rfl (v_gr (t := 37) c_107_16 kf_7_62 rfl (Nat.le_of_ble_eq_true rfl) rfl (q_iload_n c_107_19 rfl (v_cv c_107_20 km_7_230 rfl rfl (Nat.le_of_ble_eq_true rfl) ⟨⟨rfl, rfl⟩, Nat.le_of_ble_eq_true rfl, rfl⟩ (Nat.le_of_ble_eq_true rfl) (Nat.le_of_ble_eq_true rfl) (s_57 (a1 := v2) hI2 (.inl ⟨rfl, rfl⟩) (show 0 ≤ v2 ∧ v2 ≤ 5 from ⟨hv2.1, (q_d63a8538e h_1 h_3)⟩) (fun c_4 y_7 hI_5 hF_6 hy_7 => (bk_inl ?_)))))))
      by_cases h_8 : y_7 = 0
      · refine v_if_eq_t (t := 40) c_107_23 rfl h_8 (v_iinc (v := v2 + 1) c_107_40 rfl (Nat.le_of_ble_eq_true rfl) rfl (q_goto (t := 4) c_107_43 rfl (Wp_ls [(0, .ref 0), (1, vi v1), (2, vi (v2 + 1))] (lsub_cons rfl (lsub_cons rfl (lsub_cons rfl lsub_nil))) ?_)))
        exact ih c_4 v1 (v2 + 1) hI_5 (fun a j hm => (hF_6 a j hm).trans (hF a j hm)) hv1 ⟨(rgp_l hv2.1 (of_decide_eq_true rfl)), (q_4a76cd9c7 h_1 h_3)⟩ (by omega)
      · refine v_if_eq_f (t := 40) c_107_23 rfl ⟨h_8, ⟨(lel hy_7.1 rfl), (ler hy_7.2 rfl)⟩, of_decide_eq_true rfl, of_decide_eq_true rfl⟩ (q_iload_n c_107_26 rfl (q_aload_n c_107_27 rfl (v_gr (t := 37) c_107_28 kf_7_62 rfl (Nat.le_of_ble_eq_true rfl) rfl (q_iload_n c_107_31 rfl ?_))))
        have h_9 := ir_38_g hI (j := 4 * v2) ((q_aa51b186e h_1 h_3))
        have kn_10 : Hid (c2 38 (4 * v2) = c 38 (4 * v2)) := hF 38 (4 * v2) (qn_4bb47e378 hP)
        have kn_11 : Hid (c_4 38 (4 * v2) = c 38 (4 * v2)) := (hF_6 38 (4 * v2) (qn_4bb47e378 hP)).trans (hid kn_10)
        have h_12 := ir_38_g hI (j := 4 * v2 + 1) ((q_57851f9de h_1 h_3))
        have kn_13 : Hid (c2 38 (4 * v2 + 1) = c 38 (4 * v2 + 1)) := hF 38 (4 * v2 + 1) (qn_4bb47e378 hP)
        have kn_14 : Hid (c_4 38 (4 * v2 + 1) = c 38 (4 * v2 + 1)) := (hF_6 38 (4 * v2 + 1) (qn_4bb47e378 hP)).trans (hid kn_13)
        have h_15 := ir_38_g hI (j := 4 * v2 + 2) ((q_7296e74e6 h_1 h_3))
        have kn_16 : Hid (c2 38 (4 * v2 + 2) = c 38 (4 * v2 + 2)) := hF 38 (4 * v2 + 2) (qn_4bb47e378 hP)
        have kn_17 : Hid (c_4 38 (4 * v2 + 2) = c 38 (4 * v2 + 2)) := (hF_6 38 (4 * v2 + 2) (qn_4bb47e378 hP)).trans (hid kn_16)
        have h_18 := ir_38_g hI (j := 4 * v2 + 3) ((q_b15525c4c h_1 h_3))
        have kn_19 : Hid (c2 38 (4 * v2 + 3) = c 38 (4 * v2 + 3)) := hF 38 (4 * v2 + 3) (qn_4bb47e378 hP)
        have kn_20 : Hid (c_4 38 (4 * v2 + 3) = c 38 (4 * v2 + 3)) := (hF_6 38 (4 * v2 + 3) (qn_4bb47e378 hP)).trans (hid kn_19)
        refine v_cv c_107_32 km_7_187 rfl rfl (Nat.le_of_ble_eq_true rfl) ⟨⟨rfl, rfl⟩, Nat.le_of_ble_eq_true rfl, rfl⟩ (Nat.le_of_ble_eq_true rfl) (Nat.le_of_ble_eq_true rfl) (s_43 (v1 := c 38 (4 * v2)) (v2 := c 38 (4 * v2 + 1)) (v3 := c 38 (4 * v2 + 2)) (v4 := c 38 (4 * v2 + 3)) (r := c 38 (4 * v2 + 1) + c 38 (4 * v2 + 2) + c 38 (4 * v2 + 3) + c 38 (4 * v2)) (a1 := v2) hI_5 (.inl ⟨rfl, rfl⟩) (show 0 ≤ v2 ∧ v2 ≤ 5 from ⟨hv2.1, (q_d63a8538e h_1 h_3)⟩) ((hid kn_11)) ((hid kn_14)) ((hid kn_17)) ((hid kn_20)) (by omega) (bk_inl (v_bip c_107_35 (of_decide_eq_true rfl) (v_idiv (v := ((c 38 (4 * v2 + 1) + c 38 (4 * v2 + 2) + c 38 (4 * v2 + 3) + c 38 (4 * v2)) / 10)) rfl (by omega) rfl (v_iadd (v := ((c 38 (4 * v2 + 1) + c 38 (4 * v2 + 2) + c 38 (4 * v2 + 3) + c 38 (4 * v2)) / 10) + v1) rfl (by first | (clear hv1 hv2 h_1 h_3 h_9 h_12 h_15 h_18 h_8; omega) | omega) (v_nrm (fun y_21 hy_21 => (q_istore_n c_107_39 (Nat.le_of_ble_eq_true rfl) (v_iinc (v := v2 + 1) c_107_40 rfl (Nat.le_of_ble_eq_true rfl) rfl ?_)))))))))
        refine q_goto (t := 4) c_107_43 rfl (Wp_ls [(0, .ref 0), (1, vi y_21), (2, vi (v2 + 1))] (lsub_cons rfl (lsub_cons rfl (lsub_cons rfl lsub_nil))) ?_)
        exact ih c_4 y_21 (v2 + 1) hI_5 (fun a j hm => (hF_6 a j hm).trans (hF a j hm)) hy_21 ⟨(rgp_l hv2.1 (of_decide_eq_true rfl)), (q_4a76cd9c7 h_1 h_3)⟩ (by omega)
set_option maxRecDepth 100000 in
set_option maxHeartbeats 4000000 in
theorem s_107 {sc : List Int32} {e : Int} {d u P Q : Nat} {c : ME} {Z : AR → Prop} (hI : Iv u e P Q c)  (K : ∀ (c2 : ME) (y : Int), Iv u e P Q c2 → (∀ (a : Nat) (j : Int), ¬ (a = (P + 10) ∨ a = (P + 11)) → c2 a j = c a j) → (-2147483648) ≤ y ∧ y ≤ 2147483647 → Z (.inl (some (vi y)), Wd P Q P P c2, 0, 0)) : Wp sc (d + 11) 107 0 [(0, .ref 0)] [] (Wd P Q P P c) 0 0 Z := by
  have hP := iv_P hI
  have hQ := iv_Q hI
  refine q_iconst c_107_0 (q_istore_n c_107_1 (Nat.le_of_ble_eq_true rfl) (q_iconst c_107_2 (q_istore_n c_107_3 (Nat.le_of_ble_eq_true rfl) (Wp_ls [(0, .ref 0), (1, vi 0), (2, vi 0)] (lsub_cons rfl (lsub_cons rfl (lsub_cons rfl lsub_nil))) ?_))))
  exact (s_107_l (sc := sc) (d := d) hI K 16) c 0 0 hI (fun a j hm => rfl) ⟨of_decide_eq_true rfl, of_decide_eq_true rfl⟩ ⟨of_decide_eq_true rfl, of_decide_eq_true rfl⟩ (by omega)

set_option maxRecDepth 100000 in
set_option maxHeartbeats 4000000 in
theorem s_108 {sc : List Int32} {d P Q : Nat} {c : ME} {a1 : Int} {a2 : Int} {Z : AR → Prop} (hI : Iv 0 (-1) P Q c) (ha1 : (-2147483648) ≤ a1 ∧ a1 ≤ 2147483647) (ha2 : (-2147483648) ≤ a2 ∧ a2 ≤ 2147483647) (T100 : ∀ c2 : ME, Iv 0 (-1) P Q c2 → (∀ (a : Nat) (j : Int), ¬ ((a = 0 ∧ j = 12) ∨ a = (P + 10) ∨ a = (P + 11) ∨ a = 40) → c2 a j = c a j) → Z (.inr 100, Wd P Q P P c2, 1, 6)) (K : ∀ (c2 : ME) (y : Int), Iv 0 (-1) P Q c2 → (∀ (a : Nat) (j : Int), ¬ ((a = 0 ∧ j = 12) ∨ a = (P + 10) ∨ a = (P + 11) ∨ a = 40) → c2 a j = c a j) → (-2147483648) ≤ y ∧ y ≤ 2147483647 → Z (.inl (some (vi y)), Wd P Q P P c2, 0, 0)) : Wp sc (d + 11) 108 0 [(0, .ref 0), (1, vi a1), (2, vi a2)] [] (Wd P Q P P c) 0 0 Z := by
  have hP := iv_P hI
  have hQ := iv_Q hI
  refine q_aload_n c_108_0 rfl (q_iload_n c_108_1 rfl (v_cv c_108_2 km_7_184 rfl rfl (Nat.le_of_ble_eq_true rfl) ⟨⟨rfl, rfl⟩, Nat.le_of_ble_eq_true rfl, rfl⟩ (Nat.le_of_ble_eq_true rfl) (Nat.le_of_ble_eq_true rfl) (q_aload_n c_92_0 rfl (q_iload_n c_92_1 rfl (q_iconst c_92_2 (q_aload_n c_92_3 rfl (v_gr (t := P) c_92_4 kf_7_50 rfl (Nat.le_of_ble_eq_true rfl) rfl ?_)))))))
  have h_1 := ir_p0_0 hI hP
  refine v_gi (z := 0) (v := c P 0) c_92_7 kf_7_102 (ck_p0 hP) (a68z hP) rfl rfl rfl (q_iconst c_92_10 (v_isub (v := c P 0 - 1) c_92_11 rfl (q_call c_92_12 rfl rfl rfl (q_iload_n c_80_0 rfl (q_iload_n c_80_1 rfl ?_)))))
  by_cases h_2 : a1 < 0
  · refine v_ic_lt_t (t := 14) c_80_2 rfl ⟨ha1.1, h_2, of_decide_eq_true rfl⟩ (q_iconst c_80_14 (v_zret c_80_15 rfl (of_decide_eq_true rfl) (bk_inl (v_cv c_92_15 km_7_333 rfl rfl (Nat.le_of_ble_eq_true rfl) ⟨⟨rfl, rfl⟩, Nat.le_of_ble_eq_true rfl, rfl⟩ (Nat.le_of_ble_eq_true rfl) (Nat.le_of_ble_eq_true rfl) (q_iload_n c_91_0 rfl (v_if_ne_f (t := 25) c_91_1 rfl (of_decide_eq_true rfl) (q_aload_n c_91_4 rfl ?_)))))))
    refine q_dup c_91_5 rfl ?_
    have h_3 := ir_0_12 hI
    refine v_gi (z := 12) (v := c 0 12) c_91_6 kf_7_327 rfl (Nat.le_of_ble_eq_true rfl) rfl rfl rfl (q_iconst c_91_9 (v_iadd (v := c 0 12 + 1) c_91_10 rfl (v_nrm (fun y_4 hy_4 => (v_pi (z := 12) c_91_11 kf_7_327 rfl (Nat.le_of_ble_eq_true rfl) rfl rfl rfl (of_decide_eq_true rfl) (v_new c_91_14 rfl (of_decide_eq_true rfl) (by omega) (Nat.le_of_ble_eq_true rfl) (of_decide_eq_true rfl) rfl (bk_out rfl rfl (bk_out rfl rfl ?_))))))))
    have hI_5 := iw_0_12 (v := y_4) hI ⟨hy_4.1, hy_4.2⟩
    exact T100 _ hI_5 (fun a j hm => up_b (Decidable.or_iff_not_imp_left.mpr (fun h1 h2 => hm (Or.inl ⟨Decidable.not_not.mp h1, h2⟩))))
  · refine v_ic_lt_f (t := 14) c_80_2 rfl ⟨of_decide_eq_true rfl, (Int.not_lt.mp h_2), ha1.2⟩ (q_iload_n c_80_5 rfl (q_iload_n c_80_6 rfl ?_))
    by_cases h_6 : a1 > c P 0 - 1
    · refine v_ic_gt_t (t := 14) c_80_7 rfl ⟨(rgm_l h_1.1 (of_decide_eq_true rfl)), h_6, ha1.2⟩ (q_iconst c_80_14 (v_zret c_80_15 rfl (of_decide_eq_true rfl) (bk_inl (v_cv c_92_15 km_7_333 rfl rfl (Nat.le_of_ble_eq_true rfl) ⟨⟨rfl, rfl⟩, Nat.le_of_ble_eq_true rfl, rfl⟩ (Nat.le_of_ble_eq_true rfl) (Nat.le_of_ble_eq_true rfl) (q_iload_n c_91_0 rfl (v_if_ne_f (t := 25) c_91_1 rfl (of_decide_eq_true rfl) (q_aload_n c_91_4 rfl ?_)))))))
      refine q_dup c_91_5 rfl ?_
      have h_7 := ir_0_12 hI
      refine v_gi (z := 12) (v := c 0 12) c_91_6 kf_7_327 rfl (Nat.le_of_ble_eq_true rfl) rfl rfl rfl (q_iconst c_91_9 (v_iadd (v := c 0 12 + 1) c_91_10 rfl (v_nrm (fun y_8 hy_8 => (v_pi (z := 12) c_91_11 kf_7_327 rfl (Nat.le_of_ble_eq_true rfl) rfl rfl rfl (of_decide_eq_true rfl) (v_new c_91_14 rfl (of_decide_eq_true rfl) (by omega) (Nat.le_of_ble_eq_true rfl) (of_decide_eq_true rfl) rfl (bk_out rfl rfl (bk_out rfl rfl ?_))))))))
      have hI_9 := iw_0_12 (v := y_8) hI ⟨hy_8.1, hy_8.2⟩
      exact T100 _ hI_9 (fun a j hm => up_b (Decidable.or_iff_not_imp_left.mpr (fun h1 h2 => hm (Or.inl ⟨Decidable.not_not.mp h1, h2⟩))))
    · refine v_ic_gt_f (t := 14) c_80_7 rfl ⟨ha1.1, (Int.not_lt.mp h_6), (rgm_h h_1.2 (of_decide_eq_true rfl))⟩ (q_iconst c_80_10 (q_goto (t := 15) c_80_11 rfl (v_zret c_80_15 rfl (of_decide_eq_true rfl) (bk_inl (v_cv c_92_15 km_7_333 rfl rfl (Nat.le_of_ble_eq_true rfl) ⟨⟨rfl, rfl⟩, Nat.le_of_ble_eq_true rfl, rfl⟩ (Nat.le_of_ble_eq_true rfl) (Nat.le_of_ble_eq_true rfl) (q_iload_n c_91_0 rfl (v_if_ne_t (t := 25) c_91_1 rfl (of_decide_eq_true rfl) ?_)))))))
      refine q_vret rfl rfl (bk_inl (q_vret rfl rfl (bk_inl (q_aload_n c_108_5 rfl (q_iload_n c_108_6 rfl (v_cv c_108_7 km_7_184 rfl rfl (Nat.le_of_ble_eq_true rfl) ⟨⟨rfl, rfl⟩, Nat.le_of_ble_eq_true rfl, rfl⟩ (Nat.le_of_ble_eq_true rfl) (Nat.le_of_ble_eq_true rfl) (q_aload_n c_92_0 rfl ?_)))))))
      refine q_iload_n c_92_1 rfl (q_iconst c_92_2 (q_aload_n c_92_3 rfl (v_gr (t := P) c_92_4 kf_7_50 rfl (Nat.le_of_ble_eq_true rfl) rfl (v_gi (z := 0) (v := c P 0) c_92_7 kf_7_102 (ck_p0 hP) (a68z hP) rfl rfl rfl (q_iconst c_92_10 (v_isub (v := c P 0 - 1) c_92_11 rfl (q_call c_92_12 rfl rfl rfl ?_)))))))
      refine q_iload_n c_80_0 rfl (q_iload_n c_80_1 rfl ?_)
      by_cases h_10 : a2 < 0
      · refine v_ic_lt_t (t := 14) c_80_2 rfl ⟨ha2.1, h_10, of_decide_eq_true rfl⟩ (q_iconst c_80_14 (v_zret c_80_15 rfl (of_decide_eq_true rfl) (bk_inl (v_cv c_92_15 km_7_333 rfl rfl (Nat.le_of_ble_eq_true rfl) ⟨⟨rfl, rfl⟩, Nat.le_of_ble_eq_true rfl, rfl⟩ (Nat.le_of_ble_eq_true rfl) (Nat.le_of_ble_eq_true rfl) (q_iload_n c_91_0 rfl (v_if_ne_f (t := 25) c_91_1 rfl (of_decide_eq_true rfl) (q_aload_n c_91_4 rfl ?_)))))))
        refine q_dup c_91_5 rfl ?_
        have h_11 := ir_0_12 hI
        refine v_gi (z := 12) (v := c 0 12) c_91_6 kf_7_327 rfl (Nat.le_of_ble_eq_true rfl) rfl rfl rfl (q_iconst c_91_9 (v_iadd (v := c 0 12 + 1) c_91_10 rfl (v_nrm (fun y_12 hy_12 => (v_pi (z := 12) c_91_11 kf_7_327 rfl (Nat.le_of_ble_eq_true rfl) rfl rfl rfl (of_decide_eq_true rfl) (v_new c_91_14 rfl (of_decide_eq_true rfl) (by omega) (Nat.le_of_ble_eq_true rfl) (of_decide_eq_true rfl) rfl (bk_out rfl rfl (bk_out rfl rfl ?_))))))))
        have hI_13 := iw_0_12 (v := y_12) hI ⟨hy_12.1, hy_12.2⟩
        exact T100 _ hI_13 (fun a j hm => up_b (Decidable.or_iff_not_imp_left.mpr (fun h1 h2 => hm (Or.inl ⟨Decidable.not_not.mp h1, h2⟩))))
      · refine v_ic_lt_f (t := 14) c_80_2 rfl ⟨of_decide_eq_true rfl, (Int.not_lt.mp h_10), ha2.2⟩ (q_iload_n c_80_5 rfl (q_iload_n c_80_6 rfl ?_))
        by_cases h_14 : a2 > c P 0 - 1
        · refine v_ic_gt_t (t := 14) c_80_7 rfl ⟨(rgm_l h_1.1 (of_decide_eq_true rfl)), h_14, ha2.2⟩ (q_iconst c_80_14 (v_zret c_80_15 rfl (of_decide_eq_true rfl) (bk_inl (v_cv c_92_15 km_7_333 rfl rfl (Nat.le_of_ble_eq_true rfl) ⟨⟨rfl, rfl⟩, Nat.le_of_ble_eq_true rfl, rfl⟩ (Nat.le_of_ble_eq_true rfl) (Nat.le_of_ble_eq_true rfl) (q_iload_n c_91_0 rfl (v_if_ne_f (t := 25) c_91_1 rfl (of_decide_eq_true rfl) (q_aload_n c_91_4 rfl ?_)))))))
          refine q_dup c_91_5 rfl ?_
          have h_15 := ir_0_12 hI
          refine v_gi (z := 12) (v := c 0 12) c_91_6 kf_7_327 rfl (Nat.le_of_ble_eq_true rfl) rfl rfl rfl (q_iconst c_91_9 (v_iadd (v := c 0 12 + 1) c_91_10 rfl (v_nrm (fun y_16 hy_16 => (v_pi (z := 12) c_91_11 kf_7_327 rfl (Nat.le_of_ble_eq_true rfl) rfl rfl rfl (of_decide_eq_true rfl) (v_new c_91_14 rfl (of_decide_eq_true rfl) (by omega) (Nat.le_of_ble_eq_true rfl) (of_decide_eq_true rfl) rfl (bk_out rfl rfl (bk_out rfl rfl ?_))))))))
          have hI_17 := iw_0_12 (v := y_16) hI ⟨hy_16.1, hy_16.2⟩
          exact T100 _ hI_17 (fun a j hm => up_b (Decidable.or_iff_not_imp_left.mpr (fun h1 h2 => hm (Or.inl ⟨Decidable.not_not.mp h1, h2⟩))))
        · refine v_ic_gt_f (t := 14) c_80_7 rfl ⟨ha2.1, (Int.not_lt.mp h_14), (rgm_h h_1.2 (of_decide_eq_true rfl))⟩ (q_iconst c_80_10 (q_goto (t := 15) c_80_11 rfl (v_zret c_80_15 rfl (of_decide_eq_true rfl) (bk_inl (v_cv c_92_15 km_7_333 rfl rfl (Nat.le_of_ble_eq_true rfl) ⟨⟨rfl, rfl⟩, Nat.le_of_ble_eq_true rfl, rfl⟩ (Nat.le_of_ble_eq_true rfl) (Nat.le_of_ble_eq_true rfl) (q_iload_n c_91_0 rfl (v_if_ne_t (t := 25) c_91_1 rfl (of_decide_eq_true rfl) ?_)))))))
          refine q_vret rfl rfl (bk_inl (q_vret rfl rfl (bk_inl (q_aload_n c_108_10 rfl (v_gr (t := 39) c_108_11 kf_7_66 rfl (Nat.le_of_ble_eq_true rfl) rfl (q_aload_n c_108_14 rfl (v_gr (t := 37) c_108_15 kf_7_62 rfl (Nat.le_of_ble_eq_true rfl) rfl ?_)))))))
          refine v_cv c_108_18 km_7_233 rfl rfl (Nat.le_of_ble_eq_true rfl) ⟨⟨rfl, rfl⟩, Nat.le_of_ble_eq_true rfl, rfl⟩ (Nat.le_of_ble_eq_true rfl) (Nat.le_of_ble_eq_true rfl) (s_66 hI (fun c_18 hI_19 hF_20 => (bk_inl (q_aload_n c_108_21 rfl (v_gr (t := 39) c_108_22 kf_7_66 rfl (Nat.le_of_ble_eq_true rfl) rfl (q_iload_n c_108_25 rfl (q_iload_n c_108_26 rfl (v_cv c_108_27 km_7_236 rfl rfl (Nat.le_of_ble_eq_true rfl) ⟨⟨rfl, rfl⟩, Nat.le_of_ble_eq_true rfl, rfl⟩ (Nat.le_of_ble_eq_true rfl) (Nat.le_of_ble_eq_true rfl) (s_55 (a1 := a1) (a2 := a2) hI_19 (.inr ⟨rfl, rfl⟩) (show 0 ≤ a1 ∧ a1 ≤ 5 from ⟨(q_720657ba9 h_2), (q_3a2e67ab0 h_1 h_6)⟩) (show 0 ≤ a2 ∧ a2 ≤ 5 from ⟨(q_720657ba9 h_10), (q_3a2e67ab0 h_1 h_14)⟩) (fun c_21 y_24 hI_22 hF_23 hy_24 => (bk_inl ?_)))))))))))
          by_cases h_25 : y_24 = 0
          · refine v_if_eq_t (t := 44) c_108_30 rfl h_25 (q_iconst c_108_44 (q_iret c_108_45 rfl ?_))
            exact K c_21 (-1) hI_22 (fun a j hm => (hF_23 a j (fun h => hm (Or.inr (Or.inr (Or.inr h))))).trans (hF_20 a j (fun h => hm (Or.inr (Or.inr (Or.inr h)))))) ⟨of_decide_eq_true rfl, of_decide_eq_true rfl⟩
          · refine v_if_eq_f (t := 44) c_108_30 rfl ⟨h_25, ⟨(lel hy_24.1 rfl), (ler hy_24.2 rfl)⟩, of_decide_eq_true rfl, of_decide_eq_true rfl⟩ (q_aload_n c_108_33 rfl (v_gr (t := 39) c_108_34 kf_7_66 rfl (Nat.le_of_ble_eq_true rfl) rfl (q_iload_n c_108_37 rfl (v_cv c_108_38 km_7_223 rfl rfl (Nat.le_of_ble_eq_true rfl) ⟨⟨rfl, rfl⟩, Nat.le_of_ble_eq_true rfl, rfl⟩ (Nat.le_of_ble_eq_true rfl) (Nat.le_of_ble_eq_true rfl) (s_56 (a1 := a2) hI_22 (.inr ⟨rfl, rfl⟩) (show 0 ≤ a2 ∧ a2 ≤ 5 from ⟨(q_720657ba9 h_10), (q_3a2e67ab0 h_1 h_14)⟩) (fun c_26 y_29 hI_27 hF_28 hy_29 => (bk_inl (q_goto (t := 45) c_108_41 rfl (q_iret c_108_45 rfl ?_)))))))))
            exact K c_26 y_29 hI_27 (fun a j hm => (hF_28 a j (qv_da6bc483e hm)).trans ((hF_23 a j (fun h => hm (Or.inr (Or.inr (Or.inr h))))).trans (hF_20 a j (fun h => hm (Or.inr (Or.inr (Or.inr h))))))) ⟨(lel hy_29.1 rfl), (ler hy_29.2 rfl)⟩

set_option maxRecDepth 100000 in
set_option maxHeartbeats 4000000 in
theorem s_109_l {sc : List Int32} {d P Q : Nat} {c : ME} {a1 : Int} {Z : AR → Prop} (hI : Iv 0 (-1) P Q c) (ha1 : (-2147483648) ≤ a1 ∧ a1 ≤ 2147483647) (T100 : ∀ c2 : ME, Iv 0 (-1) P Q c2 → (∀ (a : Nat) (j : Int), ¬ ((a = 0 ∧ j = 12) ∨ a = (P + 10) ∨ a = (P + 11) ∨ a = 40) → c2 a j = c a j) → Z (.inr 100, Wd P Q P P c2, 1, 6)) (K : ∀ (c2 : ME) (y : Int), Iv 0 (-1) P Q c2 → (∀ (a : Nat) (j : Int), ¬ ((a = 0 ∧ j = 12) ∨ a = (P + 10) ∨ a = (P + 11) ∨ a = 40) → c2 a j = c a j) → (-2147483648) ≤ y ∧ y ≤ 2147483647 → Z (.inl (some (vi y)), Wd P Q P P c2, 0, 0)) : ∀ n : Nat, (∀ (c2 : ME) (v2 : Int), Iv 0 (-1) P Q c2 → (∀ (a : Nat) (j : Int), ¬ ((a = 0 ∧ j = 12) ∨ a = (P + 10) ∨ a = (P + 11) ∨ a = 40) → c2 a j = c a j) → 0 ≤ v2 ∧ v2 ≤ 100 → ((a1 ≥ 0 ∧ a1 ≤ 5)) → 201 - 2 * v2 < (n : Int) → Wp sc (d + 11) 109 18 [(0, .ref 0), (1, vi a1), (2, vi v2)] [] (Wd P Q P P c2) 0 0 Z) := by
  intro n
  induction n with
  | zero => exact (by intro c2 v2 hI2 hF hv2 hx0 hm9; have hP := iv_P hI; have hQ := iv_Q hI; exfalso; omega)
  | succ n ih =>
    have hP := iv_P hI
    have hQ := iv_Q hI
    intro c2 v2 hI2 hF hv2 hx0 hm9
    refine q_iload_n c_109_18 rfl (v_bip c_109_19 (of_decide_eq_true rfl) ?_)
    by_cases h_1 : v2 > 99
    · refine v_ic_gt_t (t := 55) c_109_21 rfl ⟨of_decide_eq_true rfl, h_1, (ler hv2.2 rfl)⟩ (q_iconst c_109_55 (q_iret c_109_56 rfl ?_))
      exact K c2 (-1) hI2 (fun a j hm => hF a j hm) ⟨of_decide_eq_true rfl, of_decide_eq_true rfl⟩
    · refine v_ic_gt_f (t := 55) c_109_21 rfl ⟨(lel hv2.1 rfl), (Int.not_lt.mp h_1), of_decide_eq_true rfl⟩ (q_aload_n c_109_24 rfl (v_gr (t := 39) c_109_25 kf_7_66 rfl (Nat.le_of_ble_eq_true rfl) rfl (q_iload_n c_109_28 rfl (v_cv c_109_29 km_7_230 rfl rfl (Nat.le_of_ble_eq_true rfl) ⟨⟨rfl, rfl⟩, Nat.le_of_ble_eq_true rfl, rfl⟩ (Nat.le_of_ble_eq_true rfl) (Nat.le_of_ble_eq_true rfl) (s_57 (a1 := a1) hI2 (.inr ⟨rfl, rfl⟩) (show 0 ≤ a1 ∧ a1 ≤ 5 from ⟨by omega, by omega⟩) (fun c_2 y_5 hI_3 hF_4 hy_5 => (bk_inl ?_)))))))
      by_cases h_6 : y_5 = 0
      · refine v_if_eq_t (t := 37) c_109_32 rfl h_6 (q_aload_n c_109_37 rfl (v_gr (t := 39) c_109_38 kf_7_66 rfl (Nat.le_of_ble_eq_true rfl) rfl (v_cv c_109_41 km_7_240 rfl rfl (Nat.le_of_ble_eq_true rfl) ⟨⟨rfl, rfl⟩, Nat.le_of_ble_eq_true rfl, rfl⟩ (Nat.le_of_ble_eq_true rfl) (Nat.le_of_ble_eq_true rfl) (s_60 hI_3 (.inr ⟨rfl, rfl⟩) (fun c_7 y_10 hI_8 hF_9 hy_10 => (bk_inl ?_))))))
        by_cases h_11 : y_10 ≠ 0
        · refine v_if_ne_t (t := 49) c_109_44 rfl ⟨h_11, ⟨(lel hy_10.1 rfl), (ler hy_10.2 rfl)⟩, of_decide_eq_true rfl, of_decide_eq_true rfl⟩ (v_iinc (v := v2 + 1) c_109_49 rfl (Nat.le_of_ble_eq_true rfl) rfl (q_goto (t := 18) c_109_52 rfl (Wp_ls [(0, .ref 0), (1, vi a1), (2, vi (v2 + 1))] (lsub_cons rfl (lsub_cons rfl (lsub_cons rfl lsub_nil))) ?_)))
          exact ih c_7 (v2 + 1) hI_8 (fun a j hm => (hF_9 a j (fun h => hm (Or.inr (Or.inr (Or.inr h))))).trans ((hF_4 a j (qv_da6bc483e hm)).trans (hF a j hm))) ⟨(rgp_l hv2.1 (of_decide_eq_true rfl)), (q_1eecf77db h_1)⟩ ⟨by first | (clear ha1 hv2 h_1 h_6 h_11; omega) | omega, by first | (clear ha1 hv2 h_1 h_6 h_11; omega) | omega⟩ (by omega)
        · refine v_if_ne_f (t := 49) c_109_44 rfl (Decidable.not_not.mp h_11) (q_iconst c_109_47 (q_iret c_109_48 rfl ?_))
          exact K c_7 (-1) hI_8 (fun a j hm => (hF_9 a j (fun h => hm (Or.inr (Or.inr (Or.inr h))))).trans ((hF_4 a j (qv_da6bc483e hm)).trans (hF a j hm))) ⟨of_decide_eq_true rfl, of_decide_eq_true rfl⟩
      · refine v_if_eq_f (t := 37) c_109_32 rfl ⟨h_6, ⟨(lel hy_5.1 rfl), (ler hy_5.2 rfl)⟩, of_decide_eq_true rfl, of_decide_eq_true rfl⟩ (q_iload_n c_109_35 rfl (q_iret c_109_36 rfl ?_))
        exact K c_2 v2 hI_3 (fun a j hm => (hF_4 a j (qv_da6bc483e hm)).trans (hF a j hm)) ⟨(lel hv2.1 rfl), (ler hv2.2 rfl)⟩
set_option maxRecDepth 100000 in
set_option maxHeartbeats 4000000 in
theorem s_109 {sc : List Int32} {d P Q : Nat} {c : ME} {a1 : Int} {Z : AR → Prop} (hI : Iv 0 (-1) P Q c) (ha1 : (-2147483648) ≤ a1 ∧ a1 ≤ 2147483647) (T100 : ∀ c2 : ME, Iv 0 (-1) P Q c2 → (∀ (a : Nat) (j : Int), ¬ ((a = 0 ∧ j = 12) ∨ a = (P + 10) ∨ a = (P + 11) ∨ a = 40) → c2 a j = c a j) → Z (.inr 100, Wd P Q P P c2, 1, 6)) (K : ∀ (c2 : ME) (y : Int), Iv 0 (-1) P Q c2 → (∀ (a : Nat) (j : Int), ¬ ((a = 0 ∧ j = 12) ∨ a = (P + 10) ∨ a = (P + 11) ∨ a = 40) → c2 a j = c a j) → (-2147483648) ≤ y ∧ y ≤ 2147483647 → Z (.inl (some (vi y)), Wd P Q P P c2, 0, 0)) : Wp sc (d + 11) 109 0 [(0, .ref 0), (1, vi a1)] [] (Wd P Q P P c) 0 0 Z := by
  have hP := iv_P hI
  have hQ := iv_Q hI
  refine q_aload_n c_109_0 rfl (q_iload_n c_109_1 rfl (v_cv c_109_2 km_7_184 rfl rfl (Nat.le_of_ble_eq_true rfl) ⟨⟨rfl, rfl⟩, Nat.le_of_ble_eq_true rfl, rfl⟩ (Nat.le_of_ble_eq_true rfl) (Nat.le_of_ble_eq_true rfl) (q_aload_n c_92_0 rfl (q_iload_n c_92_1 rfl (q_iconst c_92_2 (q_aload_n c_92_3 rfl (v_gr (t := P) c_92_4 kf_7_50 rfl (Nat.le_of_ble_eq_true rfl) rfl ?_)))))))
  have h_12 := ir_p0_0 hI hP
  refine v_gi (z := 0) (v := c P 0) c_92_7 kf_7_102 (ck_p0 hP) (a68z hP) rfl rfl rfl (q_iconst c_92_10 (v_isub (v := c P 0 - 1) c_92_11 rfl (q_call c_92_12 rfl rfl rfl (q_iload_n c_80_0 rfl (q_iload_n c_80_1 rfl ?_)))))
  by_cases h_13 : a1 < 0
  · refine v_ic_lt_t (t := 14) c_80_2 rfl ⟨ha1.1, h_13, of_decide_eq_true rfl⟩ (q_iconst c_80_14 (v_zret c_80_15 rfl (of_decide_eq_true rfl) (bk_inl (v_cv c_92_15 km_7_333 rfl rfl (Nat.le_of_ble_eq_true rfl) ⟨⟨rfl, rfl⟩, Nat.le_of_ble_eq_true rfl, rfl⟩ (Nat.le_of_ble_eq_true rfl) (Nat.le_of_ble_eq_true rfl) (q_iload_n c_91_0 rfl (v_if_ne_f (t := 25) c_91_1 rfl (of_decide_eq_true rfl) (q_aload_n c_91_4 rfl ?_)))))))
    refine q_dup c_91_5 rfl ?_
    have h_14 := ir_0_12 hI
    refine v_gi (z := 12) (v := c 0 12) c_91_6 kf_7_327 rfl (Nat.le_of_ble_eq_true rfl) rfl rfl rfl (q_iconst c_91_9 (v_iadd (v := c 0 12 + 1) c_91_10 rfl (v_nrm (fun y_15 hy_15 => (v_pi (z := 12) c_91_11 kf_7_327 rfl (Nat.le_of_ble_eq_true rfl) rfl rfl rfl (of_decide_eq_true rfl) (v_new c_91_14 rfl (of_decide_eq_true rfl) (by omega) (Nat.le_of_ble_eq_true rfl) (of_decide_eq_true rfl) rfl (bk_out rfl rfl (bk_out rfl rfl ?_))))))))
    have hI_16 := iw_0_12 (v := y_15) hI ⟨hy_15.1, hy_15.2⟩
    exact T100 _ hI_16 (fun a j hm => up_b (Decidable.or_iff_not_imp_left.mpr (fun h1 h2 => hm (Or.inl ⟨Decidable.not_not.mp h1, h2⟩))))
  · refine v_ic_lt_f (t := 14) c_80_2 rfl ⟨of_decide_eq_true rfl, (Int.not_lt.mp h_13), ha1.2⟩ (q_iload_n c_80_5 rfl (q_iload_n c_80_6 rfl ?_))
    by_cases h_17 : a1 > c P 0 - 1
    · refine v_ic_gt_t (t := 14) c_80_7 rfl ⟨(rgm_l h_12.1 (of_decide_eq_true rfl)), h_17, ha1.2⟩ (q_iconst c_80_14 (v_zret c_80_15 rfl (of_decide_eq_true rfl) (bk_inl (v_cv c_92_15 km_7_333 rfl rfl (Nat.le_of_ble_eq_true rfl) ⟨⟨rfl, rfl⟩, Nat.le_of_ble_eq_true rfl, rfl⟩ (Nat.le_of_ble_eq_true rfl) (Nat.le_of_ble_eq_true rfl) (q_iload_n c_91_0 rfl (v_if_ne_f (t := 25) c_91_1 rfl (of_decide_eq_true rfl) (q_aload_n c_91_4 rfl ?_)))))))
      refine q_dup c_91_5 rfl ?_
      have h_18 := ir_0_12 hI
      refine v_gi (z := 12) (v := c 0 12) c_91_6 kf_7_327 rfl (Nat.le_of_ble_eq_true rfl) rfl rfl rfl (q_iconst c_91_9 (v_iadd (v := c 0 12 + 1) c_91_10 rfl (v_nrm (fun y_19 hy_19 => (v_pi (z := 12) c_91_11 kf_7_327 rfl (Nat.le_of_ble_eq_true rfl) rfl rfl rfl (of_decide_eq_true rfl) (v_new c_91_14 rfl (of_decide_eq_true rfl) (by omega) (Nat.le_of_ble_eq_true rfl) (of_decide_eq_true rfl) rfl (bk_out rfl rfl (bk_out rfl rfl ?_))))))))
      have hI_20 := iw_0_12 (v := y_19) hI ⟨hy_19.1, hy_19.2⟩
      exact T100 _ hI_20 (fun a j hm => up_b (Decidable.or_iff_not_imp_left.mpr (fun h1 h2 => hm (Or.inl ⟨Decidable.not_not.mp h1, h2⟩))))
    · refine v_ic_gt_f (t := 14) c_80_7 rfl ⟨ha1.1, (Int.not_lt.mp h_17), (rgm_h h_12.2 (of_decide_eq_true rfl))⟩ (q_iconst c_80_10 (q_goto (t := 15) c_80_11 rfl (v_zret c_80_15 rfl (of_decide_eq_true rfl) (bk_inl (v_cv c_92_15 km_7_333 rfl rfl (Nat.le_of_ble_eq_true rfl) ⟨⟨rfl, rfl⟩, Nat.le_of_ble_eq_true rfl, rfl⟩ (Nat.le_of_ble_eq_true rfl) (Nat.le_of_ble_eq_true rfl) (q_iload_n c_91_0 rfl (v_if_ne_t (t := 25) c_91_1 rfl (of_decide_eq_true rfl) ?_)))))))
      refine q_vret rfl rfl (bk_inl (q_vret rfl rfl (bk_inl (q_aload_n c_109_5 rfl (v_gr (t := 39) c_109_6 kf_7_66 rfl (Nat.le_of_ble_eq_true rfl) rfl (q_aload_n c_109_9 rfl (v_gr (t := 37) c_109_10 kf_7_62 rfl (Nat.le_of_ble_eq_true rfl) rfl ?_)))))))
      refine v_cv c_109_13 km_7_233 rfl rfl (Nat.le_of_ble_eq_true rfl) ⟨⟨rfl, rfl⟩, Nat.le_of_ble_eq_true rfl, rfl⟩ (Nat.le_of_ble_eq_true rfl) (Nat.le_of_ble_eq_true rfl) (s_66 hI (fun c_21 hI_22 hF_23 => (bk_inl (q_iconst c_109_16 (q_istore_n c_109_17 (Nat.le_of_ble_eq_true rfl) (Wp_ls [(0, .ref 0), (1, vi a1), (2, vi 0)] (lsub_cons rfl (lsub_cons rfl (lsub_cons rfl lsub_nil))) ?_))))))
      exact (s_109_l (sc := sc) (d := d) hI ha1 T100 K 204) c_21 0 hI_22 (fun a j hm => hF_23 a j (fun h => hm (Or.inr (Or.inr (Or.inr h))))) ⟨of_decide_eq_true rfl, of_decide_eq_true rfl⟩ ⟨(q_720657ba9 h_13), (q_3a2e67ab0 h_12 h_17)⟩ (by omega)

set_option maxRecDepth 100000 in
set_option maxHeartbeats 4000000 in
theorem s_110 {sc : List Int32} {d P Q : Nat} {c : ME} {a1 : Int} {a2 : Int} {a3 : Int} {Z : AR → Prop} (hI : Iv 0 (-1) P Q c) (ha1 : (-2147483648) ≤ a1 ∧ a1 ≤ 2147483647) (ha2 : (-2147483648) ≤ a2 ∧ a2 ≤ 2147483647) (ha3 : (-2147483648) ≤ a3 ∧ a3 ≤ 2147483647) (T100 : ∀ c2 : ME, Iv 0 (-1) P Q c2 → (∀ (a : Nat) (j : Int), ¬ ((a = 0 ∧ j = 12) ∨ (a = 0 ∧ j = 13) ∨ a = 40) → c2 a j = c a j) → Z (.inr 100, Wd P Q P P c2, 1, 6)) (T101 : ∀ c2 : ME, Iv 0 (-1) P Q c2 → (∀ (a : Nat) (j : Int), ¬ ((a = 0 ∧ j = 12) ∨ (a = 0 ∧ j = 13) ∨ a = 40) → c2 a j = c a j) → Z (.inr 101, Wd P Q P P c2, 1, 6)) (K : ∀ (c2 : ME) (y : Int), Iv 0 (-1) P Q c2 → (∀ (a : Nat) (j : Int), ¬ ((a = 0 ∧ j = 12) ∨ (a = 0 ∧ j = 13) ∨ a = 40) → c2 a j = c a j) → (-2147483648) ≤ y ∧ y ≤ 2147483647 → Z (.inl (some (vi y)), Wd P Q P P c2, 0, 0)) : Wp sc (d + 9) 110 0 [(0, .ref 0), (1, vi a1), (2, vi a2), (3, vi a3)] [] (Wd P Q P P c) 0 0 Z := by
  have hP := iv_P hI
  have hQ := iv_Q hI
  refine q_aload_n c_110_0 rfl (q_iload_n c_110_1 rfl (v_cv c_110_2 km_7_200 rfl rfl (Nat.le_of_ble_eq_true rfl) ⟨⟨rfl, rfl⟩, Nat.le_of_ble_eq_true rfl, rfl⟩ (Nat.le_of_ble_eq_true rfl) (Nat.le_of_ble_eq_true rfl) (q_aload_n c_94_0 rfl (q_iload_n c_94_1 rfl (q_iconst c_94_2 (q_aload_n c_94_3 rfl (v_gr (t := P) c_94_4 kf_7_50 rfl (Nat.le_of_ble_eq_true rfl) rfl ?_)))))))
  have h_1 := ir_p0_1 hI hP
  refine v_gi (z := 1) (v := c P 1) c_94_7 kf_7_165 (ck_p0 hP) (a68z hP) rfl rfl rfl (q_iconst c_94_10 (v_isub (v := c P 1 - 1) c_94_11 rfl (q_call c_94_12 rfl rfl rfl (q_iload_n c_80_0 rfl (q_iload_n c_80_1 rfl ?_)))))
  by_cases h_2 : a1 < 0
  · refine v_ic_lt_t (t := 14) c_80_2 rfl ⟨ha1.1, h_2, of_decide_eq_true rfl⟩ (q_iconst c_80_14 (v_zret c_80_15 rfl (of_decide_eq_true rfl) (bk_inl (v_cv c_94_15 km_7_333 rfl rfl (Nat.le_of_ble_eq_true rfl) ⟨⟨rfl, rfl⟩, Nat.le_of_ble_eq_true rfl, rfl⟩ (Nat.le_of_ble_eq_true rfl) (Nat.le_of_ble_eq_true rfl) (q_iload_n c_91_0 rfl (v_if_ne_f (t := 25) c_91_1 rfl (of_decide_eq_true rfl) (q_aload_n c_91_4 rfl ?_)))))))
    refine q_dup c_91_5 rfl ?_
    have h_3 := ir_0_12 hI
    refine v_gi (z := 12) (v := c 0 12) c_91_6 kf_7_327 rfl (Nat.le_of_ble_eq_true rfl) rfl rfl rfl (q_iconst c_91_9 (v_iadd (v := c 0 12 + 1) c_91_10 rfl (v_nrm (fun y_4 hy_4 => (v_pi (z := 12) c_91_11 kf_7_327 rfl (Nat.le_of_ble_eq_true rfl) rfl rfl rfl (of_decide_eq_true rfl) (v_new c_91_14 rfl (of_decide_eq_true rfl) (by omega) (Nat.le_of_ble_eq_true rfl) (of_decide_eq_true rfl) rfl (bk_out rfl rfl (bk_out rfl rfl ?_))))))))
    have hI_5 := iw_0_12 (v := y_4) hI ⟨hy_4.1, hy_4.2⟩
    exact T100 _ hI_5 (fun a j hm => up_b (Decidable.or_iff_not_imp_left.mpr (fun h1 h2 => hm (Or.inl ⟨Decidable.not_not.mp h1, h2⟩))))
  · refine v_ic_lt_f (t := 14) c_80_2 rfl ⟨of_decide_eq_true rfl, (Int.not_lt.mp h_2), ha1.2⟩ (q_iload_n c_80_5 rfl (q_iload_n c_80_6 rfl ?_))
    by_cases h_6 : a1 > c P 1 - 1
    · refine v_ic_gt_t (t := 14) c_80_7 rfl ⟨(rgm_l h_1.1 (of_decide_eq_true rfl)), h_6, ha1.2⟩ (q_iconst c_80_14 (v_zret c_80_15 rfl (of_decide_eq_true rfl) (bk_inl (v_cv c_94_15 km_7_333 rfl rfl (Nat.le_of_ble_eq_true rfl) ⟨⟨rfl, rfl⟩, Nat.le_of_ble_eq_true rfl, rfl⟩ (Nat.le_of_ble_eq_true rfl) (Nat.le_of_ble_eq_true rfl) (q_iload_n c_91_0 rfl (v_if_ne_f (t := 25) c_91_1 rfl (of_decide_eq_true rfl) (q_aload_n c_91_4 rfl ?_)))))))
      refine q_dup c_91_5 rfl ?_
      have h_7 := ir_0_12 hI
      refine v_gi (z := 12) (v := c 0 12) c_91_6 kf_7_327 rfl (Nat.le_of_ble_eq_true rfl) rfl rfl rfl (q_iconst c_91_9 (v_iadd (v := c 0 12 + 1) c_91_10 rfl (v_nrm (fun y_8 hy_8 => (v_pi (z := 12) c_91_11 kf_7_327 rfl (Nat.le_of_ble_eq_true rfl) rfl rfl rfl (of_decide_eq_true rfl) (v_new c_91_14 rfl (of_decide_eq_true rfl) (by omega) (Nat.le_of_ble_eq_true rfl) (of_decide_eq_true rfl) rfl (bk_out rfl rfl (bk_out rfl rfl ?_))))))))
      have hI_9 := iw_0_12 (v := y_8) hI ⟨hy_8.1, hy_8.2⟩
      exact T100 _ hI_9 (fun a j hm => up_b (Decidable.or_iff_not_imp_left.mpr (fun h1 h2 => hm (Or.inl ⟨Decidable.not_not.mp h1, h2⟩))))
    · refine v_ic_gt_f (t := 14) c_80_7 rfl ⟨ha1.1, (Int.not_lt.mp h_6), (rgm_h h_1.2 (of_decide_eq_true rfl))⟩ (q_iconst c_80_10 (q_goto (t := 15) c_80_11 rfl (v_zret c_80_15 rfl (of_decide_eq_true rfl) (bk_inl (v_cv c_94_15 km_7_333 rfl rfl (Nat.le_of_ble_eq_true rfl) ⟨⟨rfl, rfl⟩, Nat.le_of_ble_eq_true rfl, rfl⟩ (Nat.le_of_ble_eq_true rfl) (Nat.le_of_ble_eq_true rfl) (q_iload_n c_91_0 rfl (v_if_ne_t (t := 25) c_91_1 rfl (of_decide_eq_true rfl) ?_)))))))
      refine q_vret rfl rfl (bk_inl (q_vret rfl rfl (bk_inl (q_aload_n c_110_5 rfl (q_iload_n c_110_6 rfl (v_cv c_110_7 km_7_184 rfl rfl (Nat.le_of_ble_eq_true rfl) ⟨⟨rfl, rfl⟩, Nat.le_of_ble_eq_true rfl, rfl⟩ (Nat.le_of_ble_eq_true rfl) (Nat.le_of_ble_eq_true rfl) (q_aload_n c_92_0 rfl ?_)))))))
      refine q_iload_n c_92_1 rfl (q_iconst c_92_2 (q_aload_n c_92_3 rfl (v_gr (t := P) c_92_4 kf_7_50 rfl (Nat.le_of_ble_eq_true rfl) rfl ?_)))
      have h_10 := ir_p0_0 hI hP
      refine v_gi (z := 0) (v := c P 0) c_92_7 kf_7_102 (ck_p0 hP) (a68z hP) rfl rfl rfl (q_iconst c_92_10 (v_isub (v := c P 0 - 1) c_92_11 rfl (q_call c_92_12 rfl rfl rfl (q_iload_n c_80_0 rfl (q_iload_n c_80_1 rfl ?_)))))
      by_cases h_11 : a2 < 0
      · refine v_ic_lt_t (t := 14) c_80_2 rfl ⟨ha2.1, h_11, of_decide_eq_true rfl⟩ (q_iconst c_80_14 (v_zret c_80_15 rfl (of_decide_eq_true rfl) (bk_inl (v_cv c_92_15 km_7_333 rfl rfl (Nat.le_of_ble_eq_true rfl) ⟨⟨rfl, rfl⟩, Nat.le_of_ble_eq_true rfl, rfl⟩ (Nat.le_of_ble_eq_true rfl) (Nat.le_of_ble_eq_true rfl) (q_iload_n c_91_0 rfl (v_if_ne_f (t := 25) c_91_1 rfl (of_decide_eq_true rfl) (q_aload_n c_91_4 rfl ?_)))))))
        refine q_dup c_91_5 rfl ?_
        have h_12 := ir_0_12 hI
        refine v_gi (z := 12) (v := c 0 12) c_91_6 kf_7_327 rfl (Nat.le_of_ble_eq_true rfl) rfl rfl rfl (q_iconst c_91_9 (v_iadd (v := c 0 12 + 1) c_91_10 rfl (v_nrm (fun y_13 hy_13 => (v_pi (z := 12) c_91_11 kf_7_327 rfl (Nat.le_of_ble_eq_true rfl) rfl rfl rfl (of_decide_eq_true rfl) (v_new c_91_14 rfl (of_decide_eq_true rfl) (by omega) (Nat.le_of_ble_eq_true rfl) (of_decide_eq_true rfl) rfl (bk_out rfl rfl (bk_out rfl rfl ?_))))))))
        have hI_14 := iw_0_12 (v := y_13) hI ⟨hy_13.1, hy_13.2⟩
        exact T100 _ hI_14 (fun a j hm => up_b (Decidable.or_iff_not_imp_left.mpr (fun h1 h2 => hm (Or.inl ⟨Decidable.not_not.mp h1, h2⟩))))
      · refine v_ic_lt_f (t := 14) c_80_2 rfl ⟨of_decide_eq_true rfl, (Int.not_lt.mp h_11), ha2.2⟩ (q_iload_n c_80_5 rfl (q_iload_n c_80_6 rfl ?_))
        by_cases h_15 : a2 > c P 0 - 1
        · refine v_ic_gt_t (t := 14) c_80_7 rfl ⟨(rgm_l h_10.1 (of_decide_eq_true rfl)), h_15, ha2.2⟩ (q_iconst c_80_14 (v_zret c_80_15 rfl (of_decide_eq_true rfl) (bk_inl (v_cv c_92_15 km_7_333 rfl rfl (Nat.le_of_ble_eq_true rfl) ⟨⟨rfl, rfl⟩, Nat.le_of_ble_eq_true rfl, rfl⟩ (Nat.le_of_ble_eq_true rfl) (Nat.le_of_ble_eq_true rfl) (q_iload_n c_91_0 rfl (v_if_ne_f (t := 25) c_91_1 rfl (of_decide_eq_true rfl) (q_aload_n c_91_4 rfl ?_)))))))
          refine q_dup c_91_5 rfl ?_
          have h_16 := ir_0_12 hI
          refine v_gi (z := 12) (v := c 0 12) c_91_6 kf_7_327 rfl (Nat.le_of_ble_eq_true rfl) rfl rfl rfl (q_iconst c_91_9 (v_iadd (v := c 0 12 + 1) c_91_10 rfl (v_nrm (fun y_17 hy_17 => (v_pi (z := 12) c_91_11 kf_7_327 rfl (Nat.le_of_ble_eq_true rfl) rfl rfl rfl (of_decide_eq_true rfl) (v_new c_91_14 rfl (of_decide_eq_true rfl) (by omega) (Nat.le_of_ble_eq_true rfl) (of_decide_eq_true rfl) rfl (bk_out rfl rfl (bk_out rfl rfl ?_))))))))
          have hI_18 := iw_0_12 (v := y_17) hI ⟨hy_17.1, hy_17.2⟩
          exact T100 _ hI_18 (fun a j hm => up_b (Decidable.or_iff_not_imp_left.mpr (fun h1 h2 => hm (Or.inl ⟨Decidable.not_not.mp h1, h2⟩))))
        · refine v_ic_gt_f (t := 14) c_80_7 rfl ⟨ha2.1, (Int.not_lt.mp h_15), (rgm_h h_10.2 (of_decide_eq_true rfl))⟩ (q_iconst c_80_10 (q_goto (t := 15) c_80_11 rfl (v_zret c_80_15 rfl (of_decide_eq_true rfl) (bk_inl (v_cv c_92_15 km_7_333 rfl rfl (Nat.le_of_ble_eq_true rfl) ⟨⟨rfl, rfl⟩, Nat.le_of_ble_eq_true rfl, rfl⟩ (Nat.le_of_ble_eq_true rfl) (Nat.le_of_ble_eq_true rfl) (q_iload_n c_91_0 rfl (v_if_ne_t (t := 25) c_91_1 rfl (of_decide_eq_true rfl) ?_)))))))
          refine q_vret rfl rfl (bk_inl (q_vret rfl rfl (bk_inl (q_aload_n c_110_10 rfl (q_iload_n c_110_11 rfl (q_iconst c_110_12 (q_iconst c_110_13 ?_)))))))
          refine q_call c_110_14 rfl rfl rfl (q_iload_n c_80_0 rfl (q_iload_n c_80_1 rfl ?_))
          by_cases h_19 : a3 < 0
          · refine v_ic_lt_t (t := 14) c_80_2 rfl ⟨ha3.1, h_19, of_decide_eq_true rfl⟩ (q_iconst c_80_14 (v_zret c_80_15 rfl (of_decide_eq_true rfl) (bk_inl (v_cv c_110_17 km_7_161 rfl rfl (Nat.le_of_ble_eq_true rfl) ⟨⟨rfl, rfl⟩, Nat.le_of_ble_eq_true rfl, rfl⟩ (Nat.le_of_ble_eq_true rfl) (Nat.le_of_ble_eq_true rfl) (q_iload_n c_81_0 rfl (v_if_ne_f (t := 25) c_81_1 rfl (of_decide_eq_true rfl) (q_aload_n c_81_4 rfl ?_)))))))
            refine q_dup c_81_5 rfl ?_
            have h_20 := ir_0_13 hI
            refine v_gi (z := 13) (v := c 0 13) c_81_6 kf_7_330 rfl (Nat.le_of_ble_eq_true rfl) rfl rfl rfl (q_iconst c_81_9 (v_iadd (v := c 0 13 + 1) c_81_10 rfl (v_nrm (fun y_21 hy_21 => (v_pi (z := 13) c_81_11 kf_7_330 rfl (Nat.le_of_ble_eq_true rfl) rfl rfl rfl (of_decide_eq_true rfl) (v_new c_81_14 rfl (of_decide_eq_true rfl) (by omega) (Nat.le_of_ble_eq_true rfl) (of_decide_eq_true rfl) rfl (bk_out rfl rfl ?_)))))))
            have hI_22 := iw_0_13 (v := y_21) hI ⟨hy_21.1, hy_21.2⟩
            exact T101 _ hI_22 (fun a j hm => up_b (Decidable.or_iff_not_imp_left.mpr (fun h1 h2 => hm (Or.inr (Or.inl ⟨Decidable.not_not.mp h1, h2⟩)))))
          · refine v_ic_lt_f (t := 14) c_80_2 rfl ⟨of_decide_eq_true rfl, (Int.not_lt.mp h_19), ha3.2⟩ (q_iload_n c_80_5 rfl (q_iload_n c_80_6 rfl ?_))
            by_cases h_23 : a3 > 4
            · refine v_ic_gt_t (t := 14) c_80_7 rfl ⟨of_decide_eq_true rfl, h_23, ha3.2⟩ (q_iconst c_80_14 (v_zret c_80_15 rfl (of_decide_eq_true rfl) (bk_inl (v_cv c_110_17 km_7_161 rfl rfl (Nat.le_of_ble_eq_true rfl) ⟨⟨rfl, rfl⟩, Nat.le_of_ble_eq_true rfl, rfl⟩ (Nat.le_of_ble_eq_true rfl) (Nat.le_of_ble_eq_true rfl) (q_iload_n c_81_0 rfl (v_if_ne_f (t := 25) c_81_1 rfl (of_decide_eq_true rfl) (q_aload_n c_81_4 rfl ?_)))))))
              refine q_dup c_81_5 rfl ?_
              have h_24 := ir_0_13 hI
              refine v_gi (z := 13) (v := c 0 13) c_81_6 kf_7_330 rfl (Nat.le_of_ble_eq_true rfl) rfl rfl rfl (q_iconst c_81_9 (v_iadd (v := c 0 13 + 1) c_81_10 rfl (v_nrm (fun y_25 hy_25 => (v_pi (z := 13) c_81_11 kf_7_330 rfl (Nat.le_of_ble_eq_true rfl) rfl rfl rfl (of_decide_eq_true rfl) (v_new c_81_14 rfl (of_decide_eq_true rfl) (by omega) (Nat.le_of_ble_eq_true rfl) (of_decide_eq_true rfl) rfl (bk_out rfl rfl ?_)))))))
              have hI_26 := iw_0_13 (v := y_25) hI ⟨hy_25.1, hy_25.2⟩
              exact T101 _ hI_26 (fun a j hm => up_b (Decidable.or_iff_not_imp_left.mpr (fun h1 h2 => hm (Or.inr (Or.inl ⟨Decidable.not_not.mp h1, h2⟩)))))
            · refine v_ic_gt_f (t := 14) c_80_7 rfl ⟨ha3.1, (Int.not_lt.mp h_23), of_decide_eq_true rfl⟩ (q_iconst c_80_10 (q_goto (t := 15) c_80_11 rfl (v_zret c_80_15 rfl (of_decide_eq_true rfl) (bk_inl (v_cv c_110_17 km_7_161 rfl rfl (Nat.le_of_ble_eq_true rfl) ⟨⟨rfl, rfl⟩, Nat.le_of_ble_eq_true rfl, rfl⟩ (Nat.le_of_ble_eq_true rfl) (Nat.le_of_ble_eq_true rfl) (q_iload_n c_81_0 rfl (v_if_ne_t (t := 25) c_81_1 rfl (of_decide_eq_true rfl) ?_)))))))
              refine q_vret rfl rfl (bk_inl (q_aload_n c_110_20 rfl (v_gr (t := 39) c_110_21 kf_7_66 rfl (Nat.le_of_ble_eq_true rfl) rfl (q_aload_n c_110_24 rfl (v_gr (t := 37) c_110_25 kf_7_62 rfl (Nat.le_of_ble_eq_true rfl) rfl (v_cv c_110_28 km_7_233 rfl rfl (Nat.le_of_ble_eq_true rfl) ⟨⟨rfl, rfl⟩, Nat.le_of_ble_eq_true rfl, rfl⟩ (Nat.le_of_ble_eq_true rfl) (Nat.le_of_ble_eq_true rfl) (s_66 hI (fun c_27 hI_28 hF_29 => (bk_inl ?_)))))))))
              refine q_aload_n c_110_31 rfl (v_gr (t := 39) c_110_32 kf_7_66 rfl (Nat.le_of_ble_eq_true rfl) rfl (q_iload_n c_110_35 rfl (q_iload_n c_110_36 rfl (v_cv c_110_37 km_7_243 rfl rfl (Nat.le_of_ble_eq_true rfl) ⟨⟨rfl, rfl⟩, Nat.le_of_ble_eq_true rfl, rfl⟩ (Nat.le_of_ble_eq_true rfl) (Nat.le_of_ble_eq_true rfl) (s_44 (a1 := a1) (a2 := a2) hI_28 (.inr ⟨rfl, rfl⟩) (show 0 ≤ a1 ∧ a1 ≤ 3 from ⟨(q_720657ba9 h_2), (q_1b5e4f74b h_1 h_6)⟩) (show 0 ≤ a2 ∧ a2 ≤ 5 from ⟨(q_720657ba9 h_11), (q_3a2e67ab0 h_10 h_15)⟩) (fun c_30 y_33 hI_31 hF_32 hy_33 => (bk_inl (q_pop c_110_40 rfl (q_iload_n c_110_41 rfl ?_)))))))))
              refine q_iconst c_110_42 ?_
              by_cases h_34 : a3 ≠ 4
              · refine v_ic_ne_t (t := 68) c_110_43 rfl ⟨h_34, ⟨ha3.1, ha3.2⟩, of_decide_eq_true rfl, of_decide_eq_true rfl⟩ (q_aload_n c_110_68 rfl (v_gr (t := 39) c_110_69 kf_7_66 rfl (Nat.le_of_ble_eq_true rfl) rfl (q_iload_n c_110_72 rfl (q_iload_n c_110_73 rfl ?_))))
                have h_35 := ir_40_g hI_31 (j := 4 * a2 + a3) ((q_e0f71dbae h_10 h_15 h_23 h_34))
                refine v_cv c_110_74 km_7_196 rfl rfl (Nat.le_of_ble_eq_true rfl) ⟨⟨rfl, rfl⟩, Nat.le_of_ble_eq_true rfl, rfl⟩ (Nat.le_of_ble_eq_true rfl) (Nat.le_of_ble_eq_true rfl) (s_45 (v1 := c_30 40 (4 * a2 + a3)) (r := c_30 40 (4 * a2 + a3)) (a1 := a2) (a2 := a3) hI_31 (.inr ⟨rfl, rfl⟩) (show 0 ≤ a2 ∧ a2 ≤ 5 from ⟨(q_720657ba9 h_11), (q_3a2e67ab0 h_10 h_15)⟩) (show 0 ≤ a3 ∧ a3 ≤ 3 from ⟨(q_720657ba9 h_19), (q_adb162ac9 h_23 h_34)⟩) (rfl) (by omega) (bk_inl (q_iret c_110_77 rfl ?_)))
                exact K c_30 (c_30 40 (4 * a2 + a3)) hI_31 (fun a j hm => (hF_32 a j (fun h => hm (Or.inr (Or.inr h)))).trans (hF_29 a j (fun h => hm (Or.inr (Or.inr h))))) ⟨(lel h_35.1 rfl), (ler h_35.2 rfl)⟩
              · refine v_ic_ne_f (t := 68) c_110_43 rfl (Decidable.not_not.mp h_34) (q_aload_n c_110_46 rfl (v_gr (t := 39) c_110_47 kf_7_66 rfl (Nat.le_of_ble_eq_true rfl) rfl (v_gr (t := 40) c_110_50 kf_7_174 rfl (Nat.le_of_ble_eq_true rfl) rfl (v_bip c_110_53 (of_decide_eq_true rfl) ?_))))
                have h_36 := ir_40 hI_31 32
                refine v_ia (v := c_30 40 32) c_110_55 rfl (of_decide_eq_true rfl) (of_decide_eq_true rfl) (of_decide_eq_true rfl) rfl (q_aload_n c_110_56 rfl (v_gr (t := 37) c_110_57 kf_7_62 rfl (Nat.le_of_ble_eq_true rfl) rfl (v_gr (t := 38) c_110_60 kf_7_174 rfl (Nat.le_of_ble_eq_true rfl) rfl (v_bip c_110_63 (of_decide_eq_true rfl) ?_))))
                have h_37 := ir_38 hI 32
                have kn_38 : Hid (c_27 38 32 = c 38 32) := hF_29 38 32 (fun h => absurd h (nn rfl))
                have kn_39 : Hid (c_30 38 32 = c 38 32) := (hF_32 38 32 (fun h => absurd h (nn rfl))).trans (hid kn_38)
                refine v_ia (v := c 38 32) c_110_65 rfl (of_decide_eq_true rfl) (of_decide_eq_true rfl) (of_decide_eq_true rfl) (hid kn_39) (v_isub (v := c_30 40 32 - c 38 32) c_110_66 (by first | (clear ha1 ha2 ha3 h_1 h_2 h_6 h_10 h_11 h_15 h_19 h_23 h_34 h_36 h_37; omega) | omega) (v_nrm (fun y_40 hy_40 => (q_iret c_110_67 rfl ?_))))
                exact K c_30 y_40 hI_31 (fun a j hm => (hF_32 a j (fun h => hm (Or.inr (Or.inr h)))).trans (hF_29 a j (fun h => hm (Or.inr (Or.inr h))))) hy_40

set_option maxRecDepth 100000 in
set_option maxHeartbeats 4000000 in
theorem s_111 {sc : List Int32} {e : Int} {d u P Q : Nat} {c : ME} {a1 : Int} {a2 : Int} {a3 : Int} {Z : AR → Prop} (hI : Iv u e P Q c) (ha1 : (-2147483648) ≤ a1 ∧ a1 ≤ 2147483647) (ha2 : (-2147483648) ≤ a2 ∧ a2 ≤ 2147483647) (ha3 : (-2147483648) ≤ a3 ∧ a3 ≤ 2147483647) (T100 : ∀ c2 : ME, Iv u e P Q c2 → (∀ (a : Nat) (j : Int), ¬ ((a = 0 ∧ j = 12) ∨ (a = 0 ∧ j = 13)) → c2 a j = c a j) → Z (.inr 100, Wd P Q P P c2, 1, 6)) (T101 : ∀ c2 : ME, Iv u e P Q c2 → (∀ (a : Nat) (j : Int), ¬ ((a = 0 ∧ j = 12) ∨ (a = 0 ∧ j = 13)) → c2 a j = c a j) → Z (.inr 101, Wd P Q P P c2, 1, 6)) (K : ∀ (c2 : ME) (y : Int), Iv u e P Q c2 → (∀ (a : Nat) (j : Int), ¬ ((a = 0 ∧ j = 12) ∨ (a = 0 ∧ j = 13)) → c2 a j = c a j) → (-2147483648) ≤ y ∧ y ≤ 2147483647 → Z (.inl (some (vi y)), Wd P Q P P c2, 0, 0)) : Wp sc (d + 11) 111 0 [(0, .ref 0), (1, vi a1), (2, vi a2), (3, vi a3)] [] (Wd P Q P P c) 0 0 Z := by
  have hP := iv_P hI
  have hQ := iv_Q hI
  refine q_aload_n c_111_0 rfl (q_iload_n c_111_1 rfl (v_cv c_111_2 km_7_206 rfl rfl (Nat.le_of_ble_eq_true rfl) ⟨⟨rfl, rfl⟩, Nat.le_of_ble_eq_true rfl, rfl⟩ (Nat.le_of_ble_eq_true rfl) (Nat.le_of_ble_eq_true rfl) (q_aload_n c_96_0 rfl (q_iload_n c_96_1 rfl (q_iconst c_96_2 (q_aload_n c_96_3 rfl (v_gr (t := P) c_96_4 kf_7_50 rfl (Nat.le_of_ble_eq_true rfl) rfl ?_)))))))
  have h_1 := ir_p0_2 hI hP
  refine v_gi (z := 2) (v := c P 2) c_96_7 kf_7_168 (ck_p0 hP) (a68z hP) rfl rfl rfl (q_iconst c_96_10 (v_isub (v := c P 2 - 1) c_96_11 rfl (q_call c_96_12 rfl rfl rfl (q_iload_n c_80_0 rfl (q_iload_n c_80_1 rfl ?_)))))
  by_cases h_2 : a1 < 0
  · refine v_ic_lt_t (t := 14) c_80_2 rfl ⟨ha1.1, h_2, of_decide_eq_true rfl⟩ (q_iconst c_80_14 (v_zret c_80_15 rfl (of_decide_eq_true rfl) (bk_inl (v_cv c_96_15 km_7_333 rfl rfl (Nat.le_of_ble_eq_true rfl) ⟨⟨rfl, rfl⟩, Nat.le_of_ble_eq_true rfl, rfl⟩ (Nat.le_of_ble_eq_true rfl) (Nat.le_of_ble_eq_true rfl) (q_iload_n c_91_0 rfl (v_if_ne_f (t := 25) c_91_1 rfl (of_decide_eq_true rfl) (q_aload_n c_91_4 rfl ?_)))))))
    refine q_dup c_91_5 rfl ?_
    have h_3 := ir_0_12 hI
    refine v_gi (z := 12) (v := c 0 12) c_91_6 kf_7_327 rfl (Nat.le_of_ble_eq_true rfl) rfl rfl rfl (q_iconst c_91_9 (v_iadd (v := c 0 12 + 1) c_91_10 rfl (v_nrm (fun y_4 hy_4 => (v_pi (z := 12) c_91_11 kf_7_327 rfl (Nat.le_of_ble_eq_true rfl) rfl rfl rfl (of_decide_eq_true rfl) (v_new c_91_14 rfl (of_decide_eq_true rfl) (by omega) (Nat.le_of_ble_eq_true rfl) (of_decide_eq_true rfl) rfl (bk_out rfl rfl (bk_out rfl rfl ?_))))))))
    have hI_5 := iw_0_12 (v := y_4) hI ⟨hy_4.1, hy_4.2⟩
    exact T100 _ hI_5 (fun a j hm => up_b (Decidable.or_iff_not_imp_left.mpr (fun h1 h2 => hm (Or.inl ⟨Decidable.not_not.mp h1, h2⟩))))
  · refine v_ic_lt_f (t := 14) c_80_2 rfl ⟨of_decide_eq_true rfl, (Int.not_lt.mp h_2), ha1.2⟩ (q_iload_n c_80_5 rfl (q_iload_n c_80_6 rfl ?_))
    by_cases h_6 : a1 > c P 2 - 1
    · refine v_ic_gt_t (t := 14) c_80_7 rfl ⟨(rgm_l h_1.1 (of_decide_eq_true rfl)), h_6, ha1.2⟩ (q_iconst c_80_14 (v_zret c_80_15 rfl (of_decide_eq_true rfl) (bk_inl (v_cv c_96_15 km_7_333 rfl rfl (Nat.le_of_ble_eq_true rfl) ⟨⟨rfl, rfl⟩, Nat.le_of_ble_eq_true rfl, rfl⟩ (Nat.le_of_ble_eq_true rfl) (Nat.le_of_ble_eq_true rfl) (q_iload_n c_91_0 rfl (v_if_ne_f (t := 25) c_91_1 rfl (of_decide_eq_true rfl) (q_aload_n c_91_4 rfl ?_)))))))
      refine q_dup c_91_5 rfl ?_
      have h_7 := ir_0_12 hI
      refine v_gi (z := 12) (v := c 0 12) c_91_6 kf_7_327 rfl (Nat.le_of_ble_eq_true rfl) rfl rfl rfl (q_iconst c_91_9 (v_iadd (v := c 0 12 + 1) c_91_10 rfl (v_nrm (fun y_8 hy_8 => (v_pi (z := 12) c_91_11 kf_7_327 rfl (Nat.le_of_ble_eq_true rfl) rfl rfl rfl (of_decide_eq_true rfl) (v_new c_91_14 rfl (of_decide_eq_true rfl) (by omega) (Nat.le_of_ble_eq_true rfl) (of_decide_eq_true rfl) rfl (bk_out rfl rfl (bk_out rfl rfl ?_))))))))
      have hI_9 := iw_0_12 (v := y_8) hI ⟨hy_8.1, hy_8.2⟩
      exact T100 _ hI_9 (fun a j hm => up_b (Decidable.or_iff_not_imp_left.mpr (fun h1 h2 => hm (Or.inl ⟨Decidable.not_not.mp h1, h2⟩))))
    · refine v_ic_gt_f (t := 14) c_80_7 rfl ⟨ha1.1, (Int.not_lt.mp h_6), (rgm_h h_1.2 (of_decide_eq_true rfl))⟩ (q_iconst c_80_10 (q_goto (t := 15) c_80_11 rfl (v_zret c_80_15 rfl (of_decide_eq_true rfl) (bk_inl (v_cv c_96_15 km_7_333 rfl rfl (Nat.le_of_ble_eq_true rfl) ⟨⟨rfl, rfl⟩, Nat.le_of_ble_eq_true rfl, rfl⟩ (Nat.le_of_ble_eq_true rfl) (Nat.le_of_ble_eq_true rfl) (q_iload_n c_91_0 rfl (v_if_ne_t (t := 25) c_91_1 rfl (of_decide_eq_true rfl) ?_)))))))
      refine q_vret rfl rfl (bk_inl (q_vret rfl rfl (bk_inl (q_aload_n c_111_5 rfl (q_iload_n c_111_6 rfl (v_cv c_111_7 km_7_184 rfl rfl (Nat.le_of_ble_eq_true rfl) ⟨⟨rfl, rfl⟩, Nat.le_of_ble_eq_true rfl, rfl⟩ (Nat.le_of_ble_eq_true rfl) (Nat.le_of_ble_eq_true rfl) (q_aload_n c_92_0 rfl ?_)))))))
      refine q_iload_n c_92_1 rfl (q_iconst c_92_2 (q_aload_n c_92_3 rfl (v_gr (t := P) c_92_4 kf_7_50 rfl (Nat.le_of_ble_eq_true rfl) rfl ?_)))
      have h_10 := ir_p0_0 hI hP
      refine v_gi (z := 0) (v := c P 0) c_92_7 kf_7_102 (ck_p0 hP) (a68z hP) rfl rfl rfl (q_iconst c_92_10 (v_isub (v := c P 0 - 1) c_92_11 rfl (q_call c_92_12 rfl rfl rfl (q_iload_n c_80_0 rfl (q_iload_n c_80_1 rfl ?_)))))
      by_cases h_11 : a2 < 0
      · refine v_ic_lt_t (t := 14) c_80_2 rfl ⟨ha2.1, h_11, of_decide_eq_true rfl⟩ (q_iconst c_80_14 (v_zret c_80_15 rfl (of_decide_eq_true rfl) (bk_inl (v_cv c_92_15 km_7_333 rfl rfl (Nat.le_of_ble_eq_true rfl) ⟨⟨rfl, rfl⟩, Nat.le_of_ble_eq_true rfl, rfl⟩ (Nat.le_of_ble_eq_true rfl) (Nat.le_of_ble_eq_true rfl) (q_iload_n c_91_0 rfl (v_if_ne_f (t := 25) c_91_1 rfl (of_decide_eq_true rfl) (q_aload_n c_91_4 rfl ?_)))))))
        refine q_dup c_91_5 rfl ?_
        have h_12 := ir_0_12 hI
        refine v_gi (z := 12) (v := c 0 12) c_91_6 kf_7_327 rfl (Nat.le_of_ble_eq_true rfl) rfl rfl rfl (q_iconst c_91_9 (v_iadd (v := c 0 12 + 1) c_91_10 rfl (v_nrm (fun y_13 hy_13 => (v_pi (z := 12) c_91_11 kf_7_327 rfl (Nat.le_of_ble_eq_true rfl) rfl rfl rfl (of_decide_eq_true rfl) (v_new c_91_14 rfl (of_decide_eq_true rfl) (by omega) (Nat.le_of_ble_eq_true rfl) (of_decide_eq_true rfl) rfl (bk_out rfl rfl (bk_out rfl rfl ?_))))))))
        have hI_14 := iw_0_12 (v := y_13) hI ⟨hy_13.1, hy_13.2⟩
        exact T100 _ hI_14 (fun a j hm => up_b (Decidable.or_iff_not_imp_left.mpr (fun h1 h2 => hm (Or.inl ⟨Decidable.not_not.mp h1, h2⟩))))
      · refine v_ic_lt_f (t := 14) c_80_2 rfl ⟨of_decide_eq_true rfl, (Int.not_lt.mp h_11), ha2.2⟩ (q_iload_n c_80_5 rfl (q_iload_n c_80_6 rfl ?_))
        by_cases h_15 : a2 > c P 0 - 1
        · refine v_ic_gt_t (t := 14) c_80_7 rfl ⟨(rgm_l h_10.1 (of_decide_eq_true rfl)), h_15, ha2.2⟩ (q_iconst c_80_14 (v_zret c_80_15 rfl (of_decide_eq_true rfl) (bk_inl (v_cv c_92_15 km_7_333 rfl rfl (Nat.le_of_ble_eq_true rfl) ⟨⟨rfl, rfl⟩, Nat.le_of_ble_eq_true rfl, rfl⟩ (Nat.le_of_ble_eq_true rfl) (Nat.le_of_ble_eq_true rfl) (q_iload_n c_91_0 rfl (v_if_ne_f (t := 25) c_91_1 rfl (of_decide_eq_true rfl) (q_aload_n c_91_4 rfl ?_)))))))
          refine q_dup c_91_5 rfl ?_
          have h_16 := ir_0_12 hI
          refine v_gi (z := 12) (v := c 0 12) c_91_6 kf_7_327 rfl (Nat.le_of_ble_eq_true rfl) rfl rfl rfl (q_iconst c_91_9 (v_iadd (v := c 0 12 + 1) c_91_10 rfl (v_nrm (fun y_17 hy_17 => (v_pi (z := 12) c_91_11 kf_7_327 rfl (Nat.le_of_ble_eq_true rfl) rfl rfl rfl (of_decide_eq_true rfl) (v_new c_91_14 rfl (of_decide_eq_true rfl) (by omega) (Nat.le_of_ble_eq_true rfl) (of_decide_eq_true rfl) rfl (bk_out rfl rfl (bk_out rfl rfl ?_))))))))
          have hI_18 := iw_0_12 (v := y_17) hI ⟨hy_17.1, hy_17.2⟩
          exact T100 _ hI_18 (fun a j hm => up_b (Decidable.or_iff_not_imp_left.mpr (fun h1 h2 => hm (Or.inl ⟨Decidable.not_not.mp h1, h2⟩))))
        · refine v_ic_gt_f (t := 14) c_80_7 rfl ⟨ha2.1, (Int.not_lt.mp h_15), (rgm_h h_10.2 (of_decide_eq_true rfl))⟩ (q_iconst c_80_10 (q_goto (t := 15) c_80_11 rfl (v_zret c_80_15 rfl (of_decide_eq_true rfl) (bk_inl (v_cv c_92_15 km_7_333 rfl rfl (Nat.le_of_ble_eq_true rfl) ⟨⟨rfl, rfl⟩, Nat.le_of_ble_eq_true rfl, rfl⟩ (Nat.le_of_ble_eq_true rfl) (Nat.le_of_ble_eq_true rfl) (q_iload_n c_91_0 rfl (v_if_ne_t (t := 25) c_91_1 rfl (of_decide_eq_true rfl) ?_)))))))
          refine q_vret rfl rfl (bk_inl (q_vret rfl rfl (bk_inl (q_aload_n c_111_10 rfl (q_iload_n c_111_11 rfl (q_iconst c_111_12 (q_iconst c_111_13 ?_)))))))
          refine q_call c_111_14 rfl rfl rfl (q_iload_n c_80_0 rfl (q_iload_n c_80_1 rfl ?_))
          by_cases h_19 : a3 < 0
          · refine v_ic_lt_t (t := 14) c_80_2 rfl ⟨ha3.1, h_19, of_decide_eq_true rfl⟩ (q_iconst c_80_14 (v_zret c_80_15 rfl (of_decide_eq_true rfl) (bk_inl (v_cv c_111_17 km_7_161 rfl rfl (Nat.le_of_ble_eq_true rfl) ⟨⟨rfl, rfl⟩, Nat.le_of_ble_eq_true rfl, rfl⟩ (Nat.le_of_ble_eq_true rfl) (Nat.le_of_ble_eq_true rfl) (q_iload_n c_81_0 rfl (v_if_ne_f (t := 25) c_81_1 rfl (of_decide_eq_true rfl) (q_aload_n c_81_4 rfl ?_)))))))
            refine q_dup c_81_5 rfl ?_
            have h_20 := ir_0_13 hI
            refine v_gi (z := 13) (v := c 0 13) c_81_6 kf_7_330 rfl (Nat.le_of_ble_eq_true rfl) rfl rfl rfl (q_iconst c_81_9 (v_iadd (v := c 0 13 + 1) c_81_10 rfl (v_nrm (fun y_21 hy_21 => (v_pi (z := 13) c_81_11 kf_7_330 rfl (Nat.le_of_ble_eq_true rfl) rfl rfl rfl (of_decide_eq_true rfl) (v_new c_81_14 rfl (of_decide_eq_true rfl) (by omega) (Nat.le_of_ble_eq_true rfl) (of_decide_eq_true rfl) rfl (bk_out rfl rfl ?_)))))))
            have hI_22 := iw_0_13 (v := y_21) hI ⟨hy_21.1, hy_21.2⟩
            exact T101 _ hI_22 (fun a j hm => up_b (Decidable.or_iff_not_imp_left.mpr (fun h1 h2 => hm (Or.inr ⟨Decidable.not_not.mp h1, h2⟩))))
          · refine v_ic_lt_f (t := 14) c_80_2 rfl ⟨of_decide_eq_true rfl, (Int.not_lt.mp h_19), ha3.2⟩ (q_iload_n c_80_5 rfl (q_iload_n c_80_6 rfl ?_))
            by_cases h_23 : a3 > 4
            · refine v_ic_gt_t (t := 14) c_80_7 rfl ⟨of_decide_eq_true rfl, h_23, ha3.2⟩ (q_iconst c_80_14 (v_zret c_80_15 rfl (of_decide_eq_true rfl) (bk_inl (v_cv c_111_17 km_7_161 rfl rfl (Nat.le_of_ble_eq_true rfl) ⟨⟨rfl, rfl⟩, Nat.le_of_ble_eq_true rfl, rfl⟩ (Nat.le_of_ble_eq_true rfl) (Nat.le_of_ble_eq_true rfl) (q_iload_n c_81_0 rfl (v_if_ne_f (t := 25) c_81_1 rfl (of_decide_eq_true rfl) (q_aload_n c_81_4 rfl ?_)))))))
              refine q_dup c_81_5 rfl ?_
              have h_24 := ir_0_13 hI
              refine v_gi (z := 13) (v := c 0 13) c_81_6 kf_7_330 rfl (Nat.le_of_ble_eq_true rfl) rfl rfl rfl (q_iconst c_81_9 (v_iadd (v := c 0 13 + 1) c_81_10 rfl (v_nrm (fun y_25 hy_25 => (v_pi (z := 13) c_81_11 kf_7_330 rfl (Nat.le_of_ble_eq_true rfl) rfl rfl rfl (of_decide_eq_true rfl) (v_new c_81_14 rfl (of_decide_eq_true rfl) (by omega) (Nat.le_of_ble_eq_true rfl) (of_decide_eq_true rfl) rfl (bk_out rfl rfl ?_)))))))
              have hI_26 := iw_0_13 (v := y_25) hI ⟨hy_25.1, hy_25.2⟩
              exact T101 _ hI_26 (fun a j hm => up_b (Decidable.or_iff_not_imp_left.mpr (fun h1 h2 => hm (Or.inr ⟨Decidable.not_not.mp h1, h2⟩))))
            · refine v_ic_gt_f (t := 14) c_80_7 rfl ⟨ha3.1, (Int.not_lt.mp h_23), of_decide_eq_true rfl⟩ (q_iconst c_80_10 (q_goto (t := 15) c_80_11 rfl (v_zret c_80_15 rfl (of_decide_eq_true rfl) (bk_inl (v_cv c_111_17 km_7_161 rfl rfl (Nat.le_of_ble_eq_true rfl) ⟨⟨rfl, rfl⟩, Nat.le_of_ble_eq_true rfl, rfl⟩ (Nat.le_of_ble_eq_true rfl) (Nat.le_of_ble_eq_true rfl) (q_iload_n c_81_0 rfl (v_if_ne_t (t := 25) c_81_1 rfl (of_decide_eq_true rfl) ?_)))))))
              refine q_vret rfl rfl (bk_inl (q_iload_n c_111_20 rfl (q_iconst c_111_21 ?_)))
              by_cases h_27 : a3 ≠ 4
              · refine v_ic_ne_t (t := 37) c_111_22 rfl ⟨h_27, ⟨ha3.1, ha3.2⟩, of_decide_eq_true rfl, of_decide_eq_true rfl⟩ (q_aload_n c_111_37 rfl (v_gr (t := 37) c_111_38 kf_7_62 rfl (Nat.le_of_ble_eq_true rfl) rfl (q_iload_n c_111_41 rfl (q_iload_n c_111_42 rfl (q_iload_n c_111_43 rfl ?_)))))
                have h_28 := ir_p3 hI hP a1
                have h_29 := ir_38 hI 30
                have h_30 := ir_38_g hI (j := 4 * a2 + a3) ((q_e0f71dbae h_10 h_15 h_23 h_27))
                have h_31 := fal_rng (m := c (P + 3) a1) (t := tb (c 38 30) a1) (g := a3) (x := c 38 (4 * a2 + a3)) ((q_c6ed8760d h_30))
                refine v_cv c_111_44 km_7_249 rfl rfl (Nat.le_of_ble_eq_true rfl) ⟨⟨rfl, rfl⟩, Nat.le_of_ble_eq_true rfl, rfl⟩ (Nat.le_of_ble_eq_true rfl) (Nat.le_of_ble_eq_true rfl) (s_48 (v1 := c (P + 3) a1) (v2 := c 38 30) (v3 := c 38 (4 * a2 + a3)) (r := (fal (c (P + 3) a1) (tb (c 38 30) a1) a3 (c 38 (4 * a2 + a3)))) (a1 := a1) (a2 := a2) (a3 := a3) hI (.inl ⟨rfl, rfl⟩) (show 0 ≤ a1 ∧ a1 ≤ 3 from ⟨(q_720657ba9 h_2), (q_1b5e4f74b h_1 h_6)⟩) (show 0 ≤ a2 ∧ a2 ≤ 5 from ⟨(q_720657ba9 h_11), (q_3a2e67ab0 h_10 h_15)⟩) (show 0 ≤ a3 ∧ a3 ≤ 3 from ⟨(q_720657ba9 h_19), (q_adb162ac9 h_23 h_27)⟩) (rfl) (rfl) (rfl) rfl (bk_inl (q_iret c_111_47 rfl ?_)))
                exact K c (fal (c (P + 3) a1) (tb (c 38 30) a1) a3 (c 38 (4 * a2 + a3))) hI (fun a j hm => rfl) ⟨(q_fda856264 h_31), (q_4bf067e8d h_30 h_31)⟩
              · refine v_ic_ne_f (t := 37) c_111_22 rfl (Decidable.not_not.mp h_27) (q_aload_n c_111_25 rfl (v_gr (t := 37) c_111_26 kf_7_62 rfl (Nat.le_of_ble_eq_true rfl) rfl (q_iload_n c_111_29 rfl (q_iload_n c_111_30 rfl ?_))))
                have h_32 := ir_p3 hI hP a1
                have h_33 := ir_38 hI 30
                have h_34 := ir_38_g hI (j := 4 * a2) ((q_b0d0e4535 h_10 h_15))
                have h_35 := ir_38_g hI (j := 4 * a2 + 1) ((q_e3354e5e9 h_10 h_15))
                have h_36 := ir_38_g hI (j := 4 * a2 + 2) ((q_0a5347bcd h_10 h_15))
                have h_37 := ir_38_g hI (j := 4 * a2 + 3) ((q_9939b3b7f h_10 h_15))
                have h_38 := fal_rng (m := c (P + 3) a1) (t := tb (c 38 30) a1) (g := 0) (x := c 38 (4 * a2)) ((q_c6ed8760d h_34))
                have h_39 := fal_rng (m := c (P + 3) a1) (t := tb (c 38 30) a1) (g := 1) (x := c 38 (4 * a2 + 1)) ((q_c6ed8760d h_35))
                have h_40 := fal_rng (m := c (P + 3) a1) (t := tb (c 38 30) a1) (g := 2) (x := c 38 (4 * a2 + 2)) ((q_c6ed8760d h_36))
                have h_41 := fal_rng (m := c (P + 3) a1) (t := tb (c 38 30) a1) (g := 3) (x := c 38 (4 * a2 + 3)) ((q_c6ed8760d h_37))
                refine v_cv c_111_31 km_7_246 rfl rfl (Nat.le_of_ble_eq_true rfl) ⟨⟨rfl, rfl⟩, Nat.le_of_ble_eq_true rfl, rfl⟩ (Nat.le_of_ble_eq_true rfl) (Nat.le_of_ble_eq_true rfl) (s_49 (v1 := c (P + 3) a1) (v2 := c 38 30) (v3 := c 38 (4 * a2)) (v4 := c 38 (4 * a2 + 1)) (v5 := c 38 (4 * a2 + 2)) (v6 := c 38 (4 * a2 + 3)) (r := (fal (c (P + 3) a1) (tb (c 38 30) a1) 0 (c 38 (4 * a2))) + (fal (c (P + 3) a1) (tb (c 38 30) a1) 1 (c 38 (4 * a2 + 1))) + (fal (c (P + 3) a1) (tb (c 38 30) a1) 2 (c 38 (4 * a2 + 2))) + (fal (c (P + 3) a1) (tb (c 38 30) a1) 3 (c 38 (4 * a2 + 3)))) (a1 := a1) (a2 := a2) hI (.inl ⟨rfl, rfl⟩) (show 0 ≤ a1 ∧ a1 ≤ 3 from ⟨(q_720657ba9 h_2), (q_1b5e4f74b h_1 h_6)⟩) (show 0 ≤ a2 ∧ a2 ≤ 5 from ⟨(q_720657ba9 h_11), (q_3a2e67ab0 h_10 h_15)⟩) (rfl) (rfl) (rfl) (rfl) (rfl) (rfl) rfl (bk_inl (q_goto (t := 47) c_111_34 rfl (q_iret c_111_47 rfl ?_))))
                exact K c ((fal (c (P + 3) a1) (tb (c 38 30) a1) 0 (c 38 (4 * a2))) + (fal (c (P + 3) a1) (tb (c 38 30) a1) 1 (c 38 (4 * a2 + 1))) + (fal (c (P + 3) a1) (tb (c 38 30) a1) 2 (c 38 (4 * a2 + 2))) + (fal (c (P + 3) a1) (tb (c 38 30) a1) 3 (c 38 (4 * a2 + 3)))) hI (fun a j hm => rfl) ⟨(q_c0b7ed1c9 h_38 h_39 h_40 h_41), (q_c7a0dd24d h_34 h_35 h_36 h_37 h_38 h_39 h_40 h_41)⟩

set_option maxRecDepth 100000 in
set_option maxHeartbeats 4000000 in
theorem s_112_l {sc : List Int32} {d P Q : Nat} {c : ME} {a1 : Int} {a2 : Int} {a3 : Int} {Z : AR → Prop} (hI : Iv 0 (-1) P Q c) (ha1 : (-2147483648) ≤ a1 ∧ a1 ≤ 2147483647) (ha2 : (-2147483648) ≤ a2 ∧ a2 ≤ 2147483647) (ha3 : (-2147483648) ≤ a3 ∧ a3 ≤ 2147483647) (T100 : ∀ c2 : ME, Iv 0 (-1) P Q c2 → (∀ (a : Nat) (j : Int), ¬ ((a = 0 ∧ j = 12) ∨ (a = 0 ∧ j = 13) ∨ a = 40) → c2 a j = c a j) → Z (.inr 100, Wd P Q P P c2, 1, 6)) (T101 : ∀ c2 : ME, Iv 0 (-1) P Q c2 → (∀ (a : Nat) (j : Int), ¬ ((a = 0 ∧ j = 12) ∨ (a = 0 ∧ j = 13) ∨ a = 40) → c2 a j = c a j) → Z (.inr 101, Wd P Q P P c2, 1, 6)) (K : ∀ (c2 : ME) (y : Int), Iv 0 (-1) P Q c2 → (∀ (a : Nat) (j : Int), ¬ ((a = 0 ∧ j = 12) ∨ (a = 0 ∧ j = 13) ∨ a = 40) → c2 a j = c a j) → (-2147483648) ≤ y ∧ y ≤ 2147483647 → Z (.inl (some (vi y)), Wd P Q P P c2, 0, 0)) : ∀ n : Nat, (∀ (c2 : ME) (v4 : Int), Iv 0 (-1) P Q c2 → (∀ (a : Nat) (j : Int), ¬ ((a = 0 ∧ j = 12) ∨ (a = 0 ∧ j = 13) ∨ a = 40) → c2 a j = c a j) → 0 ≤ v4 ∧ v4 ≤ 100 → ((a1 ≥ 0 ∧ a1 ≤ 5)) → ((a2 ≥ 0 ∧ a2 ≤ 3)) → 201 - 2 * v4 < (n : Int) → Wp sc (d + 9) 112 49 [(0, .ref 0), (1, vi a1), (2, vi a2), (3, vi a3), (4, vi v4)] [] (Wd P Q P P c2) 0 0 Z) := by
  intro n
  induction n with
  | zero => exact (by intro c2 v4 hI2 hF hv4 hx0 hx1 hm9; have hP := iv_P hI; have hQ := iv_Q hI; exfalso; omega)
  | succ n ih =>
    have hP := iv_P hI
    have hQ := iv_Q hI
    intro c2 v4 hI2 hF hv4 hx0 hx1 hm9
    refine q_iload c_112_49 rfl (v_bip c_112_51 (of_decide_eq_true rfl) ?_)
    by_cases h_1 : v4 > 99
    · refine v_ic_gt_t (t := 87) c_112_53 rfl ⟨of_decide_eq_true rfl, h_1, (ler hv4.2 rfl)⟩ (q_iconst c_112_87 (q_iret c_112_88 rfl ?_))
      exact K c2 (-1) hI2 (fun a j hm => hF a j hm) ⟨of_decide_eq_true rfl, of_decide_eq_true rfl⟩
    · refine v_ic_gt_f (t := 87) c_112_53 rfl ⟨(lel hv4.1 rfl), (Int.not_lt.mp h_1), of_decide_eq_true rfl⟩ (q_aload_n c_112_56 rfl (v_gr (t := 39) c_112_57 kf_7_66 rfl (Nat.le_of_ble_eq_true rfl) rfl (q_iload_n c_112_60 rfl (v_cv c_112_61 km_7_193 rfl rfl (Nat.le_of_ble_eq_true rfl) ⟨⟨rfl, rfl⟩, Nat.le_of_ble_eq_true rfl, rfl⟩ (Nat.le_of_ble_eq_true rfl) (Nat.le_of_ble_eq_true rfl) (s_68 (a1 := a1) hI2 (.inr ⟨rfl, rfl⟩) (show 0 ≤ a1 ∧ a1 ≤ 5 from ⟨by omega, by omega⟩) (fun y_2 hy_2 => (bk_inl (q_iload_n c_112_64 rfl ?_))))))))
      by_cases h_3 : y_2 < a3
      · refine v_ic_lt_t (t := 71) c_112_65 rfl ⟨hy_2.1, h_3, ha3.2⟩ (q_aload_n c_112_71 rfl (v_gr (t := 39) c_112_72 kf_7_66 rfl (Nat.le_of_ble_eq_true rfl) rfl (q_iload_n c_112_75 rfl (q_iload_n c_112_76 rfl (v_cv c_112_77 km_7_243 rfl rfl (Nat.le_of_ble_eq_true rfl) ⟨⟨rfl, rfl⟩, Nat.le_of_ble_eq_true rfl, rfl⟩ (Nat.le_of_ble_eq_true rfl) (Nat.le_of_ble_eq_true rfl) (s_44 (a1 := a2) (a2 := a1) hI2 (.inr ⟨rfl, rfl⟩) (show 0 ≤ a2 ∧ a2 ≤ 3 from ⟨by omega, by omega⟩) (show 0 ≤ a1 ∧ a1 ≤ 5 from ⟨by omega, by omega⟩) (fun c_4 y_7 hI_5 hF_6 hy_7 => (bk_inl (q_pop c_112_80 rfl ?_)))))))))
        refine v_iinc (v := v4 + 1) c_112_81 rfl (Nat.le_of_ble_eq_true rfl) rfl (q_goto (t := 49) c_112_84 rfl (Wp_ls [(0, .ref 0), (1, vi a1), (2, vi a2), (3, vi a3), (4, vi (v4 + 1))] (lsub_cons rfl (lsub_cons rfl (lsub_cons rfl (lsub_cons rfl (lsub_cons rfl lsub_nil))))) ?_))
        exact ih c_4 (v4 + 1) hI_5 (fun a j hm => (hF_6 a j (fun h => hm (Or.inr (Or.inr h)))).trans (hF a j hm)) ⟨(rgp_l hv4.1 (of_decide_eq_true rfl)), (q_1eecf77db h_1)⟩ ⟨by omega, by omega⟩ ⟨by omega, by omega⟩ (by omega)
      · refine v_ic_lt_f (t := 71) c_112_65 rfl ⟨ha3.1, (Int.not_lt.mp h_3), hy_2.2⟩ (q_iload c_112_68 rfl (q_iret c_112_70 rfl ?_))
        exact K c2 v4 hI2 (fun a j hm => hF a j hm) ⟨(lel hv4.1 rfl), (ler hv4.2 rfl)⟩
set_option maxRecDepth 100000 in
set_option maxHeartbeats 4000000 in
theorem s_112 {sc : List Int32} {d P Q : Nat} {c : ME} {a1 : Int} {a2 : Int} {a3 : Int} {Z : AR → Prop} (hI : Iv 0 (-1) P Q c) (ha1 : (-2147483648) ≤ a1 ∧ a1 ≤ 2147483647) (ha2 : (-2147483648) ≤ a2 ∧ a2 ≤ 2147483647) (ha3 : (-2147483648) ≤ a3 ∧ a3 ≤ 2147483647) (T100 : ∀ c2 : ME, Iv 0 (-1) P Q c2 → (∀ (a : Nat) (j : Int), ¬ ((a = 0 ∧ j = 12) ∨ (a = 0 ∧ j = 13) ∨ a = 40) → c2 a j = c a j) → Z (.inr 100, Wd P Q P P c2, 1, 6)) (T101 : ∀ c2 : ME, Iv 0 (-1) P Q c2 → (∀ (a : Nat) (j : Int), ¬ ((a = 0 ∧ j = 12) ∨ (a = 0 ∧ j = 13) ∨ a = 40) → c2 a j = c a j) → Z (.inr 101, Wd P Q P P c2, 1, 6)) (K : ∀ (c2 : ME) (y : Int), Iv 0 (-1) P Q c2 → (∀ (a : Nat) (j : Int), ¬ ((a = 0 ∧ j = 12) ∨ (a = 0 ∧ j = 13) ∨ a = 40) → c2 a j = c a j) → (-2147483648) ≤ y ∧ y ≤ 2147483647 → Z (.inl (some (vi y)), Wd P Q P P c2, 0, 0)) : Wp sc (d + 9) 112 0 [(0, .ref 0), (1, vi a1), (2, vi a2), (3, vi a3)] [] (Wd P Q P P c) 0 0 Z := by
  have hP := iv_P hI
  have hQ := iv_Q hI
  refine q_aload_n c_112_0 rfl (q_iload_n c_112_1 rfl (v_cv c_112_2 km_7_184 rfl rfl (Nat.le_of_ble_eq_true rfl) ⟨⟨rfl, rfl⟩, Nat.le_of_ble_eq_true rfl, rfl⟩ (Nat.le_of_ble_eq_true rfl) (Nat.le_of_ble_eq_true rfl) (q_aload_n c_92_0 rfl (q_iload_n c_92_1 rfl (q_iconst c_92_2 (q_aload_n c_92_3 rfl (v_gr (t := P) c_92_4 kf_7_50 rfl (Nat.le_of_ble_eq_true rfl) rfl ?_)))))))
  have h_8 := ir_p0_0 hI hP
  refine v_gi (z := 0) (v := c P 0) c_92_7 kf_7_102 (ck_p0 hP) (a68z hP) rfl rfl rfl (q_iconst c_92_10 (v_isub (v := c P 0 - 1) c_92_11 rfl (q_call c_92_12 rfl rfl rfl (q_iload_n c_80_0 rfl (q_iload_n c_80_1 rfl ?_)))))
  by_cases h_9 : a1 < 0
  · refine v_ic_lt_t (t := 14) c_80_2 rfl ⟨ha1.1, h_9, of_decide_eq_true rfl⟩ (q_iconst c_80_14 (v_zret c_80_15 rfl (of_decide_eq_true rfl) (bk_inl (v_cv c_92_15 km_7_333 rfl rfl (Nat.le_of_ble_eq_true rfl) ⟨⟨rfl, rfl⟩, Nat.le_of_ble_eq_true rfl, rfl⟩ (Nat.le_of_ble_eq_true rfl) (Nat.le_of_ble_eq_true rfl) (q_iload_n c_91_0 rfl (v_if_ne_f (t := 25) c_91_1 rfl (of_decide_eq_true rfl) (q_aload_n c_91_4 rfl ?_)))))))
    refine q_dup c_91_5 rfl ?_
    have h_10 := ir_0_12 hI
    refine v_gi (z := 12) (v := c 0 12) c_91_6 kf_7_327 rfl (Nat.le_of_ble_eq_true rfl) rfl rfl rfl (q_iconst c_91_9 (v_iadd (v := c 0 12 + 1) c_91_10 rfl (v_nrm (fun y_11 hy_11 => (v_pi (z := 12) c_91_11 kf_7_327 rfl (Nat.le_of_ble_eq_true rfl) rfl rfl rfl (of_decide_eq_true rfl) (v_new c_91_14 rfl (of_decide_eq_true rfl) (by omega) (Nat.le_of_ble_eq_true rfl) (of_decide_eq_true rfl) rfl (bk_out rfl rfl (bk_out rfl rfl ?_))))))))
    have hI_12 := iw_0_12 (v := y_11) hI ⟨hy_11.1, hy_11.2⟩
    exact T100 _ hI_12 (fun a j hm => up_b (Decidable.or_iff_not_imp_left.mpr (fun h1 h2 => hm (Or.inl ⟨Decidable.not_not.mp h1, h2⟩))))
  · refine v_ic_lt_f (t := 14) c_80_2 rfl ⟨of_decide_eq_true rfl, (Int.not_lt.mp h_9), ha1.2⟩ (q_iload_n c_80_5 rfl (q_iload_n c_80_6 rfl ?_))
    by_cases h_13 : a1 > c P 0 - 1
    · refine v_ic_gt_t (t := 14) c_80_7 rfl ⟨(rgm_l h_8.1 (of_decide_eq_true rfl)), h_13, ha1.2⟩ (q_iconst c_80_14 (v_zret c_80_15 rfl (of_decide_eq_true rfl) (bk_inl (v_cv c_92_15 km_7_333 rfl rfl (Nat.le_of_ble_eq_true rfl) ⟨⟨rfl, rfl⟩, Nat.le_of_ble_eq_true rfl, rfl⟩ (Nat.le_of_ble_eq_true rfl) (Nat.le_of_ble_eq_true rfl) (q_iload_n c_91_0 rfl (v_if_ne_f (t := 25) c_91_1 rfl (of_decide_eq_true rfl) (q_aload_n c_91_4 rfl ?_)))))))
      refine q_dup c_91_5 rfl ?_
      have h_14 := ir_0_12 hI
      refine v_gi (z := 12) (v := c 0 12) c_91_6 kf_7_327 rfl (Nat.le_of_ble_eq_true rfl) rfl rfl rfl (q_iconst c_91_9 (v_iadd (v := c 0 12 + 1) c_91_10 rfl (v_nrm (fun y_15 hy_15 => (v_pi (z := 12) c_91_11 kf_7_327 rfl (Nat.le_of_ble_eq_true rfl) rfl rfl rfl (of_decide_eq_true rfl) (v_new c_91_14 rfl (of_decide_eq_true rfl) (by omega) (Nat.le_of_ble_eq_true rfl) (of_decide_eq_true rfl) rfl (bk_out rfl rfl (bk_out rfl rfl ?_))))))))
      have hI_16 := iw_0_12 (v := y_15) hI ⟨hy_15.1, hy_15.2⟩
      exact T100 _ hI_16 (fun a j hm => up_b (Decidable.or_iff_not_imp_left.mpr (fun h1 h2 => hm (Or.inl ⟨Decidable.not_not.mp h1, h2⟩))))
    · refine v_ic_gt_f (t := 14) c_80_7 rfl ⟨ha1.1, (Int.not_lt.mp h_13), (rgm_h h_8.2 (of_decide_eq_true rfl))⟩ (q_iconst c_80_10 (q_goto (t := 15) c_80_11 rfl (v_zret c_80_15 rfl (of_decide_eq_true rfl) (bk_inl (v_cv c_92_15 km_7_333 rfl rfl (Nat.le_of_ble_eq_true rfl) ⟨⟨rfl, rfl⟩, Nat.le_of_ble_eq_true rfl, rfl⟩ (Nat.le_of_ble_eq_true rfl) (Nat.le_of_ble_eq_true rfl) (q_iload_n c_91_0 rfl (v_if_ne_t (t := 25) c_91_1 rfl (of_decide_eq_true rfl) ?_)))))))
      refine q_vret rfl rfl (bk_inl (q_vret rfl rfl (bk_inl (q_aload_n c_112_5 rfl (q_iload_n c_112_6 rfl (v_cv c_112_7 km_7_200 rfl rfl (Nat.le_of_ble_eq_true rfl) ⟨⟨rfl, rfl⟩, Nat.le_of_ble_eq_true rfl, rfl⟩ (Nat.le_of_ble_eq_true rfl) (Nat.le_of_ble_eq_true rfl) (q_aload_n c_94_0 rfl ?_)))))))
      refine q_iload_n c_94_1 rfl (q_iconst c_94_2 (q_aload_n c_94_3 rfl (v_gr (t := P) c_94_4 kf_7_50 rfl (Nat.le_of_ble_eq_true rfl) rfl ?_)))
      have h_17 := ir_p0_1 hI hP
      refine v_gi (z := 1) (v := c P 1) c_94_7 kf_7_165 (ck_p0 hP) (a68z hP) rfl rfl rfl (q_iconst c_94_10 (v_isub (v := c P 1 - 1) c_94_11 rfl (q_call c_94_12 rfl rfl rfl (q_iload_n c_80_0 rfl (q_iload_n c_80_1 rfl ?_)))))
      by_cases h_18 : a2 < 0
      · refine v_ic_lt_t (t := 14) c_80_2 rfl ⟨ha2.1, h_18, of_decide_eq_true rfl⟩ (q_iconst c_80_14 (v_zret c_80_15 rfl (of_decide_eq_true rfl) (bk_inl (v_cv c_94_15 km_7_333 rfl rfl (Nat.le_of_ble_eq_true rfl) ⟨⟨rfl, rfl⟩, Nat.le_of_ble_eq_true rfl, rfl⟩ (Nat.le_of_ble_eq_true rfl) (Nat.le_of_ble_eq_true rfl) (q_iload_n c_91_0 rfl (v_if_ne_f (t := 25) c_91_1 rfl (of_decide_eq_true rfl) (q_aload_n c_91_4 rfl ?_)))))))
        refine q_dup c_91_5 rfl ?_
        have h_19 := ir_0_12 hI
        refine v_gi (z := 12) (v := c 0 12) c_91_6 kf_7_327 rfl (Nat.le_of_ble_eq_true rfl) rfl rfl rfl (q_iconst c_91_9 (v_iadd (v := c 0 12 + 1) c_91_10 rfl (v_nrm (fun y_20 hy_20 => (v_pi (z := 12) c_91_11 kf_7_327 rfl (Nat.le_of_ble_eq_true rfl) rfl rfl rfl (of_decide_eq_true rfl) (v_new c_91_14 rfl (of_decide_eq_true rfl) (by omega) (Nat.le_of_ble_eq_true rfl) (of_decide_eq_true rfl) rfl (bk_out rfl rfl (bk_out rfl rfl ?_))))))))
        have hI_21 := iw_0_12 (v := y_20) hI ⟨hy_20.1, hy_20.2⟩
        exact T100 _ hI_21 (fun a j hm => up_b (Decidable.or_iff_not_imp_left.mpr (fun h1 h2 => hm (Or.inl ⟨Decidable.not_not.mp h1, h2⟩))))
      · refine v_ic_lt_f (t := 14) c_80_2 rfl ⟨of_decide_eq_true rfl, (Int.not_lt.mp h_18), ha2.2⟩ (q_iload_n c_80_5 rfl (q_iload_n c_80_6 rfl ?_))
        by_cases h_22 : a2 > c P 1 - 1
        · refine v_ic_gt_t (t := 14) c_80_7 rfl ⟨(rgm_l h_17.1 (of_decide_eq_true rfl)), h_22, ha2.2⟩ (q_iconst c_80_14 (v_zret c_80_15 rfl (of_decide_eq_true rfl) (bk_inl (v_cv c_94_15 km_7_333 rfl rfl (Nat.le_of_ble_eq_true rfl) ⟨⟨rfl, rfl⟩, Nat.le_of_ble_eq_true rfl, rfl⟩ (Nat.le_of_ble_eq_true rfl) (Nat.le_of_ble_eq_true rfl) (q_iload_n c_91_0 rfl (v_if_ne_f (t := 25) c_91_1 rfl (of_decide_eq_true rfl) (q_aload_n c_91_4 rfl ?_)))))))
          refine q_dup c_91_5 rfl ?_
          have h_23 := ir_0_12 hI
          refine v_gi (z := 12) (v := c 0 12) c_91_6 kf_7_327 rfl (Nat.le_of_ble_eq_true rfl) rfl rfl rfl (q_iconst c_91_9 (v_iadd (v := c 0 12 + 1) c_91_10 rfl (v_nrm (fun y_24 hy_24 => (v_pi (z := 12) c_91_11 kf_7_327 rfl (Nat.le_of_ble_eq_true rfl) rfl rfl rfl (of_decide_eq_true rfl) (v_new c_91_14 rfl (of_decide_eq_true rfl) (by omega) (Nat.le_of_ble_eq_true rfl) (of_decide_eq_true rfl) rfl (bk_out rfl rfl (bk_out rfl rfl ?_))))))))
          have hI_25 := iw_0_12 (v := y_24) hI ⟨hy_24.1, hy_24.2⟩
          exact T100 _ hI_25 (fun a j hm => up_b (Decidable.or_iff_not_imp_left.mpr (fun h1 h2 => hm (Or.inl ⟨Decidable.not_not.mp h1, h2⟩))))
        · refine v_ic_gt_f (t := 14) c_80_7 rfl ⟨ha2.1, (Int.not_lt.mp h_22), (rgm_h h_17.2 (of_decide_eq_true rfl))⟩ (q_iconst c_80_10 (q_goto (t := 15) c_80_11 rfl (v_zret c_80_15 rfl (of_decide_eq_true rfl) (bk_inl (v_cv c_94_15 km_7_333 rfl rfl (Nat.le_of_ble_eq_true rfl) ⟨⟨rfl, rfl⟩, Nat.le_of_ble_eq_true rfl, rfl⟩ (Nat.le_of_ble_eq_true rfl) (Nat.le_of_ble_eq_true rfl) (q_iload_n c_91_0 rfl (v_if_ne_t (t := 25) c_91_1 rfl (of_decide_eq_true rfl) ?_)))))))
          refine q_vret rfl rfl (bk_inl (q_vret rfl rfl (bk_inl (q_aload_n c_112_10 rfl (q_iload_n c_112_11 rfl (q_iconst c_112_12 (v_sip c_112_13 (of_decide_eq_true rfl) ?_)))))))
          refine q_call c_112_16 rfl rfl rfl (q_iload_n c_80_0 rfl (q_iload_n c_80_1 rfl ?_))
          by_cases h_26 : a3 < 0
          · refine v_ic_lt_t (t := 14) c_80_2 rfl ⟨ha3.1, h_26, of_decide_eq_true rfl⟩ (q_iconst c_80_14 (v_zret c_80_15 rfl (of_decide_eq_true rfl) (bk_inl (v_cv c_112_19 km_7_161 rfl rfl (Nat.le_of_ble_eq_true rfl) ⟨⟨rfl, rfl⟩, Nat.le_of_ble_eq_true rfl, rfl⟩ (Nat.le_of_ble_eq_true rfl) (Nat.le_of_ble_eq_true rfl) (q_iload_n c_81_0 rfl (v_if_ne_f (t := 25) c_81_1 rfl (of_decide_eq_true rfl) (q_aload_n c_81_4 rfl ?_)))))))
            refine q_dup c_81_5 rfl ?_
            have h_27 := ir_0_13 hI
            refine v_gi (z := 13) (v := c 0 13) c_81_6 kf_7_330 rfl (Nat.le_of_ble_eq_true rfl) rfl rfl rfl (q_iconst c_81_9 (v_iadd (v := c 0 13 + 1) c_81_10 rfl (v_nrm (fun y_28 hy_28 => (v_pi (z := 13) c_81_11 kf_7_330 rfl (Nat.le_of_ble_eq_true rfl) rfl rfl rfl (of_decide_eq_true rfl) (v_new c_81_14 rfl (of_decide_eq_true rfl) (by omega) (Nat.le_of_ble_eq_true rfl) (of_decide_eq_true rfl) rfl (bk_out rfl rfl ?_)))))))
            have hI_29 := iw_0_13 (v := y_28) hI ⟨hy_28.1, hy_28.2⟩
            exact T101 _ hI_29 (fun a j hm => up_b (Decidable.or_iff_not_imp_left.mpr (fun h1 h2 => hm (Or.inr (Or.inl ⟨Decidable.not_not.mp h1, h2⟩)))))
          · refine v_ic_lt_f (t := 14) c_80_2 rfl ⟨of_decide_eq_true rfl, (Int.not_lt.mp h_26), ha3.2⟩ (q_iload_n c_80_5 rfl (q_iload_n c_80_6 rfl ?_))
            by_cases h_30 : a3 > 1000
            · refine v_ic_gt_t (t := 14) c_80_7 rfl ⟨of_decide_eq_true rfl, h_30, ha3.2⟩ (q_iconst c_80_14 (v_zret c_80_15 rfl (of_decide_eq_true rfl) (bk_inl (v_cv c_112_19 km_7_161 rfl rfl (Nat.le_of_ble_eq_true rfl) ⟨⟨rfl, rfl⟩, Nat.le_of_ble_eq_true rfl, rfl⟩ (Nat.le_of_ble_eq_true rfl) (Nat.le_of_ble_eq_true rfl) (q_iload_n c_81_0 rfl (v_if_ne_f (t := 25) c_81_1 rfl (of_decide_eq_true rfl) (q_aload_n c_81_4 rfl ?_)))))))
              refine q_dup c_81_5 rfl ?_
              have h_31 := ir_0_13 hI
              refine v_gi (z := 13) (v := c 0 13) c_81_6 kf_7_330 rfl (Nat.le_of_ble_eq_true rfl) rfl rfl rfl (q_iconst c_81_9 (v_iadd (v := c 0 13 + 1) c_81_10 rfl (v_nrm (fun y_32 hy_32 => (v_pi (z := 13) c_81_11 kf_7_330 rfl (Nat.le_of_ble_eq_true rfl) rfl rfl rfl (of_decide_eq_true rfl) (v_new c_81_14 rfl (of_decide_eq_true rfl) (by omega) (Nat.le_of_ble_eq_true rfl) (of_decide_eq_true rfl) rfl (bk_out rfl rfl ?_)))))))
              have hI_33 := iw_0_13 (v := y_32) hI ⟨hy_32.1, hy_32.2⟩
              exact T101 _ hI_33 (fun a j hm => up_b (Decidable.or_iff_not_imp_left.mpr (fun h1 h2 => hm (Or.inr (Or.inl ⟨Decidable.not_not.mp h1, h2⟩)))))
            · refine v_ic_gt_f (t := 14) c_80_7 rfl ⟨ha3.1, (Int.not_lt.mp h_30), of_decide_eq_true rfl⟩ (q_iconst c_80_10 (q_goto (t := 15) c_80_11 rfl (v_zret c_80_15 rfl (of_decide_eq_true rfl) (bk_inl (v_cv c_112_19 km_7_161 rfl rfl (Nat.le_of_ble_eq_true rfl) ⟨⟨rfl, rfl⟩, Nat.le_of_ble_eq_true rfl, rfl⟩ (Nat.le_of_ble_eq_true rfl) (Nat.le_of_ble_eq_true rfl) (q_iload_n c_81_0 rfl (v_if_ne_t (t := 25) c_81_1 rfl (of_decide_eq_true rfl) ?_)))))))
              refine q_vret rfl rfl (bk_inl (q_aload_n c_112_22 rfl (v_gr (t := 37) c_112_23 kf_7_62 rfl (Nat.le_of_ble_eq_true rfl) rfl (q_iload_n c_112_26 rfl ?_))))
              have h_34 := ir_38_g hI (j := 4 * a1) ((q_39694b04c h_13 h_8))
              have h_35 := ir_38_g hI (j := 4 * a1 + 1) ((q_daba94bfb h_13 h_8))
              have h_36 := ir_38_g hI (j := 4 * a1 + 2) ((q_c56a483ea h_13 h_8))
              have h_37 := ir_38_g hI (j := 4 * a1 + 3) ((q_bd71cc491 h_13 h_8))
              refine v_cv c_112_27 km_7_187 rfl rfl (Nat.le_of_ble_eq_true rfl) ⟨⟨rfl, rfl⟩, Nat.le_of_ble_eq_true rfl, rfl⟩ (Nat.le_of_ble_eq_true rfl) (Nat.le_of_ble_eq_true rfl) (s_43 (v1 := c 38 (4 * a1)) (v2 := c 38 (4 * a1 + 1)) (v3 := c 38 (4 * a1 + 2)) (v4 := c 38 (4 * a1 + 3)) (r := c 38 (4 * a1 + 1) + c 38 (4 * a1 + 2) + c 38 (4 * a1 + 3) + c 38 (4 * a1)) (a1 := a1) hI (.inl ⟨rfl, rfl⟩) (show 0 ≤ a1 ∧ a1 ≤ 5 from ⟨(q_720657ba9 h_9), (q_2aee6eea3 h_13 h_8)⟩) (rfl) (rfl) (rfl) (rfl) (by omega) (bk_inl ?_))
              by_cases h_38 : c 38 (4 * a1 + 1) + c 38 (4 * a1 + 2) + c 38 (4 * a1 + 3) + c 38 (4 * a1) ≠ 0
              · refine v_if_ne_t (t := 35) c_112_30 rfl ⟨h_38, ⟨(q_e052ef40e h_34 h_35 h_36 h_37), (q_db9ef1f4a h_34 h_35 h_36 h_37)⟩, of_decide_eq_true rfl, of_decide_eq_true rfl⟩ (q_aload_n c_112_35 rfl (v_gr (t := 39) c_112_36 kf_7_66 rfl (Nat.le_of_ble_eq_true rfl) rfl (q_aload_n c_112_39 rfl (v_gr (t := 37) c_112_40 kf_7_62 rfl (Nat.le_of_ble_eq_true rfl) rfl (v_cv c_112_43 km_7_233 rfl rfl (Nat.le_of_ble_eq_true rfl) ⟨⟨rfl, rfl⟩, Nat.le_of_ble_eq_true rfl, rfl⟩ (Nat.le_of_ble_eq_true rfl) (Nat.le_of_ble_eq_true rfl) (s_66 hI (fun c_39 hI_40 hF_41 => (bk_inl (q_iconst c_112_46 ?_)))))))))
                refine q_istore c_112_47 (Nat.le_of_ble_eq_true rfl) (Wp_ls [(0, .ref 0), (1, vi a1), (2, vi a2), (3, vi a3), (4, vi 0)] (lsub_cons rfl (lsub_cons rfl (lsub_cons rfl (lsub_cons rfl (lsub_cons rfl lsub_nil))))) ?_)
                exact (s_112_l (sc := sc) (d := d) hI ha1 ha2 ha3 T100 T101 K 204) c_39 0 hI_40 (fun a j hm => hF_41 a j (fun h => hm (Or.inr (Or.inr h)))) ⟨of_decide_eq_true rfl, of_decide_eq_true rfl⟩ ⟨(q_720657ba9 h_9), (q_2aee6eea3 h_13 h_8)⟩ ⟨(q_720657ba9 h_18), (q_1b5e4f74b h_17 h_22)⟩ (by omega)
              · refine v_if_ne_f (t := 35) c_112_30 rfl (Decidable.not_not.mp h_38) (q_iconst c_112_33 (q_iret c_112_34 rfl ?_))
                exact K c (-1) hI (fun a j hm => rfl) ⟨of_decide_eq_true rfl, of_decide_eq_true rfl⟩

set_option maxRecDepth 100000 in
set_option maxHeartbeats 4000000 in
theorem s_113_l {sc : List Int32} {e : Int} {d u P Q : Nat} {c : ME} {a1 : Int} {Z : AR → Prop} (hI : Iv u e P Q c) (ha1 : 0 ≤ a1 ∧ a1 ≤ 3) (K : ∀ (c2 : ME) (y : Int), Iv u e P Q c2 → (∀ (a : Nat) (j : Int), ¬ (a = 12) → c2 a j = c a j) → (-2147483648) ≤ y ∧ y ≤ 2147483647 → Z (.inl (some (vi y)), Wd P Q P P c2, 0, 0)) : ∀ n : Nat, (∀ (c2 : ME) (v2 : Int) (v3 : Int), Iv u e P Q c2 → (∀ (a : Nat) (j : Int), ¬ (a = 12) → c2 a j = c a j) → (-2147483648) ≤ v2 ∧ v2 ≤ 2147483647 → 0 ≤ v3 ∧ v3 ≤ 4 → 9 - 2 * v3 < (n : Int) → Wp sc (d + 9) 113 4 [(0, .ref 0), (1, vi a1), (2, vi v2), (3, vi v3)] [] (Wd P Q P P c2) 0 0 Z) := by
  intro n
  induction n with
  | zero => exact (by intro c2 v2 v3 hI2 hF hv2 hv3 hm9; have hP := iv_P hI; have hQ := iv_Q hI; exfalso; omega)
  | succ n ih =>
    have hP := iv_P hI
    have hQ := iv_Q hI
    intro c2 v2 v3 hI2 hF hv2 hv3 hm9
    refine q_iload_n c_113_4 rfl (q_iconst c_113_5 ?_)
    by_cases h_1 : v3 ≥ 4
    · refine v_ic_ge_t (t := 45) c_113_6 rfl ⟨of_decide_eq_true rfl, h_1, (ler hv3.2 rfl)⟩ (q_iload_n c_113_45 rfl (q_iret c_113_46 rfl ?_))
      exact K c2 v2 hI2 (fun a j hm => hF a j hm) hv2
    · refine v_ic_ge_f (t := 45) c_113_6 rfl ⟨(lel hv3.1 rfl), (Int.not_le.mp h_1), of_decide_eq_true rfl⟩ (q_aload_n c_113_9 rfl (v_gr (t := 12) c_113_10 kf_7_44 rfl (Nat.le_of_ble_eq_true rfl) rfl (q_iload_n c_113_13 rfl (q_aload_n c_113_14 rfl (v_gr (t := 37) c_113_15 kf_7_62 rfl (Nat.le_of_ble_eq_true rfl) rfl (q_iload_n c_113_18 rfl (q_iload_n c_113_19 rfl ?_)))))))
      refine q_aload_n c_113_20 rfl (v_gr (t := 12) c_113_21 kf_7_44 rfl (Nat.le_of_ble_eq_true rfl) rfl (q_iload_n c_113_24 rfl ?_))
      have h_2 := ir_12 hI2 v3
      refine v_ia (v := c2 12 v3) c_113_25 rfl (of_decide_eq_true rfl) (of_decide_eq_true rfl) ⟨hv3.1, (q_2e808647e h_1)⟩ rfl ?_
      have h_3 := ir_p3 hI hP a1
      have kn_4 : Hid (c2 (P + 3) a1 = c (P + 3) a1) := hF (P + 3) a1 (fun h => absurd h (np hP rfl rfl))
      have h_5 := ir_38 hI 30
      have kn_6 : Hid (c2 38 30 = c 38 30) := hF 38 30 (fun h => absurd h (nn rfl))
      have h_7 := fal_rng (m := c (P + 3) a1) (t := tb (c 38 30) a1) (g := v3) (x := c2 12 v3) ((q_c6ed8760d h_2))
      refine v_cv c_113_26 km_7_354 rfl rfl (Nat.le_of_ble_eq_true rfl) ⟨⟨rfl, rfl⟩, Nat.le_of_ble_eq_true rfl, rfl⟩ (Nat.le_of_ble_eq_true rfl) (Nat.le_of_ble_eq_true rfl) (s_47 (v1 := c (P + 3) a1) (v2 := c 38 30) (r := (fal (c (P + 3) a1) (tb (c 38 30) a1) v3 (c2 12 v3))) (a1 := a1) (a2 := v3) (a3 := c2 12 v3) hI2 (.inl ⟨rfl, rfl⟩) (show 0 ≤ a1 ∧ a1 ≤ 3 from ha1) (show 0 ≤ v3 ∧ v3 ≤ 3 from ⟨hv3.1, (q_482ef8d41 h_1)⟩) (show 0 ≤ c2 12 v3 ∧ c2 12 v3 ≤ 9999 from h_2) ((hid kn_4)) ((hid kn_6)) rfl (bk_inl (v_is c_113_29 rfl (of_decide_eq_true rfl) (of_decide_eq_true rfl) ⟨hv3.1, (q_2e808647e h_1)⟩ (q_iload_n c_113_30 rfl (q_aload_n c_113_31 rfl (v_gr (t := 12) c_113_32 kf_7_44 rfl (Nat.le_of_ble_eq_true rfl) rfl (q_iload_n c_113_35 rfl (v_ia (v := (fal (c (P + 3) a1) (tb (c 38 30) a1) v3 (c2 12 v3))) rfl rfl (of_decide_eq_true rfl) (of_decide_eq_true rfl) ⟨hv3.1, (q_2e808647e h_1)⟩ (up_e rfl) ?_))))))))
      refine v_iadd (v := (fal (c (P + 3) a1) (tb (c 38 30) a1) v3 (c2 12 v3)) + v2) rfl (by omega) (v_nrm (fun y_8 hy_8 => (q_istore_n c_113_38 (Nat.le_of_ble_eq_true rfl) (v_iinc (v := v3 + 1) c_113_39 rfl (Nat.le_of_ble_eq_true rfl) rfl (q_goto (t := 4) c_113_42 rfl ?_)))))
      have hI_9 := iw_12 (j := v3) (v := (fal (c (P + 3) a1) (tb (c 38 30) a1) v3 (c2 12 v3))) hI2 ⟨(q_47ff97009 h_7), (q_a579d0053 h_2 h_7)⟩
      refine Wp_ls [(0, .ref 0), (1, vi a1), (2, vi y_8), (3, vi (v3 + 1))] (lsub_cons rfl (lsub_cons rfl (lsub_cons rfl (lsub_cons rfl lsub_nil)))) ?_
      exact ih (up c2 12 v3 (fal (c (P + 3) a1) (tb (c 38 30) a1) v3 (c2 12 v3))) y_8 (v3 + 1) hI_9 (fun a j hm => (up_b (Decidable.or_iff_not_imp_left.mpr (fun h1 h2 => hm (Decidable.not_not.mp h1)))).trans (hF a j hm)) hy_8 ⟨(rgp_l hv3.1 (of_decide_eq_true rfl)), (q_121241f94 h_1)⟩ (by omega)
set_option maxRecDepth 100000 in
set_option maxHeartbeats 4000000 in
theorem s_113 {sc : List Int32} {e : Int} {d u P Q : Nat} {c : ME} {a1 : Int} {Z : AR → Prop} (hI : Iv u e P Q c) (ha1 : 0 ≤ a1 ∧ a1 ≤ 3) (K : ∀ (c2 : ME) (y : Int), Iv u e P Q c2 → (∀ (a : Nat) (j : Int), ¬ (a = 12) → c2 a j = c a j) → (-2147483648) ≤ y ∧ y ≤ 2147483647 → Z (.inl (some (vi y)), Wd P Q P P c2, 0, 0)) : Wp sc (d + 9) 113 0 [(0, .ref 0), (1, vi a1)] [] (Wd P Q P P c) 0 0 Z := by
  have hP := iv_P hI
  have hQ := iv_Q hI
  refine q_iconst c_113_0 (q_istore_n c_113_1 (Nat.le_of_ble_eq_true rfl) (q_iconst c_113_2 (q_istore_n c_113_3 (Nat.le_of_ble_eq_true rfl) (Wp_ls [(0, .ref 0), (1, vi a1), (2, vi 0), (3, vi 0)] (lsub_cons rfl (lsub_cons rfl (lsub_cons rfl (lsub_cons rfl lsub_nil)))) ?_))))
  exact (s_113_l (sc := sc) (d := d) hI ha1 K 12) c 0 0 hI (fun a j hm => rfl) ⟨of_decide_eq_true rfl, of_decide_eq_true rfl⟩ ⟨of_decide_eq_true rfl, of_decide_eq_true rfl⟩ (by omega)

