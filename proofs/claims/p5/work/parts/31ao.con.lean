/-! ===== contracts 9 ===== -/
theorem qn_4659b324a {j : Int} : ¬ (((38 : Nat) = 0 ∧ j = 12) ∨ ((38 : Nat) = 0 ∧ j = 13) ∨ (38 : Nat) = 12) := (fun q => q.elim (fun h => absurd h.1 (nn rfl)) (fun q => q.elim (fun h => absurd h.1 (nn rfl)) (fun h => absurd h (nn rfl))))
theorem qn_b39d5257d {P : Nat} {j : Int} (hP : P = 13 ∨ P = 25) : ¬ ((P = 0 ∧ j = 12) ∨ (P = 0 ∧ j = 13) ∨ P = 12) := (fun q => q.elim (fun h => absurd h.1 (np0 hP rfl)) (fun q => q.elim (fun h => absurd h.1 (np0 hP rfl)) (fun h => absurd h (np0 hP rfl))))
theorem q_ad61fcb20 {x0 : Int} (f0 : 0 ≤ x0 ∧ x0 ≤ 8) : (-2147483648) ≤ x0 := by omega
theorem q_68855c780 {x0 : Int} (f0 : 0 ≤ x0 ∧ x0 ≤ 8) : x0 ≤ 2147483647 := by omega
theorem qn_205a17438 {P : Nat} {j : Int} (hP : P = 13 ∨ P = 25) : ¬ (((P + 4) = 0 ∧ j = 12) ∨ ((P + 4) = 0 ∧ j = 13) ∨ (P + 4) = 12) := (fun q => q.elim (fun h => absurd h.1 (np hP rfl rfl)) (fun q => q.elim (fun h => absurd h.1 (np hP rfl rfl)) (fun h => absurd h (np hP rfl rfl))))
theorem q_ee9fc688f {x0 x1 : Int} (f0 : 0 ≤ x0 ∧ x0 ≤ 8) (f1 : ¬ (x1 ≥ x0)) : x1 < 8 := by omega
theorem q_d3303858b {x0 x1 : Int} (f0 : 0 ≤ x0 ∧ x0 ≤ 8) (f1 : ¬ (x1 ≥ x0)) : x1 + 1 ≤ 8 := by omega
theorem q_3500cd578 {x0 x1 x2 x3 x4 x5 x6 x7 : Int} (f0 : 0 ≤ x0 ∧ x0 ≤ 9999) (f1 : 0 ≤ x1 ∧ x1 ≤ x2) (f2 : 0 ≤ x3 ∧ x3 ≤ x4) (f3 : 0 ≤ x5 ∧ x5 ≤ x6) (f4 : 0 ≤ x7 ∧ x7 ≤ x0) (f5 : 0 ≤ x2 ∧ x2 ≤ 9999) (f6 : 0 ≤ x4 ∧ x4 ≤ 9999) (f7 : 0 ≤ x6 ∧ x6 ≤ 9999) : x1 + x3 + x5 + x7 ≤ 2147483647 := by omega
theorem q_0023c4fc8 {x0 x1 x2 x3 : Int} (f0 : ¬ (x0 + x1 + x2 + x3 ≤ 0)) : (-2147483648) ≤ x0 + x1 + x2 + x3 := by omega
theorem qn_7ba88e57e {P : Nat} {j : Int} (hP : P = 13 ∨ P = 25) : ¬ ((P = 0 ∧ j = 12) ∨ (P = 0 ∧ j = 13)) := (fun q => q.elim (fun h => absurd h.1 (np0 hP rfl)) (fun h => absurd h.1 (np0 hP rfl)))
theorem qn_6e8027b9d {P : Nat} {j : Int} (hP : P = 13 ∨ P = 25) : ¬ (((P + 3) = 0 ∧ j = 12) ∨ ((P + 3) = 0 ∧ j = 13)) := (fun q => q.elim (fun h => absurd h.1 (np hP rfl rfl)) (fun h => absurd h.1 (np hP rfl rfl)))
theorem q_591ef6fa4 {x0 x1 : Int} (f0 : (x0 = 0) ∨ (x1 ≥ 0 ∧ x1 ≤ 63)) (f1 : ¬ (x0 = 0)) : x1 ≤ 63 := by omega
theorem qn_a24b4b71d {P : Nat} (hP : P = 13 ∨ P = 25) : ¬ (P = 11 ∨ P = (P + 10) ∨ P = (P + 11)) := (fun q => q.elim (fun h => absurd h (np0 hP rfl)) (fun q => q.elim (fun h => absurd h (p0p rfl)) (fun h => absurd h (p0p rfl))))
theorem q_71a18878d {x0 x1 : Int} (f0 : 0 ≤ x0 ∧ x0 ≤ 6) (f1 : ¬ (x1 ≥ x0)) : x1 < 6 := by omega
theorem qv_448150911 {P : Nat} {a : Nat} (hm : ¬ (a = 11 ∨ a = (P + 10) ∨ a = (P + 11))) : ¬ (a = (P + 10) ∨ a = (P + 11)) := (fun q => q.elim (fun h => hm (Or.inr (Or.inl h))) (fun h => hm (Or.inr (Or.inr h))))
theorem q_8ed797edd {x0 x1 : Int} (f0 : ¬ (x0 > x1)) (f1 : 0 ≤ x1 ∧ x1 ≤ 63) : x0 + 1 ≤ 64 := by omega
theorem qv_e2e2522af {P : Nat} {a : Nat} {j : Int} (hm : ¬ ((a = 0 ∧ j = 13) ∨ a = (P + 10) ∨ a = (P + 11) ∨ a = 11)) : ¬ (a = 11 ∨ a = (P + 10) ∨ a = (P + 11)) := (fun q => q.elim (fun h => hm (Or.inr (Or.inr (Or.inr h)))) (fun q => q.elim (fun h => hm (Or.inr (Or.inl h))) (fun h => hm (Or.inr (Or.inr (Or.inl h))))))
theorem q_9f800265d {x0 x1 : Int} (f0 : 0 ≤ x0 ∧ x0 ≤ 9999) (f1 : 0 ≤ x1 ∧ x1 ≤ 10000) : (-2147483648) ≤ x1 - x0 := by omega
theorem q_547ca4f0e {x0 x1 : Int} (f0 : 0 ≤ x0 ∧ x0 ≤ 9999) (f1 : 0 ≤ x1 ∧ x1 ≤ 10000) : x1 - x0 ≤ 2147483647 := by omega
theorem q_7266516b7 {x0 : Int} (f0 : ¬ (x0 ≥ 32)) : x0 + 1 ≤ 32 := by omega
theorem q_40332f6ca {x0 x1 : Int} (f0 : 0 ≤ x0 ∧ x0 ≤ 4) (f1 : ¬ (x1 ≥ x0)) : x1 ≤ 3 := by omega
theorem q_0171b43c7 {x0 x1 : Int} (f0 : 0 ≤ x0 ∧ x0 ≤ 3) (f1 : (x1 ≤ 5)) : 4 * x1 + x0 < 24 := by omega
theorem q_06579a4a5 {x0 : Int} (f0 : (x0 ≤ 5)) : x0 ≤ 5 := by omega
theorem c_114_36 : mLk 114 36 = some (.iload 4, 2) := rfl
theorem c_114_38 : mLk 114 38 = some (.iconst 4, 1) := rfl
theorem c_114_39 : mLk 114 39 = some (.if_icmp .ge 36, 3) := rfl
theorem c_114_75 : mLk 114 75 = some (.iconst 0, 1) := rfl
theorem c_114_76 : mLk 114 76 = some (.istore 4, 2) := rfl
theorem c_114_78 : mLk 114 78 = some (.iconst 0, 1) := rfl
theorem c_114_79 : mLk 114 79 = some (.istore 5, 2) := rfl
theorem c_114_42 : mLk 114 42 = some (.aload_n 0, 1) := rfl
theorem c_114_43 : mLk 114 43 = some (.getfield 44, 3) := rfl
theorem c_114_46 : mLk 114 46 = some (.iload 4, 2) := rfl
theorem c_114_48 : mLk 114 48 = some (.aload_n 0, 1) := rfl
theorem c_114_49 : mLk 114 49 = some (.getfield 62, 3) := rfl
theorem c_114_52 : mLk 114 52 = some (.iload_n 1, 1) := rfl
theorem c_114_53 : mLk 114 53 = some (.iload 4, 2) := rfl
theorem c_114_55 : mLk 114 55 = some (.invokevirtual 196, 3) := rfl
theorem c_114_58 : mLk 114 58 = some (.iastore, 1) := rfl
theorem c_114_59 : mLk 114 59 = some (.iload_n 3, 1) := rfl
theorem c_114_60 : mLk 114 60 = some (.aload_n 0, 1) := rfl
theorem c_114_61 : mLk 114 61 = some (.getfield 44, 3) := rfl
theorem c_114_64 : mLk 114 64 = some (.iload 4, 2) := rfl
theorem c_114_66 : mLk 114 66 = some (.iaload, 1) := rfl
theorem c_114_67 : mLk 114 67 = some (.iadd, 1) := rfl
theorem c_114_68 : mLk 114 68 = some (.istore_n 3, 1) := rfl
theorem c_114_69 : mLk 114 69 = some (.iinc 4 1, 3) := rfl
theorem c_114_72 : mLk 114 72 = some (.goto (-36), 3) := rfl
theorem c_114_81 : mLk 114 81 = some (.iload 5, 2) := rfl
theorem c_114_83 : mLk 114 83 = some (.iload_n 2, 1) := rfl
theorem c_114_84 : mLk 114 84 = some (.if_icmp .gt 44, 3) := rfl
theorem c_114_128 : mLk 114 128 = some (.iload_n 2, 1) := rfl
theorem c_114_129 : mLk 114 129 = some (.aload_n 0, 1) := rfl
theorem c_114_130 : mLk 114 130 = some (.getfield 50, 3) := rfl
theorem c_114_133 : mLk 114 133 = some (.getfield 145, 3) := rfl
theorem c_114_136 : mLk 114 136 = some (.if_icmp .ne 7, 3) := rfl
theorem c_114_143 : mLk 114 143 = some (.iload 4, 2) := rfl
theorem c_114_145 : mLk 114 145 = some (.ireturn, 1) := rfl
theorem c_114_139 : mLk 114 139 = some (.iload_n 3, 1) := rfl
theorem c_114_140 : mLk 114 140 = some (.goto 5, 3) := rfl
theorem c_114_87 : mLk 114 87 = some (.iload 5, 2) := rfl
theorem c_114_89 : mLk 114 89 = some (.aload_n 0, 1) := rfl
theorem c_114_90 : mLk 114 90 = some (.getfield 50, 3) := rfl
theorem c_114_93 : mLk 114 93 = some (.getfield 145, 3) := rfl
theorem c_114_96 : mLk 114 96 = some (.if_icmp .ge 32, 3) := rfl
theorem c_114_99 : mLk 114 99 = some (.iload_n 3, 1) := rfl
theorem c_114_100 : mLk 114 100 = some (.aload_n 0, 1) := rfl
theorem c_114_101 : mLk 114 101 = some (.aload_n 0, 1) := rfl
theorem c_114_102 : mLk 114 102 = some (.getfield 50, 3) := rfl
theorem c_114_105 : mLk 114 105 = some (.getfield 253, 3) := rfl
theorem c_114_108 : mLk 114 108 = some (.iload 5, 2) := rfl
theorem c_114_110 : mLk 114 110 = some (.iaload, 1) := rfl
theorem c_114_111 : mLk 114 111 = some (.invokevirtual 256, 3) := rfl
theorem c_114_114 : mLk 114 114 = some (.isub, 1) := rfl
theorem c_114_115 : mLk 114 115 = some (.istore 4, 2) := rfl
theorem c_114_117 : mLk 114 117 = some (.iload_n 3, 1) := rfl
theorem c_114_118 : mLk 114 118 = some (.iload 4, 2) := rfl
theorem c_114_120 : mLk 114 120 = some (.isub, 1) := rfl
theorem c_114_121 : mLk 114 121 = some (.istore_n 3, 1) := rfl
theorem c_114_122 : mLk 114 122 = some (.iinc 5 1, 3) := rfl
theorem c_114_125 : mLk 114 125 = some (.goto (-44), 3) := rfl
theorem c_114_0 : mLk 114 0 = some (.aload_n 0, 1) := rfl
theorem c_114_1 : mLk 114 1 = some (.iload_n 1, 1) := rfl
theorem c_114_2 : mLk 114 2 = some (.invokevirtual 184, 3) := rfl
theorem c_114_5 : mLk 114 5 = some (.aload_n 0, 1) := rfl
theorem c_114_6 : mLk 114 6 = some (.iload_n 2, 1) := rfl
theorem c_114_7 : mLk 114 7 = some (.ifCond .lt 7, 3) := rfl
theorem c_114_14 : mLk 114 14 = some (.iconst 0, 1) := rfl
theorem c_114_15 : mLk 114 15 = some (.invokevirtual 161, 3) := rfl
theorem c_114_10 : mLk 114 10 = some (.iconst 1, 1) := rfl
theorem c_114_11 : mLk 114 11 = some (.goto 4, 3) := rfl
theorem c_114_18 : mLk 114 18 = some (.iload_n 2, 1) := rfl
theorem c_114_19 : mLk 114 19 = some (.aload_n 0, 1) := rfl
theorem c_114_20 : mLk 114 20 = some (.getfield 50, 3) := rfl
theorem c_114_23 : mLk 114 23 = some (.getfield 145, 3) := rfl
theorem c_114_26 : mLk 114 26 = some (.if_icmp .le 5, 3) := rfl
theorem c_114_31 : mLk 114 31 = some (.iconst 0, 1) := rfl
theorem c_114_32 : mLk 114 32 = some (.istore_n 3, 1) := rfl
theorem c_114_33 : mLk 114 33 = some (.iconst 0, 1) := rfl
theorem c_114_34 : mLk 114 34 = some (.istore 4, 2) := rfl
theorem c_114_29 : mLk 114 29 = some (.iconst (-1), 1) := rfl
theorem c_114_30 : mLk 114 30 = some (.ireturn, 1) := rfl
theorem c_115_9 : mLk 115 9 = some (.iload_n 3, 1) := rfl
theorem c_115_10 : mLk 115 10 = some (.aload_n 0, 1) := rfl
theorem c_115_11 : mLk 115 11 = some (.getfield 50, 3) := rfl
theorem c_115_14 : mLk 115 14 = some (.getfield 102, 3) := rfl
theorem c_115_17 : mLk 115 17 = some (.if_icmp .ge 44, 3) := rfl
theorem c_115_61 : mLk 115 61 = some (.iload_n 2, 1) := rfl
theorem c_115_62 : mLk 115 62 = some (.ireturn, 1) := rfl
theorem c_115_20 : mLk 115 20 = some (.aload_n 0, 1) := rfl
theorem c_115_21 : mLk 115 21 = some (.getfield 62, 3) := rfl
theorem c_115_24 : mLk 115 24 = some (.iload_n 3, 1) := rfl
theorem c_115_25 : mLk 115 25 = some (.invokevirtual 187, 3) := rfl
theorem c_115_28 : mLk 115 28 = some (.istore 4, 2) := rfl
theorem c_115_30 : mLk 115 30 = some (.iload 4, 2) := rfl
theorem c_115_32 : mLk 115 32 = some (.ifCond .le 23, 3) := rfl
theorem c_115_55 : mLk 115 55 = some (.iinc 3 1, 3) := rfl
theorem c_115_58 : mLk 115 58 = some (.goto (-49), 3) := rfl
theorem c_115_35 : mLk 115 35 = some (.aload_n 0, 1) := rfl
theorem c_115_36 : mLk 115 36 = some (.getfield 62, 3) := rfl
theorem c_115_39 : mLk 115 39 = some (.iload_n 1, 1) := rfl
theorem c_115_40 : mLk 115 40 = some (.iload_n 3, 1) := rfl
theorem c_115_41 : mLk 115 41 = some (.invokevirtual 246, 3) := rfl
theorem c_115_44 : mLk 115 44 = some (.iload 4, 2) := rfl
theorem c_115_46 : mLk 115 46 = some (.if_icmp .ne 9, 3) := rfl
theorem c_115_49 : mLk 115 49 = some (.iload_n 2, 1) := rfl
theorem c_115_50 : mLk 115 50 = some (.iconst 1, 1) := rfl
theorem c_115_51 : mLk 115 51 = some (.iload_n 3, 1) := rfl
theorem c_115_52 : mLk 115 52 = some (.ishl, 1) := rfl
theorem c_115_53 : mLk 115 53 = some (.ior, 1) := rfl
theorem c_115_54 : mLk 115 54 = some (.istore_n 2, 1) := rfl
theorem c_115_0 : mLk 115 0 = some (.aload_n 0, 1) := rfl
theorem c_115_1 : mLk 115 1 = some (.iload_n 1, 1) := rfl
theorem c_115_2 : mLk 115 2 = some (.invokevirtual 206, 3) := rfl
theorem c_115_5 : mLk 115 5 = some (.iconst 0, 1) := rfl
theorem c_115_6 : mLk 115 6 = some (.istore_n 2, 1) := rfl
theorem c_115_7 : mLk 115 7 = some (.iconst 0, 1) := rfl
theorem c_115_8 : mLk 115 8 = some (.istore_n 3, 1) := rfl
theorem c_116_20 : mLk 116 20 = some (.iload 4, 2) := rfl
theorem c_116_22 : mLk 116 22 = some (.aload_n 0, 1) := rfl
theorem c_116_23 : mLk 116 23 = some (.getfield 50, 3) := rfl
theorem c_116_26 : mLk 116 26 = some (.getfield 102, 3) := rfl
theorem c_116_29 : mLk 116 29 = some (.if_icmp .ge 22, 3) := rfl
theorem c_116_51 : mLk 116 51 = some (.iload_n 2, 1) := rfl
theorem c_116_52 : mLk 116 52 = some (.ifCond .ne 7, 3) := rfl
theorem c_116_59 : mLk 116 59 = some (.aload_n 0, 1) := rfl
theorem c_116_60 : mLk 116 60 = some (.getfield 62, 3) := rfl
theorem c_116_63 : mLk 116 63 = some (.invokevirtual 177, 3) := rfl
theorem c_116_66 : mLk 116 66 = some (.iload_n 3, 1) := rfl
theorem c_116_67 : mLk 116 67 = some (.isub, 1) := rfl
theorem c_116_68 : mLk 116 68 = some (.ireturn, 1) := rfl
theorem c_116_55 : mLk 116 55 = some (.iload_n 3, 1) := rfl
theorem c_116_56 : mLk 116 56 = some (.goto 12, 3) := rfl
theorem c_116_32 : mLk 116 32 = some (.iload_n 3, 1) := rfl
theorem c_116_33 : mLk 116 33 = some (.aload_n 0, 1) := rfl
theorem c_116_34 : mLk 116 34 = some (.getfield 62, 3) := rfl
theorem c_116_37 : mLk 116 37 = some (.iload_n 1, 1) := rfl
theorem c_116_38 : mLk 116 38 = some (.iload 4, 2) := rfl
theorem c_116_40 : mLk 116 40 = some (.invokevirtual 246, 3) := rfl
theorem c_116_44 : mLk 116 44 = some (.istore_n 3, 1) := rfl
theorem c_116_45 : mLk 116 45 = some (.iinc 4 1, 3) := rfl
theorem c_116_48 : mLk 116 48 = some (.goto (-28), 3) := rfl
theorem c_116_0 : mLk 116 0 = some (.aload_n 0, 1) := rfl
theorem c_116_1 : mLk 116 1 = some (.iload_n 1, 1) := rfl
theorem c_116_2 : mLk 116 2 = some (.invokevirtual 206, 3) := rfl
theorem c_116_5 : mLk 116 5 = some (.aload_n 0, 1) := rfl
theorem c_116_6 : mLk 116 6 = some (.iload_n 2, 1) := rfl
theorem c_116_7 : mLk 116 7 = some (.iconst 0, 1) := rfl
theorem c_116_8 : mLk 116 8 = some (.iconst 1, 1) := rfl
theorem c_116_9 : mLk 116 9 = some (.invokestatic 157, 3) := rfl
theorem c_116_12 : mLk 116 12 = some (.invokevirtual 161, 3) := rfl
theorem c_116_15 : mLk 116 15 = some (.iconst 0, 1) := rfl
theorem c_116_16 : mLk 116 16 = some (.istore_n 3, 1) := rfl
theorem c_116_17 : mLk 116 17 = some (.iconst 0, 1) := rfl
theorem c_116_18 : mLk 116 18 = some (.istore 4, 2) := rfl
theorem c_117_0 : mLk 117 0 = some (.iload_n 1, 1) := rfl
theorem c_117_1 : mLk 117 1 = some (.iconst 0, 1) := rfl
theorem c_117_2 : mLk 117 2 = some (.iconst 1, 1) := rfl
theorem c_117_3 : mLk 117 3 = some (.aload_n 0, 1) := rfl
theorem c_117_4 : mLk 117 4 = some (.getfield 50, 3) := rfl
theorem c_117_7 : mLk 117 7 = some (.getfield 102, 3) := rfl
theorem c_117_10 : mLk 117 10 = some (.ishl, 1) := rfl
theorem c_117_11 : mLk 117 11 = some (.iconst 1, 1) := rfl
theorem c_117_12 : mLk 117 12 = some (.isub, 1) := rfl
theorem c_117_13 : mLk 117 13 = some (.invokestatic 157, 3) := rfl
theorem c_117_16 : mLk 117 16 = some (.ireturn, 1) := rfl
theorem c_118_4 : mLk 118 4 = some (.iload_n 3, 1) := rfl
theorem c_118_5 : mLk 118 5 = some (.aload_n 0, 1) := rfl
theorem c_118_6 : mLk 118 6 = some (.getfield 50, 3) := rfl
theorem c_118_9 : mLk 118 9 = some (.getfield 102, 3) := rfl
theorem c_118_12 : mLk 118 12 = some (.if_icmp .ge 29, 3) := rfl
theorem c_118_41 : mLk 118 41 = some (.iload_n 2, 1) := rfl
theorem c_118_42 : mLk 118 42 = some (.ireturn, 1) := rfl
theorem c_118_15 : mLk 118 15 = some (.iload_n 1, 1) := rfl
theorem c_118_16 : mLk 118 16 = some (.iload_n 3, 1) := rfl
theorem c_118_17 : mLk 118 17 = some (.ishr, 1) := rfl
theorem c_118_18 : mLk 118 18 = some (.iconst 1, 1) := rfl
theorem c_118_19 : mLk 118 19 = some (.iand, 1) := rfl
theorem c_118_20 : mLk 118 20 = some (.iconst 1, 1) := rfl
theorem c_118_21 : mLk 118 21 = some (.if_icmp .ne 14, 3) := rfl
theorem c_118_35 : mLk 118 35 = some (.iinc 3 1, 3) := rfl
theorem c_118_38 : mLk 118 38 = some (.goto (-34), 3) := rfl
theorem c_118_24 : mLk 118 24 = some (.iload_n 2, 1) := rfl
theorem c_118_25 : mLk 118 25 = some (.aload_n 0, 1) := rfl
theorem c_118_26 : mLk 118 26 = some (.getfield 62, 3) := rfl
theorem c_118_29 : mLk 118 29 = some (.iload_n 3, 1) := rfl
theorem c_118_30 : mLk 118 30 = some (.invokevirtual 187, 3) := rfl
theorem c_118_33 : mLk 118 33 = some (.iadd, 1) := rfl
theorem c_118_34 : mLk 118 34 = some (.istore_n 2, 1) := rfl
theorem c_118_0 : mLk 118 0 = some (.iconst 0, 1) := rfl
theorem c_118_1 : mLk 118 1 = some (.istore_n 2, 1) := rfl
theorem c_118_2 : mLk 118 2 = some (.iconst 0, 1) := rfl
theorem c_118_3 : mLk 118 3 = some (.istore_n 3, 1) := rfl
theorem c_119_48 : mLk 119 48 = some (.iload 7, 2) := rfl
theorem c_119_50 : mLk 119 50 = some (.iload_n 1, 1) := rfl
theorem c_119_51 : mLk 119 51 = some (.if_icmp .gt 71, 3) := rfl
theorem c_119_122 : mLk 119 122 = some (.iload_n 2, 1) := rfl
theorem c_119_123 : mLk 119 123 = some (.ifCond .ne 8, 3) := rfl
theorem c_119_131 : mLk 119 131 = some (.iload 6, 2) := rfl
theorem c_119_133 : mLk 119 133 = some (.ireturn, 1) := rfl
theorem c_119_126 : mLk 119 126 = some (.iload 5, 2) := rfl
theorem c_119_128 : mLk 119 128 = some (.goto 5, 3) := rfl
theorem c_119_54 : mLk 119 54 = some (.iload 7, 2) := rfl
theorem c_119_56 : mLk 119 56 = some (.iload_n 1, 1) := rfl
theorem c_119_57 : mLk 119 57 = some (.iconst (-1), 1) := rfl
theorem c_119_58 : mLk 119 58 = some (.ixor, 1) := rfl
theorem c_119_59 : mLk 119 59 = some (.iand, 1) := rfl
theorem c_119_60 : mLk 119 60 = some (.ifCond .ne 56, 3) := rfl
theorem c_119_116 : mLk 119 116 = some (.iinc 7 1, 3) := rfl
theorem c_119_119 : mLk 119 119 = some (.goto (-71), 3) := rfl
theorem c_119_63 : mLk 119 63 = some (.iload 7, 2) := rfl
theorem c_119_65 : mLk 119 65 = some (.iload_n 3, 1) := rfl
theorem c_119_66 : mLk 119 66 = some (.iand, 1) := rfl
theorem c_119_67 : mLk 119 67 = some (.iload_n 3, 1) := rfl
theorem c_119_68 : mLk 119 68 = some (.if_icmp .ne 48, 3) := rfl
theorem c_119_71 : mLk 119 71 = some (.iload 4, 2) := rfl
theorem c_119_73 : mLk 119 73 = some (.iconst 2, 1) := rfl
theorem c_119_74 : mLk 119 74 = some (.aload_n 0, 1) := rfl
theorem c_119_75 : mLk 119 75 = some (.iload 7, 2) := rfl
theorem c_119_77 : mLk 119 77 = some (.invokevirtual 262, 3) := rfl
theorem c_119_80 : mLk 119 80 = some (.imul, 1) := rfl
theorem c_119_81 : mLk 119 81 = some (.isub, 1) := rfl
theorem c_119_82 : mLk 119 82 = some (.invokestatic 218, 3) := rfl
theorem c_119_85 : mLk 119 85 = some (.istore 8, 2) := rfl
theorem c_119_87 : mLk 119 87 = some (.iload 8, 2) := rfl
theorem c_119_89 : mLk 119 89 = some (.iload 5, 2) := rfl
theorem c_119_91 : mLk 119 91 = some (.if_icmp .lt 17, 3) := rfl
theorem c_119_108 : mLk 119 108 = some (.iload 8, 2) := rfl
theorem c_119_110 : mLk 119 110 = some (.istore 5, 2) := rfl
theorem c_119_112 : mLk 119 112 = some (.iload 7, 2) := rfl
theorem c_119_114 : mLk 119 114 = some (.istore 6, 2) := rfl
theorem c_119_94 : mLk 119 94 = some (.iload 8, 2) := rfl
theorem c_119_96 : mLk 119 96 = some (.iload 5, 2) := rfl
theorem c_119_98 : mLk 119 98 = some (.if_icmp .ne 18, 3) := rfl
theorem c_119_101 : mLk 119 101 = some (.iload 7, 2) := rfl
theorem c_119_103 : mLk 119 103 = some (.iload 6, 2) := rfl
theorem c_119_105 : mLk 119 105 = some (.if_icmp .ge 11, 3) := rfl
theorem c_119_0 : mLk 119 0 = some (.aload_n 0, 1) := rfl
theorem c_119_1 : mLk 119 1 = some (.aload_n 0, 1) := rfl
theorem c_119_2 : mLk 119 2 = some (.iload_n 1, 1) := rfl
theorem c_119_3 : mLk 119 3 = some (.invokevirtual 259, 3) := rfl
theorem c_119_6 : mLk 119 6 = some (.ifCond .eq 16, 3) := rfl
theorem c_119_22 : mLk 119 22 = some (.iconst 0, 1) := rfl
theorem c_119_23 : mLk 119 23 = some (.invokevirtual 161, 3) := rfl
theorem c_119_9 : mLk 119 9 = some (.iload_n 2, 1) := rfl
theorem c_119_10 : mLk 119 10 = some (.iconst 0, 1) := rfl
theorem c_119_11 : mLk 119 11 = some (.iconst 1, 1) := rfl
theorem c_119_12 : mLk 119 12 = some (.invokestatic 157, 3) := rfl
theorem c_119_15 : mLk 119 15 = some (.ifCond .eq 7, 3) := rfl
theorem c_119_18 : mLk 119 18 = some (.iconst 1, 1) := rfl
theorem c_119_19 : mLk 119 19 = some (.goto 4, 3) := rfl
theorem c_119_26 : mLk 119 26 = some (.iload_n 1, 1) := rfl
theorem c_119_27 : mLk 119 27 = some (.iload_n 1, 1) := rfl
theorem c_119_28 : mLk 119 28 = some (.ineg, 1) := rfl
theorem c_119_29 : mLk 119 29 = some (.iand, 1) := rfl
theorem c_119_30 : mLk 119 30 = some (.istore_n 3, 1) := rfl
theorem c_119_31 : mLk 119 31 = some (.aload_n 0, 1) := rfl
theorem c_119_32 : mLk 119 32 = some (.iload_n 1, 1) := rfl
theorem c_119_33 : mLk 119 33 = some (.invokevirtual 262, 3) := rfl
theorem c_119_36 : mLk 119 36 = some (.istore 4, 2) := rfl
theorem c_119_38 : mLk 119 38 = some (.iload 4, 2) := rfl
theorem c_119_40 : mLk 119 40 = some (.istore 5, 2) := rfl
theorem c_119_42 : mLk 119 42 = some (.iload_n 1, 1) := rfl
theorem c_119_43 : mLk 119 43 = some (.istore 6, 2) := rfl
theorem c_119_45 : mLk 119 45 = some (.iconst 0, 1) := rfl
theorem c_119_46 : mLk 119 46 = some (.istore 7, 2) := rfl
theorem c_120_2 : mLk 120 2 = some (.iload_n 1, 1) := rfl
theorem c_120_3 : mLk 120 3 = some (.aload_n 0, 1) := rfl
theorem c_120_4 : mLk 120 4 = some (.getfield 50, 3) := rfl
theorem c_120_7 : mLk 120 7 = some (.getfield 102, 3) := rfl
theorem c_120_10 : mLk 120 10 = some (.if_icmp .ge 23, 3) := rfl
theorem c_120_13 : mLk 120 13 = some (.aload_n 0, 1) := rfl
theorem c_120_14 : mLk 120 14 = some (.getfield 41, 3) := rfl
theorem c_120_17 : mLk 120 17 = some (.iload_n 1, 1) := rfl
theorem c_120_18 : mLk 120 18 = some (.aload_n 0, 1) := rfl
theorem c_120_19 : mLk 120 19 = some (.getfield 62, 3) := rfl
theorem c_120_22 : mLk 120 22 = some (.iload_n 1, 1) := rfl
theorem c_120_23 : mLk 120 23 = some (.invokevirtual 223, 3) := rfl
theorem c_120_26 : mLk 120 26 = some (.iastore, 1) := rfl
theorem c_120_27 : mLk 120 27 = some (.iinc 1 1, 3) := rfl
theorem c_120_30 : mLk 120 30 = some (.goto (-28), 3) := rfl
theorem c_120_0 : mLk 120 0 = some (.iconst 0, 1) := rfl
theorem c_120_1 : mLk 120 1 = some (.istore_n 1, 1) := rfl
theorem c_121_4 : mLk 121 4 = some (.iload_n 3, 1) := rfl
theorem c_121_5 : mLk 121 5 = some (.aload_n 0, 1) := rfl
theorem c_121_6 : mLk 121 6 = some (.getfield 50, 3) := rfl
theorem c_121_9 : mLk 121 9 = some (.getfield 102, 3) := rfl
theorem c_121_12 : mLk 121 12 = some (.if_icmp .ge 27, 3) := rfl
theorem c_121_39 : mLk 121 39 = some (.iload_n 2, 1) := rfl
theorem c_121_40 : mLk 121 40 = some (.ireturn, 1) := rfl
theorem c_121_15 : mLk 121 15 = some (.iload_n 1, 1) := rfl
theorem c_121_16 : mLk 121 16 = some (.iload_n 3, 1) := rfl
theorem c_121_17 : mLk 121 17 = some (.ishr, 1) := rfl
theorem c_121_18 : mLk 121 18 = some (.iconst 1, 1) := rfl
theorem c_121_19 : mLk 121 19 = some (.iand, 1) := rfl
theorem c_121_20 : mLk 121 20 = some (.iconst 1, 1) := rfl
theorem c_121_21 : mLk 121 21 = some (.if_icmp .ne 12, 3) := rfl
theorem c_121_33 : mLk 121 33 = some (.iinc 3 1, 3) := rfl
theorem c_121_36 : mLk 121 36 = some (.goto (-32), 3) := rfl
theorem c_121_24 : mLk 121 24 = some (.iload_n 2, 1) := rfl
theorem c_121_25 : mLk 121 25 = some (.aload_n 0, 1) := rfl
theorem c_121_26 : mLk 121 26 = some (.getfield 41, 3) := rfl
theorem c_121_29 : mLk 121 29 = some (.iload_n 3, 1) := rfl
theorem c_121_30 : mLk 121 30 = some (.iaload, 1) := rfl
theorem c_121_31 : mLk 121 31 = some (.iadd, 1) := rfl
theorem c_121_32 : mLk 121 32 = some (.istore_n 2, 1) := rfl
theorem c_121_0 : mLk 121 0 = some (.iconst 0, 1) := rfl
theorem c_121_1 : mLk 121 1 = some (.istore_n 2, 1) := rfl
theorem c_121_2 : mLk 121 2 = some (.iconst 0, 1) := rfl
theorem c_121_3 : mLk 121 3 = some (.istore_n 3, 1) := rfl
theorem c_122_0 : mLk 122 0 = some (.aload_n 0, 1) := rfl
theorem c_122_1 : mLk 122 1 = some (.iload_n 1, 1) := rfl
theorem c_122_2 : mLk 122 2 = some (.invokevirtual 272, 3) := rfl
theorem c_122_5 : mLk 122 5 = some (.aload_n 0, 1) := rfl
theorem c_122_6 : mLk 122 6 = some (.iload_n 2, 1) := rfl
theorem c_122_7 : mLk 122 7 = some (.invokevirtual 272, 3) := rfl
theorem c_122_10 : mLk 122 10 = some (.isub, 1) := rfl
theorem c_122_11 : mLk 122 11 = some (.istore_n 3, 1) := rfl
theorem c_122_12 : mLk 122 12 = some (.iload_n 3, 1) := rfl
theorem c_122_13 : mLk 122 13 = some (.ifCond .gt 20, 3) := rfl
theorem c_122_33 : mLk 122 33 = some (.iconst 1, 1) := rfl
theorem c_122_34 : mLk 122 34 = some (.goto 4, 3) := rfl
theorem c_122_38 : mLk 122 38 = some (.ireturn, 1) := rfl
theorem c_122_16 : mLk 122 16 = some (.iload_n 3, 1) := rfl
theorem c_122_17 : mLk 122 17 = some (.ifCond .ne 20, 3) := rfl
theorem c_122_37 : mLk 122 37 = some (.iconst 0, 1) := rfl
theorem c_122_20 : mLk 122 20 = some (.aload_n 0, 1) := rfl
theorem c_122_21 : mLk 122 21 = some (.iload_n 1, 1) := rfl
theorem c_122_22 : mLk 122 22 = some (.invokevirtual 262, 3) := rfl
theorem c_122_25 : mLk 122 25 = some (.aload_n 0, 1) := rfl
theorem c_122_26 : mLk 122 26 = some (.iload_n 2, 1) := rfl
theorem c_122_27 : mLk 122 27 = some (.invokevirtual 262, 3) := rfl
theorem c_122_30 : mLk 122 30 = some (.if_icmp .ge 7, 3) := rfl
theorem c_123_60 : mLk 123 60 = some (.iload 6, 2) := rfl
theorem c_123_62 : mLk 123 62 = some (.iload 4, 2) := rfl
theorem c_123_64 : mLk 123 64 = some (.if_icmp .gt 44, 3) := rfl
theorem c_123_108 : mLk 123 108 = some (.iload_n 3, 1) := rfl
theorem c_123_109 : mLk 123 109 = some (.lookupswitch 41 #[(0, 27), (1, 34)], 27) := rfl
theorem c_123_136 : mLk 123 136 = some (.aload_n 0, 1) := rfl
theorem c_123_137 : mLk 123 137 = some (.iload 5, 2) := rfl
theorem c_123_139 : mLk 123 139 = some (.invokevirtual 272, 3) := rfl
theorem c_123_142 : mLk 123 142 = some (.ireturn, 1) := rfl
theorem c_123_143 : mLk 123 143 = some (.aload_n 0, 1) := rfl
theorem c_123_144 : mLk 123 144 = some (.iload 5, 2) := rfl
theorem c_123_146 : mLk 123 146 = some (.invokevirtual 262, 3) := rfl
theorem c_123_149 : mLk 123 149 = some (.ireturn, 1) := rfl
theorem c_123_150 : mLk 123 150 = some (.iload 5, 2) := rfl
theorem c_123_152 : mLk 123 152 = some (.ireturn, 1) := rfl
theorem c_123_67 : mLk 123 67 = some (.iload 6, 2) := rfl
theorem c_123_69 : mLk 123 69 = some (.iload 4, 2) := rfl
theorem c_123_71 : mLk 123 71 = some (.iconst (-1), 1) := rfl
theorem c_123_72 : mLk 123 72 = some (.ixor, 1) := rfl
theorem c_123_73 : mLk 123 73 = some (.iand, 1) := rfl
theorem c_123_74 : mLk 123 74 = some (.ifCond .ne 28, 3) := rfl
theorem c_123_102 : mLk 123 102 = some (.iinc 6 1, 3) := rfl
theorem c_123_105 : mLk 123 105 = some (.goto (-45), 3) := rfl
theorem c_123_77 : mLk 123 77 = some (.aload_n 0, 1) := rfl
theorem c_123_78 : mLk 123 78 = some (.iload 6, 2) := rfl
theorem c_123_80 : mLk 123 80 = some (.invokevirtual 262, 3) := rfl
theorem c_123_83 : mLk 123 83 = some (.iload_n 2, 1) := rfl
theorem c_123_84 : mLk 123 84 = some (.if_icmp .gt 18, 3) := rfl
theorem c_123_87 : mLk 123 87 = some (.aload_n 0, 1) := rfl
theorem c_123_88 : mLk 123 88 = some (.iload 6, 2) := rfl
theorem c_123_90 : mLk 123 90 = some (.iload 5, 2) := rfl
theorem c_123_92 : mLk 123 92 = some (.invokevirtual 269, 3) := rfl
theorem c_123_95 : mLk 123 95 = some (.ifCond .eq 7, 3) := rfl
theorem c_123_98 : mLk 123 98 = some (.iload 6, 2) := rfl
theorem c_123_100 : mLk 123 100 = some (.istore 5, 2) := rfl
theorem c_123_0 : mLk 123 0 = some (.aload_n 0, 1) := rfl
theorem c_123_1 : mLk 123 1 = some (.aload_n 0, 1) := rfl
theorem c_123_2 : mLk 123 2 = some (.iload_n 1, 1) := rfl
theorem c_123_3 : mLk 123 3 = some (.invokevirtual 259, 3) := rfl
theorem c_123_6 : mLk 123 6 = some (.ifCond .eq 27, 3) := rfl
theorem c_123_33 : mLk 123 33 = some (.iconst 0, 1) := rfl
theorem c_123_34 : mLk 123 34 = some (.invokevirtual 161, 3) := rfl
theorem c_123_9 : mLk 123 9 = some (.iload_n 2, 1) := rfl
theorem c_123_10 : mLk 123 10 = some (.iconst 0, 1) := rfl
theorem c_123_11 : mLk 123 11 = some (.ldc_w 265, 3) := rfl
theorem c_123_14 : mLk 123 14 = some (.invokestatic 157, 3) := rfl
theorem c_123_17 : mLk 123 17 = some (.ifCond .eq 16, 3) := rfl
theorem c_123_20 : mLk 123 20 = some (.iload_n 3, 1) := rfl
theorem c_123_21 : mLk 123 21 = some (.iconst 0, 1) := rfl
theorem c_123_22 : mLk 123 22 = some (.iconst 2, 1) := rfl
theorem c_123_23 : mLk 123 23 = some (.invokestatic 157, 3) := rfl
theorem c_123_26 : mLk 123 26 = some (.ifCond .eq 7, 3) := rfl
theorem c_123_29 : mLk 123 29 = some (.iconst 1, 1) := rfl
theorem c_123_30 : mLk 123 30 = some (.goto 4, 3) := rfl
theorem c_123_37 : mLk 123 37 = some (.iload_n 1, 1) := rfl
theorem c_123_38 : mLk 123 38 = some (.aload_n 0, 1) := rfl
theorem c_123_39 : mLk 123 39 = some (.getfield 62, 3) := rfl
theorem c_123_42 : mLk 123 42 = some (.invokevirtual 181, 3) := rfl
theorem c_123_45 : mLk 123 45 = some (.iconst (-1), 1) := rfl
theorem c_123_46 : mLk 123 46 = some (.ixor, 1) := rfl
theorem c_123_47 : mLk 123 47 = some (.iand, 1) := rfl
theorem c_123_48 : mLk 123 48 = some (.istore 4, 2) := rfl
theorem c_123_50 : mLk 123 50 = some (.aload_n 0, 1) := rfl
theorem c_123_51 : mLk 123 51 = some (.invokevirtual 266, 3) := rfl
theorem c_123_54 : mLk 123 54 = some (.iconst 0, 1) := rfl
theorem c_123_55 : mLk 123 55 = some (.istore 5, 2) := rfl
theorem c_123_57 : mLk 123 57 = some (.iconst 1, 1) := rfl
theorem c_123_58 : mLk 123 58 = some (.istore 6, 2) := rfl
theorem c_124_5 : mLk 124 5 = some (.iload 4, 2) := rfl
theorem c_124_7 : mLk 124 7 = some (.aload_n 0, 1) := rfl
theorem c_124_8 : mLk 124 8 = some (.getfield 50, 3) := rfl
theorem c_124_11 : mLk 124 11 = some (.getfield 102, 3) := rfl
theorem c_124_14 : mLk 124 14 = some (.if_icmp .ge 35, 3) := rfl
theorem c_124_49 : mLk 124 49 = some (.iload_n 3, 1) := rfl
theorem c_124_50 : mLk 124 50 = some (.ireturn, 1) := rfl
theorem c_124_17 : mLk 124 17 = some (.iload_n 1, 1) := rfl
theorem c_124_18 : mLk 124 18 = some (.iload 4, 2) := rfl
theorem c_124_20 : mLk 124 20 = some (.ishr, 1) := rfl
theorem c_124_21 : mLk 124 21 = some (.iconst 1, 1) := rfl
theorem c_124_22 : mLk 124 22 = some (.iand, 1) := rfl
theorem c_124_23 : mLk 124 23 = some (.iconst 1, 1) := rfl
theorem c_124_24 : mLk 124 24 = some (.if_icmp .ne 19, 3) := rfl
theorem c_124_43 : mLk 124 43 = some (.iinc 4 1, 3) := rfl
theorem c_124_46 : mLk 124 46 = some (.goto (-41), 3) := rfl
theorem c_124_27 : mLk 124 27 = some (.iload_n 3, 1) := rfl
theorem c_124_28 : mLk 124 28 = some (.aload_n 0, 1) := rfl
theorem c_124_29 : mLk 124 29 = some (.getfield 62, 3) := rfl
theorem c_124_32 : mLk 124 32 = some (.iload 4, 2) := rfl
theorem c_124_34 : mLk 124 34 = some (.invokevirtual 187, 3) := rfl
theorem c_124_37 : mLk 124 37 = some (.iload_n 2, 1) := rfl
theorem c_124_38 : mLk 124 38 = some (.invokestatic 278, 3) := rfl
theorem c_124_41 : mLk 124 41 = some (.iadd, 1) := rfl
theorem c_124_42 : mLk 124 42 = some (.istore_n 3, 1) := rfl
theorem c_124_0 : mLk 124 0 = some (.iconst 0, 1) := rfl
theorem c_124_1 : mLk 124 1 = some (.istore_n 3, 1) := rfl
theorem c_124_2 : mLk 124 2 = some (.iconst 0, 1) := rfl
theorem c_124_3 : mLk 124 3 = some (.istore 4, 2) := rfl
theorem c_125_54 : mLk 125 54 = some (.iload 6, 2) := rfl
theorem c_125_56 : mLk 125 56 = some (.bipush 32, 2) := rfl
theorem c_125_58 : mLk 125 58 = some (.if_icmp .ge 49, 3) := rfl
theorem c_125_107 : mLk 125 107 = some (.aload_n 0, 1) := rfl
theorem c_125_108 : mLk 125 108 = some (.getfield 62, 3) := rfl
theorem c_125_111 : mLk 125 111 = some (.iload_n 1, 1) := rfl
theorem c_125_112 : mLk 125 112 = some (.invokevirtual 187, 3) := rfl
theorem c_125_115 : mLk 125 115 = some (.iload 4, 2) := rfl
theorem c_125_117 : mLk 125 117 = some (.invokestatic 278, 3) := rfl
theorem c_125_120 : mLk 125 120 = some (.ireturn, 1) := rfl
theorem c_125_61 : mLk 125 61 = some (.iload 5, 2) := rfl
theorem c_125_63 : mLk 125 63 = some (.iload 4, 2) := rfl
theorem c_125_65 : mLk 125 65 = some (.isub, 1) := rfl
theorem c_125_66 : mLk 125 66 = some (.iconst 1, 1) := rfl
theorem c_125_67 : mLk 125 67 = some (.if_icmp .le 40, 3) := rfl
theorem c_125_70 : mLk 125 70 = some (.iload 4, 2) := rfl
theorem c_125_72 : mLk 125 72 = some (.iload 5, 2) := rfl
theorem c_125_74 : mLk 125 74 = some (.iadd, 1) := rfl
theorem c_125_75 : mLk 125 75 = some (.iconst 2, 1) := rfl
theorem c_125_76 : mLk 125 76 = some (.idiv, 1) := rfl
theorem c_125_77 : mLk 125 77 = some (.istore 7, 2) := rfl
theorem c_125_79 : mLk 125 79 = some (.aload_n 0, 1) := rfl
theorem c_125_80 : mLk 125 80 = some (.iload_n 2, 1) := rfl
theorem c_125_81 : mLk 125 81 = some (.iload 7, 2) := rfl
theorem c_125_83 : mLk 125 83 = some (.invokevirtual 275, 3) := rfl
theorem c_125_86 : mLk 125 86 = some (.iload_n 3, 1) := rfl
theorem c_125_87 : mLk 125 87 = some (.if_icmp .gt 10, 3) := rfl
theorem c_125_97 : mLk 125 97 = some (.iload 7, 2) := rfl
theorem c_125_99 : mLk 125 99 = some (.istore 5, 2) := rfl
theorem c_125_101 : mLk 125 101 = some (.iinc 6 1, 3) := rfl
theorem c_125_104 : mLk 125 104 = some (.goto (-50), 3) := rfl
theorem c_125_90 : mLk 125 90 = some (.iload 7, 2) := rfl
theorem c_125_92 : mLk 125 92 = some (.istore 4, 2) := rfl
theorem c_125_94 : mLk 125 94 = some (.goto 7, 3) := rfl
theorem c_125_0 : mLk 125 0 = some (.aload_n 0, 1) := rfl
theorem c_125_1 : mLk 125 1 = some (.iload_n 1, 1) := rfl
theorem c_125_2 : mLk 125 2 = some (.invokevirtual 184, 3) := rfl
theorem c_125_5 : mLk 125 5 = some (.aload_n 0, 1) := rfl
theorem c_125_6 : mLk 125 6 = some (.aload_n 0, 1) := rfl
theorem c_125_7 : mLk 125 7 = some (.iload_n 2, 1) := rfl
theorem c_125_8 : mLk 125 8 = some (.invokevirtual 259, 3) := rfl
theorem c_125_11 : mLk 125 11 = some (.ifCond .eq 18, 3) := rfl
theorem c_125_29 : mLk 125 29 = some (.iconst 0, 1) := rfl
theorem c_125_30 : mLk 125 30 = some (.invokevirtual 161, 3) := rfl
theorem c_125_14 : mLk 125 14 = some (.iload_n 3, 1) := rfl
theorem c_125_15 : mLk 125 15 = some (.iconst 0, 1) := rfl
theorem c_125_16 : mLk 125 16 = some (.ldc_w 265, 3) := rfl
theorem c_125_19 : mLk 125 19 = some (.invokestatic 157, 3) := rfl
theorem c_125_22 : mLk 125 22 = some (.ifCond .eq 7, 3) := rfl
theorem c_125_25 : mLk 125 25 = some (.iconst 1, 1) := rfl
theorem c_125_26 : mLk 125 26 = some (.goto 4, 3) := rfl
theorem c_125_33 : mLk 125 33 = some (.iload_n 2, 1) := rfl
theorem c_125_34 : mLk 125 34 = some (.iload_n 1, 1) := rfl
theorem c_125_35 : mLk 125 35 = some (.ishr, 1) := rfl
theorem c_125_36 : mLk 125 36 = some (.iconst 1, 1) := rfl
theorem c_125_37 : mLk 125 37 = some (.iand, 1) := rfl
theorem c_125_38 : mLk 125 38 = some (.ifCond .ne 5, 3) := rfl
theorem c_125_43 : mLk 125 43 = some (.iconst 0, 1) := rfl
theorem c_125_44 : mLk 125 44 = some (.istore 4, 2) := rfl
theorem c_125_46 : mLk 125 46 = some (.sipush 10000, 3) := rfl
theorem c_125_49 : mLk 125 49 = some (.istore 5, 2) := rfl
theorem c_125_51 : mLk 125 51 = some (.iconst 0, 1) := rfl
theorem c_125_52 : mLk 125 52 = some (.istore 6, 2) := rfl
theorem c_125_41 : mLk 125 41 = some (.iconst 0, 1) := rfl
theorem c_125_42 : mLk 125 42 = some (.ireturn, 1) := rfl
theorem c_126_2 : mLk 126 2 = some (.iload_n 3, 1) := rfl
theorem c_126_3 : mLk 126 3 = some (.iconst 4, 1) := rfl
theorem c_126_4 : mLk 126 4 = some (.if_icmp .ge 43, 3) := rfl
theorem c_126_47 : mLk 126 47 = some (.iconst 1, 1) := rfl
theorem c_126_48 : mLk 126 48 = some (.ireturn, 1) := rfl
theorem c_126_7 : mLk 126 7 = some (.aload_n 0, 1) := rfl
theorem c_126_8 : mLk 126 8 = some (.getfield 50, 3) := rfl
theorem c_126_11 : mLk 126 11 = some (.getfield 284, 3) := rfl
theorem c_126_14 : mLk 126 14 = some (.iload_n 3, 1) := rfl
theorem c_126_15 : mLk 126 15 = some (.iaload, 1) := rfl
theorem c_126_16 : mLk 126 16 = some (.istore 4, 2) := rfl
theorem c_126_18 : mLk 126 18 = some (.iload 4, 2) := rfl
theorem c_126_20 : mLk 126 20 = some (.iconst (-1), 1) := rfl
theorem c_126_21 : mLk 126 21 = some (.if_icmp .eq 20, 3) := rfl
theorem c_126_41 : mLk 126 41 = some (.iinc 3 1, 3) := rfl
theorem c_126_44 : mLk 126 44 = some (.goto (-42), 3) := rfl
theorem c_126_24 : mLk 126 24 = some (.iload 4, 2) := rfl
theorem c_126_26 : mLk 126 26 = some (.aload_n 0, 1) := rfl
theorem c_126_27 : mLk 126 27 = some (.getfield 62, 3) := rfl
theorem c_126_30 : mLk 126 30 = some (.iload_n 1, 1) := rfl
theorem c_126_31 : mLk 126 31 = some (.iload_n 2, 1) := rfl
theorem c_126_32 : mLk 126 32 = some (.iload_n 3, 1) := rfl
theorem c_126_33 : mLk 126 33 = some (.invokevirtual 249, 3) := rfl
theorem c_126_36 : mLk 126 36 = some (.if_icmp .eq 5, 3) := rfl
theorem c_126_39 : mLk 126 39 = some (.iconst 0, 1) := rfl
theorem c_126_40 : mLk 126 40 = some (.ireturn, 1) := rfl
theorem c_126_0 : mLk 126 0 = some (.iconst 0, 1) := rfl
theorem c_126_1 : mLk 126 1 = some (.istore_n 3, 1) := rfl
theorem c_127_4 : mLk 127 4 = some (.iload_n 2, 1) := rfl
theorem c_127_5 : mLk 127 5 = some (.aload_n 0, 1) := rfl
theorem c_127_6 : mLk 127 6 = some (.getfield 50, 3) := rfl
theorem c_127_9 : mLk 127 9 = some (.getfield 168, 3) := rfl
theorem c_127_12 : mLk 127 12 = some (.if_icmp .ge 63, 3) := rfl
theorem c_127_75 : mLk 127 75 = some (.iload_n 1, 1) := rfl
theorem c_127_76 : mLk 127 76 = some (.ireturn, 1) := rfl
theorem c_127_15 : mLk 127 15 = some (.iconst 0, 1) := rfl
theorem c_127_16 : mLk 127 16 = some (.istore_n 3, 1) := rfl
theorem c_127_17 : mLk 127 17 = some (.iload_n 3, 1) := rfl
theorem c_127_18 : mLk 127 18 = some (.aload_n 0, 1) := rfl
theorem c_127_19 : mLk 127 19 = some (.getfield 50, 3) := rfl
theorem c_127_22 : mLk 127 22 = some (.getfield 102, 3) := rfl
theorem c_127_25 : mLk 127 25 = some (.if_icmp .ge 44, 3) := rfl
theorem c_127_69 : mLk 127 69 = some (.iinc 2 1, 3) := rfl
theorem c_127_72 : mLk 127 72 = some (.goto (-68), 3) := rfl
theorem c_127_28 : mLk 127 28 = some (.aload_n 0, 1) := rfl
theorem c_127_29 : mLk 127 29 = some (.getfield 62, 3) := rfl
theorem c_127_32 : mLk 127 32 = some (.iload_n 3, 1) := rfl
theorem c_127_33 : mLk 127 33 = some (.invokevirtual 187, 3) := rfl
theorem c_127_36 : mLk 127 36 = some (.ifCond .le 27, 3) := rfl
theorem c_127_63 : mLk 127 63 = some (.iinc 3 1, 3) := rfl
theorem c_127_66 : mLk 127 66 = some (.goto (-49), 3) := rfl
theorem c_127_39 : mLk 127 39 = some (.aload_n 0, 1) := rfl
theorem c_127_40 : mLk 127 40 = some (.iload_n 2, 1) := rfl
theorem c_127_41 : mLk 127 41 = some (.iload_n 3, 1) := rfl
theorem c_127_42 : mLk 127 42 = some (.invokevirtual 357, 3) := rfl
theorem c_127_45 : mLk 127 45 = some (.ifCond .eq 18, 3) := rfl
theorem c_127_48 : mLk 127 48 = some (.aload_n 0, 1) := rfl
theorem c_127_49 : mLk 127 49 = some (.getfield 37, 3) := rfl
theorem c_127_52 : mLk 127 52 = some (.iload_n 1, 1) := rfl
theorem c_127_53 : mLk 127 53 = some (.bipush 10, 2) := rfl
theorem c_127_55 : mLk 127 55 = some (.iload_n 2, 1) := rfl
theorem c_127_56 : mLk 127 56 = some (.imul, 1) := rfl
theorem c_127_57 : mLk 127 57 = some (.iload_n 3, 1) := rfl
theorem c_127_58 : mLk 127 58 = some (.iadd, 1) := rfl
theorem c_127_59 : mLk 127 59 = some (.iastore, 1) := rfl
theorem c_127_60 : mLk 127 60 = some (.iinc 1 1, 3) := rfl
theorem c_127_0 : mLk 127 0 = some (.iconst 0, 1) := rfl
theorem c_127_1 : mLk 127 1 = some (.istore_n 1, 1) := rfl
theorem c_127_2 : mLk 127 2 = some (.iconst 0, 1) := rfl
theorem c_127_3 : mLk 127 3 = some (.istore_n 2, 1) := rfl
theorem c_128_0 : mLk 128 0 = some (.aload_n 0, 1) := rfl
theorem c_128_1 : mLk 128 1 = some (.iload_n 1, 1) := rfl
theorem c_128_2 : mLk 128 2 = some (.iconst 0, 1) := rfl
theorem c_128_3 : mLk 128 3 = some (.iconst 1, 1) := rfl
theorem c_128_4 : mLk 128 4 = some (.invokestatic 157, 3) := rfl
theorem c_128_7 : mLk 128 7 = some (.invokevirtual 161, 3) := rfl
theorem c_128_10 : mLk 128 10 = some (.aload_n 0, 1) := rfl
theorem c_128_11 : mLk 128 11 = some (.invokevirtual 281, 3) := rfl
theorem c_128_14 : mLk 128 14 = some (.istore_n 2, 1) := rfl
theorem c_128_15 : mLk 128 15 = some (.iload_n 1, 1) := rfl
theorem c_128_16 : mLk 128 16 = some (.ifCond .ne 5, 3) := rfl
theorem c_128_21 : mLk 128 21 = some (.iload_n 2, 1) := rfl
theorem c_128_22 : mLk 128 22 = some (.ifCond .le 12, 3) := rfl
theorem c_128_34 : mLk 128 34 = some (.iconst (-1), 1) := rfl
theorem c_128_35 : mLk 128 35 = some (.ireturn, 1) := rfl
theorem c_128_25 : mLk 128 25 = some (.aload_n 0, 1) := rfl
theorem c_128_26 : mLk 128 26 = some (.getfield 37, 3) := rfl
theorem c_128_29 : mLk 128 29 = some (.iconst 0, 1) := rfl
theorem c_128_30 : mLk 128 30 = some (.iaload, 1) := rfl
theorem c_128_31 : mLk 128 31 = some (.goto 4, 3) := rfl
theorem c_128_19 : mLk 128 19 = some (.iload_n 2, 1) := rfl
theorem c_128_20 : mLk 128 20 = some (.ireturn, 1) := rfl
theorem c_129_0 : mLk 129 0 = some (.aload_n 0, 1) := rfl
theorem c_129_1 : mLk 129 1 = some (.getfield 62, 3) := rfl
theorem c_129_4 : mLk 129 4 = some (.iload_n 1, 1) := rfl
theorem c_129_5 : mLk 129 5 = some (.bipush 10, 2) := rfl
theorem c_129_7 : mLk 129 7 = some (.idiv, 1) := rfl
theorem c_129_8 : mLk 129 8 = some (.iload_n 1, 1) := rfl
theorem c_129_9 : mLk 129 9 = some (.bipush 10, 2) := rfl
theorem c_129_11 : mLk 129 11 = some (.irem, 1) := rfl
theorem c_129_12 : mLk 129 12 = some (.iload_n 2, 1) := rfl
theorem c_129_13 : mLk 129 13 = some (.invokevirtual 249, 3) := rfl
theorem c_129_16 : mLk 129 16 = some (.ireturn, 1) := rfl
theorem kf_7_253 : a_lk (kF 7) 253 = some (2, 9) := rfl
theorem kf_7_284 : a_lk (kF 7) 284 = some (2, 11) := rfl
theorem kf_7_37 : a_lk (kF 7) 37 = some (7, 4) := rfl
theorem kf_7_41 : a_lk (kF 7) 41 = some (7, 5) := rfl
theorem km_7_256 : a_lk (kM 7) 256 = some (0, 113) := rfl
theorem km_7_259 : a_lk (kM 7) 259 = some (0, 117) := rfl
theorem km_7_262 : a_lk (kM 7) 262 = some (0, 118) := rfl
theorem km_7_266 : a_lk (kM 7) 266 = some (0, 120) := rfl
theorem km_7_269 : a_lk (kM 7) 269 = some (0, 122) := rfl
theorem km_7_272 : a_lk (kM 7) 272 = some (0, 121) := rfl
theorem km_7_275 : a_lk (kM 7) 275 = some (0, 124) := rfl
theorem km_7_281 : a_lk (kM 7) 281 = some (0, 127) := rfl
theorem km_7_357 : a_lk (kM 7) 357 = some (0, 126) := rfl
set_option maxRecDepth 100000 in
set_option maxHeartbeats 4000000 in
theorem s_114_l {sc : List Int32} {e : Int} {d u P Q : Nat} {c : ME} {a1 : Int} {a2 : Int} {Z : AR → Prop} (hI : Iv u e P Q c) (ha1 : (-2147483648) ≤ a1 ∧ a1 ≤ 2147483647) (ha2 : (-2147483648) ≤ a2 ∧ a2 ≤ 2147483647) (T100 : ∀ c2 : ME, Iv u e P Q c2 → (∀ (a : Nat) (j : Int), ¬ ((a = 0 ∧ j = 12) ∨ (a = 0 ∧ j = 13) ∨ a = 12) → c2 a j = c a j) → Z (.inr 100, Wd P Q P P c2, 1, 6)) (T101 : ∀ c2 : ME, Iv u e P Q c2 → (∀ (a : Nat) (j : Int), ¬ ((a = 0 ∧ j = 12) ∨ (a = 0 ∧ j = 13) ∨ a = 12) → c2 a j = c a j) → Z (.inr 101, Wd P Q P P c2, 1, 6)) (K : ∀ (c2 : ME) (y : Int), Iv u e P Q c2 → (∀ (a : Nat) (j : Int), ¬ ((a = 0 ∧ j = 12) ∨ (a = 0 ∧ j = 13) ∨ a = 12) → c2 a j = c a j) → (-2147483648) ≤ y ∧ y ≤ 2147483647 → Z (.inl (some (vi y)), Wd P Q P P c2, 0, 0)) : ∀ n : Nat, (∀ (c2 : ME) (v3 : Int) (v4 : Int), Iv u e P Q c2 → (∀ (a : Nat) (j : Int), ¬ ((a = 0 ∧ j = 12) ∨ (a = 0 ∧ j = 13) ∨ a = 12) → c2 a j = c a j) → (-2147483648) ≤ v3 ∧ v3 ≤ 2147483647 → 0 ≤ v4 ∧ v4 ≤ 4 → ((a1 ≥ 0 ∧ a1 ≤ 5)) → 28 - 2 * v4 < (n : Int) → Wp sc (d + 10) 114 36 [(0, .ref 0), (1, vi a1), (2, vi a2), (3, vi v3), (4, vi v4)] [] (Wd P Q P P c2) 0 0 Z) ∧ (∀ (c2 : ME) (v3 : Int) (v4 : Int) (v5 : Int), Iv u e P Q c2 → (∀ (a : Nat) (j : Int), ¬ ((a = 0 ∧ j = 12) ∨ (a = 0 ∧ j = 13) ∨ a = 12) → c2 a j = c a j) → (-2147483648) ≤ v3 ∧ v3 ≤ 2147483647 → (-2147483648) ≤ v4 ∧ v4 ≤ 2147483647 → 0 ≤ v5 ∧ v5 ≤ 8 → ((a1 ≥ 0 ∧ a1 ≤ 5)) → 17 - 2 * v5 < (n : Int) → Wp sc (d + 10) 114 81 [(0, .ref 0), (1, vi a1), (2, vi a2), (3, vi v3), (4, vi v4), (5, vi v5)] [] (Wd P Q P P c2) 0 0 Z) := by
  intro n
  induction n with
  | zero => exact (by exact ⟨by (intro c2 v3 v4 hI2 hF hv3 hv4 hx0 hm9; have hP := iv_P hI; have hQ := iv_Q hI; exfalso; omega), by (intro c2 v3 v4 v5 hI2 hF hv3 hv4 hv5 hx0 hm9; have hP := iv_P hI; have hQ := iv_Q hI; exfalso; omega)⟩)
  | succ n ih =>
    have hP := iv_P hI
    have hQ := iv_Q hI
    refine ⟨?_, ?_⟩
    · skip
      intro c2 v3 v4 hI2 hF hv3 hv4 hx0 hm9
      refine q_iload c_114_36 rfl (q_iconst c_114_38 ?_)
      by_cases h_1 : v4 ≥ 4
      · refine v_ic_ge_t (t := 75) c_114_39 rfl ⟨of_decide_eq_true rfl, h_1, (ler hv4.2 rfl)⟩ (q_iconst c_114_75 (q_istore c_114_76 (Nat.le_of_ble_eq_true rfl) (q_iconst c_114_78 (q_istore c_114_79 (Nat.le_of_ble_eq_true rfl) (Wp_ls [(0, .ref 0), (1, vi a1), (2, vi a2), (3, vi v3), (4, vi 0), (5, vi 0)] (lsub_cons rfl (lsub_cons rfl (lsub_cons rfl (lsub_cons rfl (lsub_cons rfl (lsub_cons rfl lsub_nil)))))) ?_)))))
        exact ih.2 c2 v3 0 0 hI2 (fun a j hm => hF a j hm) hv3 ⟨of_decide_eq_true rfl, of_decide_eq_true rfl⟩ ⟨of_decide_eq_true rfl, of_decide_eq_true rfl⟩ ⟨by omega, by omega⟩ (by omega)
      · refine v_ic_ge_f (t := 75) c_114_39 rfl ⟨(lel hv4.1 rfl), (Int.not_le.mp h_1), of_decide_eq_true rfl⟩ (q_aload_n c_114_42 rfl (v_gr (t := 12) c_114_43 kf_7_44 rfl (Nat.le_of_ble_eq_true rfl) rfl (q_iload c_114_46 rfl (q_aload_n c_114_48 rfl (v_gr (t := 37) c_114_49 kf_7_62 rfl (Nat.le_of_ble_eq_true rfl) rfl (q_iload_n c_114_52 rfl (q_iload c_114_53 rfl ?_)))))))
        have h_2 := ir_38_g hI (j := 4 * a1 + v4) (by omega)
        have kn_3 : Hid (c2 38 (4 * a1 + v4) = c 38 (4 * a1 + v4)) := hF 38 (4 * a1 + v4) qn_4659b324a
        refine v_cv c_114_55 km_7_196 rfl rfl (Nat.le_of_ble_eq_true rfl) ⟨⟨rfl, rfl⟩, Nat.le_of_ble_eq_true rfl, rfl⟩ (Nat.le_of_ble_eq_true rfl) (Nat.le_of_ble_eq_true rfl) (s_45 (v1 := c 38 (4 * a1 + v4)) (r := c 38 (4 * a1 + v4)) (a1 := a1) (a2 := v4) hI2 (.inl ⟨rfl, rfl⟩) (show 0 ≤ a1 ∧ a1 ≤ 5 from ⟨by omega, by omega⟩) (show 0 ≤ v4 ∧ v4 ≤ 3 from ⟨hv4.1, (q_482ef8d41 h_1)⟩) ((hid kn_3)) (by omega) (bk_inl (v_is c_114_58 rfl (of_decide_eq_true rfl) (of_decide_eq_true rfl) ⟨hv4.1, (q_2e808647e h_1)⟩ (q_iload_n c_114_59 rfl (q_aload_n c_114_60 rfl (v_gr (t := 12) c_114_61 kf_7_44 rfl (Nat.le_of_ble_eq_true rfl) rfl (q_iload c_114_64 rfl (v_ia (v := c 38 (4 * a1 + v4)) c_114_66 rfl (of_decide_eq_true rfl) (of_decide_eq_true rfl) ⟨hv4.1, (q_2e808647e h_1)⟩ (up_e rfl) ?_))))))))
        refine v_iadd (v := c 38 (4 * a1 + v4) + v3) c_114_67 (by omega) (v_nrm (fun y_4 hy_4 => (q_istore_n c_114_68 (Nat.le_of_ble_eq_true rfl) (v_iinc (v := v4 + 1) c_114_69 rfl (Nat.le_of_ble_eq_true rfl) rfl (q_goto (t := 36) c_114_72 rfl ?_)))))
        have hI_5 := iw_12 (j := v4) (v := c 38 (4 * a1 + v4)) hI2 ⟨(q_c6ed8760d h_2), (q_f52da7857 h_2)⟩
        refine Wp_ls [(0, .ref 0), (1, vi a1), (2, vi a2), (3, vi y_4), (4, vi (v4 + 1))] (lsub_cons rfl (lsub_cons rfl (lsub_cons rfl (lsub_cons rfl (lsub_cons rfl lsub_nil))))) ?_
        exact ih.1 (up c2 12 v4 (c 38 (4 * a1 + v4))) y_4 (v4 + 1) hI_5 (fun a j hm => (up_b (Decidable.or_iff_not_imp_left.mpr (fun h1 h2 => hm (Or.inr (Or.inr (Decidable.not_not.mp h1)))))).trans (hF a j hm)) hy_4 ⟨(rgp_l hv4.1 (of_decide_eq_true rfl)), (q_121241f94 h_1)⟩ ⟨by omega, by omega⟩ (by omega)
    · skip
      intro c2 v3 v4 v5 hI2 hF hv3 hv4 hv5 hx0 hm9
      refine q_iload c_114_81 rfl (q_iload_n c_114_83 rfl ?_)
      by_cases h_6 : v5 > a2
      · refine v_ic_gt_t (t := 128) c_114_84 rfl ⟨ha2.1, h_6, (ler hv5.2 rfl)⟩ (q_iload_n c_114_128 rfl (q_aload_n c_114_129 rfl (v_gr (t := P) c_114_130 kf_7_50 rfl (Nat.le_of_ble_eq_true rfl) rfl ?_)))
        have h_7 := ir_p0_4 hI hP
        have kn_8 : Hid (c2 P 4 = c P 4) := hF P 4 (qn_b39d5257d hP)
        refine v_gi (z := 4) (v := c P 4) c_114_133 kf_7_145 (ck_p0 hP) (a68z hP) rfl rfl (hid kn_8) ?_
        by_cases h_9 : a2 ≠ c P 4
        · refine v_ic_ne_t (t := 143) c_114_136 rfl ⟨h_9, ⟨ha2.1, ha2.2⟩, (q_ad61fcb20 h_7), (q_68855c780 h_7)⟩ (q_iload c_114_143 rfl (q_iret c_114_145 rfl ?_))
          exact K c2 v4 hI2 (fun a j hm => hF a j hm) hv4
        · refine v_ic_ne_f (t := 143) c_114_136 rfl (Decidable.not_not.mp h_9) (q_iload_n c_114_139 rfl (q_goto (t := 145) c_114_140 rfl (q_iret c_114_145 rfl ?_)))
          exact K c2 v3 hI2 (fun a j hm => hF a j hm) hv3
      · refine v_ic_gt_f (t := 128) c_114_84 rfl ⟨(lel hv5.1 rfl), (Int.not_lt.mp h_6), ha2.2⟩ (q_iload c_114_87 rfl (q_aload_n c_114_89 rfl (v_gr (t := P) c_114_90 kf_7_50 rfl (Nat.le_of_ble_eq_true rfl) rfl ?_)))
        have h_10 := ir_p0_4 hI hP
        have kn_11 : Hid (c2 P 4 = c P 4) := hF P 4 (qn_b39d5257d hP)
        refine v_gi (z := 4) (v := c P 4) c_114_93 kf_7_145 (ck_p0 hP) (a68z hP) rfl rfl (hid kn_11) ?_
        by_cases h_12 : v5 ≥ c P 4
        · refine v_ic_ge_t (t := 128) c_114_96 rfl ⟨(q_ad61fcb20 h_10), h_12, (ler hv5.2 rfl)⟩ (q_iload_n c_114_128 rfl (q_aload_n c_114_129 rfl (v_gr (t := P) c_114_130 kf_7_50 rfl (Nat.le_of_ble_eq_true rfl) rfl (v_gi (z := 4) (v := c P 4) c_114_133 kf_7_145 (ck_p0 hP) (a68z hP) rfl rfl (hid kn_11) ?_))))
          by_cases h_13 : a2 ≠ c P 4
          · refine v_ic_ne_t (t := 143) c_114_136 rfl ⟨h_13, ⟨ha2.1, ha2.2⟩, (q_ad61fcb20 h_10), (q_68855c780 h_10)⟩ (q_iload c_114_143 rfl (q_iret c_114_145 rfl ?_))
            exact K c2 v4 hI2 (fun a j hm => hF a j hm) hv4
          · refine v_ic_ne_f (t := 143) c_114_136 rfl (Decidable.not_not.mp h_13) (q_iload_n c_114_139 rfl (q_goto (t := 145) c_114_140 rfl (q_iret c_114_145 rfl ?_)))
            exact K c2 v3 hI2 (fun a j hm => hF a j hm) hv3
        · refine v_ic_ge_f (t := 128) c_114_96 rfl ⟨(lel hv5.1 rfl), (Int.not_le.mp h_12), (q_68855c780 h_10)⟩ (q_iload_n c_114_99 rfl (q_aload_n c_114_100 rfl (q_aload_n c_114_101 rfl (v_gr (t := P) c_114_102 kf_7_50 rfl (Nat.le_of_ble_eq_true rfl) rfl (v_gr (t := (P + 4)) c_114_105 kf_7_253 (ck_p0 hP) (a68z hP) rfl (q_iload c_114_108 rfl ?_))))))
          have h_14 := ir_p4 hI hP v5
          have h_15 := ir_p4_x hI hP (j := v5) (by omega) (by omega)
          have kn_16 : Hid (c2 (P + 4) v5 = c (P + 4) v5) := hF (P + 4) v5 (qn_205a17438 hP)
          refine v_ia (v := c (P + 4) v5) c_114_110 (ck_p4 hP) (a68 hP rfl) (of_decide_eq_true rfl) ⟨hv5.1, (q_ee9fc688f h_10 h_12)⟩ (hid kn_16) (v_cv c_114_111 km_7_256 rfl rfl (Nat.le_of_ble_eq_true rfl) ⟨⟨rfl, rfl⟩, Nat.le_of_ble_eq_true rfl, rfl⟩ (Nat.le_of_ble_eq_true rfl) (Nat.le_of_ble_eq_true rfl) (s_113 (a1 := c (P + 4) v5) hI2 (show 0 ≤ c (P + 4) v5 ∧ c (P + 4) v5 ≤ 3 from ⟨by omega, by omega⟩) (fun c_17 y_20 hI_18 hF_19 hy_20 => (bk_inl (v_isub (v := v3 - y_20) c_114_114 rfl (v_nrm (fun y_21 hy_21 => (q_istore c_114_115 (Nat.le_of_ble_eq_true rfl) (q_iload_n c_114_117 rfl (q_iload c_114_118 rfl ?_))))))))))
          refine v_isub (v := v3 - y_21) c_114_120 rfl (v_nrm (fun y_22 hy_22 => (q_istore_n c_114_121 (Nat.le_of_ble_eq_true rfl) (v_iinc (v := v5 + 1) c_114_122 rfl (Nat.le_of_ble_eq_true rfl) rfl (q_goto (t := 81) c_114_125 rfl (Wp_ls [(0, .ref 0), (1, vi a1), (2, vi a2), (3, vi y_22), (4, vi y_21), (5, vi (v5 + 1))] (lsub_cons rfl (lsub_cons rfl (lsub_cons rfl (lsub_cons rfl (lsub_cons rfl (lsub_cons rfl lsub_nil)))))) ?_))))))
          exact ih.2 c_17 y_22 y_21 (v5 + 1) hI_18 (fun a j hm => (hF_19 a j (fun h => hm (Or.inr (Or.inr h)))).trans (hF a j hm)) hy_22 hy_21 ⟨(rgp_l hv5.1 (of_decide_eq_true rfl)), (q_d3303858b h_10 h_12)⟩ ⟨by omega, by omega⟩ (by omega)
set_option maxRecDepth 100000 in
set_option maxHeartbeats 4000000 in
theorem s_114 {sc : List Int32} {e : Int} {d u P Q : Nat} {c : ME} {a1 : Int} {a2 : Int} {Z : AR → Prop} (hI : Iv u e P Q c) (ha1 : (-2147483648) ≤ a1 ∧ a1 ≤ 2147483647) (ha2 : (-2147483648) ≤ a2 ∧ a2 ≤ 2147483647) (T100 : ∀ c2 : ME, Iv u e P Q c2 → (∀ (a : Nat) (j : Int), ¬ ((a = 0 ∧ j = 12) ∨ (a = 0 ∧ j = 13) ∨ a = 12) → c2 a j = c a j) → Z (.inr 100, Wd P Q P P c2, 1, 6)) (T101 : ∀ c2 : ME, Iv u e P Q c2 → (∀ (a : Nat) (j : Int), ¬ ((a = 0 ∧ j = 12) ∨ (a = 0 ∧ j = 13) ∨ a = 12) → c2 a j = c a j) → Z (.inr 101, Wd P Q P P c2, 1, 6)) (K : ∀ (c2 : ME) (y : Int), Iv u e P Q c2 → (∀ (a : Nat) (j : Int), ¬ ((a = 0 ∧ j = 12) ∨ (a = 0 ∧ j = 13) ∨ a = 12) → c2 a j = c a j) → (-2147483648) ≤ y ∧ y ≤ 2147483647 → Z (.inl (some (vi y)), Wd P Q P P c2, 0, 0)) : Wp sc (d + 10) 114 0 [(0, .ref 0), (1, vi a1), (2, vi a2)] [] (Wd P Q P P c) 0 0 Z := by
  have hP := iv_P hI
  have hQ := iv_Q hI
  refine q_aload_n c_114_0 rfl (q_iload_n c_114_1 rfl (v_cv c_114_2 km_7_184 rfl rfl (Nat.le_of_ble_eq_true rfl) ⟨⟨rfl, rfl⟩, Nat.le_of_ble_eq_true rfl, rfl⟩ (Nat.le_of_ble_eq_true rfl) (Nat.le_of_ble_eq_true rfl) (q_aload_n c_92_0 rfl (q_iload_n c_92_1 rfl (q_iconst c_92_2 (q_aload_n c_92_3 rfl (v_gr (t := P) c_92_4 kf_7_50 rfl (Nat.le_of_ble_eq_true rfl) rfl ?_)))))))
  have h_23 := ir_p0_0 hI hP
  refine v_gi (z := 0) (v := c P 0) c_92_7 kf_7_102 (ck_p0 hP) (a68z hP) rfl rfl rfl (q_iconst c_92_10 (v_isub (v := c P 0 - 1) c_92_11 rfl (q_call c_92_12 rfl rfl rfl (q_iload_n c_80_0 rfl (q_iload_n c_80_1 rfl ?_)))))
  by_cases h_24 : a1 < 0
  · refine v_ic_lt_t (t := 14) c_80_2 rfl ⟨ha1.1, h_24, of_decide_eq_true rfl⟩ (q_iconst c_80_14 (v_zret c_80_15 rfl (of_decide_eq_true rfl) (bk_inl (v_cv c_92_15 km_7_333 rfl rfl (Nat.le_of_ble_eq_true rfl) ⟨⟨rfl, rfl⟩, Nat.le_of_ble_eq_true rfl, rfl⟩ (Nat.le_of_ble_eq_true rfl) (Nat.le_of_ble_eq_true rfl) (q_iload_n c_91_0 rfl (v_if_ne_f (t := 25) c_91_1 rfl (of_decide_eq_true rfl) (q_aload_n c_91_4 rfl ?_)))))))
    refine q_dup c_91_5 rfl ?_
    have h_25 := ir_0_12 hI
    refine v_gi (z := 12) (v := c 0 12) c_91_6 kf_7_327 rfl (Nat.le_of_ble_eq_true rfl) rfl rfl rfl (q_iconst c_91_9 (v_iadd (v := c 0 12 + 1) c_91_10 rfl (v_nrm (fun y_26 hy_26 => (v_pi (z := 12) c_91_11 kf_7_327 rfl (Nat.le_of_ble_eq_true rfl) rfl rfl rfl (of_decide_eq_true rfl) (v_new c_91_14 rfl (of_decide_eq_true rfl) (by omega) (Nat.le_of_ble_eq_true rfl) (of_decide_eq_true rfl) rfl (bk_out rfl rfl (bk_out rfl rfl ?_))))))))
    have hI_27 := iw_0_12 (v := y_26) hI ⟨hy_26.1, hy_26.2⟩
    exact T100 _ hI_27 (fun a j hm => up_b (Decidable.or_iff_not_imp_left.mpr (fun h1 h2 => hm (Or.inl ⟨Decidable.not_not.mp h1, h2⟩))))
  · refine v_ic_lt_f (t := 14) c_80_2 rfl ⟨of_decide_eq_true rfl, (Int.not_lt.mp h_24), ha1.2⟩ (q_iload_n c_80_5 rfl (q_iload_n c_80_6 rfl ?_))
    by_cases h_28 : a1 > c P 0 - 1
    · refine v_ic_gt_t (t := 14) c_80_7 rfl ⟨(rgm_l h_23.1 (of_decide_eq_true rfl)), h_28, ha1.2⟩ (q_iconst c_80_14 (v_zret c_80_15 rfl (of_decide_eq_true rfl) (bk_inl (v_cv c_92_15 km_7_333 rfl rfl (Nat.le_of_ble_eq_true rfl) ⟨⟨rfl, rfl⟩, Nat.le_of_ble_eq_true rfl, rfl⟩ (Nat.le_of_ble_eq_true rfl) (Nat.le_of_ble_eq_true rfl) (q_iload_n c_91_0 rfl (v_if_ne_f (t := 25) c_91_1 rfl (of_decide_eq_true rfl) (q_aload_n c_91_4 rfl ?_)))))))
      refine q_dup c_91_5 rfl ?_
      have h_29 := ir_0_12 hI
      refine v_gi (z := 12) (v := c 0 12) c_91_6 kf_7_327 rfl (Nat.le_of_ble_eq_true rfl) rfl rfl rfl (q_iconst c_91_9 (v_iadd (v := c 0 12 + 1) c_91_10 rfl (v_nrm (fun y_30 hy_30 => (v_pi (z := 12) c_91_11 kf_7_327 rfl (Nat.le_of_ble_eq_true rfl) rfl rfl rfl (of_decide_eq_true rfl) (v_new c_91_14 rfl (of_decide_eq_true rfl) (by omega) (Nat.le_of_ble_eq_true rfl) (of_decide_eq_true rfl) rfl (bk_out rfl rfl (bk_out rfl rfl ?_))))))))
      have hI_31 := iw_0_12 (v := y_30) hI ⟨hy_30.1, hy_30.2⟩
      exact T100 _ hI_31 (fun a j hm => up_b (Decidable.or_iff_not_imp_left.mpr (fun h1 h2 => hm (Or.inl ⟨Decidable.not_not.mp h1, h2⟩))))
    · refine v_ic_gt_f (t := 14) c_80_7 rfl ⟨ha1.1, (Int.not_lt.mp h_28), (rgm_h h_23.2 (of_decide_eq_true rfl))⟩ (q_iconst c_80_10 (q_goto (t := 15) c_80_11 rfl (v_zret c_80_15 rfl (of_decide_eq_true rfl) (bk_inl (v_cv c_92_15 km_7_333 rfl rfl (Nat.le_of_ble_eq_true rfl) ⟨⟨rfl, rfl⟩, Nat.le_of_ble_eq_true rfl, rfl⟩ (Nat.le_of_ble_eq_true rfl) (Nat.le_of_ble_eq_true rfl) (q_iload_n c_91_0 rfl (v_if_ne_t (t := 25) c_91_1 rfl (of_decide_eq_true rfl) ?_)))))))
      refine q_vret rfl rfl (bk_inl (q_vret rfl rfl (bk_inl (q_aload_n c_114_5 rfl (q_iload_n c_114_6 rfl ?_)))))
      by_cases h_32 : a2 < 0
      · refine v_if_lt_t (t := 14) c_114_7 rfl ⟨ha2.1, h_32, of_decide_eq_true rfl⟩ (q_iconst c_114_14 (v_cv c_114_15 km_7_161 rfl rfl (Nat.le_of_ble_eq_true rfl) ⟨⟨rfl, rfl⟩, Nat.le_of_ble_eq_true rfl, rfl⟩ (Nat.le_of_ble_eq_true rfl) (Nat.le_of_ble_eq_true rfl) (q_iload_n c_81_0 rfl (v_if_ne_f (t := 25) c_81_1 rfl (of_decide_eq_true rfl) (q_aload_n c_81_4 rfl (q_dup c_81_5 rfl ?_))))))
        have h_33 := ir_0_13 hI
        refine v_gi (z := 13) (v := c 0 13) c_81_6 kf_7_330 rfl (Nat.le_of_ble_eq_true rfl) rfl rfl rfl (q_iconst c_81_9 (v_iadd (v := c 0 13 + 1) c_81_10 rfl (v_nrm (fun y_34 hy_34 => (v_pi (z := 13) c_81_11 kf_7_330 rfl (Nat.le_of_ble_eq_true rfl) rfl rfl rfl (of_decide_eq_true rfl) (v_new c_81_14 rfl (of_decide_eq_true rfl) (by omega) (Nat.le_of_ble_eq_true rfl) (of_decide_eq_true rfl) rfl (bk_out rfl rfl ?_)))))))
        have hI_35 := iw_0_13 (v := y_34) hI ⟨hy_34.1, hy_34.2⟩
        exact T101 _ hI_35 (fun a j hm => up_b (Decidable.or_iff_not_imp_left.mpr (fun h1 h2 => hm (Or.inr (Or.inl ⟨Decidable.not_not.mp h1, h2⟩)))))
      · refine v_if_lt_f (t := 14) c_114_7 rfl ⟨of_decide_eq_true rfl, (Int.not_lt.mp h_32), ha2.2⟩ (q_iconst c_114_10 (q_goto (t := 15) c_114_11 rfl (v_cv c_114_15 km_7_161 rfl rfl (Nat.le_of_ble_eq_true rfl) ⟨⟨rfl, rfl⟩, Nat.le_of_ble_eq_true rfl, rfl⟩ (Nat.le_of_ble_eq_true rfl) (Nat.le_of_ble_eq_true rfl) (q_iload_n c_81_0 rfl (v_if_ne_t (t := 25) c_81_1 rfl (of_decide_eq_true rfl) (q_vret rfl rfl (bk_inl ?_)))))))
        refine q_iload_n c_114_18 rfl (q_aload_n c_114_19 rfl (v_gr (t := P) c_114_20 kf_7_50 rfl (Nat.le_of_ble_eq_true rfl) rfl ?_))
        have h_36 := ir_p0_4 hI hP
        refine v_gi (z := 4) (v := c P 4) c_114_23 kf_7_145 (ck_p0 hP) (a68z hP) rfl rfl rfl ?_
        by_cases h_37 : a2 ≤ c P 4
        · refine v_ic_le_t (t := 31) c_114_26 rfl ⟨ha2.1, h_37, (ler h_36.2 rfl)⟩ (q_iconst c_114_31 (q_istore_n c_114_32 (Nat.le_of_ble_eq_true rfl) (q_iconst c_114_33 (q_istore c_114_34 (Nat.le_of_ble_eq_true rfl) (Wp_ls [(0, .ref 0), (1, vi a1), (2, vi a2), (3, vi 0), (4, vi 0)] (lsub_cons rfl (lsub_cons rfl (lsub_cons rfl (lsub_cons rfl (lsub_cons rfl lsub_nil))))) ?_)))))
          exact (s_114_l (sc := sc) (d := d) hI ha1 ha2 T100 T101 K 31).1 c 0 0 hI (fun a j hm => rfl) ⟨of_decide_eq_true rfl, of_decide_eq_true rfl⟩ ⟨of_decide_eq_true rfl, of_decide_eq_true rfl⟩ ⟨(q_720657ba9 h_24), (q_3a2e67ab0 h_23 h_28)⟩ (by omega)
        · refine v_ic_le_f (t := 31) c_114_26 rfl ⟨(lel h_36.1 rfl), (Int.not_le.mp h_37), ha2.2⟩ (q_iconst c_114_29 (q_iret c_114_30 rfl ?_))
          exact K c (-1) hI (fun a j hm => rfl) ⟨of_decide_eq_true rfl, of_decide_eq_true rfl⟩

set_option maxRecDepth 100000 in
set_option maxHeartbeats 4000000 in
theorem s_115_l {sc : List Int32} {e : Int} {d u P Q : Nat} {c : ME} {a1 : Int} {Z : AR → Prop} (hI : Iv u e P Q c) (ha1 : (-2147483648) ≤ a1 ∧ a1 ≤ 2147483647) (T100 : ∀ c2 : ME, Iv u e P Q c2 → (∀ (a : Nat) (j : Int), ¬ ((a = 0 ∧ j = 12)) → c2 a j = c a j) → Z (.inr 100, Wd P Q P P c2, 1, 6)) (K : ∀ (c2 : ME) (y : Int), Iv u e P Q c2 → (∀ (a : Nat) (j : Int), ¬ ((a = 0 ∧ j = 12)) → c2 a j = c a j) → (-2147483648) ≤ y ∧ y ≤ 2147483647 → Z (.inl (some (vi y)), Wd P Q P P c2, 0, 0)) : ∀ n : Nat, (∀ (c2 : ME) (v2 : Int) (v3 : Int), Iv u e P Q c2 → (∀ (a : Nat) (j : Int), ¬ ((a = 0 ∧ j = 12)) → c2 a j = c a j) → (-2147483648) ≤ v2 ∧ v2 ≤ 2147483647 → 0 ≤ v3 ∧ v3 ≤ 6 → ((a1 ≥ 0 ∧ a1 ≤ 3)) → 13 - 2 * v3 < (n : Int) → Wp sc (d + 11) 115 9 [(0, .ref 0), (1, vi a1), (2, vi v2), (3, vi v3)] [] (Wd P Q P P c2) 0 0 Z) := by
  intro n
  induction n with
  | zero => exact (by intro c2 v2 v3 hI2 hF hv2 hv3 hx0 hm9; have hP := iv_P hI; have hQ := iv_Q hI; exfalso; omega)
  | succ n ih =>
    have hP := iv_P hI
    have hQ := iv_Q hI
    intro c2 v2 v3 hI2 hF hv2 hv3 hx0 hm9
    refine q_iload_n c_115_9 rfl (q_aload_n c_115_10 rfl (v_gr (t := P) c_115_11 kf_7_50 rfl (Nat.le_of_ble_eq_true rfl) rfl ?_))
    have h_1 := ir_p0_0 hI hP
    have kn_2 : Hid (c2 P 0 = c P 0) := hF P 0 (fun h => absurd h.1 (np0 hP rfl))
    refine v_gi (z := 0) (v := c P 0) c_115_14 kf_7_102 (ck_p0 hP) (a68z hP) rfl rfl (hid kn_2) ?_
    by_cases h_3 : v3 ≥ c P 0
    · refine v_ic_ge_t (t := 61) c_115_17 rfl ⟨(q_730ab5169 h_1), h_3, (ler hv3.2 rfl)⟩ (q_iload_n c_115_61 rfl (q_iret c_115_62 rfl ?_))
      exact K c2 v2 hI2 (fun a j hm => hF a j hm) hv2
    · refine v_ic_ge_f (t := 61) c_115_17 rfl ⟨(lel hv3.1 rfl), (Int.not_le.mp h_3), (q_b289b7db2 h_1)⟩ (q_aload_n c_115_20 rfl (v_gr (t := 37) c_115_21 kf_7_62 rfl (Nat.le_of_ble_eq_true rfl) rfl (q_iload_n c_115_24 rfl ?_)))
      have h_4 := ir_38_g hI (j := 4 * v3) ((q_aa51b186e h_1 h_3))
      have kn_5 : Hid (c2 38 (4 * v3) = c 38 (4 * v3)) := hF 38 (4 * v3) (fun h => absurd h.1 (nn rfl))
      have h_6 := ir_38_g hI (j := 4 * v3 + 1) ((q_57851f9de h_1 h_3))
      have kn_7 : Hid (c2 38 (4 * v3 + 1) = c 38 (4 * v3 + 1)) := hF 38 (4 * v3 + 1) (fun h => absurd h.1 (nn rfl))
      have h_8 := ir_38_g hI (j := 4 * v3 + 2) ((q_7296e74e6 h_1 h_3))
      have kn_9 : Hid (c2 38 (4 * v3 + 2) = c 38 (4 * v3 + 2)) := hF 38 (4 * v3 + 2) (fun h => absurd h.1 (nn rfl))
      have h_10 := ir_38_g hI (j := 4 * v3 + 3) ((q_b15525c4c h_1 h_3))
      have kn_11 : Hid (c2 38 (4 * v3 + 3) = c 38 (4 * v3 + 3)) := hF 38 (4 * v3 + 3) (fun h => absurd h.1 (nn rfl))
      refine v_cv c_115_25 km_7_187 rfl rfl (Nat.le_of_ble_eq_true rfl) ⟨⟨rfl, rfl⟩, Nat.le_of_ble_eq_true rfl, rfl⟩ (Nat.le_of_ble_eq_true rfl) (Nat.le_of_ble_eq_true rfl) (s_43 (v1 := c 38 (4 * v3)) (v2 := c 38 (4 * v3 + 1)) (v3 := c 38 (4 * v3 + 2)) (v4 := c 38 (4 * v3 + 3)) (r := c 38 (4 * v3 + 1) + c 38 (4 * v3 + 2) + c 38 (4 * v3 + 3) + c 38 (4 * v3)) (a1 := v3) hI2 (.inl ⟨rfl, rfl⟩) (show 0 ≤ v3 ∧ v3 ≤ 5 from ⟨hv3.1, (q_d63a8538e h_1 h_3)⟩) ((hid kn_5)) ((hid kn_7)) ((hid kn_9)) ((hid kn_11)) (by omega) (bk_inl (q_istore c_115_28 (Nat.le_of_ble_eq_true rfl) (q_iload c_115_30 rfl ?_))))
      by_cases h_12 : c 38 (4 * v3 + 1) + c 38 (4 * v3 + 2) + c 38 (4 * v3 + 3) + c 38 (4 * v3) ≤ 0
      · refine v_if_le_t (t := 55) c_115_32 rfl ⟨(q_94559468f h_10 h_4 h_6 h_8), h_12, of_decide_eq_true rfl⟩ (v_iinc (v := v3 + 1) c_115_55 rfl (Nat.le_of_ble_eq_true rfl) rfl (q_goto (t := 9) c_115_58 rfl (Wp_ls [(0, .ref 0), (1, vi a1), (2, vi v2), (3, vi (v3 + 1))] (lsub_cons rfl (lsub_cons rfl (lsub_cons rfl (lsub_cons rfl lsub_nil)))) ?_)))
        exact ih c2 v2 (v3 + 1) hI2 (fun a j hm => hF a j hm) hv2 ⟨(rgp_l hv3.1 (of_decide_eq_true rfl)), (q_4a76cd9c7 h_1 h_3)⟩ ⟨by omega, by omega⟩ (by omega)
      · refine v_if_le_f (t := 55) c_115_32 rfl ⟨of_decide_eq_true rfl, (Int.not_le.mp h_12), (q_f81653045 h_10 h_4 h_6 h_8)⟩ (q_aload_n c_115_35 rfl (v_gr (t := 37) c_115_36 kf_7_62 rfl (Nat.le_of_ble_eq_true rfl) rfl (q_iload_n c_115_39 rfl (q_iload_n c_115_40 rfl ?_))))
        have h_13 := ir_p3 hI hP a1
        have kn_14 : Hid (c2 (P + 3) a1 = c (P + 3) a1) := hF (P + 3) a1 (fun h => absurd h.1 (np hP rfl rfl))
        have h_15 := ir_38 hI 30
        have kn_16 : Hid (c2 38 30 = c 38 30) := hF 38 30 (fun h => absurd h.1 (nn rfl))
        have h_17 := fal_rng (m := c (P + 3) a1) (t := tb (c 38 30) a1) (g := 0) (x := c 38 (4 * v3)) ((q_c6ed8760d h_4))
        have h_18 := fal_rng (m := c (P + 3) a1) (t := tb (c 38 30) a1) (g := 1) (x := c 38 (4 * v3 + 1)) ((q_c6ed8760d h_6))
        have h_19 := fal_rng (m := c (P + 3) a1) (t := tb (c 38 30) a1) (g := 2) (x := c 38 (4 * v3 + 2)) ((q_c6ed8760d h_8))
        have h_20 := fal_rng (m := c (P + 3) a1) (t := tb (c 38 30) a1) (g := 3) (x := c 38 (4 * v3 + 3)) ((q_c6ed8760d h_10))
        refine v_cv c_115_41 km_7_246 rfl rfl (Nat.le_of_ble_eq_true rfl) ⟨⟨rfl, rfl⟩, Nat.le_of_ble_eq_true rfl, rfl⟩ (Nat.le_of_ble_eq_true rfl) (Nat.le_of_ble_eq_true rfl) (s_49 (v1 := c (P + 3) a1) (v2 := c 38 30) (v3 := c 38 (4 * v3)) (v4 := c 38 (4 * v3 + 1)) (v5 := c 38 (4 * v3 + 2)) (v6 := c 38 (4 * v3 + 3)) (r := (fal (c (P + 3) a1) (tb (c 38 30) a1) 0 (c 38 (4 * v3))) + (fal (c (P + 3) a1) (tb (c 38 30) a1) 1 (c 38 (4 * v3 + 1))) + (fal (c (P + 3) a1) (tb (c 38 30) a1) 2 (c 38 (4 * v3 + 2))) + (fal (c (P + 3) a1) (tb (c 38 30) a1) 3 (c 38 (4 * v3 + 3)))) (a1 := a1) (a2 := v3) hI2 (.inl ⟨rfl, rfl⟩) (show 0 ≤ a1 ∧ a1 ≤ 3 from ⟨by omega, by omega⟩) (show 0 ≤ v3 ∧ v3 ≤ 5 from ⟨hv3.1, (q_d63a8538e h_1 h_3)⟩) ((hid kn_14)) ((hid kn_16)) ((hid kn_5)) ((hid kn_7)) ((hid kn_9)) ((hid kn_11)) rfl (bk_inl (q_iload c_115_44 rfl ?_)))
        by_cases h_21 : (fal (c (P + 3) a1) (tb (c 38 30) a1) 0 (c 38 (4 * v3))) + (fal (c (P + 3) a1) (tb (c 38 30) a1) 1 (c 38 (4 * v3 + 1))) + (fal (c (P + 3) a1) (tb (c 38 30) a1) 2 (c 38 (4 * v3 + 2))) + (fal (c (P + 3) a1) (tb (c 38 30) a1) 3 (c 38 (4 * v3 + 3))) ≠ c 38 (4 * v3 + 1) + c 38 (4 * v3 + 2) + c 38 (4 * v3 + 3) + c 38 (4 * v3)
        · refine v_ic_ne_t (t := 55) c_115_46 rfl ⟨h_21, ⟨(q_c0b7ed1c9 h_17 h_18 h_19 h_20), (q_3500cd578 h_10 h_17 h_18 h_19 h_20 h_4 h_6 h_8)⟩, (q_0023c4fc8 h_12), (q_f81653045 h_10 h_4 h_6 h_8)⟩ (v_iinc (v := v3 + 1) c_115_55 rfl (Nat.le_of_ble_eq_true rfl) rfl (q_goto (t := 9) c_115_58 rfl (Wp_ls [(0, .ref 0), (1, vi a1), (2, vi v2), (3, vi (v3 + 1))] (lsub_cons rfl (lsub_cons rfl (lsub_cons rfl (lsub_cons rfl lsub_nil)))) ?_)))
          exact ih c2 v2 (v3 + 1) hI2 (fun a j hm => hF a j hm) hv2 ⟨(rgp_l hv3.1 (of_decide_eq_true rfl)), (q_4a76cd9c7 h_1 h_3)⟩ ⟨by first | (clear ha1 hv2 hv3 h_1 h_3 h_4 h_6 h_8 h_10 h_12 h_13 h_15 h_17 h_18 h_19 h_20 h_21; omega) | omega, by first | (clear ha1 hv2 hv3 h_1 h_3 h_4 h_6 h_8 h_10 h_12 h_13 h_15 h_17 h_18 h_19 h_20 h_21; omega) | omega⟩ (by omega)
        · refine v_ic_ne_f (t := 55) c_115_46 rfl (Decidable.not_not.mp h_21) (q_iload_n c_115_49 rfl (q_iconst c_115_50 (q_iload_n c_115_51 rfl (v_shl1 c_115_52 ⟨by omega, by omega⟩ (fun y_22 hy_22 => (v_iorx c_115_53 (fun y_23 hy_23 => (q_istore_n c_115_54 (Nat.le_of_ble_eq_true rfl) (v_iinc (v := v3 + 1) c_115_55 rfl (Nat.le_of_ble_eq_true rfl) rfl ?_)))))))))
          refine q_goto (t := 9) c_115_58 rfl (Wp_ls [(0, .ref 0), (1, vi a1), (2, vi y_23), (3, vi (v3 + 1))] (lsub_cons rfl (lsub_cons rfl (lsub_cons rfl (lsub_cons rfl lsub_nil)))) ?_)
          exact ih c2 y_23 (v3 + 1) hI2 (fun a j hm => hF a j hm) hy_23 ⟨(rgp_l hv3.1 (of_decide_eq_true rfl)), (q_4a76cd9c7 h_1 h_3)⟩ ⟨by first | (clear ha1 hv2 hv3 h_1 h_3 h_4 h_6 h_8 h_10 h_12 h_13 h_15 h_17 h_18 h_19 h_20 h_21; omega) | omega, by first | (clear ha1 hv2 hv3 h_1 h_3 h_4 h_6 h_8 h_10 h_12 h_13 h_15 h_17 h_18 h_19 h_20 h_21; omega) | omega⟩ (by omega)
set_option maxRecDepth 100000 in
set_option maxHeartbeats 4000000 in
theorem s_115 {sc : List Int32} {e : Int} {d u P Q : Nat} {c : ME} {a1 : Int} {Z : AR → Prop} (hI : Iv u e P Q c) (ha1 : (-2147483648) ≤ a1 ∧ a1 ≤ 2147483647) (T100 : ∀ c2 : ME, Iv u e P Q c2 → (∀ (a : Nat) (j : Int), ¬ ((a = 0 ∧ j = 12)) → c2 a j = c a j) → Z (.inr 100, Wd P Q P P c2, 1, 6)) (K : ∀ (c2 : ME) (y : Int), Iv u e P Q c2 → (∀ (a : Nat) (j : Int), ¬ ((a = 0 ∧ j = 12)) → c2 a j = c a j) → (-2147483648) ≤ y ∧ y ≤ 2147483647 → Z (.inl (some (vi y)), Wd P Q P P c2, 0, 0)) : Wp sc (d + 11) 115 0 [(0, .ref 0), (1, vi a1)] [] (Wd P Q P P c) 0 0 Z := by
  have hP := iv_P hI
  have hQ := iv_Q hI
  refine q_aload_n c_115_0 rfl (q_iload_n c_115_1 rfl (v_cv c_115_2 km_7_206 rfl rfl (Nat.le_of_ble_eq_true rfl) ⟨⟨rfl, rfl⟩, Nat.le_of_ble_eq_true rfl, rfl⟩ (Nat.le_of_ble_eq_true rfl) (Nat.le_of_ble_eq_true rfl) (q_aload_n c_96_0 rfl (q_iload_n c_96_1 rfl (q_iconst c_96_2 (q_aload_n c_96_3 rfl (v_gr (t := P) c_96_4 kf_7_50 rfl (Nat.le_of_ble_eq_true rfl) rfl ?_)))))))
  have h_24 := ir_p0_2 hI hP
  refine v_gi (z := 2) (v := c P 2) c_96_7 kf_7_168 (ck_p0 hP) (a68z hP) rfl rfl rfl (q_iconst c_96_10 (v_isub (v := c P 2 - 1) c_96_11 rfl (q_call c_96_12 rfl rfl rfl (q_iload_n c_80_0 rfl (q_iload_n c_80_1 rfl ?_)))))
  by_cases h_25 : a1 < 0
  · refine v_ic_lt_t (t := 14) c_80_2 rfl ⟨ha1.1, h_25, of_decide_eq_true rfl⟩ (q_iconst c_80_14 (v_zret c_80_15 rfl (of_decide_eq_true rfl) (bk_inl (v_cv c_96_15 km_7_333 rfl rfl (Nat.le_of_ble_eq_true rfl) ⟨⟨rfl, rfl⟩, Nat.le_of_ble_eq_true rfl, rfl⟩ (Nat.le_of_ble_eq_true rfl) (Nat.le_of_ble_eq_true rfl) (q_iload_n c_91_0 rfl (v_if_ne_f (t := 25) c_91_1 rfl (of_decide_eq_true rfl) (q_aload_n c_91_4 rfl ?_)))))))
    refine q_dup c_91_5 rfl ?_
    have h_26 := ir_0_12 hI
    refine v_gi (z := 12) (v := c 0 12) c_91_6 kf_7_327 rfl (Nat.le_of_ble_eq_true rfl) rfl rfl rfl (q_iconst c_91_9 (v_iadd (v := c 0 12 + 1) c_91_10 rfl (v_nrm (fun y_27 hy_27 => (v_pi (z := 12) c_91_11 kf_7_327 rfl (Nat.le_of_ble_eq_true rfl) rfl rfl rfl (of_decide_eq_true rfl) (v_new c_91_14 rfl (of_decide_eq_true rfl) (by omega) (Nat.le_of_ble_eq_true rfl) (of_decide_eq_true rfl) rfl (bk_out rfl rfl (bk_out rfl rfl ?_))))))))
    have hI_28 := iw_0_12 (v := y_27) hI ⟨hy_27.1, hy_27.2⟩
    exact T100 _ hI_28 (fun a j hm => up_b (Decidable.or_iff_not_imp_left.mpr (fun h1 h2 => hm ⟨Decidable.not_not.mp h1, h2⟩)))
  · refine v_ic_lt_f (t := 14) c_80_2 rfl ⟨of_decide_eq_true rfl, (Int.not_lt.mp h_25), ha1.2⟩ (q_iload_n c_80_5 rfl (q_iload_n c_80_6 rfl ?_))
    by_cases h_29 : a1 > c P 2 - 1
    · refine v_ic_gt_t (t := 14) c_80_7 rfl ⟨(rgm_l h_24.1 (of_decide_eq_true rfl)), h_29, ha1.2⟩ (q_iconst c_80_14 (v_zret c_80_15 rfl (of_decide_eq_true rfl) (bk_inl (v_cv c_96_15 km_7_333 rfl rfl (Nat.le_of_ble_eq_true rfl) ⟨⟨rfl, rfl⟩, Nat.le_of_ble_eq_true rfl, rfl⟩ (Nat.le_of_ble_eq_true rfl) (Nat.le_of_ble_eq_true rfl) (q_iload_n c_91_0 rfl (v_if_ne_f (t := 25) c_91_1 rfl (of_decide_eq_true rfl) (q_aload_n c_91_4 rfl ?_)))))))
      refine q_dup c_91_5 rfl ?_
      have h_30 := ir_0_12 hI
      refine v_gi (z := 12) (v := c 0 12) c_91_6 kf_7_327 rfl (Nat.le_of_ble_eq_true rfl) rfl rfl rfl (q_iconst c_91_9 (v_iadd (v := c 0 12 + 1) c_91_10 rfl (v_nrm (fun y_31 hy_31 => (v_pi (z := 12) c_91_11 kf_7_327 rfl (Nat.le_of_ble_eq_true rfl) rfl rfl rfl (of_decide_eq_true rfl) (v_new c_91_14 rfl (of_decide_eq_true rfl) (by omega) (Nat.le_of_ble_eq_true rfl) (of_decide_eq_true rfl) rfl (bk_out rfl rfl (bk_out rfl rfl ?_))))))))
      have hI_32 := iw_0_12 (v := y_31) hI ⟨hy_31.1, hy_31.2⟩
      exact T100 _ hI_32 (fun a j hm => up_b (Decidable.or_iff_not_imp_left.mpr (fun h1 h2 => hm ⟨Decidable.not_not.mp h1, h2⟩)))
    · refine v_ic_gt_f (t := 14) c_80_7 rfl ⟨ha1.1, (Int.not_lt.mp h_29), (rgm_h h_24.2 (of_decide_eq_true rfl))⟩ (q_iconst c_80_10 (q_goto (t := 15) c_80_11 rfl (v_zret c_80_15 rfl (of_decide_eq_true rfl) (bk_inl (v_cv c_96_15 km_7_333 rfl rfl (Nat.le_of_ble_eq_true rfl) ⟨⟨rfl, rfl⟩, Nat.le_of_ble_eq_true rfl, rfl⟩ (Nat.le_of_ble_eq_true rfl) (Nat.le_of_ble_eq_true rfl) (q_iload_n c_91_0 rfl (v_if_ne_t (t := 25) c_91_1 rfl (of_decide_eq_true rfl) ?_)))))))
      refine q_vret rfl rfl (bk_inl (q_vret rfl rfl (bk_inl (q_iconst c_115_5 (q_istore_n c_115_6 (Nat.le_of_ble_eq_true rfl) (q_iconst c_115_7 (q_istore_n c_115_8 (Nat.le_of_ble_eq_true rfl) ?_)))))))
      refine Wp_ls [(0, .ref 0), (1, vi a1), (2, vi 0), (3, vi 0)] (lsub_cons rfl (lsub_cons rfl (lsub_cons rfl (lsub_cons rfl lsub_nil)))) ?_
      exact (s_115_l (sc := sc) (d := d) hI ha1 T100 K 16) c 0 0 hI (fun a j hm => rfl) ⟨of_decide_eq_true rfl, of_decide_eq_true rfl⟩ ⟨of_decide_eq_true rfl, of_decide_eq_true rfl⟩ ⟨(q_720657ba9 h_25), (q_1b5e4f74b h_24 h_29)⟩ (by omega)

set_option maxRecDepth 100000 in
set_option maxHeartbeats 4000000 in
theorem s_116_l {sc : List Int32} {e : Int} {d u P Q : Nat} {c : ME} {a1 : Int} {a2 : Int} {Z : AR → Prop} (hI : Iv u e P Q c) (ha1 : (-2147483648) ≤ a1 ∧ a1 ≤ 2147483647) (ha2 : (-2147483648) ≤ a2 ∧ a2 ≤ 2147483647) (T100 : ∀ c2 : ME, Iv u e P Q c2 → (∀ (a : Nat) (j : Int), ¬ ((a = 0 ∧ j = 12) ∨ (a = 0 ∧ j = 13)) → c2 a j = c a j) → Z (.inr 100, Wd P Q P P c2, 1, 6)) (T101 : ∀ c2 : ME, Iv u e P Q c2 → (∀ (a : Nat) (j : Int), ¬ ((a = 0 ∧ j = 12) ∨ (a = 0 ∧ j = 13)) → c2 a j = c a j) → Z (.inr 101, Wd P Q P P c2, 1, 6)) (K : ∀ (c2 : ME) (y : Int), Iv u e P Q c2 → (∀ (a : Nat) (j : Int), ¬ ((a = 0 ∧ j = 12) ∨ (a = 0 ∧ j = 13)) → c2 a j = c a j) → (-2147483648) ≤ y ∧ y ≤ 2147483647 → Z (.inl (some (vi y)), Wd P Q P P c2, 0, 0)) : ∀ n : Nat, (∀ (c2 : ME) (v3 : Int) (v4 : Int), Iv u e P Q c2 → (∀ (a : Nat) (j : Int), ¬ ((a = 0 ∧ j = 12) ∨ (a = 0 ∧ j = 13)) → c2 a j = c a j) → (-2147483648) ≤ v3 ∧ v3 ≤ 2147483647 → 0 ≤ v4 ∧ v4 ≤ 6 → ((a1 ≥ 0 ∧ a1 ≤ 3)) → 13 - 2 * v4 < (n : Int) → Wp sc (d + 11) 116 20 [(0, .ref 0), (1, vi a1), (2, vi a2), (3, vi v3), (4, vi v4)] [] (Wd P Q P P c2) 0 0 Z) := by
  intro n
  induction n with
  | zero => exact (by intro c2 v3 v4 hI2 hF hv3 hv4 hx0 hm9; have hP := iv_P hI; have hQ := iv_Q hI; exfalso; omega)
  | succ n ih =>
    have hP := iv_P hI
    have hQ := iv_Q hI
    intro c2 v3 v4 hI2 hF hv3 hv4 hx0 hm9
    refine q_iload c_116_20 rfl (q_aload_n c_116_22 rfl (v_gr (t := P) c_116_23 kf_7_50 rfl (Nat.le_of_ble_eq_true rfl) rfl ?_))
    have h_1 := ir_p0_0 hI hP
    have kn_2 : Hid (c2 P 0 = c P 0) := hF P 0 (qn_7ba88e57e hP)
    refine v_gi (z := 0) (v := c P 0) c_116_26 kf_7_102 (ck_p0 hP) (a68z hP) rfl rfl (hid kn_2) ?_
    by_cases h_3 : v4 ≥ c P 0
    · refine v_ic_ge_t (t := 51) c_116_29 rfl ⟨(q_730ab5169 h_1), h_3, (ler hv4.2 rfl)⟩ (q_iload_n c_116_51 rfl ?_)
      by_cases h_4 : a2 ≠ 0
      · refine v_if_ne_t (t := 59) c_116_52 rfl ⟨h_4, ⟨ha2.1, ha2.2⟩, of_decide_eq_true rfl, of_decide_eq_true rfl⟩ (q_aload_n c_116_59 rfl (v_gr (t := 37) c_116_60 kf_7_62 rfl (Nat.le_of_ble_eq_true rfl) rfl (v_cv c_116_63 km_7_177 rfl rfl (Nat.le_of_ble_eq_true rfl) ⟨⟨rfl, rfl⟩, Nat.le_of_ble_eq_true rfl, rfl⟩ (Nat.le_of_ble_eq_true rfl) (Nat.le_of_ble_eq_true rfl) (s_69 hI2 (.inl ⟨rfl, rfl⟩) (fun y_5 hy_5 => (bk_inl (q_iload_n c_116_66 rfl (v_isub (v := y_5 - v3) c_116_67 rfl (v_nrm (fun y_6 hy_6 => ?_))))))))))
        refine q_iret c_116_68 rfl ?_
        exact K c2 y_6 hI2 (fun a j hm => hF a j hm) hy_6
      · refine v_if_ne_f (t := 59) c_116_52 rfl (Decidable.not_not.mp h_4) (q_iload_n c_116_55 rfl (q_goto (t := 68) c_116_56 rfl (q_iret c_116_68 rfl ?_)))
        exact K c2 v3 hI2 (fun a j hm => hF a j hm) hv3
    · refine v_ic_ge_f (t := 51) c_116_29 rfl ⟨(lel hv4.1 rfl), (Int.not_le.mp h_3), (q_b289b7db2 h_1)⟩ (q_iload_n c_116_32 rfl (q_aload_n c_116_33 rfl (v_gr (t := 37) c_116_34 kf_7_62 rfl (Nat.le_of_ble_eq_true rfl) rfl (q_iload_n c_116_37 rfl (q_iload c_116_38 rfl ?_)))))
      have h_7 := ir_p3 hI hP a1
      have kn_8 : Hid (c2 (P + 3) a1 = c (P + 3) a1) := hF (P + 3) a1 (qn_6e8027b9d hP)
      have h_9 := ir_38 hI 30
      have kn_10 : Hid (c2 38 30 = c 38 30) := hF 38 30 (fun q => q.elim (fun h => absurd h.1 (nn rfl)) (fun h => absurd h.1 (nn rfl)))
      have h_11 := ir_38_g hI (j := 4 * v4) ((q_aa51b186e h_1 h_3))
      have kn_12 : Hid (c2 38 (4 * v4) = c 38 (4 * v4)) := hF 38 (4 * v4) (fun q => q.elim (fun h => absurd h.1 (nn rfl)) (fun h => absurd h.1 (nn rfl)))
      have h_13 := ir_38_g hI (j := 4 * v4 + 1) ((q_57851f9de h_1 h_3))
      have kn_14 : Hid (c2 38 (4 * v4 + 1) = c 38 (4 * v4 + 1)) := hF 38 (4 * v4 + 1) (fun q => q.elim (fun h => absurd h.1 (nn rfl)) (fun h => absurd h.1 (nn rfl)))
      have h_15 := ir_38_g hI (j := 4 * v4 + 2) ((q_7296e74e6 h_1 h_3))
      have kn_16 : Hid (c2 38 (4 * v4 + 2) = c 38 (4 * v4 + 2)) := hF 38 (4 * v4 + 2) (fun q => q.elim (fun h => absurd h.1 (nn rfl)) (fun h => absurd h.1 (nn rfl)))
      have h_17 := ir_38_g hI (j := 4 * v4 + 3) ((q_b15525c4c h_1 h_3))
      have kn_18 : Hid (c2 38 (4 * v4 + 3) = c 38 (4 * v4 + 3)) := hF 38 (4 * v4 + 3) (fun q => q.elim (fun h => absurd h.1 (nn rfl)) (fun h => absurd h.1 (nn rfl)))
      have h_19 := fal_rng (m := c (P + 3) a1) (t := tb (c 38 30) a1) (g := 0) (x := c 38 (4 * v4)) ((q_c6ed8760d h_11))
      have h_20 := fal_rng (m := c (P + 3) a1) (t := tb (c 38 30) a1) (g := 1) (x := c 38 (4 * v4 + 1)) ((q_c6ed8760d h_13))
      have h_21 := fal_rng (m := c (P + 3) a1) (t := tb (c 38 30) a1) (g := 2) (x := c 38 (4 * v4 + 2)) ((q_c6ed8760d h_15))
      have h_22 := fal_rng (m := c (P + 3) a1) (t := tb (c 38 30) a1) (g := 3) (x := c 38 (4 * v4 + 3)) ((q_c6ed8760d h_17))
      refine v_cv c_116_40 km_7_246 rfl rfl (Nat.le_of_ble_eq_true rfl) ⟨⟨rfl, rfl⟩, Nat.le_of_ble_eq_true rfl, rfl⟩ (Nat.le_of_ble_eq_true rfl) (Nat.le_of_ble_eq_true rfl) (s_49 (v1 := c (P + 3) a1) (v2 := c 38 30) (v3 := c 38 (4 * v4)) (v4 := c 38 (4 * v4 + 1)) (v5 := c 38 (4 * v4 + 2)) (v6 := c 38 (4 * v4 + 3)) (r := (fal (c (P + 3) a1) (tb (c 38 30) a1) 0 (c 38 (4 * v4))) + (fal (c (P + 3) a1) (tb (c 38 30) a1) 1 (c 38 (4 * v4 + 1))) + (fal (c (P + 3) a1) (tb (c 38 30) a1) 2 (c 38 (4 * v4 + 2))) + (fal (c (P + 3) a1) (tb (c 38 30) a1) 3 (c 38 (4 * v4 + 3)))) (a1 := a1) (a2 := v4) hI2 (.inl ⟨rfl, rfl⟩) (show 0 ≤ a1 ∧ a1 ≤ 3 from ⟨by omega, by omega⟩) (show 0 ≤ v4 ∧ v4 ≤ 5 from ⟨hv4.1, (q_d63a8538e h_1 h_3)⟩) ((hid kn_8)) ((hid kn_10)) ((hid kn_12)) ((hid kn_14)) ((hid kn_16)) ((hid kn_18)) rfl (bk_inl (v_iadd (v := (fal (c (P + 3) a1) (tb (c 38 30) a1) 0 (c 38 (4 * v4))) + (fal (c (P + 3) a1) (tb (c 38 30) a1) 1 (c 38 (4 * v4 + 1))) + (fal (c (P + 3) a1) (tb (c 38 30) a1) 2 (c 38 (4 * v4 + 2))) + (fal (c (P + 3) a1) (tb (c 38 30) a1) 3 (c 38 (4 * v4 + 3))) + v3) rfl (by first | (clear ha1 ha2 hv3 hv4 hx0 h_1 h_3 h_7 h_9 h_11 h_13 h_15 h_17 h_19 h_20 h_21 h_22; omega) | omega) (v_nrm (fun y_23 hy_23 => (q_istore_n c_116_44 (Nat.le_of_ble_eq_true rfl) (v_iinc (v := v4 + 1) c_116_45 rfl (Nat.le_of_ble_eq_true rfl) rfl (q_goto (t := 20) c_116_48 rfl (Wp_ls [(0, .ref 0), (1, vi a1), (2, vi a2), (3, vi y_23), (4, vi (v4 + 1))] (lsub_cons rfl (lsub_cons rfl (lsub_cons rfl (lsub_cons rfl (lsub_cons rfl lsub_nil))))) ?_)))))))))
      exact ih c2 y_23 (v4 + 1) hI2 (fun a j hm => hF a j hm) hy_23 ⟨(rgp_l hv4.1 (of_decide_eq_true rfl)), (q_4a76cd9c7 h_1 h_3)⟩ ⟨by first | (clear ha1 ha2 hv3 hv4 h_1 h_3 h_7 h_9 h_11 h_13 h_15 h_17 h_19 h_20 h_21 h_22; omega) | omega, by first | (clear ha1 ha2 hv3 hv4 h_1 h_3 h_7 h_9 h_11 h_13 h_15 h_17 h_19 h_20 h_21 h_22; omega) | omega⟩ (by omega)
set_option maxRecDepth 100000 in
set_option maxHeartbeats 4000000 in
theorem s_116 {sc : List Int32} {e : Int} {d u P Q : Nat} {c : ME} {a1 : Int} {a2 : Int} {Z : AR → Prop} (hI : Iv u e P Q c) (ha1 : (-2147483648) ≤ a1 ∧ a1 ≤ 2147483647) (ha2 : (-2147483648) ≤ a2 ∧ a2 ≤ 2147483647) (T100 : ∀ c2 : ME, Iv u e P Q c2 → (∀ (a : Nat) (j : Int), ¬ ((a = 0 ∧ j = 12) ∨ (a = 0 ∧ j = 13)) → c2 a j = c a j) → Z (.inr 100, Wd P Q P P c2, 1, 6)) (T101 : ∀ c2 : ME, Iv u e P Q c2 → (∀ (a : Nat) (j : Int), ¬ ((a = 0 ∧ j = 12) ∨ (a = 0 ∧ j = 13)) → c2 a j = c a j) → Z (.inr 101, Wd P Q P P c2, 1, 6)) (K : ∀ (c2 : ME) (y : Int), Iv u e P Q c2 → (∀ (a : Nat) (j : Int), ¬ ((a = 0 ∧ j = 12) ∨ (a = 0 ∧ j = 13)) → c2 a j = c a j) → (-2147483648) ≤ y ∧ y ≤ 2147483647 → Z (.inl (some (vi y)), Wd P Q P P c2, 0, 0)) : Wp sc (d + 11) 116 0 [(0, .ref 0), (1, vi a1), (2, vi a2)] [] (Wd P Q P P c) 0 0 Z := by
  have hP := iv_P hI
  have hQ := iv_Q hI
  refine q_aload_n c_116_0 rfl (q_iload_n c_116_1 rfl (v_cv c_116_2 km_7_206 rfl rfl (Nat.le_of_ble_eq_true rfl) ⟨⟨rfl, rfl⟩, Nat.le_of_ble_eq_true rfl, rfl⟩ (Nat.le_of_ble_eq_true rfl) (Nat.le_of_ble_eq_true rfl) (q_aload_n c_96_0 rfl (q_iload_n c_96_1 rfl (q_iconst c_96_2 (q_aload_n c_96_3 rfl (v_gr (t := P) c_96_4 kf_7_50 rfl (Nat.le_of_ble_eq_true rfl) rfl ?_)))))))
  have h_24 := ir_p0_2 hI hP
  refine v_gi (z := 2) (v := c P 2) c_96_7 kf_7_168 (ck_p0 hP) (a68z hP) rfl rfl rfl (q_iconst c_96_10 (v_isub (v := c P 2 - 1) c_96_11 rfl (q_call c_96_12 rfl rfl rfl (q_iload_n c_80_0 rfl (q_iload_n c_80_1 rfl ?_)))))
  by_cases h_25 : a1 < 0
  · refine v_ic_lt_t (t := 14) c_80_2 rfl ⟨ha1.1, h_25, of_decide_eq_true rfl⟩ (q_iconst c_80_14 (v_zret c_80_15 rfl (of_decide_eq_true rfl) (bk_inl (v_cv c_96_15 km_7_333 rfl rfl (Nat.le_of_ble_eq_true rfl) ⟨⟨rfl, rfl⟩, Nat.le_of_ble_eq_true rfl, rfl⟩ (Nat.le_of_ble_eq_true rfl) (Nat.le_of_ble_eq_true rfl) (q_iload_n c_91_0 rfl (v_if_ne_f (t := 25) c_91_1 rfl (of_decide_eq_true rfl) (q_aload_n c_91_4 rfl ?_)))))))
    refine q_dup c_91_5 rfl ?_
    have h_26 := ir_0_12 hI
    refine v_gi (z := 12) (v := c 0 12) c_91_6 kf_7_327 rfl (Nat.le_of_ble_eq_true rfl) rfl rfl rfl (q_iconst c_91_9 (v_iadd (v := c 0 12 + 1) c_91_10 rfl (v_nrm (fun y_27 hy_27 => (v_pi (z := 12) c_91_11 kf_7_327 rfl (Nat.le_of_ble_eq_true rfl) rfl rfl rfl (of_decide_eq_true rfl) (v_new c_91_14 rfl (of_decide_eq_true rfl) (by omega) (Nat.le_of_ble_eq_true rfl) (of_decide_eq_true rfl) rfl (bk_out rfl rfl (bk_out rfl rfl ?_))))))))
    have hI_28 := iw_0_12 (v := y_27) hI ⟨hy_27.1, hy_27.2⟩
    exact T100 _ hI_28 (fun a j hm => up_b (Decidable.or_iff_not_imp_left.mpr (fun h1 h2 => hm (Or.inl ⟨Decidable.not_not.mp h1, h2⟩))))
  · refine v_ic_lt_f (t := 14) c_80_2 rfl ⟨of_decide_eq_true rfl, (Int.not_lt.mp h_25), ha1.2⟩ (q_iload_n c_80_5 rfl (q_iload_n c_80_6 rfl ?_))
    by_cases h_29 : a1 > c P 2 - 1
    · refine v_ic_gt_t (t := 14) c_80_7 rfl ⟨(rgm_l h_24.1 (of_decide_eq_true rfl)), h_29, ha1.2⟩ (q_iconst c_80_14 (v_zret c_80_15 rfl (of_decide_eq_true rfl) (bk_inl (v_cv c_96_15 km_7_333 rfl rfl (Nat.le_of_ble_eq_true rfl) ⟨⟨rfl, rfl⟩, Nat.le_of_ble_eq_true rfl, rfl⟩ (Nat.le_of_ble_eq_true rfl) (Nat.le_of_ble_eq_true rfl) (q_iload_n c_91_0 rfl (v_if_ne_f (t := 25) c_91_1 rfl (of_decide_eq_true rfl) (q_aload_n c_91_4 rfl ?_)))))))
      refine q_dup c_91_5 rfl ?_
      have h_30 := ir_0_12 hI
      refine v_gi (z := 12) (v := c 0 12) c_91_6 kf_7_327 rfl (Nat.le_of_ble_eq_true rfl) rfl rfl rfl (q_iconst c_91_9 (v_iadd (v := c 0 12 + 1) c_91_10 rfl (v_nrm (fun y_31 hy_31 => (v_pi (z := 12) c_91_11 kf_7_327 rfl (Nat.le_of_ble_eq_true rfl) rfl rfl rfl (of_decide_eq_true rfl) (v_new c_91_14 rfl (of_decide_eq_true rfl) (by omega) (Nat.le_of_ble_eq_true rfl) (of_decide_eq_true rfl) rfl (bk_out rfl rfl (bk_out rfl rfl ?_))))))))
      have hI_32 := iw_0_12 (v := y_31) hI ⟨hy_31.1, hy_31.2⟩
      exact T100 _ hI_32 (fun a j hm => up_b (Decidable.or_iff_not_imp_left.mpr (fun h1 h2 => hm (Or.inl ⟨Decidable.not_not.mp h1, h2⟩))))
    · refine v_ic_gt_f (t := 14) c_80_7 rfl ⟨ha1.1, (Int.not_lt.mp h_29), (rgm_h h_24.2 (of_decide_eq_true rfl))⟩ (q_iconst c_80_10 (q_goto (t := 15) c_80_11 rfl (v_zret c_80_15 rfl (of_decide_eq_true rfl) (bk_inl (v_cv c_96_15 km_7_333 rfl rfl (Nat.le_of_ble_eq_true rfl) ⟨⟨rfl, rfl⟩, Nat.le_of_ble_eq_true rfl, rfl⟩ (Nat.le_of_ble_eq_true rfl) (Nat.le_of_ble_eq_true rfl) (q_iload_n c_91_0 rfl (v_if_ne_t (t := 25) c_91_1 rfl (of_decide_eq_true rfl) ?_)))))))
      refine q_vret rfl rfl (bk_inl (q_vret rfl rfl (bk_inl (q_aload_n c_116_5 rfl (q_iload_n c_116_6 rfl (q_iconst c_116_7 (q_iconst c_116_8 ?_)))))))
      refine q_call c_116_9 rfl rfl rfl (q_iload_n c_80_0 rfl (q_iload_n c_80_1 rfl ?_))
      by_cases h_33 : a2 < 0
      · refine v_ic_lt_t (t := 14) c_80_2 rfl ⟨ha2.1, h_33, of_decide_eq_true rfl⟩ (q_iconst c_80_14 (v_zret c_80_15 rfl (of_decide_eq_true rfl) (bk_inl (v_cv c_116_12 km_7_161 rfl rfl (Nat.le_of_ble_eq_true rfl) ⟨⟨rfl, rfl⟩, Nat.le_of_ble_eq_true rfl, rfl⟩ (Nat.le_of_ble_eq_true rfl) (Nat.le_of_ble_eq_true rfl) (q_iload_n c_81_0 rfl (v_if_ne_f (t := 25) c_81_1 rfl (of_decide_eq_true rfl) (q_aload_n c_81_4 rfl ?_)))))))
        refine q_dup c_81_5 rfl ?_
        have h_34 := ir_0_13 hI
        refine v_gi (z := 13) (v := c 0 13) c_81_6 kf_7_330 rfl (Nat.le_of_ble_eq_true rfl) rfl rfl rfl (q_iconst c_81_9 (v_iadd (v := c 0 13 + 1) c_81_10 rfl (v_nrm (fun y_35 hy_35 => (v_pi (z := 13) c_81_11 kf_7_330 rfl (Nat.le_of_ble_eq_true rfl) rfl rfl rfl (of_decide_eq_true rfl) (v_new c_81_14 rfl (of_decide_eq_true rfl) (by omega) (Nat.le_of_ble_eq_true rfl) (of_decide_eq_true rfl) rfl (bk_out rfl rfl ?_)))))))
        have hI_36 := iw_0_13 (v := y_35) hI ⟨hy_35.1, hy_35.2⟩
        exact T101 _ hI_36 (fun a j hm => up_b (Decidable.or_iff_not_imp_left.mpr (fun h1 h2 => hm (Or.inr ⟨Decidable.not_not.mp h1, h2⟩))))
      · refine v_ic_lt_f (t := 14) c_80_2 rfl ⟨of_decide_eq_true rfl, (Int.not_lt.mp h_33), ha2.2⟩ (q_iload_n c_80_5 rfl (q_iload_n c_80_6 rfl ?_))
        by_cases h_37 : a2 > 1
        · refine v_ic_gt_t (t := 14) c_80_7 rfl ⟨of_decide_eq_true rfl, h_37, ha2.2⟩ (q_iconst c_80_14 (v_zret c_80_15 rfl (of_decide_eq_true rfl) (bk_inl (v_cv c_116_12 km_7_161 rfl rfl (Nat.le_of_ble_eq_true rfl) ⟨⟨rfl, rfl⟩, Nat.le_of_ble_eq_true rfl, rfl⟩ (Nat.le_of_ble_eq_true rfl) (Nat.le_of_ble_eq_true rfl) (q_iload_n c_81_0 rfl (v_if_ne_f (t := 25) c_81_1 rfl (of_decide_eq_true rfl) (q_aload_n c_81_4 rfl ?_)))))))
          refine q_dup c_81_5 rfl ?_
          have h_38 := ir_0_13 hI
          refine v_gi (z := 13) (v := c 0 13) c_81_6 kf_7_330 rfl (Nat.le_of_ble_eq_true rfl) rfl rfl rfl (q_iconst c_81_9 (v_iadd (v := c 0 13 + 1) c_81_10 rfl (v_nrm (fun y_39 hy_39 => (v_pi (z := 13) c_81_11 kf_7_330 rfl (Nat.le_of_ble_eq_true rfl) rfl rfl rfl (of_decide_eq_true rfl) (v_new c_81_14 rfl (of_decide_eq_true rfl) (by omega) (Nat.le_of_ble_eq_true rfl) (of_decide_eq_true rfl) rfl (bk_out rfl rfl ?_)))))))
          have hI_40 := iw_0_13 (v := y_39) hI ⟨hy_39.1, hy_39.2⟩
          exact T101 _ hI_40 (fun a j hm => up_b (Decidable.or_iff_not_imp_left.mpr (fun h1 h2 => hm (Or.inr ⟨Decidable.not_not.mp h1, h2⟩))))
        · refine v_ic_gt_f (t := 14) c_80_7 rfl ⟨ha2.1, (Int.not_lt.mp h_37), of_decide_eq_true rfl⟩ (q_iconst c_80_10 (q_goto (t := 15) c_80_11 rfl (v_zret c_80_15 rfl (of_decide_eq_true rfl) (bk_inl (v_cv c_116_12 km_7_161 rfl rfl (Nat.le_of_ble_eq_true rfl) ⟨⟨rfl, rfl⟩, Nat.le_of_ble_eq_true rfl, rfl⟩ (Nat.le_of_ble_eq_true rfl) (Nat.le_of_ble_eq_true rfl) (q_iload_n c_81_0 rfl (v_if_ne_t (t := 25) c_81_1 rfl (of_decide_eq_true rfl) ?_)))))))
          refine q_vret rfl rfl (bk_inl (q_iconst c_116_15 (q_istore_n c_116_16 (Nat.le_of_ble_eq_true rfl) (q_iconst c_116_17 (q_istore c_116_18 (Nat.le_of_ble_eq_true rfl) (Wp_ls [(0, .ref 0), (1, vi a1), (2, vi a2), (3, vi 0), (4, vi 0)] (lsub_cons rfl (lsub_cons rfl (lsub_cons rfl (lsub_cons rfl (lsub_cons rfl lsub_nil))))) ?_))))))
          exact (s_116_l (sc := sc) (d := d) hI ha1 ha2 T100 T101 K 16) c 0 0 hI (fun a j hm => rfl) ⟨of_decide_eq_true rfl, of_decide_eq_true rfl⟩ ⟨of_decide_eq_true rfl, of_decide_eq_true rfl⟩ ⟨(q_720657ba9 h_25), (q_1b5e4f74b h_24 h_29)⟩ (by omega)

set_option maxRecDepth 100000 in
set_option maxHeartbeats 4000000 in
theorem s_117 {sc : List Int32} {e : Int} {d u P Q : Nat} {c : ME} {a1 : Int} {Z : AR → Prop} (hI : Iv u e P Q c) (ha1 : (-2147483648) ≤ a1 ∧ a1 ≤ 2147483647) (K : ∀ (y : Int), 0 ≤ y ∧ y ≤ 1 → ((y = 0) ∨ (a1 ≥ 0 ∧ a1 ≤ 63)) → Z (.inl (some (vi y)), Wd P Q P P c, 0, 0)) : Wp sc (d + 8) 117 0 [(0, .ref 0), (1, vi a1)] [] (Wd P Q P P c) 0 0 Z := by
  have hP := iv_P hI
  have hQ := iv_Q hI
  refine q_iload_n c_117_0 rfl (q_iconst c_117_1 (q_iconst c_117_2 (q_aload_n c_117_3 rfl (v_gr (t := P) c_117_4 kf_7_50 rfl (Nat.le_of_ble_eq_true rfl) rfl ?_))))
  have h_1 := ir_p0_0 hI hP
  refine v_gi (z := 0) (v := c P 0) c_117_7 kf_7_102 (ck_p0 hP) (a68z hP) rfl rfl rfl (v_shl1 c_117_10 ⟨by omega, by omega⟩ (fun y_2 hy_2 => (q_iconst c_117_11 (v_isub (v := y_2 - 1) c_117_12 rfl (q_call c_117_13 rfl rfl rfl (q_iload_n c_80_0 rfl (q_iload_n c_80_1 rfl ?_)))))))
  by_cases h_3 : a1 < 0
  · refine v_ic_lt_t (t := 14) c_80_2 rfl ⟨ha1.1, h_3, of_decide_eq_true rfl⟩ (q_iconst c_80_14 (v_zret c_80_15 rfl (of_decide_eq_true rfl) (bk_inl (v_zret c_117_16 rfl (of_decide_eq_true rfl) ?_))))
    exact K 0 ⟨of_decide_eq_true rfl, of_decide_eq_true rfl⟩ (Or.inl (by first | assumption | omega))
  · refine v_ic_lt_f (t := 14) c_80_2 rfl ⟨of_decide_eq_true rfl, (Int.not_lt.mp h_3), ha1.2⟩ (q_iload_n c_80_5 rfl (q_iload_n c_80_6 rfl ?_))
    by_cases h_4 : a1 > y_2 - 1
    · refine v_ic_gt_t (t := 14) c_80_7 rfl ⟨(rgm_l hy_2.1 (of_decide_eq_true rfl)), h_4, ha1.2⟩ (q_iconst c_80_14 (v_zret c_80_15 rfl (of_decide_eq_true rfl) (bk_inl (v_zret c_117_16 rfl (of_decide_eq_true rfl) ?_))))
      exact K 0 ⟨of_decide_eq_true rfl, of_decide_eq_true rfl⟩ (Or.inl (by first | assumption | omega))
    · refine v_ic_gt_f (t := 14) c_80_7 rfl ⟨ha1.1, (Int.not_lt.mp h_4), (rgm_h hy_2.2 (of_decide_eq_true rfl))⟩ (q_iconst c_80_10 (q_goto (t := 15) c_80_11 rfl (v_zret c_80_15 rfl (of_decide_eq_true rfl) (bk_inl (v_zret c_117_16 rfl (of_decide_eq_true rfl) ?_)))))
      exact K 1 ⟨of_decide_eq_true rfl, of_decide_eq_true rfl⟩ (Or.inr ⟨(q_720657ba9 h_3), by omega⟩)

set_option maxRecDepth 100000 in
set_option maxHeartbeats 4000000 in
theorem s_118_l {sc : List Int32} {e : Int} {d u P Q : Nat} {c : ME} {a1 : Int} {Z : AR → Prop} (hI : Iv u e P Q c) (ha1 : (-2147483648) ≤ a1 ∧ a1 ≤ 2147483647) (K : ∀ (y : Int), (-2147483648) ≤ y ∧ y ≤ 2147483647 → Z (.inl (some (vi y)), Wd P Q P P c, 0, 0)) : ∀ n : Nat, (∀ (v2 : Int) (v3 : Int), (-2147483648) ≤ v2 ∧ v2 ≤ 2147483647 → 0 ≤ v3 ∧ v3 ≤ 6 → 13 - 2 * v3 < (n : Int) → Wp sc (d + 8) 118 4 [(0, .ref 0), (1, vi a1), (2, vi v2), (3, vi v3)] [] (Wd P Q P P c) 0 0 Z) := by
  intro n
  induction n with
  | zero => exact (by intro v2 v3 hv2 hv3 hm9; have hP := iv_P hI; have hQ := iv_Q hI; exfalso; omega)
  | succ n ih =>
    have hP := iv_P hI
    have hQ := iv_Q hI
    intro v2 v3 hv2 hv3 hm9
    refine q_iload_n c_118_4 rfl (q_aload_n c_118_5 rfl (v_gr (t := P) c_118_6 kf_7_50 rfl (Nat.le_of_ble_eq_true rfl) rfl ?_))
    have h_1 := ir_p0_0 hI hP
    refine v_gi (z := 0) (v := c P 0) c_118_9 kf_7_102 (ck_p0 hP) (a68z hP) rfl rfl rfl ?_
    by_cases h_2 : v3 ≥ c P 0
    · refine v_ic_ge_t (t := 41) c_118_12 rfl ⟨(lel h_1.1 rfl), h_2, (ler hv3.2 rfl)⟩ (q_iload_n c_118_41 rfl (q_iret c_118_42 rfl ?_))
      exact K v2 hv2
    · refine v_ic_ge_f (t := 41) c_118_12 rfl ⟨(lel hv3.1 rfl), (Int.not_le.mp h_2), (ler h_1.2 rfl)⟩ (q_iload_n c_118_15 rfl (q_iload_n c_118_16 rfl (v_ishrx c_118_17 (fun y_3 hy_3 => (q_iconst c_118_18 (v_iandx c_118_19 (fun y_4 hy_4 => (q_iconst c_118_20 ?_))))))))
      by_cases h_5 : y_4 ≠ 1
      · refine v_ic_ne_t (t := 35) c_118_21 rfl ⟨h_5, ⟨hy_4.1, hy_4.2⟩, of_decide_eq_true rfl, of_decide_eq_true rfl⟩ (v_iinc (v := v3 + 1) c_118_35 rfl (Nat.le_of_ble_eq_true rfl) rfl (q_goto (t := 4) c_118_38 rfl (Wp_ls [(0, .ref 0), (1, vi a1), (2, vi v2), (3, vi (v3 + 1))] (lsub_cons rfl (lsub_cons rfl (lsub_cons rfl (lsub_cons rfl lsub_nil)))) ?_)))
        exact ih v2 (v3 + 1) hv2 ⟨(rgp_l hv3.1 (of_decide_eq_true rfl)), (q_4a76cd9c7 h_1 h_2)⟩ (by omega)
      · refine v_ic_ne_f (t := 35) c_118_21 rfl (Decidable.not_not.mp h_5) (q_iload_n c_118_24 rfl (q_aload_n c_118_25 rfl (v_gr (t := 37) c_118_26 kf_7_62 rfl (Nat.le_of_ble_eq_true rfl) rfl (q_iload_n c_118_29 rfl ?_))))
        have h_6 := ir_38_g hI (j := 4 * v3) ((q_aa51b186e h_1 h_2))
        have h_7 := ir_38_g hI (j := 4 * v3 + 1) ((q_57851f9de h_1 h_2))
        have h_8 := ir_38_g hI (j := 4 * v3 + 2) ((q_7296e74e6 h_1 h_2))
        have h_9 := ir_38_g hI (j := 4 * v3 + 3) ((q_b15525c4c h_1 h_2))
        refine v_cv c_118_30 km_7_187 rfl rfl (Nat.le_of_ble_eq_true rfl) ⟨⟨rfl, rfl⟩, Nat.le_of_ble_eq_true rfl, rfl⟩ (Nat.le_of_ble_eq_true rfl) (Nat.le_of_ble_eq_true rfl) (s_43 (v1 := c 38 (4 * v3)) (v2 := c 38 (4 * v3 + 1)) (v3 := c 38 (4 * v3 + 2)) (v4 := c 38 (4 * v3 + 3)) (r := c 38 (4 * v3 + 1) + c 38 (4 * v3 + 2) + c 38 (4 * v3 + 3) + c 38 (4 * v3)) (a1 := v3) hI (.inl ⟨rfl, rfl⟩) (show 0 ≤ v3 ∧ v3 ≤ 5 from ⟨hv3.1, (q_d63a8538e h_1 h_2)⟩) (rfl) (rfl) (rfl) (rfl) (by omega) (bk_inl (v_iadd (v := c 38 (4 * v3 + 1) + c 38 (4 * v3 + 2) + c 38 (4 * v3 + 3) + c 38 (4 * v3) + v2) c_118_33 (by omega) (v_nrm (fun y_10 hy_10 => (q_istore_n c_118_34 (Nat.le_of_ble_eq_true rfl) (v_iinc (v := v3 + 1) c_118_35 rfl (Nat.le_of_ble_eq_true rfl) rfl (q_goto (t := 4) c_118_38 rfl (Wp_ls [(0, .ref 0), (1, vi a1), (2, vi y_10), (3, vi (v3 + 1))] (lsub_cons rfl (lsub_cons rfl (lsub_cons rfl (lsub_cons rfl lsub_nil)))) ?_)))))))))
        exact ih y_10 (v3 + 1) hy_10 ⟨(rgp_l hv3.1 (of_decide_eq_true rfl)), (q_4a76cd9c7 h_1 h_2)⟩ (by omega)
set_option maxRecDepth 100000 in
set_option maxHeartbeats 4000000 in
theorem s_118 {sc : List Int32} {e : Int} {d u P Q : Nat} {c : ME} {a1 : Int} {Z : AR → Prop} (hI : Iv u e P Q c) (ha1 : (-2147483648) ≤ a1 ∧ a1 ≤ 2147483647) (K : ∀ (y : Int), (-2147483648) ≤ y ∧ y ≤ 2147483647 → Z (.inl (some (vi y)), Wd P Q P P c, 0, 0)) : Wp sc (d + 8) 118 0 [(0, .ref 0), (1, vi a1)] [] (Wd P Q P P c) 0 0 Z := by
  have hP := iv_P hI
  have hQ := iv_Q hI
  refine q_iconst c_118_0 (q_istore_n c_118_1 (Nat.le_of_ble_eq_true rfl) (q_iconst c_118_2 (q_istore_n c_118_3 (Nat.le_of_ble_eq_true rfl) (Wp_ls [(0, .ref 0), (1, vi a1), (2, vi 0), (3, vi 0)] (lsub_cons rfl (lsub_cons rfl (lsub_cons rfl (lsub_cons rfl lsub_nil)))) ?_))))
  exact (s_118_l (sc := sc) (d := d) hI ha1 K 16) 0 0 ⟨of_decide_eq_true rfl, of_decide_eq_true rfl⟩ ⟨of_decide_eq_true rfl, of_decide_eq_true rfl⟩ (by omega)

set_option maxRecDepth 100000 in
set_option maxHeartbeats 4000000 in
theorem s_119_l {sc : List Int32} {e : Int} {d u P Q : Nat} {c : ME} {a1 : Int} {a2 : Int} {Z : AR → Prop} (hI : Iv u e P Q c) (ha1 : (-2147483648) ≤ a1 ∧ a1 ≤ 2147483647) (ha2 : (-2147483648) ≤ a2 ∧ a2 ≤ 2147483647) (T101 : ∀ c2 : ME, Iv u e P Q c2 → (∀ (a : Nat) (j : Int), ¬ ((a = 0 ∧ j = 13)) → c2 a j = c a j) → Z (.inr 101, Wd P Q P P c2, 1, 6)) (K : ∀ (c2 : ME) (y : Int), Iv u e P Q c2 → (∀ (a : Nat) (j : Int), ¬ ((a = 0 ∧ j = 13)) → c2 a j = c a j) → (-2147483648) ≤ y ∧ y ≤ 2147483647 → Z (.inl (some (vi y)), Wd P Q P P c2, 0, 0)) : ∀ n : Nat, (∀ (c2 : ME) (v3 : Int) (v4 : Int) (v5 : Int) (v6 : Int) (v7 : Int), Iv u e P Q c2 → (∀ (a : Nat) (j : Int), ¬ ((a = 0 ∧ j = 13)) → c2 a j = c a j) → (-2147483648) ≤ v3 ∧ v3 ≤ 2147483647 → (-2147483648) ≤ v4 ∧ v4 ≤ 2147483647 → (-2147483648) ≤ v5 ∧ v5 ≤ 2147483647 → (-2147483648) ≤ v6 ∧ v6 ≤ 2147483647 → 0 ≤ v7 ∧ v7 ≤ 64 → ((a1 ≥ 0 ∧ a1 ≤ 63)) → 129 - 2 * v7 < (n : Int) → Wp sc (d + 9) 119 48 [(0, .ref 0), (1, vi a1), (2, vi a2), (3, vi v3), (4, vi v4), (5, vi v5), (6, vi v6), (7, vi v7)] [] (Wd P Q P P c2) 0 0 Z) := by
  intro n
  induction n with
  | zero => exact (by intro c2 v3 v4 v5 v6 v7 hI2 hF hv3 hv4 hv5 hv6 hv7 hx0 hm9; have hP := iv_P hI; have hQ := iv_Q hI; exfalso; omega)
  | succ n ih =>
    have hP := iv_P hI
    have hQ := iv_Q hI
    intro c2 v3 v4 v5 v6 v7 hI2 hF hv3 hv4 hv5 hv6 hv7 hx0 hm9
    refine q_iload c_119_48 rfl (q_iload_n c_119_50 rfl ?_)
    by_cases h_1 : v7 > a1
    · refine v_ic_gt_t (t := 122) c_119_51 rfl ⟨ha1.1, h_1, (ler hv7.2 rfl)⟩ (q_iload_n c_119_122 rfl ?_)
      by_cases h_2 : a2 ≠ 0
      · refine v_if_ne_t (t := 131) c_119_123 rfl ⟨h_2, ⟨ha2.1, ha2.2⟩, of_decide_eq_true rfl, of_decide_eq_true rfl⟩ (q_iload c_119_131 rfl (q_iret c_119_133 rfl ?_))
        exact K c2 v6 hI2 (fun a j hm => hF a j hm) hv6
      · refine v_if_ne_f (t := 131) c_119_123 rfl (Decidable.not_not.mp h_2) (q_iload c_119_126 rfl (q_goto (t := 133) c_119_128 rfl (q_iret c_119_133 rfl ?_)))
        exact K c2 v5 hI2 (fun a j hm => hF a j hm) hv5
    · refine v_ic_gt_f (t := 122) c_119_51 rfl ⟨(lel hv7.1 rfl), (Int.not_lt.mp h_1), ha1.2⟩ (q_iload c_119_54 rfl (q_iload_n c_119_56 rfl (q_iconst c_119_57 (v_ixorx c_119_58 (fun y_3 hy_3 => (v_iandl c_119_59 ⟨by omega, by omega⟩ (fun y_4 hy_4 => ?_)))))))
      by_cases h_5 : y_4 ≠ 0
      · refine v_if_ne_t (t := 116) c_119_60 rfl ⟨h_5, ⟨by omega, by omega⟩, of_decide_eq_true rfl, of_decide_eq_true rfl⟩ (v_iinc (v := v7 + 1) c_119_116 rfl (Nat.le_of_ble_eq_true rfl) rfl (q_goto (t := 48) c_119_119 rfl (Wp_ls [(0, .ref 0), (1, vi a1), (2, vi a2), (3, vi v3), (4, vi v4), (5, vi v5), (6, vi v6), (7, vi (v7 + 1))] (lsub_cons rfl (lsub_cons rfl (lsub_cons rfl (lsub_cons rfl (lsub_cons rfl (lsub_cons rfl (lsub_cons rfl (lsub_cons rfl lsub_nil)))))))) ?_)))
        exact ih c2 v3 v4 v5 v6 (v7 + 1) hI2 (fun a j hm => hF a j hm) hv3 hv4 hv5 hv6 ⟨(rgp_l hv7.1 (of_decide_eq_true rfl)), by first | (clear ha1 ha2 hv3 hv4 hv5 hv6 hv7 h_5; omega) | omega⟩ ⟨by first | (clear ha1 ha2 hv3 hv4 hv5 hv6 hv7 h_1 h_5; omega) | omega, by first | (clear ha1 ha2 hv3 hv4 hv5 hv6 hv7 h_1 h_5; omega) | omega⟩ (by omega)
      · refine v_if_ne_f (t := 116) c_119_60 rfl (Decidable.not_not.mp h_5) (q_iload c_119_63 rfl (q_iload_n c_119_65 rfl (v_iandl c_119_66 ⟨by omega, by omega⟩ (fun y_6 hy_6 => (q_iload_n c_119_67 rfl ?_)))))
        by_cases h_7 : y_6 ≠ v3
        · refine v_ic_ne_t (t := 116) c_119_68 rfl ⟨h_7, ⟨by omega, by omega⟩, hv3.1, hv3.2⟩ (v_iinc (v := v7 + 1) c_119_116 rfl (Nat.le_of_ble_eq_true rfl) rfl (q_goto (t := 48) c_119_119 rfl (Wp_ls [(0, .ref 0), (1, vi a1), (2, vi a2), (3, vi v3), (4, vi v4), (5, vi v5), (6, vi v6), (7, vi (v7 + 1))] (lsub_cons rfl (lsub_cons rfl (lsub_cons rfl (lsub_cons rfl (lsub_cons rfl (lsub_cons rfl (lsub_cons rfl (lsub_cons rfl lsub_nil)))))))) ?_)))
          exact ih c2 v3 v4 v5 v6 (v7 + 1) hI2 (fun a j hm => hF a j hm) hv3 hv4 hv5 hv6 ⟨(rgp_l hv7.1 (of_decide_eq_true rfl)), by first | (clear ha1 ha2 hv3 hv4 hv5 hv6 hv7 h_5 h_7; omega) | omega⟩ ⟨by first | (clear ha1 ha2 hv3 hv4 hv5 hv6 hv7 h_1 h_5 h_7; omega) | omega, by first | (clear ha1 ha2 hv3 hv4 hv5 hv6 hv7 h_1 h_5 h_7; omega) | omega⟩ (by omega)
        · refine v_ic_ne_f (t := 116) c_119_68 rfl (Decidable.not_not.mp h_7) (q_iload c_119_71 rfl (q_iconst c_119_73 (q_aload_n c_119_74 rfl (q_iload c_119_75 rfl (v_cv c_119_77 km_7_262 rfl rfl (Nat.le_of_ble_eq_true rfl) ⟨⟨rfl, rfl⟩, Nat.le_of_ble_eq_true rfl, rfl⟩ (Nat.le_of_ble_eq_true rfl) (Nat.le_of_ble_eq_true rfl) (s_118 (a1 := v7) hI2 (show (-2147483648) ≤ v7 ∧ v7 ≤ 2147483647 from ⟨(lel hv7.1 rfl), (ler hv7.2 rfl)⟩) (fun y_8 hy_8 => (bk_inl (v_imul (v := 2 * y_8) c_119_80 rfl ?_)))))))))
          refine v_nrm (fun y_9 hy_9 => (v_isub (v := v4 - y_9) c_119_81 rfl (v_nrm (fun y_10 hy_10 => (v_absx c_119_82 rfl (by omega) (Nat.le_of_ble_eq_true rfl) (fun y_11 hy_11 => (q_istore c_119_85 (Nat.le_of_ble_eq_true rfl) (q_iload c_119_87 rfl (q_iload c_119_89 rfl ?_)))))))))
          by_cases h_12 : y_11 < v5
          · refine v_ic_lt_t (t := 108) c_119_91 rfl ⟨hy_11.1, h_12, hv5.2⟩ (q_iload c_119_108 rfl (q_istore c_119_110 (Nat.le_of_ble_eq_true rfl) (q_iload c_119_112 rfl (q_istore c_119_114 (Nat.le_of_ble_eq_true rfl) (v_iinc (v := v7 + 1) c_119_116 rfl (Nat.le_of_ble_eq_true rfl) rfl (q_goto (t := 48) c_119_119 rfl (Wp_ls [(0, .ref 0), (1, vi a1), (2, vi a2), (3, vi v3), (4, vi v4), (5, vi y_11), (6, vi v7), (7, vi (v7 + 1))] (lsub_cons rfl (lsub_cons rfl (lsub_cons rfl (lsub_cons rfl (lsub_cons rfl (lsub_cons rfl (lsub_cons rfl (lsub_cons rfl lsub_nil)))))))) ?_)))))))
            exact ih c2 v3 v4 y_11 v7 (v7 + 1) hI2 (fun a j hm => hF a j hm) hv3 hv4 hy_11 ⟨(lel hv7.1 rfl), (ler hv7.2 rfl)⟩ ⟨(rgp_l hv7.1 (of_decide_eq_true rfl)), by omega⟩ ⟨by omega, by omega⟩ (by omega)
          · refine v_ic_lt_f (t := 108) c_119_91 rfl ⟨hv5.1, (Int.not_lt.mp h_12), hy_11.2⟩ (q_iload c_119_94 rfl (q_iload c_119_96 rfl ?_))
            by_cases h_13 : y_11 ≠ v5
            · refine v_ic_ne_t (t := 116) c_119_98 rfl ⟨h_13, ⟨hy_11.1, hy_11.2⟩, hv5.1, hv5.2⟩ (v_iinc (v := v7 + 1) c_119_116 rfl (Nat.le_of_ble_eq_true rfl) rfl (q_goto (t := 48) c_119_119 rfl (Wp_ls [(0, .ref 0), (1, vi a1), (2, vi a2), (3, vi v3), (4, vi v4), (5, vi v5), (6, vi v6), (7, vi (v7 + 1))] (lsub_cons rfl (lsub_cons rfl (lsub_cons rfl (lsub_cons rfl (lsub_cons rfl (lsub_cons rfl (lsub_cons rfl (lsub_cons rfl lsub_nil)))))))) ?_)))
              exact ih c2 v3 v4 v5 v6 (v7 + 1) hI2 (fun a j hm => hF a j hm) hv3 hv4 hv5 hv6 ⟨(rgp_l hv7.1 (of_decide_eq_true rfl)), by first | (clear ha1 ha2 hv3 hv4 hv5 hv6 hv7 h_5 h_7 h_12 h_13; omega) | omega⟩ ⟨by first | (clear ha1 ha2 hv3 hv4 hv5 hv6 hv7 h_1 h_5 h_7 h_12 h_13; omega) | omega, by first | (clear ha1 ha2 hv3 hv4 hv5 hv6 hv7 h_1 h_5 h_7 h_12 h_13; omega) | omega⟩ (by omega)
            · refine v_ic_ne_f (t := 116) c_119_98 rfl (Decidable.not_not.mp h_13) (q_iload c_119_101 rfl (q_iload c_119_103 rfl ?_))
              by_cases h_14 : v7 ≥ v6
              · refine v_ic_ge_t (t := 116) c_119_105 rfl ⟨hv6.1, h_14, (ler hv7.2 rfl)⟩ (v_iinc (v := v7 + 1) c_119_116 rfl (Nat.le_of_ble_eq_true rfl) rfl (q_goto (t := 48) c_119_119 rfl (Wp_ls [(0, .ref 0), (1, vi a1), (2, vi a2), (3, vi v3), (4, vi v4), (5, vi v5), (6, vi v6), (7, vi (v7 + 1))] (lsub_cons rfl (lsub_cons rfl (lsub_cons rfl (lsub_cons rfl (lsub_cons rfl (lsub_cons rfl (lsub_cons rfl (lsub_cons rfl lsub_nil)))))))) ?_)))
                exact ih c2 v3 v4 v5 v6 (v7 + 1) hI2 (fun a j hm => hF a j hm) hv3 hv4 hv5 hv6 ⟨(rgp_l hv7.1 (of_decide_eq_true rfl)), by first | (clear ha1 ha2 hv3 hv4 hv5 hv6 hv7 h_5 h_7 h_12 h_13 h_14; omega) | omega⟩ ⟨by first | (clear ha1 ha2 hv3 hv4 hv5 hv6 hv7 h_1 h_5 h_7 h_12 h_13 h_14; omega) | omega, by first | (clear ha1 ha2 hv3 hv4 hv5 hv6 hv7 h_1 h_5 h_7 h_12 h_13 h_14; omega) | omega⟩ (by omega)
              · refine v_ic_ge_f (t := 116) c_119_105 rfl ⟨(lel hv7.1 rfl), (Int.not_le.mp h_14), hv6.2⟩ (q_iload c_119_108 rfl (q_istore c_119_110 (Nat.le_of_ble_eq_true rfl) (q_iload c_119_112 rfl (q_istore c_119_114 (Nat.le_of_ble_eq_true rfl) (v_iinc (v := v7 + 1) c_119_116 rfl (Nat.le_of_ble_eq_true rfl) rfl (q_goto (t := 48) c_119_119 rfl (Wp_ls [(0, .ref 0), (1, vi a1), (2, vi a2), (3, vi v3), (4, vi v4), (5, vi y_11), (6, vi v7), (7, vi (v7 + 1))] (lsub_cons rfl (lsub_cons rfl (lsub_cons rfl (lsub_cons rfl (lsub_cons rfl (lsub_cons rfl (lsub_cons rfl (lsub_cons rfl lsub_nil)))))))) ?_)))))))
                exact ih c2 v3 v4 y_11 v7 (v7 + 1) hI2 (fun a j hm => hF a j hm) hv3 hv4 hy_11 ⟨(lel hv7.1 rfl), (ler hv7.2 rfl)⟩ ⟨(rgp_l hv7.1 (of_decide_eq_true rfl)), by first | (clear ha1 ha2 hv3 hv4 hv5 hv6 hv7 h_5 h_7 h_12 h_13 h_14; omega) | omega⟩ ⟨by first | (clear ha1 ha2 hv3 hv4 hv5 hv6 hv7 h_1 h_5 h_7 h_12 h_13 h_14; omega) | omega, by first | (clear ha1 ha2 hv3 hv4 hv5 hv6 hv7 h_1 h_5 h_7 h_12 h_13 h_14; omega) | omega⟩ (by omega)
set_option maxRecDepth 100000 in
set_option maxHeartbeats 4000000 in
theorem s_119 {sc : List Int32} {e : Int} {d u P Q : Nat} {c : ME} {a1 : Int} {a2 : Int} {Z : AR → Prop} (hI : Iv u e P Q c) (ha1 : (-2147483648) ≤ a1 ∧ a1 ≤ 2147483647) (ha2 : (-2147483648) ≤ a2 ∧ a2 ≤ 2147483647) (T101 : ∀ c2 : ME, Iv u e P Q c2 → (∀ (a : Nat) (j : Int), ¬ ((a = 0 ∧ j = 13)) → c2 a j = c a j) → Z (.inr 101, Wd P Q P P c2, 1, 6)) (K : ∀ (c2 : ME) (y : Int), Iv u e P Q c2 → (∀ (a : Nat) (j : Int), ¬ ((a = 0 ∧ j = 13)) → c2 a j = c a j) → (-2147483648) ≤ y ∧ y ≤ 2147483647 → Z (.inl (some (vi y)), Wd P Q P P c2, 0, 0)) : Wp sc (d + 9) 119 0 [(0, .ref 0), (1, vi a1), (2, vi a2)] [] (Wd P Q P P c) 0 0 Z := by
  have hP := iv_P hI
  have hQ := iv_Q hI
  refine q_aload_n c_119_0 rfl (q_aload_n c_119_1 rfl (q_iload_n c_119_2 rfl (v_cv c_119_3 km_7_259 rfl rfl (Nat.le_of_ble_eq_true rfl) ⟨⟨rfl, rfl⟩, Nat.le_of_ble_eq_true rfl, rfl⟩ (Nat.le_of_ble_eq_true rfl) (Nat.le_of_ble_eq_true rfl) (s_117 (a1 := a1) hI (show (-2147483648) ≤ a1 ∧ a1 ≤ 2147483647 from ha1) (fun y_15 hy_15 h_16 => (bk_inl ?_))))))
  by_cases h_17 : y_15 = 0
  · refine v_if_eq_t (t := 22) c_119_6 rfl h_17 (q_iconst c_119_22 (v_cv c_119_23 km_7_161 rfl rfl (Nat.le_of_ble_eq_true rfl) ⟨⟨rfl, rfl⟩, Nat.le_of_ble_eq_true rfl, rfl⟩ (Nat.le_of_ble_eq_true rfl) (Nat.le_of_ble_eq_true rfl) (q_iload_n c_81_0 rfl (v_if_ne_f (t := 25) c_81_1 rfl (of_decide_eq_true rfl) (q_aload_n c_81_4 rfl (q_dup c_81_5 rfl ?_))))))
    have h_18 := ir_0_13 hI
    refine v_gi (z := 13) (v := c 0 13) c_81_6 kf_7_330 rfl (Nat.le_of_ble_eq_true rfl) rfl rfl rfl (q_iconst c_81_9 (v_iadd (v := c 0 13 + 1) c_81_10 rfl (v_nrm (fun y_19 hy_19 => (v_pi (z := 13) c_81_11 kf_7_330 rfl (Nat.le_of_ble_eq_true rfl) rfl rfl rfl (of_decide_eq_true rfl) (v_new c_81_14 rfl (of_decide_eq_true rfl) (by omega) (Nat.le_of_ble_eq_true rfl) (of_decide_eq_true rfl) rfl (bk_out rfl rfl ?_)))))))
    have hI_20 := iw_0_13 (v := y_19) hI ⟨hy_19.1, hy_19.2⟩
    exact T101 _ hI_20 (fun a j hm => up_b (Decidable.or_iff_not_imp_left.mpr (fun h1 h2 => hm ⟨Decidable.not_not.mp h1, h2⟩)))
  · refine v_if_eq_f (t := 22) c_119_6 rfl ⟨h_17, ⟨(lel hy_15.1 rfl), (ler hy_15.2 rfl)⟩, of_decide_eq_true rfl, of_decide_eq_true rfl⟩ (q_iload_n c_119_9 rfl (q_iconst c_119_10 (q_iconst c_119_11 (q_call c_119_12 rfl rfl rfl (q_iload_n c_80_0 rfl (q_iload_n c_80_1 rfl ?_))))))
    by_cases h_21 : a2 < 0
    · refine v_ic_lt_t (t := 14) c_80_2 rfl ⟨ha2.1, h_21, of_decide_eq_true rfl⟩ (q_iconst c_80_14 (v_zret c_80_15 rfl (of_decide_eq_true rfl) (bk_inl (v_if_eq_t (t := 22) c_119_15 rfl (of_decide_eq_true rfl) (q_iconst c_119_22 (v_cv c_119_23 km_7_161 rfl rfl (Nat.le_of_ble_eq_true rfl) ⟨⟨rfl, rfl⟩, Nat.le_of_ble_eq_true rfl, rfl⟩ (Nat.le_of_ble_eq_true rfl) (Nat.le_of_ble_eq_true rfl) (q_iload_n c_81_0 rfl ?_)))))))
      refine v_if_ne_f (t := 25) c_81_1 rfl (of_decide_eq_true rfl) (q_aload_n c_81_4 rfl (q_dup c_81_5 rfl ?_))
      have h_22 := ir_0_13 hI
      refine v_gi (z := 13) (v := c 0 13) c_81_6 kf_7_330 rfl (Nat.le_of_ble_eq_true rfl) rfl rfl rfl (q_iconst c_81_9 (v_iadd (v := c 0 13 + 1) c_81_10 rfl (v_nrm (fun y_23 hy_23 => (v_pi (z := 13) c_81_11 kf_7_330 rfl (Nat.le_of_ble_eq_true rfl) rfl rfl rfl (of_decide_eq_true rfl) (v_new c_81_14 rfl (of_decide_eq_true rfl) (by omega) (Nat.le_of_ble_eq_true rfl) (of_decide_eq_true rfl) rfl (bk_out rfl rfl ?_)))))))
      have hI_24 := iw_0_13 (v := y_23) hI ⟨hy_23.1, hy_23.2⟩
      exact T101 _ hI_24 (fun a j hm => up_b (Decidable.or_iff_not_imp_left.mpr (fun h1 h2 => hm ⟨Decidable.not_not.mp h1, h2⟩)))
    · refine v_ic_lt_f (t := 14) c_80_2 rfl ⟨of_decide_eq_true rfl, (Int.not_lt.mp h_21), ha2.2⟩ (q_iload_n c_80_5 rfl (q_iload_n c_80_6 rfl ?_))
      by_cases h_25 : a2 > 1
      · refine v_ic_gt_t (t := 14) c_80_7 rfl ⟨of_decide_eq_true rfl, h_25, ha2.2⟩ (q_iconst c_80_14 (v_zret c_80_15 rfl (of_decide_eq_true rfl) (bk_inl (v_if_eq_t (t := 22) c_119_15 rfl (of_decide_eq_true rfl) (q_iconst c_119_22 (v_cv c_119_23 km_7_161 rfl rfl (Nat.le_of_ble_eq_true rfl) ⟨⟨rfl, rfl⟩, Nat.le_of_ble_eq_true rfl, rfl⟩ (Nat.le_of_ble_eq_true rfl) (Nat.le_of_ble_eq_true rfl) (q_iload_n c_81_0 rfl ?_)))))))
        refine v_if_ne_f (t := 25) c_81_1 rfl (of_decide_eq_true rfl) (q_aload_n c_81_4 rfl (q_dup c_81_5 rfl ?_))
        have h_26 := ir_0_13 hI
        refine v_gi (z := 13) (v := c 0 13) c_81_6 kf_7_330 rfl (Nat.le_of_ble_eq_true rfl) rfl rfl rfl (q_iconst c_81_9 (v_iadd (v := c 0 13 + 1) c_81_10 rfl (v_nrm (fun y_27 hy_27 => (v_pi (z := 13) c_81_11 kf_7_330 rfl (Nat.le_of_ble_eq_true rfl) rfl rfl rfl (of_decide_eq_true rfl) (v_new c_81_14 rfl (of_decide_eq_true rfl) (by omega) (Nat.le_of_ble_eq_true rfl) (of_decide_eq_true rfl) rfl (bk_out rfl rfl ?_)))))))
        have hI_28 := iw_0_13 (v := y_27) hI ⟨hy_27.1, hy_27.2⟩
        exact T101 _ hI_28 (fun a j hm => up_b (Decidable.or_iff_not_imp_left.mpr (fun h1 h2 => hm ⟨Decidable.not_not.mp h1, h2⟩)))
      · refine v_ic_gt_f (t := 14) c_80_7 rfl ⟨ha2.1, (Int.not_lt.mp h_25), of_decide_eq_true rfl⟩ (q_iconst c_80_10 (q_goto (t := 15) c_80_11 rfl (v_zret c_80_15 rfl (of_decide_eq_true rfl) (bk_inl (v_if_eq_f (t := 22) c_119_15 rfl (of_decide_eq_true rfl) (q_iconst c_119_18 (q_goto (t := 23) c_119_19 rfl ?_)))))))
        refine v_cv c_119_23 km_7_161 rfl rfl (Nat.le_of_ble_eq_true rfl) ⟨⟨rfl, rfl⟩, Nat.le_of_ble_eq_true rfl, rfl⟩ (Nat.le_of_ble_eq_true rfl) (Nat.le_of_ble_eq_true rfl) (q_iload_n c_81_0 rfl (v_if_ne_t (t := 25) c_81_1 rfl (of_decide_eq_true rfl) (q_vret rfl rfl (bk_inl (q_iload_n c_119_26 rfl (q_iload_n c_119_27 rfl (v_ineg (v := 0 - a1) c_119_28 (by omega) ?_)))))))
        refine v_iandl c_119_29 ⟨by omega, by omega⟩ (fun y_29 hy_29 => (q_istore_n c_119_30 (Nat.le_of_ble_eq_true rfl) (q_aload_n c_119_31 rfl (q_iload_n c_119_32 rfl (v_cv c_119_33 km_7_262 rfl rfl (Nat.le_of_ble_eq_true rfl) ⟨⟨rfl, rfl⟩, Nat.le_of_ble_eq_true rfl, rfl⟩ (Nat.le_of_ble_eq_true rfl) (Nat.le_of_ble_eq_true rfl) (s_118 (a1 := a1) hI (show (-2147483648) ≤ a1 ∧ a1 ≤ 2147483647 from ha1) (fun y_30 hy_30 => (bk_inl (q_istore c_119_36 (Nat.le_of_ble_eq_true rfl) (q_iload c_119_38 rfl ?_))))))))))
        refine q_istore c_119_40 (Nat.le_of_ble_eq_true rfl) (q_iload_n c_119_42 rfl (q_istore c_119_43 (Nat.le_of_ble_eq_true rfl) (q_iconst c_119_45 (q_istore c_119_46 (Nat.le_of_ble_eq_true rfl) (Wp_ls [(0, .ref 0), (1, vi a1), (2, vi a2), (3, vi y_29), (4, vi y_30), (5, vi y_30), (6, vi a1), (7, vi 0)] (lsub_cons rfl (lsub_cons rfl (lsub_cons rfl (lsub_cons rfl (lsub_cons rfl (lsub_cons rfl (lsub_cons rfl (lsub_cons rfl lsub_nil)))))))) ?_)))))
        exact (s_119_l (sc := sc) (d := d) hI ha1 ha2 T101 K 132) c y_29 y_30 y_30 a1 0 hI (fun a j hm => rfl) ⟨by first | (clear ha1 ha2 h_21 h_25 h_16 h_17; omega) | omega, by first | (clear ha1 ha2 h_21 h_25 h_16 h_17; omega) | omega⟩ hy_30 hy_30 ha1 ⟨of_decide_eq_true rfl, of_decide_eq_true rfl⟩ ⟨by first | (clear ha1 ha2 h_21 h_25 h_16 h_17; omega) | omega, (q_591ef6fa4 h_16 h_17)⟩ (by omega)

set_option maxRecDepth 100000 in
set_option maxHeartbeats 4000000 in
theorem s_120_l {sc : List Int32} {e : Int} {d u P Q : Nat} {c : ME} {Z : AR → Prop} (hI : Iv u e P Q c)  (K : ∀ (c2 : ME), Iv u e P Q c2 → (∀ (a : Nat) (j : Int), ¬ (a = 11 ∨ a = (P + 10) ∨ a = (P + 11)) → c2 a j = c a j) → Z (.inl (none), Wd P Q P P c2, 0, 0)) : ∀ n : Nat, (∀ (c2 : ME) (v1 : Int), Iv u e P Q c2 → (∀ (a : Nat) (j : Int), ¬ (a = 11 ∨ a = (P + 10) ∨ a = (P + 11)) → c2 a j = c a j) → 0 ≤ v1 ∧ v1 ≤ 6 → 13 - 2 * v1 < (n : Int) → Wp sc (d + 10) 120 2 [(0, .ref 0), (1, vi v1)] [] (Wd P Q P P c2) 0 0 Z) := by
  intro n
  induction n with
  | zero => exact (by intro c2 v1 hI2 hF hv1 hm9; have hP := iv_P hI; have hQ := iv_Q hI; exfalso; omega)
  | succ n ih =>
    have hP := iv_P hI
    have hQ := iv_Q hI
    intro c2 v1 hI2 hF hv1 hm9
    refine q_iload_n c_120_2 rfl (q_aload_n c_120_3 rfl (v_gr (t := P) c_120_4 kf_7_50 rfl (Nat.le_of_ble_eq_true rfl) rfl ?_))
    have h_1 := ir_p0_0 hI hP
    have kn_2 : Hid (c2 P 0 = c P 0) := hF P 0 (qn_a24b4b71d hP)
    refine v_gi (z := 0) (v := c P 0) c_120_7 kf_7_102 (ck_p0 hP) (a68z hP) rfl rfl (hid kn_2) ?_
    by_cases h_3 : v1 ≥ c P 0
    · refine v_ic_ge_t (t := 33) c_120_10 rfl ⟨(q_730ab5169 h_1), h_3, (ler hv1.2 rfl)⟩ (q_vret rfl rfl ?_)
      exact K c2 hI2 (fun a j hm => hF a j hm)
    · refine v_ic_ge_f (t := 33) c_120_10 rfl ⟨(lel hv1.1 rfl), (Int.not_le.mp h_3), (q_b289b7db2 h_1)⟩ (q_aload_n c_120_13 rfl (v_gr (t := 11) c_120_14 kf_7_41 rfl (Nat.le_of_ble_eq_true rfl) rfl (q_iload_n c_120_17 rfl (q_aload_n c_120_18 rfl (v_gr (t := 37) c_120_19 kf_7_62 rfl (Nat.le_of_ble_eq_true rfl) rfl (q_iload_n c_120_22 rfl (v_cv c_120_23 km_7_223 rfl rfl (Nat.le_of_ble_eq_true rfl) ⟨⟨rfl, rfl⟩, Nat.le_of_ble_eq_true rfl, rfl⟩ (Nat.le_of_ble_eq_true rfl) (Nat.le_of_ble_eq_true rfl) (s_56 (a1 := v1) hI2 (.inl ⟨rfl, rfl⟩) (show 0 ≤ v1 ∧ v1 ≤ 5 from ⟨hv1.1, (q_d63a8538e h_1 h_3)⟩) (fun c_4 y_7 hI_5 hF_6 hy_7 => ?_)))))))))
      refine bk_inl (v_is c_120_26 rfl (of_decide_eq_true rfl) (of_decide_eq_true rfl) ⟨hv1.1, (q_71a18878d h_1 h_3)⟩ (v_iinc (v := v1 + 1) c_120_27 rfl (Nat.le_of_ble_eq_true rfl) rfl (q_goto (t := 2) c_120_30 rfl ?_)))
      have hI_8 := iw_11 (j := v1) (v := y_7) hI_5 ⟨(lel hy_7.1 rfl), (ler hy_7.2 rfl)⟩
      refine Wp_ls [(0, .ref 0), (1, vi (v1 + 1))] (lsub_cons rfl (lsub_cons rfl lsub_nil)) ?_
      exact ih (up c_4 11 v1 y_7) (v1 + 1) hI_8 (fun a j hm => (up_b (Decidable.or_iff_not_imp_left.mpr (fun h1 h2 => hm (Or.inl (Decidable.not_not.mp h1))))).trans ((hF_6 a j (qv_448150911 hm)).trans (hF a j hm))) ⟨(rgp_l hv1.1 (of_decide_eq_true rfl)), (q_4a76cd9c7 h_1 h_3)⟩ (by omega)
set_option maxRecDepth 100000 in
set_option maxHeartbeats 4000000 in
theorem s_120 {sc : List Int32} {e : Int} {d u P Q : Nat} {c : ME} {Z : AR → Prop} (hI : Iv u e P Q c)  (K : ∀ (c2 : ME), Iv u e P Q c2 → (∀ (a : Nat) (j : Int), ¬ (a = 11 ∨ a = (P + 10) ∨ a = (P + 11)) → c2 a j = c a j) → Z (.inl (none), Wd P Q P P c2, 0, 0)) : Wp sc (d + 10) 120 0 [(0, .ref 0)] [] (Wd P Q P P c) 0 0 Z := by
  have hP := iv_P hI
  have hQ := iv_Q hI
  refine q_iconst c_120_0 (q_istore_n c_120_1 (Nat.le_of_ble_eq_true rfl) (Wp_ls [(0, .ref 0), (1, vi 0)] (lsub_cons rfl (lsub_cons rfl lsub_nil)) ?_))
  exact (s_120_l (sc := sc) (d := d) hI K 16) c 0 hI (fun a j hm => rfl) ⟨of_decide_eq_true rfl, of_decide_eq_true rfl⟩ (by omega)

set_option maxRecDepth 100000 in
set_option maxHeartbeats 4000000 in
theorem s_121_l {sc : List Int32} {e : Int} {d u P Q : Nat} {c : ME} {a1 : Int} {Z : AR → Prop} (hI : Iv u e P Q c) (ha1 : (-2147483648) ≤ a1 ∧ a1 ≤ 2147483647) (K : ∀ (y : Int), (-2147483648) ≤ y ∧ y ≤ 2147483647 → Z (.inl (some (vi y)), Wd P Q P P c, 0, 0)) : ∀ n : Nat, (∀ (v2 : Int) (v3 : Int), (-2147483648) ≤ v2 ∧ v2 ≤ 2147483647 → 0 ≤ v3 ∧ v3 ≤ 6 → 13 - 2 * v3 < (n : Int) → Wp sc (d + 7) 121 4 [(0, .ref 0), (1, vi a1), (2, vi v2), (3, vi v3)] [] (Wd P Q P P c) 0 0 Z) := by
  intro n
  induction n with
  | zero => exact (by intro v2 v3 hv2 hv3 hm9; have hP := iv_P hI; have hQ := iv_Q hI; exfalso; omega)
  | succ n ih =>
    have hP := iv_P hI
    have hQ := iv_Q hI
    intro v2 v3 hv2 hv3 hm9
    refine q_iload_n c_121_4 rfl (q_aload_n c_121_5 rfl (v_gr (t := P) c_121_6 kf_7_50 rfl (Nat.le_of_ble_eq_true rfl) rfl ?_))
    have h_1 := ir_p0_0 hI hP
    refine v_gi (z := 0) (v := c P 0) c_121_9 kf_7_102 (ck_p0 hP) (a68z hP) rfl rfl rfl ?_
    by_cases h_2 : v3 ≥ c P 0
    · refine v_ic_ge_t (t := 39) c_121_12 rfl ⟨(lel h_1.1 rfl), h_2, (ler hv3.2 rfl)⟩ (q_iload_n c_121_39 rfl (q_iret c_121_40 rfl ?_))
      exact K v2 hv2
    · refine v_ic_ge_f (t := 39) c_121_12 rfl ⟨(lel hv3.1 rfl), (Int.not_le.mp h_2), (ler h_1.2 rfl)⟩ (q_iload_n c_121_15 rfl (q_iload_n c_121_16 rfl (v_ishrx c_121_17 (fun y_3 hy_3 => (q_iconst c_121_18 (v_iandx c_121_19 (fun y_4 hy_4 => (q_iconst c_121_20 ?_))))))))
      by_cases h_5 : y_4 ≠ 1
      · refine v_ic_ne_t (t := 33) c_121_21 rfl ⟨h_5, ⟨hy_4.1, hy_4.2⟩, of_decide_eq_true rfl, of_decide_eq_true rfl⟩ (v_iinc (v := v3 + 1) c_121_33 rfl (Nat.le_of_ble_eq_true rfl) rfl (q_goto (t := 4) c_121_36 rfl (Wp_ls [(0, .ref 0), (1, vi a1), (2, vi v2), (3, vi (v3 + 1))] (lsub_cons rfl (lsub_cons rfl (lsub_cons rfl (lsub_cons rfl lsub_nil)))) ?_)))
        exact ih v2 (v3 + 1) hv2 ⟨(rgp_l hv3.1 (of_decide_eq_true rfl)), (q_4a76cd9c7 h_1 h_2)⟩ (by omega)
      · refine v_ic_ne_f (t := 33) c_121_21 rfl (Decidable.not_not.mp h_5) (q_iload_n c_121_24 rfl (q_aload_n c_121_25 rfl (v_gr (t := 11) c_121_26 kf_7_41 rfl (Nat.le_of_ble_eq_true rfl) rfl (q_iload_n c_121_29 rfl ?_))))
        have h_6 := ir_11 hI v3
        refine v_ia (v := c 11 v3) c_121_30 rfl (of_decide_eq_true rfl) (of_decide_eq_true rfl) ⟨hv3.1, (q_71a18878d h_1 h_2)⟩ rfl (v_iadd (v := c 11 v3 + v2) c_121_31 (by omega) (v_nrm (fun y_7 hy_7 => (q_istore_n c_121_32 (Nat.le_of_ble_eq_true rfl) (v_iinc (v := v3 + 1) c_121_33 rfl (Nat.le_of_ble_eq_true rfl) rfl (q_goto (t := 4) c_121_36 rfl (Wp_ls [(0, .ref 0), (1, vi a1), (2, vi y_7), (3, vi (v3 + 1))] (lsub_cons rfl (lsub_cons rfl (lsub_cons rfl (lsub_cons rfl lsub_nil)))) ?_)))))))
        exact ih y_7 (v3 + 1) hy_7 ⟨(rgp_l hv3.1 (of_decide_eq_true rfl)), (q_4a76cd9c7 h_1 h_2)⟩ (by omega)
set_option maxRecDepth 100000 in
set_option maxHeartbeats 4000000 in
theorem s_121 {sc : List Int32} {e : Int} {d u P Q : Nat} {c : ME} {a1 : Int} {Z : AR → Prop} (hI : Iv u e P Q c) (ha1 : (-2147483648) ≤ a1 ∧ a1 ≤ 2147483647) (K : ∀ (y : Int), (-2147483648) ≤ y ∧ y ≤ 2147483647 → Z (.inl (some (vi y)), Wd P Q P P c, 0, 0)) : Wp sc (d + 7) 121 0 [(0, .ref 0), (1, vi a1)] [] (Wd P Q P P c) 0 0 Z := by
  have hP := iv_P hI
  have hQ := iv_Q hI
  refine q_iconst c_121_0 (q_istore_n c_121_1 (Nat.le_of_ble_eq_true rfl) (q_iconst c_121_2 (q_istore_n c_121_3 (Nat.le_of_ble_eq_true rfl) (Wp_ls [(0, .ref 0), (1, vi a1), (2, vi 0), (3, vi 0)] (lsub_cons rfl (lsub_cons rfl (lsub_cons rfl (lsub_cons rfl lsub_nil)))) ?_))))
  exact (s_121_l (sc := sc) (d := d) hI ha1 K 16) 0 0 ⟨of_decide_eq_true rfl, of_decide_eq_true rfl⟩ ⟨of_decide_eq_true rfl, of_decide_eq_true rfl⟩ (by omega)

set_option maxRecDepth 100000 in
set_option maxHeartbeats 4000000 in
theorem s_122 {sc : List Int32} {e : Int} {d u P Q : Nat} {c : ME} {a1 : Int} {a2 : Int} {Z : AR → Prop} (hI : Iv u e P Q c) (ha1 : (-2147483648) ≤ a1 ∧ a1 ≤ 2147483647) (ha2 : (-2147483648) ≤ a2 ∧ a2 ≤ 2147483647) (K : ∀ (y : Int), 0 ≤ y ∧ y ≤ 1 → Z (.inl (some (vi y)), Wd P Q P P c, 0, 0)) : Wp sc (d + 9) 122 0 [(0, .ref 0), (1, vi a1), (2, vi a2)] [] (Wd P Q P P c) 0 0 Z := by
  have hP := iv_P hI
  have hQ := iv_Q hI
  refine q_aload_n c_122_0 rfl (q_iload_n c_122_1 rfl (v_cv c_122_2 km_7_272 rfl rfl (Nat.le_of_ble_eq_true rfl) ⟨⟨rfl, rfl⟩, Nat.le_of_ble_eq_true rfl, rfl⟩ (Nat.le_of_ble_eq_true rfl) (Nat.le_of_ble_eq_true rfl) (s_121 (a1 := a1) hI (show (-2147483648) ≤ a1 ∧ a1 ≤ 2147483647 from ha1) (fun y_1 hy_1 => (bk_inl (q_aload_n c_122_5 rfl (q_iload_n c_122_6 rfl (v_cv c_122_7 km_7_272 rfl rfl (Nat.le_of_ble_eq_true rfl) ⟨⟨rfl, rfl⟩, Nat.le_of_ble_eq_true rfl, rfl⟩ (Nat.le_of_ble_eq_true rfl) (Nat.le_of_ble_eq_true rfl) (s_121 (a1 := a2) hI (show (-2147483648) ≤ a2 ∧ a2 ≤ 2147483647 from ha2) (fun y_2 hy_2 => (bk_inl ?_)))))))))))
  refine v_isub (v := y_1 - y_2) c_122_10 rfl (v_nrm (fun y_3 hy_3 => (q_istore_n c_122_11 (Nat.le_of_ble_eq_true rfl) (q_iload_n c_122_12 rfl ?_))))
  by_cases h_4 : y_3 > 0
  · refine v_if_gt_t (t := 33) c_122_13 rfl ⟨of_decide_eq_true rfl, h_4, hy_3.2⟩ (q_iconst c_122_33 (q_goto (t := 38) c_122_34 rfl (v_zret c_122_38 rfl (of_decide_eq_true rfl) ?_)))
    exact K 1 ⟨of_decide_eq_true rfl, of_decide_eq_true rfl⟩
  · refine v_if_gt_f (t := 33) c_122_13 rfl ⟨hy_3.1, (Int.not_lt.mp h_4), of_decide_eq_true rfl⟩ (q_iload_n c_122_16 rfl ?_)
    by_cases h_5 : y_3 ≠ 0
    · refine v_if_ne_t (t := 37) c_122_17 rfl ⟨h_5, ⟨hy_3.1, hy_3.2⟩, of_decide_eq_true rfl, of_decide_eq_true rfl⟩ (q_iconst c_122_37 (v_zret c_122_38 rfl (of_decide_eq_true rfl) ?_))
      exact K 0 ⟨of_decide_eq_true rfl, of_decide_eq_true rfl⟩
    · refine v_if_ne_f (t := 37) c_122_17 rfl (Decidable.not_not.mp h_5) (q_aload_n c_122_20 rfl (q_iload_n c_122_21 rfl (v_cv c_122_22 km_7_262 rfl rfl (Nat.le_of_ble_eq_true rfl) ⟨⟨rfl, rfl⟩, Nat.le_of_ble_eq_true rfl, rfl⟩ (Nat.le_of_ble_eq_true rfl) (Nat.le_of_ble_eq_true rfl) (s_118 (a1 := a1) hI (show (-2147483648) ≤ a1 ∧ a1 ≤ 2147483647 from ha1) (fun y_6 hy_6 => (bk_inl (q_aload_n c_122_25 rfl (q_iload_n c_122_26 rfl (v_cv c_122_27 km_7_262 rfl rfl (Nat.le_of_ble_eq_true rfl) ⟨⟨rfl, rfl⟩, Nat.le_of_ble_eq_true rfl, rfl⟩ (Nat.le_of_ble_eq_true rfl) (Nat.le_of_ble_eq_true rfl) (s_118 (a1 := a2) hI (show (-2147483648) ≤ a2 ∧ a2 ≤ 2147483647 from ha2) (fun y_7 hy_7 => ?_)))))))))))
      refine bk_inl ?_
      by_cases h_8 : y_6 ≥ y_7
      · refine v_ic_ge_t (t := 37) c_122_30 rfl ⟨hy_7.1, h_8, hy_6.2⟩ (q_iconst c_122_37 (v_zret c_122_38 rfl (of_decide_eq_true rfl) ?_))
        exact K 0 ⟨of_decide_eq_true rfl, of_decide_eq_true rfl⟩
      · refine v_ic_ge_f (t := 37) c_122_30 rfl ⟨hy_6.1, (Int.not_le.mp h_8), hy_7.2⟩ (q_iconst c_122_33 (q_goto (t := 38) c_122_34 rfl (v_zret c_122_38 rfl (of_decide_eq_true rfl) ?_)))
        exact K 1 ⟨of_decide_eq_true rfl, of_decide_eq_true rfl⟩

set_option maxRecDepth 100000 in
set_option maxHeartbeats 4000000 in
theorem s_123_l {sc : List Int32} {e : Int} {d u P Q : Nat} {c : ME} {a1 : Int} {a2 : Int} {a3 : Int} {Z : AR → Prop} (hI : Iv u e P Q c) (ha1 : (-2147483648) ≤ a1 ∧ a1 ≤ 2147483647) (ha2 : (-2147483648) ≤ a2 ∧ a2 ≤ 2147483647) (ha3 : (-2147483648) ≤ a3 ∧ a3 ≤ 2147483647) (T101 : ∀ c2 : ME, Iv u e P Q c2 → (∀ (a : Nat) (j : Int), ¬ ((a = 0 ∧ j = 13) ∨ a = (P + 10) ∨ a = (P + 11) ∨ a = 11) → c2 a j = c a j) → Z (.inr 101, Wd P Q P P c2, 1, 6)) (K : ∀ (c2 : ME) (y : Int), Iv u e P Q c2 → (∀ (a : Nat) (j : Int), ¬ ((a = 0 ∧ j = 13) ∨ a = (P + 10) ∨ a = (P + 11) ∨ a = 11) → c2 a j = c a j) → (-2147483648) ≤ y ∧ y ≤ 2147483647 → Z (.inl (some (vi y)), Wd P Q P P c2, 0, 0)) : ∀ n : Nat, (∀ (c2 : ME) (v4 : Int) (v5 : Int) (v6 : Int), Iv u e P Q c2 → (∀ (a : Nat) (j : Int), ¬ ((a = 0 ∧ j = 13) ∨ a = (P + 10) ∨ a = (P + 11) ∨ a = 11) → c2 a j = c a j) → 0 ≤ v4 ∧ v4 ≤ 63 → 0 ≤ v5 ∧ v5 ≤ 64 → 1 ≤ v6 ∧ v6 ≤ 64 → 129 - 2 * v6 < (n : Int) → Wp sc (d + 11) 123 60 [(0, .ref 0), (1, vi a1), (2, vi a2), (3, vi a3), (4, vi v4), (5, vi v5), (6, vi v6)] [] (Wd P Q P P c2) 0 0 Z) := by
  intro n
  induction n with
  | zero => exact (by intro c2 v4 v5 v6 hI2 hF hv4 hv5 hv6 hm9; have hP := iv_P hI; have hQ := iv_Q hI; exfalso; omega)
  | succ n ih =>
    have hP := iv_P hI
    have hQ := iv_Q hI
    intro c2 v4 v5 v6 hI2 hF hv4 hv5 hv6 hm9
    refine q_iload c_123_60 rfl (q_iload c_123_62 rfl ?_)
    by_cases h_1 : v6 > v4
    · refine v_ic_gt_t (t := 108) c_123_64 rfl ⟨(lel hv4.1 rfl), h_1, (ler hv6.2 rfl)⟩ (q_iload_n c_123_108 rfl ?_)
      by_cases h_2 : a3 = 0
      · refine v_lsw (t := 136) (off := 27) 0 c_123_109 (by omega) (of_decide_eq_true rfl) (of_decide_eq_true rfl) (of_decide_eq_true rfl) (of_decide_eq_true rfl) (q_aload_n c_123_136 rfl (q_iload c_123_137 rfl (v_cv c_123_139 km_7_272 rfl rfl (Nat.le_of_ble_eq_true rfl) ⟨⟨rfl, rfl⟩, Nat.le_of_ble_eq_true rfl, rfl⟩ (Nat.le_of_ble_eq_true rfl) (Nat.le_of_ble_eq_true rfl) (s_121 (a1 := v5) hI2 (show (-2147483648) ≤ v5 ∧ v5 ≤ 2147483647 from ⟨(lel hv5.1 rfl), (ler hv5.2 rfl)⟩) (fun y_3 hy_3 => (bk_inl (q_iret c_123_142 rfl ?_)))))))
        exact K c2 y_3 hI2 (fun a j hm => hF a j hm) hy_3
      by_cases h_4 : a3 = 1
      · refine v_lsw (t := 143) (off := 34) 1 c_123_109 (by omega) (of_decide_eq_true rfl) (of_decide_eq_true rfl) (of_decide_eq_true rfl) (of_decide_eq_true rfl) (q_aload_n c_123_143 rfl (q_iload c_123_144 rfl (v_cv c_123_146 km_7_262 rfl rfl (Nat.le_of_ble_eq_true rfl) ⟨⟨rfl, rfl⟩, Nat.le_of_ble_eq_true rfl, rfl⟩ (Nat.le_of_ble_eq_true rfl) (Nat.le_of_ble_eq_true rfl) (s_118 (a1 := v5) hI2 (show (-2147483648) ≤ v5 ∧ v5 ≤ 2147483647 from ⟨(lel hv5.1 rfl), (ler hv5.2 rfl)⟩) (fun y_5 hy_5 => (bk_inl (q_iret c_123_149 rfl ?_)))))))
        exact K c2 y_5 hI2 (fun a j hm => hF a j hm) hy_5
      refine v_lsw_o (t := 150) rfl (by omega) (of_decide_eq_true rfl) (by simp [Op.lookupswitch.offset, Ne.symm (show a3 ≠ 0 by omega), Ne.symm (show a3 ≠ 1 by omega)]) (of_decide_eq_true rfl) (q_iload c_123_150 rfl (q_iret c_123_152 rfl ?_))
      exact K c2 v5 hI2 (fun a j hm => hF a j hm) ⟨(lel hv5.1 rfl), (ler hv5.2 rfl)⟩
    · refine v_ic_gt_f (t := 108) c_123_64 rfl ⟨(lel hv6.1 rfl), (Int.not_lt.mp h_1), (ler hv4.2 rfl)⟩ (q_iload c_123_67 rfl (q_iload c_123_69 rfl (q_iconst c_123_71 (v_ixorx c_123_72 (fun y_6 hy_6 => (v_iandl c_123_73 ⟨by omega, by omega⟩ (fun y_7 hy_7 => ?_)))))))
      by_cases h_8 : y_7 ≠ 0
      · refine v_if_ne_t (t := 102) c_123_74 rfl ⟨h_8, ⟨by omega, by omega⟩, of_decide_eq_true rfl, of_decide_eq_true rfl⟩ (v_iinc (v := v6 + 1) c_123_102 rfl (Nat.le_of_ble_eq_true rfl) rfl (q_goto (t := 60) c_123_105 rfl (Wp_ls [(0, .ref 0), (1, vi a1), (2, vi a2), (3, vi a3), (4, vi v4), (5, vi v5), (6, vi (v6 + 1))] (lsub_cons rfl (lsub_cons rfl (lsub_cons rfl (lsub_cons rfl (lsub_cons rfl (lsub_cons rfl (lsub_cons rfl lsub_nil))))))) ?_)))
        exact ih c2 v4 v5 (v6 + 1) hI2 (fun a j hm => hF a j hm) hv4 hv5 ⟨(rgp_l hv6.1 (of_decide_eq_true rfl)), (q_8ed797edd h_1 hv4)⟩ (by omega)
      · refine v_if_ne_f (t := 102) c_123_74 rfl (Decidable.not_not.mp h_8) (q_aload_n c_123_77 rfl (q_iload c_123_78 rfl (v_cv c_123_80 km_7_262 rfl rfl (Nat.le_of_ble_eq_true rfl) ⟨⟨rfl, rfl⟩, Nat.le_of_ble_eq_true rfl, rfl⟩ (Nat.le_of_ble_eq_true rfl) (Nat.le_of_ble_eq_true rfl) (s_118 (a1 := v6) hI2 (show (-2147483648) ≤ v6 ∧ v6 ≤ 2147483647 from ⟨(lel hv6.1 rfl), (ler hv6.2 rfl)⟩) (fun y_9 hy_9 => (bk_inl (q_iload_n c_123_83 rfl ?_)))))))
        by_cases h_10 : y_9 > a2
        · refine v_ic_gt_t (t := 102) c_123_84 rfl ⟨ha2.1, h_10, hy_9.2⟩ (v_iinc (v := v6 + 1) c_123_102 rfl (Nat.le_of_ble_eq_true rfl) rfl (q_goto (t := 60) c_123_105 rfl (Wp_ls [(0, .ref 0), (1, vi a1), (2, vi a2), (3, vi a3), (4, vi v4), (5, vi v5), (6, vi (v6 + 1))] (lsub_cons rfl (lsub_cons rfl (lsub_cons rfl (lsub_cons rfl (lsub_cons rfl (lsub_cons rfl (lsub_cons rfl lsub_nil))))))) ?_)))
          exact ih c2 v4 v5 (v6 + 1) hI2 (fun a j hm => hF a j hm) hv4 hv5 ⟨(rgp_l hv6.1 (of_decide_eq_true rfl)), (q_8ed797edd h_1 hv4)⟩ (by omega)
        · refine v_ic_gt_f (t := 102) c_123_84 rfl ⟨hy_9.1, (Int.not_lt.mp h_10), ha2.2⟩ (q_aload_n c_123_87 rfl (q_iload c_123_88 rfl (q_iload c_123_90 rfl (v_cv c_123_92 km_7_269 rfl rfl (Nat.le_of_ble_eq_true rfl) ⟨⟨rfl, rfl⟩, Nat.le_of_ble_eq_true rfl, rfl⟩ (Nat.le_of_ble_eq_true rfl) (Nat.le_of_ble_eq_true rfl) (s_122 (a1 := v6) (a2 := v5) hI2 (show (-2147483648) ≤ v6 ∧ v6 ≤ 2147483647 from ⟨(lel hv6.1 rfl), (ler hv6.2 rfl)⟩) (show (-2147483648) ≤ v5 ∧ v5 ≤ 2147483647 from ⟨(lel hv5.1 rfl), (ler hv5.2 rfl)⟩) (fun y_11 hy_11 => (bk_inl ?_)))))))
          by_cases h_12 : y_11 = 0
          · refine v_if_eq_t (t := 102) c_123_95 rfl h_12 (v_iinc (v := v6 + 1) c_123_102 rfl (Nat.le_of_ble_eq_true rfl) rfl (q_goto (t := 60) c_123_105 rfl (Wp_ls [(0, .ref 0), (1, vi a1), (2, vi a2), (3, vi a3), (4, vi v4), (5, vi v5), (6, vi (v6 + 1))] (lsub_cons rfl (lsub_cons rfl (lsub_cons rfl (lsub_cons rfl (lsub_cons rfl (lsub_cons rfl (lsub_cons rfl lsub_nil))))))) ?_)))
            exact ih c2 v4 v5 (v6 + 1) hI2 (fun a j hm => hF a j hm) hv4 hv5 ⟨(rgp_l hv6.1 (of_decide_eq_true rfl)), (q_8ed797edd h_1 hv4)⟩ (by omega)
          · refine v_if_eq_f (t := 102) c_123_95 rfl ⟨h_12, ⟨(lel hy_11.1 rfl), (ler hy_11.2 rfl)⟩, of_decide_eq_true rfl, of_decide_eq_true rfl⟩ (q_iload c_123_98 rfl (q_istore c_123_100 (Nat.le_of_ble_eq_true rfl) (v_iinc (v := v6 + 1) c_123_102 rfl (Nat.le_of_ble_eq_true rfl) rfl (q_goto (t := 60) c_123_105 rfl (Wp_ls [(0, .ref 0), (1, vi a1), (2, vi a2), (3, vi a3), (4, vi v4), (5, vi v6), (6, vi (v6 + 1))] (lsub_cons rfl (lsub_cons rfl (lsub_cons rfl (lsub_cons rfl (lsub_cons rfl (lsub_cons rfl (lsub_cons rfl lsub_nil))))))) ?_)))))
            exact ih c2 v4 v6 (v6 + 1) hI2 (fun a j hm => hF a j hm) hv4 ⟨(lel hv6.1 rfl), hv6.2⟩ ⟨(rgp_l hv6.1 (of_decide_eq_true rfl)), (q_8ed797edd h_1 hv4)⟩ (by omega)
set_option maxRecDepth 100000 in
set_option maxHeartbeats 4000000 in
theorem s_123 {sc : List Int32} {e : Int} {d u P Q : Nat} {c : ME} {a1 : Int} {a2 : Int} {a3 : Int} {Z : AR → Prop} (hI : Iv u e P Q c) (ha1 : (-2147483648) ≤ a1 ∧ a1 ≤ 2147483647) (ha2 : (-2147483648) ≤ a2 ∧ a2 ≤ 2147483647) (ha3 : (-2147483648) ≤ a3 ∧ a3 ≤ 2147483647) (T101 : ∀ c2 : ME, Iv u e P Q c2 → (∀ (a : Nat) (j : Int), ¬ ((a = 0 ∧ j = 13) ∨ a = (P + 10) ∨ a = (P + 11) ∨ a = 11) → c2 a j = c a j) → Z (.inr 101, Wd P Q P P c2, 1, 6)) (K : ∀ (c2 : ME) (y : Int), Iv u e P Q c2 → (∀ (a : Nat) (j : Int), ¬ ((a = 0 ∧ j = 13) ∨ a = (P + 10) ∨ a = (P + 11) ∨ a = 11) → c2 a j = c a j) → (-2147483648) ≤ y ∧ y ≤ 2147483647 → Z (.inl (some (vi y)), Wd P Q P P c2, 0, 0)) : Wp sc (d + 11) 123 0 [(0, .ref 0), (1, vi a1), (2, vi a2), (3, vi a3)] [] (Wd P Q P P c) 0 0 Z := by
  have hP := iv_P hI
  have hQ := iv_Q hI
  refine q_aload_n c_123_0 rfl (q_aload_n c_123_1 rfl (q_iload_n c_123_2 rfl (v_cv c_123_3 km_7_259 rfl rfl (Nat.le_of_ble_eq_true rfl) ⟨⟨rfl, rfl⟩, Nat.le_of_ble_eq_true rfl, rfl⟩ (Nat.le_of_ble_eq_true rfl) (Nat.le_of_ble_eq_true rfl) (s_117 (a1 := a1) hI (show (-2147483648) ≤ a1 ∧ a1 ≤ 2147483647 from ha1) (fun y_13 hy_13 h_14 => (bk_inl ?_))))))
  by_cases h_15 : y_13 = 0
  · refine v_if_eq_t (t := 33) c_123_6 rfl h_15 (q_iconst c_123_33 (v_cv c_123_34 km_7_161 rfl rfl (Nat.le_of_ble_eq_true rfl) ⟨⟨rfl, rfl⟩, Nat.le_of_ble_eq_true rfl, rfl⟩ (Nat.le_of_ble_eq_true rfl) (Nat.le_of_ble_eq_true rfl) (q_iload_n c_81_0 rfl (v_if_ne_f (t := 25) c_81_1 rfl (of_decide_eq_true rfl) (q_aload_n c_81_4 rfl (q_dup c_81_5 rfl ?_))))))
    have h_16 := ir_0_13 hI
    refine v_gi (z := 13) (v := c 0 13) c_81_6 kf_7_330 rfl (Nat.le_of_ble_eq_true rfl) rfl rfl rfl (q_iconst c_81_9 (v_iadd (v := c 0 13 + 1) c_81_10 rfl (v_nrm (fun y_17 hy_17 => (v_pi (z := 13) c_81_11 kf_7_330 rfl (Nat.le_of_ble_eq_true rfl) rfl rfl rfl (of_decide_eq_true rfl) (v_new c_81_14 rfl (of_decide_eq_true rfl) (by omega) (Nat.le_of_ble_eq_true rfl) (of_decide_eq_true rfl) rfl (bk_out rfl rfl ?_)))))))
    have hI_18 := iw_0_13 (v := y_17) hI ⟨hy_17.1, hy_17.2⟩
    exact T101 _ hI_18 (fun a j hm => up_b (Decidable.or_iff_not_imp_left.mpr (fun h1 h2 => hm (Or.inl ⟨Decidable.not_not.mp h1, h2⟩))))
  · refine v_if_eq_f (t := 33) c_123_6 rfl ⟨h_15, ⟨(lel hy_13.1 rfl), (ler hy_13.2 rfl)⟩, of_decide_eq_true rfl, of_decide_eq_true rfl⟩ (q_iload_n c_123_9 rfl (q_iconst c_123_10 (v_ldcw (n := 99999) c_123_11 rfl (by decide +kernel) (q_call c_123_14 rfl rfl rfl (q_iload_n c_80_0 rfl (q_iload_n c_80_1 rfl ?_))))))
    by_cases h_19 : a2 < 0
    · refine v_ic_lt_t (t := 14) c_80_2 rfl ⟨ha2.1, h_19, of_decide_eq_true rfl⟩ (q_iconst c_80_14 (v_zret c_80_15 rfl (of_decide_eq_true rfl) (bk_inl (v_if_eq_t (t := 33) c_123_17 rfl (of_decide_eq_true rfl) (q_iconst c_123_33 (v_cv c_123_34 km_7_161 rfl rfl (Nat.le_of_ble_eq_true rfl) ⟨⟨rfl, rfl⟩, Nat.le_of_ble_eq_true rfl, rfl⟩ (Nat.le_of_ble_eq_true rfl) (Nat.le_of_ble_eq_true rfl) (q_iload_n c_81_0 rfl ?_)))))))
      refine v_if_ne_f (t := 25) c_81_1 rfl (of_decide_eq_true rfl) (q_aload_n c_81_4 rfl (q_dup c_81_5 rfl ?_))
      have h_20 := ir_0_13 hI
      refine v_gi (z := 13) (v := c 0 13) c_81_6 kf_7_330 rfl (Nat.le_of_ble_eq_true rfl) rfl rfl rfl (q_iconst c_81_9 (v_iadd (v := c 0 13 + 1) c_81_10 rfl (v_nrm (fun y_21 hy_21 => (v_pi (z := 13) c_81_11 kf_7_330 rfl (Nat.le_of_ble_eq_true rfl) rfl rfl rfl (of_decide_eq_true rfl) (v_new c_81_14 rfl (of_decide_eq_true rfl) (by omega) (Nat.le_of_ble_eq_true rfl) (of_decide_eq_true rfl) rfl (bk_out rfl rfl ?_)))))))
      have hI_22 := iw_0_13 (v := y_21) hI ⟨hy_21.1, hy_21.2⟩
      exact T101 _ hI_22 (fun a j hm => up_b (Decidable.or_iff_not_imp_left.mpr (fun h1 h2 => hm (Or.inl ⟨Decidable.not_not.mp h1, h2⟩))))
    · refine v_ic_lt_f (t := 14) c_80_2 rfl ⟨of_decide_eq_true rfl, (Int.not_lt.mp h_19), ha2.2⟩ (q_iload_n c_80_5 rfl (q_iload_n c_80_6 rfl ?_))
      by_cases h_23 : a2 > 99999
      · refine v_ic_gt_t (t := 14) c_80_7 rfl ⟨of_decide_eq_true rfl, h_23, ha2.2⟩ (q_iconst c_80_14 (v_zret c_80_15 rfl (of_decide_eq_true rfl) (bk_inl (v_if_eq_t (t := 33) c_123_17 rfl (of_decide_eq_true rfl) (q_iconst c_123_33 (v_cv c_123_34 km_7_161 rfl rfl (Nat.le_of_ble_eq_true rfl) ⟨⟨rfl, rfl⟩, Nat.le_of_ble_eq_true rfl, rfl⟩ (Nat.le_of_ble_eq_true rfl) (Nat.le_of_ble_eq_true rfl) (q_iload_n c_81_0 rfl ?_)))))))
        refine v_if_ne_f (t := 25) c_81_1 rfl (of_decide_eq_true rfl) (q_aload_n c_81_4 rfl (q_dup c_81_5 rfl ?_))
        have h_24 := ir_0_13 hI
        refine v_gi (z := 13) (v := c 0 13) c_81_6 kf_7_330 rfl (Nat.le_of_ble_eq_true rfl) rfl rfl rfl (q_iconst c_81_9 (v_iadd (v := c 0 13 + 1) c_81_10 rfl (v_nrm (fun y_25 hy_25 => (v_pi (z := 13) c_81_11 kf_7_330 rfl (Nat.le_of_ble_eq_true rfl) rfl rfl rfl (of_decide_eq_true rfl) (v_new c_81_14 rfl (of_decide_eq_true rfl) (by omega) (Nat.le_of_ble_eq_true rfl) (of_decide_eq_true rfl) rfl (bk_out rfl rfl ?_)))))))
        have hI_26 := iw_0_13 (v := y_25) hI ⟨hy_25.1, hy_25.2⟩
        exact T101 _ hI_26 (fun a j hm => up_b (Decidable.or_iff_not_imp_left.mpr (fun h1 h2 => hm (Or.inl ⟨Decidable.not_not.mp h1, h2⟩))))
      · refine v_ic_gt_f (t := 14) c_80_7 rfl ⟨ha2.1, (Int.not_lt.mp h_23), of_decide_eq_true rfl⟩ (q_iconst c_80_10 (q_goto (t := 15) c_80_11 rfl (v_zret c_80_15 rfl (of_decide_eq_true rfl) (bk_inl (v_if_eq_f (t := 33) c_123_17 rfl (of_decide_eq_true rfl) (q_iload_n c_123_20 rfl (q_iconst c_123_21 ?_)))))))
        refine q_iconst c_123_22 (q_call c_123_23 rfl rfl rfl (q_iload_n c_80_0 rfl (q_iload_n c_80_1 rfl ?_)))
        by_cases h_27 : a3 < 0
        · refine v_ic_lt_t (t := 14) c_80_2 rfl ⟨ha3.1, h_27, of_decide_eq_true rfl⟩ (q_iconst c_80_14 (v_zret c_80_15 rfl (of_decide_eq_true rfl) (bk_inl (v_if_eq_t (t := 33) c_123_26 rfl (of_decide_eq_true rfl) (q_iconst c_123_33 (v_cv c_123_34 km_7_161 rfl rfl (Nat.le_of_ble_eq_true rfl) ⟨⟨rfl, rfl⟩, Nat.le_of_ble_eq_true rfl, rfl⟩ (Nat.le_of_ble_eq_true rfl) (Nat.le_of_ble_eq_true rfl) (q_iload_n c_81_0 rfl ?_)))))))
          refine v_if_ne_f (t := 25) c_81_1 rfl (of_decide_eq_true rfl) (q_aload_n c_81_4 rfl (q_dup c_81_5 rfl ?_))
          have h_28 := ir_0_13 hI
          refine v_gi (z := 13) (v := c 0 13) c_81_6 kf_7_330 rfl (Nat.le_of_ble_eq_true rfl) rfl rfl rfl (q_iconst c_81_9 (v_iadd (v := c 0 13 + 1) c_81_10 rfl (v_nrm (fun y_29 hy_29 => (v_pi (z := 13) c_81_11 kf_7_330 rfl (Nat.le_of_ble_eq_true rfl) rfl rfl rfl (of_decide_eq_true rfl) (v_new c_81_14 rfl (of_decide_eq_true rfl) (by omega) (Nat.le_of_ble_eq_true rfl) (of_decide_eq_true rfl) rfl (bk_out rfl rfl ?_)))))))
          have hI_30 := iw_0_13 (v := y_29) hI ⟨hy_29.1, hy_29.2⟩
          exact T101 _ hI_30 (fun a j hm => up_b (Decidable.or_iff_not_imp_left.mpr (fun h1 h2 => hm (Or.inl ⟨Decidable.not_not.mp h1, h2⟩))))
        · refine v_ic_lt_f (t := 14) c_80_2 rfl ⟨of_decide_eq_true rfl, (Int.not_lt.mp h_27), ha3.2⟩ (q_iload_n c_80_5 rfl (q_iload_n c_80_6 rfl ?_))
          by_cases h_31 : a3 > 2
          · refine v_ic_gt_t (t := 14) c_80_7 rfl ⟨of_decide_eq_true rfl, h_31, ha3.2⟩ (q_iconst c_80_14 (v_zret c_80_15 rfl (of_decide_eq_true rfl) (bk_inl (v_if_eq_t (t := 33) c_123_26 rfl (of_decide_eq_true rfl) (q_iconst c_123_33 (v_cv c_123_34 km_7_161 rfl rfl (Nat.le_of_ble_eq_true rfl) ⟨⟨rfl, rfl⟩, Nat.le_of_ble_eq_true rfl, rfl⟩ (Nat.le_of_ble_eq_true rfl) (Nat.le_of_ble_eq_true rfl) (q_iload_n c_81_0 rfl ?_)))))))
            refine v_if_ne_f (t := 25) c_81_1 rfl (of_decide_eq_true rfl) (q_aload_n c_81_4 rfl (q_dup c_81_5 rfl ?_))
            have h_32 := ir_0_13 hI
            refine v_gi (z := 13) (v := c 0 13) c_81_6 kf_7_330 rfl (Nat.le_of_ble_eq_true rfl) rfl rfl rfl (q_iconst c_81_9 (v_iadd (v := c 0 13 + 1) c_81_10 rfl (v_nrm (fun y_33 hy_33 => (v_pi (z := 13) c_81_11 kf_7_330 rfl (Nat.le_of_ble_eq_true rfl) rfl rfl rfl (of_decide_eq_true rfl) (v_new c_81_14 rfl (of_decide_eq_true rfl) (by omega) (Nat.le_of_ble_eq_true rfl) (of_decide_eq_true rfl) rfl (bk_out rfl rfl ?_)))))))
            have hI_34 := iw_0_13 (v := y_33) hI ⟨hy_33.1, hy_33.2⟩
            exact T101 _ hI_34 (fun a j hm => up_b (Decidable.or_iff_not_imp_left.mpr (fun h1 h2 => hm (Or.inl ⟨Decidable.not_not.mp h1, h2⟩))))
          · refine v_ic_gt_f (t := 14) c_80_7 rfl ⟨ha3.1, (Int.not_lt.mp h_31), of_decide_eq_true rfl⟩ (q_iconst c_80_10 (q_goto (t := 15) c_80_11 rfl (v_zret c_80_15 rfl (of_decide_eq_true rfl) (bk_inl (v_if_eq_f (t := 33) c_123_26 rfl (of_decide_eq_true rfl) (q_iconst c_123_29 (q_goto (t := 34) c_123_30 rfl ?_)))))))
            refine v_cv c_123_34 km_7_161 rfl rfl (Nat.le_of_ble_eq_true rfl) ⟨⟨rfl, rfl⟩, Nat.le_of_ble_eq_true rfl, rfl⟩ (Nat.le_of_ble_eq_true rfl) (Nat.le_of_ble_eq_true rfl) (q_iload_n c_81_0 rfl (v_if_ne_t (t := 25) c_81_1 rfl (of_decide_eq_true rfl) (q_vret rfl rfl (bk_inl (q_iload_n c_123_37 rfl (q_aload_n c_123_38 rfl (v_gr (t := 37) c_123_39 kf_7_62 rfl (Nat.le_of_ble_eq_true rfl) rfl ?_)))))))
            refine v_cv c_123_42 km_7_181 rfl rfl (Nat.le_of_ble_eq_true rfl) ⟨⟨rfl, rfl⟩, Nat.le_of_ble_eq_true rfl, rfl⟩ (Nat.le_of_ble_eq_true rfl) (Nat.le_of_ble_eq_true rfl) (s_70 hI (.inl ⟨rfl, rfl⟩) (fun y_35 hy_35 => (bk_inl (q_iconst c_123_45 (v_ixorx c_123_46 (fun y_36 hy_36 => (v_iandl c_123_47 ⟨by omega, by omega⟩ (fun y_37 hy_37 => (q_istore c_123_48 (Nat.le_of_ble_eq_true rfl) (q_aload_n c_123_50 rfl (v_cv c_123_51 km_7_266 rfl rfl (Nat.le_of_ble_eq_true rfl) ⟨⟨rfl, rfl⟩, Nat.le_of_ble_eq_true rfl, rfl⟩ (Nat.le_of_ble_eq_true rfl) (Nat.le_of_ble_eq_true rfl) (s_120 hI (fun c_38 hI_39 hF_40 => ?_)))))))))))))
            refine bk_inl (q_iconst c_123_54 (q_istore c_123_55 (Nat.le_of_ble_eq_true rfl) (q_iconst c_123_57 (q_istore c_123_58 (Nat.le_of_ble_eq_true rfl) (Wp_ls [(0, .ref 0), (1, vi a1), (2, vi a2), (3, vi a3), (4, vi y_37), (5, vi 0), (6, vi 1)] (lsub_cons rfl (lsub_cons rfl (lsub_cons rfl (lsub_cons rfl (lsub_cons rfl (lsub_cons rfl (lsub_cons rfl lsub_nil))))))) ?_)))))
            exact (s_123_l (sc := sc) (d := d) hI ha1 ha2 ha3 T101 K 130) c_38 y_37 0 1 hI_39 (fun a j hm => hF_40 a j (qv_e2e2522af hm)) ⟨by first | (clear ha1 ha2 ha3 h_19 h_23 h_27 h_31 h_14 h_15; omega) | omega, by omega⟩ ⟨of_decide_eq_true rfl, of_decide_eq_true rfl⟩ ⟨of_decide_eq_true rfl, of_decide_eq_true rfl⟩ (by omega)

set_option maxRecDepth 100000 in
set_option maxHeartbeats 4000000 in
theorem s_124_l {sc : List Int32} {e : Int} {d u P Q : Nat} {c : ME} {a1 : Int} {a2 : Int} {Z : AR → Prop} (hI : Iv u e P Q c) (ha1 : (-2147483648) ≤ a1 ∧ a1 ≤ 2147483647) (ha2 : (-2147483648) ≤ a2 ∧ a2 ≤ 2147483647) (K : ∀ (y : Int), (-2147483648) ≤ y ∧ y ≤ 2147483647 → Z (.inl (some (vi y)), Wd P Q P P c, 0, 0)) : ∀ n : Nat, (∀ (v3 : Int) (v4 : Int), (-2147483648) ≤ v3 ∧ v3 ≤ 2147483647 → 0 ≤ v4 ∧ v4 ≤ 6 → 13 - 2 * v4 < (n : Int) → Wp sc (d + 8) 124 5 [(0, .ref 0), (1, vi a1), (2, vi a2), (3, vi v3), (4, vi v4)] [] (Wd P Q P P c) 0 0 Z) := by
  intro n
  induction n with
  | zero => exact (by intro v3 v4 hv3 hv4 hm9; have hP := iv_P hI; have hQ := iv_Q hI; exfalso; omega)
  | succ n ih =>
    have hP := iv_P hI
    have hQ := iv_Q hI
    intro v3 v4 hv3 hv4 hm9
    refine q_iload c_124_5 rfl (q_aload_n c_124_7 rfl (v_gr (t := P) c_124_8 kf_7_50 rfl (Nat.le_of_ble_eq_true rfl) rfl ?_))
    have h_1 := ir_p0_0 hI hP
    refine v_gi (z := 0) (v := c P 0) c_124_11 kf_7_102 (ck_p0 hP) (a68z hP) rfl rfl rfl ?_
    by_cases h_2 : v4 ≥ c P 0
    · refine v_ic_ge_t (t := 49) c_124_14 rfl ⟨(lel h_1.1 rfl), h_2, (ler hv4.2 rfl)⟩ (q_iload_n c_124_49 rfl (q_iret c_124_50 rfl ?_))
      exact K v3 hv3
    · refine v_ic_ge_f (t := 49) c_124_14 rfl ⟨(lel hv4.1 rfl), (Int.not_le.mp h_2), (ler h_1.2 rfl)⟩ (q_iload_n c_124_17 rfl (q_iload c_124_18 rfl (v_ishrx c_124_20 (fun y_3 hy_3 => (q_iconst c_124_21 (v_iandx c_124_22 (fun y_4 hy_4 => (q_iconst c_124_23 ?_))))))))
      by_cases h_5 : y_4 ≠ 1
      · refine v_ic_ne_t (t := 43) c_124_24 rfl ⟨h_5, ⟨hy_4.1, hy_4.2⟩, of_decide_eq_true rfl, of_decide_eq_true rfl⟩ (v_iinc (v := v4 + 1) c_124_43 rfl (Nat.le_of_ble_eq_true rfl) rfl (q_goto (t := 5) c_124_46 rfl (Wp_ls [(0, .ref 0), (1, vi a1), (2, vi a2), (3, vi v3), (4, vi (v4 + 1))] (lsub_cons rfl (lsub_cons rfl (lsub_cons rfl (lsub_cons rfl (lsub_cons rfl lsub_nil))))) ?_)))
        exact ih v3 (v4 + 1) hv3 ⟨(rgp_l hv4.1 (of_decide_eq_true rfl)), (q_4a76cd9c7 h_1 h_2)⟩ (by omega)
      · refine v_ic_ne_f (t := 43) c_124_24 rfl (Decidable.not_not.mp h_5) (q_iload_n c_124_27 rfl (q_aload_n c_124_28 rfl (v_gr (t := 37) c_124_29 kf_7_62 rfl (Nat.le_of_ble_eq_true rfl) rfl (q_iload c_124_32 rfl ?_))))
        have h_6 := ir_38_g hI (j := 4 * v4) ((q_aa51b186e h_1 h_2))
        have h_7 := ir_38_g hI (j := 4 * v4 + 1) ((q_57851f9de h_1 h_2))
        have h_8 := ir_38_g hI (j := 4 * v4 + 2) ((q_7296e74e6 h_1 h_2))
        have h_9 := ir_38_g hI (j := 4 * v4 + 3) ((q_b15525c4c h_1 h_2))
        refine v_cv c_124_34 km_7_187 rfl rfl (Nat.le_of_ble_eq_true rfl) ⟨⟨rfl, rfl⟩, Nat.le_of_ble_eq_true rfl, rfl⟩ (Nat.le_of_ble_eq_true rfl) (Nat.le_of_ble_eq_true rfl) (s_43 (v1 := c 38 (4 * v4)) (v2 := c 38 (4 * v4 + 1)) (v3 := c 38 (4 * v4 + 2)) (v4 := c 38 (4 * v4 + 3)) (r := c 38 (4 * v4 + 1) + c 38 (4 * v4 + 2) + c 38 (4 * v4 + 3) + c 38 (4 * v4)) (a1 := v4) hI (.inl ⟨rfl, rfl⟩) (show 0 ≤ v4 ∧ v4 ≤ 5 from ⟨hv4.1, (q_d63a8538e h_1 h_2)⟩) (rfl) (rfl) (rfl) (rfl) (by omega) (bk_inl (q_iload_n c_124_37 rfl (v_minx c_124_38 rfl (by omega) (Nat.le_of_ble_eq_true rfl) ⟨by omega, by omega, by omega, by omega⟩ (fun y_10 hy_10 => (v_iadd (v := v3 + y_10) c_124_41 rfl (v_nrm (fun y_11 hy_11 => (q_istore_n c_124_42 (Nat.le_of_ble_eq_true rfl) (v_iinc (v := v4 + 1) c_124_43 rfl (Nat.le_of_ble_eq_true rfl) rfl ?_))))))))))
        refine q_goto (t := 5) c_124_46 rfl (Wp_ls [(0, .ref 0), (1, vi a1), (2, vi a2), (3, vi y_11), (4, vi (v4 + 1))] (lsub_cons rfl (lsub_cons rfl (lsub_cons rfl (lsub_cons rfl (lsub_cons rfl lsub_nil))))) ?_)
        exact ih y_11 (v4 + 1) hy_11 ⟨(rgp_l hv4.1 (of_decide_eq_true rfl)), (q_4a76cd9c7 h_1 h_2)⟩ (by omega)
set_option maxRecDepth 100000 in
set_option maxHeartbeats 4000000 in
theorem s_124 {sc : List Int32} {e : Int} {d u P Q : Nat} {c : ME} {a1 : Int} {a2 : Int} {Z : AR → Prop} (hI : Iv u e P Q c) (ha1 : (-2147483648) ≤ a1 ∧ a1 ≤ 2147483647) (ha2 : (-2147483648) ≤ a2 ∧ a2 ≤ 2147483647) (K : ∀ (y : Int), (-2147483648) ≤ y ∧ y ≤ 2147483647 → Z (.inl (some (vi y)), Wd P Q P P c, 0, 0)) : Wp sc (d + 8) 124 0 [(0, .ref 0), (1, vi a1), (2, vi a2)] [] (Wd P Q P P c) 0 0 Z := by
  have hP := iv_P hI
  have hQ := iv_Q hI
  refine q_iconst c_124_0 (q_istore_n c_124_1 (Nat.le_of_ble_eq_true rfl) (q_iconst c_124_2 (q_istore c_124_3 (Nat.le_of_ble_eq_true rfl) (Wp_ls [(0, .ref 0), (1, vi a1), (2, vi a2), (3, vi 0), (4, vi 0)] (lsub_cons rfl (lsub_cons rfl (lsub_cons rfl (lsub_cons rfl (lsub_cons rfl lsub_nil))))) ?_))))
  exact (s_124_l (sc := sc) (d := d) hI ha1 ha2 K 16) 0 0 ⟨of_decide_eq_true rfl, of_decide_eq_true rfl⟩ ⟨of_decide_eq_true rfl, of_decide_eq_true rfl⟩ (by omega)

set_option maxRecDepth 100000 in
set_option maxHeartbeats 4000000 in
theorem s_125_l {sc : List Int32} {e : Int} {d u P Q : Nat} {c : ME} {a1 : Int} {a2 : Int} {a3 : Int} {Z : AR → Prop} (hI : Iv u e P Q c) (ha1 : (-2147483648) ≤ a1 ∧ a1 ≤ 2147483647) (ha2 : (-2147483648) ≤ a2 ∧ a2 ≤ 2147483647) (ha3 : (-2147483648) ≤ a3 ∧ a3 ≤ 2147483647) (T100 : ∀ c2 : ME, Iv u e P Q c2 → (∀ (a : Nat) (j : Int), ¬ ((a = 0 ∧ j = 12) ∨ (a = 0 ∧ j = 13)) → c2 a j = c a j) → Z (.inr 100, Wd P Q P P c2, 1, 6)) (T101 : ∀ c2 : ME, Iv u e P Q c2 → (∀ (a : Nat) (j : Int), ¬ ((a = 0 ∧ j = 12) ∨ (a = 0 ∧ j = 13)) → c2 a j = c a j) → Z (.inr 101, Wd P Q P P c2, 1, 6)) (K : ∀ (c2 : ME) (y : Int), Iv u e P Q c2 → (∀ (a : Nat) (j : Int), ¬ ((a = 0 ∧ j = 12) ∨ (a = 0 ∧ j = 13)) → c2 a j = c a j) → (-2147483648) ≤ y ∧ y ≤ 2147483647 → Z (.inl (some (vi y)), Wd P Q P P c2, 0, 0)) : ∀ n : Nat, (∀ (c2 : ME) (v4 : Int) (v5 : Int) (v6 : Int), Iv u e P Q c2 → (∀ (a : Nat) (j : Int), ¬ ((a = 0 ∧ j = 12) ∨ (a = 0 ∧ j = 13)) → c2 a j = c a j) → 0 ≤ v4 ∧ v4 ≤ 9999 → 0 ≤ v5 ∧ v5 ≤ 10000 → 0 ≤ v6 ∧ v6 ≤ 32 → ((a1 ≥ 0 ∧ a1 ≤ 5)) → 65 - 2 * v6 < (n : Int) → Wp sc (d + 9) 125 54 [(0, .ref 0), (1, vi a1), (2, vi a2), (3, vi a3), (4, vi v4), (5, vi v5), (6, vi v6)] [] (Wd P Q P P c2) 0 0 Z) := by
  intro n
  induction n with
  | zero => exact (by intro c2 v4 v5 v6 hI2 hF hv4 hv5 hv6 hx0 hm9; have hP := iv_P hI; have hQ := iv_Q hI; exfalso; omega)
  | succ n ih =>
    have hP := iv_P hI
    have hQ := iv_Q hI
    intro c2 v4 v5 v6 hI2 hF hv4 hv5 hv6 hx0 hm9
    refine q_iload c_125_54 rfl (v_bip c_125_56 (of_decide_eq_true rfl) ?_)
    by_cases h_1 : v6 ≥ 32
    · refine v_ic_ge_t (t := 107) c_125_58 rfl ⟨of_decide_eq_true rfl, h_1, (ler hv6.2 rfl)⟩ (q_aload_n c_125_107 rfl (v_gr (t := 37) c_125_108 kf_7_62 rfl (Nat.le_of_ble_eq_true rfl) rfl (q_iload_n c_125_111 rfl ?_)))
      have h_2 := ir_38_g hI (j := 4 * a1) (by omega)
      have kn_3 : Hid (c2 38 (4 * a1) = c 38 (4 * a1)) := hF 38 (4 * a1) (fun q => q.elim (fun h => absurd h.1 (nn rfl)) (fun h => absurd h.1 (nn rfl)))
      have h_4 := ir_38_g hI (j := 4 * a1 + 1) (by omega)
      have kn_5 : Hid (c2 38 (4 * a1 + 1) = c 38 (4 * a1 + 1)) := hF 38 (4 * a1 + 1) (fun q => q.elim (fun h => absurd h.1 (nn rfl)) (fun h => absurd h.1 (nn rfl)))
      have h_6 := ir_38_g hI (j := 4 * a1 + 2) (by omega)
      have kn_7 : Hid (c2 38 (4 * a1 + 2) = c 38 (4 * a1 + 2)) := hF 38 (4 * a1 + 2) (fun q => q.elim (fun h => absurd h.1 (nn rfl)) (fun h => absurd h.1 (nn rfl)))
      have h_8 := ir_38_g hI (j := 4 * a1 + 3) (by omega)
      have kn_9 : Hid (c2 38 (4 * a1 + 3) = c 38 (4 * a1 + 3)) := hF 38 (4 * a1 + 3) (fun q => q.elim (fun h => absurd h.1 (nn rfl)) (fun h => absurd h.1 (nn rfl)))
      refine v_cv c_125_112 km_7_187 rfl rfl (Nat.le_of_ble_eq_true rfl) ⟨⟨rfl, rfl⟩, Nat.le_of_ble_eq_true rfl, rfl⟩ (Nat.le_of_ble_eq_true rfl) (Nat.le_of_ble_eq_true rfl) (s_43 (v1 := c 38 (4 * a1)) (v2 := c 38 (4 * a1 + 1)) (v3 := c 38 (4 * a1 + 2)) (v4 := c 38 (4 * a1 + 3)) (r := c 38 (4 * a1 + 1) + c 38 (4 * a1 + 2) + c 38 (4 * a1 + 3) + c 38 (4 * a1)) (a1 := a1) hI2 (.inl ⟨rfl, rfl⟩) (show 0 ≤ a1 ∧ a1 ≤ 5 from ⟨by omega, by omega⟩) ((hid kn_3)) ((hid kn_5)) ((hid kn_7)) ((hid kn_9)) (by omega) (bk_inl (q_iload c_125_115 rfl (v_minx c_125_117 rfl (by omega) (Nat.le_of_ble_eq_true rfl) ⟨by omega, by omega, by omega, by omega⟩ (fun y_10 hy_10 => (q_iret c_125_120 rfl ?_))))))
      exact K c2 y_10 hI2 (fun a j hm => hF a j hm) ⟨by omega, by omega⟩
    · refine v_ic_ge_f (t := 107) c_125_58 rfl ⟨(lel hv6.1 rfl), (Int.not_le.mp h_1), of_decide_eq_true rfl⟩ (q_iload c_125_61 rfl (q_iload c_125_63 rfl (v_isub (v := v5 - v4) c_125_65 rfl (q_iconst c_125_66 ?_))))
      by_cases h_11 : v5 - v4 ≤ 1
      · refine v_ic_le_t (t := 107) c_125_67 rfl ⟨(q_9f800265d hv4 hv5), h_11, of_decide_eq_true rfl⟩ (q_aload_n c_125_107 rfl (v_gr (t := 37) c_125_108 kf_7_62 rfl (Nat.le_of_ble_eq_true rfl) rfl (q_iload_n c_125_111 rfl ?_)))
        have h_12 := ir_38_g hI (j := 4 * a1) (by omega)
        have kn_13 : Hid (c2 38 (4 * a1) = c 38 (4 * a1)) := hF 38 (4 * a1) (fun q => q.elim (fun h => absurd h.1 (nn rfl)) (fun h => absurd h.1 (nn rfl)))
        have h_14 := ir_38_g hI (j := 4 * a1 + 1) (by omega)
        have kn_15 : Hid (c2 38 (4 * a1 + 1) = c 38 (4 * a1 + 1)) := hF 38 (4 * a1 + 1) (fun q => q.elim (fun h => absurd h.1 (nn rfl)) (fun h => absurd h.1 (nn rfl)))
        have h_16 := ir_38_g hI (j := 4 * a1 + 2) (by omega)
        have kn_17 : Hid (c2 38 (4 * a1 + 2) = c 38 (4 * a1 + 2)) := hF 38 (4 * a1 + 2) (fun q => q.elim (fun h => absurd h.1 (nn rfl)) (fun h => absurd h.1 (nn rfl)))
        have h_18 := ir_38_g hI (j := 4 * a1 + 3) (by omega)
        have kn_19 : Hid (c2 38 (4 * a1 + 3) = c 38 (4 * a1 + 3)) := hF 38 (4 * a1 + 3) (fun q => q.elim (fun h => absurd h.1 (nn rfl)) (fun h => absurd h.1 (nn rfl)))
        refine v_cv c_125_112 km_7_187 rfl rfl (Nat.le_of_ble_eq_true rfl) ⟨⟨rfl, rfl⟩, Nat.le_of_ble_eq_true rfl, rfl⟩ (Nat.le_of_ble_eq_true rfl) (Nat.le_of_ble_eq_true rfl) (s_43 (v1 := c 38 (4 * a1)) (v2 := c 38 (4 * a1 + 1)) (v3 := c 38 (4 * a1 + 2)) (v4 := c 38 (4 * a1 + 3)) (r := c 38 (4 * a1 + 1) + c 38 (4 * a1 + 2) + c 38 (4 * a1 + 3) + c 38 (4 * a1)) (a1 := a1) hI2 (.inl ⟨rfl, rfl⟩) (show 0 ≤ a1 ∧ a1 ≤ 5 from ⟨by omega, by omega⟩) ((hid kn_13)) ((hid kn_15)) ((hid kn_17)) ((hid kn_19)) (by omega) (bk_inl (q_iload c_125_115 rfl (v_minx c_125_117 rfl (by omega) (Nat.le_of_ble_eq_true rfl) ⟨by omega, by omega, by omega, by omega⟩ (fun y_20 hy_20 => (q_iret c_125_120 rfl ?_))))))
        exact K c2 y_20 hI2 (fun a j hm => hF a j hm) ⟨by omega, by omega⟩
      · refine v_ic_le_f (t := 107) c_125_67 rfl ⟨of_decide_eq_true rfl, (Int.not_le.mp h_11), (q_547ca4f0e hv4 hv5)⟩ (q_iload c_125_70 rfl (q_iload c_125_72 rfl (v_iadd (v := v4 + v5) c_125_74 rfl (q_iconst c_125_75 (v_idiv (v := ((v4 + v5) / 2)) c_125_76 (by omega) rfl (q_istore c_125_77 (Nat.le_of_ble_eq_true rfl) (q_aload_n c_125_79 rfl ?_)))))))
        refine q_iload_n c_125_80 rfl (q_iload c_125_81 rfl (v_cv c_125_83 km_7_275 rfl rfl (Nat.le_of_ble_eq_true rfl) ⟨⟨rfl, rfl⟩, Nat.le_of_ble_eq_true rfl, rfl⟩ (Nat.le_of_ble_eq_true rfl) (Nat.le_of_ble_eq_true rfl) (s_124 (a1 := a2) (a2 := ((v4 + v5) / 2)) hI2 (show (-2147483648) ≤ a2 ∧ a2 ≤ 2147483647 from ha2) (show (-2147483648) ≤ ((v4 + v5) / 2) ∧ ((v4 + v5) / 2) ≤ 2147483647 from ⟨by omega, by omega⟩) (fun y_21 hy_21 => (bk_inl (q_iload_n c_125_86 rfl ?_))))))
        by_cases h_22 : y_21 > a3
        · refine v_ic_gt_t (t := 97) c_125_87 rfl ⟨ha3.1, h_22, hy_21.2⟩ (q_iload c_125_97 rfl (q_istore c_125_99 (Nat.le_of_ble_eq_true rfl) (v_iinc (v := v6 + 1) c_125_101 rfl (Nat.le_of_ble_eq_true rfl) rfl (q_goto (t := 54) c_125_104 rfl (Wp_ls [(0, .ref 0), (1, vi a1), (2, vi a2), (3, vi a3), (4, vi v4), (5, vi ((v4 + v5) / 2)), (6, vi (v6 + 1))] (lsub_cons rfl (lsub_cons rfl (lsub_cons rfl (lsub_cons rfl (lsub_cons rfl (lsub_cons rfl (lsub_cons rfl lsub_nil))))))) ?_)))))
          exact ih c2 v4 ((v4 + v5) / 2) (v6 + 1) hI2 (fun a j hm => hF a j hm) hv4 ⟨by omega, by omega⟩ ⟨(rgp_l hv6.1 (of_decide_eq_true rfl)), (q_7266516b7 h_1)⟩ ⟨by omega, by omega⟩ (by omega)
        · refine v_ic_gt_f (t := 97) c_125_87 rfl ⟨hy_21.1, (Int.not_lt.mp h_22), ha3.2⟩ (q_iload c_125_90 rfl (q_istore c_125_92 (Nat.le_of_ble_eq_true rfl) (q_goto (t := 101) c_125_94 rfl (v_iinc (v := v6 + 1) c_125_101 rfl (Nat.le_of_ble_eq_true rfl) rfl (q_goto (t := 54) c_125_104 rfl (Wp_ls [(0, .ref 0), (1, vi a1), (2, vi a2), (3, vi a3), (4, vi ((v4 + v5) / 2)), (5, vi v5), (6, vi (v6 + 1))] (lsub_cons rfl (lsub_cons rfl (lsub_cons rfl (lsub_cons rfl (lsub_cons rfl (lsub_cons rfl (lsub_cons rfl lsub_nil))))))) ?_))))))
          exact ih c2 ((v4 + v5) / 2) v5 (v6 + 1) hI2 (fun a j hm => hF a j hm) ⟨by omega, by omega⟩ hv5 ⟨(rgp_l hv6.1 (of_decide_eq_true rfl)), (q_7266516b7 h_1)⟩ ⟨by omega, by omega⟩ (by omega)
set_option maxRecDepth 100000 in
set_option maxHeartbeats 4000000 in
theorem s_125 {sc : List Int32} {e : Int} {d u P Q : Nat} {c : ME} {a1 : Int} {a2 : Int} {a3 : Int} {Z : AR → Prop} (hI : Iv u e P Q c) (ha1 : (-2147483648) ≤ a1 ∧ a1 ≤ 2147483647) (ha2 : (-2147483648) ≤ a2 ∧ a2 ≤ 2147483647) (ha3 : (-2147483648) ≤ a3 ∧ a3 ≤ 2147483647) (T100 : ∀ c2 : ME, Iv u e P Q c2 → (∀ (a : Nat) (j : Int), ¬ ((a = 0 ∧ j = 12) ∨ (a = 0 ∧ j = 13)) → c2 a j = c a j) → Z (.inr 100, Wd P Q P P c2, 1, 6)) (T101 : ∀ c2 : ME, Iv u e P Q c2 → (∀ (a : Nat) (j : Int), ¬ ((a = 0 ∧ j = 12) ∨ (a = 0 ∧ j = 13)) → c2 a j = c a j) → Z (.inr 101, Wd P Q P P c2, 1, 6)) (K : ∀ (c2 : ME) (y : Int), Iv u e P Q c2 → (∀ (a : Nat) (j : Int), ¬ ((a = 0 ∧ j = 12) ∨ (a = 0 ∧ j = 13)) → c2 a j = c a j) → (-2147483648) ≤ y ∧ y ≤ 2147483647 → Z (.inl (some (vi y)), Wd P Q P P c2, 0, 0)) : Wp sc (d + 9) 125 0 [(0, .ref 0), (1, vi a1), (2, vi a2), (3, vi a3)] [] (Wd P Q P P c) 0 0 Z := by
  have hP := iv_P hI
  have hQ := iv_Q hI
  refine q_aload_n c_125_0 rfl (q_iload_n c_125_1 rfl (v_cv c_125_2 km_7_184 rfl rfl (Nat.le_of_ble_eq_true rfl) ⟨⟨rfl, rfl⟩, Nat.le_of_ble_eq_true rfl, rfl⟩ (Nat.le_of_ble_eq_true rfl) (Nat.le_of_ble_eq_true rfl) (q_aload_n c_92_0 rfl (q_iload_n c_92_1 rfl (q_iconst c_92_2 (q_aload_n c_92_3 rfl (v_gr (t := P) c_92_4 kf_7_50 rfl (Nat.le_of_ble_eq_true rfl) rfl ?_)))))))
  have h_23 := ir_p0_0 hI hP
  refine v_gi (z := 0) (v := c P 0) c_92_7 kf_7_102 (ck_p0 hP) (a68z hP) rfl rfl rfl (q_iconst c_92_10 (v_isub (v := c P 0 - 1) c_92_11 rfl (q_call c_92_12 rfl rfl rfl (q_iload_n c_80_0 rfl (q_iload_n c_80_1 rfl ?_)))))
  by_cases h_24 : a1 < 0
  · refine v_ic_lt_t (t := 14) c_80_2 rfl ⟨ha1.1, h_24, of_decide_eq_true rfl⟩ (q_iconst c_80_14 (v_zret c_80_15 rfl (of_decide_eq_true rfl) (bk_inl (v_cv c_92_15 km_7_333 rfl rfl (Nat.le_of_ble_eq_true rfl) ⟨⟨rfl, rfl⟩, Nat.le_of_ble_eq_true rfl, rfl⟩ (Nat.le_of_ble_eq_true rfl) (Nat.le_of_ble_eq_true rfl) (q_iload_n c_91_0 rfl (v_if_ne_f (t := 25) c_91_1 rfl (of_decide_eq_true rfl) (q_aload_n c_91_4 rfl ?_)))))))
    refine q_dup c_91_5 rfl ?_
    have h_25 := ir_0_12 hI
    refine v_gi (z := 12) (v := c 0 12) c_91_6 kf_7_327 rfl (Nat.le_of_ble_eq_true rfl) rfl rfl rfl (q_iconst c_91_9 (v_iadd (v := c 0 12 + 1) c_91_10 rfl (v_nrm (fun y_26 hy_26 => (v_pi (z := 12) c_91_11 kf_7_327 rfl (Nat.le_of_ble_eq_true rfl) rfl rfl rfl (of_decide_eq_true rfl) (v_new c_91_14 rfl (of_decide_eq_true rfl) (by omega) (Nat.le_of_ble_eq_true rfl) (of_decide_eq_true rfl) rfl (bk_out rfl rfl (bk_out rfl rfl ?_))))))))
    have hI_27 := iw_0_12 (v := y_26) hI ⟨hy_26.1, hy_26.2⟩
    exact T100 _ hI_27 (fun a j hm => up_b (Decidable.or_iff_not_imp_left.mpr (fun h1 h2 => hm (Or.inl ⟨Decidable.not_not.mp h1, h2⟩))))
  · refine v_ic_lt_f (t := 14) c_80_2 rfl ⟨of_decide_eq_true rfl, (Int.not_lt.mp h_24), ha1.2⟩ (q_iload_n c_80_5 rfl (q_iload_n c_80_6 rfl ?_))
    by_cases h_28 : a1 > c P 0 - 1
    · refine v_ic_gt_t (t := 14) c_80_7 rfl ⟨(rgm_l h_23.1 (of_decide_eq_true rfl)), h_28, ha1.2⟩ (q_iconst c_80_14 (v_zret c_80_15 rfl (of_decide_eq_true rfl) (bk_inl (v_cv c_92_15 km_7_333 rfl rfl (Nat.le_of_ble_eq_true rfl) ⟨⟨rfl, rfl⟩, Nat.le_of_ble_eq_true rfl, rfl⟩ (Nat.le_of_ble_eq_true rfl) (Nat.le_of_ble_eq_true rfl) (q_iload_n c_91_0 rfl (v_if_ne_f (t := 25) c_91_1 rfl (of_decide_eq_true rfl) (q_aload_n c_91_4 rfl ?_)))))))
      refine q_dup c_91_5 rfl ?_
      have h_29 := ir_0_12 hI
      refine v_gi (z := 12) (v := c 0 12) c_91_6 kf_7_327 rfl (Nat.le_of_ble_eq_true rfl) rfl rfl rfl (q_iconst c_91_9 (v_iadd (v := c 0 12 + 1) c_91_10 rfl (v_nrm (fun y_30 hy_30 => (v_pi (z := 12) c_91_11 kf_7_327 rfl (Nat.le_of_ble_eq_true rfl) rfl rfl rfl (of_decide_eq_true rfl) (v_new c_91_14 rfl (of_decide_eq_true rfl) (by omega) (Nat.le_of_ble_eq_true rfl) (of_decide_eq_true rfl) rfl (bk_out rfl rfl (bk_out rfl rfl ?_))))))))
      have hI_31 := iw_0_12 (v := y_30) hI ⟨hy_30.1, hy_30.2⟩
      exact T100 _ hI_31 (fun a j hm => up_b (Decidable.or_iff_not_imp_left.mpr (fun h1 h2 => hm (Or.inl ⟨Decidable.not_not.mp h1, h2⟩))))
    · refine v_ic_gt_f (t := 14) c_80_7 rfl ⟨ha1.1, (Int.not_lt.mp h_28), (rgm_h h_23.2 (of_decide_eq_true rfl))⟩ (q_iconst c_80_10 (q_goto (t := 15) c_80_11 rfl (v_zret c_80_15 rfl (of_decide_eq_true rfl) (bk_inl (v_cv c_92_15 km_7_333 rfl rfl (Nat.le_of_ble_eq_true rfl) ⟨⟨rfl, rfl⟩, Nat.le_of_ble_eq_true rfl, rfl⟩ (Nat.le_of_ble_eq_true rfl) (Nat.le_of_ble_eq_true rfl) (q_iload_n c_91_0 rfl (v_if_ne_t (t := 25) c_91_1 rfl (of_decide_eq_true rfl) ?_)))))))
      refine q_vret rfl rfl (bk_inl (q_vret rfl rfl (bk_inl (q_aload_n c_125_5 rfl (q_aload_n c_125_6 rfl (q_iload_n c_125_7 rfl (v_cv c_125_8 km_7_259 rfl rfl (Nat.le_of_ble_eq_true rfl) ⟨⟨rfl, rfl⟩, Nat.le_of_ble_eq_true rfl, rfl⟩ (Nat.le_of_ble_eq_true rfl) (Nat.le_of_ble_eq_true rfl) (s_117 (a1 := a2) hI (show (-2147483648) ≤ a2 ∧ a2 ≤ 2147483647 from ha2) (fun y_32 hy_32 h_33 => ?_)))))))))
      refine bk_inl ?_
      by_cases h_34 : y_32 = 0
      · refine v_if_eq_t (t := 29) c_125_11 rfl h_34 (q_iconst c_125_29 (v_cv c_125_30 km_7_161 rfl rfl (Nat.le_of_ble_eq_true rfl) ⟨⟨rfl, rfl⟩, Nat.le_of_ble_eq_true rfl, rfl⟩ (Nat.le_of_ble_eq_true rfl) (Nat.le_of_ble_eq_true rfl) (q_iload_n c_81_0 rfl (v_if_ne_f (t := 25) c_81_1 rfl (of_decide_eq_true rfl) (q_aload_n c_81_4 rfl (q_dup c_81_5 rfl ?_))))))
        have h_35 := ir_0_13 hI
        refine v_gi (z := 13) (v := c 0 13) c_81_6 kf_7_330 rfl (Nat.le_of_ble_eq_true rfl) rfl rfl rfl (q_iconst c_81_9 (v_iadd (v := c 0 13 + 1) c_81_10 rfl (v_nrm (fun y_36 hy_36 => (v_pi (z := 13) c_81_11 kf_7_330 rfl (Nat.le_of_ble_eq_true rfl) rfl rfl rfl (of_decide_eq_true rfl) (v_new c_81_14 rfl (of_decide_eq_true rfl) (by omega) (Nat.le_of_ble_eq_true rfl) (of_decide_eq_true rfl) rfl (bk_out rfl rfl ?_)))))))
        have hI_37 := iw_0_13 (v := y_36) hI ⟨hy_36.1, hy_36.2⟩
        exact T101 _ hI_37 (fun a j hm => up_b (Decidable.or_iff_not_imp_left.mpr (fun h1 h2 => hm (Or.inr ⟨Decidable.not_not.mp h1, h2⟩))))
      · refine v_if_eq_f (t := 29) c_125_11 rfl ⟨h_34, ⟨(lel hy_32.1 rfl), (ler hy_32.2 rfl)⟩, of_decide_eq_true rfl, of_decide_eq_true rfl⟩ (q_iload_n c_125_14 rfl (q_iconst c_125_15 (v_ldcw (n := 99999) c_125_16 rfl (by decide +kernel) (q_call c_125_19 rfl rfl rfl (q_iload_n c_80_0 rfl (q_iload_n c_80_1 rfl ?_))))))
        by_cases h_38 : a3 < 0
        · refine v_ic_lt_t (t := 14) c_80_2 rfl ⟨ha3.1, h_38, of_decide_eq_true rfl⟩ (q_iconst c_80_14 (v_zret c_80_15 rfl (of_decide_eq_true rfl) (bk_inl (v_if_eq_t (t := 29) c_125_22 rfl (of_decide_eq_true rfl) (q_iconst c_125_29 (v_cv c_125_30 km_7_161 rfl rfl (Nat.le_of_ble_eq_true rfl) ⟨⟨rfl, rfl⟩, Nat.le_of_ble_eq_true rfl, rfl⟩ (Nat.le_of_ble_eq_true rfl) (Nat.le_of_ble_eq_true rfl) (q_iload_n c_81_0 rfl ?_)))))))
          refine v_if_ne_f (t := 25) c_81_1 rfl (of_decide_eq_true rfl) (q_aload_n c_81_4 rfl (q_dup c_81_5 rfl ?_))
          have h_39 := ir_0_13 hI
          refine v_gi (z := 13) (v := c 0 13) c_81_6 kf_7_330 rfl (Nat.le_of_ble_eq_true rfl) rfl rfl rfl (q_iconst c_81_9 (v_iadd (v := c 0 13 + 1) c_81_10 rfl (v_nrm (fun y_40 hy_40 => (v_pi (z := 13) c_81_11 kf_7_330 rfl (Nat.le_of_ble_eq_true rfl) rfl rfl rfl (of_decide_eq_true rfl) (v_new c_81_14 rfl (of_decide_eq_true rfl) (by omega) (Nat.le_of_ble_eq_true rfl) (of_decide_eq_true rfl) rfl (bk_out rfl rfl ?_)))))))
          have hI_41 := iw_0_13 (v := y_40) hI ⟨hy_40.1, hy_40.2⟩
          exact T101 _ hI_41 (fun a j hm => up_b (Decidable.or_iff_not_imp_left.mpr (fun h1 h2 => hm (Or.inr ⟨Decidable.not_not.mp h1, h2⟩))))
        · refine v_ic_lt_f (t := 14) c_80_2 rfl ⟨of_decide_eq_true rfl, (Int.not_lt.mp h_38), ha3.2⟩ (q_iload_n c_80_5 rfl (q_iload_n c_80_6 rfl ?_))
          by_cases h_42 : a3 > 99999
          · refine v_ic_gt_t (t := 14) c_80_7 rfl ⟨of_decide_eq_true rfl, h_42, ha3.2⟩ (q_iconst c_80_14 (v_zret c_80_15 rfl (of_decide_eq_true rfl) (bk_inl (v_if_eq_t (t := 29) c_125_22 rfl (of_decide_eq_true rfl) (q_iconst c_125_29 (v_cv c_125_30 km_7_161 rfl rfl (Nat.le_of_ble_eq_true rfl) ⟨⟨rfl, rfl⟩, Nat.le_of_ble_eq_true rfl, rfl⟩ (Nat.le_of_ble_eq_true rfl) (Nat.le_of_ble_eq_true rfl) (q_iload_n c_81_0 rfl ?_)))))))
            refine v_if_ne_f (t := 25) c_81_1 rfl (of_decide_eq_true rfl) (q_aload_n c_81_4 rfl (q_dup c_81_5 rfl ?_))
            have h_43 := ir_0_13 hI
            refine v_gi (z := 13) (v := c 0 13) c_81_6 kf_7_330 rfl (Nat.le_of_ble_eq_true rfl) rfl rfl rfl (q_iconst c_81_9 (v_iadd (v := c 0 13 + 1) c_81_10 rfl (v_nrm (fun y_44 hy_44 => (v_pi (z := 13) c_81_11 kf_7_330 rfl (Nat.le_of_ble_eq_true rfl) rfl rfl rfl (of_decide_eq_true rfl) (v_new c_81_14 rfl (of_decide_eq_true rfl) (by omega) (Nat.le_of_ble_eq_true rfl) (of_decide_eq_true rfl) rfl (bk_out rfl rfl ?_)))))))
            have hI_45 := iw_0_13 (v := y_44) hI ⟨hy_44.1, hy_44.2⟩
            exact T101 _ hI_45 (fun a j hm => up_b (Decidable.or_iff_not_imp_left.mpr (fun h1 h2 => hm (Or.inr ⟨Decidable.not_not.mp h1, h2⟩))))
          · refine v_ic_gt_f (t := 14) c_80_7 rfl ⟨ha3.1, (Int.not_lt.mp h_42), of_decide_eq_true rfl⟩ (q_iconst c_80_10 (q_goto (t := 15) c_80_11 rfl (v_zret c_80_15 rfl (of_decide_eq_true rfl) (bk_inl (v_if_eq_f (t := 29) c_125_22 rfl (of_decide_eq_true rfl) (q_iconst c_125_25 (q_goto (t := 30) c_125_26 rfl ?_)))))))
            refine v_cv c_125_30 km_7_161 rfl rfl (Nat.le_of_ble_eq_true rfl) ⟨⟨rfl, rfl⟩, Nat.le_of_ble_eq_true rfl, rfl⟩ (Nat.le_of_ble_eq_true rfl) (Nat.le_of_ble_eq_true rfl) (q_iload_n c_81_0 rfl (v_if_ne_t (t := 25) c_81_1 rfl (of_decide_eq_true rfl) (q_vret rfl rfl (bk_inl (q_iload_n c_125_33 rfl (q_iload_n c_125_34 rfl (v_ishrx c_125_35 (fun y_46 hy_46 => ?_))))))))
            refine q_iconst c_125_36 (v_iandx c_125_37 (fun y_47 hy_47 => ?_))
            by_cases h_48 : y_47 ≠ 0
            · refine v_if_ne_t (t := 43) c_125_38 rfl ⟨h_48, ⟨hy_47.1, hy_47.2⟩, of_decide_eq_true rfl, of_decide_eq_true rfl⟩ (q_iconst c_125_43 (q_istore c_125_44 (Nat.le_of_ble_eq_true rfl) (v_sip c_125_46 (of_decide_eq_true rfl) (q_istore c_125_49 (Nat.le_of_ble_eq_true rfl) (q_iconst c_125_51 (q_istore c_125_52 (Nat.le_of_ble_eq_true rfl) (Wp_ls [(0, .ref 0), (1, vi a1), (2, vi a2), (3, vi a3), (4, vi 0), (5, vi 10000), (6, vi 0)] (lsub_cons rfl (lsub_cons rfl (lsub_cons rfl (lsub_cons rfl (lsub_cons rfl (lsub_cons rfl (lsub_cons rfl lsub_nil))))))) ?_)))))))
              exact (s_125_l (sc := sc) (d := d) hI ha1 ha2 ha3 T100 T101 K 68) c 0 10000 0 hI (fun a j hm => rfl) ⟨of_decide_eq_true rfl, of_decide_eq_true rfl⟩ ⟨of_decide_eq_true rfl, of_decide_eq_true rfl⟩ ⟨of_decide_eq_true rfl, of_decide_eq_true rfl⟩ ⟨(q_720657ba9 h_24), (q_3a2e67ab0 h_23 h_28)⟩ (by omega)
            · refine v_if_ne_f (t := 43) c_125_38 rfl (Decidable.not_not.mp h_48) (q_iconst c_125_41 (q_iret c_125_42 rfl ?_))
              exact K c 0 hI (fun a j hm => rfl) ⟨of_decide_eq_true rfl, of_decide_eq_true rfl⟩

set_option maxRecDepth 100000 in
set_option maxHeartbeats 4000000 in
theorem s_126_l {sc : List Int32} {e : Int} {d u P Q : Nat} {c : ME} {a1 : Int} {a2 : Int} {Z : AR → Prop} (hI : Iv u e P Q c) (ha1 : 0 ≤ a1 ∧ a1 ≤ 3) (ha2 : 0 ≤ a2 ∧ a2 ≤ 5) (K : ∀ (y : Int), 0 ≤ y ∧ y ≤ 1 → Z (.inl (some (vi y)), Wd P Q P P c, 0, 0)) : ∀ n : Nat, (∀ (v3 : Int), 0 ≤ v3 ∧ v3 ≤ 4 → 9 - 2 * v3 < (n : Int) → Wp sc (d + 10) 126 2 [(0, .ref 0), (1, vi a1), (2, vi a2), (3, vi v3)] [] (Wd P Q P P c) 0 0 Z) := by
  intro n
  induction n with
  | zero => exact (by intro v3 hv3 hm9; have hP := iv_P hI; have hQ := iv_Q hI; exfalso; omega)
  | succ n ih =>
    have hP := iv_P hI
    have hQ := iv_Q hI
    intro v3 hv3 hm9
    refine q_iload_n c_126_2 rfl (q_iconst c_126_3 ?_)
    by_cases h_1 : v3 ≥ 4
    · refine v_ic_ge_t (t := 47) c_126_4 rfl ⟨of_decide_eq_true rfl, h_1, (ler hv3.2 rfl)⟩ (q_iconst c_126_47 (v_zret c_126_48 rfl (of_decide_eq_true rfl) ?_))
      exact K 1 ⟨of_decide_eq_true rfl, of_decide_eq_true rfl⟩
    · refine v_ic_ge_f (t := 47) c_126_4 rfl ⟨(lel hv3.1 rfl), (Int.not_le.mp h_1), of_decide_eq_true rfl⟩ (q_aload_n c_126_7 rfl (v_gr (t := P) c_126_8 kf_7_50 rfl (Nat.le_of_ble_eq_true rfl) rfl (v_gr (t := (P + 6)) c_126_11 kf_7_284 (ck_p0 hP) (a68z hP) rfl (q_iload_n c_126_14 rfl ?_))))
      have h_2 := ir_p6 hI hP v3
      refine v_ia (v := c (P + 6) v3) c_126_15 (ck_p6 hP) (a68 hP rfl) (of_decide_eq_true rfl) ⟨hv3.1, (q_2e808647e h_1)⟩ rfl (q_istore c_126_16 (Nat.le_of_ble_eq_true rfl) (q_iload c_126_18 rfl (q_iconst c_126_20 ?_)))
      by_cases h_3 : c (P + 6) v3 = (-1)
      · refine v_ic_eq_t (t := 41) c_126_21 rfl h_3 (v_iinc (v := v3 + 1) c_126_41 rfl (Nat.le_of_ble_eq_true rfl) rfl (q_goto (t := 2) c_126_44 rfl (Wp_ls [(0, .ref 0), (1, vi a1), (2, vi a2), (3, vi (v3 + 1))] (lsub_cons rfl (lsub_cons rfl (lsub_cons rfl (lsub_cons rfl lsub_nil)))) ?_)))
        exact ih (v3 + 1) ⟨(rgp_l hv3.1 (of_decide_eq_true rfl)), (q_121241f94 h_1)⟩ (by omega)
      · refine v_ic_eq_f (t := 41) c_126_21 rfl ⟨h_3, ⟨(lel h_2.1 rfl), (ler h_2.2 rfl)⟩, of_decide_eq_true rfl, of_decide_eq_true rfl⟩ (q_iload c_126_24 rfl (q_aload_n c_126_26 rfl (v_gr (t := 37) c_126_27 kf_7_62 rfl (Nat.le_of_ble_eq_true rfl) rfl (q_iload_n c_126_30 rfl (q_iload_n c_126_31 rfl (q_iload_n c_126_32 rfl ?_))))))
        have h_4 := ir_p3 hI hP a1
        have h_5 := ir_38 hI 30
        have h_6 := ir_38_g hI (j := 4 * a2 + v3) ((q_e3e978779 h_1 ha2))
        have h_7 := fal_rng (m := c (P + 3) a1) (t := tb (c 38 30) a1) (g := v3) (x := c 38 (4 * a2 + v3)) ((q_c6ed8760d h_6))
        refine v_cv c_126_33 km_7_249 rfl rfl (Nat.le_of_ble_eq_true rfl) ⟨⟨rfl, rfl⟩, Nat.le_of_ble_eq_true rfl, rfl⟩ (Nat.le_of_ble_eq_true rfl) (Nat.le_of_ble_eq_true rfl) (s_48 (v1 := c (P + 3) a1) (v2 := c 38 30) (v3 := c 38 (4 * a2 + v3)) (r := (fal (c (P + 3) a1) (tb (c 38 30) a1) v3 (c 38 (4 * a2 + v3)))) (a1 := a1) (a2 := a2) (a3 := v3) hI (.inl ⟨rfl, rfl⟩) (show 0 ≤ a1 ∧ a1 ≤ 3 from ha1) (show 0 ≤ a2 ∧ a2 ≤ 5 from ha2) (show 0 ≤ v3 ∧ v3 ≤ 3 from ⟨hv3.1, (q_482ef8d41 h_1)⟩) (rfl) (rfl) (rfl) rfl (bk_inl ?_))
        by_cases h_8 : c (P + 6) v3 = (fal (c (P + 3) a1) (tb (c 38 30) a1) v3 (c 38 (4 * a2 + v3)))
        · refine v_ic_eq_t (t := 41) c_126_36 rfl h_8 (v_iinc (v := v3 + 1) c_126_41 rfl (Nat.le_of_ble_eq_true rfl) rfl (q_goto (t := 2) c_126_44 rfl (Wp_ls [(0, .ref 0), (1, vi a1), (2, vi a2), (3, vi (v3 + 1))] (lsub_cons rfl (lsub_cons rfl (lsub_cons rfl (lsub_cons rfl lsub_nil)))) ?_)))
          exact ih (v3 + 1) ⟨(rgp_l hv3.1 (of_decide_eq_true rfl)), (q_121241f94 h_1)⟩ (by omega)
        · refine v_ic_eq_f (t := 41) c_126_36 rfl ⟨h_8, ⟨(lel h_2.1 rfl), (ler h_2.2 rfl)⟩, (q_fda856264 h_7), (q_4bf067e8d h_6 h_7)⟩ (q_iconst c_126_39 (v_zret c_126_40 rfl (of_decide_eq_true rfl) ?_))
          exact K 0 ⟨of_decide_eq_true rfl, of_decide_eq_true rfl⟩
set_option maxRecDepth 100000 in
set_option maxHeartbeats 4000000 in
theorem s_126 {sc : List Int32} {e : Int} {d u P Q : Nat} {c : ME} {a1 : Int} {a2 : Int} {Z : AR → Prop} (hI : Iv u e P Q c) (ha1 : 0 ≤ a1 ∧ a1 ≤ 3) (ha2 : 0 ≤ a2 ∧ a2 ≤ 5) (K : ∀ (y : Int), 0 ≤ y ∧ y ≤ 1 → Z (.inl (some (vi y)), Wd P Q P P c, 0, 0)) : Wp sc (d + 10) 126 0 [(0, .ref 0), (1, vi a1), (2, vi a2)] [] (Wd P Q P P c) 0 0 Z := by
  have hP := iv_P hI
  have hQ := iv_Q hI
  refine q_iconst c_126_0 (q_istore_n c_126_1 (Nat.le_of_ble_eq_true rfl) (Wp_ls [(0, .ref 0), (1, vi a1), (2, vi a2), (3, vi 0)] (lsub_cons rfl (lsub_cons rfl (lsub_cons rfl (lsub_cons rfl lsub_nil)))) ?_))
  exact (s_126_l (sc := sc) (d := d) hI ha1 ha2 K 12) 0 ⟨of_decide_eq_true rfl, of_decide_eq_true rfl⟩ (by omega)

set_option maxRecDepth 100000 in
set_option maxHeartbeats 4000000 in
theorem s_127_l {sc : List Int32} {e : Int} {d u P Q : Nat} {c : ME} {Z : AR → Prop} (hI : Iv u e P Q c)  (K : ∀ (c2 : ME) (y : Int), Iv u e P Q c2 → (∀ (a : Nat) (j : Int), ¬ (a = 10) → c2 a j = c a j) → 0 ≤ y ∧ y ≤ 24 → Z (.inl (some (vi y)), Wd P Q P P c2, 0, 0)) : ∀ n : Nat, (∀ (c2 : ME) (v1 : Int) (v2 : Int), Iv u e P Q c2 → (∀ (a : Nat) (j : Int), ¬ (a = 10) → c2 a j = c a j) → 0 ≤ v1 ∧ v1 ≤ 24 → 0 ≤ v2 ∧ v2 ≤ 4 → ((v1 ≤ 6 * v2)) → 84 - 17 * v2 < (n : Int) → Wp sc (d + 11) 127 4 [(0, .ref 0), (1, vi v1), (2, vi v2)] [] (Wd P Q P P c2) 0 0 Z) ∧ (∀ (c2 : ME) (v1 : Int) (v2 : Int) (v3 : Int), Iv u e P Q c2 → (∀ (a : Nat) (j : Int), ¬ (a = 10) → c2 a j = c a j) → 0 ≤ v1 ∧ v1 ≤ 24 → 0 ≤ v2 ∧ v2 ≤ 3 → 0 ≤ v3 ∧ v3 ≤ 6 → ((v1 ≤ 6 * v2 + v3)) → 81 - 17 * v2 - 2 * v3 < (n : Int) → Wp sc (d + 11) 127 17 [(0, .ref 0), (1, vi v1), (2, vi v2), (3, vi v3)] [] (Wd P Q P P c2) 0 0 Z) := by
  intro n
  induction n with
  | zero => exact (by exact ⟨by (intro c2 v1 v2 hI2 hF hv1 hv2 hx0 hm9; have hP := iv_P hI; have hQ := iv_Q hI; exfalso; omega), by (intro c2 v1 v2 v3 hI2 hF hv1 hv2 hv3 hx0 hm9; have hP := iv_P hI; have hQ := iv_Q hI; exfalso; omega)⟩)
  | succ n ih =>
    have hP := iv_P hI
    have hQ := iv_Q hI
    refine ⟨?_, ?_⟩
    · skip
      intro c2 v1 v2 hI2 hF hv1 hv2 hx0 hm9
      refine q_iload_n c_127_4 rfl (q_aload_n c_127_5 rfl (v_gr (t := P) c_127_6 kf_7_50 rfl (Nat.le_of_ble_eq_true rfl) rfl ?_))
      have h_1 := ir_p0_2 hI hP
      have kn_2 : Hid (c2 P 2 = c P 2) := hF P 2 (fun h => absurd h (np0 hP rfl))
      refine v_gi (z := 2) (v := c P 2) c_127_9 kf_7_168 (ck_p0 hP) (a68z hP) rfl rfl (hid kn_2) ?_
      by_cases h_3 : v2 ≥ c P 2
      · refine v_ic_ge_t (t := 75) c_127_12 rfl ⟨(q_0bfe68f8e h_1), h_3, (ler hv2.2 rfl)⟩ (q_iload_n c_127_75 rfl (q_iret c_127_76 rfl ?_))
        exact K c2 v1 hI2 (fun a j hm => hF a j hm) hv1
      · refine v_ic_ge_f (t := 75) c_127_12 rfl ⟨(lel hv2.1 rfl), (Int.not_le.mp h_3), (q_82d4f69ff h_1)⟩ (q_iconst c_127_15 (q_istore_n c_127_16 (Nat.le_of_ble_eq_true rfl) (Wp_ls [(0, .ref 0), (1, vi v1), (2, vi v2), (3, vi 0)] (lsub_cons rfl (lsub_cons rfl (lsub_cons rfl (lsub_cons rfl lsub_nil)))) ?_)))
        exact ih.2 c2 v1 v2 0 hI2 (fun a j hm => hF a j hm) hv1 ⟨hv2.1, (q_40332f6ca h_1 h_3)⟩ ⟨of_decide_eq_true rfl, of_decide_eq_true rfl⟩ (by omega) (by omega)
    · skip
      intro c2 v1 v2 v3 hI2 hF hv1 hv2 hv3 hx0 hm9
      refine q_iload_n c_127_17 rfl (q_aload_n c_127_18 rfl (v_gr (t := P) c_127_19 kf_7_50 rfl (Nat.le_of_ble_eq_true rfl) rfl ?_))
      have h_4 := ir_p0_0 hI hP
      have kn_5 : Hid (c2 P 0 = c P 0) := hF P 0 (fun h => absurd h (np0 hP rfl))
      refine v_gi (z := 0) (v := c P 0) c_127_22 kf_7_102 (ck_p0 hP) (a68z hP) rfl rfl (hid kn_5) ?_
      by_cases h_6 : v3 ≥ c P 0
      · refine v_ic_ge_t (t := 69) c_127_25 rfl ⟨(q_730ab5169 h_4), h_6, (ler hv3.2 rfl)⟩ (v_iinc (v := v2 + 1) c_127_69 rfl (Nat.le_of_ble_eq_true rfl) rfl (q_goto (t := 4) c_127_72 rfl (Wp_ls [(0, .ref 0), (1, vi v1), (2, vi (v2 + 1))] (lsub_cons rfl (lsub_cons rfl (lsub_cons rfl lsub_nil))) ?_)))
        exact ih.1 c2 v1 (v2 + 1) hI2 (fun a j hm => hF a j hm) hv1 ⟨(rgp_l hv2.1 (of_decide_eq_true rfl)), (rgp_h hv2.2 (of_decide_eq_true rfl))⟩ (by omega) (by omega)
      · refine v_ic_ge_f (t := 69) c_127_25 rfl ⟨(lel hv3.1 rfl), (Int.not_le.mp h_6), (q_b289b7db2 h_4)⟩ (q_aload_n c_127_28 rfl (v_gr (t := 37) c_127_29 kf_7_62 rfl (Nat.le_of_ble_eq_true rfl) rfl (q_iload_n c_127_32 rfl ?_)))
        have h_7 := ir_38_g hI (j := 4 * v3) ((q_aa51b186e h_4 h_6))
        have kn_8 : Hid (c2 38 (4 * v3) = c 38 (4 * v3)) := hF 38 (4 * v3) (fun h => absurd h (nn rfl))
        have h_9 := ir_38_g hI (j := 4 * v3 + 1) ((q_57851f9de h_4 h_6))
        have kn_10 : Hid (c2 38 (4 * v3 + 1) = c 38 (4 * v3 + 1)) := hF 38 (4 * v3 + 1) (fun h => absurd h (nn rfl))
        have h_11 := ir_38_g hI (j := 4 * v3 + 2) ((q_7296e74e6 h_4 h_6))
        have kn_12 : Hid (c2 38 (4 * v3 + 2) = c 38 (4 * v3 + 2)) := hF 38 (4 * v3 + 2) (fun h => absurd h (nn rfl))
        have h_13 := ir_38_g hI (j := 4 * v3 + 3) ((q_b15525c4c h_4 h_6))
        have kn_14 : Hid (c2 38 (4 * v3 + 3) = c 38 (4 * v3 + 3)) := hF 38 (4 * v3 + 3) (fun h => absurd h (nn rfl))
        refine v_cv c_127_33 km_7_187 rfl rfl (Nat.le_of_ble_eq_true rfl) ⟨⟨rfl, rfl⟩, Nat.le_of_ble_eq_true rfl, rfl⟩ (Nat.le_of_ble_eq_true rfl) (Nat.le_of_ble_eq_true rfl) (s_43 (v1 := c 38 (4 * v3)) (v2 := c 38 (4 * v3 + 1)) (v3 := c 38 (4 * v3 + 2)) (v4 := c 38 (4 * v3 + 3)) (r := c 38 (4 * v3 + 1) + c 38 (4 * v3 + 2) + c 38 (4 * v3 + 3) + c 38 (4 * v3)) (a1 := v3) hI2 (.inl ⟨rfl, rfl⟩) (show 0 ≤ v3 ∧ v3 ≤ 5 from ⟨hv3.1, (q_d63a8538e h_4 h_6)⟩) ((hid kn_8)) ((hid kn_10)) ((hid kn_12)) ((hid kn_14)) (by omega) (bk_inl ?_))
        by_cases h_15 : c 38 (4 * v3 + 1) + c 38 (4 * v3 + 2) + c 38 (4 * v3 + 3) + c 38 (4 * v3) ≤ 0
        · refine v_if_le_t (t := 63) c_127_36 rfl ⟨(q_df6958c12 h_11 h_13 h_7 h_9), h_15, of_decide_eq_true rfl⟩ (v_iinc (v := v3 + 1) c_127_63 rfl (Nat.le_of_ble_eq_true rfl) rfl (q_goto (t := 17) c_127_66 rfl (Wp_ls [(0, .ref 0), (1, vi v1), (2, vi v2), (3, vi (v3 + 1))] (lsub_cons rfl (lsub_cons rfl (lsub_cons rfl (lsub_cons rfl lsub_nil)))) ?_)))
          exact ih.2 c2 v1 v2 (v3 + 1) hI2 (fun a j hm => hF a j hm) hv1 hv2 ⟨(rgp_l hv3.1 (of_decide_eq_true rfl)), (q_4a76cd9c7 h_4 h_6)⟩ (by omega) (by omega)
        · refine v_if_le_f (t := 63) c_127_36 rfl ⟨of_decide_eq_true rfl, (Int.not_le.mp h_15), (q_e2451768c h_11 h_13 h_7 h_9)⟩ (q_aload_n c_127_39 rfl (q_iload_n c_127_40 rfl (q_iload_n c_127_41 rfl (v_cv c_127_42 km_7_357 rfl rfl (Nat.le_of_ble_eq_true rfl) ⟨⟨rfl, rfl⟩, Nat.le_of_ble_eq_true rfl, rfl⟩ (Nat.le_of_ble_eq_true rfl) (Nat.le_of_ble_eq_true rfl) (s_126 (a1 := v2) (a2 := v3) hI2 (show 0 ≤ v2 ∧ v2 ≤ 3 from hv2) (show 0 ≤ v3 ∧ v3 ≤ 5 from ⟨hv3.1, (q_d63a8538e h_4 h_6)⟩) (fun y_16 hy_16 => (bk_inl ?_)))))))
          by_cases h_17 : y_16 = 0
          · refine v_if_eq_t (t := 63) c_127_45 rfl h_17 (v_iinc (v := v3 + 1) c_127_63 rfl (Nat.le_of_ble_eq_true rfl) rfl (q_goto (t := 17) c_127_66 rfl (Wp_ls [(0, .ref 0), (1, vi v1), (2, vi v2), (3, vi (v3 + 1))] (lsub_cons rfl (lsub_cons rfl (lsub_cons rfl (lsub_cons rfl lsub_nil)))) ?_)))
            exact ih.2 c2 v1 v2 (v3 + 1) hI2 (fun a j hm => hF a j hm) hv1 hv2 ⟨(rgp_l hv3.1 (of_decide_eq_true rfl)), (q_4a76cd9c7 h_4 h_6)⟩ (by omega) (by omega)
          · refine v_if_eq_f (t := 63) c_127_45 rfl ⟨h_17, ⟨(lel hy_16.1 rfl), (ler hy_16.2 rfl)⟩, of_decide_eq_true rfl, of_decide_eq_true rfl⟩ (q_aload_n c_127_48 rfl (v_gr (t := 10) c_127_49 kf_7_37 rfl (Nat.le_of_ble_eq_true rfl) rfl (q_iload_n c_127_52 rfl (v_bip c_127_53 (of_decide_eq_true rfl) (q_iload_n c_127_55 rfl (v_imul (v := 10 * v2) c_127_56 rfl (q_iload_n c_127_57 rfl ?_)))))))
            refine v_iadd (v := 10 * v2 + v3) c_127_58 rfl (v_is c_127_59 rfl (of_decide_eq_true rfl) (of_decide_eq_true rfl) ⟨hv1.1, by first | (clear hv1 hv3 h_7 h_9 h_11 h_13 h_15 h_17; omega) | omega⟩ (v_iinc (v := v1 + 1) c_127_60 rfl (Nat.le_of_ble_eq_true rfl) rfl (v_iinc (v := v3 + 1) c_127_63 rfl (Nat.le_of_ble_eq_true rfl) rfl (q_goto (t := 17) c_127_66 rfl ?_))))
            have hI_18 := iw_10 (j := v1) (v := 10 * v2 + v3) hI2 ⟨by omega, by omega⟩ (by omega)
            refine Wp_ls [(0, .ref 0), (1, vi (v1 + 1)), (2, vi v2), (3, vi (v3 + 1))] (lsub_cons rfl (lsub_cons rfl (lsub_cons rfl (lsub_cons rfl lsub_nil)))) ?_
            exact ih.2 (up c2 10 v1 (10 * v2 + v3)) (v1 + 1) v2 (v3 + 1) hI_18 (fun a j hm => (up_b (Decidable.or_iff_not_imp_left.mpr (fun h1 h2 => hm (Decidable.not_not.mp h1)))).trans (hF a j hm)) ⟨(rgp_l hv1.1 (of_decide_eq_true rfl)), by first | (clear hv1 hv3 h_7 h_9 h_11 h_13 h_15 h_17; omega) | omega⟩ hv2 ⟨(rgp_l hv3.1 (of_decide_eq_true rfl)), (q_4a76cd9c7 h_4 h_6)⟩ (by first | (clear hv1 hv2 hv3 h_4 h_6 h_7 h_9 h_11 h_13 h_15 h_17; omega) | omega) (by omega)
set_option maxRecDepth 100000 in
set_option maxHeartbeats 4000000 in
theorem s_127 {sc : List Int32} {e : Int} {d u P Q : Nat} {c : ME} {Z : AR → Prop} (hI : Iv u e P Q c)  (K : ∀ (c2 : ME) (y : Int), Iv u e P Q c2 → (∀ (a : Nat) (j : Int), ¬ (a = 10) → c2 a j = c a j) → 0 ≤ y ∧ y ≤ 24 → Z (.inl (some (vi y)), Wd P Q P P c2, 0, 0)) : Wp sc (d + 11) 127 0 [(0, .ref 0)] [] (Wd P Q P P c) 0 0 Z := by
  have hP := iv_P hI
  have hQ := iv_Q hI
  refine q_iconst c_127_0 (q_istore_n c_127_1 (Nat.le_of_ble_eq_true rfl) (q_iconst c_127_2 (q_istore_n c_127_3 (Nat.le_of_ble_eq_true rfl) (Wp_ls [(0, .ref 0), (1, vi 0), (2, vi 0)] (lsub_cons rfl (lsub_cons rfl (lsub_cons rfl lsub_nil))) ?_))))
  exact (s_127_l (sc := sc) (d := d) hI K 87).1 c 0 0 hI (fun a j hm => rfl) ⟨of_decide_eq_true rfl, of_decide_eq_true rfl⟩ ⟨of_decide_eq_true rfl, of_decide_eq_true rfl⟩ (by first | decide | omega) (by omega)

set_option maxRecDepth 100000 in
set_option maxHeartbeats 4000000 in
theorem s_128 {sc : List Int32} {e : Int} {d u P Q : Nat} {c : ME} {a1 : Int} {Z : AR → Prop} (hI : Iv u e P Q c) (ha1 : (-2147483648) ≤ a1 ∧ a1 ≤ 2147483647) (T101 : ∀ c2 : ME, Iv u e P Q c2 → (∀ (a : Nat) (j : Int), ¬ ((a = 0 ∧ j = 13) ∨ a = 10) → c2 a j = c a j) → Z (.inr 101, Wd P Q P P c2, 1, 6)) (K : ∀ (c2 : ME) (y : Int), Iv u e P Q c2 → (∀ (a : Nat) (j : Int), ¬ ((a = 0 ∧ j = 13) ∨ a = 10) → c2 a j = c a j) → (-2147483648) ≤ y ∧ y ≤ 2147483647 → Z (.inl (some (vi y)), Wd P Q P P c2, 0, 0)) : Wp sc (d + 12) 128 0 [(0, .ref 0), (1, vi a1)] [] (Wd P Q P P c) 0 0 Z := by
  have hP := iv_P hI
  have hQ := iv_Q hI
  refine q_aload_n c_128_0 rfl (q_iload_n c_128_1 rfl (q_iconst c_128_2 (q_iconst c_128_3 (q_call c_128_4 rfl rfl rfl (q_iload_n c_80_0 rfl (q_iload_n c_80_1 rfl ?_))))))
  by_cases h_1 : a1 < 0
  · refine v_ic_lt_t (t := 14) c_80_2 rfl ⟨ha1.1, h_1, of_decide_eq_true rfl⟩ (q_iconst c_80_14 (v_zret c_80_15 rfl (of_decide_eq_true rfl) (bk_inl (v_cv c_128_7 km_7_161 rfl rfl (Nat.le_of_ble_eq_true rfl) ⟨⟨rfl, rfl⟩, Nat.le_of_ble_eq_true rfl, rfl⟩ (Nat.le_of_ble_eq_true rfl) (Nat.le_of_ble_eq_true rfl) (q_iload_n c_81_0 rfl (v_if_ne_f (t := 25) c_81_1 rfl (of_decide_eq_true rfl) (q_aload_n c_81_4 rfl ?_)))))))
    refine q_dup c_81_5 rfl ?_
    have h_2 := ir_0_13 hI
    refine v_gi (z := 13) (v := c 0 13) c_81_6 kf_7_330 rfl (Nat.le_of_ble_eq_true rfl) rfl rfl rfl (q_iconst c_81_9 (v_iadd (v := c 0 13 + 1) c_81_10 rfl (v_nrm (fun y_3 hy_3 => (v_pi (z := 13) c_81_11 kf_7_330 rfl (Nat.le_of_ble_eq_true rfl) rfl rfl rfl (of_decide_eq_true rfl) (v_new c_81_14 rfl (of_decide_eq_true rfl) (by omega) (Nat.le_of_ble_eq_true rfl) (of_decide_eq_true rfl) rfl (bk_out rfl rfl ?_)))))))
    have hI_4 := iw_0_13 (v := y_3) hI ⟨hy_3.1, hy_3.2⟩
    exact T101 _ hI_4 (fun a j hm => up_b (Decidable.or_iff_not_imp_left.mpr (fun h1 h2 => hm (Or.inl ⟨Decidable.not_not.mp h1, h2⟩))))
  · refine v_ic_lt_f (t := 14) c_80_2 rfl ⟨of_decide_eq_true rfl, (Int.not_lt.mp h_1), ha1.2⟩ (q_iload_n c_80_5 rfl (q_iload_n c_80_6 rfl ?_))
    by_cases h_5 : a1 > 1
    · refine v_ic_gt_t (t := 14) c_80_7 rfl ⟨of_decide_eq_true rfl, h_5, ha1.2⟩ (q_iconst c_80_14 (v_zret c_80_15 rfl (of_decide_eq_true rfl) (bk_inl (v_cv c_128_7 km_7_161 rfl rfl (Nat.le_of_ble_eq_true rfl) ⟨⟨rfl, rfl⟩, Nat.le_of_ble_eq_true rfl, rfl⟩ (Nat.le_of_ble_eq_true rfl) (Nat.le_of_ble_eq_true rfl) (q_iload_n c_81_0 rfl (v_if_ne_f (t := 25) c_81_1 rfl (of_decide_eq_true rfl) (q_aload_n c_81_4 rfl ?_)))))))
      refine q_dup c_81_5 rfl ?_
      have h_6 := ir_0_13 hI
      refine v_gi (z := 13) (v := c 0 13) c_81_6 kf_7_330 rfl (Nat.le_of_ble_eq_true rfl) rfl rfl rfl (q_iconst c_81_9 (v_iadd (v := c 0 13 + 1) c_81_10 rfl (v_nrm (fun y_7 hy_7 => (v_pi (z := 13) c_81_11 kf_7_330 rfl (Nat.le_of_ble_eq_true rfl) rfl rfl rfl (of_decide_eq_true rfl) (v_new c_81_14 rfl (of_decide_eq_true rfl) (by omega) (Nat.le_of_ble_eq_true rfl) (of_decide_eq_true rfl) rfl (bk_out rfl rfl ?_)))))))
      have hI_8 := iw_0_13 (v := y_7) hI ⟨hy_7.1, hy_7.2⟩
      exact T101 _ hI_8 (fun a j hm => up_b (Decidable.or_iff_not_imp_left.mpr (fun h1 h2 => hm (Or.inl ⟨Decidable.not_not.mp h1, h2⟩))))
    · refine v_ic_gt_f (t := 14) c_80_7 rfl ⟨ha1.1, (Int.not_lt.mp h_5), of_decide_eq_true rfl⟩ (q_iconst c_80_10 (q_goto (t := 15) c_80_11 rfl (v_zret c_80_15 rfl (of_decide_eq_true rfl) (bk_inl (v_cv c_128_7 km_7_161 rfl rfl (Nat.le_of_ble_eq_true rfl) ⟨⟨rfl, rfl⟩, Nat.le_of_ble_eq_true rfl, rfl⟩ (Nat.le_of_ble_eq_true rfl) (Nat.le_of_ble_eq_true rfl) (q_iload_n c_81_0 rfl (v_if_ne_t (t := 25) c_81_1 rfl (of_decide_eq_true rfl) ?_)))))))
      refine q_vret rfl rfl (bk_inl (q_aload_n c_128_10 rfl (v_cv c_128_11 km_7_281 rfl rfl (Nat.le_of_ble_eq_true rfl) ⟨⟨rfl, rfl⟩, Nat.le_of_ble_eq_true rfl, rfl⟩ (Nat.le_of_ble_eq_true rfl) (Nat.le_of_ble_eq_true rfl) (s_127 hI (fun c_9 y_12 hI_10 hF_11 hy_12 => (bk_inl (q_istore_n c_128_14 (Nat.le_of_ble_eq_true rfl) (q_iload_n c_128_15 rfl ?_))))))))
      by_cases h_13 : a1 ≠ 0
      · refine v_if_ne_t (t := 21) c_128_16 rfl ⟨h_13, ⟨ha1.1, ha1.2⟩, of_decide_eq_true rfl, of_decide_eq_true rfl⟩ (q_iload_n c_128_21 rfl ?_)
        by_cases h_14 : y_12 ≤ 0
        · refine v_if_le_t (t := 34) c_128_22 rfl ⟨(lel hy_12.1 rfl), h_14, of_decide_eq_true rfl⟩ (q_iconst c_128_34 (q_iret c_128_35 rfl ?_))
          exact K c_9 (-1) hI_10 (fun a j hm => hF_11 a j (fun h => hm (Or.inr h))) ⟨of_decide_eq_true rfl, of_decide_eq_true rfl⟩
        · refine v_if_le_f (t := 34) c_128_22 rfl ⟨of_decide_eq_true rfl, (Int.not_le.mp h_14), (ler hy_12.2 rfl)⟩ (q_aload_n c_128_25 rfl (v_gr (t := 10) c_128_26 kf_7_37 rfl (Nat.le_of_ble_eq_true rfl) rfl (q_iconst c_128_29 ?_)))
          have h_15 := ir_10 hI_10 0
          have h_16 := ir_10_x hI_10 0
          refine v_ia (v := c_9 10 0) c_128_30 rfl (of_decide_eq_true rfl) (of_decide_eq_true rfl) (of_decide_eq_true rfl) rfl (q_goto (t := 35) c_128_31 rfl (q_iret c_128_35 rfl ?_))
          exact K c_9 (c_9 10 0) hI_10 (fun a j hm => hF_11 a j (fun h => hm (Or.inr h))) ⟨(lel h_15.1 rfl), (ler h_15.2 rfl)⟩
      · refine v_if_ne_f (t := 21) c_128_16 rfl (Decidable.not_not.mp h_13) (q_iload_n c_128_19 rfl (q_iret c_128_20 rfl ?_))
        exact K c_9 y_12 hI_10 (fun a j hm => hF_11 a j (fun h => hm (Or.inr h))) ⟨(lel hy_12.1 rfl), (ler hy_12.2 rfl)⟩

set_option maxRecDepth 100000 in
set_option maxHeartbeats 4000000 in
theorem s_129 {sc : List Int32} {e : Int} {d u P Q : Nat} {c : ME} {a1 : Int} {a2 : Int} {Z : AR → Prop} (hI : Iv u e P Q c) (ha1 : 0 ≤ a1 ∧ a1 ≤ 35) (ha2 : 0 ≤ a2 ∧ a2 ≤ 3) (hq0 : ((a1 % 10) ≤ 5)) (K : ∀ (y : Int), (-2147483648) ≤ y ∧ y ≤ 2147483647 → Z (.inl (some (vi y)), Wd P Q P P c, 0, 0)) : Wp sc (d + 10) 129 0 [(0, .ref 0), (1, vi a1), (2, vi a2)] [] (Wd P Q P P c) 0 0 Z := by
  have hP := iv_P hI
  have hQ := iv_Q hI
  refine q_aload_n c_129_0 rfl (v_gr (t := 37) c_129_1 kf_7_62 rfl (Nat.le_of_ble_eq_true rfl) rfl (q_iload_n c_129_4 rfl (v_bip c_129_5 (of_decide_eq_true rfl) (v_idiv (v := (a1 / 10)) c_129_7 (by omega) rfl (q_iload_n c_129_8 rfl (v_bip c_129_9 (of_decide_eq_true rfl) (v_irem (v := (a1 % 10)) c_129_11 (by omega) rfl ?_)))))))
  refine q_iload_n c_129_12 rfl ?_
  have h_1 := ir_p3 hI hP (a1 / 10)
  have h_2 := ir_38 hI 30
  have h_3 := ir_38_g hI (j := 4 * (a1 % 10) + a2) ((q_0171b43c7 ha2 hq0))
  have h_4 := fal_rng (m := c (P + 3) (a1 / 10)) (t := tb (c 38 30) (a1 / 10)) (g := a2) (x := c 38 (4 * (a1 % 10) + a2)) ((q_c6ed8760d h_3))
  refine v_cv c_129_13 km_7_249 rfl rfl (Nat.le_of_ble_eq_true rfl) ⟨⟨rfl, rfl⟩, Nat.le_of_ble_eq_true rfl, rfl⟩ (Nat.le_of_ble_eq_true rfl) (Nat.le_of_ble_eq_true rfl) (s_48 (v1 := c (P + 3) (a1 / 10)) (v2 := c 38 30) (v3 := c 38 (4 * (a1 % 10) + a2)) (r := (fal (c (P + 3) (a1 / 10)) (tb (c 38 30) (a1 / 10)) a2 (c 38 (4 * (a1 % 10) + a2)))) (a1 := (a1 / 10)) (a2 := (a1 % 10)) (a3 := a2) hI (.inl ⟨rfl, rfl⟩) (show 0 ≤ (a1 / 10) ∧ (a1 / 10) ≤ 3 from ⟨by omega, by omega⟩) (show 0 ≤ (a1 % 10) ∧ (a1 % 10) ≤ 5 from ⟨by omega, (q_06579a4a5 hq0)⟩) (show 0 ≤ a2 ∧ a2 ≤ 3 from ha2) (rfl) (rfl) (rfl) rfl (bk_inl (q_iret c_129_16 rfl ?_)))
  exact K (fal (c (P + 3) (a1 / 10)) (tb (c 38 30) (a1 / 10)) a2 (c 38 (4 * (a1 % 10) + a2))) ⟨(q_fda856264 h_4), (q_4bf067e8d h_3 h_4)⟩

