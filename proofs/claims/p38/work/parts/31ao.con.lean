section
/-! ===== contracts 9 ===== -/
theorem qn_4659b324a {j : Int} : ¬ (((38 : Nat) = 0 ∧ j = 12) ∨ ((38 : Nat) = 0 ∧ j = 13) ∨ (38 : Nat) = 12) := (fun q => q.elim (fun h => absurd h.1 (nn rfl)) (fun q => q.elim (fun h => absurd h.1 (nn rfl)) (fun h => absurd h (nn rfl))))
theorem qn_b39d5257d {P : Nat} {j : Int} (hP : P = 13 ∨ P = 25) : ¬ ((P = 0 ∧ j = 12) ∨ (P = 0 ∧ j = 13) ∨ P = 12) := (fun q => q.elim (fun h => absurd h.1 (np0 hP rfl)) (fun q => q.elim (fun h => absurd h.1 (np0 hP rfl)) (fun h => absurd h (np0 hP rfl))))
theorem q_ad61fcb20 {x0 : Int} (f0 : 0 ≤ x0 ∧ x0 ≤ 8) : (-2147483648) ≤ x0 := by omega
theorem q_68855c780 {x0 : Int} (f0 : 0 ≤ x0 ∧ x0 ≤ 8) : x0 ≤ 2147483647 := by omega
theorem qn_205a17438 {P : Nat} {j : Int} (hP : P = 13 ∨ P = 25) : ¬ (((P + 4) = 0 ∧ j = 12) ∨ ((P + 4) = 0 ∧ j = 13) ∨ (P + 4) = 12) := (fun q => q.elim (fun h => absurd h.1 (np hP rfl rfl)) (fun q => q.elim (fun h => absurd h.1 (np hP rfl rfl)) (fun h => absurd h (np hP rfl rfl))))
theorem q_ee9fc688f {x0 x1 : Int} (f0 : 0 ≤ x0 ∧ x0 ≤ 8) (f1 : ¬ (x1 ≥ x0)) : x1 < 8 := by omega
theorem q_d3303858b {x0 x1 : Int} (f0 : 0 ≤ x0 ∧ x0 ≤ 8) (f1 : ¬ (x1 ≥ x0)) : x1 + 1 ≤ 8 := by omega
theorem q_3500cd578 {x0 x1 x2 x3 x4 x5 x6 x7 : Int} (f0 : 0 ≤ x0 ∧ x0 ≤ 9999) (f1 : 0 ≤ x1 ∧ x1 ≤ x2) (f2 : 0 ≤ x3 ∧ x3 ≤ x4) (f3 : 0 ≤ x5 ∧ x5 ≤ x6) (f4 : 0 ≤ x7 ∧ x7 ≤ x0) (f5 : 0 ≤ x2 ∧ x2 ≤ 9999) (f6 : 0 ≤ x4 ∧ x4 ≤ 9999) (f7 : 0 ≤ x6 ∧ x6 ≤ 9999) : x1 + x3 + x5 + x7 ≤ 2147483647 := by omega
theorem q_0023c4fc8 {x0 x1 x2 x3 : Int} (f0 : ¬ (x0 + x1 + x2 + x3 ≤ 0)) : (-2147483648) ≤ x0 + x1 + x2 + x3 := by omega
theorem qn_7ba88e57e {P : Nat} {j : Int} (hP : P = 13 ∨ P = 25) : ¬ ((P = 0 ∧ j = 12) ∨ (P = 0 ∧ j = 13)) := (fun q => q.elim (fun h => absurd h.1 (np0 hP rfl)) (fun h => absurd h.1 (np0 hP rfl)))
theorem qn_6e8027b9d {P : Nat} {j : Int} (hP : P = 13 ∨ P = 25) : ¬ (((P + 3) = 0 ∧ j = 12) ∨ ((P + 3) = 0 ∧ j = 13)) := (fun q => q.elim (fun h => absurd h.1 (np hP rfl rfl)) (fun h => absurd h.1 (np hP rfl rfl)))
theorem q_591ef6fa4 {x0 x1 : Int} (f0 : (x0 = 0) ∨ (x1 ≥ 0 ∧ x1 ≤ 63)) (f1 : ¬ (x0 = 0)) : x1 ≤ 63 := by omega
theorem qn_a24b4b71d {P : Nat} (hP : P = 13 ∨ P = 25) : ¬ (P = 11 ∨ P = (P + 10) ∨ P = (P + 11)) := (fun q => q.elim (fun h => absurd h (np0 hP rfl)) (fun q => q.elim (fun h => absurd h (p0p rfl)) (fun h => absurd h (p0p rfl))))
theorem q_71a18878d {x0 x1 : Int} (f0 : 0 ≤ x0 ∧ x0 ≤ 6) (f1 : ¬ (x1 ≥ x0)) : x1 < 6 := by omega
theorem qv_448150911 {P : Nat} {a : Nat} (hm : ¬ (a = 11 ∨ a = (P + 10) ∨ a = (P + 11))) : ¬ (a = (P + 10) ∨ a = (P + 11)) := (fun q => q.elim (fun h => hm (Or.inr (Or.inl h))) (fun h => hm (Or.inr (Or.inr h))))
theorem q_8ed797edd {x0 x1 : Int} (f0 : ¬ (x0 > x1)) (f1 : 0 ≤ x1 ∧ x1 ≤ 63) : x0 + 1 ≤ 64 := by omega
theorem qv_e2e2522af {P : Nat} {a : Nat} {j : Int} (hm : ¬ ((a = 0 ∧ j = 13) ∨ a = (P + 10) ∨ a = (P + 11) ∨ a = 11)) : ¬ (a = 11 ∨ a = (P + 10) ∨ a = (P + 11)) := (fun q => q.elim (fun h => hm (Or.inr (Or.inr (Or.inr h)))) (fun q => q.elim (fun h => hm (Or.inr (Or.inl h))) (fun h => hm (Or.inr (Or.inr (Or.inl h))))))
theorem q_9f800265d {x0 x1 : Int} (f0 : 0 ≤ x0 ∧ x0 ≤ 9999) (f1 : 0 ≤ x1 ∧ x1 ≤ 10000) : (-2147483648) ≤ x1 - x0 := by omega
theorem q_547ca4f0e {x0 x1 : Int} (f0 : 0 ≤ x0 ∧ x0 ≤ 9999) (f1 : 0 ≤ x1 ∧ x1 ≤ 10000) : x1 - x0 ≤ 2147483647 := by omega
theorem q_7266516b7 {x0 : Int} (f0 : ¬ (x0 ≥ 32)) : x0 + 1 ≤ 32 := by omega
theorem q_40332f6ca {x0 x1 : Int} (f0 : 0 ≤ x0 ∧ x0 ≤ 4) (f1 : ¬ (x1 ≥ x0)) : x1 ≤ 3 := by omega
theorem q_0171b43c7 {x0 x1 : Int} (f0 : 0 ≤ x0 ∧ x0 ≤ 3) (f1 : (x1 ≤ 5)) : 4 * x1 + x0 < 24 := by omega
theorem q_06579a4a5 {x0 : Int} (f0 : (x0 ≤ 5)) : x0 ≤ 5 := by omega
theorem c_114_36 : mLk 114 36 = some (.iload 4, 2) := rfl
theorem c_114_38 : mLk 114 38 = some (.iconst 4, 1) := rfl
theorem c_114_39 : mLk 114 39 = some (.if_icmp .ge 36, 3) := rfl
theorem c_114_75 : mLk 114 75 = some (.iconst 0, 1) := rfl
theorem c_114_76 : mLk 114 76 = some (.istore 4, 2) := rfl
theorem c_114_78 : mLk 114 78 = some (.iconst 0, 1) := rfl
theorem c_114_79 : mLk 114 79 = some (.istore 5, 2) := rfl
theorem c_114_42 : mLk 114 42 = some (.aload_n 0, 1) := rfl
theorem c_114_43 : mLk 114 43 = some (.getfield 44, 3) := rfl
theorem c_114_46 : mLk 114 46 = some (.iload 4, 2) := rfl
theorem c_114_48 : mLk 114 48 = some (.aload_n 0, 1) := rfl
theorem c_114_49 : mLk 114 49 = some (.getfield 62, 3) := rfl
theorem c_114_52 : mLk 114 52 = some (.iload_n 1, 1) := rfl
theorem c_114_53 : mLk 114 53 = some (.iload 4, 2) := rfl
theorem c_114_55 : mLk 114 55 = some (.invokevirtual 196, 3) := rfl
theorem c_114_58 : mLk 114 58 = some (.iastore, 1) := rfl
theorem c_114_59 : mLk 114 59 = some (.iload_n 3, 1) := rfl
theorem c_114_60 : mLk 114 60 = some (.aload_n 0, 1) := rfl
theorem c_114_61 : mLk 114 61 = some (.getfield 44, 3) := rfl
theorem c_114_64 : mLk 114 64 = some (.iload 4, 2) := rfl
theorem c_114_66 : mLk 114 66 = some (.iaload, 1) := rfl
theorem c_114_67 : mLk 114 67 = some (.iadd, 1) := rfl
theorem c_114_68 : mLk 114 68 = some (.istore_n 3, 1) := rfl
theorem c_114_69 : mLk 114 69 = some (.iinc 4 1, 3) := rfl
theorem c_114_72 : mLk 114 72 = some (.goto (-36), 3) := rfl
theorem c_114_81 : mLk 114 81 = some (.iload 5, 2) := rfl
theorem c_114_83 : mLk 114 83 = some (.iload_n 2, 1) := rfl
theorem c_114_84 : mLk 114 84 = some (.if_icmp .gt 44, 3) := rfl
theorem c_114_128 : mLk 114 128 = some (.iload_n 2, 1) := rfl
theorem c_114_129 : mLk 114 129 = some (.aload_n 0, 1) := rfl
theorem c_114_130 : mLk 114 130 = some (.getfield 50, 3) := rfl
theorem c_114_133 : mLk 114 133 = some (.getfield 145, 3) := rfl
theorem c_114_136 : mLk 114 136 = some (.if_icmp .ne 7, 3) := rfl
theorem c_114_143 : mLk 114 143 = some (.iload 4, 2) := rfl
theorem c_114_145 : mLk 114 145 = some (.ireturn, 1) := rfl
theorem c_114_139 : mLk 114 139 = some (.iload_n 3, 1) := rfl
theorem c_114_140 : mLk 114 140 = some (.goto 5, 3) := rfl
theorem c_114_87 : mLk 114 87 = some (.iload 5, 2) := rfl
theorem c_114_89 : mLk 114 89 = some (.aload_n 0, 1) := rfl
theorem c_114_90 : mLk 114 90 = some (.getfield 50, 3) := rfl
theorem c_114_93 : mLk 114 93 = some (.getfield 145, 3) := rfl
theorem c_114_96 : mLk 114 96 = some (.if_icmp .ge 32, 3) := rfl
theorem c_114_99 : mLk 114 99 = some (.iload_n 3, 1) := rfl
theorem c_114_100 : mLk 114 100 = some (.aload_n 0, 1) := rfl
theorem c_114_101 : mLk 114 101 = some (.aload_n 0, 1) := rfl
theorem c_114_102 : mLk 114 102 = some (.getfield 50, 3) := rfl
theorem c_114_105 : mLk 114 105 = some (.getfield 253, 3) := rfl
theorem c_114_108 : mLk 114 108 = some (.iload 5, 2) := rfl
theorem c_114_110 : mLk 114 110 = some (.iaload, 1) := rfl
theorem c_114_111 : mLk 114 111 = some (.invokevirtual 256, 3) := rfl
theorem c_114_114 : mLk 114 114 = some (.isub, 1) := rfl
theorem c_114_115 : mLk 114 115 = some (.istore 4, 2) := rfl
theorem c_114_117 : mLk 114 117 = some (.iload_n 3, 1) := rfl
theorem c_114_118 : mLk 114 118 = some (.iload 4, 2) := rfl
theorem c_114_120 : mLk 114 120 = some (.isub, 1) := rfl
theorem c_114_121 : mLk 114 121 = some (.istore_n 3, 1) := rfl
theorem c_114_122 : mLk 114 122 = some (.iinc 5 1, 3) := rfl
theorem c_114_125 : mLk 114 125 = some (.goto (-44), 3) := rfl
theorem c_114_0 : mLk 114 0 = some (.aload_n 0, 1) := rfl
theorem c_114_1 : mLk 114 1 = some (.iload_n 1, 1) := rfl
theorem c_114_2 : mLk 114 2 = some (.invokevirtual 184, 3) := rfl
theorem c_114_5 : mLk 114 5 = some (.aload_n 0, 1) := rfl
theorem c_114_6 : mLk 114 6 = some (.iload_n 2, 1) := rfl
theorem c_114_7 : mLk 114 7 = some (.ifCond .lt 7, 3) := rfl
theorem c_114_14 : mLk 114 14 = some (.iconst 0, 1) := rfl
theorem c_114_15 : mLk 114 15 = some (.invokevirtual 161, 3) := rfl
theorem c_114_10 : mLk 114 10 = some (.iconst 1, 1) := rfl
theorem c_114_11 : mLk 114 11 = some (.goto 4, 3) := rfl
theorem c_114_18 : mLk 114 18 = some (.iload_n 2, 1) := rfl
theorem c_114_19 : mLk 114 19 = some (.aload_n 0, 1) := rfl
theorem c_114_20 : mLk 114 20 = some (.getfield 50, 3) := rfl
theorem c_114_23 : mLk 114 23 = some (.getfield 145, 3) := rfl
theorem c_114_26 : mLk 114 26 = some (.if_icmp .le 5, 3) := rfl
theorem c_114_31 : mLk 114 31 = some (.iconst 0, 1) := rfl
theorem c_114_32 : mLk 114 32 = some (.istore_n 3, 1) := rfl
theorem c_114_33 : mLk 114 33 = some (.iconst 0, 1) := rfl
theorem c_114_34 : mLk 114 34 = some (.istore 4, 2) := rfl
theorem c_114_29 : mLk 114 29 = some (.iconst (-1), 1) := rfl
theorem c_114_30 : mLk 114 30 = some (.ireturn, 1) := rfl
theorem c_115_9 : mLk 115 9 = some (.iload_n 3, 1) := rfl
theorem c_115_10 : mLk 115 10 = some (.aload_n 0, 1) := rfl
theorem c_115_11 : mLk 115 11 = some (.getfield 50, 3) := rfl
theorem c_115_14 : mLk 115 14 = some (.getfield 102, 3) := rfl
theorem c_115_17 : mLk 115 17 = some (.if_icmp .ge 44, 3) := rfl
theorem c_115_61 : mLk 115 61 = some (.iload_n 2, 1) := rfl
theorem c_115_62 : mLk 115 62 = some (.ireturn, 1) := rfl
theorem c_115_20 : mLk 115 20 = some (.aload_n 0, 1) := rfl
theorem c_115_21 : mLk 115 21 = some (.getfield 62, 3) := rfl
theorem c_115_24 : mLk 115 24 = some (.iload_n 3, 1) := rfl
theorem c_115_25 : mLk 115 25 = some (.invokevirtual 187, 3) := rfl
theorem c_115_28 : mLk 115 28 = some (.istore 4, 2) := rfl
theorem c_115_30 : mLk 115 30 = some (.iload 4, 2) := rfl
theorem c_115_32 : mLk 115 32 = some (.ifCond .le 23, 3) := rfl
theorem c_115_55 : mLk 115 55 = some (.iinc 3 1, 3) := rfl
theorem c_115_58 : mLk 115 58 = some (.goto (-49), 3) := rfl
theorem c_115_35 : mLk 115 35 = some (.aload_n 0, 1) := rfl
theorem c_115_36 : mLk 115 36 = some (.getfield 62, 3) := rfl
theorem c_115_39 : mLk 115 39 = some (.iload_n 1, 1) := rfl
theorem c_115_40 : mLk 115 40 = some (.iload_n 3, 1) := rfl
theorem c_115_41 : mLk 115 41 = some (.invokevirtual 246, 3) := rfl
theorem c_115_44 : mLk 115 44 = some (.iload 4, 2) := rfl
theorem c_115_46 : mLk 115 46 = some (.if_icmp .ne 9, 3) := rfl
theorem c_115_49 : mLk 115 49 = some (.iload_n 2, 1) := rfl
theorem c_115_50 : mLk 115 50 = some (.iconst 1, 1) := rfl
theorem c_115_51 : mLk 115 51 = some (.iload_n 3, 1) := rfl
theorem c_115_52 : mLk 115 52 = some (.ishl, 1) := rfl
theorem c_115_53 : mLk 115 53 = some (.ior, 1) := rfl
theorem c_115_54 : mLk 115 54 = some (.istore_n 2, 1) := rfl
theorem c_115_0 : mLk 115 0 = some (.aload_n 0, 1) := rfl
theorem c_115_1 : mLk 115 1 = some (.iload_n 1, 1) := rfl
theorem c_115_2 : mLk 115 2 = some (.invokevirtual 206, 3) := rfl
theorem c_115_5 : mLk 115 5 = some (.iconst 0, 1) := rfl
theorem c_115_6 : mLk 115 6 = some (.istore_n 2, 1) := rfl
theorem c_115_7 : mLk 115 7 = some (.iconst 0, 1) := rfl
theorem c_115_8 : mLk 115 8 = some (.istore_n 3, 1) := rfl
theorem c_116_20 : mLk 116 20 = some (.iload 4, 2) := rfl
theorem c_116_22 : mLk 116 22 = some (.aload_n 0, 1) := rfl
theorem c_116_23 : mLk 116 23 = some (.getfield 50, 3) := rfl
theorem c_116_26 : mLk 116 26 = some (.getfield 102, 3) := rfl
theorem c_116_29 : mLk 116 29 = some (.if_icmp .ge 22, 3) := rfl
theorem c_116_51 : mLk 116 51 = some (.iload_n 2, 1) := rfl
theorem c_116_52 : mLk 116 52 = some (.ifCond .ne 7, 3) := rfl
theorem c_116_59 : mLk 116 59 = some (.aload_n 0, 1) := rfl
theorem c_116_60 : mLk 116 60 = some (.getfield 62, 3) := rfl
theorem c_116_63 : mLk 116 63 = some (.invokevirtual 177, 3) := rfl
theorem c_116_66 : mLk 116 66 = some (.iload_n 3, 1) := rfl
theorem c_116_67 : mLk 116 67 = some (.isub, 1) := rfl
theorem c_116_68 : mLk 116 68 = some (.ireturn, 1) := rfl
theorem c_116_55 : mLk 116 55 = some (.iload_n 3, 1) := rfl
theorem c_116_56 : mLk 116 56 = some (.goto 12, 3) := rfl
theorem c_116_32 : mLk 116 32 = some (.iload_n 3, 1) := rfl
theorem c_116_33 : mLk 116 33 = some (.aload_n 0, 1) := rfl
theorem c_116_34 : mLk 116 34 = some (.getfield 62, 3) := rfl
theorem c_116_37 : mLk 116 37 = some (.iload_n 1, 1) := rfl
theorem c_116_38 : mLk 116 38 = some (.iload 4, 2) := rfl
theorem c_116_40 : mLk 116 40 = some (.invokevirtual 246, 3) := rfl
theorem c_116_44 : mLk 116 44 = some (.istore_n 3, 1) := rfl
theorem c_116_45 : mLk 116 45 = some (.iinc 4 1, 3) := rfl
theorem c_116_48 : mLk 116 48 = some (.goto (-28), 3) := rfl
theorem c_116_0 : mLk 116 0 = some (.aload_n 0, 1) := rfl
theorem c_116_1 : mLk 116 1 = some (.iload_n 1, 1) := rfl
theorem c_116_2 : mLk 116 2 = some (.invokevirtual 206, 3) := rfl
theorem c_116_5 : mLk 116 5 = some (.aload_n 0, 1) := rfl
theorem c_116_6 : mLk 116 6 = some (.iload_n 2, 1) := rfl
theorem c_116_7 : mLk 116 7 = some (.iconst 0, 1) := rfl
theorem c_116_8 : mLk 116 8 = some (.iconst 1, 1) := rfl
theorem c_116_9 : mLk 116 9 = some (.invokestatic 157, 3) := rfl
theorem c_116_12 : mLk 116 12 = some (.invokevirtual 161, 3) := rfl
theorem c_116_15 : mLk 116 15 = some (.iconst 0, 1) := rfl
theorem c_116_16 : mLk 116 16 = some (.istore_n 3, 1) := rfl
theorem c_116_17 : mLk 116 17 = some (.iconst 0, 1) := rfl
theorem c_116_18 : mLk 116 18 = some (.istore 4, 2) := rfl
theorem c_117_0 : mLk 117 0 = some (.iload_n 1, 1) := rfl
theorem c_117_1 : mLk 117 1 = some (.iconst 0, 1) := rfl
theorem c_117_2 : mLk 117 2 = some (.iconst 1, 1) := rfl
theorem c_117_3 : mLk 117 3 = some (.aload_n 0, 1) := rfl
theorem c_117_4 : mLk 117 4 = some (.getfield 50, 3) := rfl
theorem c_117_7 : mLk 117 7 = some (.getfield 102, 3) := rfl
theorem c_117_10 : mLk 117 10 = some (.ishl, 1) := rfl
theorem c_117_11 : mLk 117 11 = some (.iconst 1, 1) := rfl
theorem c_117_12 : mLk 117 12 = some (.isub, 1) := rfl
theorem c_117_13 : mLk 117 13 = some (.invokestatic 157, 3) := rfl
theorem c_117_16 : mLk 117 16 = some (.ireturn, 1) := rfl
theorem c_118_4 : mLk 118 4 = some (.iload_n 3, 1) := rfl
theorem c_118_5 : mLk 118 5 = some (.aload_n 0, 1) := rfl
theorem c_118_6 : mLk 118 6 = some (.getfield 50, 3) := rfl
theorem c_118_9 : mLk 118 9 = some (.getfield 102, 3) := rfl
theorem c_118_12 : mLk 118 12 = some (.if_icmp .ge 29, 3) := rfl
theorem c_118_41 : mLk 118 41 = some (.iload_n 2, 1) := rfl
theorem c_118_42 : mLk 118 42 = some (.ireturn, 1) := rfl
theorem c_118_15 : mLk 118 15 = some (.iload_n 1, 1) := rfl
theorem c_118_16 : mLk 118 16 = some (.iload_n 3, 1) := rfl
theorem c_118_17 : mLk 118 17 = some (.ishr, 1) := rfl
theorem c_118_18 : mLk 118 18 = some (.iconst 1, 1) := rfl
theorem c_118_19 : mLk 118 19 = some (.iand, 1) := rfl
theorem c_118_20 : mLk 118 20 = some (.iconst 1, 1) := rfl
theorem c_118_21 : mLk 118 21 = some (.if_icmp .ne 14, 3) := rfl
theorem c_118_35 : mLk 118 35 = some (.iinc 3 1, 3) := rfl
theorem c_118_38 : mLk 118 38 = some (.goto (-34), 3) := rfl
theorem c_118_24 : mLk 118 24 = some (.iload_n 2, 1) := rfl
theorem c_118_25 : mLk 118 25 = some (.aload_n 0, 1) := rfl
theorem c_118_26 : mLk 118 26 = some (.getfield 62, 3) := rfl
theorem c_118_29 : mLk 118 29 = some (.iload_n 3, 1) := rfl
theorem c_118_30 : mLk 118 30 = some (.invokevirtual 187, 3) := rfl
theorem c_118_33 : mLk 118 33 = some (.iadd, 1) := rfl
theorem c_118_34 : mLk 118 34 = some (.istore_n 2, 1) := rfl
theorem c_118_0 : mLk 118 0 = some (.iconst 0, 1) := rfl
theorem c_118_1 : mLk 118 1 = some (.istore_n 2, 1) := rfl
theorem c_118_2 : mLk 118 2 = some (.iconst 0, 1) := rfl
theorem c_118_3 : mLk 118 3 = some (.istore_n 3, 1) := rfl
theorem c_119_48 : mLk 119 48 = some (.iload 7, 2) := rfl
theorem c_119_50 : mLk 119 50 = some (.iload_n 1, 1) := rfl
theorem c_119_51 : mLk 119 51 = some (.if_icmp .gt 71, 3) := rfl
theorem c_119_122 : mLk 119 122 = some (.iload_n 2, 1) := rfl
theorem c_119_123 : mLk 119 123 = some (.ifCond .ne 8, 3) := rfl
theorem c_119_131 : mLk 119 131 = some (.iload 6, 2) := rfl
theorem c_119_133 : mLk 119 133 = some (.ireturn, 1) := rfl
theorem c_119_126 : mLk 119 126 = some (.iload 5, 2) := rfl
theorem c_119_128 : mLk 119 128 = some (.goto 5, 3) := rfl
theorem c_119_54 : mLk 119 54 = some (.iload 7, 2) := rfl
theorem c_119_56 : mLk 119 56 = some (.iload_n 1, 1) := rfl
theorem c_119_57 : mLk 119 57 = some (.iconst (-1), 1) := rfl
theorem c_119_58 : mLk 119 58 = some (.ixor, 1) := rfl
theorem c_119_59 : mLk 119 59 = some (.iand, 1) := rfl
theorem c_119_60 : mLk 119 60 = some (.ifCond .ne 56, 3) := rfl
theorem c_119_116 : mLk 119 116 = some (.iinc 7 1, 3) := rfl
theorem c_119_119 : mLk 119 119 = some (.goto (-71), 3) := rfl
theorem c_119_63 : mLk 119 63 = some (.iload 7, 2) := rfl
theorem c_119_65 : mLk 119 65 = some (.iload_n 3, 1) := rfl
theorem c_119_66 : mLk 119 66 = some (.iand, 1) := rfl
theorem c_119_67 : mLk 119 67 = some (.iload_n 3, 1) := rfl
theorem c_119_68 : mLk 119 68 = some (.if_icmp .ne 48, 3) := rfl
theorem c_119_71 : mLk 119 71 = some (.iload 4, 2) := rfl
theorem c_119_73 : mLk 119 73 = some (.iconst 2, 1) := rfl
theorem c_119_74 : mLk 119 74 = some (.aload_n 0, 1) := rfl
theorem c_119_75 : mLk 119 75 = some (.iload 7, 2) := rfl
theorem c_119_77 : mLk 119 77 = some (.invokevirtual 262, 3) := rfl
theorem c_119_80 : mLk 119 80 = some (.imul, 1) := rfl
theorem c_119_81 : mLk 119 81 = some (.isub, 1) := rfl
theorem c_119_82 : mLk 119 82 = some (.invokestatic 218, 3) := rfl
theorem c_119_85 : mLk 119 85 = some (.istore 8, 2) := rfl
theorem c_119_87 : mLk 119 87 = some (.iload 8, 2) := rfl
theorem c_119_89 : mLk 119 89 = some (.iload 5, 2) := rfl
theorem c_119_91 : mLk 119 91 = some (.if_icmp .lt 17, 3) := rfl
theorem c_119_108 : mLk 119 108 = some (.iload 8, 2) := rfl
theorem c_119_110 : mLk 119 110 = some (.istore 5, 2) := rfl
theorem c_119_112 : mLk 119 112 = some (.iload 7, 2) := rfl
theorem c_119_114 : mLk 119 114 = some (.istore 6, 2) := rfl
theorem c_119_94 : mLk 119 94 = some (.iload 8, 2) := rfl
theorem c_119_96 : mLk 119 96 = some (.iload 5, 2) := rfl
theorem c_119_98 : mLk 119 98 = some (.if_icmp .ne 18, 3) := rfl
theorem c_119_101 : mLk 119 101 = some (.iload 7, 2) := rfl
theorem c_119_103 : mLk 119 103 = some (.iload 6, 2) := rfl
theorem c_119_105 : mLk 119 105 = some (.if_icmp .ge 11, 3) := rfl
theorem c_119_0 : mLk 119 0 = some (.aload_n 0, 1) := rfl
theorem c_119_1 : mLk 119 1 = some (.aload_n 0, 1) := rfl
theorem c_119_2 : mLk 119 2 = some (.iload_n 1, 1) := rfl
theorem c_119_3 : mLk 119 3 = some (.invokevirtual 259, 3) := rfl
theorem c_119_6 : mLk 119 6 = some (.ifCond .eq 16, 3) := rfl
theorem c_119_22 : mLk 119 22 = some (.iconst 0, 1) := rfl
theorem c_119_23 : mLk 119 23 = some (.invokevirtual 161, 3) := rfl
theorem c_119_9 : mLk 119 9 = some (.iload_n 2, 1) := rfl
theorem c_119_10 : mLk 119 10 = some (.iconst 0, 1) := rfl
theorem c_119_11 : mLk 119 11 = some (.iconst 1, 1) := rfl
theorem c_119_12 : mLk 119 12 = some (.invokestatic 157, 3) := rfl
theorem c_119_15 : mLk 119 15 = some (.ifCond .eq 7, 3) := rfl
theorem c_119_18 : mLk 119 18 = some (.iconst 1, 1) := rfl
theorem c_119_19 : mLk 119 19 = some (.goto 4, 3) := rfl
theorem c_119_26 : mLk 119 26 = some (.iload_n 1, 1) := rfl
theorem c_119_27 : mLk 119 27 = some (.iload_n 1, 1) := rfl
theorem c_119_28 : mLk 119 28 = some (.ineg, 1) := rfl
theorem c_119_29 : mLk 119 29 = some (.iand, 1) := rfl
theorem c_119_30 : mLk 119 30 = some (.istore_n 3, 1) := rfl
theorem c_119_31 : mLk 119 31 = some (.aload_n 0, 1) := rfl
theorem c_119_32 : mLk 119 32 = some (.iload_n 1, 1) := rfl
theorem c_119_33 : mLk 119 33 = some (.invokevirtual 262, 3) := rfl
theorem c_119_36 : mLk 119 36 = some (.istore 4, 2) := rfl
theorem c_119_38 : mLk 119 38 = some (.iload 4, 2) := rfl
theorem c_119_40 : mLk 119 40 = some (.istore 5, 2) := rfl
theorem c_119_42 : mLk 119 42 = some (.iload_n 1, 1) := rfl
theorem c_119_43 : mLk 119 43 = some (.istore 6, 2) := rfl
theorem c_119_45 : mLk 119 45 = some (.iconst 0, 1) := rfl
theorem c_119_46 : mLk 119 46 = some (.istore 7, 2) := rfl
theorem c_120_2 : mLk 120 2 = some (.iload_n 1, 1) := rfl
theorem c_120_3 : mLk 120 3 = some (.aload_n 0, 1) := rfl
theorem c_120_4 : mLk 120 4 = some (.getfield 50, 3) := rfl
theorem c_120_7 : mLk 120 7 = some (.getfield 102, 3) := rfl
theorem c_120_10 : mLk 120 10 = some (.if_icmp .ge 23, 3) := rfl
theorem c_120_13 : mLk 120 13 = some (.aload_n 0, 1) := rfl
theorem c_120_14 : mLk 120 14 = some (.getfield 41, 3) := rfl
theorem c_120_17 : mLk 120 17 = some (.iload_n 1, 1) := rfl
theorem c_120_18 : mLk 120 18 = some (.aload_n 0, 1) := rfl
theorem c_120_19 : mLk 120 19 = some (.getfield 62, 3) := rfl
theorem c_120_22 : mLk 120 22 = some (.iload_n 1, 1) := rfl
theorem c_120_23 : mLk 120 23 = some (.invokevirtual 223, 3) := rfl
theorem c_120_26 : mLk 120 26 = some (.iastore, 1) := rfl
theorem c_120_27 : mLk 120 27 = some (.iinc 1 1, 3) := rfl
theorem c_120_30 : mLk 120 30 = some (.goto (-28), 3) := rfl
theorem c_120_0 : mLk 120 0 = some (.iconst 0, 1) := rfl
theorem c_120_1 : mLk 120 1 = some (.istore_n 1, 1) := rfl
theorem c_121_4 : mLk 121 4 = some (.iload_n 3, 1) := rfl
theorem c_121_5 : mLk 121 5 = some (.aload_n 0, 1) := rfl
theorem c_121_6 : mLk 121 6 = some (.getfield 50, 3) := rfl
theorem c_121_9 : mLk 121 9 = some (.getfield 102, 3) := rfl
theorem c_121_12 : mLk 121 12 = some (.if_icmp .ge 27, 3) := rfl
theorem c_121_39 : mLk 121 39 = some (.iload_n 2, 1) := rfl
theorem c_121_40 : mLk 121 40 = some (.ireturn, 1) := rfl
theorem c_121_15 : mLk 121 15 = some (.iload_n 1, 1) := rfl
theorem c_121_16 : mLk 121 16 = some (.iload_n 3, 1) := rfl
theorem c_121_17 : mLk 121 17 = some (.ishr, 1) := rfl
theorem c_121_18 : mLk 121 18 = some (.iconst 1, 1) := rfl
theorem c_121_19 : mLk 121 19 = some (.iand, 1) := rfl
theorem c_121_20 : mLk 121 20 = some (.iconst 1, 1) := rfl
theorem c_121_21 : mLk 121 21 = some (.if_icmp .ne 12, 3) := rfl
theorem c_121_33 : mLk 121 33 = some (.iinc 3 1, 3) := rfl
theorem c_121_36 : mLk 121 36 = some (.goto (-32), 3) := rfl
theorem c_121_24 : mLk 121 24 = some (.iload_n 2, 1) := rfl
theorem c_121_25 : mLk 121 25 = some (.aload_n 0, 1) := rfl
theorem c_121_26 : mLk 121 26 = some (.getfield 41, 3) := rfl
theorem c_121_29 : mLk 121 29 = some (.iload_n 3, 1) := rfl
theorem c_121_30 : mLk 121 30 = some (.iaload, 1) := rfl
theorem c_121_31 : mLk 121 31 = some (.iadd, 1) := rfl
theorem c_121_32 : mLk 121 32 = some (.istore_n 2, 1) := rfl
theorem c_121_0 : mLk 121 0 = some (.iconst 0, 1) := rfl
theorem c_121_1 : mLk 121 1 = some (.istore_n 2, 1) := rfl
theorem c_121_2 : mLk 121 2 = some (.iconst 0, 1) := rfl
theorem c_121_3 : mLk 121 3 = some (.istore_n 3, 1) := rfl
theorem c_122_0 : mLk 122 0 = some (.aload_n 0, 1) := rfl
theorem c_122_1 : mLk 122 1 = some (.iload_n 1, 1) := rfl
theorem c_122_2 : mLk 122 2 = some (.invokevirtual 272, 3) := rfl
theorem c_122_5 : mLk 122 5 = some (.aload_n 0, 1) := rfl
theorem c_122_6 : mLk 122 6 = some (.iload_n 2, 1) := rfl
theorem c_122_7 : mLk 122 7 = some (.invokevirtual 272, 3) := rfl
theorem c_122_10 : mLk 122 10 = some (.isub, 1) := rfl
theorem c_122_11 : mLk 122 11 = some (.istore_n 3, 1) := rfl
theorem c_122_12 : mLk 122 12 = some (.iload_n 3, 1) := rfl
theorem c_122_13 : mLk 122 13 = some (.ifCond .gt 20, 3) := rfl
theorem c_122_33 : mLk 122 33 = some (.iconst 1, 1) := rfl
theorem c_122_34 : mLk 122 34 = some (.goto 4, 3) := rfl
theorem c_122_38 : mLk 122 38 = some (.ireturn, 1) := rfl
theorem c_122_16 : mLk 122 16 = some (.iload_n 3, 1) := rfl
theorem c_122_17 : mLk 122 17 = some (.ifCond .ne 20, 3) := rfl
theorem c_122_37 : mLk 122 37 = some (.iconst 0, 1) := rfl
theorem c_122_20 : mLk 122 20 = some (.aload_n 0, 1) := rfl
theorem c_122_21 : mLk 122 21 = some (.iload_n 1, 1) := rfl
theorem c_122_22 : mLk 122 22 = some (.invokevirtual 262, 3) := rfl
theorem c_122_25 : mLk 122 25 = some (.aload_n 0, 1) := rfl
theorem c_122_26 : mLk 122 26 = some (.iload_n 2, 1) := rfl
theorem c_122_27 : mLk 122 27 = some (.invokevirtual 262, 3) := rfl
theorem c_122_30 : mLk 122 30 = some (.if_icmp .ge 7, 3) := rfl
theorem c_123_60 : mLk 123 60 = some (.iload 6, 2) := rfl
theorem c_123_62 : mLk 123 62 = some (.iload 4, 2) := rfl
theorem c_123_64 : mLk 123 64 = some (.if_icmp .gt 44, 3) := rfl
theorem c_123_108 : mLk 123 108 = some (.iload_n 3, 1) := rfl
theorem c_123_109 : mLk 123 109 = some (.lookupswitch 41 #[(0, 27), (1, 34)], 27) := rfl
theorem c_123_136 : mLk 123 136 = some (.aload_n 0, 1) := rfl
theorem c_123_137 : mLk 123 137 = some (.iload 5, 2) := rfl
theorem c_123_139 : mLk 123 139 = some (.invokevirtual 272, 3) := rfl
theorem c_123_142 : mLk 123 142 = some (.ireturn, 1) := rfl
theorem c_123_143 : mLk 123 143 = some (.aload_n 0, 1) := rfl
theorem c_123_144 : mLk 123 144 = some (.iload 5, 2) := rfl
theorem c_123_146 : mLk 123 146 = some (.invokevirtual 262, 3) := rfl
theorem c_123_149 : mLk 123 149 = some (.ireturn, 1) := rfl
theorem c_123_150 : mLk 123 150 = some (.iload 5, 2) := rfl
theorem c_123_152 : mLk 123 152 = some (.ireturn, 1) := rfl
theorem c_123_67 : mLk 123 67 = some (.iload 6, 2) := rfl
theorem c_123_69 : mLk 123 69 = some (.iload 4, 2) := rfl
theorem c_123_71 : mLk 123 71 = some (.iconst (-1), 1) := rfl
theorem c_123_72 : mLk 123 72 = some (.ixor, 1) := rfl
theorem c_123_73 : mLk 123 73 = some (.iand, 1) := rfl
theorem c_123_74 : mLk 123 74 = some (.ifCond .ne 28, 3) := rfl
theorem c_123_102 : mLk 123 102 = some (.iinc 6 1, 3) := rfl
theorem c_123_105 : mLk 123 105 = some (.goto (-45), 3) := rfl
theorem c_123_77 : mLk 123 77 = some (.aload_n 0, 1) := rfl
theorem c_123_78 : mLk 123 78 = some (.iload 6, 2) := rfl
theorem c_123_80 : mLk 123 80 = some (.invokevirtual 262, 3) := rfl
theorem c_123_83 : mLk 123 83 = some (.iload_n 2, 1) := rfl
theorem c_123_84 : mLk 123 84 = some (.if_icmp .gt 18, 3) := rfl
theorem c_123_87 : mLk 123 87 = some (.aload_n 0, 1) := rfl
theorem c_123_88 : mLk 123 88 = some (.iload 6, 2) := rfl
theorem c_123_90 : mLk 123 90 = some (.iload 5, 2) := rfl
theorem c_123_92 : mLk 123 92 = some (.invokevirtual 269, 3) := rfl
theorem c_123_95 : mLk 123 95 = some (.ifCond .eq 7, 3) := rfl
theorem c_123_98 : mLk 123 98 = some (.iload 6, 2) := rfl
theorem c_123_100 : mLk 123 100 = some (.istore 5, 2) := rfl
theorem c_123_0 : mLk 123 0 = some (.aload_n 0, 1) := rfl
theorem c_123_1 : mLk 123 1 = some (.aload_n 0, 1) := rfl
theorem c_123_2 : mLk 123 2 = some (.iload_n 1, 1) := rfl
theorem c_123_3 : mLk 123 3 = some (.invokevirtual 259, 3) := rfl
theorem c_123_6 : mLk 123 6 = some (.ifCond .eq 27, 3) := rfl
theorem c_123_33 : mLk 123 33 = some (.iconst 0, 1) := rfl
theorem c_123_34 : mLk 123 34 = some (.invokevirtual 161, 3) := rfl
theorem c_123_9 : mLk 123 9 = some (.iload_n 2, 1) := rfl
theorem c_123_10 : mLk 123 10 = some (.iconst 0, 1) := rfl
theorem c_123_11 : mLk 123 11 = some (.ldc_w 265, 3) := rfl
theorem c_123_14 : mLk 123 14 = some (.invokestatic 157, 3) := rfl
theorem c_123_17 : mLk 123 17 = some (.ifCond .eq 16, 3) := rfl
theorem c_123_20 : mLk 123 20 = some (.iload_n 3, 1) := rfl
theorem c_123_21 : mLk 123 21 = some (.iconst 0, 1) := rfl
theorem c_123_22 : mLk 123 22 = some (.iconst 2, 1) := rfl
theorem c_123_23 : mLk 123 23 = some (.invokestatic 157, 3) := rfl
theorem c_123_26 : mLk 123 26 = some (.ifCond .eq 7, 3) := rfl
theorem c_123_29 : mLk 123 29 = some (.iconst 1, 1) := rfl
theorem c_123_30 : mLk 123 30 = some (.goto 4, 3) := rfl
theorem c_123_37 : mLk 123 37 = some (.iload_n 1, 1) := rfl
theorem c_123_38 : mLk 123 38 = some (.aload_n 0, 1) := rfl
theorem c_123_39 : mLk 123 39 = some (.getfield 62, 3) := rfl
theorem c_123_42 : mLk 123 42 = some (.invokevirtual 181, 3) := rfl
theorem c_123_45 : mLk 123 45 = some (.iconst (-1), 1) := rfl
theorem c_123_46 : mLk 123 46 = some (.ixor, 1) := rfl
theorem c_123_47 : mLk 123 47 = some (.iand, 1) := rfl
theorem c_123_48 : mLk 123 48 = some (.istore 4, 2) := rfl
theorem c_123_50 : mLk 123 50 = some (.aload_n 0, 1) := rfl
theorem c_123_51 : mLk 123 51 = some (.invokevirtual 266, 3) := rfl
theorem c_123_54 : mLk 123 54 = some (.iconst 0, 1) := rfl
theorem c_123_55 : mLk 123 55 = some (.istore 5, 2) := rfl
theorem c_123_57 : mLk 123 57 = some (.iconst 1, 1) := rfl
theorem c_123_58 : mLk 123 58 = some (.istore 6, 2) := rfl
theorem c_124_5 : mLk 124 5 = some (.iload 4, 2) := rfl
theorem c_124_7 : mLk 124 7 = some (.aload_n 0, 1) := rfl
theorem c_124_8 : mLk 124 8 = some (.getfield 50, 3) := rfl
theorem c_124_11 : mLk 124 11 = some (.getfield 102, 3) := rfl
theorem c_124_14 : mLk 124 14 = some (.if_icmp .ge 35, 3) := rfl
theorem c_124_49 : mLk 124 49 = some (.iload_n 3, 1) := rfl
theorem c_124_50 : mLk 124 50 = some (.ireturn, 1) := rfl
theorem c_124_17 : mLk 124 17 = some (.iload_n 1, 1) := rfl
theorem c_124_18 : mLk 124 18 = some (.iload 4, 2) := rfl
theorem c_124_20 : mLk 124 20 = some (.ishr, 1) := rfl
theorem c_124_21 : mLk 124 21 = some (.iconst 1, 1) := rfl
theorem c_124_22 : mLk 124 22 = some (.iand, 1) := rfl
theorem c_124_23 : mLk 124 23 = some (.iconst 1, 1) := rfl
theorem c_124_24 : mLk 124 24 = some (.if_icmp .ne 19, 3) := rfl
theorem c_124_43 : mLk 124 43 = some (.iinc 4 1, 3) := rfl
theorem c_124_46 : mLk 124 46 = some (.goto (-41), 3) := rfl
theorem c_124_27 : mLk 124 27 = some (.iload_n 3, 1) := rfl
theorem c_124_28 : mLk 124 28 = some (.aload_n 0, 1) := rfl
theorem c_124_29 : mLk 124 29 = some (.getfield 62, 3) := rfl
theorem c_124_32 : mLk 124 32 = some (.iload 4, 2) := rfl
theorem c_124_34 : mLk 124 34 = some (.invokevirtual 187, 3) := rfl
theorem c_124_37 : mLk 124 37 = some (.iload_n 2, 1) := rfl
theorem c_124_38 : mLk 124 38 = some (.invokestatic 278, 3) := rfl
theorem c_124_41 : mLk 124 41 = some (.iadd, 1) := rfl
theorem c_124_42 : mLk 124 42 = some (.istore_n 3, 1) := rfl
theorem c_124_0 : mLk 124 0 = some (.iconst 0, 1) := rfl
theorem c_124_1 : mLk 124 1 = some (.istore_n 3, 1) := rfl
theorem c_124_2 : mLk 124 2 = some (.iconst 0, 1) := rfl
theorem c_124_3 : mLk 124 3 = some (.istore 4, 2) := rfl
theorem c_125_54 : mLk 125 54 = some (.iload 6, 2) := rfl
theorem c_125_56 : mLk 125 56 = some (.bipush 32, 2) := rfl
theorem c_125_58 : mLk 125 58 = some (.if_icmp .ge 49, 3) := rfl
theorem c_125_107 : mLk 125 107 = some (.aload_n 0, 1) := rfl
theorem c_125_108 : mLk 125 108 = some (.getfield 62, 3) := rfl
theorem c_125_111 : mLk 125 111 = some (.iload_n 1, 1) := rfl
theorem c_125_112 : mLk 125 112 = some (.invokevirtual 187, 3) := rfl
theorem c_125_115 : mLk 125 115 = some (.iload 4, 2) := rfl
theorem c_125_117 : mLk 125 117 = some (.invokestatic 278, 3) := rfl
theorem c_125_120 : mLk 125 120 = some (.ireturn, 1) := rfl
theorem c_125_61 : mLk 125 61 = some (.iload 5, 2) := rfl
theorem c_125_63 : mLk 125 63 = some (.iload 4, 2) := rfl
theorem c_125_65 : mLk 125 65 = some (.isub, 1) := rfl
theorem c_125_66 : mLk 125 66 = some (.iconst 1, 1) := rfl
theorem c_125_67 : mLk 125 67 = some (.if_icmp .le 40, 3) := rfl
theorem c_125_70 : mLk 125 70 = some (.iload 4, 2) := rfl
theorem c_125_72 : mLk 125 72 = some (.iload 5, 2) := rfl
theorem c_125_74 : mLk 125 74 = some (.iadd, 1) := rfl
theorem c_125_75 : mLk 125 75 = some (.iconst 2, 1) := rfl
theorem c_125_76 : mLk 125 76 = some (.idiv, 1) := rfl
theorem c_125_77 : mLk 125 77 = some (.istore 7, 2) := rfl
theorem c_125_79 : mLk 125 79 = some (.aload_n 0, 1) := rfl
theorem c_125_80 : mLk 125 80 = some (.iload_n 2, 1) := rfl
theorem c_125_81 : mLk 125 81 = some (.iload 7, 2) := rfl
theorem c_125_83 : mLk 125 83 = some (.invokevirtual 275, 3) := rfl
theorem c_125_86 : mLk 125 86 = some (.iload_n 3, 1) := rfl
theorem c_125_87 : mLk 125 87 = some (.if_icmp .gt 10, 3) := rfl
theorem c_125_97 : mLk 125 97 = some (.iload 7, 2) := rfl
theorem c_125_99 : mLk 125 99 = some (.istore 5, 2) := rfl
theorem c_125_101 : mLk 125 101 = some (.iinc 6 1, 3) := rfl
theorem c_125_104 : mLk 125 104 = some (.goto (-50), 3) := rfl
theorem c_125_90 : mLk 125 90 = some (.iload 7, 2) := rfl
theorem c_125_92 : mLk 125 92 = some (.istore 4, 2) := rfl
theorem c_125_94 : mLk 125 94 = some (.goto 7, 3) := rfl
theorem c_125_0 : mLk 125 0 = some (.aload_n 0, 1) := rfl
theorem c_125_1 : mLk 125 1 = some (.iload_n 1, 1) := rfl
theorem c_125_2 : mLk 125 2 = some (.invokevirtual 184, 3) := rfl
theorem c_125_5 : mLk 125 5 = some (.aload_n 0, 1) := rfl
theorem c_125_6 : mLk 125 6 = some (.aload_n 0, 1) := rfl
theorem c_125_7 : mLk 125 7 = some (.iload_n 2, 1) := rfl
theorem c_125_8 : mLk 125 8 = some (.invokevirtual 259, 3) := rfl
theorem c_125_11 : mLk 125 11 = some (.ifCond .eq 18, 3) := rfl
theorem c_125_29 : mLk 125 29 = some (.iconst 0, 1) := rfl
theorem c_125_30 : mLk 125 30 = some (.invokevirtual 161, 3) := rfl
theorem c_125_14 : mLk 125 14 = some (.iload_n 3, 1) := rfl
theorem c_125_15 : mLk 125 15 = some (.iconst 0, 1) := rfl
theorem c_125_16 : mLk 125 16 = some (.ldc_w 265, 3) := rfl
theorem c_125_19 : mLk 125 19 = some (.invokestatic 157, 3) := rfl
theorem c_125_22 : mLk 125 22 = some (.ifCond .eq 7, 3) := rfl
theorem c_125_25 : mLk 125 25 = some (.iconst 1, 1) := rfl
theorem c_125_26 : mLk 125 26 = some (.goto 4, 3) := rfl
theorem c_125_33 : mLk 125 33 = some (.iload_n 2, 1) := rfl
theorem c_125_34 : mLk 125 34 = some (.iload_n 1, 1) := rfl
theorem c_125_35 : mLk 125 35 = some (.ishr, 1) := rfl
theorem c_125_36 : mLk 125 36 = some (.iconst 1, 1) := rfl
theorem c_125_37 : mLk 125 37 = some (.iand, 1) := rfl
theorem c_125_38 : mLk 125 38 = some (.ifCond .ne 5, 3) := rfl
theorem c_125_43 : mLk 125 43 = some (.iconst 0, 1) := rfl
theorem c_125_44 : mLk 125 44 = some (.istore 4, 2) := rfl
theorem c_125_46 : mLk 125 46 = some (.sipush 10000, 3) := rfl
theorem c_125_49 : mLk 125 49 = some (.istore 5, 2) := rfl
theorem c_125_51 : mLk 125 51 = some (.iconst 0, 1) := rfl
theorem c_125_52 : mLk 125 52 = some (.istore 6, 2) := rfl
theorem c_125_41 : mLk 125 41 = some (.iconst 0, 1) := rfl
theorem c_125_42 : mLk 125 42 = some (.ireturn, 1) := rfl
theorem c_126_2 : mLk 126 2 = some (.iload_n 3, 1) := rfl
theorem c_126_3 : mLk 126 3 = some (.iconst 4, 1) := rfl
theorem c_126_4 : mLk 126 4 = some (.if_icmp .ge 43, 3) := rfl
theorem c_126_47 : mLk 126 47 = some (.iconst 1, 1) := rfl
theorem c_126_48 : mLk 126 48 = some (.ireturn, 1) := rfl
theorem c_126_7 : mLk 126 7 = some (.aload_n 0, 1) := rfl
theorem c_126_8 : mLk 126 8 = some (.getfield 50, 3) := rfl
theorem c_126_11 : mLk 126 11 = some (.getfield 284, 3) := rfl
theorem c_126_14 : mLk 126 14 = some (.iload_n 3, 1) := rfl
theorem c_126_15 : mLk 126 15 = some (.iaload, 1) := rfl
theorem c_126_16 : mLk 126 16 = some (.istore 4, 2) := rfl
theorem c_126_18 : mLk 126 18 = some (.iload 4, 2) := rfl
theorem c_126_20 : mLk 126 20 = some (.iconst (-1), 1) := rfl
theorem c_126_21 : mLk 126 21 = some (.if_icmp .eq 20, 3) := rfl
theorem c_126_41 : mLk 126 41 = some (.iinc 3 1, 3) := rfl
theorem c_126_44 : mLk 126 44 = some (.goto (-42), 3) := rfl
theorem c_126_24 : mLk 126 24 = some (.iload 4, 2) := rfl
theorem c_126_26 : mLk 126 26 = some (.aload_n 0, 1) := rfl
theorem c_126_27 : mLk 126 27 = some (.getfield 62, 3) := rfl
theorem c_126_30 : mLk 126 30 = some (.iload_n 1, 1) := rfl
theorem c_126_31 : mLk 126 31 = some (.iload_n 2, 1) := rfl
theorem c_126_32 : mLk 126 32 = some (.iload_n 3, 1) := rfl
theorem c_126_33 : mLk 126 33 = some (.invokevirtual 249, 3) := rfl
theorem c_126_36 : mLk 126 36 = some (.if_icmp .eq 5, 3) := rfl
theorem c_126_39 : mLk 126 39 = some (.iconst 0, 1) := rfl
theorem c_126_40 : mLk 126 40 = some (.ireturn, 1) := rfl
theorem c_126_0 : mLk 126 0 = some (.iconst 0, 1) := rfl
theorem c_126_1 : mLk 126 1 = some (.istore_n 3, 1) := rfl
theorem c_127_4 : mLk 127 4 = some (.iload_n 2, 1) := rfl
theorem c_127_5 : mLk 127 5 = some (.aload_n 0, 1) := rfl
theorem c_127_6 : mLk 127 6 = some (.getfield 50, 3) := rfl
theorem c_127_9 : mLk 127 9 = some (.getfield 168, 3) := rfl
theorem c_127_12 : mLk 127 12 = some (.if_icmp .ge 63, 3) := rfl
theorem c_127_75 : mLk 127 75 = some (.iload_n 1, 1) := rfl
theorem c_127_76 : mLk 127 76 = some (.ireturn, 1) := rfl
theorem c_127_15 : mLk 127 15 = some (.iconst 0, 1) := rfl
theorem c_127_16 : mLk 127 16 = some (.istore_n 3, 1) := rfl
theorem c_127_17 : mLk 127 17 = some (.iload_n 3, 1) := rfl
theorem c_127_18 : mLk 127 18 = some (.aload_n 0, 1) := rfl
theorem c_127_19 : mLk 127 19 = some (.getfield 50, 3) := rfl
theorem c_127_22 : mLk 127 22 = some (.getfield 102, 3) := rfl
theorem c_127_25 : mLk 127 25 = some (.if_icmp .ge 44, 3) := rfl
theorem c_127_69 : mLk 127 69 = some (.iinc 2 1, 3) := rfl
theorem c_127_72 : mLk 127 72 = some (.goto (-68), 3) := rfl
theorem c_127_28 : mLk 127 28 = some (.aload_n 0, 1) := rfl
theorem c_127_29 : mLk 127 29 = some (.getfield 62, 3) := rfl
theorem c_127_32 : mLk 127 32 = some (.iload_n 3, 1) := rfl
theorem c_127_33 : mLk 127 33 = some (.invokevirtual 187, 3) := rfl
theorem c_127_36 : mLk 127 36 = some (.ifCond .le 27, 3) := rfl
theorem c_127_63 : mLk 127 63 = some (.iinc 3 1, 3) := rfl
theorem c_127_66 : mLk 127 66 = some (.goto (-49), 3) := rfl
theorem c_127_39 : mLk 127 39 = some (.aload_n 0, 1) := rfl
theorem c_127_40 : mLk 127 40 = some (.iload_n 2, 1) := rfl
theorem c_127_41 : mLk 127 41 = some (.iload_n 3, 1) := rfl
theorem c_127_42 : mLk 127 42 = some (.invokevirtual 357, 3) := rfl
theorem c_127_45 : mLk 127 45 = some (.ifCond .eq 18, 3) := rfl
theorem c_127_48 : mLk 127 48 = some (.aload_n 0, 1) := rfl
theorem c_127_49 : mLk 127 49 = some (.getfield 37, 3) := rfl
theorem c_127_52 : mLk 127 52 = some (.iload_n 1, 1) := rfl
theorem c_127_53 : mLk 127 53 = some (.bipush 10, 2) := rfl
theorem c_127_55 : mLk 127 55 = some (.iload_n 2, 1) := rfl
theorem c_127_56 : mLk 127 56 = some (.imul, 1) := rfl
theorem c_127_57 : mLk 127 57 = some (.iload_n 3, 1) := rfl
theorem c_127_58 : mLk 127 58 = some (.iadd, 1) := rfl
theorem c_127_59 : mLk 127 59 = some (.iastore, 1) := rfl
theorem c_127_60 : mLk 127 60 = some (.iinc 1 1, 3) := rfl
theorem c_127_0 : mLk 127 0 = some (.iconst 0, 1) := rfl
theorem c_127_1 : mLk 127 1 = some (.istore_n 1, 1) := rfl
theorem c_127_2 : mLk 127 2 = some (.iconst 0, 1) := rfl
theorem c_127_3 : mLk 127 3 = some (.istore_n 2, 1) := rfl
theorem c_128_0 : mLk 128 0 = some (.aload_n 0, 1) := rfl
theorem c_128_1 : mLk 128 1 = some (.iload_n 1, 1) := rfl
theorem c_128_2 : mLk 128 2 = some (.iconst 0, 1) := rfl
theorem c_128_3 : mLk 128 3 = some (.iconst 1, 1) := rfl
theorem c_128_4 : mLk 128 4 = some (.invokestatic 157, 3) := rfl
theorem c_128_7 : mLk 128 7 = some (.invokevirtual 161, 3) := rfl
theorem c_128_10 : mLk 128 10 = some (.aload_n 0, 1) := rfl
theorem c_128_11 : mLk 128 11 = some (.invokevirtual 281, 3) := rfl
theorem c_128_14 : mLk 128 14 = some (.istore_n 2, 1) := rfl
theorem c_128_15 : mLk 128 15 = some (.iload_n 1, 1) := rfl
theorem c_128_16 : mLk 128 16 = some (.ifCond .ne 5, 3) := rfl
theorem c_128_21 : mLk 128 21 = some (.iload_n 2, 1) := rfl
theorem c_128_22 : mLk 128 22 = some (.ifCond .le 12, 3) := rfl
theorem c_128_34 : mLk 128 34 = some (.iconst (-1), 1) := rfl
theorem c_128_35 : mLk 128 35 = some (.ireturn, 1) := rfl
theorem c_128_25 : mLk 128 25 = some (.aload_n 0, 1) := rfl
theorem c_128_26 : mLk 128 26 = some (.getfield 37, 3) := rfl
theorem c_128_29 : mLk 128 29 = some (.iconst 0, 1) := rfl
theorem c_128_30 : mLk 128 30 = some (.iaload, 1) := rfl
theorem c_128_31 : mLk 128 31 = some (.goto 4, 3) := rfl
theorem c_128_19 : mLk 128 19 = some (.iload_n 2, 1) := rfl
theorem c_128_20 : mLk 128 20 = some (.ireturn, 1) := rfl
theorem c_129_0 : mLk 129 0 = some (.aload_n 0, 1) := rfl
theorem c_129_1 : mLk 129 1 = some (.getfield 62, 3) := rfl
theorem c_129_4 : mLk 129 4 = some (.iload_n 1, 1) := rfl
theorem c_129_5 : mLk 129 5 = some (.bipush 10, 2) := rfl
theorem c_129_7 : mLk 129 7 = some (.idiv, 1) := rfl
theorem c_129_8 : mLk 129 8 = some (.iload_n 1, 1) := rfl
theorem c_129_9 : mLk 129 9 = some (.bipush 10, 2) := rfl
theorem c_129_11 : mLk 129 11 = some (.irem, 1) := rfl
theorem c_129_12 : mLk 129 12 = some (.iload_n 2, 1) := rfl
theorem c_129_13 : mLk 129 13 = some (.invokevirtual 249, 3) := rfl
theorem c_129_16 : mLk 129 16 = some (.ireturn, 1) := rfl
theorem kf_7_253 : a_lk (kF 7) 253 = some (2, 9) := rfl
theorem kf_7_284 : a_lk (kF 7) 284 = some (2, 11) := rfl
theorem kf_7_37 : a_lk (kF 7) 37 = some (7, 4) := rfl
theorem kf_7_41 : a_lk (kF 7) 41 = some (7, 5) := rfl
theorem km_7_256 : a_lk (kM 7) 256 = some (0, 113) := rfl
theorem km_7_259 : a_lk (kM 7) 259 = some (0, 117) := rfl
theorem km_7_262 : a_lk (kM 7) 262 = some (0, 118) := rfl
theorem km_7_266 : a_lk (kM 7) 266 = some (0, 120) := rfl
theorem km_7_269 : a_lk (kM 7) 269 = some (0, 122) := rfl
theorem km_7_272 : a_lk (kM 7) 272 = some (0, 121) := rfl
theorem km_7_275 : a_lk (kM 7) 275 = some (0, 124) := rfl
theorem km_7_281 : a_lk (kM 7) 281 = some (0, 127) := rfl
theorem km_7_357 : a_lk (kM 7) 357 = some (0, 126) := rfl
set_option maxRecDepth 100000 in
set_option maxHeartbeats 4000000 in
theorem s_114_l {sc : List Int32} {e : Int} {d u P Q : Nat} {c : ME} {a1 : Int} {a2 : Int} {Z : AR → Prop} (hI : Iv u e P Q c) (ha1 : (-2147483648) ≤ a1 ∧ a1 ≤ 2147483647) (ha2 : (-2147483648) ≤ a2 ∧ a2 ≤ 2147483647) (T100 : ∀ c2 : ME, Iv u e P Q c2 → (∀ (a : Nat) (j : Int), ¬ ((a = 0 ∧ j = 12) ∨ (a = 0 ∧ j = 13) ∨ a = 12) → c2 a j = c a j) → Z (.inr 100, Wd P Q P P c2, 1, 6)) (T101 : ∀ c2 : ME, Iv u e P Q c2 → (∀ (a : Nat) (j : Int), ¬ ((a = 0 ∧ j = 12) ∨ (a = 0 ∧ j = 13) ∨ a = 12) → c2 a j = c a j) → Z (.inr 101, Wd P Q P P c2, 1, 6)) (K : ∀ (c2 : ME) (y : Int), Iv u e P Q c2 → (∀ (a : Nat) (j : Int), ¬ ((a = 0 ∧ j = 12) ∨ (a = 0 ∧ j = 13) ∨ a = 12) → c2 a j = c a j) → (-2147483648) ≤ y ∧ y ≤ 2147483647 → Z (.inl (some (vi y)), Wd P Q P P c2, 0, 0)) : ∀ n : Nat, (∀ (c2 : ME) (v3 : Int) (v4 : Int), Iv u e P Q c2 → (∀ (a : Nat) (j : Int), ¬ ((a = 0 ∧ j = 12) ∨ (a = 0 ∧ j = 13) ∨ a = 12) → c2 a j = c a j) → (-2147483648) ≤ v3 ∧ v3 ≤ 2147483647 → 0 ≤ v4 ∧ v4 ≤ 4 → ((a1 ≥ 0 ∧ a1 ≤ 5)) → 28 - 2 * v4 < (n : Int) → Wp sc (d + 10) 114 36 [(0, .ref 0), (1, vi a1), (2, vi a2), (3, vi v3), (4, vi v4)] [] (Wd P Q P P c2) 0 0 Z) ∧ (∀ (c2 : ME) (v3 : Int) (v4 : Int) (v5 : Int), Iv u e P Q c2 → (∀ (a : Nat) (j : Int), ¬ ((a = 0 ∧ j = 12) ∨ (a = 0 ∧ j = 13) ∨ a = 12) → c2 a j = c a j) → (-2147483648) ≤ v3 ∧ v3 ≤ 2147483647 → (-2147483648) ≤ v4 ∧ v4 ≤ 2147483647 → 0 ≤ v5 ∧ v5 ≤ 8 → ((a1 ≥ 0 ∧ a1 ≤ 5)) → 17 - 2 * v5 < (n : Int) → Wp sc (d + 10) 114 81 [(0, .ref 0), (1, vi a1), (2, vi a2), (3, vi v3), (4, vi v4), (5, vi v5)] [] (Wd P Q P P c2) 0 0 Z) := by
  intro n
  induction n with
  | zero => exact (by exact ⟨by (intro c2 v3 v4 hI2 hF hv3 hv4 hx0 hm9; have hP := iv_P hI; have hQ := iv_Q hI; exfalso; omega), by (intro c2 v3 v4 v5 hI2 hF hv3 hv4 hv5 hx0 hm9; have hP := iv_P hI; have hQ := iv_Q hI; exfalso; omega)⟩)
  | succ n ih =>
    have hP := iv_P hI
    have hQ := iv_Q hI
    refine ⟨?_, ?_⟩
    · skip
      intro c2 v3 v4 hI2 hF hv3 hv4 hx0 hm9
      refine q_iload c_114_36 rfl (q_iconst c_114_38 ?_)
      by_cases h_1 : v4 ≥ 4
      · refine v_ic_ge_t (t := 75) c_114_39 rfl ⟨by decide, h_1, (Int.le_trans hv4.2 (by decide))⟩ (q_iconst c_114_75 (q_istore c_114_76 (nb_ rfl) (q_iconst c_114_78 (q_istore c_114_79 (nb_ rfl) (Wp_ls [(0, .ref 0), (1, vi a1), (2, vi a2), (3, vi v3), (4, vi 0), (5, vi 0)] (lsub_cons rfl (lsub_cons rfl (lsub_cons rfl (lsub_cons rfl (lsub_cons rfl (lsub_cons rfl lsub_nil)))))) ?_)))))
        exact ih.2 c2 v3 0 0 hI2 (fun a j hm => hF a j hm) hv3 ⟨by decide, by decide⟩ ⟨by decide, by decide⟩ ⟨by omega, by omega⟩ (by omega)
      · refine v_ic_ge_f (t := 75) c_114_39 rfl ⟨(Int.le_trans (by decide) hv4.1), (Int.not_le.mp h_1), by decide⟩ (q_aload_n c_114_42 rfl (v_gr (t := 12) c_114_43 kf_7_44 rfl (nb_ rfl) rfl (q_iload c_114_46 rfl (q_aload_n c_114_48 rfl (v_gr (t := 37) c_114_49 kf_7_62 rfl (nb_ rfl) rfl (q_iload_n c_114_52 rfl (q_iload c_114_53 rfl ?_)))))))
        have h_2 := ir_38_g hI (j := 4 * a1 + v4) (by omega)
        have kn_3 : Hid (c2 38 (4 * a1 + v4) = c 38 (4 * a1 + v4)) := hF 38 (4 * a1 + v4) qn_4659b324a
        refine v_cv c_114_55 km_7_196 rfl rfl (nb_ rfl) ⟨⟨rfl, rfl⟩, nb_ rfl, rfl⟩ (nb_ rfl) (nb_ rfl) (s_45 (v1 := c 38 (4 * a1 + v4)) (r := c 38 (4 * a1 + v4)) (a1 := a1) (a2 := v4) hI2 (.inl ⟨rfl, rfl⟩) (show 0 ≤ a1 ∧ a1 ≤ 5 from ⟨by omega, by omega⟩) (show 0 ≤ v4 ∧ v4 ≤ 3 from ⟨hv4.1, by first | exact q_482ef8d41 h_1 | omega⟩) ((hid kn_3)) (by omega) (bk_inl (v_is c_114_58 rfl (by decide) (by decide) ⟨hv4.1, by first | exact q_2e808647e h_1 | omega⟩ (q_iload_n c_114_59 rfl (q_aload_n c_114_60 rfl (v_gr (t := 12) c_114_61 kf_7_44 rfl (nb_ rfl) rfl (q_iload c_114_64 rfl (v_ia (v := c 38 (4 * a1 + v4)) c_114_66 rfl (by decide) (by decide) ⟨hv4.1, by first | exact q_2e808647e h_1 | omega⟩ (up_e rfl) ?_))))))))
        refine v_iadd (v := c 38 (4 * a1 + v4) + v3) c_114_67 (by first | exact q_3c678d369 | omega) (v_nrm (fun y_4 hy_4 => (q_istore_n c_114_68 (nb_ rfl) (v_iinc (v := v4 + 1) c_114_69 rfl (nb_ rfl) rfl (q_goto (t := 36) c_114_72 rfl ?_)))))
        have hI_5 := iw_12 (j := v4) (v := c 38 (4 * a1 + v4)) hI2 ⟨by first | exact q_c6ed8760d h_2 | omega, by first | exact q_f52da7857 h_2 | omega⟩
        refine Wp_ls [(0, .ref 0), (1, vi a1), (2, vi a2), (3, vi y_4), (4, vi (v4 + 1))] (lsub_cons rfl (lsub_cons rfl (lsub_cons rfl (lsub_cons rfl (lsub_cons rfl lsub_nil))))) ?_
        exact ih.1 (up c2 12 v4 (c 38 (4 * a1 + v4))) y_4 (v4 + 1) hI_5 (fun a j hm => (up_b (Decidable.or_iff_not_imp_left.mpr (fun h1 h2 => hm (Or.inr (Or.inr (Decidable.not_not.mp h1)))))).trans (hF a j hm)) hy_4 ⟨by first | exact rgp_l hv4.1 (by decide) | omega, by first | exact q_121241f94 h_1 | omega⟩ ⟨by omega, by omega⟩ (by omega)
    · skip
      intro c2 v3 v4 v5 hI2 hF hv3 hv4 hv5 hx0 hm9
      refine q_iload c_114_81 rfl (q_iload_n c_114_83 rfl ?_)
      by_cases h_6 : v5 > a2
      · refine v_ic_gt_t (t := 128) c_114_84 rfl ⟨ha2.1, h_6, (Int.le_trans hv5.2 (by decide))⟩ (q_iload_n c_114_128 rfl (q_aload_n c_114_129 rfl (v_gr (t := P) c_114_130 kf_7_50 rfl (nb_ rfl) rfl ?_)))
        have h_7 := ir_p0_4 hI hP
        have kn_8 : Hid (c2 P 4 = c P 4) := hF P 4 (qn_b39d5257d hP)
        refine v_gi (z := 4) (v := c P 4) c_114_133 kf_7_145 (ck_p0 hP) (a68z hP) rfl rfl (hid kn_8) ?_
        by_cases h_9 : a2 ≠ c P 4
        · refine v_ic_ne_t (t := 143) c_114_136 rfl ⟨h_9, ⟨ha2.1, ha2.2⟩, by first | exact q_ad61fcb20 h_7 | omega, by first | exact q_68855c780 h_7 | omega⟩ (q_iload c_114_143 rfl (q_iret c_114_145 rfl ?_))
          exact K c2 v4 hI2 (fun a j hm => hF a j hm) hv4
        · refine v_ic_ne_f (t := 143) c_114_136 rfl (Decidable.not_not.mp h_9) (q_iload_n c_114_139 rfl (q_goto (t := 145) c_114_140 rfl (q_iret c_114_145 rfl ?_)))
          exact K c2 v3 hI2 (fun a j hm => hF a j hm) hv3
      · refine v_ic_gt_f (t := 128) c_114_84 rfl ⟨(Int.le_trans (by decide) hv5.1), (Int.not_lt.mp h_6), ha2.2⟩ (q_iload c_114_87 rfl (q_aload_n c_114_89 rfl (v_gr (t := P) c_114_90 kf_7_50 rfl (nb_ rfl) rfl ?_)))
        have h_10 := ir_p0_4 hI hP
        have kn_11 : Hid (c2 P 4 = c P 4) := hF P 4 (qn_b39d5257d hP)
        refine v_gi (z := 4) (v := c P 4) c_114_93 kf_7_145 (ck_p0 hP) (a68z hP) rfl rfl (hid kn_11) ?_
        by_cases h_12 : v5 ≥ c P 4
        · refine v_ic_ge_t (t := 128) c_114_96 rfl ⟨by first | exact q_ad61fcb20 h_10 | omega, h_12, (Int.le_trans hv5.2 (by decide))⟩ (q_iload_n c_114_128 rfl (q_aload_n c_114_129 rfl (v_gr (t := P) c_114_130 kf_7_50 rfl (nb_ rfl) rfl (v_gi (z := 4) (v := c P 4) c_114_133 kf_7_145 (ck_p0 hP) (a68z hP) rfl rfl (hid kn_11) ?_))))
          by_cases h_13 : a2 ≠ c P 4
          · refine v_ic_ne_t (t := 143) c_114_136 rfl ⟨h_13, ⟨ha2.1, ha2.2⟩, by first | exact q_ad61fcb20 h_10 | omega, by first | exact q_68855c780 h_10 | omega⟩ (q_iload c_114_143 rfl (q_iret c_114_145 rfl ?_))
            exact K c2 v4 hI2 (fun a j hm => hF a j hm) hv4
          · refine v_ic_ne_f (t := 143) c_114_136 rfl (Decidable.not_not.mp h_13) (q_iload_n c_114_139 rfl (q_goto (t := 145) c_114_140 rfl (q_iret c_114_145 rfl ?_)))
            exact K c2 v3 hI2 (fun a j hm => hF a j hm) hv3
        · refine v_ic_ge_f (t := 128) c_114_96 rfl ⟨(Int.le_trans (by decide) hv5.1), (Int.not_le.mp h_12), by first | exact q_68855c780 h_10 | omega⟩ (q_iload_n c_114_99 rfl (q_aload_n c_114_100 rfl (q_aload_n c_114_101 rfl (v_gr (t := P) c_114_102 kf_7_50 rfl (nb_ rfl) rfl (v_gr (t := (P + 4)) c_114_105 kf_7_253 (ck_p0 hP) (a68z hP) rfl (q_iload c_114_108 rfl ?_))))))
          have h_14 := ir_p4 hI hP v5
          have h_15 := ir_p4_x hI hP (j := v5) (by omega) (by omega)
          have kn_16 : Hid (c2 (P + 4) v5 = c (P + 4) v5) := hF (P + 4) v5 (qn_205a17438 hP)
          refine v_ia (v := c (P + 4) v5) c_114_110 (ck_p4 hP) (a68 hP rfl) (by decide) ⟨hv5.1, by first | exact q_ee9fc688f h_10 h_12 | omega⟩ (hid kn_16) (v_cv c_114_111 km_7_256 rfl rfl (nb_ rfl) ⟨⟨rfl, rfl⟩, nb_ rfl, rfl⟩ (nb_ rfl) (nb_ rfl) (s_113 (a1 := c (P + 4) v5) hI2 (show 0 ≤ c (P + 4) v5 ∧ c (P + 4) v5 ≤ 3 from ⟨by omega, by omega⟩) (fun c_17 y_20 hI_18 hF_19 hy_20 => (bk_inl (v_isub (v := v3 - y_20) c_114_114 rfl (v_nrm (fun y_21 hy_21 => (q_istore c_114_115 (nb_ rfl) (q_iload_n c_114_117 rfl (q_iload c_114_118 rfl ?_))))))))))
          refine v_isub (v := v3 - y_21) c_114_120 rfl (v_nrm (fun y_22 hy_22 => (q_istore_n c_114_121 (nb_ rfl) (v_iinc (v := v5 + 1) c_114_122 rfl (nb_ rfl) rfl (q_goto (t := 81) c_114_125 rfl (Wp_ls [(0, .ref 0), (1, vi a1), (2, vi a2), (3, vi y_22), (4, vi y_21), (5, vi (v5 + 1))] (lsub_cons rfl (lsub_cons rfl (lsub_cons rfl (lsub_cons rfl (lsub_cons rfl (lsub_cons rfl lsub_nil)))))) ?_))))))
          exact ih.2 c_17 y_22 y_21 (v5 + 1) hI_18 (fun a j hm => (hF_19 a j (fun h => hm (Or.inr (Or.inr h)))).trans (hF a j hm)) hy_22 hy_21 ⟨by first | exact rgp_l hv5.1 (by decide) | omega, by first | exact q_d3303858b h_10 h_12 | omega⟩ ⟨by omega, by omega⟩ (by omega)
set_option maxRecDepth 100000 in
set_option maxHeartbeats 4000000 in
theorem s_114 {sc : List Int32} {e : Int} {d u P Q : Nat} {c : ME} {a1 : Int} {a2 : Int} {Z : AR → Prop} (hI : Iv u e P Q c) (ha1 : (-2147483648) ≤ a1 ∧ a1 ≤ 2147483647) (ha2 : (-2147483648) ≤ a2 ∧ a2 ≤ 2147483647) (T100 : ∀ c2 : ME, Iv u e P Q c2 → (∀ (a : Nat) (j : Int), ¬ ((a = 0 ∧ j = 12) ∨ (a = 0 ∧ j = 13) ∨ a = 12) → c2 a j = c a j) → Z (.inr 100, Wd P Q P P c2, 1, 6)) (T101 : ∀ c2 : ME, Iv u e P Q c2 → (∀ (a : Nat) (j : Int), ¬ ((a = 0 ∧ j = 12) ∨ (a = 0 ∧ j = 13) ∨ a = 12) → c2 a j = c a j) → Z (.inr 101, Wd P Q P P c2, 1, 6)) (K : ∀ (c2 : ME) (y : Int), Iv u e P Q c2 → (∀ (a : Nat) (j : Int), ¬ ((a = 0 ∧ j = 12) ∨ (a = 0 ∧ j = 13) ∨ a = 12) → c2 a j = c a j) → (-2147483648) ≤ y ∧ y ≤ 2147483647 → Z (.inl (some (vi y)), Wd P Q P P c2, 0, 0)) : Wp sc (d + 10) 114 0 [(0, .ref 0), (1, vi a1), (2, vi a2)] [] (Wd P Q P P c) 0 0 Z := by
  have hP := iv_P hI
  have hQ := iv_Q hI
  refine q_aload_n c_114_0 rfl (q_iload_n c_114_1 rfl (v_cv c_114_2 km_7_184 rfl rfl (nb_ rfl) ⟨⟨rfl, rfl⟩, nb_ rfl, rfl⟩ (nb_ rfl) (nb_ rfl) (q_aload_n c_92_0 rfl (q_iload_n c_92_1 rfl (q_iconst c_92_2 (q_aload_n c_92_3 rfl (v_gr (t := P) c_92_4 kf_7_50 rfl (nb_ rfl) rfl ?_)))))))
  have h_23 := ir_p0_0 hI hP
  refine v_gi (z := 0) (v := c P 0) c_92_7 kf_7_102 (ck_p0 hP) (a68z hP) rfl rfl rfl (q_iconst c_92_10 (v_isub (v := c P 0 - 1) c_92_11 rfl (q_call c_92_12 rfl rfl rfl (q_iload_n c_80_0 rfl (q_iload_n c_80_1 rfl ?_)))))
  by_cases h_24 : a1 < 0
  · refine v_ic_lt_t (t := 14) c_80_2 rfl ⟨ha1.1, h_24, by decide⟩ (q_iconst c_80_14 (v_zret c_80_15 rfl (by decide) (bk_inl (v_cv c_92_15 km_7_333 rfl rfl (nb_ rfl) ⟨⟨rfl, rfl⟩, nb_ rfl, rfl⟩ (nb_ rfl) (nb_ rfl) (q_iload_n c_91_0 rfl (v_if_ne_f (t := 25) c_91_1 rfl (by decide) (q_aload_n c_91_4 rfl ?_)))))))
    refine q_dup c_91_5 rfl ?_
    have h_25 := ir_0_12 hI
    refine v_gi (z := 12) (v := c 0 12) c_91_6 kf_7_327 rfl (nb_ rfl) rfl rfl rfl (q_iconst c_91_9 (v_iadd (v := c 0 12 + 1) c_91_10 rfl (v_nrm (fun y_26 hy_26 => (v_pi (z := 12) c_91_11 kf_7_327 rfl (nb_ rfl) rfl rfl rfl (by decide) (v_new c_91_14 rfl (by decide) (ld_ rfl) (nb_ rfl) (by decide) rfl (bk_out rfl rfl (bk_out rfl rfl ?_))))))))
    have hI_27 := iw_0_12 (v := y_26) hI ⟨hy_26.1, hy_26.2⟩
    exact T100 _ hI_27 (fun a j hm => up_b (Decidable.or_iff_not_imp_left.mpr (fun h1 h2 => hm (Or.inl ⟨Decidable.not_not.mp h1, h2⟩))))
  · refine v_ic_lt_f (t := 14) c_80_2 rfl ⟨by decide, (Int.not_lt.mp h_24), ha1.2⟩ (q_iload_n c_80_5 rfl (q_iload_n c_80_6 rfl ?_))
    by_cases h_28 : a1 > c P 0 - 1
    · refine v_ic_gt_t (t := 14) c_80_7 rfl ⟨by first | exact rgm_l h_23.1 (by decide) | omega, h_28, ha1.2⟩ (q_iconst c_80_14 (v_zret c_80_15 rfl (by decide) (bk_inl (v_cv c_92_15 km_7_333 rfl rfl (nb_ rfl) ⟨⟨rfl, rfl⟩, nb_ rfl, rfl⟩ (nb_ rfl) (nb_ rfl) (q_iload_n c_91_0 rfl (v_if_ne_f (t := 25) c_91_1 rfl (by decide) (q_aload_n c_91_4 rfl ?_)))))))
      refine q_dup c_91_5 rfl ?_
      have h_29 := ir_0_12 hI
      refine v_gi (z := 12) (v := c 0 12) c_91_6 kf_7_327 rfl (nb_ rfl) rfl rfl rfl (q_iconst c_91_9 (v_iadd (v := c 0 12 + 1) c_91_10 rfl (v_nrm (fun y_30 hy_30 => (v_pi (z := 12) c_91_11 kf_7_327 rfl (nb_ rfl) rfl rfl rfl (by decide) (v_new c_91_14 rfl (by decide) (ld_ rfl) (nb_ rfl) (by decide) rfl (bk_out rfl rfl (bk_out rfl rfl ?_))))))))
      have hI_31 := iw_0_12 (v := y_30) hI ⟨hy_30.1, hy_30.2⟩
      exact T100 _ hI_31 (fun a j hm => up_b (Decidable.or_iff_not_imp_left.mpr (fun h1 h2 => hm (Or.inl ⟨Decidable.not_not.mp h1, h2⟩))))
    · refine v_ic_gt_f (t := 14) c_80_7 rfl ⟨ha1.1, (Int.not_lt.mp h_28), by first | exact rgm_h h_23.2 (by decide) | omega⟩ (q_iconst c_80_10 (q_goto (t := 15) c_80_11 rfl (v_zret c_80_15 rfl (by decide) (bk_inl (v_cv c_92_15 km_7_333 rfl rfl (nb_ rfl) ⟨⟨rfl, rfl⟩, nb_ rfl, rfl⟩ (nb_ rfl) (nb_ rfl) (q_iload_n c_91_0 rfl (v_if_ne_t (t := 25) c_91_1 rfl (by decide) ?_)))))))
      refine q_vret rfl rfl (bk_inl (q_vret rfl rfl (bk_inl (q_aload_n c_114_5 rfl (q_iload_n c_114_6 rfl ?_)))))
      by_cases h_32 : a2 < 0
      · refine v_if_lt_t (t := 14) c_114_7 rfl ⟨ha2.1, h_32, by decide⟩ (q_iconst c_114_14 (v_cv c_114_15 km_7_161 rfl rfl (nb_ rfl) ⟨⟨rfl, rfl⟩, nb_ rfl, rfl⟩ (nb_ rfl) (nb_ rfl) (q_iload_n c_81_0 rfl (v_if_ne_f (t := 25) c_81_1 rfl (by decide) (q_aload_n c_81_4 rfl (q_dup c_81_5 rfl ?_))))))
        have h_33 := ir_0_13 hI
        refine v_gi (z := 13) (v := c 0 13) c_81_6 kf_7_330 rfl (nb_ rfl) rfl rfl rfl (q_iconst c_81_9 (v_iadd (v := c 0 13 + 1) c_81_10 rfl (v_nrm (fun y_34 hy_34 => (v_pi (z := 13) c_81_11 kf_7_330 rfl (nb_ rfl) rfl rfl rfl (by decide) (v_new c_81_14 rfl (by decide) (ld_ rfl) (nb_ rfl) (by decide) rfl (bk_out rfl rfl ?_)))))))
        have hI_35 := iw_0_13 (v := y_34) hI ⟨hy_34.1, hy_34.2⟩
        exact T101 _ hI_35 (fun a j hm => up_b (Decidable.or_iff_not_imp_left.mpr (fun h1 h2 => hm (Or.inr (Or.inl ⟨Decidable.not_not.mp h1, h2⟩)))))
      · refine v_if_lt_f (t := 14) c_114_7 rfl ⟨by decide, (Int.not_lt.mp h_32), ha2.2⟩ (q_iconst c_114_10 (q_goto (t := 15) c_114_11 rfl (v_cv c_114_15 km_7_161 rfl rfl (nb_ rfl) ⟨⟨rfl, rfl⟩, nb_ rfl, rfl⟩ (nb_ rfl) (nb_ rfl) (q_iload_n c_81_0 rfl (v_if_ne_t (t := 25) c_81_1 rfl (by decide) (q_vret rfl rfl (bk_inl ?_)))))))
        refine q_iload_n c_114_18 rfl (q_aload_n c_114_19 rfl (v_gr (t := P) c_114_20 kf_7_50 rfl (nb_ rfl) rfl ?_))
        have h_36 := ir_p0_4 hI hP
        refine v_gi (z := 4) (v := c P 4) c_114_23 kf_7_145 (ck_p0 hP) (a68z hP) rfl rfl rfl ?_
        by_cases h_37 : a2 ≤ c P 4
        · refine v_ic_le_t (t := 31) c_114_26 rfl ⟨ha2.1, h_37, (Int.le_trans h_36.2 (by decide))⟩ (q_iconst c_114_31 (q_istore_n c_114_32 (nb_ rfl) (q_iconst c_114_33 (q_istore c_114_34 (nb_ rfl) (Wp_ls [(0, .ref 0), (1, vi a1), (2, vi a2), (3, vi 0), (4, vi 0)] (lsub_cons rfl (lsub_cons rfl (lsub_cons rfl (lsub_cons rfl (lsub_cons rfl lsub_nil))))) ?_)))))
          exact (s_114_l (sc := sc) (d := d) hI ha1 ha2 T100 T101 K 31).1 c 0 0 hI (fun a j hm => rfl) ⟨by decide, by decide⟩ ⟨by decide, by decide⟩ ⟨by first | exact q_720657ba9 h_24 | omega, by first | exact q_3a2e67ab0 h_23 h_28 | omega⟩ (by omega)
        · refine v_ic_le_f (t := 31) c_114_26 rfl ⟨(Int.le_trans (by decide) h_36.1), (Int.not_le.mp h_37), ha2.2⟩ (q_iconst c_114_29 (q_iret c_114_30 rfl ?_))
          exact K c (-1) hI (fun a j hm => rfl) ⟨by decide, by decide⟩

set_option maxRecDepth 100000 in
set_option maxHeartbeats 4000000 in
theorem s_115_l {sc : List Int32} {e : Int} {d u P Q : Nat} {c : ME} {a1 : Int} {Z : AR → Prop} (hI : Iv u e P Q c) (ha1 : (-2147483648) ≤ a1 ∧ a1 ≤ 2147483647) (T100 : ∀ c2 : ME, Iv u e P Q c2 → (∀ (a : Nat) (j : Int), ¬ ((a = 0 ∧ j = 12)) → c2 a j = c a j) → Z (.inr 100, Wd P Q P P c2, 1, 6)) (K : ∀ (c2 : ME) (y : Int), Iv u e P Q c2 → (∀ (a : Nat) (j : Int), ¬ ((a = 0 ∧ j = 12)) → c2 a j = c a j) → (-2147483648) ≤ y ∧ y ≤ 2147483647 → Z (.inl (some (vi y)), Wd P Q P P c2, 0, 0)) : ∀ n : Nat, (∀ (c2 : ME) (v2 : Int) (v3 : Int), Iv u e P Q c2 → (∀ (a : Nat) (j : Int), ¬ ((a = 0 ∧ j = 12)) → c2 a j = c a j) → (-2147483648) ≤ v2 ∧ v2 ≤ 2147483647 → 0 ≤ v3 ∧ v3 ≤ 6 → ((a1 ≥ 0 ∧ a1 ≤ 3)) → 13 - 2 * v3 < (n : Int) → Wp sc (d + 11) 115 9 [(0, .ref 0), (1, vi a1), (2, vi v2), (3, vi v3)] [] (Wd P Q P P c2) 0 0 Z) := by
  intro n
  induction n with
  | zero => exact (by intro c2 v2 v3 hI2 hF hv2 hv3 hx0 hm9; have hP := iv_P hI; have hQ := iv_Q hI; exfalso; omega)
  | succ n ih =>
    have hP := iv_P hI
    have hQ := iv_Q hI
    intro c2 v2 v3 hI2 hF hv2 hv3 hx0 hm9
    refine q_iload_n c_115_9 rfl (q_aload_n c_115_10 rfl (v_gr (t := P) c_115_11 kf_7_50 rfl (nb_ rfl) rfl ?_))
    have h_1 := ir_p0_0 hI hP
    have kn_2 : Hid (c2 P 0 = c P 0) := hF P 0 (fun h => absurd h.1 (np0 hP rfl))
    refine v_gi (z := 0) (v := c P 0) c_115_14 kf_7_102 (ck_p0 hP) (a68z hP) rfl rfl (hid kn_2) ?_
    by_cases h_3 : v3 ≥ c P 0
    · refine v_ic_ge_t (t := 61) c_115_17 rfl ⟨by first | exact q_730ab5169 h_1 | omega, h_3, (Int.le_trans hv3.2 (by decide))⟩ (q_iload_n c_115_61 rfl (q_iret c_115_62 rfl ?_))
      exact K c2 v2 hI2 (fun a j hm => hF a j hm) hv2
    · refine v_ic_ge_f (t := 61) c_115_17 rfl ⟨(Int.le_trans (by decide) hv3.1), (Int.not_le.mp h_3), by first | exact q_b289b7db2 h_1 | omega⟩ (q_aload_n c_115_20 rfl (v_gr (t := 37) c_115_21 kf_7_62 rfl (nb_ rfl) rfl (q_iload_n c_115_24 rfl ?_)))
      have h_4 := ir_38_g hI (j := 4 * v3) (by first | exact q_aa51b186e h_1 h_3 | omega)
      have kn_5 : Hid (c2 38 (4 * v3) = c 38 (4 * v3)) := hF 38 (4 * v3) (fun h => absurd h.1 (nn rfl))
      have h_6 := ir_38_g hI (j := 4 * v3 + 1) (by first | exact q_57851f9de h_1 h_3 | omega)
      have kn_7 : Hid (c2 38 (4 * v3 + 1) = c 38 (4 * v3 + 1)) := hF 38 (4 * v3 + 1) (fun h => absurd h.1 (nn rfl))
      have h_8 := ir_38_g hI (j := 4 * v3 + 2) (by first | exact q_7296e74e6 h_1 h_3 | omega)
      have kn_9 : Hid (c2 38 (4 * v3 + 2) = c 38 (4 * v3 + 2)) := hF 38 (4 * v3 + 2) (fun h => absurd h.1 (nn rfl))
      have h_10 := ir_38_g hI (j := 4 * v3 + 3) (by first | exact q_b15525c4c h_1 h_3 | omega)
      have kn_11 : Hid (c2 38 (4 * v3 + 3) = c 38 (4 * v3 + 3)) := hF 38 (4 * v3 + 3) (fun h => absurd h.1 (nn rfl))
      refine v_cv c_115_25 km_7_187 rfl rfl (nb_ rfl) ⟨⟨rfl, rfl⟩, nb_ rfl, rfl⟩ (nb_ rfl) (nb_ rfl) (s_43 (v1 := c 38 (4 * v3)) (v2 := c 38 (4 * v3 + 1)) (v3 := c 38 (4 * v3 + 2)) (v4 := c 38 (4 * v3 + 3)) (r := c 38 (4 * v3 + 1) + c 38 (4 * v3 + 2) + c 38 (4 * v3 + 3) + c 38 (4 * v3)) (a1 := v3) hI2 (.inl ⟨rfl, rfl⟩) (show 0 ≤ v3 ∧ v3 ≤ 5 from ⟨hv3.1, by first | exact q_d63a8538e h_1 h_3 | omega⟩) ((hid kn_5)) ((hid kn_7)) ((hid kn_9)) ((hid kn_11)) (by omega) (bk_inl (q_istore c_115_28 (nb_ rfl) (q_iload c_115_30 rfl ?_))))
      by_cases h_12 : c 38 (4 * v3 + 1) + c 38 (4 * v3 + 2) + c 38 (4 * v3 + 3) + c 38 (4 * v3) ≤ 0
      · refine v_if_le_t (t := 55) c_115_32 rfl ⟨by first | exact q_94559468f h_10 h_4 h_6 h_8 | omega, h_12, by decide⟩ (v_iinc (v := v3 + 1) c_115_55 rfl (nb_ rfl) rfl (q_goto (t := 9) c_115_58 rfl (Wp_ls [(0, .ref 0), (1, vi a1), (2, vi v2), (3, vi (v3 + 1))] (lsub_cons rfl (lsub_cons rfl (lsub_cons rfl (lsub_cons rfl lsub_nil)))) ?_)))
        exact ih c2 v2 (v3 + 1) hI2 (fun a j hm => hF a j hm) hv2 ⟨by first | exact rgp_l hv3.1 (by decide) | omega, by first | exact q_4a76cd9c7 h_1 h_3 | omega⟩ ⟨by omega, by omega⟩ (by omega)
      · refine v_if_le_f (t := 55) c_115_32 rfl ⟨by decide, (Int.not_le.mp h_12), by first | exact q_f81653045 h_10 h_4 h_6 h_8 | omega⟩ (q_aload_n c_115_35 rfl (v_gr (t := 37) c_115_36 kf_7_62 rfl (nb_ rfl) rfl (q_iload_n c_115_39 rfl (q_iload_n c_115_40 rfl ?_))))
        have h_13 := ir_p3 hI hP a1
        have kn_14 : Hid (c2 (P + 3) a1 = c (P + 3) a1) := hF (P + 3) a1 (fun h => absurd h.1 (np hP rfl rfl))
        have h_15 := ir_38 hI 30
        have kn_16 : Hid (c2 38 30 = c 38 30) := hF 38 30 (fun h => absurd h.1 (nn rfl))
        have h_17 := fal_rng (m := c (P + 3) a1) (t := tb (c 38 30) a1) (g := 0) (x := c 38 (4 * v3)) (by first | exact q_c6ed8760d h_4 | omega)
        have h_18 := fal_rng (m := c (P + 3) a1) (t := tb (c 38 30) a1) (g := 1) (x := c 38 (4 * v3 + 1)) (by first | exact q_c6ed8760d h_6 | omega)
        have h_19 := fal_rng (m := c (P + 3) a1) (t := tb (c 38 30) a1) (g := 2) (x := c 38 (4 * v3 + 2)) (by first | exact q_c6ed8760d h_8 | omega)
        have h_20 := fal_rng (m := c (P + 3) a1) (t := tb (c 38 30) a1) (g := 3) (x := c 38 (4 * v3 + 3)) (by first | exact q_c6ed8760d h_10 | omega)
        refine v_cv c_115_41 km_7_246 rfl rfl (nb_ rfl) ⟨⟨rfl, rfl⟩, nb_ rfl, rfl⟩ (nb_ rfl) (nb_ rfl) (s_49 (v1 := c (P + 3) a1) (v2 := c 38 30) (v3 := c 38 (4 * v3)) (v4 := c 38 (4 * v3 + 1)) (v5 := c 38 (4 * v3 + 2)) (v6 := c 38 (4 * v3 + 3)) (r := (fal (c (P + 3) a1) (tb (c 38 30) a1) 0 (c 38 (4 * v3))) + (fal (c (P + 3) a1) (tb (c 38 30) a1) 1 (c 38 (4 * v3 + 1))) + (fal (c (P + 3) a1) (tb (c 38 30) a1) 2 (c 38 (4 * v3 + 2))) + (fal (c (P + 3) a1) (tb (c 38 30) a1) 3 (c 38 (4 * v3 + 3)))) (a1 := a1) (a2 := v3) hI2 (.inl ⟨rfl, rfl⟩) (show 0 ≤ a1 ∧ a1 ≤ 3 from ⟨by omega, by omega⟩) (show 0 ≤ v3 ∧ v3 ≤ 5 from ⟨hv3.1, by first | exact q_d63a8538e h_1 h_3 | omega⟩) ((hid kn_14)) ((hid kn_16)) ((hid kn_5)) ((hid kn_7)) ((hid kn_9)) ((hid kn_11)) rfl (bk_inl (q_iload c_115_44 rfl ?_)))
        by_cases h_21 : (fal (c (P + 3) a1) (tb (c 38 30) a1) 0 (c 38 (4 * v3))) + (fal (c (P + 3) a1) (tb (c 38 30) a1) 1 (c 38 (4 * v3 + 1))) + (fal (c (P + 3) a1) (tb (c 38 30) a1) 2 (c 38 (4 * v3 + 2))) + (fal (c (P + 3) a1) (tb (c 38 30) a1) 3 (c 38 (4 * v3 + 3))) ≠ c 38 (4 * v3 + 1) + c 38 (4 * v3 + 2) + c 38 (4 * v3 + 3) + c 38 (4 * v3)
        · refine v_ic_ne_t (t := 55) c_115_46 rfl ⟨h_21, ⟨by first | exact q_c0b7ed1c9 h_17 h_18 h_19 h_20 | omega, by first | exact q_3500cd578 h_10 h_17 h_18 h_19 h_20 h_4 h_6 h_8 | omega⟩, by first | exact q_0023c4fc8 h_12 | omega, by first | exact q_f81653045 h_10 h_4 h_6 h_8 | omega⟩ (v_iinc (v := v3 + 1) c_115_55 rfl (nb_ rfl) rfl (q_goto (t := 9) c_115_58 rfl (Wp_ls [(0, .ref 0), (1, vi a1), (2, vi v2), (3, vi (v3 + 1))] (lsub_cons rfl (lsub_cons rfl (lsub_cons rfl (lsub_cons rfl lsub_nil)))) ?_)))
          exact ih c2 v2 (v3 + 1) hI2 (fun a j hm => hF a j hm) hv2 ⟨by first | exact rgp_l hv3.1 (by decide) | omega, by first | exact q_4a76cd9c7 h_1 h_3 | omega⟩ ⟨by first | (clear ha1 hv2 hv3 h_1 h_3 h_4 h_6 h_8 h_10 h_12 h_13 h_15 h_17 h_18 h_19 h_20 h_21; omega) | omega, by first | (clear ha1 hv2 hv3 h_1 h_3 h_4 h_6 h_8 h_10 h_12 h_13 h_15 h_17 h_18 h_19 h_20 h_21; omega) | omega⟩ (by omega)
        · refine v_ic_ne_f (t := 55) c_115_46 rfl (Decidable.not_not.mp h_21) (q_iload_n c_115_49 rfl (q_iconst c_115_50 (q_iload_n c_115_51 rfl (v_shl1 c_115_52 ⟨by omega, by omega⟩ (fun y_22 hy_22 => (v_iorx c_115_53 (fun y_23 hy_23 => (q_istore_n c_115_54 (nb_ rfl) (v_iinc (v := v3 + 1) c_115_55 rfl (nb_ rfl) rfl ?_)))))))))
          refine q_goto (t := 9) c_115_58 rfl (Wp_ls [(0, .ref 0), (1, vi a1), (2, vi y_23), (3, vi (v3 + 1))] (lsub_cons rfl (lsub_cons rfl (lsub_cons rfl (lsub_cons rfl lsub_nil)))) ?_)
          exact ih c2 y_23 (v3 + 1) hI2 (fun a j hm => hF a j hm) hy_23 ⟨by first | exact rgp_l hv3.1 (by decide) | omega, by first | exact q_4a76cd9c7 h_1 h_3 | omega⟩ ⟨by first | (clear ha1 hv2 hv3 h_1 h_3 h_4 h_6 h_8 h_10 h_12 h_13 h_15 h_17 h_18 h_19 h_20 h_21; omega) | omega, by first | (clear ha1 hv2 hv3 h_1 h_3 h_4 h_6 h_8 h_10 h_12 h_13 h_15 h_17 h_18 h_19 h_20 h_21; omega) | omega⟩ (by omega)
set_option maxRecDepth 100000 in
set_option maxHeartbeats 4000000 in
theorem s_115 {sc : List Int32} {e : Int} {d u P Q : Nat} {c : ME} {a1 : Int} {Z : AR → Prop} (hI : Iv u e P Q c) (ha1 : (-2147483648) ≤ a1 ∧ a1 ≤ 2147483647) (T100 : ∀ c2 : ME, Iv u e P Q c2 → (∀ (a : Nat) (j : Int), ¬ ((a = 0 ∧ j = 12)) → c2 a j = c a j) → Z (.inr 100, Wd P Q P P c2, 1, 6)) (K : ∀ (c2 : ME) (y : Int), Iv u e P Q c2 → (∀ (a : Nat) (j : Int), ¬ ((a = 0 ∧ j = 12)) → c2 a j = c a j) → (-2147483648) ≤ y ∧ y ≤ 2147483647 → Z (.inl (some (vi y)), Wd P Q P P c2, 0, 0)) : Wp sc (d + 11) 115 0 [(0, .ref 0), (1, vi a1)] [] (Wd P Q P P c) 0 0 Z := by
  have hP := iv_P hI
  have hQ := iv_Q hI
  refine q_aload_n c_115_0 rfl (q_iload_n c_115_1 rfl (v_cv c_115_2 km_7_206 rfl rfl (nb_ rfl) ⟨⟨rfl, rfl⟩, nb_ rfl, rfl⟩ (nb_ rfl) (nb_ rfl) (q_aload_n c_96_0 rfl (q_iload_n c_96_1 rfl (q_iconst c_96_2 (q_aload_n c_96_3 rfl (v_gr (t := P) c_96_4 kf_7_50 rfl (nb_ rfl) rfl ?_)))))))
  have h_24 := ir_p0_2 hI hP
  refine v_gi (z := 2) (v := c P 2) c_96_7 kf_7_168 (ck_p0 hP) (a68z hP) rfl rfl rfl (q_iconst c_96_10 (v_isub (v := c P 2 - 1) c_96_11 rfl (q_call c_96_12 rfl rfl rfl (q_iload_n c_80_0 rfl (q_iload_n c_80_1 rfl ?_)))))
  by_cases h_25 : a1 < 0
  · refine v_ic_lt_t (t := 14) c_80_2 rfl ⟨ha1.1, h_25, by decide⟩ (q_iconst c_80_14 (v_zret c_80_15 rfl (by decide) (bk_inl (v_cv c_96_15 km_7_333 rfl rfl (nb_ rfl) ⟨⟨rfl, rfl⟩, nb_ rfl, rfl⟩ (nb_ rfl) (nb_ rfl) (q_iload_n c_91_0 rfl (v_if_ne_f (t := 25) c_91_1 rfl (by decide) (q_aload_n c_91_4 rfl ?_)))))))
    refine q_dup c_91_5 rfl ?_
    have h_26 := ir_0_12 hI
    refine v_gi (z := 12) (v := c 0 12) c_91_6 kf_7_327 rfl (nb_ rfl) rfl rfl rfl (q_iconst c_91_9 (v_iadd (v := c 0 12 + 1) c_91_10 rfl (v_nrm (fun y_27 hy_27 => (v_pi (z := 12) c_91_11 kf_7_327 rfl (nb_ rfl) rfl rfl rfl (by decide) (v_new c_91_14 rfl (by decide) (ld_ rfl) (nb_ rfl) (by decide) rfl (bk_out rfl rfl (bk_out rfl rfl ?_))))))))
    have hI_28 := iw_0_12 (v := y_27) hI ⟨hy_27.1, hy_27.2⟩
    exact T100 _ hI_28 (fun a j hm => up_b (Decidable.or_iff_not_imp_left.mpr (fun h1 h2 => hm ⟨Decidable.not_not.mp h1, h2⟩)))
  · refine v_ic_lt_f (t := 14) c_80_2 rfl ⟨by decide, (Int.not_lt.mp h_25), ha1.2⟩ (q_iload_n c_80_5 rfl (q_iload_n c_80_6 rfl ?_))
    by_cases h_29 : a1 > c P 2 - 1
    · refine v_ic_gt_t (t := 14) c_80_7 rfl ⟨by first | exact rgm_l h_24.1 (by decide) | omega, h_29, ha1.2⟩ (q_iconst c_80_14 (v_zret c_80_15 rfl (by decide) (bk_inl (v_cv c_96_15 km_7_333 rfl rfl (nb_ rfl) ⟨⟨rfl, rfl⟩, nb_ rfl, rfl⟩ (nb_ rfl) (nb_ rfl) (q_iload_n c_91_0 rfl (v_if_ne_f (t := 25) c_91_1 rfl (by decide) (q_aload_n c_91_4 rfl ?_)))))))
      refine q_dup c_91_5 rfl ?_
      have h_30 := ir_0_12 hI
      refine v_gi (z := 12) (v := c 0 12) c_91_6 kf_7_327 rfl (nb_ rfl) rfl rfl rfl (q_iconst c_91_9 (v_iadd (v := c 0 12 + 1) c_91_10 rfl (v_nrm (fun y_31 hy_31 => (v_pi (z := 12) c_91_11 kf_7_327 rfl (nb_ rfl) rfl rfl rfl (by decide) (v_new c_91_14 rfl (by decide) (ld_ rfl) (nb_ rfl) (by decide) rfl (bk_out rfl rfl (bk_out rfl rfl ?_))))))))
      have hI_32 := iw_0_12 (v := y_31) hI ⟨hy_31.1, hy_31.2⟩
      exact T100 _ hI_32 (fun a j hm => up_b (Decidable.or_iff_not_imp_left.mpr (fun h1 h2 => hm ⟨Decidable.not_not.mp h1, h2⟩)))
    · refine v_ic_gt_f (t := 14) c_80_7 rfl ⟨ha1.1, (Int.not_lt.mp h_29), by first | exact rgm_h h_24.2 (by decide) | omega⟩ (q_iconst c_80_10 (q_goto (t := 15) c_80_11 rfl (v_zret c_80_15 rfl (by decide) (bk_inl (v_cv c_96_15 km_7_333 rfl rfl (nb_ rfl) ⟨⟨rfl, rfl⟩, nb_ rfl, rfl⟩ (nb_ rfl) (nb_ rfl) (q_iload_n c_91_0 rfl (v_if_ne_t (t := 25) c_91_1 rfl (by decide) ?_)))))))
      refine q_vret rfl rfl (bk_inl (q_vret rfl rfl (bk_inl (q_iconst c_115_5 (q_istore_n c_115_6 (nb_ rfl) (q_iconst c_115_7 (q_istore_n c_115_8 (nb_ rfl) ?_)))))))
      refine Wp_ls [(0, .ref 0), (1, vi a1), (2, vi 0), (3, vi 0)] (lsub_cons rfl (lsub_cons rfl (lsub_cons rfl (lsub_cons rfl lsub_nil)))) ?_
      exact (s_115_l (sc := sc) (d := d) hI ha1 T100 K 16) c 0 0 hI (fun a j hm => rfl) ⟨by decide, by decide⟩ ⟨by decide, by decide⟩ ⟨by first | exact q_720657ba9 h_25 | omega, by first | exact q_1b5e4f74b h_24 h_29 | omega⟩ (by omega)

set_option maxRecDepth 100000 in
set_option maxHeartbeats 4000000 in
theorem s_116_l {sc : List Int32} {e : Int} {d u P Q : Nat} {c : ME} {a1 : Int} {a2 : Int} {Z : AR → Prop} (hI : Iv u e P Q c) (ha1 : (-2147483648) ≤ a1 ∧ a1 ≤ 2147483647) (ha2 : (-2147483648) ≤ a2 ∧ a2 ≤ 2147483647) (T100 : ∀ c2 : ME, Iv u e P Q c2 → (∀ (a : Nat) (j : Int), ¬ ((a = 0 ∧ j = 12) ∨ (a = 0 ∧ j = 13)) → c2 a j = c a j) → Z (.inr 100, Wd P Q P P c2, 1, 6)) (T101 : ∀ c2 : ME, Iv u e P Q c2 → (∀ (a : Nat) (j : Int), ¬ ((a = 0 ∧ j = 12) ∨ (a = 0 ∧ j = 13)) → c2 a j = c a j) → Z (.inr 101, Wd P Q P P c2, 1, 6)) (K : ∀ (c2 : ME) (y : Int), Iv u e P Q c2 → (∀ (a : Nat) (j : Int), ¬ ((a = 0 ∧ j = 12) ∨ (a = 0 ∧ j = 13)) → c2 a j = c a j) → (-2147483648) ≤ y ∧ y ≤ 2147483647 → Z (.inl (some (vi y)), Wd P Q P P c2, 0, 0)) : ∀ n : Nat, (∀ (c2 : ME) (v3 : Int) (v4 : Int), Iv u e P Q c2 → (∀ (a : Nat) (j : Int), ¬ ((a = 0 ∧ j = 12) ∨ (a = 0 ∧ j = 13)) → c2 a j = c a j) → (-2147483648) ≤ v3 ∧ v3 ≤ 2147483647 → 0 ≤ v4 ∧ v4 ≤ 6 → ((a1 ≥ 0 ∧ a1 ≤ 3)) → 13 - 2 * v4 < (n : Int) → Wp sc (d + 11) 116 20 [(0, .ref 0), (1, vi a1), (2, vi a2), (3, vi v3), (4, vi v4)] [] (Wd P Q P P c2) 0 0 Z) := by
  intro n
  induction n with
  | zero => exact (by intro c2 v3 v4 hI2 hF hv3 hv4 hx0 hm9; have hP := iv_P hI; have hQ := iv_Q hI; exfalso; omega)
  | succ n ih =>
    have hP := iv_P hI
    have hQ := iv_Q hI
    intro c2 v3 v4 hI2 hF hv3 hv4 hx0 hm9
    refine q_iload c_116_20 rfl (q_aload_n c_116_22 rfl (v_gr (t := P) c_116_23 kf_7_50 rfl (nb_ rfl) rfl ?_))
    have h_1 := ir_p0_0 hI hP
    have kn_2 : Hid (c2 P 0 = c P 0) := hF P 0 (qn_7ba88e57e hP)
    refine v_gi (z := 0) (v := c P 0) c_116_26 kf_7_102 (ck_p0 hP) (a68z hP) rfl rfl (hid kn_2) ?_
    by_cases h_3 : v4 ≥ c P 0
    · refine v_ic_ge_t (t := 51) c_116_29 rfl ⟨by first | exact q_730ab5169 h_1 | omega, h_3, (Int.le_trans hv4.2 (by decide))⟩ (q_iload_n c_116_51 rfl ?_)
      by_cases h_4 : a2 ≠ 0
      · refine v_if_ne_t (t := 59) c_116_52 rfl ⟨h_4, ⟨ha2.1, ha2.2⟩, by decide, by decide⟩ (q_aload_n c_116_59 rfl (v_gr (t := 37) c_116_60 kf_7_62 rfl (nb_ rfl) rfl (v_cv c_116_63 km_7_177 rfl rfl (nb_ rfl) ⟨⟨rfl, rfl⟩, nb_ rfl, rfl⟩ (nb_ rfl) (nb_ rfl) (s_69 hI2 (.inl ⟨rfl, rfl⟩) (fun y_5 hy_5 => (bk_inl (q_iload_n c_116_66 rfl (v_isub (v := y_5 - v3) c_116_67 rfl (v_nrm (fun y_6 hy_6 => ?_))))))))))
        refine q_iret c_116_68 rfl ?_
        exact K c2 y_6 hI2 (fun a j hm => hF a j hm) hy_6
      · refine v_if_ne_f (t := 59) c_116_52 rfl (Decidable.not_not.mp h_4) (q_iload_n c_116_55 rfl (q_goto (t := 68) c_116_56 rfl (q_iret c_116_68 rfl ?_)))
        exact K c2 v3 hI2 (fun a j hm => hF a j hm) hv3
    · refine v_ic_ge_f (t := 51) c_116_29 rfl ⟨(Int.le_trans (by decide) hv4.1), (Int.not_le.mp h_3), by first | exact q_b289b7db2 h_1 | omega⟩ (q_iload_n c_116_32 rfl (q_aload_n c_116_33 rfl (v_gr (t := 37) c_116_34 kf_7_62 rfl (nb_ rfl) rfl (q_iload_n c_116_37 rfl (q_iload c_116_38 rfl ?_)))))
      have h_7 := ir_p3 hI hP a1
      have kn_8 : Hid (c2 (P + 3) a1 = c (P + 3) a1) := hF (P + 3) a1 (qn_6e8027b9d hP)
      have h_9 := ir_38 hI 30
      have kn_10 : Hid (c2 38 30 = c 38 30) := hF 38 30 (fun q => q.elim (fun h => absurd h.1 (nn rfl)) (fun h => absurd h.1 (nn rfl)))
      have h_11 := ir_38_g hI (j := 4 * v4) (by first | exact q_aa51b186e h_1 h_3 | omega)
      have kn_12 : Hid (c2 38 (4 * v4) = c 38 (4 * v4)) := hF 38 (4 * v4) (fun q => q.elim (fun h => absurd h.1 (nn rfl)) (fun h => absurd h.1 (nn rfl)))
      have h_13 := ir_38_g hI (j := 4 * v4 + 1) (by first | exact q_57851f9de h_1 h_3 | omega)
      have kn_14 : Hid (c2 38 (4 * v4 + 1) = c 38 (4 * v4 + 1)) := hF 38 (4 * v4 + 1) (fun q => q.elim (fun h => absurd h.1 (nn rfl)) (fun h => absurd h.1 (nn rfl)))
      have h_15 := ir_38_g hI (j := 4 * v4 + 2) (by first | exact q_7296e74e6 h_1 h_3 | omega)
      have kn_16 : Hid (c2 38 (4 * v4 + 2) = c 38 (4 * v4 + 2)) := hF 38 (4 * v4 + 2) (fun q => q.elim (fun h => absurd h.1 (nn rfl)) (fun h => absurd h.1 (nn rfl)))
      have h_17 := ir_38_g hI (j := 4 * v4 + 3) (by first | exact q_b15525c4c h_1 h_3 | omega)
      have kn_18 : Hid (c2 38 (4 * v4 + 3) = c 38 (4 * v4 + 3)) := hF 38 (4 * v4 + 3) (fun q => q.elim (fun h => absurd h.1 (nn rfl)) (fun h => absurd h.1 (nn rfl)))
      have h_19 := fal_rng (m := c (P + 3) a1) (t := tb (c 38 30) a1) (g := 0) (x := c 38 (4 * v4)) (by first | exact q_c6ed8760d h_11 | omega)
      have h_20 := fal_rng (m := c (P + 3) a1) (t := tb (c 38 30) a1) (g := 1) (x := c 38 (4 * v4 + 1)) (by first | exact q_c6ed8760d h_13 | omega)
      have h_21 := fal_rng (m := c (P + 3) a1) (t := tb (c 38 30) a1) (g := 2) (x := c 38 (4 * v4 + 2)) (by first | exact q_c6ed8760d h_15 | omega)
      have h_22 := fal_rng (m := c (P + 3) a1) (t := tb (c 38 30) a1) (g := 3) (x := c 38 (4 * v4 + 3)) (by first | exact q_c6ed8760d h_17 | omega)
      refine v_cv c_116_40 km_7_246 rfl rfl (nb_ rfl) ⟨⟨rfl, rfl⟩, nb_ rfl, rfl⟩ (nb_ rfl) (nb_ rfl) (s_49 (v1 := c (P + 3) a1) (v2 := c 38 30) (v3 := c 38 (4 * v4)) (v4 := c 38 (4 * v4 + 1)) (v5 := c 38 (4 * v4 + 2)) (v6 := c 38 (4 * v4 + 3)) (r := (fal (c (P + 3) a1) (tb (c 38 30) a1) 0 (c 38 (4 * v4))) + (fal (c (P + 3) a1) (tb (c 38 30) a1) 1 (c 38 (4 * v4 + 1))) + (fal (c (P + 3) a1) (tb (c 38 30) a1) 2 (c 38 (4 * v4 + 2))) + (fal (c (P + 3) a1) (tb (c 38 30) a1) 3 (c 38 (4 * v4 + 3)))) (a1 := a1) (a2 := v4) hI2 (.inl ⟨rfl, rfl⟩) (show 0 ≤ a1 ∧ a1 ≤ 3 from ⟨by omega, by omega⟩) (show 0 ≤ v4 ∧ v4 ≤ 5 from ⟨hv4.1, by first | exact q_d63a8538e h_1 h_3 | omega⟩) ((hid kn_8)) ((hid kn_10)) ((hid kn_12)) ((hid kn_14)) ((hid kn_16)) ((hid kn_18)) rfl (bk_inl (v_iadd (v := (fal (c (P + 3) a1) (tb (c 38 30) a1) 0 (c 38 (4 * v4))) + (fal (c (P + 3) a1) (tb (c 38 30) a1) 1 (c 38 (4 * v4 + 1))) + (fal (c (P + 3) a1) (tb (c 38 30) a1) 2 (c 38 (4 * v4 + 2))) + (fal (c (P + 3) a1) (tb (c 38 30) a1) 3 (c 38 (4 * v4 + 3))) + v3) rfl (by first | exact q_8299135d3 | omega) (v_nrm (fun y_23 hy_23 => (q_istore_n c_116_44 (nb_ rfl) (v_iinc (v := v4 + 1) c_116_45 rfl (nb_ rfl) rfl (q_goto (t := 20) c_116_48 rfl (Wp_ls [(0, .ref 0), (1, vi a1), (2, vi a2), (3, vi y_23), (4, vi (v4 + 1))] (lsub_cons rfl (lsub_cons rfl (lsub_cons rfl (lsub_cons rfl (lsub_cons rfl lsub_nil))))) ?_)))))))))
      exact ih c2 y_23 (v4 + 1) hI2 (fun a j hm => hF a j hm) hy_23 ⟨by first | exact rgp_l hv4.1 (by decide) | omega, by first | exact q_4a76cd9c7 h_1 h_3 | omega⟩ ⟨by first | (clear ha1 ha2 hv3 hv4 h_1 h_3 h_7 h_9 h_11 h_13 h_15 h_17 h_19 h_20 h_21 h_22; omega) | omega, by first | (clear ha1 ha2 hv3 hv4 h_1 h_3 h_7 h_9 h_11 h_13 h_15 h_17 h_19 h_20 h_21 h_22; omega) | omega⟩ (by omega)
set_option maxRecDepth 100000 in
set_option maxHeartbeats 4000000 in
theorem s_116 {sc : List Int32} {e : Int} {d u P Q : Nat} {c : ME} {a1 : Int} {a2 : Int} {Z : AR → Prop} (hI : Iv u e P Q c) (ha1 : (-2147483648) ≤ a1 ∧ a1 ≤ 2147483647) (ha2 : (-2147483648) ≤ a2 ∧ a2 ≤ 2147483647) (T100 : ∀ c2 : ME, Iv u e P Q c2 → (∀ (a : Nat) (j : Int), ¬ ((a = 0 ∧ j = 12) ∨ (a = 0 ∧ j = 13)) → c2 a j = c a j) → Z (.inr 100, Wd P Q P P c2, 1, 6)) (T101 : ∀ c2 : ME, Iv u e P Q c2 → (∀ (a : Nat) (j : Int), ¬ ((a = 0 ∧ j = 12) ∨ (a = 0 ∧ j = 13)) → c2 a j = c a j) → Z (.inr 101, Wd P Q P P c2, 1, 6)) (K : ∀ (c2 : ME) (y : Int), Iv u e P Q c2 → (∀ (a : Nat) (j : Int), ¬ ((a = 0 ∧ j = 12) ∨ (a = 0 ∧ j = 13)) → c2 a j = c a j) → (-2147483648) ≤ y ∧ y ≤ 2147483647 → Z (.inl (some (vi y)), Wd P Q P P c2, 0, 0)) : Wp sc (d + 11) 116 0 [(0, .ref 0), (1, vi a1), (2, vi a2)] [] (Wd P Q P P c) 0 0 Z := by
  have hP := iv_P hI
  have hQ := iv_Q hI
  refine q_aload_n c_116_0 rfl (q_iload_n c_116_1 rfl (v_cv c_116_2 km_7_206 rfl rfl (nb_ rfl) ⟨⟨rfl, rfl⟩, nb_ rfl, rfl⟩ (nb_ rfl) (nb_ rfl) (q_aload_n c_96_0 rfl (q_iload_n c_96_1 rfl (q_iconst c_96_2 (q_aload_n c_96_3 rfl (v_gr (t := P) c_96_4 kf_7_50 rfl (nb_ rfl) rfl ?_)))))))
  have h_24 := ir_p0_2 hI hP
  refine v_gi (z := 2) (v := c P 2) c_96_7 kf_7_168 (ck_p0 hP) (a68z hP) rfl rfl rfl (q_iconst c_96_10 (v_isub (v := c P 2 - 1) c_96_11 rfl (q_call c_96_12 rfl rfl rfl (q_iload_n c_80_0 rfl (q_iload_n c_80_1 rfl ?_)))))
  by_cases h_25 : a1 < 0
  · refine v_ic_lt_t (t := 14) c_80_2 rfl ⟨ha1.1, h_25, by decide⟩ (q_iconst c_80_14 (v_zret c_80_15 rfl (by decide) (bk_inl (v_cv c_96_15 km_7_333 rfl rfl (nb_ rfl) ⟨⟨rfl, rfl⟩, nb_ rfl, rfl⟩ (nb_ rfl) (nb_ rfl) (q_iload_n c_91_0 rfl (v_if_ne_f (t := 25) c_91_1 rfl (by decide) (q_aload_n c_91_4 rfl ?_)))))))
    refine q_dup c_91_5 rfl ?_
    have h_26 := ir_0_12 hI
    refine v_gi (z := 12) (v := c 0 12) c_91_6 kf_7_327 rfl (nb_ rfl) rfl rfl rfl (q_iconst c_91_9 (v_iadd (v := c 0 12 + 1) c_91_10 rfl (v_nrm (fun y_27 hy_27 => (v_pi (z := 12) c_91_11 kf_7_327 rfl (nb_ rfl) rfl rfl rfl (by decide) (v_new c_91_14 rfl (by decide) (ld_ rfl) (nb_ rfl) (by decide) rfl (bk_out rfl rfl (bk_out rfl rfl ?_))))))))
    have hI_28 := iw_0_12 (v := y_27) hI ⟨hy_27.1, hy_27.2⟩
    exact T100 _ hI_28 (fun a j hm => up_b (Decidable.or_iff_not_imp_left.mpr (fun h1 h2 => hm (Or.inl ⟨Decidable.not_not.mp h1, h2⟩))))
  · refine v_ic_lt_f (t := 14) c_80_2 rfl ⟨by decide, (Int.not_lt.mp h_25), ha1.2⟩ (q_iload_n c_80_5 rfl (q_iload_n c_80_6 rfl ?_))
    by_cases h_29 : a1 > c P 2 - 1
    · refine v_ic_gt_t (t := 14) c_80_7 rfl ⟨by first | exact rgm_l h_24.1 (by decide) | omega, h_29, ha1.2⟩ (q_iconst c_80_14 (v_zret c_80_15 rfl (by decide) (bk_inl (v_cv c_96_15 km_7_333 rfl rfl (nb_ rfl) ⟨⟨rfl, rfl⟩, nb_ rfl, rfl⟩ (nb_ rfl) (nb_ rfl) (q_iload_n c_91_0 rfl (v_if_ne_f (t := 25) c_91_1 rfl (by decide) (q_aload_n c_91_4 rfl ?_)))))))
      refine q_dup c_91_5 rfl ?_
      have h_30 := ir_0_12 hI
      refine v_gi (z := 12) (v := c 0 12) c_91_6 kf_7_327 rfl (nb_ rfl) rfl rfl rfl (q_iconst c_91_9 (v_iadd (v := c 0 12 + 1) c_91_10 rfl (v_nrm (fun y_31 hy_31 => (v_pi (z := 12) c_91_11 kf_7_327 rfl (nb_ rfl) rfl rfl rfl (by decide) (v_new c_91_14 rfl (by decide) (ld_ rfl) (nb_ rfl) (by decide) rfl (bk_out rfl rfl (bk_out rfl rfl ?_))))))))
      have hI_32 := iw_0_12 (v := y_31) hI ⟨hy_31.1, hy_31.2⟩
      exact T100 _ hI_32 (fun a j hm => up_b (Decidable.or_iff_not_imp_left.mpr (fun h1 h2 => hm (Or.inl ⟨Decidable.not_not.mp h1, h2⟩))))
    · refine v_ic_gt_f (t := 14) c_80_7 rfl ⟨ha1.1, (Int.not_lt.mp h_29), by first | exact rgm_h h_24.2 (by decide) | omega⟩ (q_iconst c_80_10 (q_goto (t := 15) c_80_11 rfl (v_zret c_80_15 rfl (by decide) (bk_inl (v_cv c_96_15 km_7_333 rfl rfl (nb_ rfl) ⟨⟨rfl, rfl⟩, nb_ rfl, rfl⟩ (nb_ rfl) (nb_ rfl) (q_iload_n c_91_0 rfl (v_if_ne_t (t := 25) c_91_1 rfl (by decide) ?_)))))))
      refine q_vret rfl rfl (bk_inl (q_vret rfl rfl (bk_inl (q_aload_n c_116_5 rfl (q_iload_n c_116_6 rfl (q_iconst c_116_7 (q_iconst c_116_8 ?_)))))))
      refine q_call c_116_9 rfl rfl rfl (q_iload_n c_80_0 rfl (q_iload_n c_80_1 rfl ?_))
      by_cases h_33 : a2 < 0
      · refine v_ic_lt_t (t := 14) c_80_2 rfl ⟨ha2.1, h_33, by decide⟩ (q_iconst c_80_14 (v_zret c_80_15 rfl (by decide) (bk_inl (v_cv c_116_12 km_7_161 rfl rfl (nb_ rfl) ⟨⟨rfl, rfl⟩, nb_ rfl, rfl⟩ (nb_ rfl) (nb_ rfl) (q_iload_n c_81_0 rfl (v_if_ne_f (t := 25) c_81_1 rfl (by decide) (q_aload_n c_81_4 rfl ?_)))))))
        refine q_dup c_81_5 rfl ?_
        have h_34 := ir_0_13 hI
        refine v_gi (z := 13) (v := c 0 13) c_81_6 kf_7_330 rfl (nb_ rfl) rfl rfl rfl (q_iconst c_81_9 (v_iadd (v := c 0 13 + 1) c_81_10 rfl (v_nrm (fun y_35 hy_35 => (v_pi (z := 13) c_81_11 kf_7_330 rfl (nb_ rfl) rfl rfl rfl (by decide) (v_new c_81_14 rfl (by decide) (ld_ rfl) (nb_ rfl) (by decide) rfl (bk_out rfl rfl ?_)))))))
        have hI_36 := iw_0_13 (v := y_35) hI ⟨hy_35.1, hy_35.2⟩
        exact T101 _ hI_36 (fun a j hm => up_b (Decidable.or_iff_not_imp_left.mpr (fun h1 h2 => hm (Or.inr ⟨Decidable.not_not.mp h1, h2⟩))))
      · refine v_ic_lt_f (t := 14) c_80_2 rfl ⟨by decide, (Int.not_lt.mp h_33), ha2.2⟩ (q_iload_n c_80_5 rfl (q_iload_n c_80_6 rfl ?_))
        by_cases h_37 : a2 > 1
        · refine v_ic_gt_t (t := 14) c_80_7 rfl ⟨by decide, h_37, ha2.2⟩ (q_iconst c_80_14 (v_zret c_80_15 rfl (by decide) (bk_inl (v_cv c_116_12 km_7_161 rfl rfl (nb_ rfl) ⟨⟨rfl, rfl⟩, nb_ rfl, rfl⟩ (nb_ rfl) (nb_ rfl) (q_iload_n c_81_0 rfl (v_if_ne_f (t := 25) c_81_1 rfl (by decide) (q_aload_n c_81_4 rfl ?_)))))))
          refine q_dup c_81_5 rfl ?_
          have h_38 := ir_0_13 hI
          refine v_gi (z := 13) (v := c 0 13) c_81_6 kf_7_330 rfl (nb_ rfl) rfl rfl rfl (q_iconst c_81_9 (v_iadd (v := c 0 13 + 1) c_81_10 rfl (v_nrm (fun y_39 hy_39 => (v_pi (z := 13) c_81_11 kf_7_330 rfl (nb_ rfl) rfl rfl rfl (by decide) (v_new c_81_14 rfl (by decide) (ld_ rfl) (nb_ rfl) (by decide) rfl (bk_out rfl rfl ?_)))))))
          have hI_40 := iw_0_13 (v := y_39) hI ⟨hy_39.1, hy_39.2⟩
          exact T101 _ hI_40 (fun a j hm => up_b (Decidable.or_iff_not_imp_left.mpr (fun h1 h2 => hm (Or.inr ⟨Decidable.not_not.mp h1, h2⟩))))
        · refine v_ic_gt_f (t := 14) c_80_7 rfl ⟨ha2.1, (Int.not_lt.mp h_37), by decide⟩ (q_iconst c_80_10 (q_goto (t := 15) c_80_11 rfl (v_zret c_80_15 rfl (by decide) (bk_inl (v_cv c_116_12 km_7_161 rfl rfl (nb_ rfl) ⟨⟨rfl, rfl⟩, nb_ rfl, rfl⟩ (nb_ rfl) (nb_ rfl) (q_iload_n c_81_0 rfl (v_if_ne_t (t := 25) c_81_1 rfl (by decide) ?_)))))))
          refine q_vret rfl rfl (bk_inl (q_iconst c_116_15 (q_istore_n c_116_16 (nb_ rfl) (q_iconst c_116_17 (q_istore c_116_18 (nb_ rfl) (Wp_ls [(0, .ref 0), (1, vi a1), (2, vi a2), (3, vi 0), (4, vi 0)] (lsub_cons rfl (lsub_cons rfl (lsub_cons rfl (lsub_cons rfl (lsub_cons rfl lsub_nil))))) ?_))))))
          exact (s_116_l (sc := sc) (d := d) hI ha1 ha2 T100 T101 K 16) c 0 0 hI (fun a j hm => rfl) ⟨by decide, by decide⟩ ⟨by decide, by decide⟩ ⟨by first | exact q_720657ba9 h_25 | omega, by first | exact q_1b5e4f74b h_24 h_29 | omega⟩ (by omega)

set_option maxRecDepth 100000 in
set_option maxHeartbeats 4000000 in
theorem s_117 {sc : List Int32} {e : Int} {d u P Q : Nat} {c : ME} {a1 : Int} {Z : AR → Prop} (hI : Iv u e P Q c) (ha1 : (-2147483648) ≤ a1 ∧ a1 ≤ 2147483647) (K : ∀ (y : Int), 0 ≤ y ∧ y ≤ 1 → ((y = 0) ∨ (a1 ≥ 0 ∧ a1 ≤ 63)) → Z (.inl (some (vi y)), Wd P Q P P c, 0, 0)) : Wp sc (d + 8) 117 0 [(0, .ref 0), (1, vi a1)] [] (Wd P Q P P c) 0 0 Z := by
  have hP := iv_P hI
  have hQ := iv_Q hI
  refine q_iload_n c_117_0 rfl (q_iconst c_117_1 (q_iconst c_117_2 (q_aload_n c_117_3 rfl (v_gr (t := P) c_117_4 kf_7_50 rfl (nb_ rfl) rfl ?_))))
  have h_1 := ir_p0_0 hI hP
  refine v_gi (z := 0) (v := c P 0) c_117_7 kf_7_102 (ck_p0 hP) (a68z hP) rfl rfl rfl (v_shl1 c_117_10 ⟨by omega, by omega⟩ (fun y_2 hy_2 => (q_iconst c_117_11 (v_isub (v := y_2 - 1) c_117_12 rfl (q_call c_117_13 rfl rfl rfl (q_iload_n c_80_0 rfl (q_iload_n c_80_1 rfl ?_)))))))
  by_cases h_3 : a1 < 0
  · refine v_ic_lt_t (t := 14) c_80_2 rfl ⟨ha1.1, h_3, by decide⟩ (q_iconst c_80_14 (v_zret c_80_15 rfl (by decide) (bk_inl (v_zret c_117_16 rfl (by decide) ?_))))
    exact K 0 ⟨by decide, by decide⟩ (Or.inl (by first | assumption | omega))
  · refine v_ic_lt_f (t := 14) c_80_2 rfl ⟨by decide, (Int.not_lt.mp h_3), ha1.2⟩ (q_iload_n c_80_5 rfl (q_iload_n c_80_6 rfl ?_))
    by_cases h_4 : a1 > y_2 - 1
    · refine v_ic_gt_t (t := 14) c_80_7 rfl ⟨by first | exact rgm_l hy_2.1 (by decide) | omega, h_4, ha1.2⟩ (q_iconst c_80_14 (v_zret c_80_15 rfl (by decide) (bk_inl (v_zret c_117_16 rfl (by decide) ?_))))
      exact K 0 ⟨by decide, by decide⟩ (Or.inl (by first | assumption | omega))
    · refine v_ic_gt_f (t := 14) c_80_7 rfl ⟨ha1.1, (Int.not_lt.mp h_4), by first | exact rgm_h hy_2.2 (by decide) | omega⟩ (q_iconst c_80_10 (q_goto (t := 15) c_80_11 rfl (v_zret c_80_15 rfl (by decide) (bk_inl (v_zret c_117_16 rfl (by decide) ?_)))))
      exact K 1 ⟨by decide, by decide⟩ (Or.inr ⟨by first | exact q_720657ba9 h_3 | omega, by omega⟩)

set_option maxRecDepth 100000 in
set_option maxHeartbeats 4000000 in
theorem s_118_l {sc : List Int32} {e : Int} {d u P Q : Nat} {c : ME} {a1 : Int} {Z : AR → Prop} (hI : Iv u e P Q c) (ha1 : (-2147483648) ≤ a1 ∧ a1 ≤ 2147483647) (K : ∀ (y : Int), (-2147483648) ≤ y ∧ y ≤ 2147483647 → Z (.inl (some (vi y)), Wd P Q P P c, 0, 0)) : ∀ n : Nat, (∀ (v2 : Int) (v3 : Int), (-2147483648) ≤ v2 ∧ v2 ≤ 2147483647 → 0 ≤ v3 ∧ v3 ≤ 6 → 13 - 2 * v3 < (n : Int) → Wp sc (d + 8) 118 4 [(0, .ref 0), (1, vi a1), (2, vi v2), (3, vi v3)] [] (Wd P Q P P c) 0 0 Z) := by
  intro n
  induction n with
  | zero => exact (by intro v2 v3 hv2 hv3 hm9; have hP := iv_P hI; have hQ := iv_Q hI; exfalso; omega)
  | succ n ih =>
    have hP := iv_P hI
    have hQ := iv_Q hI
    intro v2 v3 hv2 hv3 hm9
    refine q_iload_n c_118_4 rfl (q_aload_n c_118_5 rfl (v_gr (t := P) c_118_6 kf_7_50 rfl (nb_ rfl) rfl ?_))
    have h_1 := ir_p0_0 hI hP
    refine v_gi (z := 0) (v := c P 0) c_118_9 kf_7_102 (ck_p0 hP) (a68z hP) rfl rfl rfl ?_
    by_cases h_2 : v3 ≥ c P 0
    · refine v_ic_ge_t (t := 41) c_118_12 rfl ⟨(Int.le_trans (by decide) h_1.1), h_2, (Int.le_trans hv3.2 (by decide))⟩ (q_iload_n c_118_41 rfl (q_iret c_118_42 rfl ?_))
      exact K v2 hv2
    · refine v_ic_ge_f (t := 41) c_118_12 rfl ⟨(Int.le_trans (by decide) hv3.1), (Int.not_le.mp h_2), (Int.le_trans h_1.2 (by decide))⟩ (q_iload_n c_118_15 rfl (q_iload_n c_118_16 rfl (v_ishrx c_118_17 (fun y_3 hy_3 => (q_iconst c_118_18 (v_iandx c_118_19 (fun y_4 hy_4 => (q_iconst c_118_20 ?_))))))))
      by_cases h_5 : y_4 ≠ 1
      · refine v_ic_ne_t (t := 35) c_118_21 rfl ⟨h_5, ⟨hy_4.1, hy_4.2⟩, by decide, by decide⟩ (v_iinc (v := v3 + 1) c_118_35 rfl (nb_ rfl) rfl (q_goto (t := 4) c_118_38 rfl (Wp_ls [(0, .ref 0), (1, vi a1), (2, vi v2), (3, vi (v3 + 1))] (lsub_cons rfl (lsub_cons rfl (lsub_cons rfl (lsub_cons rfl lsub_nil)))) ?_)))
        exact ih v2 (v3 + 1) hv2 ⟨by first | exact rgp_l hv3.1 (by decide) | omega, by first | exact q_4a76cd9c7 h_1 h_2 | omega⟩ (by omega)
      · refine v_ic_ne_f (t := 35) c_118_21 rfl (Decidable.not_not.mp h_5) (q_iload_n c_118_24 rfl (q_aload_n c_118_25 rfl (v_gr (t := 37) c_118_26 kf_7_62 rfl (nb_ rfl) rfl (q_iload_n c_118_29 rfl ?_))))
        have h_6 := ir_38_g hI (j := 4 * v3) (by first | exact q_aa51b186e h_1 h_2 | omega)
        have h_7 := ir_38_g hI (j := 4 * v3 + 1) (by first | exact q_57851f9de h_1 h_2 | omega)
        have h_8 := ir_38_g hI (j := 4 * v3 + 2) (by first | exact q_7296e74e6 h_1 h_2 | omega)
        have h_9 := ir_38_g hI (j := 4 * v3 + 3) (by first | exact q_b15525c4c h_1 h_2 | omega)
        refine v_cv c_118_30 km_7_187 rfl rfl (nb_ rfl) ⟨⟨rfl, rfl⟩, nb_ rfl, rfl⟩ (nb_ rfl) (nb_ rfl) (s_43 (v1 := c 38 (4 * v3)) (v2 := c 38 (4 * v3 + 1)) (v3 := c 38 (4 * v3 + 2)) (v4 := c 38 (4 * v3 + 3)) (r := c 38 (4 * v3 + 1) + c 38 (4 * v3 + 2) + c 38 (4 * v3 + 3) + c 38 (4 * v3)) (a1 := v3) hI (.inl ⟨rfl, rfl⟩) (show 0 ≤ v3 ∧ v3 ≤ 5 from ⟨hv3.1, by first | exact q_d63a8538e h_1 h_2 | omega⟩) (rfl) (rfl) (rfl) (rfl) (by omega) (bk_inl (v_iadd (v := c 38 (4 * v3 + 1) + c 38 (4 * v3 + 2) + c 38 (4 * v3 + 3) + c 38 (4 * v3) + v2) c_118_33 (by first | exact q_8299135d3 | omega) (v_nrm (fun y_10 hy_10 => (q_istore_n c_118_34 (nb_ rfl) (v_iinc (v := v3 + 1) c_118_35 rfl (nb_ rfl) rfl (q_goto (t := 4) c_118_38 rfl (Wp_ls [(0, .ref 0), (1, vi a1), (2, vi y_10), (3, vi (v3 + 1))] (lsub_cons rfl (lsub_cons rfl (lsub_cons rfl (lsub_cons rfl lsub_nil)))) ?_)))))))))
        exact ih y_10 (v3 + 1) hy_10 ⟨by first | exact rgp_l hv3.1 (by decide) | omega, by first | exact q_4a76cd9c7 h_1 h_2 | omega⟩ (by omega)
set_option maxRecDepth 100000 in
set_option maxHeartbeats 4000000 in
theorem s_118 {sc : List Int32} {e : Int} {d u P Q : Nat} {c : ME} {a1 : Int} {Z : AR → Prop} (hI : Iv u e P Q c) (ha1 : (-2147483648) ≤ a1 ∧ a1 ≤ 2147483647) (K : ∀ (y : Int), (-2147483648) ≤ y ∧ y ≤ 2147483647 → Z (.inl (some (vi y)), Wd P Q P P c, 0, 0)) : Wp sc (d + 8) 118 0 [(0, .ref 0), (1, vi a1)] [] (Wd P Q P P c) 0 0 Z := by
  have hP := iv_P hI
  have hQ := iv_Q hI
  refine q_iconst c_118_0 (q_istore_n c_118_1 (nb_ rfl) (q_iconst c_118_2 (q_istore_n c_118_3 (nb_ rfl) (Wp_ls [(0, .ref 0), (1, vi a1), (2, vi 0), (3, vi 0)] (lsub_cons rfl (lsub_cons rfl (lsub_cons rfl (lsub_cons rfl lsub_nil)))) ?_))))
  exact (s_118_l (sc := sc) (d := d) hI ha1 K 16) 0 0 ⟨by decide, by decide⟩ ⟨by decide, by decide⟩ (by omega)

set_option maxRecDepth 100000 in
set_option maxHeartbeats 4000000 in
theorem s_119_l {sc : List Int32} {e : Int} {d u P Q : Nat} {c : ME} {a1 : Int} {a2 : Int} {Z : AR → Prop} (hI : Iv u e P Q c) (ha1 : (-2147483648) ≤ a1 ∧ a1 ≤ 2147483647) (ha2 : (-2147483648) ≤ a2 ∧ a2 ≤ 2147483647) (T101 : ∀ c2 : ME, Iv u e P Q c2 → (∀ (a : Nat) (j : Int), ¬ ((a = 0 ∧ j = 13)) → c2 a j = c a j) → Z (.inr 101, Wd P Q P P c2, 1, 6)) (K : ∀ (c2 : ME) (y : Int), Iv u e P Q c2 → (∀ (a : Nat) (j : Int), ¬ ((a = 0 ∧ j = 13)) → c2 a j = c a j) → (-2147483648) ≤ y ∧ y ≤ 2147483647 → Z (.inl (some (vi y)), Wd P Q P P c2, 0, 0)) : ∀ n : Nat, (∀ (c2 : ME) (v3 : Int) (v4 : Int) (v5 : Int) (v6 : Int) (v7 : Int), Iv u e P Q c2 → (∀ (a : Nat) (j : Int), ¬ ((a = 0 ∧ j = 13)) → c2 a j = c a j) → (-2147483648) ≤ v3 ∧ v3 ≤ 2147483647 → (-2147483648) ≤ v4 ∧ v4 ≤ 2147483647 → (-2147483648) ≤ v5 ∧ v5 ≤ 2147483647 → (-2147483648) ≤ v6 ∧ v6 ≤ 2147483647 → 0 ≤ v7 ∧ v7 ≤ 64 → ((a1 ≥ 0 ∧ a1 ≤ 63)) → 129 - 2 * v7 < (n : Int) → Wp sc (d + 9) 119 48 [(0, .ref 0), (1, vi a1), (2, vi a2), (3, vi v3), (4, vi v4), (5, vi v5), (6, vi v6), (7, vi v7)] [] (Wd P Q P P c2) 0 0 Z) := by
  intro n
  induction n with
  | zero => exact (by intro c2 v3 v4 v5 v6 v7 hI2 hF hv3 hv4 hv5 hv6 hv7 hx0 hm9; have hP := iv_P hI; have hQ := iv_Q hI; exfalso; omega)
  | succ n ih =>
    have hP := iv_P hI
    have hQ := iv_Q hI
    intro c2 v3 v4 v5 v6 v7 hI2 hF hv3 hv4 hv5 hv6 hv7 hx0 hm9
    refine q_iload c_119_48 rfl (q_iload_n c_119_50 rfl ?_)
    by_cases h_1 : v7 > a1
    · refine v_ic_gt_t (t := 122) c_119_51 rfl ⟨ha1.1, h_1, (Int.le_trans hv7.2 (by decide))⟩ (q_iload_n c_119_122 rfl ?_)
      by_cases h_2 : a2 ≠ 0
      · refine v_if_ne_t (t := 131) c_119_123 rfl ⟨h_2, ⟨ha2.1, ha2.2⟩, by decide, by decide⟩ (q_iload c_119_131 rfl (q_iret c_119_133 rfl ?_))
        exact K c2 v6 hI2 (fun a j hm => hF a j hm) hv6
      · refine v_if_ne_f (t := 131) c_119_123 rfl (Decidable.not_not.mp h_2) (q_iload c_119_126 rfl (q_goto (t := 133) c_119_128 rfl (q_iret c_119_133 rfl ?_)))
        exact K c2 v5 hI2 (fun a j hm => hF a j hm) hv5
    · refine v_ic_gt_f (t := 122) c_119_51 rfl ⟨(Int.le_trans (by decide) hv7.1), (Int.not_lt.mp h_1), ha1.2⟩ (q_iload c_119_54 rfl (q_iload_n c_119_56 rfl (q_iconst c_119_57 (v_ixorx c_119_58 (fun y_3 hy_3 => (v_iandl c_119_59 ⟨by omega, by omega⟩ (fun y_4 hy_4 => ?_)))))))
      by_cases h_5 : y_4 ≠ 0
      · refine v_if_ne_t (t := 116) c_119_60 rfl ⟨h_5, ⟨by omega, by omega⟩, by decide, by decide⟩ (v_iinc (v := v7 + 1) c_119_116 rfl (nb_ rfl) rfl (q_goto (t := 48) c_119_119 rfl (Wp_ls [(0, .ref 0), (1, vi a1), (2, vi a2), (3, vi v3), (4, vi v4), (5, vi v5), (6, vi v6), (7, vi (v7 + 1))] (lsub_cons rfl (lsub_cons rfl (lsub_cons rfl (lsub_cons rfl (lsub_cons rfl (lsub_cons rfl (lsub_cons rfl (lsub_cons rfl lsub_nil)))))))) ?_)))
        exact ih c2 v3 v4 v5 v6 (v7 + 1) hI2 (fun a j hm => hF a j hm) hv3 hv4 hv5 hv6 ⟨by first | exact rgp_l hv7.1 (by decide) | omega, by first | (clear ha1 ha2 hv3 hv4 hv5 hv6 hv7 h_5; omega) | omega⟩ ⟨by first | (clear ha1 ha2 hv3 hv4 hv5 hv6 hv7 h_1 h_5; omega) | omega, by first | (clear ha1 ha2 hv3 hv4 hv5 hv6 hv7 h_1 h_5; omega) | omega⟩ (by omega)
      · refine v_if_ne_f (t := 116) c_119_60 rfl (Decidable.not_not.mp h_5) (q_iload c_119_63 rfl (q_iload_n c_119_65 rfl (v_iandl c_119_66 ⟨by omega, by omega⟩ (fun y_6 hy_6 => (q_iload_n c_119_67 rfl ?_)))))
        by_cases h_7 : y_6 ≠ v3
        · refine v_ic_ne_t (t := 116) c_119_68 rfl ⟨h_7, ⟨by omega, by omega⟩, hv3.1, hv3.2⟩ (v_iinc (v := v7 + 1) c_119_116 rfl (nb_ rfl) rfl (q_goto (t := 48) c_119_119 rfl (Wp_ls [(0, .ref 0), (1, vi a1), (2, vi a2), (3, vi v3), (4, vi v4), (5, vi v5), (6, vi v6), (7, vi (v7 + 1))] (lsub_cons rfl (lsub_cons rfl (lsub_cons rfl (lsub_cons rfl (lsub_cons rfl (lsub_cons rfl (lsub_cons rfl (lsub_cons rfl lsub_nil)))))))) ?_)))
          exact ih c2 v3 v4 v5 v6 (v7 + 1) hI2 (fun a j hm => hF a j hm) hv3 hv4 hv5 hv6 ⟨by first | exact rgp_l hv7.1 (by decide) | omega, by first | (clear ha1 ha2 hv3 hv4 hv5 hv6 hv7 h_5 h_7; omega) | omega⟩ ⟨by first | (clear ha1 ha2 hv3 hv4 hv5 hv6 hv7 h_1 h_5 h_7; omega) | omega, by first | (clear ha1 ha2 hv3 hv4 hv5 hv6 hv7 h_1 h_5 h_7; omega) | omega⟩ (by omega)
        · refine v_ic_ne_f (t := 116) c_119_68 rfl (Decidable.not_not.mp h_7) (q_iload c_119_71 rfl (q_iconst c_119_73 (q_aload_n c_119_74 rfl (q_iload c_119_75 rfl (v_cv c_119_77 km_7_262 rfl rfl (nb_ rfl) ⟨⟨rfl, rfl⟩, nb_ rfl, rfl⟩ (nb_ rfl) (nb_ rfl) (s_118 (a1 := v7) hI2 (show (-2147483648) ≤ v7 ∧ v7 ≤ 2147483647 from ⟨(Int.le_trans (by decide) hv7.1), (Int.le_trans hv7.2 (by decide))⟩) (fun y_8 hy_8 => (bk_inl (v_imul (v := 2 * y_8) c_119_80 rfl ?_)))))))))
          refine v_nrm (fun y_9 hy_9 => (v_isub (v := v4 - y_9) c_119_81 rfl (v_nrm (fun y_10 hy_10 => (v_absx c_119_82 rfl (by omega) (nb_ rfl) (fun y_11 hy_11 => (q_istore c_119_85 (nb_ rfl) (q_iload c_119_87 rfl (q_iload c_119_89 rfl ?_)))))))))
          by_cases h_12 : y_11 < v5
          · refine v_ic_lt_t (t := 108) c_119_91 rfl ⟨hy_11.1, h_12, hv5.2⟩ (q_iload c_119_108 rfl (q_istore c_119_110 (nb_ rfl) (q_iload c_119_112 rfl (q_istore c_119_114 (nb_ rfl) (v_iinc (v := v7 + 1) c_119_116 rfl (nb_ rfl) rfl (q_goto (t := 48) c_119_119 rfl (Wp_ls [(0, .ref 0), (1, vi a1), (2, vi a2), (3, vi v3), (4, vi v4), (5, vi y_11), (6, vi v7), (7, vi (v7 + 1))] (lsub_cons rfl (lsub_cons rfl (lsub_cons rfl (lsub_cons rfl (lsub_cons rfl (lsub_cons rfl (lsub_cons rfl (lsub_cons rfl lsub_nil)))))))) ?_)))))))
            exact ih c2 v3 v4 y_11 v7 (v7 + 1) hI2 (fun a j hm => hF a j hm) hv3 hv4 hy_11 ⟨(Int.le_trans (by decide) hv7.1), (Int.le_trans hv7.2 (by decide))⟩ ⟨by first | exact rgp_l hv7.1 (by decide) | omega, by omega⟩ ⟨by omega, by omega⟩ (by omega)
          · refine v_ic_lt_f (t := 108) c_119_91 rfl ⟨hv5.1, (Int.not_lt.mp h_12), hy_11.2⟩ (q_iload c_119_94 rfl (q_iload c_119_96 rfl ?_))
            by_cases h_13 : y_11 ≠ v5
            · refine v_ic_ne_t (t := 116) c_119_98 rfl ⟨h_13, ⟨hy_11.1, hy_11.2⟩, hv5.1, hv5.2⟩ (v_iinc (v := v7 + 1) c_119_116 rfl (nb_ rfl) rfl (q_goto (t := 48) c_119_119 rfl (Wp_ls [(0, .ref 0), (1, vi a1), (2, vi a2), (3, vi v3), (4, vi v4), (5, vi v5), (6, vi v6), (7, vi (v7 + 1))] (lsub_cons rfl (lsub_cons rfl (lsub_cons rfl (lsub_cons rfl (lsub_cons rfl (lsub_cons rfl (lsub_cons rfl (lsub_cons rfl lsub_nil)))))))) ?_)))
              exact ih c2 v3 v4 v5 v6 (v7 + 1) hI2 (fun a j hm => hF a j hm) hv3 hv4 hv5 hv6 ⟨by first | exact rgp_l hv7.1 (by decide) | omega, by first | (clear ha1 ha2 hv3 hv4 hv5 hv6 hv7 h_5 h_7 h_12 h_13; omega) | omega⟩ ⟨by first | (clear ha1 ha2 hv3 hv4 hv5 hv6 hv7 h_1 h_5 h_7 h_12 h_13; omega) | omega, by first | (clear ha1 ha2 hv3 hv4 hv5 hv6 hv7 h_1 h_5 h_7 h_12 h_13; omega) | omega⟩ (by omega)
            · refine v_ic_ne_f (t := 116) c_119_98 rfl (Decidable.not_not.mp h_13) (q_iload c_119_101 rfl (q_iload c_119_103 rfl ?_))
              by_cases h_14 : v7 ≥ v6
              · refine v_ic_ge_t (t := 116) c_119_105 rfl ⟨hv6.1, h_14, (Int.le_trans hv7.2 (by decide))⟩ (v_iinc (v := v7 + 1) c_119_116 rfl (nb_ rfl) rfl (q_goto (t := 48) c_119_119 rfl (Wp_ls [(0, .ref 0), (1, vi a1), (2, vi a2), (3, vi v3), (4, vi v4), (5, vi v5), (6, vi v6), (7, vi (v7 + 1))] (lsub_cons rfl (lsub_cons rfl (lsub_cons rfl (lsub_cons rfl (lsub_cons rfl (lsub_cons rfl (lsub_cons rfl (lsub_cons rfl lsub_nil)))))))) ?_)))
                exact ih c2 v3 v4 v5 v6 (v7 + 1) hI2 (fun a j hm => hF a j hm) hv3 hv4 hv5 hv6 ⟨by first | exact rgp_l hv7.1 (by decide) | omega, by first | (clear ha1 ha2 hv3 hv4 hv5 hv6 hv7 h_5 h_7 h_12 h_13 h_14; omega) | omega⟩ ⟨by first | (clear ha1 ha2 hv3 hv4 hv5 hv6 hv7 h_1 h_5 h_7 h_12 h_13 h_14; omega) | omega, by first | (clear ha1 ha2 hv3 hv4 hv5 hv6 hv7 h_1 h_5 h_7 h_12 h_13 h_14; omega) | omega⟩ (by omega)
              · refine v_ic_ge_f (t := 116) c_119_105 rfl ⟨(Int.le_trans (by decide) hv7.1), (Int.not_le.mp h_14), hv6.2⟩ (q_iload c_119_108 rfl (q_istore c_119_110 (nb_ rfl) (q_iload c_119_112 rfl (q_istore c_119_114 (nb_ rfl) (v_iinc (v := v7 + 1) c_119_116 rfl (nb_ rfl) rfl (q_goto (t := 48) c_119_119 rfl (Wp_ls [(0, .ref 0), (1, vi a1), (2, vi a2), (3, vi v3), (4, vi v4), (5, vi y_11), (6, vi v7), (7, vi (v7 + 1))] (lsub_cons rfl (lsub_cons rfl (lsub_cons rfl (lsub_cons rfl (lsub_cons rfl (lsub_cons rfl (lsub_cons rfl (lsub_cons rfl lsub_nil)))))))) ?_)))))))
                exact ih c2 v3 v4 y_11 v7 (v7 + 1) hI2 (fun a j hm => hF a j hm) hv3 hv4 hy_11 ⟨(Int.le_trans (by decide) hv7.1), (Int.le_trans hv7.2 (by decide))⟩ ⟨by first | exact rgp_l hv7.1 (by decide) | omega, by first | (clear ha1 ha2 hv3 hv4 hv5 hv6 hv7 h_5 h_7 h_12 h_13 h_14; omega) | omega⟩ ⟨by first | (clear ha1 ha2 hv3 hv4 hv5 hv6 hv7 h_1 h_5 h_7 h_12 h_13 h_14; omega) | omega, by first | (clear ha1 ha2 hv3 hv4 hv5 hv6 hv7 h_1 h_5 h_7 h_12 h_13 h_14; omega) | omega⟩ (by omega)
set_option maxRecDepth 100000 in
set_option maxHeartbeats 4000000 in
theorem s_119 {sc : List Int32} {e : Int} {d u P Q : Nat} {c : ME} {a1 : Int} {a2 : Int} {Z : AR → Prop} (hI : Iv u e P Q c) (ha1 : (-2147483648) ≤ a1 ∧ a1 ≤ 2147483647) (ha2 : (-2147483648) ≤ a2 ∧ a2 ≤ 2147483647) (T101 : ∀ c2 : ME, Iv u e P Q c2 → (∀ (a : Nat) (j : Int), ¬ ((a = 0 ∧ j = 13)) → c2 a j = c a j) → Z (.inr 101, Wd P Q P P c2, 1, 6)) (K : ∀ (c2 : ME) (y : Int), Iv u e P Q c2 → (∀ (a : Nat) (j : Int), ¬ ((a = 0 ∧ j = 13)) → c2 a j = c a j) → (-2147483648) ≤ y ∧ y ≤ 2147483647 → Z (.inl (some (vi y)), Wd P Q P P c2, 0, 0)) : Wp sc (d + 9) 119 0 [(0, .ref 0), (1, vi a1), (2, vi a2)] [] (Wd P Q P P c) 0 0 Z := by
  have hP := iv_P hI
  have hQ := iv_Q hI
  refine q_aload_n c_119_0 rfl (q_aload_n c_119_1 rfl (q_iload_n c_119_2 rfl (v_cv c_119_3 km_7_259 rfl rfl (nb_ rfl) ⟨⟨rfl, rfl⟩, nb_ rfl, rfl⟩ (nb_ rfl) (nb_ rfl) (s_117 (a1 := a1) hI (show (-2147483648) ≤ a1 ∧ a1 ≤ 2147483647 from ha1) (fun y_15 hy_15 h_16 => (bk_inl ?_))))))
  by_cases h_17 : y_15 = 0
  · refine v_if_eq_t (t := 22) c_119_6 rfl h_17 (q_iconst c_119_22 (v_cv c_119_23 km_7_161 rfl rfl (nb_ rfl) ⟨⟨rfl, rfl⟩, nb_ rfl, rfl⟩ (nb_ rfl) (nb_ rfl) (q_iload_n c_81_0 rfl (v_if_ne_f (t := 25) c_81_1 rfl (by decide) (q_aload_n c_81_4 rfl (q_dup c_81_5 rfl ?_))))))
    have h_18 := ir_0_13 hI
    refine v_gi (z := 13) (v := c 0 13) c_81_6 kf_7_330 rfl (nb_ rfl) rfl rfl rfl (q_iconst c_81_9 (v_iadd (v := c 0 13 + 1) c_81_10 rfl (v_nrm (fun y_19 hy_19 => (v_pi (z := 13) c_81_11 kf_7_330 rfl (nb_ rfl) rfl rfl rfl (by decide) (v_new c_81_14 rfl (by decide) (ld_ rfl) (nb_ rfl) (by decide) rfl (bk_out rfl rfl ?_)))))))
    have hI_20 := iw_0_13 (v := y_19) hI ⟨hy_19.1, hy_19.2⟩
    exact T101 _ hI_20 (fun a j hm => up_b (Decidable.or_iff_not_imp_left.mpr (fun h1 h2 => hm ⟨Decidable.not_not.mp h1, h2⟩)))
  · refine v_if_eq_f (t := 22) c_119_6 rfl ⟨h_17, ⟨(Int.le_trans (by decide) hy_15.1), (Int.le_trans hy_15.2 (by decide))⟩, by decide, by decide⟩ (q_iload_n c_119_9 rfl (q_iconst c_119_10 (q_iconst c_119_11 (q_call c_119_12 rfl rfl rfl (q_iload_n c_80_0 rfl (q_iload_n c_80_1 rfl ?_))))))
    by_cases h_21 : a2 < 0
    · refine v_ic_lt_t (t := 14) c_80_2 rfl ⟨ha2.1, h_21, by decide⟩ (q_iconst c_80_14 (v_zret c_80_15 rfl (by decide) (bk_inl (v_if_eq_t (t := 22) c_119_15 rfl (by decide) (q_iconst c_119_22 (v_cv c_119_23 km_7_161 rfl rfl (nb_ rfl) ⟨⟨rfl, rfl⟩, nb_ rfl, rfl⟩ (nb_ rfl) (nb_ rfl) (q_iload_n c_81_0 rfl ?_)))))))
      refine v_if_ne_f (t := 25) c_81_1 rfl (by decide) (q_aload_n c_81_4 rfl (q_dup c_81_5 rfl ?_))
      have h_22 := ir_0_13 hI
      refine v_gi (z := 13) (v := c 0 13) c_81_6 kf_7_330 rfl (nb_ rfl) rfl rfl rfl (q_iconst c_81_9 (v_iadd (v := c 0 13 + 1) c_81_10 rfl (v_nrm (fun y_23 hy_23 => (v_pi (z := 13) c_81_11 kf_7_330 rfl (nb_ rfl) rfl rfl rfl (by decide) (v_new c_81_14 rfl (by decide) (ld_ rfl) (nb_ rfl) (by decide) rfl (bk_out rfl rfl ?_)))))))
      have hI_24 := iw_0_13 (v := y_23) hI ⟨hy_23.1, hy_23.2⟩
      exact T101 _ hI_24 (fun a j hm => up_b (Decidable.or_iff_not_imp_left.mpr (fun h1 h2 => hm ⟨Decidable.not_not.mp h1, h2⟩)))
    · refine v_ic_lt_f (t := 14) c_80_2 rfl ⟨by decide, (Int.not_lt.mp h_21), ha2.2⟩ (q_iload_n c_80_5 rfl (q_iload_n c_80_6 rfl ?_))
      by_cases h_25 : a2 > 1
      · refine v_ic_gt_t (t := 14) c_80_7 rfl ⟨by decide, h_25, ha2.2⟩ (q_iconst c_80_14 (v_zret c_80_15 rfl (by decide) (bk_inl (v_if_eq_t (t := 22) c_119_15 rfl (by decide) (q_iconst c_119_22 (v_cv c_119_23 km_7_161 rfl rfl (nb_ rfl) ⟨⟨rfl, rfl⟩, nb_ rfl, rfl⟩ (nb_ rfl) (nb_ rfl) (q_iload_n c_81_0 rfl ?_)))))))
        refine v_if_ne_f (t := 25) c_81_1 rfl (by decide) (q_aload_n c_81_4 rfl (q_dup c_81_5 rfl ?_))
        have h_26 := ir_0_13 hI
        refine v_gi (z := 13) (v := c 0 13) c_81_6 kf_7_330 rfl (nb_ rfl) rfl rfl rfl (q_iconst c_81_9 (v_iadd (v := c 0 13 + 1) c_81_10 rfl (v_nrm (fun y_27 hy_27 => (v_pi (z := 13) c_81_11 kf_7_330 rfl (nb_ rfl) rfl rfl rfl (by decide) (v_new c_81_14 rfl (by decide) (ld_ rfl) (nb_ rfl) (by decide) rfl (bk_out rfl rfl ?_)))))))
        have hI_28 := iw_0_13 (v := y_27) hI ⟨hy_27.1, hy_27.2⟩
        exact T101 _ hI_28 (fun a j hm => up_b (Decidable.or_iff_not_imp_left.mpr (fun h1 h2 => hm ⟨Decidable.not_not.mp h1, h2⟩)))
      · refine v_ic_gt_f (t := 14) c_80_7 rfl ⟨ha2.1, (Int.not_lt.mp h_25), by decide⟩ (q_iconst c_80_10 (q_goto (t := 15) c_80_11 rfl (v_zret c_80_15 rfl (by decide) (bk_inl (v_if_eq_f (t := 22) c_119_15 rfl (by decide) (q_iconst c_119_18 (q_goto (t := 23) c_119_19 rfl ?_)))))))
        refine v_cv c_119_23 km_7_161 rfl rfl (nb_ rfl) ⟨⟨rfl, rfl⟩, nb_ rfl, rfl⟩ (nb_ rfl) (nb_ rfl) (q_iload_n c_81_0 rfl (v_if_ne_t (t := 25) c_81_1 rfl (by decide) (q_vret rfl rfl (bk_inl (q_iload_n c_119_26 rfl (q_iload_n c_119_27 rfl (v_ineg (v := 0 - a1) c_119_28 (by omega) ?_)))))))
        refine v_iandl c_119_29 ⟨by omega, by omega⟩ (fun y_29 hy_29 => (q_istore_n c_119_30 (nb_ rfl) (q_aload_n c_119_31 rfl (q_iload_n c_119_32 rfl (v_cv c_119_33 km_7_262 rfl rfl (nb_ rfl) ⟨⟨rfl, rfl⟩, nb_ rfl, rfl⟩ (nb_ rfl) (nb_ rfl) (s_118 (a1 := a1) hI (show (-2147483648) ≤ a1 ∧ a1 ≤ 2147483647 from ha1) (fun y_30 hy_30 => (bk_inl (q_istore c_119_36 (nb_ rfl) (q_iload c_119_38 rfl ?_))))))))))
        refine q_istore c_119_40 (nb_ rfl) (q_iload_n c_119_42 rfl (q_istore c_119_43 (nb_ rfl) (q_iconst c_119_45 (q_istore c_119_46 (nb_ rfl) (Wp_ls [(0, .ref 0), (1, vi a1), (2, vi a2), (3, vi y_29), (4, vi y_30), (5, vi y_30), (6, vi a1), (7, vi 0)] (lsub_cons rfl (lsub_cons rfl (lsub_cons rfl (lsub_cons rfl (lsub_cons rfl (lsub_cons rfl (lsub_cons rfl (lsub_cons rfl lsub_nil)))))))) ?_)))))
        exact (s_119_l (sc := sc) (d := d) hI ha1 ha2 T101 K 132) c y_29 y_30 y_30 a1 0 hI (fun a j hm => rfl) ⟨by first | (clear ha1 ha2 h_21 h_25 h_16 h_17; omega) | omega, by first | (clear ha1 ha2 h_21 h_25 h_16 h_17; omega) | omega⟩ hy_30 hy_30 ha1 ⟨by decide, by decide⟩ ⟨by first | (clear ha1 ha2 h_21 h_25 h_16 h_17; omega) | omega, by first | exact q_591ef6fa4 h_16 h_17 | omega⟩ (by omega)

set_option maxRecDepth 100000 in
set_option maxHeartbeats 4000000 in
theorem s_120_l {sc : List Int32} {e : Int} {d u P Q : Nat} {c : ME} {Z : AR → Prop} (hI : Iv u e P Q c)  (K : ∀ (c2 : ME), Iv u e P Q c2 → (∀ (a : Nat) (j : Int), ¬ (a = 11 ∨ a = (P + 10) ∨ a = (P + 11)) → c2 a j = c a j) → Z (.inl (none), Wd P Q P P c2, 0, 0)) : ∀ n : Nat, (∀ (c2 : ME) (v1 : Int), Iv u e P Q c2 → (∀ (a : Nat) (j : Int), ¬ (a = 11 ∨ a = (P + 10) ∨ a = (P + 11)) → c2 a j = c a j) → 0 ≤ v1 ∧ v1 ≤ 6 → 13 - 2 * v1 < (n : Int) → Wp sc (d + 10) 120 2 [(0, .ref 0), (1, vi v1)] [] (Wd P Q P P c2) 0 0 Z) := by
  intro n
  induction n with
  | zero => exact (by intro c2 v1 hI2 hF hv1 hm9; have hP := iv_P hI; have hQ := iv_Q hI; exfalso; omega)
  | succ n ih =>
    have hP := iv_P hI
    have hQ := iv_Q hI
    intro c2 v1 hI2 hF hv1 hm9
    refine q_iload_n c_120_2 rfl (q_aload_n c_120_3 rfl (v_gr (t := P) c_120_4 kf_7_50 rfl (nb_ rfl) rfl ?_))
    have h_1 := ir_p0_0 hI hP
    have kn_2 : Hid (c2 P 0 = c P 0) := hF P 0 (qn_a24b4b71d hP)
    refine v_gi (z := 0) (v := c P 0) c_120_7 kf_7_102 (ck_p0 hP) (a68z hP) rfl rfl (hid kn_2) ?_
    by_cases h_3 : v1 ≥ c P 0
    · refine v_ic_ge_t (t := 33) c_120_10 rfl ⟨by first | exact q_730ab5169 h_1 | omega, h_3, (Int.le_trans hv1.2 (by decide))⟩ (q_vret rfl rfl ?_)
      exact K c2 hI2 (fun a j hm => hF a j hm)
    · refine v_ic_ge_f (t := 33) c_120_10 rfl ⟨(Int.le_trans (by decide) hv1.1), (Int.not_le.mp h_3), by first | exact q_b289b7db2 h_1 | omega⟩ (q_aload_n c_120_13 rfl (v_gr (t := 11) c_120_14 kf_7_41 rfl (nb_ rfl) rfl (q_iload_n c_120_17 rfl (q_aload_n c_120_18 rfl (v_gr (t := 37) c_120_19 kf_7_62 rfl (nb_ rfl) rfl (q_iload_n c_120_22 rfl (v_cv c_120_23 km_7_223 rfl rfl (nb_ rfl) ⟨⟨rfl, rfl⟩, nb_ rfl, rfl⟩ (nb_ rfl) (nb_ rfl) (s_56 (a1 := v1) hI2 (.inl ⟨rfl, rfl⟩) (show 0 ≤ v1 ∧ v1 ≤ 5 from ⟨hv1.1, by first | exact q_d63a8538e h_1 h_3 | omega⟩) (fun c_4 y_7 hI_5 hF_6 hy_7 => ?_)))))))))
      refine bk_inl (v_is c_120_26 rfl (by decide) (by decide) ⟨hv1.1, by first | exact q_71a18878d h_1 h_3 | omega⟩ (v_iinc (v := v1 + 1) c_120_27 rfl (nb_ rfl) rfl (q_goto (t := 2) c_120_30 rfl ?_)))
      have hI_8 := iw_11 (j := v1) (v := y_7) hI_5 ⟨(Int.le_trans (by decide) hy_7.1), (Int.le_trans hy_7.2 (by decide))⟩
      refine Wp_ls [(0, .ref 0), (1, vi (v1 + 1))] (lsub_cons rfl (lsub_cons rfl lsub_nil)) ?_
      exact ih (up c_4 11 v1 y_7) (v1 + 1) hI_8 (fun a j hm => (up_b (Decidable.or_iff_not_imp_left.mpr (fun h1 h2 => hm (Or.inl (Decidable.not_not.mp h1))))).trans ((hF_6 a j (qv_448150911 hm)).trans (hF a j hm))) ⟨by first | exact rgp_l hv1.1 (by decide) | omega, by first | exact q_4a76cd9c7 h_1 h_3 | omega⟩ (by omega)
set_option maxRecDepth 100000 in
set_option maxHeartbeats 4000000 in
theorem s_120 {sc : List Int32} {e : Int} {d u P Q : Nat} {c : ME} {Z : AR → Prop} (hI : Iv u e P Q c)  (K : ∀ (c2 : ME), Iv u e P Q c2 → (∀ (a : Nat) (j : Int), ¬ (a = 11 ∨ a = (P + 10) ∨ a = (P + 11)) → c2 a j = c a j) → Z (.inl (none), Wd P Q P P c2, 0, 0)) : Wp sc (d + 10) 120 0 [(0, .ref 0)] [] (Wd P Q P P c) 0 0 Z := by
  have hP := iv_P hI
  have hQ := iv_Q hI
  refine q_iconst c_120_0 (q_istore_n c_120_1 (nb_ rfl) (Wp_ls [(0, .ref 0), (1, vi 0)] (lsub_cons rfl (lsub_cons rfl lsub_nil)) ?_))
  exact (s_120_l (sc := sc) (d := d) hI K 16) c 0 hI (fun a j hm => rfl) ⟨by decide, by decide⟩ (by omega)

set_option maxRecDepth 100000 in
set_option maxHeartbeats 4000000 in
theorem s_121_l {sc : List Int32} {e : Int} {d u P Q : Nat} {c : ME} {a1 : Int} {Z : AR → Prop} (hI : Iv u e P Q c) (ha1 : (-2147483648) ≤ a1 ∧ a1 ≤ 2147483647) (K : ∀ (y : Int), (-2147483648) ≤ y ∧ y ≤ 2147483647 → Z (.inl (some (vi y)), Wd P Q P P c, 0, 0)) : ∀ n : Nat, (∀ (v2 : Int) (v3 : Int), (-2147483648) ≤ v2 ∧ v2 ≤ 2147483647 → 0 ≤ v3 ∧ v3 ≤ 6 → 13 - 2 * v3 < (n : Int) → Wp sc (d + 7) 121 4 [(0, .ref 0), (1, vi a1), (2, vi v2), (3, vi v3)] [] (Wd P Q P P c) 0 0 Z) := by
  intro n
  induction n with
  | zero => exact (by intro v2 v3 hv2 hv3 hm9; have hP := iv_P hI; have hQ := iv_Q hI; exfalso; omega)
  | succ n ih =>
    have hP := iv_P hI
    have hQ := iv_Q hI
    intro v2 v3 hv2 hv3 hm9
    refine q_iload_n c_121_4 rfl (q_aload_n c_121_5 rfl (v_gr (t := P) c_121_6 kf_7_50 rfl (nb_ rfl) rfl ?_))
    have h_1 := ir_p0_0 hI hP
    refine v_gi (z := 0) (v := c P 0) c_121_9 kf_7_102 (ck_p0 hP) (a68z hP) rfl rfl rfl ?_
    by_cases h_2 : v3 ≥ c P 0
    · refine v_ic_ge_t (t := 39) c_121_12 rfl ⟨(Int.le_trans (by decide) h_1.1), h_2, (Int.le_trans hv3.2 (by decide))⟩ (q_iload_n c_121_39 rfl (q_iret c_121_40 rfl ?_))
      exact K v2 hv2
    · refine v_ic_ge_f (t := 39) c_121_12 rfl ⟨(Int.le_trans (by decide) hv3.1), (Int.not_le.mp h_2), (Int.le_trans h_1.2 (by decide))⟩ (q_iload_n c_121_15 rfl (q_iload_n c_121_16 rfl (v_ishrx c_121_17 (fun y_3 hy_3 => (q_iconst c_121_18 (v_iandx c_121_19 (fun y_4 hy_4 => (q_iconst c_121_20 ?_))))))))
      by_cases h_5 : y_4 ≠ 1
      · refine v_ic_ne_t (t := 33) c_121_21 rfl ⟨h_5, ⟨hy_4.1, hy_4.2⟩, by decide, by decide⟩ (v_iinc (v := v3 + 1) c_121_33 rfl (nb_ rfl) rfl (q_goto (t := 4) c_121_36 rfl (Wp_ls [(0, .ref 0), (1, vi a1), (2, vi v2), (3, vi (v3 + 1))] (lsub_cons rfl (lsub_cons rfl (lsub_cons rfl (lsub_cons rfl lsub_nil)))) ?_)))
        exact ih v2 (v3 + 1) hv2 ⟨by first | exact rgp_l hv3.1 (by decide) | omega, by first | exact q_4a76cd9c7 h_1 h_2 | omega⟩ (by omega)
      · refine v_ic_ne_f (t := 33) c_121_21 rfl (Decidable.not_not.mp h_5) (q_iload_n c_121_24 rfl (q_aload_n c_121_25 rfl (v_gr (t := 11) c_121_26 kf_7_41 rfl (nb_ rfl) rfl (q_iload_n c_121_29 rfl ?_))))
        have h_6 := ir_11 hI v3
        refine v_ia (v := c 11 v3) c_121_30 rfl (by decide) (by decide) ⟨hv3.1, by first | exact q_71a18878d h_1 h_2 | omega⟩ rfl (v_iadd (v := c 11 v3 + v2) c_121_31 (by first | exact q_3c678d369 | omega) (v_nrm (fun y_7 hy_7 => (q_istore_n c_121_32 (nb_ rfl) (v_iinc (v := v3 + 1) c_121_33 rfl (nb_ rfl) rfl (q_goto (t := 4) c_121_36 rfl (Wp_ls [(0, .ref 0), (1, vi a1), (2, vi y_7), (3, vi (v3 + 1))] (lsub_cons rfl (lsub_cons rfl (lsub_cons rfl (lsub_cons rfl lsub_nil)))) ?_)))))))
        exact ih y_7 (v3 + 1) hy_7 ⟨by first | exact rgp_l hv3.1 (by decide) | omega, by first | exact q_4a76cd9c7 h_1 h_2 | omega⟩ (by omega)
set_option maxRecDepth 100000 in
set_option maxHeartbeats 4000000 in
theorem s_121 {sc : List Int32} {e : Int} {d u P Q : Nat} {c : ME} {a1 : Int} {Z : AR → Prop} (hI : Iv u e P Q c) (ha1 : (-2147483648) ≤ a1 ∧ a1 ≤ 2147483647) (K : ∀ (y : Int), (-2147483648) ≤ y ∧ y ≤ 2147483647 → Z (.inl (some (vi y)), Wd P Q P P c, 0, 0)) : Wp sc (d + 7) 121 0 [(0, .ref 0), (1, vi a1)] [] (Wd P Q P P c) 0 0 Z := by
  have hP := iv_P hI
  have hQ := iv_Q hI
  refine q_iconst c_121_0 (q_istore_n c_121_1 (nb_ rfl) (q_iconst c_121_2 (q_istore_n c_121_3 (nb_ rfl) (Wp_ls [(0, .ref 0), (1, vi a1), (2, vi 0), (3, vi 0)] (lsub_cons rfl (lsub_cons rfl (lsub_cons rfl (lsub_cons rfl lsub_nil)))) ?_))))
  exact (s_121_l (sc := sc) (d := d) hI ha1 K 16) 0 0 ⟨by decide, by decide⟩ ⟨by decide, by decide⟩ (by omega)

set_option maxRecDepth 100000 in
set_option maxHeartbeats 4000000 in
theorem s_122 {sc : List Int32} {e : Int} {d u P Q : Nat} {c : ME} {a1 : Int} {a2 : Int} {Z : AR → Prop} (hI : Iv u e P Q c) (ha1 : (-2147483648) ≤ a1 ∧ a1 ≤ 2147483647) (ha2 : (-2147483648) ≤ a2 ∧ a2 ≤ 2147483647) (K : ∀ (y : Int), 0 ≤ y ∧ y ≤ 1 → Z (.inl (some (vi y)), Wd P Q P P c, 0, 0)) : Wp sc (d + 9) 122 0 [(0, .ref 0), (1, vi a1), (2, vi a2)] [] (Wd P Q P P c) 0 0 Z := by
  have hP := iv_P hI
  have hQ := iv_Q hI
  refine q_aload_n c_122_0 rfl (q_iload_n c_122_1 rfl (v_cv c_122_2 km_7_272 rfl rfl (nb_ rfl) ⟨⟨rfl, rfl⟩, nb_ rfl, rfl⟩ (nb_ rfl) (nb_ rfl) (s_121 (a1 := a1) hI (show (-2147483648) ≤ a1 ∧ a1 ≤ 2147483647 from ha1) (fun y_1 hy_1 => (bk_inl (q_aload_n c_122_5 rfl (q_iload_n c_122_6 rfl (v_cv c_122_7 km_7_272 rfl rfl (nb_ rfl) ⟨⟨rfl, rfl⟩, nb_ rfl, rfl⟩ (nb_ rfl) (nb_ rfl) (s_121 (a1 := a2) hI (show (-2147483648) ≤ a2 ∧ a2 ≤ 2147483647 from ha2) (fun y_2 hy_2 => (bk_inl ?_)))))))))))
  refine v_isub (v := y_1 - y_2) c_122_10 rfl (v_nrm (fun y_3 hy_3 => (q_istore_n c_122_11 (nb_ rfl) (q_iload_n c_122_12 rfl ?_))))
  by_cases h_4 : y_3 > 0
  · refine v_if_gt_t (t := 33) c_122_13 rfl ⟨by decide, h_4, hy_3.2⟩ (q_iconst c_122_33 (q_goto (t := 38) c_122_34 rfl (v_zret c_122_38 rfl (by decide) ?_)))
    exact K 1 ⟨by decide, by decide⟩
  · refine v_if_gt_f (t := 33) c_122_13 rfl ⟨hy_3.1, (Int.not_lt.mp h_4), by decide⟩ (q_iload_n c_122_16 rfl ?_)
    by_cases h_5 : y_3 ≠ 0
    · refine v_if_ne_t (t := 37) c_122_17 rfl ⟨h_5, ⟨hy_3.1, hy_3.2⟩, by decide, by decide⟩ (q_iconst c_122_37 (v_zret c_122_38 rfl (by decide) ?_))
      exact K 0 ⟨by decide, by decide⟩
    · refine v_if_ne_f (t := 37) c_122_17 rfl (Decidable.not_not.mp h_5) (q_aload_n c_122_20 rfl (q_iload_n c_122_21 rfl (v_cv c_122_22 km_7_262 rfl rfl (nb_ rfl) ⟨⟨rfl, rfl⟩, nb_ rfl, rfl⟩ (nb_ rfl) (nb_ rfl) (s_118 (a1 := a1) hI (show (-2147483648) ≤ a1 ∧ a1 ≤ 2147483647 from ha1) (fun y_6 hy_6 => (bk_inl (q_aload_n c_122_25 rfl (q_iload_n c_122_26 rfl (v_cv c_122_27 km_7_262 rfl rfl (nb_ rfl) ⟨⟨rfl, rfl⟩, nb_ rfl, rfl⟩ (nb_ rfl) (nb_ rfl) (s_118 (a1 := a2) hI (show (-2147483648) ≤ a2 ∧ a2 ≤ 2147483647 from ha2) (fun y_7 hy_7 => ?_)))))))))))
      refine bk_inl ?_
      by_cases h_8 : y_6 ≥ y_7
      · refine v_ic_ge_t (t := 37) c_122_30 rfl ⟨hy_7.1, h_8, hy_6.2⟩ (q_iconst c_122_37 (v_zret c_122_38 rfl (by decide) ?_))
        exact K 0 ⟨by decide, by decide⟩
      · refine v_ic_ge_f (t := 37) c_122_30 rfl ⟨hy_6.1, (Int.not_le.mp h_8), hy_7.2⟩ (q_iconst c_122_33 (q_goto (t := 38) c_122_34 rfl (v_zret c_122_38 rfl (by decide) ?_)))
        exact K 1 ⟨by decide, by decide⟩

set_option maxRecDepth 100000 in
set_option maxHeartbeats 4000000 in
theorem s_123_l {sc : List Int32} {e : Int} {d u P Q : Nat} {c : ME} {a1 : Int} {a2 : Int} {a3 : Int} {Z : AR → Prop} (hI : Iv u e P Q c) (ha1 : (-2147483648) ≤ a1 ∧ a1 ≤ 2147483647) (ha2 : (-2147483648) ≤ a2 ∧ a2 ≤ 2147483647) (ha3 : (-2147483648) ≤ a3 ∧ a3 ≤ 2147483647) (T101 : ∀ c2 : ME, Iv u e P Q c2 → (∀ (a : Nat) (j : Int), ¬ ((a = 0 ∧ j = 13) ∨ a = (P + 10) ∨ a = (P + 11) ∨ a = 11) → c2 a j = c a j) → Z (.inr 101, Wd P Q P P c2, 1, 6)) (K : ∀ (c2 : ME) (y : Int), Iv u e P Q c2 → (∀ (a : Nat) (j : Int), ¬ ((a = 0 ∧ j = 13) ∨ a = (P + 10) ∨ a = (P + 11) ∨ a = 11) → c2 a j = c a j) → (-2147483648) ≤ y ∧ y ≤ 2147483647 → Z (.inl (some (vi y)), Wd P Q P P c2, 0, 0)) : ∀ n : Nat, (∀ (c2 : ME) (v4 : Int) (v5 : Int) (v6 : Int), Iv u e P Q c2 → (∀ (a : Nat) (j : Int), ¬ ((a = 0 ∧ j = 13) ∨ a = (P + 10) ∨ a = (P + 11) ∨ a = 11) → c2 a j = c a j) → 0 ≤ v4 ∧ v4 ≤ 63 → 0 ≤ v5 ∧ v5 ≤ 64 → 1 ≤ v6 ∧ v6 ≤ 64 → 129 - 2 * v6 < (n : Int) → Wp sc (d + 11) 123 60 [(0, .ref 0), (1, vi a1), (2, vi a2), (3, vi a3), (4, vi v4), (5, vi v5), (6, vi v6)] [] (Wd P Q P P c2) 0 0 Z) := by
  intro n
  induction n with
  | zero => exact (by intro c2 v4 v5 v6 hI2 hF hv4 hv5 hv6 hm9; have hP := iv_P hI; have hQ := iv_Q hI; exfalso; omega)
  | succ n ih =>
    have hP := iv_P hI
    have hQ := iv_Q hI
    intro c2 v4 v5 v6 hI2 hF hv4 hv5 hv6 hm9
    refine q_iload c_123_60 rfl (q_iload c_123_62 rfl ?_)
    by_cases h_1 : v6 > v4
    · refine v_ic_gt_t (t := 108) c_123_64 rfl ⟨(Int.le_trans (by decide) hv4.1), h_1, (Int.le_trans hv6.2 (by decide))⟩ (q_iload_n c_123_108 rfl ?_)
      by_cases h_2 : a3 = 0
      · refine v_lsw (t := 136) (off := 27) 0 c_123_109 (by omega) (by decide) (by decide) (by decide) (by decide) (q_aload_n c_123_136 rfl (q_iload c_123_137 rfl (v_cv c_123_139 km_7_272 rfl rfl (nb_ rfl) ⟨⟨rfl, rfl⟩, nb_ rfl, rfl⟩ (nb_ rfl) (nb_ rfl) (s_121 (a1 := v5) hI2 (show (-2147483648) ≤ v5 ∧ v5 ≤ 2147483647 from ⟨(Int.le_trans (by decide) hv5.1), (Int.le_trans hv5.2 (by decide))⟩) (fun y_3 hy_3 => (bk_inl (q_iret c_123_142 rfl ?_)))))))
        exact K c2 y_3 hI2 (fun a j hm => hF a j hm) hy_3
      by_cases h_4 : a3 = 1
      · refine v_lsw (t := 143) (off := 34) 1 c_123_109 (by omega) (by decide) (by decide) (by decide) (by decide) (q_aload_n c_123_143 rfl (q_iload c_123_144 rfl (v_cv c_123_146 km_7_262 rfl rfl (nb_ rfl) ⟨⟨rfl, rfl⟩, nb_ rfl, rfl⟩ (nb_ rfl) (nb_ rfl) (s_118 (a1 := v5) hI2 (show (-2147483648) ≤ v5 ∧ v5 ≤ 2147483647 from ⟨(Int.le_trans (by decide) hv5.1), (Int.le_trans hv5.2 (by decide))⟩) (fun y_5 hy_5 => (bk_inl (q_iret c_123_149 rfl ?_)))))))
        exact K c2 y_5 hI2 (fun a j hm => hF a j hm) hy_5
      refine v_lsw_o (t := 150) rfl (by omega) (by decide) (by simp [Op.lookupswitch.offset, Ne.symm (show a3 ≠ 0 by omega), Ne.symm (show a3 ≠ 1 by omega)]) (by decide) (q_iload c_123_150 rfl (q_iret c_123_152 rfl ?_))
      exact K c2 v5 hI2 (fun a j hm => hF a j hm) ⟨(Int.le_trans (by decide) hv5.1), (Int.le_trans hv5.2 (by decide))⟩
    · refine v_ic_gt_f (t := 108) c_123_64 rfl ⟨(Int.le_trans (by decide) hv6.1), (Int.not_lt.mp h_1), (Int.le_trans hv4.2 (by decide))⟩ (q_iload c_123_67 rfl (q_iload c_123_69 rfl (q_iconst c_123_71 (v_ixorx c_123_72 (fun y_6 hy_6 => (v_iandl c_123_73 ⟨by omega, by omega⟩ (fun y_7 hy_7 => ?_)))))))
      by_cases h_8 : y_7 ≠ 0
      · refine v_if_ne_t (t := 102) c_123_74 rfl ⟨h_8, ⟨by omega, by omega⟩, by decide, by decide⟩ (v_iinc (v := v6 + 1) c_123_102 rfl (nb_ rfl) rfl (q_goto (t := 60) c_123_105 rfl (Wp_ls [(0, .ref 0), (1, vi a1), (2, vi a2), (3, vi a3), (4, vi v4), (5, vi v5), (6, vi (v6 + 1))] (lsub_cons rfl (lsub_cons rfl (lsub_cons rfl (lsub_cons rfl (lsub_cons rfl (lsub_cons rfl (lsub_cons rfl lsub_nil))))))) ?_)))
        exact ih c2 v4 v5 (v6 + 1) hI2 (fun a j hm => hF a j hm) hv4 hv5 ⟨by first | exact rgp_l hv6.1 (by decide) | omega, by first | exact q_8ed797edd h_1 hv4 | omega⟩ (by omega)
      · refine v_if_ne_f (t := 102) c_123_74 rfl (Decidable.not_not.mp h_8) (q_aload_n c_123_77 rfl (q_iload c_123_78 rfl (v_cv c_123_80 km_7_262 rfl rfl (nb_ rfl) ⟨⟨rfl, rfl⟩, nb_ rfl, rfl⟩ (nb_ rfl) (nb_ rfl) (s_118 (a1 := v6) hI2 (show (-2147483648) ≤ v6 ∧ v6 ≤ 2147483647 from ⟨(Int.le_trans (by decide) hv6.1), (Int.le_trans hv6.2 (by decide))⟩) (fun y_9 hy_9 => (bk_inl (q_iload_n c_123_83 rfl ?_)))))))
        by_cases h_10 : y_9 > a2
        · refine v_ic_gt_t (t := 102) c_123_84 rfl ⟨ha2.1, h_10, hy_9.2⟩ (v_iinc (v := v6 + 1) c_123_102 rfl (nb_ rfl) rfl (q_goto (t := 60) c_123_105 rfl (Wp_ls [(0, .ref 0), (1, vi a1), (2, vi a2), (3, vi a3), (4, vi v4), (5, vi v5), (6, vi (v6 + 1))] (lsub_cons rfl (lsub_cons rfl (lsub_cons rfl (lsub_cons rfl (lsub_cons rfl (lsub_cons rfl (lsub_cons rfl lsub_nil))))))) ?_)))
          exact ih c2 v4 v5 (v6 + 1) hI2 (fun a j hm => hF a j hm) hv4 hv5 ⟨by first | exact rgp_l hv6.1 (by decide) | omega, by first | exact q_8ed797edd h_1 hv4 | omega⟩ (by omega)
        · refine v_ic_gt_f (t := 102) c_123_84 rfl ⟨hy_9.1, (Int.not_lt.mp h_10), ha2.2⟩ (q_aload_n c_123_87 rfl (q_iload c_123_88 rfl (q_iload c_123_90 rfl (v_cv c_123_92 km_7_269 rfl rfl (nb_ rfl) ⟨⟨rfl, rfl⟩, nb_ rfl, rfl⟩ (nb_ rfl) (nb_ rfl) (s_122 (a1 := v6) (a2 := v5) hI2 (show (-2147483648) ≤ v6 ∧ v6 ≤ 2147483647 from ⟨(Int.le_trans (by decide) hv6.1), (Int.le_trans hv6.2 (by decide))⟩) (show (-2147483648) ≤ v5 ∧ v5 ≤ 2147483647 from ⟨(Int.le_trans (by decide) hv5.1), (Int.le_trans hv5.2 (by decide))⟩) (fun y_11 hy_11 => (bk_inl ?_)))))))
          by_cases h_12 : y_11 = 0
          · refine v_if_eq_t (t := 102) c_123_95 rfl h_12 (v_iinc (v := v6 + 1) c_123_102 rfl (nb_ rfl) rfl (q_goto (t := 60) c_123_105 rfl (Wp_ls [(0, .ref 0), (1, vi a1), (2, vi a2), (3, vi a3), (4, vi v4), (5, vi v5), (6, vi (v6 + 1))] (lsub_cons rfl (lsub_cons rfl (lsub_cons rfl (lsub_cons rfl (lsub_cons rfl (lsub_cons rfl (lsub_cons rfl lsub_nil))))))) ?_)))
            exact ih c2 v4 v5 (v6 + 1) hI2 (fun a j hm => hF a j hm) hv4 hv5 ⟨by first | exact rgp_l hv6.1 (by decide) | omega, by first | exact q_8ed797edd h_1 hv4 | omega⟩ (by omega)
          · refine v_if_eq_f (t := 102) c_123_95 rfl ⟨h_12, ⟨(Int.le_trans (by decide) hy_11.1), (Int.le_trans hy_11.2 (by decide))⟩, by decide, by decide⟩ (q_iload c_123_98 rfl (q_istore c_123_100 (nb_ rfl) (v_iinc (v := v6 + 1) c_123_102 rfl (nb_ rfl) rfl (q_goto (t := 60) c_123_105 rfl (Wp_ls [(0, .ref 0), (1, vi a1), (2, vi a2), (3, vi a3), (4, vi v4), (5, vi v6), (6, vi (v6 + 1))] (lsub_cons rfl (lsub_cons rfl (lsub_cons rfl (lsub_cons rfl (lsub_cons rfl (lsub_cons rfl (lsub_cons rfl lsub_nil))))))) ?_)))))
            exact ih c2 v4 v6 (v6 + 1) hI2 (fun a j hm => hF a j hm) hv4 ⟨(Int.le_trans (by decide) hv6.1), hv6.2⟩ ⟨by first | exact rgp_l hv6.1 (by decide) | omega, by first | exact q_8ed797edd h_1 hv4 | omega⟩ (by omega)
set_option maxRecDepth 100000 in
set_option maxHeartbeats 4000000 in
theorem s_123 {sc : List Int32} {e : Int} {d u P Q : Nat} {c : ME} {a1 : Int} {a2 : Int} {a3 : Int} {Z : AR → Prop} (hI : Iv u e P Q c) (ha1 : (-2147483648) ≤ a1 ∧ a1 ≤ 2147483647) (ha2 : (-2147483648) ≤ a2 ∧ a2 ≤ 2147483647) (ha3 : (-2147483648) ≤ a3 ∧ a3 ≤ 2147483647) (T101 : ∀ c2 : ME, Iv u e P Q c2 → (∀ (a : Nat) (j : Int), ¬ ((a = 0 ∧ j = 13) ∨ a = (P + 10) ∨ a = (P + 11) ∨ a = 11) → c2 a j = c a j) → Z (.inr 101, Wd P Q P P c2, 1, 6)) (K : ∀ (c2 : ME) (y : Int), Iv u e P Q c2 → (∀ (a : Nat) (j : Int), ¬ ((a = 0 ∧ j = 13) ∨ a = (P + 10) ∨ a = (P + 11) ∨ a = 11) → c2 a j = c a j) → (-2147483648) ≤ y ∧ y ≤ 2147483647 → Z (.inl (some (vi y)), Wd P Q P P c2, 0, 0)) : Wp sc (d + 11) 123 0 [(0, .ref 0), (1, vi a1), (2, vi a2), (3, vi a3)] [] (Wd P Q P P c) 0 0 Z := by
  have hP := iv_P hI
  have hQ := iv_Q hI
  refine q_aload_n c_123_0 rfl (q_aload_n c_123_1 rfl (q_iload_n c_123_2 rfl (v_cv c_123_3 km_7_259 rfl rfl (nb_ rfl) ⟨⟨rfl, rfl⟩, nb_ rfl, rfl⟩ (nb_ rfl) (nb_ rfl) (s_117 (a1 := a1) hI (show (-2147483648) ≤ a1 ∧ a1 ≤ 2147483647 from ha1) (fun y_13 hy_13 h_14 => (bk_inl ?_))))))
  by_cases h_15 : y_13 = 0
  · refine v_if_eq_t (t := 33) c_123_6 rfl h_15 (q_iconst c_123_33 (v_cv c_123_34 km_7_161 rfl rfl (nb_ rfl) ⟨⟨rfl, rfl⟩, nb_ rfl, rfl⟩ (nb_ rfl) (nb_ rfl) (q_iload_n c_81_0 rfl (v_if_ne_f (t := 25) c_81_1 rfl (by decide) (q_aload_n c_81_4 rfl (q_dup c_81_5 rfl ?_))))))
    have h_16 := ir_0_13 hI
    refine v_gi (z := 13) (v := c 0 13) c_81_6 kf_7_330 rfl (nb_ rfl) rfl rfl rfl (q_iconst c_81_9 (v_iadd (v := c 0 13 + 1) c_81_10 rfl (v_nrm (fun y_17 hy_17 => (v_pi (z := 13) c_81_11 kf_7_330 rfl (nb_ rfl) rfl rfl rfl (by decide) (v_new c_81_14 rfl (by decide) (ld_ rfl) (nb_ rfl) (by decide) rfl (bk_out rfl rfl ?_)))))))
    have hI_18 := iw_0_13 (v := y_17) hI ⟨hy_17.1, hy_17.2⟩
    exact T101 _ hI_18 (fun a j hm => up_b (Decidable.or_iff_not_imp_left.mpr (fun h1 h2 => hm (Or.inl ⟨Decidable.not_not.mp h1, h2⟩))))
  · refine v_if_eq_f (t := 33) c_123_6 rfl ⟨h_15, ⟨(Int.le_trans (by decide) hy_13.1), (Int.le_trans hy_13.2 (by decide))⟩, by decide, by decide⟩ (q_iload_n c_123_9 rfl (q_iconst c_123_10 (v_ldcw (n := 99999) c_123_11 rfl (by decide +kernel) (q_call c_123_14 rfl rfl rfl (q_iload_n c_80_0 rfl (q_iload_n c_80_1 rfl ?_))))))
    by_cases h_19 : a2 < 0
    · refine v_ic_lt_t (t := 14) c_80_2 rfl ⟨ha2.1, h_19, by decide⟩ (q_iconst c_80_14 (v_zret c_80_15 rfl (by decide) (bk_inl (v_if_eq_t (t := 33) c_123_17 rfl (by decide) (q_iconst c_123_33 (v_cv c_123_34 km_7_161 rfl rfl (nb_ rfl) ⟨⟨rfl, rfl⟩, nb_ rfl, rfl⟩ (nb_ rfl) (nb_ rfl) (q_iload_n c_81_0 rfl ?_)))))))
      refine v_if_ne_f (t := 25) c_81_1 rfl (by decide) (q_aload_n c_81_4 rfl (q_dup c_81_5 rfl ?_))
      have h_20 := ir_0_13 hI
      refine v_gi (z := 13) (v := c 0 13) c_81_6 kf_7_330 rfl (nb_ rfl) rfl rfl rfl (q_iconst c_81_9 (v_iadd (v := c 0 13 + 1) c_81_10 rfl (v_nrm (fun y_21 hy_21 => (v_pi (z := 13) c_81_11 kf_7_330 rfl (nb_ rfl) rfl rfl rfl (by decide) (v_new c_81_14 rfl (by decide) (ld_ rfl) (nb_ rfl) (by decide) rfl (bk_out rfl rfl ?_)))))))
      have hI_22 := iw_0_13 (v := y_21) hI ⟨hy_21.1, hy_21.2⟩
      exact T101 _ hI_22 (fun a j hm => up_b (Decidable.or_iff_not_imp_left.mpr (fun h1 h2 => hm (Or.inl ⟨Decidable.not_not.mp h1, h2⟩))))
    · refine v_ic_lt_f (t := 14) c_80_2 rfl ⟨by decide, (Int.not_lt.mp h_19), ha2.2⟩ (q_iload_n c_80_5 rfl (q_iload_n c_80_6 rfl ?_))
      by_cases h_23 : a2 > 99999
      · refine v_ic_gt_t (t := 14) c_80_7 rfl ⟨by decide, h_23, ha2.2⟩ (q_iconst c_80_14 (v_zret c_80_15 rfl (by decide) (bk_inl (v_if_eq_t (t := 33) c_123_17 rfl (by decide) (q_iconst c_123_33 (v_cv c_123_34 km_7_161 rfl rfl (nb_ rfl) ⟨⟨rfl, rfl⟩, nb_ rfl, rfl⟩ (nb_ rfl) (nb_ rfl) (q_iload_n c_81_0 rfl ?_)))))))
        refine v_if_ne_f (t := 25) c_81_1 rfl (by decide) (q_aload_n c_81_4 rfl (q_dup c_81_5 rfl ?_))
        have h_24 := ir_0_13 hI
        refine v_gi (z := 13) (v := c 0 13) c_81_6 kf_7_330 rfl (nb_ rfl) rfl rfl rfl (q_iconst c_81_9 (v_iadd (v := c 0 13 + 1) c_81_10 rfl (v_nrm (fun y_25 hy_25 => (v_pi (z := 13) c_81_11 kf_7_330 rfl (nb_ rfl) rfl rfl rfl (by decide) (v_new c_81_14 rfl (by decide) (ld_ rfl) (nb_ rfl) (by decide) rfl (bk_out rfl rfl ?_)))))))
        have hI_26 := iw_0_13 (v := y_25) hI ⟨hy_25.1, hy_25.2⟩
        exact T101 _ hI_26 (fun a j hm => up_b (Decidable.or_iff_not_imp_left.mpr (fun h1 h2 => hm (Or.inl ⟨Decidable.not_not.mp h1, h2⟩))))
      · refine v_ic_gt_f (t := 14) c_80_7 rfl ⟨ha2.1, (Int.not_lt.mp h_23), by decide⟩ (q_iconst c_80_10 (q_goto (t := 15) c_80_11 rfl (v_zret c_80_15 rfl (by decide) (bk_inl (v_if_eq_f (t := 33) c_123_17 rfl (by decide) (q_iload_n c_123_20 rfl (q_iconst c_123_21 ?_)))))))
        refine q_iconst c_123_22 (q_call c_123_23 rfl rfl rfl (q_iload_n c_80_0 rfl (q_iload_n c_80_1 rfl ?_)))
        by_cases h_27 : a3 < 0
        · refine v_ic_lt_t (t := 14) c_80_2 rfl ⟨ha3.1, h_27, by decide⟩ (q_iconst c_80_14 (v_zret c_80_15 rfl (by decide) (bk_inl (v_if_eq_t (t := 33) c_123_26 rfl (by decide) (q_iconst c_123_33 (v_cv c_123_34 km_7_161 rfl rfl (nb_ rfl) ⟨⟨rfl, rfl⟩, nb_ rfl, rfl⟩ (nb_ rfl) (nb_ rfl) (q_iload_n c_81_0 rfl ?_)))))))
          refine v_if_ne_f (t := 25) c_81_1 rfl (by decide) (q_aload_n c_81_4 rfl (q_dup c_81_5 rfl ?_))
          have h_28 := ir_0_13 hI
          refine v_gi (z := 13) (v := c 0 13) c_81_6 kf_7_330 rfl (nb_ rfl) rfl rfl rfl (q_iconst c_81_9 (v_iadd (v := c 0 13 + 1) c_81_10 rfl (v_nrm (fun y_29 hy_29 => (v_pi (z := 13) c_81_11 kf_7_330 rfl (nb_ rfl) rfl rfl rfl (by decide) (v_new c_81_14 rfl (by decide) (ld_ rfl) (nb_ rfl) (by decide) rfl (bk_out rfl rfl ?_)))))))
          have hI_30 := iw_0_13 (v := y_29) hI ⟨hy_29.1, hy_29.2⟩
          exact T101 _ hI_30 (fun a j hm => up_b (Decidable.or_iff_not_imp_left.mpr (fun h1 h2 => hm (Or.inl ⟨Decidable.not_not.mp h1, h2⟩))))
        · refine v_ic_lt_f (t := 14) c_80_2 rfl ⟨by decide, (Int.not_lt.mp h_27), ha3.2⟩ (q_iload_n c_80_5 rfl (q_iload_n c_80_6 rfl ?_))
          by_cases h_31 : a3 > 2
          · refine v_ic_gt_t (t := 14) c_80_7 rfl ⟨by decide, h_31, ha3.2⟩ (q_iconst c_80_14 (v_zret c_80_15 rfl (by decide) (bk_inl (v_if_eq_t (t := 33) c_123_26 rfl (by decide) (q_iconst c_123_33 (v_cv c_123_34 km_7_161 rfl rfl (nb_ rfl) ⟨⟨rfl, rfl⟩, nb_ rfl, rfl⟩ (nb_ rfl) (nb_ rfl) (q_iload_n c_81_0 rfl ?_)))))))
            refine v_if_ne_f (t := 25) c_81_1 rfl (by decide) (q_aload_n c_81_4 rfl (q_dup c_81_5 rfl ?_))
            have h_32 := ir_0_13 hI
            refine v_gi (z := 13) (v := c 0 13) c_81_6 kf_7_330 rfl (nb_ rfl) rfl rfl rfl (q_iconst c_81_9 (v_iadd (v := c 0 13 + 1) c_81_10 rfl (v_nrm (fun y_33 hy_33 => (v_pi (z := 13) c_81_11 kf_7_330 rfl (nb_ rfl) rfl rfl rfl (by decide) (v_new c_81_14 rfl (by decide) (ld_ rfl) (nb_ rfl) (by decide) rfl (bk_out rfl rfl ?_)))))))
            have hI_34 := iw_0_13 (v := y_33) hI ⟨hy_33.1, hy_33.2⟩
            exact T101 _ hI_34 (fun a j hm => up_b (Decidable.or_iff_not_imp_left.mpr (fun h1 h2 => hm (Or.inl ⟨Decidable.not_not.mp h1, h2⟩))))
          · refine v_ic_gt_f (t := 14) c_80_7 rfl ⟨ha3.1, (Int.not_lt.mp h_31), by decide⟩ (q_iconst c_80_10 (q_goto (t := 15) c_80_11 rfl (v_zret c_80_15 rfl (by decide) (bk_inl (v_if_eq_f (t := 33) c_123_26 rfl (by decide) (q_iconst c_123_29 (q_goto (t := 34) c_123_30 rfl ?_)))))))
            refine v_cv c_123_34 km_7_161 rfl rfl (nb_ rfl) ⟨⟨rfl, rfl⟩, nb_ rfl, rfl⟩ (nb_ rfl) (nb_ rfl) (q_iload_n c_81_0 rfl (v_if_ne_t (t := 25) c_81_1 rfl (by decide) (q_vret rfl rfl (bk_inl (q_iload_n c_123_37 rfl (q_aload_n c_123_38 rfl (v_gr (t := 37) c_123_39 kf_7_62 rfl (nb_ rfl) rfl ?_)))))))
            refine v_cv c_123_42 km_7_181 rfl rfl (nb_ rfl) ⟨⟨rfl, rfl⟩, nb_ rfl, rfl⟩ (nb_ rfl) (nb_ rfl) (s_70 hI (.inl ⟨rfl, rfl⟩) (fun y_35 hy_35 => (bk_inl (q_iconst c_123_45 (v_ixorx c_123_46 (fun y_36 hy_36 => (v_iandl c_123_47 ⟨by omega, by omega⟩ (fun y_37 hy_37 => (q_istore c_123_48 (nb_ rfl) (q_aload_n c_123_50 rfl (v_cv c_123_51 km_7_266 rfl rfl (nb_ rfl) ⟨⟨rfl, rfl⟩, nb_ rfl, rfl⟩ (nb_ rfl) (nb_ rfl) (s_120 hI (fun c_38 hI_39 hF_40 => ?_)))))))))))))
            refine bk_inl (q_iconst c_123_54 (q_istore c_123_55 (nb_ rfl) (q_iconst c_123_57 (q_istore c_123_58 (nb_ rfl) (Wp_ls [(0, .ref 0), (1, vi a1), (2, vi a2), (3, vi a3), (4, vi y_37), (5, vi 0), (6, vi 1)] (lsub_cons rfl (lsub_cons rfl (lsub_cons rfl (lsub_cons rfl (lsub_cons rfl (lsub_cons rfl (lsub_cons rfl lsub_nil))))))) ?_)))))
            exact (s_123_l (sc := sc) (d := d) hI ha1 ha2 ha3 T101 K 130) c_38 y_37 0 1 hI_39 (fun a j hm => hF_40 a j (qv_e2e2522af hm)) ⟨by first | (clear ha1 ha2 ha3 h_19 h_23 h_27 h_31 h_14 h_15; omega) | omega, by omega⟩ ⟨by decide, by decide⟩ ⟨by decide, by decide⟩ (by omega)

set_option maxRecDepth 100000 in
set_option maxHeartbeats 4000000 in
theorem s_124_l {sc : List Int32} {e : Int} {d u P Q : Nat} {c : ME} {a1 : Int} {a2 : Int} {Z : AR → Prop} (hI : Iv u e P Q c) (ha1 : (-2147483648) ≤ a1 ∧ a1 ≤ 2147483647) (ha2 : (-2147483648) ≤ a2 ∧ a2 ≤ 2147483647) (K : ∀ (y : Int), (-2147483648) ≤ y ∧ y ≤ 2147483647 → Z (.inl (some (vi y)), Wd P Q P P c, 0, 0)) : ∀ n : Nat, (∀ (v3 : Int) (v4 : Int), (-2147483648) ≤ v3 ∧ v3 ≤ 2147483647 → 0 ≤ v4 ∧ v4 ≤ 6 → 13 - 2 * v4 < (n : Int) → Wp sc (d + 8) 124 5 [(0, .ref 0), (1, vi a1), (2, vi a2), (3, vi v3), (4, vi v4)] [] (Wd P Q P P c) 0 0 Z) := by
  intro n
  induction n with
  | zero => exact (by intro v3 v4 hv3 hv4 hm9; have hP := iv_P hI; have hQ := iv_Q hI; exfalso; omega)
  | succ n ih =>
    have hP := iv_P hI
    have hQ := iv_Q hI
    intro v3 v4 hv3 hv4 hm9
    refine q_iload c_124_5 rfl (q_aload_n c_124_7 rfl (v_gr (t := P) c_124_8 kf_7_50 rfl (nb_ rfl) rfl ?_))
    have h_1 := ir_p0_0 hI hP
    refine v_gi (z := 0) (v := c P 0) c_124_11 kf_7_102 (ck_p0 hP) (a68z hP) rfl rfl rfl ?_
    by_cases h_2 : v4 ≥ c P 0
    · refine v_ic_ge_t (t := 49) c_124_14 rfl ⟨(Int.le_trans (by decide) h_1.1), h_2, (Int.le_trans hv4.2 (by decide))⟩ (q_iload_n c_124_49 rfl (q_iret c_124_50 rfl ?_))
      exact K v3 hv3
    · refine v_ic_ge_f (t := 49) c_124_14 rfl ⟨(Int.le_trans (by decide) hv4.1), (Int.not_le.mp h_2), (Int.le_trans h_1.2 (by decide))⟩ (q_iload_n c_124_17 rfl (q_iload c_124_18 rfl (v_ishrx c_124_20 (fun y_3 hy_3 => (q_iconst c_124_21 (v_iandx c_124_22 (fun y_4 hy_4 => (q_iconst c_124_23 ?_))))))))
      by_cases h_5 : y_4 ≠ 1
      · refine v_ic_ne_t (t := 43) c_124_24 rfl ⟨h_5, ⟨hy_4.1, hy_4.2⟩, by decide, by decide⟩ (v_iinc (v := v4 + 1) c_124_43 rfl (nb_ rfl) rfl (q_goto (t := 5) c_124_46 rfl (Wp_ls [(0, .ref 0), (1, vi a1), (2, vi a2), (3, vi v3), (4, vi (v4 + 1))] (lsub_cons rfl (lsub_cons rfl (lsub_cons rfl (lsub_cons rfl (lsub_cons rfl lsub_nil))))) ?_)))
        exact ih v3 (v4 + 1) hv3 ⟨by first | exact rgp_l hv4.1 (by decide) | omega, by first | exact q_4a76cd9c7 h_1 h_2 | omega⟩ (by omega)
      · refine v_ic_ne_f (t := 43) c_124_24 rfl (Decidable.not_not.mp h_5) (q_iload_n c_124_27 rfl (q_aload_n c_124_28 rfl (v_gr (t := 37) c_124_29 kf_7_62 rfl (nb_ rfl) rfl (q_iload c_124_32 rfl ?_))))
        have h_6 := ir_38_g hI (j := 4 * v4) (by first | exact q_aa51b186e h_1 h_2 | omega)
        have h_7 := ir_38_g hI (j := 4 * v4 + 1) (by first | exact q_57851f9de h_1 h_2 | omega)
        have h_8 := ir_38_g hI (j := 4 * v4 + 2) (by first | exact q_7296e74e6 h_1 h_2 | omega)
        have h_9 := ir_38_g hI (j := 4 * v4 + 3) (by first | exact q_b15525c4c h_1 h_2 | omega)
        refine v_cv c_124_34 km_7_187 rfl rfl (nb_ rfl) ⟨⟨rfl, rfl⟩, nb_ rfl, rfl⟩ (nb_ rfl) (nb_ rfl) (s_43 (v1 := c 38 (4 * v4)) (v2 := c 38 (4 * v4 + 1)) (v3 := c 38 (4 * v4 + 2)) (v4 := c 38 (4 * v4 + 3)) (r := c 38 (4 * v4 + 1) + c 38 (4 * v4 + 2) + c 38 (4 * v4 + 3) + c 38 (4 * v4)) (a1 := v4) hI (.inl ⟨rfl, rfl⟩) (show 0 ≤ v4 ∧ v4 ≤ 5 from ⟨hv4.1, by first | exact q_d63a8538e h_1 h_2 | omega⟩) (rfl) (rfl) (rfl) (rfl) (by omega) (bk_inl (q_iload_n c_124_37 rfl (v_minx c_124_38 rfl (by omega) (nb_ rfl) ⟨by omega, by omega, by omega, by omega⟩ (fun y_10 hy_10 => (v_iadd (v := v3 + y_10) c_124_41 rfl (v_nrm (fun y_11 hy_11 => (q_istore_n c_124_42 (nb_ rfl) (v_iinc (v := v4 + 1) c_124_43 rfl (nb_ rfl) rfl ?_))))))))))
        refine q_goto (t := 5) c_124_46 rfl (Wp_ls [(0, .ref 0), (1, vi a1), (2, vi a2), (3, vi y_11), (4, vi (v4 + 1))] (lsub_cons rfl (lsub_cons rfl (lsub_cons rfl (lsub_cons rfl (lsub_cons rfl lsub_nil))))) ?_)
        exact ih y_11 (v4 + 1) hy_11 ⟨by first | exact rgp_l hv4.1 (by decide) | omega, by first | exact q_4a76cd9c7 h_1 h_2 | omega⟩ (by omega)
set_option maxRecDepth 100000 in
set_option maxHeartbeats 4000000 in
theorem s_124 {sc : List Int32} {e : Int} {d u P Q : Nat} {c : ME} {a1 : Int} {a2 : Int} {Z : AR → Prop} (hI : Iv u e P Q c) (ha1 : (-2147483648) ≤ a1 ∧ a1 ≤ 2147483647) (ha2 : (-2147483648) ≤ a2 ∧ a2 ≤ 2147483647) (K : ∀ (y : Int), (-2147483648) ≤ y ∧ y ≤ 2147483647 → Z (.inl (some (vi y)), Wd P Q P P c, 0, 0)) : Wp sc (d + 8) 124 0 [(0, .ref 0), (1, vi a1), (2, vi a2)] [] (Wd P Q P P c) 0 0 Z := by
  have hP := iv_P hI
  have hQ := iv_Q hI
  refine q_iconst c_124_0 (q_istore_n c_124_1 (nb_ rfl) (q_iconst c_124_2 (q_istore c_124_3 (nb_ rfl) (Wp_ls [(0, .ref 0), (1, vi a1), (2, vi a2), (3, vi 0), (4, vi 0)] (lsub_cons rfl (lsub_cons rfl (lsub_cons rfl (lsub_cons rfl (lsub_cons rfl lsub_nil))))) ?_))))
  exact (s_124_l (sc := sc) (d := d) hI ha1 ha2 K 16) 0 0 ⟨by decide, by decide⟩ ⟨by decide, by decide⟩ (by omega)

set_option maxRecDepth 100000 in
set_option maxHeartbeats 4000000 in
theorem s_125_l {sc : List Int32} {e : Int} {d u P Q : Nat} {c : ME} {a1 : Int} {a2 : Int} {a3 : Int} {Z : AR → Prop} (hI : Iv u e P Q c) (ha1 : (-2147483648) ≤ a1 ∧ a1 ≤ 2147483647) (ha2 : (-2147483648) ≤ a2 ∧ a2 ≤ 2147483647) (ha3 : (-2147483648) ≤ a3 ∧ a3 ≤ 2147483647) (T100 : ∀ c2 : ME, Iv u e P Q c2 → (∀ (a : Nat) (j : Int), ¬ ((a = 0 ∧ j = 12) ∨ (a = 0 ∧ j = 13)) → c2 a j = c a j) → Z (.inr 100, Wd P Q P P c2, 1, 6)) (T101 : ∀ c2 : ME, Iv u e P Q c2 → (∀ (a : Nat) (j : Int), ¬ ((a = 0 ∧ j = 12) ∨ (a = 0 ∧ j = 13)) → c2 a j = c a j) → Z (.inr 101, Wd P Q P P c2, 1, 6)) (K : ∀ (c2 : ME) (y : Int), Iv u e P Q c2 → (∀ (a : Nat) (j : Int), ¬ ((a = 0 ∧ j = 12) ∨ (a = 0 ∧ j = 13)) → c2 a j = c a j) → (-2147483648) ≤ y ∧ y ≤ 2147483647 → Z (.inl (some (vi y)), Wd P Q P P c2, 0, 0)) : ∀ n : Nat, (∀ (c2 : ME) (v4 : Int) (v5 : Int) (v6 : Int), Iv u e P Q c2 → (∀ (a : Nat) (j : Int), ¬ ((a = 0 ∧ j = 12) ∨ (a = 0 ∧ j = 13)) → c2 a j = c a j) → 0 ≤ v4 ∧ v4 ≤ 9999 → 0 ≤ v5 ∧ v5 ≤ 10000 → 0 ≤ v6 ∧ v6 ≤ 32 → ((a1 ≥ 0 ∧ a1 ≤ 5)) → 65 - 2 * v6 < (n : Int) → Wp sc (d + 9) 125 54 [(0, .ref 0), (1, vi a1), (2, vi a2), (3, vi a3), (4, vi v4), (5, vi v5), (6, vi v6)] [] (Wd P Q P P c2) 0 0 Z) := by
  intro n
  induction n with
  | zero => exact (by intro c2 v4 v5 v6 hI2 hF hv4 hv5 hv6 hx0 hm9; have hP := iv_P hI; have hQ := iv_Q hI; exfalso; omega)
  | succ n ih =>
    have hP := iv_P hI
    have hQ := iv_Q hI
    intro c2 v4 v5 v6 hI2 hF hv4 hv5 hv6 hx0 hm9
    refine q_iload c_125_54 rfl (v_bip c_125_56 (by decide) ?_)
    by_cases h_1 : v6 ≥ 32
    · refine v_ic_ge_t (t := 107) c_125_58 rfl ⟨by decide, h_1, (Int.le_trans hv6.2 (by decide))⟩ (q_aload_n c_125_107 rfl (v_gr (t := 37) c_125_108 kf_7_62 rfl (nb_ rfl) rfl (q_iload_n c_125_111 rfl ?_)))
      have h_2 := ir_38_g hI (j := 4 * a1) (by omega)
      have kn_3 : Hid (c2 38 (4 * a1) = c 38 (4 * a1)) := hF 38 (4 * a1) (fun q => q.elim (fun h => absurd h.1 (nn rfl)) (fun h => absurd h.1 (nn rfl)))
      have h_4 := ir_38_g hI (j := 4 * a1 + 1) (by omega)
      have kn_5 : Hid (c2 38 (4 * a1 + 1) = c 38 (4 * a1 + 1)) := hF 38 (4 * a1 + 1) (fun q => q.elim (fun h => absurd h.1 (nn rfl)) (fun h => absurd h.1 (nn rfl)))
      have h_6 := ir_38_g hI (j := 4 * a1 + 2) (by omega)
      have kn_7 : Hid (c2 38 (4 * a1 + 2) = c 38 (4 * a1 + 2)) := hF 38 (4 * a1 + 2) (fun q => q.elim (fun h => absurd h.1 (nn rfl)) (fun h => absurd h.1 (nn rfl)))
      have h_8 := ir_38_g hI (j := 4 * a1 + 3) (by omega)
      have kn_9 : Hid (c2 38 (4 * a1 + 3) = c 38 (4 * a1 + 3)) := hF 38 (4 * a1 + 3) (fun q => q.elim (fun h => absurd h.1 (nn rfl)) (fun h => absurd h.1 (nn rfl)))
      refine v_cv c_125_112 km_7_187 rfl rfl (nb_ rfl) ⟨⟨rfl, rfl⟩, nb_ rfl, rfl⟩ (nb_ rfl) (nb_ rfl) (s_43 (v1 := c 38 (4 * a1)) (v2 := c 38 (4 * a1 + 1)) (v3 := c 38 (4 * a1 + 2)) (v4 := c 38 (4 * a1 + 3)) (r := c 38 (4 * a1 + 1) + c 38 (4 * a1 + 2) + c 38 (4 * a1 + 3) + c 38 (4 * a1)) (a1 := a1) hI2 (.inl ⟨rfl, rfl⟩) (show 0 ≤ a1 ∧ a1 ≤ 5 from ⟨by omega, by omega⟩) ((hid kn_3)) ((hid kn_5)) ((hid kn_7)) ((hid kn_9)) (by omega) (bk_inl (q_iload c_125_115 rfl (v_minx c_125_117 rfl (by omega) (nb_ rfl) ⟨by omega, by omega, by omega, by omega⟩ (fun y_10 hy_10 => (q_iret c_125_120 rfl ?_))))))
      exact K c2 y_10 hI2 (fun a j hm => hF a j hm) ⟨by omega, by omega⟩
    · refine v_ic_ge_f (t := 107) c_125_58 rfl ⟨(Int.le_trans (by decide) hv6.1), (Int.not_le.mp h_1), by decide⟩ (q_iload c_125_61 rfl (q_iload c_125_63 rfl (v_isub (v := v5 - v4) c_125_65 rfl (q_iconst c_125_66 ?_))))
      by_cases h_11 : v5 - v4 ≤ 1
      · refine v_ic_le_t (t := 107) c_125_67 rfl ⟨by first | exact q_9f800265d hv4 hv5 | omega, h_11, by decide⟩ (q_aload_n c_125_107 rfl (v_gr (t := 37) c_125_108 kf_7_62 rfl (nb_ rfl) rfl (q_iload_n c_125_111 rfl ?_)))
        have h_12 := ir_38_g hI (j := 4 * a1) (by omega)
        have kn_13 : Hid (c2 38 (4 * a1) = c 38 (4 * a1)) := hF 38 (4 * a1) (fun q => q.elim (fun h => absurd h.1 (nn rfl)) (fun h => absurd h.1 (nn rfl)))
        have h_14 := ir_38_g hI (j := 4 * a1 + 1) (by omega)
        have kn_15 : Hid (c2 38 (4 * a1 + 1) = c 38 (4 * a1 + 1)) := hF 38 (4 * a1 + 1) (fun q => q.elim (fun h => absurd h.1 (nn rfl)) (fun h => absurd h.1 (nn rfl)))
        have h_16 := ir_38_g hI (j := 4 * a1 + 2) (by omega)
        have kn_17 : Hid (c2 38 (4 * a1 + 2) = c 38 (4 * a1 + 2)) := hF 38 (4 * a1 + 2) (fun q => q.elim (fun h => absurd h.1 (nn rfl)) (fun h => absurd h.1 (nn rfl)))
        have h_18 := ir_38_g hI (j := 4 * a1 + 3) (by omega)
        have kn_19 : Hid (c2 38 (4 * a1 + 3) = c 38 (4 * a1 + 3)) := hF 38 (4 * a1 + 3) (fun q => q.elim (fun h => absurd h.1 (nn rfl)) (fun h => absurd h.1 (nn rfl)))
        refine v_cv c_125_112 km_7_187 rfl rfl (nb_ rfl) ⟨⟨rfl, rfl⟩, nb_ rfl, rfl⟩ (nb_ rfl) (nb_ rfl) (s_43 (v1 := c 38 (4 * a1)) (v2 := c 38 (4 * a1 + 1)) (v3 := c 38 (4 * a1 + 2)) (v4 := c 38 (4 * a1 + 3)) (r := c 38 (4 * a1 + 1) + c 38 (4 * a1 + 2) + c 38 (4 * a1 + 3) + c 38 (4 * a1)) (a1 := a1) hI2 (.inl ⟨rfl, rfl⟩) (show 0 ≤ a1 ∧ a1 ≤ 5 from ⟨by omega, by omega⟩) ((hid kn_13)) ((hid kn_15)) ((hid kn_17)) ((hid kn_19)) (by omega) (bk_inl (q_iload c_125_115 rfl (v_minx c_125_117 rfl (by omega) (nb_ rfl) ⟨by omega, by omega, by omega, by omega⟩ (fun y_20 hy_20 => (q_iret c_125_120 rfl ?_))))))
        exact K c2 y_20 hI2 (fun a j hm => hF a j hm) ⟨by omega, by omega⟩
      · refine v_ic_le_f (t := 107) c_125_67 rfl ⟨by decide, (Int.not_le.mp h_11), by first | exact q_547ca4f0e hv4 hv5 | omega⟩ (q_iload c_125_70 rfl (q_iload c_125_72 rfl (v_iadd (v := v4 + v5) c_125_74 rfl (q_iconst c_125_75 (v_idiv (v := ((v4 + v5) / 2)) c_125_76 (by omega) rfl (q_istore c_125_77 (nb_ rfl) (q_aload_n c_125_79 rfl ?_)))))))
        refine q_iload_n c_125_80 rfl (q_iload c_125_81 rfl (v_cv c_125_83 km_7_275 rfl rfl (nb_ rfl) ⟨⟨rfl, rfl⟩, nb_ rfl, rfl⟩ (nb_ rfl) (nb_ rfl) (s_124 (a1 := a2) (a2 := ((v4 + v5) / 2)) hI2 (show (-2147483648) ≤ a2 ∧ a2 ≤ 2147483647 from ha2) (show (-2147483648) ≤ ((v4 + v5) / 2) ∧ ((v4 + v5) / 2) ≤ 2147483647 from ⟨by omega, by omega⟩) (fun y_21 hy_21 => (bk_inl (q_iload_n c_125_86 rfl ?_))))))
        by_cases h_22 : y_21 > a3
        · refine v_ic_gt_t (t := 97) c_125_87 rfl ⟨ha3.1, h_22, hy_21.2⟩ (q_iload c_125_97 rfl (q_istore c_125_99 (nb_ rfl) (v_iinc (v := v6 + 1) c_125_101 rfl (nb_ rfl) rfl (q_goto (t := 54) c_125_104 rfl (Wp_ls [(0, .ref 0), (1, vi a1), (2, vi a2), (3, vi a3), (4, vi v4), (5, vi ((v4 + v5) / 2)), (6, vi (v6 + 1))] (lsub_cons rfl (lsub_cons rfl (lsub_cons rfl (lsub_cons rfl (lsub_cons rfl (lsub_cons rfl (lsub_cons rfl lsub_nil))))))) ?_)))))
          exact ih c2 v4 ((v4 + v5) / 2) (v6 + 1) hI2 (fun a j hm => hF a j hm) hv4 ⟨by omega, by omega⟩ ⟨by first | exact rgp_l hv6.1 (by decide) | omega, by first | exact q_7266516b7 h_1 | omega⟩ ⟨by omega, by omega⟩ (by omega)
        · refine v_ic_gt_f (t := 97) c_125_87 rfl ⟨hy_21.1, (Int.not_lt.mp h_22), ha3.2⟩ (q_iload c_125_90 rfl (q_istore c_125_92 (nb_ rfl) (q_goto (t := 101) c_125_94 rfl (v_iinc (v := v6 + 1) c_125_101 rfl (nb_ rfl) rfl (q_goto (t := 54) c_125_104 rfl (Wp_ls [(0, .ref 0), (1, vi a1), (2, vi a2), (3, vi a3), (4, vi ((v4 + v5) / 2)), (5, vi v5), (6, vi (v6 + 1))] (lsub_cons rfl (lsub_cons rfl (lsub_cons rfl (lsub_cons rfl (lsub_cons rfl (lsub_cons rfl (lsub_cons rfl lsub_nil))))))) ?_))))))
          exact ih c2 ((v4 + v5) / 2) v5 (v6 + 1) hI2 (fun a j hm => hF a j hm) ⟨by omega, by omega⟩ hv5 ⟨by first | exact rgp_l hv6.1 (by decide) | omega, by first | exact q_7266516b7 h_1 | omega⟩ ⟨by omega, by omega⟩ (by omega)
set_option maxRecDepth 100000 in
set_option maxHeartbeats 4000000 in
theorem s_125 {sc : List Int32} {e : Int} {d u P Q : Nat} {c : ME} {a1 : Int} {a2 : Int} {a3 : Int} {Z : AR → Prop} (hI : Iv u e P Q c) (ha1 : (-2147483648) ≤ a1 ∧ a1 ≤ 2147483647) (ha2 : (-2147483648) ≤ a2 ∧ a2 ≤ 2147483647) (ha3 : (-2147483648) ≤ a3 ∧ a3 ≤ 2147483647) (T100 : ∀ c2 : ME, Iv u e P Q c2 → (∀ (a : Nat) (j : Int), ¬ ((a = 0 ∧ j = 12) ∨ (a = 0 ∧ j = 13)) → c2 a j = c a j) → Z (.inr 100, Wd P Q P P c2, 1, 6)) (T101 : ∀ c2 : ME, Iv u e P Q c2 → (∀ (a : Nat) (j : Int), ¬ ((a = 0 ∧ j = 12) ∨ (a = 0 ∧ j = 13)) → c2 a j = c a j) → Z (.inr 101, Wd P Q P P c2, 1, 6)) (K : ∀ (c2 : ME) (y : Int), Iv u e P Q c2 → (∀ (a : Nat) (j : Int), ¬ ((a = 0 ∧ j = 12) ∨ (a = 0 ∧ j = 13)) → c2 a j = c a j) → (-2147483648) ≤ y ∧ y ≤ 2147483647 → Z (.inl (some (vi y)), Wd P Q P P c2, 0, 0)) : Wp sc (d + 9) 125 0 [(0, .ref 0), (1, vi a1), (2, vi a2), (3, vi a3)] [] (Wd P Q P P c) 0 0 Z := by
  have hP := iv_P hI
  have hQ := iv_Q hI
  refine q_aload_n c_125_0 rfl (q_iload_n c_125_1 rfl (v_cv c_125_2 km_7_184 rfl rfl (nb_ rfl) ⟨⟨rfl, rfl⟩, nb_ rfl, rfl⟩ (nb_ rfl) (nb_ rfl) (q_aload_n c_92_0 rfl (q_iload_n c_92_1 rfl (q_iconst c_92_2 (q_aload_n c_92_3 rfl (v_gr (t := P) c_92_4 kf_7_50 rfl (nb_ rfl) rfl ?_)))))))
  have h_23 := ir_p0_0 hI hP
  refine v_gi (z := 0) (v := c P 0) c_92_7 kf_7_102 (ck_p0 hP) (a68z hP) rfl rfl rfl (q_iconst c_92_10 (v_isub (v := c P 0 - 1) c_92_11 rfl (q_call c_92_12 rfl rfl rfl (q_iload_n c_80_0 rfl (q_iload_n c_80_1 rfl ?_)))))
  by_cases h_24 : a1 < 0
  · refine v_ic_lt_t (t := 14) c_80_2 rfl ⟨ha1.1, h_24, by decide⟩ (q_iconst c_80_14 (v_zret c_80_15 rfl (by decide) (bk_inl (v_cv c_92_15 km_7_333 rfl rfl (nb_ rfl) ⟨⟨rfl, rfl⟩, nb_ rfl, rfl⟩ (nb_ rfl) (nb_ rfl) (q_iload_n c_91_0 rfl (v_if_ne_f (t := 25) c_91_1 rfl (by decide) (q_aload_n c_91_4 rfl ?_)))))))
    refine q_dup c_91_5 rfl ?_
    have h_25 := ir_0_12 hI
    refine v_gi (z := 12) (v := c 0 12) c_91_6 kf_7_327 rfl (nb_ rfl) rfl rfl rfl (q_iconst c_91_9 (v_iadd (v := c 0 12 + 1) c_91_10 rfl (v_nrm (fun y_26 hy_26 => (v_pi (z := 12) c_91_11 kf_7_327 rfl (nb_ rfl) rfl rfl rfl (by decide) (v_new c_91_14 rfl (by decide) (ld_ rfl) (nb_ rfl) (by decide) rfl (bk_out rfl rfl (bk_out rfl rfl ?_))))))))
    have hI_27 := iw_0_12 (v := y_26) hI ⟨hy_26.1, hy_26.2⟩
    exact T100 _ hI_27 (fun a j hm => up_b (Decidable.or_iff_not_imp_left.mpr (fun h1 h2 => hm (Or.inl ⟨Decidable.not_not.mp h1, h2⟩))))
  · refine v_ic_lt_f (t := 14) c_80_2 rfl ⟨by decide, (Int.not_lt.mp h_24), ha1.2⟩ (q_iload_n c_80_5 rfl (q_iload_n c_80_6 rfl ?_))
    by_cases h_28 : a1 > c P 0 - 1
    · refine v_ic_gt_t (t := 14) c_80_7 rfl ⟨by first | exact rgm_l h_23.1 (by decide) | omega, h_28, ha1.2⟩ (q_iconst c_80_14 (v_zret c_80_15 rfl (by decide) (bk_inl (v_cv c_92_15 km_7_333 rfl rfl (nb_ rfl) ⟨⟨rfl, rfl⟩, nb_ rfl, rfl⟩ (nb_ rfl) (nb_ rfl) (q_iload_n c_91_0 rfl (v_if_ne_f (t := 25) c_91_1 rfl (by decide) (q_aload_n c_91_4 rfl ?_)))))))
      refine q_dup c_91_5 rfl ?_
      have h_29 := ir_0_12 hI
      refine v_gi (z := 12) (v := c 0 12) c_91_6 kf_7_327 rfl (nb_ rfl) rfl rfl rfl (q_iconst c_91_9 (v_iadd (v := c 0 12 + 1) c_91_10 rfl (v_nrm (fun y_30 hy_30 => (v_pi (z := 12) c_91_11 kf_7_327 rfl (nb_ rfl) rfl rfl rfl (by decide) (v_new c_91_14 rfl (by decide) (ld_ rfl) (nb_ rfl) (by decide) rfl (bk_out rfl rfl (bk_out rfl rfl ?_))))))))
      have hI_31 := iw_0_12 (v := y_30) hI ⟨hy_30.1, hy_30.2⟩
      exact T100 _ hI_31 (fun a j hm => up_b (Decidable.or_iff_not_imp_left.mpr (fun h1 h2 => hm (Or.inl ⟨Decidable.not_not.mp h1, h2⟩))))
    · refine v_ic_gt_f (t := 14) c_80_7 rfl ⟨ha1.1, (Int.not_lt.mp h_28), by first | exact rgm_h h_23.2 (by decide) | omega⟩ (q_iconst c_80_10 (q_goto (t := 15) c_80_11 rfl (v_zret c_80_15 rfl (by decide) (bk_inl (v_cv c_92_15 km_7_333 rfl rfl (nb_ rfl) ⟨⟨rfl, rfl⟩, nb_ rfl, rfl⟩ (nb_ rfl) (nb_ rfl) (q_iload_n c_91_0 rfl (v_if_ne_t (t := 25) c_91_1 rfl (by decide) ?_)))))))
      refine q_vret rfl rfl (bk_inl (q_vret rfl rfl (bk_inl (q_aload_n c_125_5 rfl (q_aload_n c_125_6 rfl (q_iload_n c_125_7 rfl (v_cv c_125_8 km_7_259 rfl rfl (nb_ rfl) ⟨⟨rfl, rfl⟩, nb_ rfl, rfl⟩ (nb_ rfl) (nb_ rfl) (s_117 (a1 := a2) hI (show (-2147483648) ≤ a2 ∧ a2 ≤ 2147483647 from ha2) (fun y_32 hy_32 h_33 => ?_)))))))))
      refine bk_inl ?_
      by_cases h_34 : y_32 = 0
      · refine v_if_eq_t (t := 29) c_125_11 rfl h_34 (q_iconst c_125_29 (v_cv c_125_30 km_7_161 rfl rfl (nb_ rfl) ⟨⟨rfl, rfl⟩, nb_ rfl, rfl⟩ (nb_ rfl) (nb_ rfl) (q_iload_n c_81_0 rfl (v_if_ne_f (t := 25) c_81_1 rfl (by decide) (q_aload_n c_81_4 rfl (q_dup c_81_5 rfl ?_))))))
        have h_35 := ir_0_13 hI
        refine v_gi (z := 13) (v := c 0 13) c_81_6 kf_7_330 rfl (nb_ rfl) rfl rfl rfl (q_iconst c_81_9 (v_iadd (v := c 0 13 + 1) c_81_10 rfl (v_nrm (fun y_36 hy_36 => (v_pi (z := 13) c_81_11 kf_7_330 rfl (nb_ rfl) rfl rfl rfl (by decide) (v_new c_81_14 rfl (by decide) (ld_ rfl) (nb_ rfl) (by decide) rfl (bk_out rfl rfl ?_)))))))
        have hI_37 := iw_0_13 (v := y_36) hI ⟨hy_36.1, hy_36.2⟩
        exact T101 _ hI_37 (fun a j hm => up_b (Decidable.or_iff_not_imp_left.mpr (fun h1 h2 => hm (Or.inr ⟨Decidable.not_not.mp h1, h2⟩))))
      · refine v_if_eq_f (t := 29) c_125_11 rfl ⟨h_34, ⟨(Int.le_trans (by decide) hy_32.1), (Int.le_trans hy_32.2 (by decide))⟩, by decide, by decide⟩ (q_iload_n c_125_14 rfl (q_iconst c_125_15 (v_ldcw (n := 99999) c_125_16 rfl (by decide +kernel) (q_call c_125_19 rfl rfl rfl (q_iload_n c_80_0 rfl (q_iload_n c_80_1 rfl ?_))))))
        by_cases h_38 : a3 < 0
        · refine v_ic_lt_t (t := 14) c_80_2 rfl ⟨ha3.1, h_38, by decide⟩ (q_iconst c_80_14 (v_zret c_80_15 rfl (by decide) (bk_inl (v_if_eq_t (t := 29) c_125_22 rfl (by decide) (q_iconst c_125_29 (v_cv c_125_30 km_7_161 rfl rfl (nb_ rfl) ⟨⟨rfl, rfl⟩, nb_ rfl, rfl⟩ (nb_ rfl) (nb_ rfl) (q_iload_n c_81_0 rfl ?_)))))))
          refine v_if_ne_f (t := 25) c_81_1 rfl (by decide) (q_aload_n c_81_4 rfl (q_dup c_81_5 rfl ?_))
          have h_39 := ir_0_13 hI
          refine v_gi (z := 13) (v := c 0 13) c_81_6 kf_7_330 rfl (nb_ rfl) rfl rfl rfl (q_iconst c_81_9 (v_iadd (v := c 0 13 + 1) c_81_10 rfl (v_nrm (fun y_40 hy_40 => (v_pi (z := 13) c_81_11 kf_7_330 rfl (nb_ rfl) rfl rfl rfl (by decide) (v_new c_81_14 rfl (by decide) (ld_ rfl) (nb_ rfl) (by decide) rfl (bk_out rfl rfl ?_)))))))
          have hI_41 := iw_0_13 (v := y_40) hI ⟨hy_40.1, hy_40.2⟩
          exact T101 _ hI_41 (fun a j hm => up_b (Decidable.or_iff_not_imp_left.mpr (fun h1 h2 => hm (Or.inr ⟨Decidable.not_not.mp h1, h2⟩))))
        · refine v_ic_lt_f (t := 14) c_80_2 rfl ⟨by decide, (Int.not_lt.mp h_38), ha3.2⟩ (q_iload_n c_80_5 rfl (q_iload_n c_80_6 rfl ?_))
          by_cases h_42 : a3 > 99999
          · refine v_ic_gt_t (t := 14) c_80_7 rfl ⟨by decide, h_42, ha3.2⟩ (q_iconst c_80_14 (v_zret c_80_15 rfl (by decide) (bk_inl (v_if_eq_t (t := 29) c_125_22 rfl (by decide) (q_iconst c_125_29 (v_cv c_125_30 km_7_161 rfl rfl (nb_ rfl) ⟨⟨rfl, rfl⟩, nb_ rfl, rfl⟩ (nb_ rfl) (nb_ rfl) (q_iload_n c_81_0 rfl ?_)))))))
            refine v_if_ne_f (t := 25) c_81_1 rfl (by decide) (q_aload_n c_81_4 rfl (q_dup c_81_5 rfl ?_))
            have h_43 := ir_0_13 hI
            refine v_gi (z := 13) (v := c 0 13) c_81_6 kf_7_330 rfl (nb_ rfl) rfl rfl rfl (q_iconst c_81_9 (v_iadd (v := c 0 13 + 1) c_81_10 rfl (v_nrm (fun y_44 hy_44 => (v_pi (z := 13) c_81_11 kf_7_330 rfl (nb_ rfl) rfl rfl rfl (by decide) (v_new c_81_14 rfl (by decide) (ld_ rfl) (nb_ rfl) (by decide) rfl (bk_out rfl rfl ?_)))))))
            have hI_45 := iw_0_13 (v := y_44) hI ⟨hy_44.1, hy_44.2⟩
            exact T101 _ hI_45 (fun a j hm => up_b (Decidable.or_iff_not_imp_left.mpr (fun h1 h2 => hm (Or.inr ⟨Decidable.not_not.mp h1, h2⟩))))
          · refine v_ic_gt_f (t := 14) c_80_7 rfl ⟨ha3.1, (Int.not_lt.mp h_42), by decide⟩ (q_iconst c_80_10 (q_goto (t := 15) c_80_11 rfl (v_zret c_80_15 rfl (by decide) (bk_inl (v_if_eq_f (t := 29) c_125_22 rfl (by decide) (q_iconst c_125_25 (q_goto (t := 30) c_125_26 rfl ?_)))))))
            refine v_cv c_125_30 km_7_161 rfl rfl (nb_ rfl) ⟨⟨rfl, rfl⟩, nb_ rfl, rfl⟩ (nb_ rfl) (nb_ rfl) (q_iload_n c_81_0 rfl (v_if_ne_t (t := 25) c_81_1 rfl (by decide) (q_vret rfl rfl (bk_inl (q_iload_n c_125_33 rfl (q_iload_n c_125_34 rfl (v_ishrx c_125_35 (fun y_46 hy_46 => ?_))))))))
            refine q_iconst c_125_36 (v_iandx c_125_37 (fun y_47 hy_47 => ?_))
            by_cases h_48 : y_47 ≠ 0
            · refine v_if_ne_t (t := 43) c_125_38 rfl ⟨h_48, ⟨hy_47.1, hy_47.2⟩, by decide, by decide⟩ (q_iconst c_125_43 (q_istore c_125_44 (nb_ rfl) (v_sip c_125_46 (by decide) (q_istore c_125_49 (nb_ rfl) (q_iconst c_125_51 (q_istore c_125_52 (nb_ rfl) (Wp_ls [(0, .ref 0), (1, vi a1), (2, vi a2), (3, vi a3), (4, vi 0), (5, vi 10000), (6, vi 0)] (lsub_cons rfl (lsub_cons rfl (lsub_cons rfl (lsub_cons rfl (lsub_cons rfl (lsub_cons rfl (lsub_cons rfl lsub_nil))))))) ?_)))))))
              exact (s_125_l (sc := sc) (d := d) hI ha1 ha2 ha3 T100 T101 K 68) c 0 10000 0 hI (fun a j hm => rfl) ⟨by decide, by decide⟩ ⟨by decide, by decide⟩ ⟨by decide, by decide⟩ ⟨by first | exact q_720657ba9 h_24 | omega, by first | exact q_3a2e67ab0 h_23 h_28 | omega⟩ (by omega)
            · refine v_if_ne_f (t := 43) c_125_38 rfl (Decidable.not_not.mp h_48) (q_iconst c_125_41 (q_iret c_125_42 rfl ?_))
              exact K c 0 hI (fun a j hm => rfl) ⟨by decide, by decide⟩

set_option maxRecDepth 100000 in
set_option maxHeartbeats 4000000 in
theorem s_126_l {sc : List Int32} {e : Int} {d u P Q : Nat} {c : ME} {a1 : Int} {a2 : Int} {Z : AR → Prop} (hI : Iv u e P Q c) (ha1 : 0 ≤ a1 ∧ a1 ≤ 3) (ha2 : 0 ≤ a2 ∧ a2 ≤ 5) (K : ∀ (y : Int), 0 ≤ y ∧ y ≤ 1 → Z (.inl (some (vi y)), Wd P Q P P c, 0, 0)) : ∀ n : Nat, (∀ (v3 : Int), 0 ≤ v3 ∧ v3 ≤ 4 → 9 - 2 * v3 < (n : Int) → Wp sc (d + 10) 126 2 [(0, .ref 0), (1, vi a1), (2, vi a2), (3, vi v3)] [] (Wd P Q P P c) 0 0 Z) := by
  intro n
  induction n with
  | zero => exact (by intro v3 hv3 hm9; have hP := iv_P hI; have hQ := iv_Q hI; exfalso; omega)
  | succ n ih =>
    have hP := iv_P hI
    have hQ := iv_Q hI
    intro v3 hv3 hm9
    refine q_iload_n c_126_2 rfl (q_iconst c_126_3 ?_)
    by_cases h_1 : v3 ≥ 4
    · refine v_ic_ge_t (t := 47) c_126_4 rfl ⟨by decide, h_1, (Int.le_trans hv3.2 (by decide))⟩ (q_iconst c_126_47 (v_zret c_126_48 rfl (by decide) ?_))
      exact K 1 ⟨by decide, by decide⟩
    · refine v_ic_ge_f (t := 47) c_126_4 rfl ⟨(Int.le_trans (by decide) hv3.1), (Int.not_le.mp h_1), by decide⟩ (q_aload_n c_126_7 rfl (v_gr (t := P) c_126_8 kf_7_50 rfl (nb_ rfl) rfl (v_gr (t := (P + 6)) c_126_11 kf_7_284 (ck_p0 hP) (a68z hP) rfl (q_iload_n c_126_14 rfl ?_))))
      have h_2 := ir_p6 hI hP v3
      refine v_ia (v := c (P + 6) v3) c_126_15 (ck_p6 hP) (a68 hP rfl) (by decide) ⟨hv3.1, by first | exact q_2e808647e h_1 | omega⟩ rfl (q_istore c_126_16 (nb_ rfl) (q_iload c_126_18 rfl (q_iconst c_126_20 ?_)))
      by_cases h_3 : c (P + 6) v3 = (-1)
      · refine v_ic_eq_t (t := 41) c_126_21 rfl h_3 (v_iinc (v := v3 + 1) c_126_41 rfl (nb_ rfl) rfl (q_goto (t := 2) c_126_44 rfl (Wp_ls [(0, .ref 0), (1, vi a1), (2, vi a2), (3, vi (v3 + 1))] (lsub_cons rfl (lsub_cons rfl (lsub_cons rfl (lsub_cons rfl lsub_nil)))) ?_)))
        exact ih (v3 + 1) ⟨by first | exact rgp_l hv3.1 (by decide) | omega, by first | exact q_121241f94 h_1 | omega⟩ (by omega)
      · refine v_ic_eq_f (t := 41) c_126_21 rfl ⟨h_3, ⟨(Int.le_trans (by decide) h_2.1), (Int.le_trans h_2.2 (by decide))⟩, by decide, by decide⟩ (q_iload c_126_24 rfl (q_aload_n c_126_26 rfl (v_gr (t := 37) c_126_27 kf_7_62 rfl (nb_ rfl) rfl (q_iload_n c_126_30 rfl (q_iload_n c_126_31 rfl (q_iload_n c_126_32 rfl ?_))))))
        have h_4 := ir_p3 hI hP a1
        have h_5 := ir_38 hI 30
        have h_6 := ir_38_g hI (j := 4 * a2 + v3) (by first | exact q_e3e978779 h_1 ha2 | omega)
        have h_7 := fal_rng (m := c (P + 3) a1) (t := tb (c 38 30) a1) (g := v3) (x := c 38 (4 * a2 + v3)) (by first | exact q_c6ed8760d h_6 | omega)
        refine v_cv c_126_33 km_7_249 rfl rfl (nb_ rfl) ⟨⟨rfl, rfl⟩, nb_ rfl, rfl⟩ (nb_ rfl) (nb_ rfl) (s_48 (v1 := c (P + 3) a1) (v2 := c 38 30) (v3 := c 38 (4 * a2 + v3)) (r := (fal (c (P + 3) a1) (tb (c 38 30) a1) v3 (c 38 (4 * a2 + v3)))) (a1 := a1) (a2 := a2) (a3 := v3) hI (.inl ⟨rfl, rfl⟩) (show 0 ≤ a1 ∧ a1 ≤ 3 from ha1) (show 0 ≤ a2 ∧ a2 ≤ 5 from ha2) (show 0 ≤ v3 ∧ v3 ≤ 3 from ⟨hv3.1, by first | exact q_482ef8d41 h_1 | omega⟩) (rfl) (rfl) (rfl) rfl (bk_inl ?_))
        by_cases h_8 : c (P + 6) v3 = (fal (c (P + 3) a1) (tb (c 38 30) a1) v3 (c 38 (4 * a2 + v3)))
        · refine v_ic_eq_t (t := 41) c_126_36 rfl h_8 (v_iinc (v := v3 + 1) c_126_41 rfl (nb_ rfl) rfl (q_goto (t := 2) c_126_44 rfl (Wp_ls [(0, .ref 0), (1, vi a1), (2, vi a2), (3, vi (v3 + 1))] (lsub_cons rfl (lsub_cons rfl (lsub_cons rfl (lsub_cons rfl lsub_nil)))) ?_)))
          exact ih (v3 + 1) ⟨by first | exact rgp_l hv3.1 (by decide) | omega, by first | exact q_121241f94 h_1 | omega⟩ (by omega)
        · refine v_ic_eq_f (t := 41) c_126_36 rfl ⟨h_8, ⟨(Int.le_trans (by decide) h_2.1), (Int.le_trans h_2.2 (by decide))⟩, by first | exact q_fda856264 h_7 | omega, by first | exact q_4bf067e8d h_6 h_7 | omega⟩ (q_iconst c_126_39 (v_zret c_126_40 rfl (by decide) ?_))
          exact K 0 ⟨by decide, by decide⟩
set_option maxRecDepth 100000 in
set_option maxHeartbeats 4000000 in
theorem s_126 {sc : List Int32} {e : Int} {d u P Q : Nat} {c : ME} {a1 : Int} {a2 : Int} {Z : AR → Prop} (hI : Iv u e P Q c) (ha1 : 0 ≤ a1 ∧ a1 ≤ 3) (ha2 : 0 ≤ a2 ∧ a2 ≤ 5) (K : ∀ (y : Int), 0 ≤ y ∧ y ≤ 1 → Z (.inl (some (vi y)), Wd P Q P P c, 0, 0)) : Wp sc (d + 10) 126 0 [(0, .ref 0), (1, vi a1), (2, vi a2)] [] (Wd P Q P P c) 0 0 Z := by
  have hP := iv_P hI
  have hQ := iv_Q hI
  refine q_iconst c_126_0 (q_istore_n c_126_1 (nb_ rfl) (Wp_ls [(0, .ref 0), (1, vi a1), (2, vi a2), (3, vi 0)] (lsub_cons rfl (lsub_cons rfl (lsub_cons rfl (lsub_cons rfl lsub_nil)))) ?_))
  exact (s_126_l (sc := sc) (d := d) hI ha1 ha2 K 12) 0 ⟨by decide, by decide⟩ (by omega)

set_option maxRecDepth 100000 in
set_option maxHeartbeats 4000000 in
theorem s_127_l {sc : List Int32} {e : Int} {d u P Q : Nat} {c : ME} {Z : AR → Prop} (hI : Iv u e P Q c)  (K : ∀ (c2 : ME) (y : Int), Iv u e P Q c2 → (∀ (a : Nat) (j : Int), ¬ (a = 10) → c2 a j = c a j) → 0 ≤ y ∧ y ≤ 24 → Z (.inl (some (vi y)), Wd P Q P P c2, 0, 0)) : ∀ n : Nat, (∀ (c2 : ME) (v1 : Int) (v2 : Int), Iv u e P Q c2 → (∀ (a : Nat) (j : Int), ¬ (a = 10) → c2 a j = c a j) → 0 ≤ v1 ∧ v1 ≤ 24 → 0 ≤ v2 ∧ v2 ≤ 4 → ((v1 ≤ 6 * v2)) → 84 - 17 * v2 < (n : Int) → Wp sc (d + 11) 127 4 [(0, .ref 0), (1, vi v1), (2, vi v2)] [] (Wd P Q P P c2) 0 0 Z) ∧ (∀ (c2 : ME) (v1 : Int) (v2 : Int) (v3 : Int), Iv u e P Q c2 → (∀ (a : Nat) (j : Int), ¬ (a = 10) → c2 a j = c a j) → 0 ≤ v1 ∧ v1 ≤ 24 → 0 ≤ v2 ∧ v2 ≤ 3 → 0 ≤ v3 ∧ v3 ≤ 6 → ((v1 ≤ 6 * v2 + v3)) → 81 - 17 * v2 - 2 * v3 < (n : Int) → Wp sc (d + 11) 127 17 [(0, .ref 0), (1, vi v1), (2, vi v2), (3, vi v3)] [] (Wd P Q P P c2) 0 0 Z) := by
  intro n
  induction n with
  | zero => exact (by exact ⟨by (intro c2 v1 v2 hI2 hF hv1 hv2 hx0 hm9; have hP := iv_P hI; have hQ := iv_Q hI; exfalso; omega), by (intro c2 v1 v2 v3 hI2 hF hv1 hv2 hv3 hx0 hm9; have hP := iv_P hI; have hQ := iv_Q hI; exfalso; omega)⟩)
  | succ n ih =>
    have hP := iv_P hI
    have hQ := iv_Q hI
    refine ⟨?_, ?_⟩
    · skip
      intro c2 v1 v2 hI2 hF hv1 hv2 hx0 hm9
      refine q_iload_n c_127_4 rfl (q_aload_n c_127_5 rfl (v_gr (t := P) c_127_6 kf_7_50 rfl (nb_ rfl) rfl ?_))
      have h_1 := ir_p0_2 hI hP
      have kn_2 : Hid (c2 P 2 = c P 2) := hF P 2 (fun h => absurd h (np0 hP rfl))
      refine v_gi (z := 2) (v := c P 2) c_127_9 kf_7_168 (ck_p0 hP) (a68z hP) rfl rfl (hid kn_2) ?_
      by_cases h_3 : v2 ≥ c P 2
      · refine v_ic_ge_t (t := 75) c_127_12 rfl ⟨by first | exact q_0bfe68f8e h_1 | omega, h_3, (Int.le_trans hv2.2 (by decide))⟩ (q_iload_n c_127_75 rfl (q_iret c_127_76 rfl ?_))
        exact K c2 v1 hI2 (fun a j hm => hF a j hm) hv1
      · refine v_ic_ge_f (t := 75) c_127_12 rfl ⟨(Int.le_trans (by decide) hv2.1), (Int.not_le.mp h_3), by first | exact q_82d4f69ff h_1 | omega⟩ (q_iconst c_127_15 (q_istore_n c_127_16 (nb_ rfl) (Wp_ls [(0, .ref 0), (1, vi v1), (2, vi v2), (3, vi 0)] (lsub_cons rfl (lsub_cons rfl (lsub_cons rfl (lsub_cons rfl lsub_nil)))) ?_)))
        exact ih.2 c2 v1 v2 0 hI2 (fun a j hm => hF a j hm) hv1 ⟨hv2.1, by first | exact q_40332f6ca h_1 h_3 | omega⟩ ⟨by decide, by decide⟩ (by omega) (by omega)
    · skip
      intro c2 v1 v2 v3 hI2 hF hv1 hv2 hv3 hx0 hm9
      refine q_iload_n c_127_17 rfl (q_aload_n c_127_18 rfl (v_gr (t := P) c_127_19 kf_7_50 rfl (nb_ rfl) rfl ?_))
      have h_4 := ir_p0_0 hI hP
      have kn_5 : Hid (c2 P 0 = c P 0) := hF P 0 (fun h => absurd h (np0 hP rfl))
      refine v_gi (z := 0) (v := c P 0) c_127_22 kf_7_102 (ck_p0 hP) (a68z hP) rfl rfl (hid kn_5) ?_
      by_cases h_6 : v3 ≥ c P 0
      · refine v_ic_ge_t (t := 69) c_127_25 rfl ⟨by first | exact q_730ab5169 h_4 | omega, h_6, (Int.le_trans hv3.2 (by decide))⟩ (v_iinc (v := v2 + 1) c_127_69 rfl (nb_ rfl) rfl (q_goto (t := 4) c_127_72 rfl (Wp_ls [(0, .ref 0), (1, vi v1), (2, vi (v2 + 1))] (lsub_cons rfl (lsub_cons rfl (lsub_cons rfl lsub_nil))) ?_)))
        exact ih.1 c2 v1 (v2 + 1) hI2 (fun a j hm => hF a j hm) hv1 ⟨by first | exact rgp_l hv2.1 (by decide) | omega, by first | exact rgp_h hv2.2 (by decide) | omega⟩ (by omega) (by omega)
      · refine v_ic_ge_f (t := 69) c_127_25 rfl ⟨(Int.le_trans (by decide) hv3.1), (Int.not_le.mp h_6), by first | exact q_b289b7db2 h_4 | omega⟩ (q_aload_n c_127_28 rfl (v_gr (t := 37) c_127_29 kf_7_62 rfl (nb_ rfl) rfl (q_iload_n c_127_32 rfl ?_)))
        have h_7 := ir_38_g hI (j := 4 * v3) (by first | exact q_aa51b186e h_4 h_6 | omega)
        have kn_8 : Hid (c2 38 (4 * v3) = c 38 (4 * v3)) := hF 38 (4 * v3) (fun h => absurd h (nn rfl))
        have h_9 := ir_38_g hI (j := 4 * v3 + 1) (by first | exact q_57851f9de h_4 h_6 | omega)
        have kn_10 : Hid (c2 38 (4 * v3 + 1) = c 38 (4 * v3 + 1)) := hF 38 (4 * v3 + 1) (fun h => absurd h (nn rfl))
        have h_11 := ir_38_g hI (j := 4 * v3 + 2) (by first | exact q_7296e74e6 h_4 h_6 | omega)
        have kn_12 : Hid (c2 38 (4 * v3 + 2) = c 38 (4 * v3 + 2)) := hF 38 (4 * v3 + 2) (fun h => absurd h (nn rfl))
        have h_13 := ir_38_g hI (j := 4 * v3 + 3) (by first | exact q_b15525c4c h_4 h_6 | omega)
        have kn_14 : Hid (c2 38 (4 * v3 + 3) = c 38 (4 * v3 + 3)) := hF 38 (4 * v3 + 3) (fun h => absurd h (nn rfl))
        refine v_cv c_127_33 km_7_187 rfl rfl (nb_ rfl) ⟨⟨rfl, rfl⟩, nb_ rfl, rfl⟩ (nb_ rfl) (nb_ rfl) (s_43 (v1 := c 38 (4 * v3)) (v2 := c 38 (4 * v3 + 1)) (v3 := c 38 (4 * v3 + 2)) (v4 := c 38 (4 * v3 + 3)) (r := c 38 (4 * v3 + 1) + c 38 (4 * v3 + 2) + c 38 (4 * v3 + 3) + c 38 (4 * v3)) (a1 := v3) hI2 (.inl ⟨rfl, rfl⟩) (show 0 ≤ v3 ∧ v3 ≤ 5 from ⟨hv3.1, by first | exact q_d63a8538e h_4 h_6 | omega⟩) ((hid kn_8)) ((hid kn_10)) ((hid kn_12)) ((hid kn_14)) (by omega) (bk_inl ?_))
        by_cases h_15 : c 38 (4 * v3 + 1) + c 38 (4 * v3 + 2) + c 38 (4 * v3 + 3) + c 38 (4 * v3) ≤ 0
        · refine v_if_le_t (t := 63) c_127_36 rfl ⟨by first | exact q_df6958c12 h_11 h_13 h_7 h_9 | omega, h_15, by decide⟩ (v_iinc (v := v3 + 1) c_127_63 rfl (nb_ rfl) rfl (q_goto (t := 17) c_127_66 rfl (Wp_ls [(0, .ref 0), (1, vi v1), (2, vi v2), (3, vi (v3 + 1))] (lsub_cons rfl (lsub_cons rfl (lsub_cons rfl (lsub_cons rfl lsub_nil)))) ?_)))
          exact ih.2 c2 v1 v2 (v3 + 1) hI2 (fun a j hm => hF a j hm) hv1 hv2 ⟨by first | exact rgp_l hv3.1 (by decide) | omega, by first | exact q_4a76cd9c7 h_4 h_6 | omega⟩ (by omega) (by omega)
        · refine v_if_le_f (t := 63) c_127_36 rfl ⟨by decide, (Int.not_le.mp h_15), by first | exact q_e2451768c h_11 h_13 h_7 h_9 | omega⟩ (q_aload_n c_127_39 rfl (q_iload_n c_127_40 rfl (q_iload_n c_127_41 rfl (v_cv c_127_42 km_7_357 rfl rfl (nb_ rfl) ⟨⟨rfl, rfl⟩, nb_ rfl, rfl⟩ (nb_ rfl) (nb_ rfl) (s_126 (a1 := v2) (a2 := v3) hI2 (show 0 ≤ v2 ∧ v2 ≤ 3 from hv2) (show 0 ≤ v3 ∧ v3 ≤ 5 from ⟨hv3.1, by first | exact q_d63a8538e h_4 h_6 | omega⟩) (fun y_16 hy_16 => (bk_inl ?_)))))))
          by_cases h_17 : y_16 = 0
          · refine v_if_eq_t (t := 63) c_127_45 rfl h_17 (v_iinc (v := v3 + 1) c_127_63 rfl (nb_ rfl) rfl (q_goto (t := 17) c_127_66 rfl (Wp_ls [(0, .ref 0), (1, vi v1), (2, vi v2), (3, vi (v3 + 1))] (lsub_cons rfl (lsub_cons rfl (lsub_cons rfl (lsub_cons rfl lsub_nil)))) ?_)))
            exact ih.2 c2 v1 v2 (v3 + 1) hI2 (fun a j hm => hF a j hm) hv1 hv2 ⟨by first | exact rgp_l hv3.1 (by decide) | omega, by first | exact q_4a76cd9c7 h_4 h_6 | omega⟩ (by omega) (by omega)
          · refine v_if_eq_f (t := 63) c_127_45 rfl ⟨h_17, ⟨(Int.le_trans (by decide) hy_16.1), (Int.le_trans hy_16.2 (by decide))⟩, by decide, by decide⟩ (q_aload_n c_127_48 rfl (v_gr (t := 10) c_127_49 kf_7_37 rfl (nb_ rfl) rfl (q_iload_n c_127_52 rfl (v_bip c_127_53 (by decide) (q_iload_n c_127_55 rfl (v_imul (v := 10 * v2) c_127_56 rfl (q_iload_n c_127_57 rfl ?_)))))))
            refine v_iadd (v := 10 * v2 + v3) c_127_58 rfl (v_is c_127_59 rfl (by decide) (by decide) ⟨hv1.1, by first | (clear hv1 hv3 h_7 h_9 h_11 h_13 h_15 h_17; omega) | omega⟩ (v_iinc (v := v1 + 1) c_127_60 rfl (nb_ rfl) rfl (v_iinc (v := v3 + 1) c_127_63 rfl (nb_ rfl) rfl (q_goto (t := 17) c_127_66 rfl ?_))))
            have hI_18 := iw_10 (j := v1) (v := 10 * v2 + v3) hI2 ⟨by omega, by omega⟩ (by omega)
            refine Wp_ls [(0, .ref 0), (1, vi (v1 + 1)), (2, vi v2), (3, vi (v3 + 1))] (lsub_cons rfl (lsub_cons rfl (lsub_cons rfl (lsub_cons rfl lsub_nil)))) ?_
            exact ih.2 (up c2 10 v1 (10 * v2 + v3)) (v1 + 1) v2 (v3 + 1) hI_18 (fun a j hm => (up_b (Decidable.or_iff_not_imp_left.mpr (fun h1 h2 => hm (Decidable.not_not.mp h1)))).trans (hF a j hm)) ⟨by first | exact rgp_l hv1.1 (by decide) | omega, by first | (clear hv1 hv3 h_7 h_9 h_11 h_13 h_15 h_17; omega) | omega⟩ hv2 ⟨by first | exact rgp_l hv3.1 (by decide) | omega, by first | exact q_4a76cd9c7 h_4 h_6 | omega⟩ (by first | (clear hv1 hv2 hv3 h_4 h_6 h_7 h_9 h_11 h_13 h_15 h_17; omega) | omega) (by omega)
set_option maxRecDepth 100000 in
set_option maxHeartbeats 4000000 in
theorem s_127 {sc : List Int32} {e : Int} {d u P Q : Nat} {c : ME} {Z : AR → Prop} (hI : Iv u e P Q c)  (K : ∀ (c2 : ME) (y : Int), Iv u e P Q c2 → (∀ (a : Nat) (j : Int), ¬ (a = 10) → c2 a j = c a j) → 0 ≤ y ∧ y ≤ 24 → Z (.inl (some (vi y)), Wd P Q P P c2, 0, 0)) : Wp sc (d + 11) 127 0 [(0, .ref 0)] [] (Wd P Q P P c) 0 0 Z := by
  have hP := iv_P hI
  have hQ := iv_Q hI
  refine q_iconst c_127_0 (q_istore_n c_127_1 (nb_ rfl) (q_iconst c_127_2 (q_istore_n c_127_3 (nb_ rfl) (Wp_ls [(0, .ref 0), (1, vi 0), (2, vi 0)] (lsub_cons rfl (lsub_cons rfl (lsub_cons rfl lsub_nil))) ?_))))
  exact (s_127_l (sc := sc) (d := d) hI K 87).1 c 0 0 hI (fun a j hm => rfl) ⟨by decide, by decide⟩ ⟨by decide, by decide⟩ (by first | decide | omega) (by omega)

set_option maxRecDepth 100000 in
set_option maxHeartbeats 4000000 in
theorem s_128 {sc : List Int32} {e : Int} {d u P Q : Nat} {c : ME} {a1 : Int} {Z : AR → Prop} (hI : Iv u e P Q c) (ha1 : (-2147483648) ≤ a1 ∧ a1 ≤ 2147483647) (T101 : ∀ c2 : ME, Iv u e P Q c2 → (∀ (a : Nat) (j : Int), ¬ ((a = 0 ∧ j = 13) ∨ a = 10) → c2 a j = c a j) → Z (.inr 101, Wd P Q P P c2, 1, 6)) (K : ∀ (c2 : ME) (y : Int), Iv u e P Q c2 → (∀ (a : Nat) (j : Int), ¬ ((a = 0 ∧ j = 13) ∨ a = 10) → c2 a j = c a j) → (-2147483648) ≤ y ∧ y ≤ 2147483647 → Z (.inl (some (vi y)), Wd P Q P P c2, 0, 0)) : Wp sc (d + 12) 128 0 [(0, .ref 0), (1, vi a1)] [] (Wd P Q P P c) 0 0 Z := by
  have hP := iv_P hI
  have hQ := iv_Q hI
  refine q_aload_n c_128_0 rfl (q_iload_n c_128_1 rfl (q_iconst c_128_2 (q_iconst c_128_3 (q_call c_128_4 rfl rfl rfl (q_iload_n c_80_0 rfl (q_iload_n c_80_1 rfl ?_))))))
  by_cases h_1 : a1 < 0
  · refine v_ic_lt_t (t := 14) c_80_2 rfl ⟨ha1.1, h_1, by decide⟩ (q_iconst c_80_14 (v_zret c_80_15 rfl (by decide) (bk_inl (v_cv c_128_7 km_7_161 rfl rfl (nb_ rfl) ⟨⟨rfl, rfl⟩, nb_ rfl, rfl⟩ (nb_ rfl) (nb_ rfl) (q_iload_n c_81_0 rfl (v_if_ne_f (t := 25) c_81_1 rfl (by decide) (q_aload_n c_81_4 rfl ?_)))))))
    refine q_dup c_81_5 rfl ?_
    have h_2 := ir_0_13 hI
    refine v_gi (z := 13) (v := c 0 13) c_81_6 kf_7_330 rfl (nb_ rfl) rfl rfl rfl (q_iconst c_81_9 (v_iadd (v := c 0 13 + 1) c_81_10 rfl (v_nrm (fun y_3 hy_3 => (v_pi (z := 13) c_81_11 kf_7_330 rfl (nb_ rfl) rfl rfl rfl (by decide) (v_new c_81_14 rfl (by decide) (ld_ rfl) (nb_ rfl) (by decide) rfl (bk_out rfl rfl ?_)))))))
    have hI_4 := iw_0_13 (v := y_3) hI ⟨hy_3.1, hy_3.2⟩
    exact T101 _ hI_4 (fun a j hm => up_b (Decidable.or_iff_not_imp_left.mpr (fun h1 h2 => hm (Or.inl ⟨Decidable.not_not.mp h1, h2⟩))))
  · refine v_ic_lt_f (t := 14) c_80_2 rfl ⟨by decide, (Int.not_lt.mp h_1), ha1.2⟩ (q_iload_n c_80_5 rfl (q_iload_n c_80_6 rfl ?_))
    by_cases h_5 : a1 > 1
    · refine v_ic_gt_t (t := 14) c_80_7 rfl ⟨by decide, h_5, ha1.2⟩ (q_iconst c_80_14 (v_zret c_80_15 rfl (by decide) (bk_inl (v_cv c_128_7 km_7_161 rfl rfl (nb_ rfl) ⟨⟨rfl, rfl⟩, nb_ rfl, rfl⟩ (nb_ rfl) (nb_ rfl) (q_iload_n c_81_0 rfl (v_if_ne_f (t := 25) c_81_1 rfl (by decide) (q_aload_n c_81_4 rfl ?_)))))))
      refine q_dup c_81_5 rfl ?_
      have h_6 := ir_0_13 hI
      refine v_gi (z := 13) (v := c 0 13) c_81_6 kf_7_330 rfl (nb_ rfl) rfl rfl rfl (q_iconst c_81_9 (v_iadd (v := c 0 13 + 1) c_81_10 rfl (v_nrm (fun y_7 hy_7 => (v_pi (z := 13) c_81_11 kf_7_330 rfl (nb_ rfl) rfl rfl rfl (by decide) (v_new c_81_14 rfl (by decide) (ld_ rfl) (nb_ rfl) (by decide) rfl (bk_out rfl rfl ?_)))))))
      have hI_8 := iw_0_13 (v := y_7) hI ⟨hy_7.1, hy_7.2⟩
      exact T101 _ hI_8 (fun a j hm => up_b (Decidable.or_iff_not_imp_left.mpr (fun h1 h2 => hm (Or.inl ⟨Decidable.not_not.mp h1, h2⟩))))
    · refine v_ic_gt_f (t := 14) c_80_7 rfl ⟨ha1.1, (Int.not_lt.mp h_5), by decide⟩ (q_iconst c_80_10 (q_goto (t := 15) c_80_11 rfl (v_zret c_80_15 rfl (by decide) (bk_inl (v_cv c_128_7 km_7_161 rfl rfl (nb_ rfl) ⟨⟨rfl, rfl⟩, nb_ rfl, rfl⟩ (nb_ rfl) (nb_ rfl) (q_iload_n c_81_0 rfl (v_if_ne_t (t := 25) c_81_1 rfl (by decide) ?_)))))))
      refine q_vret rfl rfl (bk_inl (q_aload_n c_128_10 rfl (v_cv c_128_11 km_7_281 rfl rfl (nb_ rfl) ⟨⟨rfl, rfl⟩, nb_ rfl, rfl⟩ (nb_ rfl) (nb_ rfl) (s_127 hI (fun c_9 y_12 hI_10 hF_11 hy_12 => (bk_inl (q_istore_n c_128_14 (nb_ rfl) (q_iload_n c_128_15 rfl ?_))))))))
      by_cases h_13 : a1 ≠ 0
      · refine v_if_ne_t (t := 21) c_128_16 rfl ⟨h_13, ⟨ha1.1, ha1.2⟩, by decide, by decide⟩ (q_iload_n c_128_21 rfl ?_)
        by_cases h_14 : y_12 ≤ 0
        · refine v_if_le_t (t := 34) c_128_22 rfl ⟨(Int.le_trans (by decide) hy_12.1), h_14, by decide⟩ (q_iconst c_128_34 (q_iret c_128_35 rfl ?_))
          exact K c_9 (-1) hI_10 (fun a j hm => hF_11 a j (fun h => hm (Or.inr h))) ⟨by decide, by decide⟩
        · refine v_if_le_f (t := 34) c_128_22 rfl ⟨by decide, (Int.not_le.mp h_14), (Int.le_trans hy_12.2 (by decide))⟩ (q_aload_n c_128_25 rfl (v_gr (t := 10) c_128_26 kf_7_37 rfl (nb_ rfl) rfl (q_iconst c_128_29 ?_)))
          have h_15 := ir_10 hI_10 0
          have h_16 := ir_10_x hI_10 0
          refine v_ia (v := c_9 10 0) c_128_30 rfl (by decide) (by decide) (by decide) rfl (q_goto (t := 35) c_128_31 rfl (q_iret c_128_35 rfl ?_))
          exact K c_9 (c_9 10 0) hI_10 (fun a j hm => hF_11 a j (fun h => hm (Or.inr h))) ⟨(Int.le_trans (by decide) h_15.1), (Int.le_trans h_15.2 (by decide))⟩
      · refine v_if_ne_f (t := 21) c_128_16 rfl (Decidable.not_not.mp h_13) (q_iload_n c_128_19 rfl (q_iret c_128_20 rfl ?_))
        exact K c_9 y_12 hI_10 (fun a j hm => hF_11 a j (fun h => hm (Or.inr h))) ⟨(Int.le_trans (by decide) hy_12.1), (Int.le_trans hy_12.2 (by decide))⟩

set_option maxRecDepth 100000 in
set_option maxHeartbeats 4000000 in
theorem s_129 {sc : List Int32} {e : Int} {d u P Q : Nat} {c : ME} {a1 : Int} {a2 : Int} {Z : AR → Prop} (hI : Iv u e P Q c) (ha1 : 0 ≤ a1 ∧ a1 ≤ 35) (ha2 : 0 ≤ a2 ∧ a2 ≤ 3) (hq0 : ((a1 % 10) ≤ 5)) (K : ∀ (y : Int), (-2147483648) ≤ y ∧ y ≤ 2147483647 → Z (.inl (some (vi y)), Wd P Q P P c, 0, 0)) : Wp sc (d + 10) 129 0 [(0, .ref 0), (1, vi a1), (2, vi a2)] [] (Wd P Q P P c) 0 0 Z := by
  have hP := iv_P hI
  have hQ := iv_Q hI
  refine q_aload_n c_129_0 rfl (v_gr (t := 37) c_129_1 kf_7_62 rfl (nb_ rfl) rfl (q_iload_n c_129_4 rfl (v_bip c_129_5 (by decide) (v_idiv (v := (a1 / 10)) c_129_7 (by omega) rfl (q_iload_n c_129_8 rfl (v_bip c_129_9 (by decide) (v_irem (v := (a1 % 10)) c_129_11 (by omega) rfl ?_)))))))
  refine q_iload_n c_129_12 rfl ?_
  have h_1 := ir_p3 hI hP (a1 / 10)
  have h_2 := ir_38 hI 30
  have h_3 := ir_38_g hI (j := 4 * (a1 % 10) + a2) (by first | exact q_0171b43c7 ha2 hq0 | omega)
  have h_4 := fal_rng (m := c (P + 3) (a1 / 10)) (t := tb (c 38 30) (a1 / 10)) (g := a2) (x := c 38 (4 * (a1 % 10) + a2)) (by first | exact q_c6ed8760d h_3 | omega)
  refine v_cv c_129_13 km_7_249 rfl rfl (nb_ rfl) ⟨⟨rfl, rfl⟩, nb_ rfl, rfl⟩ (nb_ rfl) (nb_ rfl) (s_48 (v1 := c (P + 3) (a1 / 10)) (v2 := c 38 30) (v3 := c 38 (4 * (a1 % 10) + a2)) (r := (fal (c (P + 3) (a1 / 10)) (tb (c 38 30) (a1 / 10)) a2 (c 38 (4 * (a1 % 10) + a2)))) (a1 := (a1 / 10)) (a2 := (a1 % 10)) (a3 := a2) hI (.inl ⟨rfl, rfl⟩) (show 0 ≤ (a1 / 10) ∧ (a1 / 10) ≤ 3 from ⟨by omega, by omega⟩) (show 0 ≤ (a1 % 10) ∧ (a1 % 10) ≤ 5 from ⟨by omega, by first | exact q_06579a4a5 hq0 | omega⟩) (show 0 ≤ a2 ∧ a2 ≤ 3 from ha2) (rfl) (rfl) (rfl) rfl (bk_inl (q_iret c_129_16 rfl ?_)))
  exact K (fal (c (P + 3) (a1 / 10)) (tb (c 38 30) (a1 / 10)) a2 (c 38 (4 * (a1 % 10) + a2))) ⟨by first | exact q_fda856264 h_4 | omega, by first | exact q_4bf067e8d h_3 h_4 | omega⟩
end
section
/-! ===== contracts 10 ===== -/
theorem q_96fb51a24 {x0 x1 : Int} (f0 : ¬ (x0 ≥ x1)) (f1 : 0 ≤ x1 ∧ x1 ≤ 24) : x0 ≤ 23 := by omega
theorem q_d49973a5f {x0 : Int} (f0 : 0 ≤ x0 ∧ x0 ≤ 23) : x0 < 24 := by omega
theorem q_56a208ad1 {x0 x1 : Int} (f0 : ¬ (x0 ≥ x1)) (f1 : 0 ≤ x1 ∧ x1 ≤ 24) : x0 < 24 := by omega
theorem q_250c7ebb9 {x0 x1 : Int} (f0 : ¬ (x0 ≥ x1)) (f1 : 0 ≤ x1 ∧ x1 ≤ 24) : x0 + 1 ≤ 24 := by omega
theorem qn_b51e60c8b {P : Nat} {j : Int} (hP : P = 13 ∨ P = 25) : ¬ (((P + 6) = 0 ∧ j = 13) ∨ (P + 6) = 10) := (fun q => q.elim (fun h => absurd h.1 (np hP rfl rfl)) (fun h => absurd h (np hP rfl rfl)))
theorem q_022711c41 {x0 x1 : Int} : 10 * x0 + x1 = x1 + 10 * x0 := by omega
theorem q_e46fec7e9 {x0 : Int} (f0 : ¬ (x0 ≠ 0)) : x0 + 1 ≤ 2147483647 := by omega
theorem q_9010c525b {x0 : Int} (f0 : ¬ (x0 > 99)) : x0 ≤ 99 := by omega
theorem q_7f2151846 {x0 : Int} (f0 : ¬ (x0 > 16)) : x0 ≤ 16 := by omega
theorem q_f19038599 {x0 : Int} (f0 : ¬ (x0 < 1)) : 1 ≤ x0 := by omega
theorem q_1cdd54b12 {x0 : Int} (f0 : ¬ (x0 > 48)) : x0 ≤ 48 := by omega
theorem qn_c0aefbd12 {P : Nat} {j : Int} (hP : P = 13 ∨ P = 25) : ¬ (((38 : Nat) = 9 ∧ j = 0) ∨ (38 : Nat) = 40 ∨ (38 : Nat) = (P + 10) ∨ (38 : Nat) = (P + 11)) := (fun q => q.elim (fun h => absurd h.1 (nn rfl)) (fun q => q.elim (fun h => absurd h (nn rfl)) (fun q => q.elim (fun h => absurd h (pn hP rfl rfl)) (fun h => absurd h (pn hP rfl rfl)))))
theorem qv_89ffef1cb {P : Nat} {a : Nat} {j : Int} (hm : ¬ ((a = 0 ∧ j = 13) ∨ a = (P + 10) ∨ a = (P + 11) ∨ (a = 9 ∧ j = 0) ∨ a = 40)) : ¬ ((a = 9 ∧ j = 0) ∨ a = 40 ∨ a = (P + 10) ∨ a = (P + 11)) := (fun q => q.elim (fun h => hm (Or.inr (Or.inr (Or.inr (Or.inl h))))) (fun q => q.elim (fun h => hm (Or.inr (Or.inr (Or.inr (Or.inr h))))) (fun q => q.elim (fun h => hm (Or.inr (Or.inl h))) (fun h => hm (Or.inr (Or.inr (Or.inl h)))))))
theorem qn_b6c99e75a {P : Nat} {j : Int} (hP : P = 13 ∨ P = 25) : ¬ (((38 : Nat) = 0 ∧ j = 13) ∨ (38 : Nat) = (P + 10) ∨ (38 : Nat) = (P + 11) ∨ ((38 : Nat) = 9 ∧ j = 0) ∨ (38 : Nat) = 40) := (fun q => q.elim (fun h => absurd h.1 (nn rfl)) (fun q => q.elim (fun h => absurd h (pn hP rfl rfl)) (fun q => q.elim (fun h => absurd h (pn hP rfl rfl)) (fun q => q.elim (fun h => absurd h.1 (nn rfl)) (fun h => absurd h (nn rfl))))))
theorem q_92a66bdad {x0 : Int} (f0 : ¬ (x0 > 10)) : x0 ≤ 10 := by omega
theorem qv_af04ee6ad {a : Nat} {j : Int} (hm : ¬ ((a = 0 ∧ j = 11) ∨ (a = 3 ∧ j = 3) ∨ a = 38)) : ¬ ((a = 3 ∧ j = 3) ∨ a = 38) := (fun q => q.elim (fun h => hm (Or.inr (Or.inl h))) (fun h => hm (Or.inr (Or.inr h))))
theorem q_69a2a74e5 {x0 : Int} (f0 : 0 ≤ x0 ∧ x0 ≤ 16) (f1 : x0 ≠ 0) : 0 < x0 := by omega
theorem q_dc47330e3 {x0 x1 : Int} (f0 : x0 ≠ 0) (f1 : (x0 > 0 ∧ x1 = x0 - 1) ∨ (x0 ≤ 0 ∧ x1 = x0)) (f2 : 0 ≤ x1 ∧ x1 ≤ 16) : x1 = x0 - 1 := by omega
theorem q_bb0e0e122 {x0 : Int} (f0 : 0 ≤ x0 ∧ x0 ≤ 16) (f1 : ¬ (x0 ≠ 0)) : x0 = 0 := by omega
theorem q_20607f14c {x0 : Int} (f0 : 0 ≤ x0 ∧ x0 ≤ 3) (f1 : x0 ≠ 3) : x0 ≤ 2 := by omega
theorem q_b1174609c {x0 x1 : Int} (f0 : x0 ≠ 3) (f1 : (x0 ≤ 2 ∧ x1 = x0 + 1) ∨ (x0 ≥ 3 ∧ x1 = x0)) (f2 : 0 ≤ x1 ∧ x1 ≤ 3) : x1 = x0 + 1 := by omega
theorem q_f16cccee8 {x0 : Int} (f0 : 0 ≤ x0 ∧ x0 ≤ 3) (f1 : ¬ (x0 ≠ 3)) : x0 = 3 := by omega
theorem qv_fe551244a {a : Nat} {j : Int} (hm : ¬ ((a = 0 ∧ j = 11) ∨ (a = 3 ∧ j = 3) ∨ (a = 3 ∧ j = 4) ∨ a = 38 ∨ a = 4)) : ¬ ((a = 3 ∧ j = 3) ∨ (a = 3 ∧ j = 4) ∨ a = 38 ∨ a = 4) := (fun q => q.elim (fun h => hm (Or.inr (Or.inl h))) (fun q => q.elim (fun h => hm (Or.inr (Or.inr (Or.inl h)))) (fun q => q.elim (fun h => hm (Or.inr (Or.inr (Or.inr (Or.inl h))))) (fun h => hm (Or.inr (Or.inr (Or.inr (Or.inr h))))))))
theorem q_c6195508a {x0 : Int} (f0 : 0 ≤ x0 ∧ x0 ≤ 3) (f1 : x0 ≠ 0) : 0 < x0 := by omega
theorem q_17b2b3eb6 {x0 x1 : Int} (f0 : x0 ≠ 0) (f1 : (x0 > 0 ∧ x1 = x0 - 1) ∨ (x0 ≤ 0 ∧ x1 = x0)) (f2 : 0 ≤ x1 ∧ x1 ≤ 3) : x1 = x0 - 1 := by omega
theorem q_3cc4a238e {x0 : Int} (f0 : ¬ (x0 ≥ 37)) : x0 < 37 := by omega
theorem q_6a0ddf4b6 {x0 : Int} (f0 : ¬ (x0 ≥ 37)) : x0 + 1 ≤ 37 := by omega
theorem q_4654d868a {x0 : Int} : 4 * (x0) = 4 * x0 := by omega
theorem q_192ae6d23 {x0 : Int} (f0 : 0 ≤ x0 ∧ x0 ≤ 24) : x0 < 37 := by omega
theorem q_798f64f00 {x0 x1 : Int} (f0 : 0 ≤ x0 ∧ x0 ≤ 6) (f1 : ¬ (x1 ≥ 4 * x0)) : x1 + 1 ≤ 24 := by omega
theorem q_e3cb7898a {x0 : Int} : 24 - (8 * x0) = 24 - 8 * x0 := by omega
theorem q_7164d7a2b {x0 : Int} (f0 : ¬ (x0 ≥ 20)) : x0 + 1 ≤ 20 := by omega
theorem q_295dd9ba7 {x0 : Int} (f0 : ¬ (x0 ≥ 16)) : x0 + 1 ≤ 20 := by omega
theorem q_265ba0740 {x0 : Int} (f0 : ¬ (x0 ≥ 12)) : x0 + 1 ≤ 20 := by omega
theorem q_ea4103e0d {x0 : Int} (f0 : ¬ (x0 ≥ 8)) : x0 + 1 ≤ 20 := by omega
theorem q_c3775e7c2 {x0 : Int} (f0 : ¬ (x0 ≥ 4)) : x0 + 1 ≤ 20 := by omega
theorem q_54b025b5a {x0 : Int} (f0 : x0 + 20 ≤ 600) : x0 ≤ 580 := by omega
theorem q_24fba09a9 {x0 : Int} (f0 : 0 ≤ x0 ∧ x0 ≤ 605) : ¬ x0 = (-1) := by omega
theorem q_c967a1259 {x0 : Int} (f0 : (-1) ≤ x0 ∧ x0 ≤ 605) (f1 : ¬ (x0 = (-1))) : ¬ x0 = (-1) := by omega
theorem q_a29fbb6d7 {x0 x1 : Int} (f0 : x0 ≥ x1) : x1 ≤ x0 := by omega
theorem q_ef0f4cfe4 {x0 : Int} : (x0) = x0 := by omega
theorem q_d17d18138 {x0 x1 : Int} (f0 : ¬ (x0 ≥ x1)) : x0 < x1 := by omega
theorem q_5fcb01701 {x0 x1 : Int} (f0 : ¬ (x0 ≥ x1)) : x0 ≤ x1 := by omega
theorem q_dadb204b8 {x0 x1 : Int} (f0 : 0 ≤ x0 ∧ x0 ≤ 600) (f1 : ¬ (x1 ≥ x0)) : x1 + 1 ≤ 605 := by omega
theorem q_d6c070bf6 {x0 x1 : Int} (f0 : ¬ (x0 ≥ x1)) : x0 + 1 ≤ x1 := by omega
theorem c_130_5 : mLk 130 5 = some (.iload 4, 2) := rfl
theorem c_130_7 : mLk 130 7 = some (.iload_n 2, 1) := rfl
theorem c_130_8 : mLk 130 8 = some (.if_icmp .ge 64, 3) := rfl
theorem c_130_72 : mLk 130 72 = some (.iload_n 3, 1) := rfl
theorem c_130_73 : mLk 130 73 = some (.ireturn, 1) := rfl
theorem c_130_11 : mLk 130 11 = some (.iconst 0, 1) := rfl
theorem c_130_12 : mLk 130 12 = some (.istore 5, 2) := rfl
theorem c_130_14 : mLk 130 14 = some (.iconst 0, 1) := rfl
theorem c_130_15 : mLk 130 15 = some (.istore 6, 2) := rfl
theorem c_130_17 : mLk 130 17 = some (.iload 6, 2) := rfl
theorem c_130_19 : mLk 130 19 = some (.iload_n 2, 1) := rfl
theorem c_130_20 : mLk 130 20 = some (.if_icmp .ge 39, 3) := rfl
theorem c_130_59 : mLk 130 59 = some (.iload_n 3, 1) := rfl
theorem c_130_60 : mLk 130 60 = some (.iload 5, 2) := rfl
theorem c_130_62 : mLk 130 62 = some (.invokestatic 309, 3) := rfl
theorem c_130_65 : mLk 130 65 = some (.istore_n 3, 1) := rfl
theorem c_130_66 : mLk 130 66 = some (.iinc 4 1, 3) := rfl
theorem c_130_69 : mLk 130 69 = some (.goto (-64), 3) := rfl
theorem c_130_23 : mLk 130 23 = some (.aload_n 0, 1) := rfl
theorem c_130_24 : mLk 130 24 = some (.aload_n 0, 1) := rfl
theorem c_130_25 : mLk 130 25 = some (.getfield 37, 3) := rfl
theorem c_130_28 : mLk 130 28 = some (.iload 4, 2) := rfl
theorem c_130_30 : mLk 130 30 = some (.iaload, 1) := rfl
theorem c_130_31 : mLk 130 31 = some (.iload_n 1, 1) := rfl
theorem c_130_32 : mLk 130 32 = some (.invokevirtual 360, 3) := rfl
theorem c_130_35 : mLk 130 35 = some (.aload_n 0, 1) := rfl
theorem c_130_36 : mLk 130 36 = some (.aload_n 0, 1) := rfl
theorem c_130_37 : mLk 130 37 = some (.getfield 37, 3) := rfl
theorem c_130_40 : mLk 130 40 = some (.iload 6, 2) := rfl
theorem c_130_42 : mLk 130 42 = some (.iaload, 1) := rfl
theorem c_130_43 : mLk 130 43 = some (.iload_n 1, 1) := rfl
theorem c_130_44 : mLk 130 44 = some (.invokevirtual 360, 3) := rfl
theorem c_130_47 : mLk 130 47 = some (.if_icmp .ne 6, 3) := rfl
theorem c_130_53 : mLk 130 53 = some (.iinc 6 1, 3) := rfl
theorem c_130_56 : mLk 130 56 = some (.goto (-39), 3) := rfl
theorem c_130_50 : mLk 130 50 = some (.iinc 5 1, 3) := rfl
theorem c_130_0 : mLk 130 0 = some (.iconst 0, 1) := rfl
theorem c_130_1 : mLk 130 1 = some (.istore_n 3, 1) := rfl
theorem c_130_2 : mLk 130 2 = some (.iconst 0, 1) := rfl
theorem c_130_3 : mLk 130 3 = some (.istore 4, 2) := rfl
theorem c_131_23 : mLk 131 23 = some (.iload 5, 2) := rfl
theorem c_131_25 : mLk 131 25 = some (.iconst 4, 1) := rfl
theorem c_131_26 : mLk 131 26 = some (.if_icmp .ge 51, 3) := rfl
theorem c_131_77 : mLk 131 77 = some (.iload_n 1, 1) := rfl
theorem c_131_78 : mLk 131 78 = some (.ifCond .ne 7, 3) := rfl
theorem c_131_85 : mLk 131 85 = some (.iload 4, 2) := rfl
theorem c_131_87 : mLk 131 87 = some (.ireturn, 1) := rfl
theorem c_131_81 : mLk 131 81 = some (.iload_n 3, 1) := rfl
theorem c_131_82 : mLk 131 82 = some (.goto 5, 3) := rfl
theorem c_131_29 : mLk 131 29 = some (.aload_n 0, 1) := rfl
theorem c_131_30 : mLk 131 30 = some (.getfield 50, 3) := rfl
theorem c_131_33 : mLk 131 33 = some (.getfield 284, 3) := rfl
theorem c_131_36 : mLk 131 36 = some (.iload 5, 2) := rfl
theorem c_131_38 : mLk 131 38 = some (.iaload, 1) := rfl
theorem c_131_39 : mLk 131 39 = some (.iconst (-1), 1) := rfl
theorem c_131_40 : mLk 131 40 = some (.if_icmp .ne 31, 3) := rfl
theorem c_131_71 : mLk 131 71 = some (.iinc 5 1, 3) := rfl
theorem c_131_74 : mLk 131 74 = some (.goto (-51), 3) := rfl
theorem c_131_43 : mLk 131 43 = some (.aload_n 0, 1) := rfl
theorem c_131_44 : mLk 131 44 = some (.iload 5, 2) := rfl
theorem c_131_46 : mLk 131 46 = some (.iload_n 2, 1) := rfl
theorem c_131_47 : mLk 131 47 = some (.invokevirtual 287, 3) := rfl
theorem c_131_50 : mLk 131 50 = some (.istore 6, 2) := rfl
theorem c_131_52 : mLk 131 52 = some (.iload_n 3, 1) := rfl
theorem c_131_53 : mLk 131 53 = some (.iconst (-1), 1) := rfl
theorem c_131_54 : mLk 131 54 = some (.if_icmp .eq 10, 3) := rfl
theorem c_131_64 : mLk 131 64 = some (.iload 5, 2) := rfl
theorem c_131_66 : mLk 131 66 = some (.istore_n 3, 1) := rfl
theorem c_131_67 : mLk 131 67 = some (.iload 6, 2) := rfl
theorem c_131_69 : mLk 131 69 = some (.istore 4, 2) := rfl
theorem c_131_57 : mLk 131 57 = some (.iload 6, 2) := rfl
theorem c_131_59 : mLk 131 59 = some (.iload 4, 2) := rfl
theorem c_131_61 : mLk 131 61 = some (.if_icmp .ge 10, 3) := rfl
theorem c_131_0 : mLk 131 0 = some (.aload_n 0, 1) := rfl
theorem c_131_1 : mLk 131 1 = some (.iload_n 1, 1) := rfl
theorem c_131_2 : mLk 131 2 = some (.iconst 0, 1) := rfl
theorem c_131_3 : mLk 131 3 = some (.iconst 1, 1) := rfl
theorem c_131_4 : mLk 131 4 = some (.invokestatic 157, 3) := rfl
theorem c_131_7 : mLk 131 7 = some (.invokevirtual 161, 3) := rfl
theorem c_131_10 : mLk 131 10 = some (.aload_n 0, 1) := rfl
theorem c_131_11 : mLk 131 11 = some (.invokevirtual 281, 3) := rfl
theorem c_131_14 : mLk 131 14 = some (.istore_n 2, 1) := rfl
theorem c_131_15 : mLk 131 15 = some (.iconst (-1), 1) := rfl
theorem c_131_16 : mLk 131 16 = some (.istore_n 3, 1) := rfl
theorem c_131_17 : mLk 131 17 = some (.iconst (-1), 1) := rfl
theorem c_131_18 : mLk 131 18 = some (.istore 4, 2) := rfl
theorem c_131_20 : mLk 131 20 = some (.iconst 0, 1) := rfl
theorem c_131_21 : mLk 131 21 = some (.istore 5, 2) := rfl
theorem c_135_0 : mLk 135 0 = some (.iload_n 0, 1) := rfl
theorem c_135_1 : mLk 135 1 = some (.ifCond .ne 7, 3) := rfl
theorem c_135_8 : mLk 135 8 = some (.iload_n 3, 1) := rfl
theorem c_135_9 : mLk 135 9 = some (.istore 4, 2) := rfl
theorem c_135_11 : mLk 135 11 = some (.iload_n 0, 1) := rfl
theorem c_135_12 : mLk 135 12 = some (.iload_n 1, 1) := rfl
theorem c_135_13 : mLk 135 13 = some (.if_icmp .ne 10, 3) := rfl
theorem c_135_23 : mLk 135 23 = some (.iload 4, 2) := rfl
theorem c_135_25 : mLk 135 25 = some (.ireturn, 1) := rfl
theorem c_135_16 : mLk 135 16 = some (.iload 4, 2) := rfl
theorem c_135_18 : mLk 135 18 = some (.iconst 2, 1) := rfl
theorem c_135_19 : mLk 135 19 = some (.idiv, 1) := rfl
theorem c_135_20 : mLk 135 20 = some (.goto 5, 3) := rfl
theorem c_135_4 : mLk 135 4 = some (.iload_n 2, 1) := rfl
theorem c_135_5 : mLk 135 5 = some (.goto 4, 3) := rfl
theorem c_136_50 : mLk 136 50 = some (.iload 7, 2) := rfl
theorem c_136_52 : mLk 136 52 = some (.iconst 4, 1) := rfl
theorem c_136_53 : mLk 136 53 = some (.if_icmp .ge 100, 3) := rfl
theorem c_136_153 : mLk 136 153 = some (.iload_n 3, 1) := rfl
theorem c_136_154 : mLk 136 154 = some (.lookupswitch 32 #[(0, 26), (1, 29)], 26) := rfl
theorem c_136_180 : mLk 136 180 = some (.iload 4, 2) := rfl
theorem c_136_182 : mLk 136 182 = some (.ireturn, 1) := rfl
theorem c_136_183 : mLk 136 183 = some (.iload 5, 2) := rfl
theorem c_136_185 : mLk 136 185 = some (.ireturn, 1) := rfl
theorem c_136_186 : mLk 136 186 = some (.iload 6, 2) := rfl
theorem c_136_188 : mLk 136 188 = some (.ireturn, 1) := rfl
theorem c_136_56 : mLk 136 56 = some (.iload 7, 2) := rfl
theorem c_136_58 : mLk 136 58 = some (.iconst 2, 1) := rfl
theorem c_136_59 : mLk 136 59 = some (.idiv, 1) := rfl
theorem c_136_60 : mLk 136 60 = some (.istore 8, 2) := rfl
theorem c_136_62 : mLk 136 62 = some (.iload 7, 2) := rfl
theorem c_136_64 : mLk 136 64 = some (.iconst 2, 1) := rfl
theorem c_136_65 : mLk 136 65 = some (.irem, 1) := rfl
theorem c_136_66 : mLk 136 66 = some (.istore 9, 2) := rfl
theorem c_136_68 : mLk 136 68 = some (.iload 8, 2) := rfl
theorem c_136_70 : mLk 136 70 = some (.iload 9, 2) := rfl
theorem c_136_72 : mLk 136 72 = some (.iload_n 1, 1) := rfl
theorem c_136_73 : mLk 136 73 = some (.iload_n 2, 1) := rfl
theorem c_136_74 : mLk 136 74 = some (.invokestatic 299, 3) := rfl
theorem c_136_77 : mLk 136 77 = some (.istore 10, 2) := rfl
theorem c_136_79 : mLk 136 79 = some (.iload 9, 2) := rfl
theorem c_136_81 : mLk 136 81 = some (.iload 8, 2) := rfl
theorem c_136_83 : mLk 136 83 = some (.iload_n 1, 1) := rfl
theorem c_136_84 : mLk 136 84 = some (.iload_n 2, 1) := rfl
theorem c_136_85 : mLk 136 85 = some (.invokestatic 299, 3) := rfl
theorem c_136_88 : mLk 136 88 = some (.istore 11, 2) := rfl
theorem c_136_90 : mLk 136 90 = some (.iconst 1, 1) := rfl
theorem c_136_91 : mLk 136 91 = some (.iload 8, 2) := rfl
theorem c_136_93 : mLk 136 93 = some (.isub, 1) := rfl
theorem c_136_94 : mLk 136 94 = some (.iload 9, 2) := rfl
theorem c_136_96 : mLk 136 96 = some (.iload_n 1, 1) := rfl
theorem c_136_97 : mLk 136 97 = some (.iload_n 2, 1) := rfl
theorem c_136_98 : mLk 136 98 = some (.invokestatic 299, 3) := rfl
theorem c_136_101 : mLk 136 101 = some (.iload 10, 2) := rfl
theorem c_136_103 : mLk 136 103 = some (.if_icmp .gt 44, 3) := rfl
theorem c_136_147 : mLk 136 147 = some (.iinc 7 1, 3) := rfl
theorem c_136_150 : mLk 136 150 = some (.goto (-100), 3) := rfl
theorem c_136_106 : mLk 136 106 = some (.iconst 1, 1) := rfl
theorem c_136_107 : mLk 136 107 = some (.iload 9, 2) := rfl
theorem c_136_109 : mLk 136 109 = some (.isub, 1) := rfl
theorem c_136_110 : mLk 136 110 = some (.iload 8, 2) := rfl
theorem c_136_112 : mLk 136 112 = some (.iload_n 1, 1) := rfl
theorem c_136_113 : mLk 136 113 = some (.iload_n 2, 1) := rfl
theorem c_136_114 : mLk 136 114 = some (.invokestatic 299, 3) := rfl
theorem c_136_117 : mLk 136 117 = some (.iload 11, 2) := rfl
theorem c_136_119 : mLk 136 119 = some (.if_icmp .gt 28, 3) := rfl
theorem c_136_122 : mLk 136 122 = some (.iload 4, 2) := rfl
theorem c_136_124 : mLk 136 124 = some (.ifCond .ne 20, 3) := rfl
theorem c_136_144 : mLk 136 144 = some (.iinc 4 1, 3) := rfl
theorem c_136_127 : mLk 136 127 = some (.bipush 10, 2) := rfl
theorem c_136_129 : mLk 136 129 = some (.iload 8, 2) := rfl
theorem c_136_131 : mLk 136 131 = some (.imul, 1) := rfl
theorem c_136_132 : mLk 136 132 = some (.iload 9, 2) := rfl
theorem c_136_134 : mLk 136 134 = some (.iadd, 1) := rfl
theorem c_136_135 : mLk 136 135 = some (.istore 5, 2) := rfl
theorem c_136_137 : mLk 136 137 = some (.iload 10, 2) := rfl
theorem c_136_139 : mLk 136 139 = some (.iload 11, 2) := rfl
theorem c_136_141 : mLk 136 141 = some (.iadd, 1) := rfl
theorem c_136_142 : mLk 136 142 = some (.istore 6, 2) := rfl
theorem c_136_0 : mLk 136 0 = some (.aload_n 0, 1) := rfl
theorem c_136_1 : mLk 136 1 = some (.iload_n 1, 1) := rfl
theorem c_136_2 : mLk 136 2 = some (.iconst 0, 1) := rfl
theorem c_136_3 : mLk 136 3 = some (.bipush 99, 2) := rfl
theorem c_136_5 : mLk 136 5 = some (.invokestatic 157, 3) := rfl
theorem c_136_8 : mLk 136 8 = some (.ifCond .eq 26, 3) := rfl
theorem c_136_34 : mLk 136 34 = some (.iconst 0, 1) := rfl
theorem c_136_35 : mLk 136 35 = some (.invokevirtual 161, 3) := rfl
theorem c_136_11 : mLk 136 11 = some (.iload_n 2, 1) := rfl
theorem c_136_12 : mLk 136 12 = some (.iconst 0, 1) := rfl
theorem c_136_13 : mLk 136 13 = some (.bipush 99, 2) := rfl
theorem c_136_15 : mLk 136 15 = some (.invokestatic 157, 3) := rfl
theorem c_136_18 : mLk 136 18 = some (.ifCond .eq 16, 3) := rfl
theorem c_136_21 : mLk 136 21 = some (.iload_n 3, 1) := rfl
theorem c_136_22 : mLk 136 22 = some (.iconst 0, 1) := rfl
theorem c_136_23 : mLk 136 23 = some (.iconst 2, 1) := rfl
theorem c_136_24 : mLk 136 24 = some (.invokestatic 157, 3) := rfl
theorem c_136_27 : mLk 136 27 = some (.ifCond .eq 7, 3) := rfl
theorem c_136_30 : mLk 136 30 = some (.iconst 1, 1) := rfl
theorem c_136_31 : mLk 136 31 = some (.goto 4, 3) := rfl
theorem c_136_38 : mLk 136 38 = some (.iconst 0, 1) := rfl
theorem c_136_39 : mLk 136 39 = some (.istore 4, 2) := rfl
theorem c_136_41 : mLk 136 41 = some (.iconst (-1), 1) := rfl
theorem c_136_42 : mLk 136 42 = some (.istore 5, 2) := rfl
theorem c_136_44 : mLk 136 44 = some (.iconst 0, 1) := rfl
theorem c_136_45 : mLk 136 45 = some (.istore 6, 2) := rfl
theorem c_136_47 : mLk 136 47 = some (.iconst 0, 1) := rfl
theorem c_136_48 : mLk 136 48 = some (.istore 7, 2) := rfl
theorem c_137_0 : mLk 137 0 = some (.aload_n 0, 1) := rfl
theorem c_137_1 : mLk 137 1 = some (.iload_n 2, 1) := rfl
theorem c_137_2 : mLk 137 2 = some (.iconst 0, 1) := rfl
theorem c_137_3 : mLk 137 3 = some (.bipush 16, 2) := rfl
theorem c_137_5 : mLk 137 5 = some (.invokestatic 157, 3) := rfl
theorem c_137_8 : mLk 137 8 = some (.ifCond .eq 27, 3) := rfl
theorem c_137_35 : mLk 137 35 = some (.iconst 0, 1) := rfl
theorem c_137_36 : mLk 137 36 = some (.invokevirtual 161, 3) := rfl
theorem c_137_11 : mLk 137 11 = some (.iload_n 3, 1) := rfl
theorem c_137_12 : mLk 137 12 = some (.iconst 1, 1) := rfl
theorem c_137_13 : mLk 137 13 = some (.bipush 48, 2) := rfl
theorem c_137_15 : mLk 137 15 = some (.invokestatic 157, 3) := rfl
theorem c_137_18 : mLk 137 18 = some (.ifCond .eq 17, 3) := rfl
theorem c_137_21 : mLk 137 21 = some (.iload 4, 2) := rfl
theorem c_137_23 : mLk 137 23 = some (.iconst 0, 1) := rfl
theorem c_137_24 : mLk 137 24 = some (.iconst 3, 1) := rfl
theorem c_137_25 : mLk 137 25 = some (.invokestatic 157, 3) := rfl
theorem c_137_28 : mLk 137 28 = some (.ifCond .eq 7, 3) := rfl
theorem c_137_31 : mLk 137 31 = some (.iconst 1, 1) := rfl
theorem c_137_32 : mLk 137 32 = some (.goto 4, 3) := rfl
theorem c_137_39 : mLk 137 39 = some (.aload_n 0, 1) := rfl
theorem c_137_40 : mLk 137 40 = some (.getfield 66, 3) := rfl
theorem c_137_43 : mLk 137 43 = some (.aload_n 0, 1) := rfl
theorem c_137_44 : mLk 137 44 = some (.getfield 62, 3) := rfl
theorem c_137_47 : mLk 137 47 = some (.invokevirtual 233, 3) := rfl
theorem c_137_50 : mLk 137 50 = some (.aload_n 0, 1) := rfl
theorem c_137_51 : mLk 137 51 = some (.getfield 33, 3) := rfl
theorem c_137_54 : mLk 137 54 = some (.aload_n 0, 1) := rfl
theorem c_137_55 : mLk 137 55 = some (.getfield 66, 3) := rfl
theorem c_137_58 : mLk 137 58 = some (.iload_n 1, 1) := rfl
theorem c_137_59 : mLk 137 59 = some (.iload_n 2, 1) := rfl
theorem c_137_60 : mLk 137 60 = some (.iload_n 3, 1) := rfl
theorem c_137_61 : mLk 137 61 = some (.invokevirtual 303, 3) := rfl
theorem c_137_64 : mLk 137 64 = some (.iload 4, 2) := rfl
theorem c_137_66 : mLk 137 66 = some (.tableswitch 78 0 2 #[26, 48, 56], 26) := rfl
theorem c_137_92 : mLk 137 92 = some (.aload_n 0, 1) := rfl
theorem c_137_93 : mLk 137 93 = some (.getfield 66, 3) := rfl
theorem c_137_96 : mLk 137 96 = some (.getfield 174, 3) := rfl
theorem c_137_99 : mLk 137 99 = some (.bipush 33, 2) := rfl
theorem c_137_101 : mLk 137 101 = some (.iaload, 1) := rfl
theorem c_137_102 : mLk 137 102 = some (.aload_n 0, 1) := rfl
theorem c_137_103 : mLk 137 103 = some (.getfield 62, 3) := rfl
theorem c_137_106 : mLk 137 106 = some (.getfield 174, 3) := rfl
theorem c_137_109 : mLk 137 109 = some (.bipush 33, 2) := rfl
theorem c_137_111 : mLk 137 111 = some (.iaload, 1) := rfl
theorem c_137_112 : mLk 137 112 = some (.isub, 1) := rfl
theorem c_137_113 : mLk 137 113 = some (.ireturn, 1) := rfl
theorem c_137_114 : mLk 137 114 = some (.aload_n 0, 1) := rfl
theorem c_137_115 : mLk 137 115 = some (.getfield 66, 3) := rfl
theorem c_137_118 : mLk 137 118 = some (.invokevirtual 177, 3) := rfl
theorem c_137_121 : mLk 137 121 = some (.ireturn, 1) := rfl
theorem c_137_122 : mLk 137 122 = some (.aload_n 0, 1) := rfl
theorem c_137_123 : mLk 137 123 = some (.getfield 66, 3) := rfl
theorem c_137_126 : mLk 137 126 = some (.getfield 174, 3) := rfl
theorem c_137_129 : mLk 137 129 = some (.bipush 32, 2) := rfl
theorem c_137_131 : mLk 137 131 = some (.iaload, 1) := rfl
theorem c_137_132 : mLk 137 132 = some (.aload_n 0, 1) := rfl
theorem c_137_133 : mLk 137 133 = some (.getfield 62, 3) := rfl
theorem c_137_136 : mLk 137 136 = some (.getfield 174, 3) := rfl
theorem c_137_139 : mLk 137 139 = some (.bipush 32, 2) := rfl
theorem c_137_141 : mLk 137 141 = some (.iaload, 1) := rfl
theorem c_137_142 : mLk 137 142 = some (.isub, 1) := rfl
theorem c_137_143 : mLk 137 143 = some (.ireturn, 1) := rfl
theorem c_137_144 : mLk 137 144 = some (.aload_n 0, 1) := rfl
theorem c_137_145 : mLk 137 145 = some (.getfield 66, 3) := rfl
theorem c_137_148 : mLk 137 148 = some (.invokevirtual 181, 3) := rfl
theorem c_137_151 : mLk 137 151 = some (.ireturn, 1) := rfl
theorem c_138_82 : mLk 138 82 = some (.iload 10, 2) := rfl
theorem c_138_84 : mLk 138 84 = some (.iload_n 2, 1) := rfl
theorem c_138_85 : mLk 138 85 = some (.if_icmp .ge 101, 3) := rfl
theorem c_138_186 : mLk 138 186 = some (.iload 5, 2) := rfl
theorem c_138_188 : mLk 138 188 = some (.lookupswitch 34 #[(0, 28), (1, 31)], 28) := rfl
theorem c_138_216 : mLk 138 216 = some (.iload 7, 2) := rfl
theorem c_138_218 : mLk 138 218 = some (.ireturn, 1) := rfl
theorem c_138_219 : mLk 138 219 = some (.iload 8, 2) := rfl
theorem c_138_221 : mLk 138 221 = some (.ireturn, 1) := rfl
theorem c_138_222 : mLk 138 222 = some (.iload 9, 2) := rfl
theorem c_138_224 : mLk 138 224 = some (.ireturn, 1) := rfl
theorem c_138_88 : mLk 138 88 = some (.aload_n 0, 1) := rfl
theorem c_138_89 : mLk 138 89 = some (.getfield 66, 3) := rfl
theorem c_138_92 : mLk 138 92 = some (.aload_n 0, 1) := rfl
theorem c_138_93 : mLk 138 93 = some (.getfield 62, 3) := rfl
theorem c_138_96 : mLk 138 96 = some (.invokevirtual 233, 3) := rfl
theorem c_138_99 : mLk 138 99 = some (.aload_n 0, 1) := rfl
theorem c_138_100 : mLk 138 100 = some (.getfield 33, 3) := rfl
theorem c_138_103 : mLk 138 103 = some (.aload_n 0, 1) := rfl
theorem c_138_104 : mLk 138 104 = some (.getfield 66, 3) := rfl
theorem c_138_107 : mLk 138 107 = some (.iload_n 1, 1) := rfl
theorem c_138_108 : mLk 138 108 = some (.iload 10, 2) := rfl
theorem c_138_110 : mLk 138 110 = some (.iadd, 1) := rfl
theorem c_138_111 : mLk 138 111 = some (.iload_n 3, 1) := rfl
theorem c_138_112 : mLk 138 112 = some (.iload 4, 2) := rfl
theorem c_138_114 : mLk 138 114 = some (.invokevirtual 303, 3) := rfl
theorem c_138_117 : mLk 138 117 = some (.aload_n 0, 1) := rfl
theorem c_138_118 : mLk 138 118 = some (.getfield 66, 3) := rfl
theorem c_138_121 : mLk 138 121 = some (.getfield 174, 3) := rfl
theorem c_138_124 : mLk 138 124 = some (.bipush 33, 2) := rfl
theorem c_138_126 : mLk 138 126 = some (.iaload, 1) := rfl
theorem c_138_127 : mLk 138 127 = some (.aload_n 0, 1) := rfl
theorem c_138_128 : mLk 138 128 = some (.getfield 62, 3) := rfl
theorem c_138_131 : mLk 138 131 = some (.getfield 174, 3) := rfl
theorem c_138_134 : mLk 138 134 = some (.bipush 33, 2) := rfl
theorem c_138_136 : mLk 138 136 = some (.iaload, 1) := rfl
theorem c_138_137 : mLk 138 137 = some (.isub, 1) := rfl
theorem c_138_138 : mLk 138 138 = some (.istore 11, 2) := rfl
theorem c_138_140 : mLk 138 140 = some (.iload 7, 2) := rfl
theorem c_138_142 : mLk 138 142 = some (.iload 11, 2) := rfl
theorem c_138_144 : mLk 138 144 = some (.invokestatic 278, 3) := rfl
theorem c_138_147 : mLk 138 147 = some (.istore 7, 2) := rfl
theorem c_138_149 : mLk 138 149 = some (.iload 8, 2) := rfl
theorem c_138_151 : mLk 138 151 = some (.iload 11, 2) := rfl
theorem c_138_153 : mLk 138 153 = some (.invokestatic 309, 3) := rfl
theorem c_138_156 : mLk 138 156 = some (.istore 8, 2) := rfl
theorem c_138_158 : mLk 138 158 = some (.iload 9, 2) := rfl
theorem c_138_160 : mLk 138 160 = some (.aload_n 0, 1) := rfl
theorem c_138_161 : mLk 138 161 = some (.getfield 66, 3) := rfl
theorem c_138_164 : mLk 138 164 = some (.iload 6, 2) := rfl
theorem c_138_166 : mLk 138 166 = some (.invokevirtual 187, 3) := rfl
theorem c_138_169 : mLk 138 169 = some (.ifCond .ne 7, 3) := rfl
theorem c_138_176 : mLk 138 176 = some (.iconst 0, 1) := rfl
theorem c_138_177 : mLk 138 177 = some (.iadd, 1) := rfl
theorem c_138_178 : mLk 138 178 = some (.istore 9, 2) := rfl
theorem c_138_180 : mLk 138 180 = some (.iinc 10 1, 3) := rfl
theorem c_138_183 : mLk 138 183 = some (.goto (-101), 3) := rfl
theorem c_138_172 : mLk 138 172 = some (.iconst 1, 1) := rfl
theorem c_138_173 : mLk 138 173 = some (.goto 4, 3) := rfl
theorem c_138_0 : mLk 138 0 = some (.aload_n 0, 1) := rfl
theorem c_138_1 : mLk 138 1 = some (.iload_n 2, 1) := rfl
theorem c_138_2 : mLk 138 2 = some (.iconst 1, 1) := rfl
theorem c_138_3 : mLk 138 3 = some (.bipush 10, 2) := rfl
theorem c_138_5 : mLk 138 5 = some (.invokestatic 157, 3) := rfl
theorem c_138_8 : mLk 138 8 = some (.ifCond .eq 56, 3) := rfl
theorem c_138_64 : mLk 138 64 = some (.iconst 0, 1) := rfl
theorem c_138_65 : mLk 138 65 = some (.invokevirtual 161, 3) := rfl
theorem c_138_11 : mLk 138 11 = some (.iload_n 3, 1) := rfl
theorem c_138_12 : mLk 138 12 = some (.iconst 0, 1) := rfl
theorem c_138_13 : mLk 138 13 = some (.bipush 16, 2) := rfl
theorem c_138_15 : mLk 138 15 = some (.invokestatic 157, 3) := rfl
theorem c_138_18 : mLk 138 18 = some (.ifCond .eq 46, 3) := rfl
theorem c_138_21 : mLk 138 21 = some (.iload 4, 2) := rfl
theorem c_138_23 : mLk 138 23 = some (.iconst 1, 1) := rfl
theorem c_138_24 : mLk 138 24 = some (.bipush 48, 2) := rfl
theorem c_138_26 : mLk 138 26 = some (.invokestatic 157, 3) := rfl
theorem c_138_29 : mLk 138 29 = some (.ifCond .eq 35, 3) := rfl
theorem c_138_32 : mLk 138 32 = some (.iload 5, 2) := rfl
theorem c_138_34 : mLk 138 34 = some (.iconst 0, 1) := rfl
theorem c_138_35 : mLk 138 35 = some (.iconst 2, 1) := rfl
theorem c_138_36 : mLk 138 36 = some (.invokestatic 157, 3) := rfl
theorem c_138_39 : mLk 138 39 = some (.ifCond .eq 25, 3) := rfl
theorem c_138_42 : mLk 138 42 = some (.iload 6, 2) := rfl
theorem c_138_44 : mLk 138 44 = some (.iconst 0, 1) := rfl
theorem c_138_45 : mLk 138 45 = some (.aload_n 0, 1) := rfl
theorem c_138_46 : mLk 138 46 = some (.getfield 50, 3) := rfl
theorem c_138_49 : mLk 138 49 = some (.getfield 102, 3) := rfl
theorem c_138_52 : mLk 138 52 = some (.iconst 1, 1) := rfl
theorem c_138_53 : mLk 138 53 = some (.isub, 1) := rfl
theorem c_138_54 : mLk 138 54 = some (.invokestatic 157, 3) := rfl
theorem c_138_57 : mLk 138 57 = some (.ifCond .eq 7, 3) := rfl
theorem c_138_60 : mLk 138 60 = some (.iconst 1, 1) := rfl
theorem c_138_61 : mLk 138 61 = some (.goto 4, 3) := rfl
theorem c_138_68 : mLk 138 68 = some (.ldc_w 308, 3) := rfl
theorem c_138_71 : mLk 138 71 = some (.istore 7, 2) := rfl
theorem c_138_73 : mLk 138 73 = some (.iconst 0, 1) := rfl
theorem c_138_74 : mLk 138 74 = some (.istore 8, 2) := rfl
theorem c_138_76 : mLk 138 76 = some (.iconst 0, 1) := rfl
theorem c_138_77 : mLk 138 77 = some (.istore 9, 2) := rfl
theorem c_138_79 : mLk 138 79 = some (.iconst 0, 1) := rfl
theorem c_138_80 : mLk 138 80 = some (.istore 10, 2) := rfl
theorem c_139_0 : mLk 139 0 = some (.aload_n 0, 1) := rfl
theorem c_139_1 : mLk 139 1 = some (.getfield 19, 3) := rfl
theorem c_139_4 : mLk 139 4 = some (.getfield 312, 3) := rfl
theorem c_139_7 : mLk 139 7 = some (.ifCond .ne 5, 3) := rfl
theorem c_139_12 : mLk 139 12 = some (.aload_n 0, 1) := rfl
theorem c_139_13 : mLk 139 13 = some (.getfield 19, 3) := rfl
theorem c_139_16 : mLk 139 16 = some (.aload_n 0, 1) := rfl
theorem c_139_17 : mLk 139 17 = some (.getfield 62, 3) := rfl
theorem c_139_20 : mLk 139 20 = some (.invokevirtual 315, 3) := rfl
theorem c_139_23 : mLk 139 23 = some (.aload_n 0, 1) := rfl
theorem c_139_24 : mLk 139 24 = some (.iconst 0, 1) := rfl
theorem c_139_25 : mLk 139 25 = some (.putfield 99, 3) := rfl
theorem c_139_28 : mLk 139 28 = some (.aload_n 0, 1) := rfl
theorem c_139_29 : mLk 139 29 = some (.getfield 19, 3) := rfl
theorem c_139_32 : mLk 139 32 = some (.getfield 312, 3) := rfl
theorem c_139_35 : mLk 139 35 = some (.ireturn, 1) := rfl
theorem c_139_10 : mLk 139 10 = some (.iconst (-1), 1) := rfl
theorem c_139_11 : mLk 139 11 = some (.ireturn, 1) := rfl
theorem c_140_0 : mLk 140 0 = some (.aload_n 0, 1) := rfl
theorem c_140_1 : mLk 140 1 = some (.getfield 19, 3) := rfl
theorem c_140_4 : mLk 140 4 = some (.getfield 318, 3) := rfl
theorem c_140_7 : mLk 140 7 = some (.iconst 3, 1) := rfl
theorem c_140_8 : mLk 140 8 = some (.if_icmp .ne 5, 3) := rfl
theorem c_140_13 : mLk 140 13 = some (.aload_n 0, 1) := rfl
theorem c_140_14 : mLk 140 14 = some (.getfield 19, 3) := rfl
theorem c_140_17 : mLk 140 17 = some (.aload_n 0, 1) := rfl
theorem c_140_18 : mLk 140 18 = some (.getfield 62, 3) := rfl
theorem c_140_21 : mLk 140 21 = some (.invokevirtual 321, 3) := rfl
theorem c_140_24 : mLk 140 24 = some (.aload_n 0, 1) := rfl
theorem c_140_25 : mLk 140 25 = some (.getfield 19, 3) := rfl
theorem c_140_28 : mLk 140 28 = some (.getfield 318, 3) := rfl
theorem c_140_31 : mLk 140 31 = some (.ireturn, 1) := rfl
theorem c_140_11 : mLk 140 11 = some (.iconst (-1), 1) := rfl
theorem c_140_12 : mLk 140 12 = some (.ireturn, 1) := rfl
theorem c_141_0 : mLk 141 0 = some (.aload_n 0, 1) := rfl
theorem c_141_1 : mLk 141 1 = some (.getfield 19, 3) := rfl
theorem c_141_4 : mLk 141 4 = some (.getfield 318, 3) := rfl
theorem c_141_7 : mLk 141 7 = some (.ifCond .ne 5, 3) := rfl
theorem c_141_12 : mLk 141 12 = some (.aload_n 0, 1) := rfl
theorem c_141_13 : mLk 141 13 = some (.getfield 19, 3) := rfl
theorem c_141_16 : mLk 141 16 = some (.aload_n 0, 1) := rfl
theorem c_141_17 : mLk 141 17 = some (.getfield 62, 3) := rfl
theorem c_141_20 : mLk 141 20 = some (.invokevirtual 324, 3) := rfl
theorem c_141_23 : mLk 141 23 = some (.aload_n 0, 1) := rfl
theorem c_141_24 : mLk 141 24 = some (.iconst 0, 1) := rfl
theorem c_141_25 : mLk 141 25 = some (.putfield 99, 3) := rfl
theorem c_141_28 : mLk 141 28 = some (.aload_n 0, 1) := rfl
theorem c_141_29 : mLk 141 29 = some (.getfield 19, 3) := rfl
theorem c_141_32 : mLk 141 32 = some (.getfield 318, 3) := rfl
theorem c_141_35 : mLk 141 35 = some (.ireturn, 1) := rfl
theorem c_141_10 : mLk 141 10 = some (.iconst (-1), 1) := rfl
theorem c_141_11 : mLk 141 11 = some (.ireturn, 1) := rfl
theorem c_142_0 : mLk 142 0 = some (.iload_n 1, 1) := rfl
theorem c_142_1 : mLk 142 1 = some (.lookupswitch 37 #[(0, 27), (1, 32)], 27) := rfl
theorem c_142_28 : mLk 142 28 = some (.aload_n 0, 1) := rfl
theorem c_142_29 : mLk 142 29 = some (.getfield 327, 3) := rfl
theorem c_142_32 : mLk 142 32 = some (.ireturn, 1) := rfl
theorem c_142_33 : mLk 142 33 = some (.aload_n 0, 1) := rfl
theorem c_142_34 : mLk 142 34 = some (.getfield 330, 3) := rfl
theorem c_142_37 : mLk 142 37 = some (.ireturn, 1) := rfl
theorem c_142_38 : mLk 142 38 = some (.iconst (-1), 1) := rfl
theorem c_142_39 : mLk 142 39 = some (.ireturn, 1) := rfl
theorem c_143_0 : mLk 143 0 = some (.iload_n 1, 1) := rfl
theorem c_143_1 : mLk 143 1 = some (.tableswitch 51 0 2 #[27, 35, 43], 27) := rfl
theorem c_143_28 : mLk 143 28 = some (.aload_n 0, 1) := rfl
theorem c_143_29 : mLk 143 29 = some (.getfield 19, 3) := rfl
theorem c_143_32 : mLk 143 32 = some (.getfield 318, 3) := rfl
theorem c_143_35 : mLk 143 35 = some (.ireturn, 1) := rfl
theorem c_143_36 : mLk 143 36 = some (.aload_n 0, 1) := rfl
theorem c_143_37 : mLk 143 37 = some (.getfield 10, 3) := rfl
theorem c_143_40 : mLk 143 40 = some (.getfield 77, 3) := rfl
theorem c_143_43 : mLk 143 43 = some (.ireturn, 1) := rfl
theorem c_143_44 : mLk 143 44 = some (.aload_n 0, 1) := rfl
theorem c_143_45 : mLk 143 45 = some (.getfield 19, 3) := rfl
theorem c_143_48 : mLk 143 48 = some (.getfield 312, 3) := rfl
theorem c_143_51 : mLk 143 51 = some (.ireturn, 1) := rfl
theorem c_143_52 : mLk 143 52 = some (.iconst (-1), 1) := rfl
theorem c_143_53 : mLk 143 53 = some (.ireturn, 1) := rfl
theorem c_147_0 : mLk 147 0 = some (.aload_n 0, 1) := rfl
theorem c_147_1 : mLk 147 1 = some (.iconst 0, 1) := rfl
theorem c_147_2 : mLk 147 2 = some (.putfield 145, 3) := rfl
theorem c_147_5 : mLk 147 5 = some (.aload_n 0, 1) := rfl
theorem c_147_6 : mLk 147 6 = some (.iconst 0, 1) := rfl
theorem c_147_7 : mLk 147 7 = some (.putfield 148, 3) := rfl
theorem c_147_10 : mLk 147 10 = some (.aload_n 0, 1) := rfl
theorem c_147_11 : mLk 147 11 = some (.iconst 0, 1) := rfl
theorem c_147_12 : mLk 147 12 = some (.putfield 151, 3) := rfl
theorem c_147_15 : mLk 147 15 = some (.aload_n 0, 1) := rfl
theorem c_147_16 : mLk 147 16 = some (.iconst 5, 1) := rfl
theorem c_147_17 : mLk 147 17 = some (.putfield 154, 3) := rfl
theorem c_149_105 : mLk 149 105 = some (.iload_n 1, 1) := rfl
theorem c_149_106 : mLk 149 106 = some (.iconst 4, 1) := rfl
theorem c_149_107 : mLk 149 107 = some (.if_icmp .ge 16, 3) := rfl
theorem c_149_123 : mLk 149 123 = some (.iconst 0, 1) := rfl
theorem c_149_124 : mLk 149 124 = some (.istore_n 1, 1) := rfl
theorem c_149_110 : mLk 149 110 = some (.aload_n 0, 1) := rfl
theorem c_149_111 : mLk 149 111 = some (.getfield 83, 3) := rfl
theorem c_149_114 : mLk 149 114 = some (.iload_n 1, 1) := rfl
theorem c_149_115 : mLk 149 115 = some (.iconst (-1), 1) := rfl
theorem c_149_116 : mLk 149 116 = some (.iastore, 1) := rfl
theorem c_149_117 : mLk 149 117 = some (.iinc 1 1, 3) := rfl
theorem c_149_120 : mLk 149 120 = some (.goto (-15), 3) := rfl
theorem c_149_125 : mLk 149 125 = some (.iload_n 1, 1) := rfl
theorem c_149_126 : mLk 149 126 = some (.bipush 37, 2) := rfl
theorem c_149_128 : mLk 149 128 = some (.if_icmp .ge 16, 3) := rfl
theorem c_149_144 : mLk 149 144 = some (.iconst 0, 1) := rfl
theorem c_149_145 : mLk 149 145 = some (.istore_n 1, 1) := rfl
theorem c_149_131 : mLk 149 131 = some (.aload_n 0, 1) := rfl
theorem c_149_132 : mLk 149 132 = some (.getfield 65, 3) := rfl
theorem c_149_135 : mLk 149 135 = some (.iload_n 1, 1) := rfl
theorem c_149_136 : mLk 149 136 = some (.iconst 0, 1) := rfl
theorem c_149_137 : mLk 149 137 = some (.iastore, 1) := rfl
theorem c_149_138 : mLk 149 138 = some (.iinc 1 1, 3) := rfl
theorem c_149_141 : mLk 149 141 = some (.goto (-16), 3) := rfl
theorem c_149_146 : mLk 149 146 = some (.iload_n 1, 1) := rfl
theorem c_149_147 : mLk 149 147 = some (.iconst 4, 1) := rfl
theorem c_149_148 : mLk 149 148 = some (.aload_n 0, 1) := rfl
theorem c_149_149 : mLk 149 149 = some (.getfield 157, 3) := rfl
theorem c_149_152 : mLk 149 152 = some (.imul, 1) := rfl
theorem c_149_153 : mLk 149 153 = some (.if_icmp .ge 21, 3) := rfl
theorem c_149_156 : mLk 149 156 = some (.aload_n 0, 1) := rfl
theorem c_149_157 : mLk 149 157 = some (.getfield 65, 3) := rfl
theorem c_149_160 : mLk 149 160 = some (.iload_n 1, 1) := rfl
theorem c_149_161 : mLk 149 161 = some (.aload_n 0, 1) := rfl
theorem c_149_162 : mLk 149 162 = some (.getfield 32, 3) := rfl
theorem c_149_165 : mLk 149 165 = some (.iload_n 1, 1) := rfl
theorem c_149_166 : mLk 149 166 = some (.iaload, 1) := rfl
theorem c_149_167 : mLk 149 167 = some (.iastore, 1) := rfl
theorem c_149_168 : mLk 149 168 = some (.iinc 1 1, 3) := rfl
theorem c_149_171 : mLk 149 171 = some (.goto (-25), 3) := rfl
theorem c_149_0 : mLk 149 0 = some (.aload_n 0, 1) := rfl
theorem c_149_1 : mLk 149 1 = some (.aload_n 0, 1) := rfl
theorem c_149_2 : mLk 149 2 = some (.getfield 145, 3) := rfl
theorem c_149_5 : mLk 149 5 = some (.putfield 157, 3) := rfl
theorem c_149_8 : mLk 149 8 = some (.aload_n 0, 1) := rfl
theorem c_149_9 : mLk 149 9 = some (.aload_n 0, 1) := rfl
theorem c_149_10 : mLk 149 10 = some (.getfield 148, 3) := rfl
theorem c_149_13 : mLk 149 13 = some (.putfield 160, 3) := rfl
theorem c_149_16 : mLk 149 16 = some (.aload_n 0, 1) := rfl
theorem c_149_17 : mLk 149 17 = some (.aload_n 0, 1) := rfl
theorem c_149_18 : mLk 149 18 = some (.getfield 151, 3) := rfl
theorem c_149_21 : mLk 149 21 = some (.putfield 163, 3) := rfl
theorem c_149_24 : mLk 149 24 = some (.aload_n 0, 1) := rfl
theorem c_149_25 : mLk 149 25 = some (.aload_n 0, 1) := rfl
theorem c_149_26 : mLk 149 26 = some (.getfield 154, 3) := rfl
theorem c_149_29 : mLk 149 29 = some (.putfield 166, 3) := rfl
theorem c_149_32 : mLk 149 32 = some (.aload_n 0, 1) := rfl
theorem c_149_33 : mLk 149 33 = some (.aload_n 0, 1) := rfl
theorem c_149_34 : mLk 149 34 = some (.getfield 23, 3) := rfl
theorem c_149_37 : mLk 149 37 = some (.aload_n 0, 1) := rfl
theorem c_149_38 : mLk 149 38 = some (.getfield 32, 3) := rfl
theorem c_149_41 : mLk 149 41 = some (.bipush 24, 2) := rfl
theorem c_149_43 : mLk 149 43 = some (.invokevirtual 169, 3) := rfl
theorem c_149_46 : mLk 149 46 = some (.aload_n 0, 1) := rfl
theorem c_149_47 : mLk 149 47 = some (.aload_n 0, 1) := rfl
theorem c_149_48 : mLk 149 48 = some (.getfield 26, 3) := rfl
theorem c_149_51 : mLk 149 51 = some (.aload_n 0, 1) := rfl
theorem c_149_52 : mLk 149 52 = some (.getfield 35, 3) := rfl
theorem c_149_55 : mLk 149 55 = some (.bipush 12, 2) := rfl
theorem c_149_57 : mLk 149 57 = some (.invokevirtual 169, 3) := rfl
theorem c_149_60 : mLk 149 60 = some (.aload_n 0, 1) := rfl
theorem c_149_61 : mLk 149 61 = some (.aload_n 0, 1) := rfl
theorem c_149_62 : mLk 149 62 = some (.getfield 29, 3) := rfl
theorem c_149_65 : mLk 149 65 = some (.aload_n 0, 1) := rfl
theorem c_149_66 : mLk 149 66 = some (.getfield 38, 3) := rfl
theorem c_149_69 : mLk 149 69 = some (.iconst 4, 1) := rfl
theorem c_149_70 : mLk 149 70 = some (.invokevirtual 169, 3) := rfl
theorem c_149_73 : mLk 149 73 = some (.aload_n 0, 1) := rfl
theorem c_149_74 : mLk 149 74 = some (.iconst 0, 1) := rfl
theorem c_149_75 : mLk 149 75 = some (.putfield 173, 3) := rfl
theorem c_149_78 : mLk 149 78 = some (.aload_n 0, 1) := rfl
theorem c_149_79 : mLk 149 79 = some (.iconst 0, 1) := rfl
theorem c_149_80 : mLk 149 80 = some (.putfield 176, 3) := rfl
theorem c_149_83 : mLk 149 83 = some (.aload_n 0, 1) := rfl
theorem c_149_84 : mLk 149 84 = some (.iconst 0, 1) := rfl
theorem c_149_85 : mLk 149 85 = some (.putfield 179, 3) := rfl
theorem c_149_88 : mLk 149 88 = some (.aload_n 0, 1) := rfl
theorem c_149_89 : mLk 149 89 = some (.iconst 0, 1) := rfl
theorem c_149_90 : mLk 149 90 = some (.putfield 182, 3) := rfl
theorem c_149_93 : mLk 149 93 = some (.aload_n 0, 1) := rfl
theorem c_149_94 : mLk 149 94 = some (.iconst 0, 1) := rfl
theorem c_149_95 : mLk 149 95 = some (.putfield 185, 3) := rfl
theorem c_149_98 : mLk 149 98 = some (.aload_n 0, 1) := rfl
theorem c_149_99 : mLk 149 99 = some (.iconst 0, 1) := rfl
theorem c_149_100 : mLk 149 100 = some (.putfield 188, 3) := rfl
theorem c_149_103 : mLk 149 103 = some (.iconst 0, 1) := rfl
theorem c_149_104 : mLk 149 104 = some (.istore_n 1, 1) := rfl
theorem c_151_23 : mLk 151 23 = some (.iload 6, 2) := rfl
theorem c_151_25 : mLk 151 25 = some (.bipush 20, 2) := rfl
theorem c_151_27 : mLk 151 27 = some (.if_icmp .ge 93, 3) := rfl
theorem c_151_120 : mLk 151 120 = some (.aload_n 0, 1) := rfl
theorem c_151_121 : mLk 151 121 = some (.getfield 99, 3) := rfl
theorem c_151_124 : mLk 151 124 = some (.ireturn, 1) := rfl
theorem c_151_30 : mLk 151 30 = some (.iload 6, 2) := rfl
theorem c_151_32 : mLk 151 32 = some (.iconst 4, 1) := rfl
theorem c_151_33 : mLk 151 33 = some (.if_icmp .ge 7, 3) := rfl
theorem c_151_40 : mLk 151 40 = some (.iload 6, 2) := rfl
theorem c_151_42 : mLk 151 42 = some (.bipush 8, 2) := rfl
theorem c_151_44 : mLk 151 44 = some (.if_icmp .ge 7, 3) := rfl
theorem c_151_51 : mLk 151 51 = some (.iload 6, 2) := rfl
theorem c_151_53 : mLk 151 53 = some (.bipush 12, 2) := rfl
theorem c_151_55 : mLk 151 55 = some (.if_icmp .ge 7, 3) := rfl
theorem c_151_62 : mLk 151 62 = some (.iload 6, 2) := rfl
theorem c_151_64 : mLk 151 64 = some (.bipush 16, 2) := rfl
theorem c_151_66 : mLk 151 66 = some (.if_icmp .ge 8, 3) := rfl
theorem c_151_74 : mLk 151 74 = some (.iload 5, 2) := rfl
theorem c_151_76 : mLk 151 76 = some (.istore 7, 2) := rfl
theorem c_151_78 : mLk 151 78 = some (.aload_n 0, 1) := rfl
theorem c_151_79 : mLk 151 79 = some (.getfield 20, 3) := rfl
theorem c_151_82 : mLk 151 82 = some (.aload_n 0, 1) := rfl
theorem c_151_83 : mLk 151 83 = some (.getfield 99, 3) := rfl
theorem c_151_86 : mLk 151 86 = some (.iload 7, 2) := rfl
theorem c_151_88 : mLk 151 88 = some (.bipush 24, 2) := rfl
theorem c_151_90 : mLk 151 90 = some (.bipush 8, 2) := rfl
theorem c_151_92 : mLk 151 92 = some (.iload 6, 2) := rfl
theorem c_151_94 : mLk 151 94 = some (.iconst 4, 1) := rfl
theorem c_151_95 : mLk 151 95 = some (.irem, 1) := rfl
theorem c_151_96 : mLk 151 96 = some (.imul, 1) := rfl
theorem c_151_97 : mLk 151 97 = some (.isub, 1) := rfl
theorem c_151_98 : mLk 151 98 = some (.ishr, 1) := rfl
theorem c_151_99 : mLk 151 99 = some (.sipush 255, 3) := rfl
theorem c_151_102 : mLk 151 102 = some (.iand, 1) := rfl
theorem c_151_103 : mLk 151 103 = some (.iastore, 1) := rfl
theorem c_151_104 : mLk 151 104 = some (.aload_n 0, 1) := rfl
theorem c_151_105 : mLk 151 105 = some (.dup, 1) := rfl
theorem c_151_106 : mLk 151 106 = some (.getfield 99, 3) := rfl
theorem c_151_109 : mLk 151 109 = some (.iconst 1, 1) := rfl
theorem c_151_110 : mLk 151 110 = some (.iadd, 1) := rfl
theorem c_151_111 : mLk 151 111 = some (.putfield 99, 3) := rfl
theorem c_151_114 : mLk 151 114 = some (.iinc 6 1, 3) := rfl
theorem c_151_117 : mLk 151 117 = some (.goto (-94), 3) := rfl
theorem c_151_69 : mLk 151 69 = some (.iload 4, 2) := rfl
theorem c_151_71 : mLk 151 71 = some (.goto 5, 3) := rfl
theorem c_151_58 : mLk 151 58 = some (.iload_n 3, 1) := rfl
theorem c_151_59 : mLk 151 59 = some (.goto 17, 3) := rfl
theorem c_151_47 : mLk 151 47 = some (.iload_n 2, 1) := rfl
theorem c_151_48 : mLk 151 48 = some (.goto 28, 3) := rfl
theorem c_151_36 : mLk 151 36 = some (.iload_n 1, 1) := rfl
theorem c_151_37 : mLk 151 37 = some (.goto 39, 3) := rfl
theorem c_151_0 : mLk 151 0 = some (.aload_n 0, 1) := rfl
theorem c_151_1 : mLk 151 1 = some (.iconst 0, 1) := rfl
theorem c_151_2 : mLk 151 2 = some (.putfield 3, 3) := rfl
theorem c_151_5 : mLk 151 5 = some (.aload_n 0, 1) := rfl
theorem c_151_6 : mLk 151 6 = some (.getfield 99, 3) := rfl
theorem c_151_9 : mLk 151 9 = some (.bipush 20, 2) := rfl
theorem c_151_11 : mLk 151 11 = some (.iadd, 1) := rfl
theorem c_151_12 : mLk 151 12 = some (.sipush 600, 3) := rfl
theorem c_151_15 : mLk 151 15 = some (.if_icmp .le 5, 3) := rfl
theorem c_151_20 : mLk 151 20 = some (.iconst 0, 1) := rfl
theorem c_151_21 : mLk 151 21 = some (.istore 6, 2) := rfl
theorem c_151_18 : mLk 151 18 = some (.iconst (-1), 1) := rfl
theorem c_151_19 : mLk 151 19 = some (.ireturn, 1) := rfl
theorem c_153_0 : mLk 153 0 = some (.aload_n 0, 1) := rfl
theorem c_153_1 : mLk 153 1 = some (.getfield 102, 3) := rfl
theorem c_153_4 : mLk 153 4 = some (.iconst (-1), 1) := rfl
theorem c_153_5 : mLk 153 5 = some (.if_icmp .eq 4, 3) := rfl
theorem c_153_9 : mLk 153 9 = some (.aload_n 0, 1) := rfl
theorem c_153_10 : mLk 153 10 = some (.iload_n 2, 1) := rfl
theorem c_153_11 : mLk 153 11 = some (.putfield 102, 3) := rfl
theorem c_153_14 : mLk 153 14 = some (.aload_n 0, 1) := rfl
theorem c_153_15 : mLk 153 15 = some (.iload_n 1, 1) := rfl
theorem c_153_16 : mLk 153 16 = some (.putfield 105, 3) := rfl
theorem c_154_0 : mLk 154 0 = some (.aload_n 0, 1) := rfl
theorem c_154_1 : mLk 154 1 = some (.getfield 108, 3) := rfl
theorem c_154_4 : mLk 154 4 = some (.aload_n 0, 1) := rfl
theorem c_154_5 : mLk 154 5 = some (.getfield 111, 3) := rfl
theorem c_154_8 : mLk 154 8 = some (.if_icmp .ge 30, 3) := rfl
theorem c_154_38 : mLk 154 38 = some (.aload_n 0, 1) := rfl
theorem c_154_39 : mLk 154 39 = some (.getfield 108, 3) := rfl
theorem c_154_42 : mLk 154 42 = some (.aload_n 0, 1) := rfl
theorem c_154_43 : mLk 154 43 = some (.getfield 111, 3) := rfl
theorem c_154_46 : mLk 154 46 = some (.if_icmp .ge 15, 3) := rfl
theorem c_154_61 : mLk 154 61 = some (.iconst 0, 1) := rfl
theorem c_154_62 : mLk 154 62 = some (.ireturn, 1) := rfl
theorem c_154_11 : mLk 154 11 = some (.aload_n 0, 1) := rfl
theorem c_154_12 : mLk 154 12 = some (.getfield 20, 3) := rfl
theorem c_154_15 : mLk 154 15 = some (.aload_n 0, 1) := rfl
theorem c_154_16 : mLk 154 16 = some (.getfield 108, 3) := rfl
theorem c_154_19 : mLk 154 19 = some (.iaload, 1) := rfl
theorem c_154_20 : mLk 154 20 = some (.bipush 32, 2) := rfl
theorem c_154_22 : mLk 154 22 = some (.if_icmp .ne 16, 3) := rfl
theorem c_154_49 : mLk 154 49 = some (.aload_n 0, 1) := rfl
theorem c_154_50 : mLk 154 50 = some (.getfield 20, 3) := rfl
theorem c_154_53 : mLk 154 53 = some (.aload_n 0, 1) := rfl
theorem c_154_54 : mLk 154 54 = some (.getfield 108, 3) := rfl
theorem c_154_57 : mLk 154 57 = some (.iaload, 1) := rfl
theorem c_154_58 : mLk 154 58 = some (.goto 4, 3) := rfl
theorem c_154_25 : mLk 154 25 = some (.aload_n 0, 1) := rfl
theorem c_154_26 : mLk 154 26 = some (.dup, 1) := rfl
theorem c_154_27 : mLk 154 27 = some (.getfield 108, 3) := rfl
theorem c_154_30 : mLk 154 30 = some (.iconst 1, 1) := rfl
theorem c_154_31 : mLk 154 31 = some (.iadd, 1) := rfl
theorem c_154_32 : mLk 154 32 = some (.putfield 108, 3) := rfl
theorem c_154_35 : mLk 154 35 = some (.goto (-35), 3) := rfl
theorem kf_7_312 : a_lk (kF 7) 312 = some (1, 3) := rfl
theorem kf_7_318 : a_lk (kF 7) 318 = some (1, 4) := rfl
theorem kf_7_33 : a_lk (kF 7) 33 = some (7, 3) := rfl
theorem kf_8_102 : a_lk (kF 8) 102 = some (8, 5) := rfl
theorem kf_8_105 : a_lk (kF 8) 105 = some (8, 6) := rfl
theorem kf_8_108 : a_lk (kF 8) 108 = some (8, 4) := rfl
theorem kf_8_111 : a_lk (kF 8) 111 = some (8, 3) := rfl
theorem kf_8_145 : a_lk (kF 8) 145 = some (8, 16) := rfl
theorem kf_8_148 : a_lk (kF 8) 148 = some (8, 17) := rfl
theorem kf_8_151 : a_lk (kF 8) 151 = some (8, 18) := rfl
theorem kf_8_154 : a_lk (kF 8) 154 = some (8, 19) := rfl
theorem kf_8_157 : a_lk (kF 8) 157 = some (8, 20) := rfl
theorem kf_8_160 : a_lk (kF 8) 160 = some (8, 21) := rfl
theorem kf_8_163 : a_lk (kF 8) 163 = some (8, 22) := rfl
theorem kf_8_166 : a_lk (kF 8) 166 = some (8, 23) := rfl
theorem kf_8_173 : a_lk (kF 8) 173 = some (8, 30) := rfl
theorem kf_8_176 : a_lk (kF 8) 176 = some (8, 47) := rfl
theorem kf_8_179 : a_lk (kF 8) 179 = some (8, 48) := rfl
theorem kf_8_182 : a_lk (kF 8) 182 = some (8, 35) := rfl
theorem kf_8_185 : a_lk (kF 8) 185 = some (8, 52) := rfl
theorem kf_8_188 : a_lk (kF 8) 188 = some (8, 36) := rfl
theorem kf_8_20 : a_lk (kF 8) 20 = some (8, 9) := rfl
theorem kf_8_23 : a_lk (kF 8) 23 = some (8, 10) := rfl
theorem kf_8_26 : a_lk (kF 8) 26 = some (8, 11) := rfl
theorem kf_8_29 : a_lk (kF 8) 29 = some (8, 12) := rfl
theorem kf_8_3 : a_lk (kF 8) 3 = some (8, 0) := rfl
theorem kf_8_32 : a_lk (kF 8) 32 = some (8, 13) := rfl
theorem kf_8_35 : a_lk (kF 8) 35 = some (8, 14) := rfl
theorem kf_8_38 : a_lk (kF 8) 38 = some (8, 15) := rfl
theorem kf_8_65 : a_lk (kF 8) 65 = some (8, 40) := rfl
theorem kf_8_83 : a_lk (kF 8) 83 = some (8, 46) := rfl
theorem kf_8_99 : a_lk (kF 8) 99 = some (8, 2) := rfl
theorem km_7_287 : a_lk (kM 7) 287 = some (0, 130) := rfl
theorem km_7_303 : a_lk (kM 7) 303 = some (0, 77) := rfl
theorem km_7_315 : a_lk (kM 7) 315 = some (0, 25) := rfl
theorem km_7_321 : a_lk (kM 7) 321 = some (0, 26) := rfl
theorem km_7_324 : a_lk (kM 7) 324 = some (0, 27) := rfl
theorem km_7_360 : a_lk (kM 7) 360 = some (0, 129) := rfl
theorem km_8_169 : a_lk (kM 8) 169 = some (0, 148) := rfl
set_option maxRecDepth 100000 in
set_option maxHeartbeats 4000000 in
theorem s_130_l {sc : List Int32} {e : Int} {d u P Q : Nat} {c : ME} {a1 : Int} {a2 : Int} {Z : AR → Prop} (hI : Iv u e P Q c) (ha1 : 0 ≤ a1 ∧ a1 ≤ 3) (ha2 : 0 ≤ a2 ∧ a2 ≤ 24) (K : ∀ (y : Int), (-2147483648) ≤ y ∧ y ≤ 2147483647 → Z (.inl (some (vi y)), Wd P Q P P c, 0, 0)) : ∀ n : Nat, (∀ (v3 : Int) (v4 : Int), 0 ≤ v3 ∧ v3 ≤ 2147483647 → 0 ≤ v4 ∧ v4 ≤ 24 → 1324 - 53 * v4 < (n : Int) → Wp sc (d + 11) 130 5 [(0, .ref 0), (1, vi a1), (2, vi a2), (3, vi v3), (4, vi v4)] [] (Wd P Q P P c) 0 0 Z) ∧ (∀ (v3 : Int) (v4 : Int) (v5 : Int) (v6 : Int), 0 ≤ v3 ∧ v3 ≤ 2147483647 → 0 ≤ v4 ∧ v4 ≤ 23 → (-2147483648) ≤ v5 ∧ v5 ≤ 2147483647 → 0 ≤ v6 ∧ v6 ≤ 24 → 1321 - 53 * v4 - 2 * v6 < (n : Int) → Wp sc (d + 11) 130 17 [(0, .ref 0), (1, vi a1), (2, vi a2), (3, vi v3), (4, vi v4), (5, vi v5), (6, vi v6)] [] (Wd P Q P P c) 0 0 Z) := by
  intro n
  induction n with
  | zero => exact (by exact ⟨by (intro v3 v4 hv3 hv4 hm9; have hP := iv_P hI; have hQ := iv_Q hI; exfalso; omega), by (intro v3 v4 v5 v6 hv3 hv4 hv5 hv6 hm9; have hP := iv_P hI; have hQ := iv_Q hI; exfalso; omega)⟩)
  | succ n ih =>
    have hP := iv_P hI
    have hQ := iv_Q hI
    refine ⟨?_, ?_⟩
    · skip
      intro v3 v4 hv3 hv4 hm9
      refine q_iload c_130_5 rfl (q_iload_n c_130_7 rfl ?_)
      by_cases h_1 : v4 ≥ a2
      · refine v_ic_ge_t (t := 72) c_130_8 rfl ⟨(Int.le_trans (by decide) ha2.1), h_1, (Int.le_trans hv4.2 (by decide))⟩ (q_iload_n c_130_72 rfl (q_iret c_130_73 rfl ?_))
        exact K v3 ⟨(Int.le_trans (by decide) hv3.1), hv3.2⟩
      · refine v_ic_ge_f (t := 72) c_130_8 rfl ⟨(Int.le_trans (by decide) hv4.1), (Int.not_le.mp h_1), (Int.le_trans ha2.2 (by decide))⟩ (q_iconst c_130_11 (q_istore c_130_12 (nb_ rfl) (q_iconst c_130_14 (q_istore c_130_15 (nb_ rfl) (Wp_ls [(0, .ref 0), (1, vi a1), (2, vi a2), (3, vi v3), (4, vi v4), (5, vi 0), (6, vi 0)] (lsub_cons rfl (lsub_cons rfl (lsub_cons rfl (lsub_cons rfl (lsub_cons rfl (lsub_cons rfl (lsub_cons rfl lsub_nil))))))) ?_)))))
        exact ih.2 v3 v4 0 0 hv3 ⟨hv4.1, by first | exact q_96fb51a24 h_1 ha2 | omega⟩ ⟨by decide, by decide⟩ ⟨by decide, by decide⟩ (by omega)
    · skip
      intro v3 v4 v5 v6 hv3 hv4 hv5 hv6 hm9
      refine q_iload c_130_17 rfl (q_iload_n c_130_19 rfl ?_)
      by_cases h_2 : v6 ≥ a2
      · refine v_ic_ge_t (t := 59) c_130_20 rfl ⟨(Int.le_trans (by decide) ha2.1), h_2, (Int.le_trans hv6.2 (by decide))⟩ (q_iload_n c_130_59 rfl (q_iload c_130_60 rfl (v_maxx c_130_62 rfl (by omega) (nb_ rfl) ⟨by omega, by omega, by omega, by omega⟩ (fun y_3 hy_3 => (q_istore_n c_130_65 (nb_ rfl) (v_iinc (v := v4 + 1) c_130_66 rfl (nb_ rfl) rfl (q_goto (t := 5) c_130_69 rfl (Wp_ls [(0, .ref 0), (1, vi a1), (2, vi a2), (3, vi y_3), (4, vi (v4 + 1))] (lsub_cons rfl (lsub_cons rfl (lsub_cons rfl (lsub_cons rfl (lsub_cons rfl lsub_nil))))) ?_))))))))
        exact ih.1 y_3 (v4 + 1) ⟨by omega, by omega⟩ ⟨by first | exact rgp_l hv4.1 (by decide) | omega, by first | exact rgp_h hv4.2 (by decide) | omega⟩ (by omega)
      · refine v_ic_ge_f (t := 59) c_130_20 rfl ⟨(Int.le_trans (by decide) hv6.1), (Int.not_le.mp h_2), (Int.le_trans ha2.2 (by decide))⟩ (q_aload_n c_130_23 rfl (q_aload_n c_130_24 rfl (v_gr (t := 10) c_130_25 kf_7_37 rfl (nb_ rfl) rfl (q_iload c_130_28 rfl ?_))))
        have h_4 := ir_10 hI v4
        have h_5 := ir_10_x hI v4
        refine v_ia (v := c 10 v4) c_130_30 rfl (by decide) (by decide) ⟨hv4.1, by first | exact q_d49973a5f hv4 | omega⟩ rfl (q_iload_n c_130_31 rfl (v_cv c_130_32 km_7_360 rfl rfl (nb_ rfl) ⟨⟨rfl, rfl⟩, nb_ rfl, rfl⟩ (nb_ rfl) (nb_ rfl) (s_129 (a1 := c 10 v4) (a2 := a1) hI (show 0 ≤ c 10 v4 ∧ c 10 v4 ≤ 35 from h_4) (show 0 ≤ a1 ∧ a1 ≤ 3 from ha1) (by omega) (fun y_6 hy_6 => (bk_inl (q_aload_n c_130_35 rfl (q_aload_n c_130_36 rfl (v_gr (t := 10) c_130_37 kf_7_37 rfl (nb_ rfl) rfl (q_iload c_130_40 rfl ?_)))))))))
        have h_7 := ir_10 hI v6
        have h_8 := ir_10_x hI v6
        refine v_ia (v := c 10 v6) c_130_42 rfl (by decide) (by decide) ⟨hv6.1, by first | exact q_56a208ad1 h_2 ha2 | omega⟩ rfl (q_iload_n c_130_43 rfl (v_cv c_130_44 km_7_360 rfl rfl (nb_ rfl) ⟨⟨rfl, rfl⟩, nb_ rfl, rfl⟩ (nb_ rfl) (nb_ rfl) (s_129 (a1 := c 10 v6) (a2 := a1) hI (show 0 ≤ c 10 v6 ∧ c 10 v6 ≤ 35 from h_7) (show 0 ≤ a1 ∧ a1 ≤ 3 from ha1) (by omega) (fun y_9 hy_9 => (bk_inl ?_)))))
        by_cases h_10 : y_6 ≠ y_9
        · refine v_ic_ne_t (t := 53) c_130_47 rfl ⟨h_10, ⟨hy_6.1, hy_6.2⟩, hy_9.1, hy_9.2⟩ (v_iinc (v := v6 + 1) c_130_53 rfl (nb_ rfl) rfl (q_goto (t := 17) c_130_56 rfl (Wp_ls [(0, .ref 0), (1, vi a1), (2, vi a2), (3, vi v3), (4, vi v4), (5, vi v5), (6, vi (v6 + 1))] (lsub_cons rfl (lsub_cons rfl (lsub_cons rfl (lsub_cons rfl (lsub_cons rfl (lsub_cons rfl (lsub_cons rfl lsub_nil))))))) ?_)))
          exact ih.2 v3 v4 v5 (v6 + 1) hv3 hv4 hv5 ⟨by first | exact rgp_l hv6.1 (by decide) | omega, by first | exact q_250c7ebb9 h_2 ha2 | omega⟩ (by omega)
        · refine v_ic_ne_f (t := 53) c_130_47 rfl (Decidable.not_not.mp h_10) (v_iincx c_130_50 rfl (by decide) (fun y_11 hy_11 => (v_iinc (v := v6 + 1) c_130_53 rfl (nb_ rfl) rfl (q_goto (t := 17) c_130_56 rfl (Wp_ls [(0, .ref 0), (1, vi a1), (2, vi a2), (3, vi v3), (4, vi v4), (5, vi y_11), (6, vi (v6 + 1))] (lsub_cons rfl (lsub_cons rfl (lsub_cons rfl (lsub_cons rfl (lsub_cons rfl (lsub_cons rfl (lsub_cons rfl lsub_nil))))))) ?_)))))
          exact ih.2 v3 v4 y_11 (v6 + 1) hv3 hv4 hy_11 ⟨by first | exact rgp_l hv6.1 (by decide) | omega, by first | exact q_250c7ebb9 h_2 ha2 | omega⟩ (by omega)
set_option maxRecDepth 100000 in
set_option maxHeartbeats 4000000 in
theorem s_130 {sc : List Int32} {e : Int} {d u P Q : Nat} {c : ME} {a1 : Int} {a2 : Int} {Z : AR → Prop} (hI : Iv u e P Q c) (ha1 : 0 ≤ a1 ∧ a1 ≤ 3) (ha2 : 0 ≤ a2 ∧ a2 ≤ 24) (K : ∀ (y : Int), (-2147483648) ≤ y ∧ y ≤ 2147483647 → Z (.inl (some (vi y)), Wd P Q P P c, 0, 0)) : Wp sc (d + 11) 130 0 [(0, .ref 0), (1, vi a1), (2, vi a2)] [] (Wd P Q P P c) 0 0 Z := by
  have hP := iv_P hI
  have hQ := iv_Q hI
  refine q_iconst c_130_0 (q_istore_n c_130_1 (nb_ rfl) (q_iconst c_130_2 (q_istore c_130_3 (nb_ rfl) (Wp_ls [(0, .ref 0), (1, vi a1), (2, vi a2), (3, vi 0), (4, vi 0)] (lsub_cons rfl (lsub_cons rfl (lsub_cons rfl (lsub_cons rfl (lsub_cons rfl lsub_nil))))) ?_))))
  exact (s_130_l (sc := sc) (d := d) hI ha1 ha2 K 1327).1 0 0 ⟨by decide, by decide⟩ ⟨by decide, by decide⟩ (by omega)

set_option maxRecDepth 100000 in
set_option maxHeartbeats 4000000 in
theorem s_131_l {sc : List Int32} {e : Int} {d u P Q : Nat} {c : ME} {a1 : Int} {Z : AR → Prop} (hI : Iv u e P Q c) (ha1 : (-2147483648) ≤ a1 ∧ a1 ≤ 2147483647) (T101 : ∀ c2 : ME, Iv u e P Q c2 → (∀ (a : Nat) (j : Int), ¬ ((a = 0 ∧ j = 13) ∨ a = 10) → c2 a j = c a j) → Z (.inr 101, Wd P Q P P c2, 1, 6)) (K : ∀ (c2 : ME) (y : Int), Iv u e P Q c2 → (∀ (a : Nat) (j : Int), ¬ ((a = 0 ∧ j = 13) ∨ a = 10) → c2 a j = c a j) → (-2147483648) ≤ y ∧ y ≤ 2147483647 → Z (.inl (some (vi y)), Wd P Q P P c2, 0, 0)) : ∀ n : Nat, (∀ (c2 : ME) (v2 : Int) (v3 : Int) (v4 : Int) (v5 : Int), Iv u e P Q c2 → (∀ (a : Nat) (j : Int), ¬ ((a = 0 ∧ j = 13) ∨ a = 10) → c2 a j = c a j) → 0 ≤ v2 ∧ v2 ≤ 24 → (-1) ≤ v3 ∧ v3 ≤ 3 → (-2147483648) ≤ v4 ∧ v4 ≤ 2147483647 → 0 ≤ v5 ∧ v5 ≤ 4 → 9 - 2 * v5 < (n : Int) → Wp sc (d + 12) 131 23 [(0, .ref 0), (1, vi a1), (2, vi v2), (3, vi v3), (4, vi v4), (5, vi v5)] [] (Wd P Q P P c2) 0 0 Z) := by
  intro n
  induction n with
  | zero => exact (by intro c2 v2 v3 v4 v5 hI2 hF hv2 hv3 hv4 hv5 hm9; have hP := iv_P hI; have hQ := iv_Q hI; exfalso; omega)
  | succ n ih =>
    have hP := iv_P hI
    have hQ := iv_Q hI
    intro c2 v2 v3 v4 v5 hI2 hF hv2 hv3 hv4 hv5 hm9
    refine q_iload c_131_23 rfl (q_iconst c_131_25 ?_)
    by_cases h_1 : v5 ≥ 4
    · refine v_ic_ge_t (t := 77) c_131_26 rfl ⟨by decide, h_1, (Int.le_trans hv5.2 (by decide))⟩ (q_iload_n c_131_77 rfl ?_)
      by_cases h_2 : a1 ≠ 0
      · refine v_if_ne_t (t := 85) c_131_78 rfl ⟨h_2, ⟨ha1.1, ha1.2⟩, by decide, by decide⟩ (q_iload c_131_85 rfl (q_iret c_131_87 rfl ?_))
        exact K c2 v4 hI2 (fun a j hm => hF a j hm) hv4
      · refine v_if_ne_f (t := 85) c_131_78 rfl (Decidable.not_not.mp h_2) (q_iload_n c_131_81 rfl (q_goto (t := 87) c_131_82 rfl (q_iret c_131_87 rfl ?_)))
        exact K c2 v3 hI2 (fun a j hm => hF a j hm) ⟨(Int.le_trans (by decide) hv3.1), (Int.le_trans hv3.2 (by decide))⟩
    · refine v_ic_ge_f (t := 77) c_131_26 rfl ⟨(Int.le_trans (by decide) hv5.1), (Int.not_le.mp h_1), by decide⟩ (q_aload_n c_131_29 rfl (v_gr (t := P) c_131_30 kf_7_50 rfl (nb_ rfl) rfl (v_gr (t := (P + 6)) c_131_33 kf_7_284 (ck_p0 hP) (a68z hP) rfl (q_iload c_131_36 rfl ?_))))
      have h_3 := ir_p6 hI hP v5
      have kn_4 : Hid (c2 (P + 6) v5 = c (P + 6) v5) := hF (P + 6) v5 (qn_b51e60c8b hP)
      refine v_ia (v := c (P + 6) v5) c_131_38 (ck_p6 hP) (a68 hP rfl) (by decide) ⟨hv5.1, by first | exact q_2e808647e h_1 | omega⟩ (hid kn_4) (q_iconst c_131_39 ?_)
      by_cases h_5 : c (P + 6) v5 ≠ (-1)
      · refine v_ic_ne_t (t := 71) c_131_40 rfl ⟨h_5, ⟨by first | exact q_87765d87e h_3 | omega, by first | exact q_cf71bb2da h_3 | omega⟩, by decide, by decide⟩ (v_iinc (v := v5 + 1) c_131_71 rfl (nb_ rfl) rfl (q_goto (t := 23) c_131_74 rfl (Wp_ls [(0, .ref 0), (1, vi a1), (2, vi v2), (3, vi v3), (4, vi v4), (5, vi (v5 + 1))] (lsub_cons rfl (lsub_cons rfl (lsub_cons rfl (lsub_cons rfl (lsub_cons rfl (lsub_cons rfl lsub_nil)))))) ?_)))
        exact ih c2 v2 v3 v4 (v5 + 1) hI2 (fun a j hm => hF a j hm) hv2 hv3 hv4 ⟨by first | exact rgp_l hv5.1 (by decide) | omega, by first | exact q_121241f94 h_1 | omega⟩ (by omega)
      · refine v_ic_ne_f (t := 71) c_131_40 rfl (Decidable.not_not.mp h_5) (q_aload_n c_131_43 rfl (q_iload c_131_44 rfl (q_iload_n c_131_46 rfl (v_cv c_131_47 km_7_287 rfl rfl (nb_ rfl) ⟨⟨rfl, rfl⟩, nb_ rfl, rfl⟩ (nb_ rfl) (nb_ rfl) (s_130 (a1 := v5) (a2 := v2) hI2 (show 0 ≤ v5 ∧ v5 ≤ 3 from ⟨hv5.1, by first | exact q_482ef8d41 h_1 | omega⟩) (show 0 ≤ v2 ∧ v2 ≤ 24 from hv2) (fun y_6 hy_6 => (bk_inl (q_istore c_131_50 (nb_ rfl) (q_iload_n c_131_52 rfl ?_)))))))))
        refine q_iconst c_131_53 ?_
        by_cases h_7 : v3 = (-1)
        · refine v_ic_eq_t (t := 64) c_131_54 rfl h_7 (q_iload c_131_64 rfl (q_istore_n c_131_66 (nb_ rfl) (q_iload c_131_67 rfl (q_istore c_131_69 (nb_ rfl) (v_iinc (v := v5 + 1) c_131_71 rfl (nb_ rfl) rfl (q_goto (t := 23) c_131_74 rfl (Wp_ls [(0, .ref 0), (1, vi a1), (2, vi v2), (3, vi v5), (4, vi y_6), (5, vi (v5 + 1))] (lsub_cons rfl (lsub_cons rfl (lsub_cons rfl (lsub_cons rfl (lsub_cons rfl (lsub_cons rfl lsub_nil)))))) ?_)))))))
          exact ih c2 v2 v5 y_6 (v5 + 1) hI2 (fun a j hm => hF a j hm) hv2 ⟨(Int.le_trans (by decide) hv5.1), by first | exact q_482ef8d41 h_1 | omega⟩ hy_6 ⟨by first | exact rgp_l hv5.1 (by decide) | omega, by first | exact q_121241f94 h_1 | omega⟩ (by omega)
        · refine v_ic_eq_f (t := 64) c_131_54 rfl ⟨h_7, ⟨(Int.le_trans (by decide) hv3.1), (Int.le_trans hv3.2 (by decide))⟩, by decide, by decide⟩ (q_iload c_131_57 rfl (q_iload c_131_59 rfl ?_))
          by_cases h_8 : y_6 ≥ v4
          · refine v_ic_ge_t (t := 71) c_131_61 rfl ⟨hv4.1, h_8, hy_6.2⟩ (v_iinc (v := v5 + 1) c_131_71 rfl (nb_ rfl) rfl (q_goto (t := 23) c_131_74 rfl (Wp_ls [(0, .ref 0), (1, vi a1), (2, vi v2), (3, vi v3), (4, vi v4), (5, vi (v5 + 1))] (lsub_cons rfl (lsub_cons rfl (lsub_cons rfl (lsub_cons rfl (lsub_cons rfl (lsub_cons rfl lsub_nil)))))) ?_)))
            exact ih c2 v2 v3 v4 (v5 + 1) hI2 (fun a j hm => hF a j hm) hv2 hv3 hv4 ⟨by first | exact rgp_l hv5.1 (by decide) | omega, by first | exact q_121241f94 h_1 | omega⟩ (by omega)
          · refine v_ic_ge_f (t := 71) c_131_61 rfl ⟨hy_6.1, (Int.not_le.mp h_8), hv4.2⟩ (q_iload c_131_64 rfl (q_istore_n c_131_66 (nb_ rfl) (q_iload c_131_67 rfl (q_istore c_131_69 (nb_ rfl) (v_iinc (v := v5 + 1) c_131_71 rfl (nb_ rfl) rfl (q_goto (t := 23) c_131_74 rfl (Wp_ls [(0, .ref 0), (1, vi a1), (2, vi v2), (3, vi v5), (4, vi y_6), (5, vi (v5 + 1))] (lsub_cons rfl (lsub_cons rfl (lsub_cons rfl (lsub_cons rfl (lsub_cons rfl (lsub_cons rfl lsub_nil)))))) ?_)))))))
            exact ih c2 v2 v5 y_6 (v5 + 1) hI2 (fun a j hm => hF a j hm) hv2 ⟨(Int.le_trans (by decide) hv5.1), by first | exact q_482ef8d41 h_1 | omega⟩ hy_6 ⟨by first | exact rgp_l hv5.1 (by decide) | omega, by first | exact q_121241f94 h_1 | omega⟩ (by omega)
set_option maxRecDepth 100000 in
set_option maxHeartbeats 4000000 in
theorem s_131 {sc : List Int32} {e : Int} {d u P Q : Nat} {c : ME} {a1 : Int} {Z : AR → Prop} (hI : Iv u e P Q c) (ha1 : (-2147483648) ≤ a1 ∧ a1 ≤ 2147483647) (T101 : ∀ c2 : ME, Iv u e P Q c2 → (∀ (a : Nat) (j : Int), ¬ ((a = 0 ∧ j = 13) ∨ a = 10) → c2 a j = c a j) → Z (.inr 101, Wd P Q P P c2, 1, 6)) (K : ∀ (c2 : ME) (y : Int), Iv u e P Q c2 → (∀ (a : Nat) (j : Int), ¬ ((a = 0 ∧ j = 13) ∨ a = 10) → c2 a j = c a j) → (-2147483648) ≤ y ∧ y ≤ 2147483647 → Z (.inl (some (vi y)), Wd P Q P P c2, 0, 0)) : Wp sc (d + 12) 131 0 [(0, .ref 0), (1, vi a1)] [] (Wd P Q P P c) 0 0 Z := by
  have hP := iv_P hI
  have hQ := iv_Q hI
  refine q_aload_n c_131_0 rfl (q_iload_n c_131_1 rfl (q_iconst c_131_2 (q_iconst c_131_3 (q_call c_131_4 rfl rfl rfl (q_iload_n c_80_0 rfl (q_iload_n c_80_1 rfl ?_))))))
  by_cases h_9 : a1 < 0
  · refine v_ic_lt_t (t := 14) c_80_2 rfl ⟨ha1.1, h_9, by decide⟩ (q_iconst c_80_14 (v_zret c_80_15 rfl (by decide) (bk_inl (v_cv c_131_7 km_7_161 rfl rfl (nb_ rfl) ⟨⟨rfl, rfl⟩, nb_ rfl, rfl⟩ (nb_ rfl) (nb_ rfl) (q_iload_n c_81_0 rfl (v_if_ne_f (t := 25) c_81_1 rfl (by decide) (q_aload_n c_81_4 rfl ?_)))))))
    refine q_dup c_81_5 rfl ?_
    have h_10 := ir_0_13 hI
    refine v_gi (z := 13) (v := c 0 13) c_81_6 kf_7_330 rfl (nb_ rfl) rfl rfl rfl (q_iconst c_81_9 (v_iadd (v := c 0 13 + 1) c_81_10 rfl (v_nrm (fun y_11 hy_11 => (v_pi (z := 13) c_81_11 kf_7_330 rfl (nb_ rfl) rfl rfl rfl (by decide) (v_new c_81_14 rfl (by decide) (ld_ rfl) (nb_ rfl) (by decide) rfl (bk_out rfl rfl ?_)))))))
    have hI_12 := iw_0_13 (v := y_11) hI ⟨hy_11.1, hy_11.2⟩
    exact T101 _ hI_12 (fun a j hm => up_b (Decidable.or_iff_not_imp_left.mpr (fun h1 h2 => hm (Or.inl ⟨Decidable.not_not.mp h1, h2⟩))))
  · refine v_ic_lt_f (t := 14) c_80_2 rfl ⟨by decide, (Int.not_lt.mp h_9), ha1.2⟩ (q_iload_n c_80_5 rfl (q_iload_n c_80_6 rfl ?_))
    by_cases h_13 : a1 > 1
    · refine v_ic_gt_t (t := 14) c_80_7 rfl ⟨by decide, h_13, ha1.2⟩ (q_iconst c_80_14 (v_zret c_80_15 rfl (by decide) (bk_inl (v_cv c_131_7 km_7_161 rfl rfl (nb_ rfl) ⟨⟨rfl, rfl⟩, nb_ rfl, rfl⟩ (nb_ rfl) (nb_ rfl) (q_iload_n c_81_0 rfl (v_if_ne_f (t := 25) c_81_1 rfl (by decide) (q_aload_n c_81_4 rfl ?_)))))))
      refine q_dup c_81_5 rfl ?_
      have h_14 := ir_0_13 hI
      refine v_gi (z := 13) (v := c 0 13) c_81_6 kf_7_330 rfl (nb_ rfl) rfl rfl rfl (q_iconst c_81_9 (v_iadd (v := c 0 13 + 1) c_81_10 rfl (v_nrm (fun y_15 hy_15 => (v_pi (z := 13) c_81_11 kf_7_330 rfl (nb_ rfl) rfl rfl rfl (by decide) (v_new c_81_14 rfl (by decide) (ld_ rfl) (nb_ rfl) (by decide) rfl (bk_out rfl rfl ?_)))))))
      have hI_16 := iw_0_13 (v := y_15) hI ⟨hy_15.1, hy_15.2⟩
      exact T101 _ hI_16 (fun a j hm => up_b (Decidable.or_iff_not_imp_left.mpr (fun h1 h2 => hm (Or.inl ⟨Decidable.not_not.mp h1, h2⟩))))
    · refine v_ic_gt_f (t := 14) c_80_7 rfl ⟨ha1.1, (Int.not_lt.mp h_13), by decide⟩ (q_iconst c_80_10 (q_goto (t := 15) c_80_11 rfl (v_zret c_80_15 rfl (by decide) (bk_inl (v_cv c_131_7 km_7_161 rfl rfl (nb_ rfl) ⟨⟨rfl, rfl⟩, nb_ rfl, rfl⟩ (nb_ rfl) (nb_ rfl) (q_iload_n c_81_0 rfl (v_if_ne_t (t := 25) c_81_1 rfl (by decide) ?_)))))))
      refine q_vret rfl rfl (bk_inl (q_aload_n c_131_10 rfl (v_cv c_131_11 km_7_281 rfl rfl (nb_ rfl) ⟨⟨rfl, rfl⟩, nb_ rfl, rfl⟩ (nb_ rfl) (nb_ rfl) (s_127 hI (fun c_17 y_20 hI_18 hF_19 hy_20 => (bk_inl (q_istore_n c_131_14 (nb_ rfl) (q_iconst c_131_15 (q_istore_n c_131_16 (nb_ rfl) ?_)))))))))
      refine q_iconst c_131_17 (q_istore c_131_18 (nb_ rfl) (q_iconst c_131_20 (q_istore c_131_21 (nb_ rfl) (Wp_ls [(0, .ref 0), (1, vi a1), (2, vi y_20), (3, vi (-1)), (4, vi (-1)), (5, vi 0)] (lsub_cons rfl (lsub_cons rfl (lsub_cons rfl (lsub_cons rfl (lsub_cons rfl (lsub_cons rfl lsub_nil)))))) ?_))))
      exact (s_131_l (sc := sc) (d := d) hI ha1 T101 K 12) c_17 y_20 (-1) (-1) 0 hI_18 (fun a j hm => hF_19 a j (fun h => hm (Or.inr h))) hy_20 ⟨by decide, by decide⟩ ⟨by decide, by decide⟩ ⟨by decide, by decide⟩ (by omega)

set_option maxRecDepth 100000 in
set_option maxHeartbeats 4000000 in
theorem s_134 {sc : List Int32} {e : Int} {d u P Q : Nat} {c : ME} {a1 a2 a3 a4 : Int} {Z : AR → Prop} (hI : Iv u e P Q c) (ha1 : -2147483648 ≤ a1 ∧ a1 ≤ 2147483647) (ha2 : -2147483648 ≤ a2 ∧ a2 ≤ 2147483647) (ha3 : -2147483648 ≤ a3 ∧ a3 ≤ 2147483647) (ha4 : -2147483648 ≤ a4 ∧ a4 ≤ 2147483647) (T101 : ∀ c2 : ME, Iv u e P Q c2 → (∀ (a : Nat) (j : Int), ¬ ((a = 0 ∧ j = 13)) → c2 a j = c a j) → Z (.inr 101, Wd P Q P P c2, 1, 6)) (K : ∀ (c2 : ME) (y : Int), Iv u e P Q c2 → (∀ (a : Nat) (j : Int), ¬ ((a = 0 ∧ j = 13)) → c2 a j = c a j) → Z (.inl (some (vl y)), Wd P Q P P c2, 0, 0)) : Wp sc (d + 8) 134 0 [(0, .ref 0), (1, vi a1), (2, vi a2), (3, vi a3), (4, vi a4)] [] (Wd P Q P P c) 0 0 Z := by
  by_cases hg : ((0 ≤ a1 ∧ a1 ≤ 12) ∧ (0 ≤ a2 ∧ a2 ≤ 13)) ∧ (0 ≤ a3 ∧ a3 ≤ 16) ∧ (0 ≤ a4 ∧ a4 ≤ 1)
  · skip
    obtain ⟨n, h1⟩ := Int.eq_ofNat_of_zero_le (show 0 ≤ a1 by omega)
    obtain ⟨k, h2⟩ := Int.eq_ofNat_of_zero_le (show 0 ≤ a2 by omega)
    obtain ⟨q, h3⟩ := Int.eq_ofNat_of_zero_le (show 0 ≤ a3 by omega)
    obtain ⟨f, h4⟩ := Int.eq_ofNat_of_zero_le (show 0 ≤ a4 by omega)
    exact m_134 (d := d + 6) n k q f h1 h2 h3 h4 (by omega) (by omega) (by omega) (by omega) (K c _ hI (fun a j hm => rfl))
  · refine m_134_t ha1 ha2 ha3 ha4 (by omega) ?_
    rw [wd_nrm (c := up c 0 13 (c 0 13 + 1)) (a := 0) (j := 13) (fun n h => by cases (show (Sum.inr _ : CK) = Sum.inl (2, n) from h))]
    exact T101 _ (iv_pt (a := 0) (j := 13) hI (fun b i hb => (up_b (by omega)).trans (up_b (by omega))) (by unfold Ns; omega) (by rw [up_e rfl]; exact wr_rng _)) (fun a j hm => (up_b (by omega)).trans (up_b (by omega)))
set_option maxRecDepth 100000 in
set_option maxHeartbeats 4000000 in
theorem s_234 {sc : List Int32} {e : Int} {d u P Q : Nat} {c : ME} {a1 a2 a3 a4 : Int} {Z : AR → Prop} (hI : Iv u e P Q c) (ha1 : -2147483648 ≤ a1 ∧ a1 ≤ 2147483647) (ha2 : -2147483648 ≤ a2 ∧ a2 ≤ 2147483647) (ha3 : -2147483648 ≤ a3 ∧ a3 ≤ 2147483647) (ha4 : -2147483648 ≤ a4 ∧ a4 ≤ 2147483647) (K : ∀ (c2 : ME) (y : Int), Iv u e P Q c2 → (∀ (a : Nat) (j : Int), ¬ ((a = 41 ∧ j = 0) ∨ a = 42 ∨ a = 65) → c2 a j = c a j) → Z (.inl (some (vl y)), Wd P Q P P c2, 0, 0)) : Wp sc (d + 8) 234 0 [(0, .ref 41), (1, vi a1), (2, vi a2), (3, vi a3), (4, vi a4)] [] (Wd P Q P P c) 0 0 Z := by
  have hJ : Iv u e P Q (up c 41 0 0) := iw_41_0 hI ⟨by decide, by decide⟩
  by_cases hg : ((0 ≤ a1 ∧ a1 ≤ 12) ∧ (0 ≤ a2 ∧ a2 ≤ 13)) ∧ (0 ≤ a3 ∧ a3 ≤ 16) ∧ (0 ≤ a4 ∧ a4 ≤ 1)
  · skip
    obtain ⟨n, h1⟩ := Int.eq_ofNat_of_zero_le (show 0 ≤ a1 by omega)
    obtain ⟨k, h2⟩ := Int.eq_ofNat_of_zero_le (show 0 ≤ a2 by omega)
    obtain ⟨q, h3⟩ := Int.eq_ofNat_of_zero_le (show 0 ≤ a3 by omega)
    obtain ⟨f, h4⟩ := Int.eq_ofNat_of_zero_le (show 0 ≤ a4 by omega)
    exact m_234 (d := d + 6) n k q f h1 h2 h3 h4 (by omega) (by omega) (by omega) (by omega) (fun c2 hc => K c2 _ (iv_65 hJ hc) (fun a j hm => by rw [hc a (by omega)]; exact up_b (by omega)))
  · refine m_234_t (d := d + 6) ha1 ha2 ha3 ha4 (by omega) ?_
    rw [wd_nrm (c := up (up (up c 41 0 0) 41 0 1) 42 1 (c 42 1 + 1)) (a := 42) (j := 1) (fun n h => by cases (show (Sum.inl (0, 2) : CK) = Sum.inl (2, n) from h))]
    exact K _ 0 (iv_pt (a := 42) (j := 1) (iw_41_0 hJ (v := 1) ⟨by decide, by decide⟩) (fun b i hb => (up_b (by omega)).trans (up_b (by omega))) (by unfold Ns; omega) (by rw [up_e rfl]; exact wr_rng _)) (fun a j hm => (up_b (by omega)).trans ((up_b (by omega)).trans ((up_b (by omega)).trans (up_b (by omega)))))

set_option maxRecDepth 100000 in
set_option maxHeartbeats 4000000 in
theorem s_135 {sc : List Int32} {e : Int} {d u P Q : Nat} {c : ME} {a0 : Int} {a1 : Int} {a2 : Int} {a3 : Int} {Z : AR → Prop} (hI : Iv u e P Q c) (ha0 : 0 ≤ a0 ∧ a0 ≤ 1) (ha1 : 0 ≤ a1 ∧ a1 ≤ 1) (ha2 : 0 ≤ a2 ∧ a2 ≤ 99) (ha3 : 0 ≤ a3 ∧ a3 ≤ 99) (K : ∀ (y : Int), 0 ≤ y ∧ y ≤ 99 → Z (.inl (some (vi y)), Wd P Q P P c, 0, 0)) : Wp sc (d + 7) 135 0 [(0, vi a0), (1, vi a1), (2, vi a2), (3, vi a3)] [] (Wd P Q P P c) 0 0 Z := by
  have hP := iv_P hI
  have hQ := iv_Q hI
  refine q_iload_n c_135_0 rfl ?_
  by_cases h_1 : a0 ≠ 0
  · refine v_if_ne_t (t := 8) c_135_1 rfl ⟨h_1, ⟨(Int.le_trans (by decide) ha0.1), (Int.le_trans ha0.2 (by decide))⟩, by decide, by decide⟩ (q_iload_n c_135_8 rfl (q_istore c_135_9 (nb_ rfl) (q_iload_n c_135_11 rfl (q_iload_n c_135_12 rfl ?_))))
    by_cases h_2 : a0 ≠ a1
    · refine v_ic_ne_t (t := 23) c_135_13 rfl ⟨h_2, ⟨(Int.le_trans (by decide) ha0.1), (Int.le_trans ha0.2 (by decide))⟩, (Int.le_trans (by decide) ha1.1), (Int.le_trans ha1.2 (by decide))⟩ (q_iload c_135_23 rfl (q_iret c_135_25 rfl ?_))
      exact K a3 ha3
    · refine v_ic_ne_f (t := 23) c_135_13 rfl (Decidable.not_not.mp h_2) (q_iload c_135_16 rfl (q_iconst c_135_18 (v_idiv (v := (a3 / 2)) c_135_19 (by omega) rfl (q_goto (t := 25) c_135_20 rfl (q_iret c_135_25 rfl ?_)))))
      exact K (a3 / 2) ⟨by first | (clear ha0 ha1 ha2 h_2 h_1; omega) | omega, by first | (clear ha0 ha1 ha2 h_2 h_1; omega) | omega⟩
  · refine v_if_ne_f (t := 8) c_135_1 rfl (Decidable.not_not.mp h_1) (q_iload_n c_135_4 rfl (q_goto (t := 9) c_135_5 rfl (q_istore c_135_9 (nb_ rfl) (q_iload_n c_135_11 rfl (q_iload_n c_135_12 rfl ?_)))))
    by_cases h_3 : a0 ≠ a1
    · refine v_ic_ne_t (t := 23) c_135_13 rfl ⟨h_3, ⟨(Int.le_trans (by decide) ha0.1), (Int.le_trans ha0.2 (by decide))⟩, (Int.le_trans (by decide) ha1.1), (Int.le_trans ha1.2 (by decide))⟩ (q_iload c_135_23 rfl (q_iret c_135_25 rfl ?_))
      exact K a2 ha2
    · refine v_ic_ne_f (t := 23) c_135_13 rfl (Decidable.not_not.mp h_3) (q_iload c_135_16 rfl (q_iconst c_135_18 (v_idiv (v := (a2 / 2)) c_135_19 (by omega) rfl (q_goto (t := 25) c_135_20 rfl (q_iret c_135_25 rfl ?_)))))
      exact K (a2 / 2) ⟨by omega, by omega⟩

set_option maxRecDepth 100000 in
set_option maxHeartbeats 4000000 in
theorem s_136_l {sc : List Int32} {e : Int} {d u P Q : Nat} {c : ME} {a1 : Int} {a2 : Int} {a3 : Int} {Z : AR → Prop} (hI : Iv u e P Q c) (ha1 : (-2147483648) ≤ a1 ∧ a1 ≤ 2147483647) (ha2 : (-2147483648) ≤ a2 ∧ a2 ≤ 2147483647) (ha3 : (-2147483648) ≤ a3 ∧ a3 ≤ 2147483647) (T101 : ∀ c2 : ME, Iv u e P Q c2 → (∀ (a : Nat) (j : Int), ¬ ((a = 0 ∧ j = 13)) → c2 a j = c a j) → Z (.inr 101, Wd P Q P P c2, 1, 6)) (K : ∀ (c2 : ME) (y : Int), Iv u e P Q c2 → (∀ (a : Nat) (j : Int), ¬ ((a = 0 ∧ j = 13)) → c2 a j = c a j) → (-2147483648) ≤ y ∧ y ≤ 2147483647 → Z (.inl (some (vi y)), Wd P Q P P c2, 0, 0)) : ∀ n : Nat, (∀ (c2 : ME) (v4 : Int) (v5 : Int) (v6 : Int) (v7 : Int), Iv u e P Q c2 → (∀ (a : Nat) (j : Int), ¬ ((a = 0 ∧ j = 13)) → c2 a j = c a j) → (-2147483648) ≤ v4 ∧ v4 ≤ 2147483647 → (-1) ≤ v5 ∧ v5 ≤ 12 → 0 ≤ v6 ∧ v6 ≤ 198 → 0 ≤ v7 ∧ v7 ≤ 4 → ((a1 ≥ 0 ∧ a1 ≤ 99)) → ((a2 ≥ 0 ∧ a2 ≤ 99)) → 9 - 2 * v7 < (n : Int) → Wp sc (d + 8) 136 50 [(0, .ref 0), (1, vi a1), (2, vi a2), (3, vi a3), (4, vi v4), (5, vi v5), (6, vi v6), (7, vi v7)] [] (Wd P Q P P c2) 0 0 Z) := by
  intro n
  induction n with
  | zero => exact (by intro c2 v4 v5 v6 v7 hI2 hF hv4 hv5 hv6 hv7 hx0 hx1 hm9; have hP := iv_P hI; have hQ := iv_Q hI; exfalso; omega)
  | succ n ih =>
    have hP := iv_P hI
    have hQ := iv_Q hI
    intro c2 v4 v5 v6 v7 hI2 hF hv4 hv5 hv6 hv7 hx0 hx1 hm9
    refine q_iload c_136_50 rfl (q_iconst c_136_52 ?_)
    by_cases h_1 : v7 ≥ 4
    · refine v_ic_ge_t (t := 153) c_136_53 rfl ⟨by decide, h_1, (Int.le_trans hv7.2 (by decide))⟩ (q_iload_n c_136_153 rfl ?_)
      by_cases h_2 : a3 = 0
      · refine v_lsw (t := 180) (off := 26) 0 c_136_154 (by omega) (by decide) (by decide) (by decide) (by decide) (q_iload c_136_180 rfl (q_iret c_136_182 rfl ?_))
        exact K c2 v4 hI2 (fun a j hm => hF a j hm) hv4
      by_cases h_3 : a3 = 1
      · refine v_lsw (t := 183) (off := 29) 1 c_136_154 (by omega) (by decide) (by decide) (by decide) (by decide) (q_iload c_136_183 rfl (q_iret c_136_185 rfl ?_))
        exact K c2 v5 hI2 (fun a j hm => hF a j hm) ⟨(Int.le_trans (by decide) hv5.1), (Int.le_trans hv5.2 (by decide))⟩
      refine v_lsw_o (t := 186) rfl (by omega) (by decide) (by simp [Op.lookupswitch.offset, Ne.symm (show a3 ≠ 0 by omega), Ne.symm (show a3 ≠ 1 by omega)]) (by decide) (q_iload c_136_186 rfl (q_iret c_136_188 rfl ?_))
      exact K c2 v6 hI2 (fun a j hm => hF a j hm) ⟨(Int.le_trans (by decide) hv6.1), (Int.le_trans hv6.2 (by decide))⟩
    · refine v_ic_ge_f (t := 153) c_136_53 rfl ⟨(Int.le_trans (by decide) hv7.1), (Int.not_le.mp h_1), by decide⟩ (q_iload c_136_56 rfl (q_iconst c_136_58 (v_idiv (v := (v7 / 2)) c_136_59 (by omega) rfl (q_istore c_136_60 (nb_ rfl) (q_iload c_136_62 rfl (q_iconst c_136_64 (v_irem (v := (v7 % 2)) c_136_65 (by omega) rfl ?_)))))))
      refine q_istore c_136_66 (nb_ rfl) (q_iload c_136_68 rfl (q_iload c_136_70 rfl (q_iload_n c_136_72 rfl (q_iload_n c_136_73 rfl (q_call c_136_74 rfl rfl rfl (s_135 (a0 := (v7 / 2)) (a1 := (v7 % 2)) (a2 := a1) (a3 := a2) hI2 (show 0 ≤ (v7 / 2) ∧ (v7 / 2) ≤ 1 from ⟨by omega, by omega⟩) (show 0 ≤ (v7 % 2) ∧ (v7 % 2) ≤ 1 from ⟨by omega, by omega⟩) (show 0 ≤ a1 ∧ a1 ≤ 99 from ⟨by omega, by omega⟩) (show 0 ≤ a2 ∧ a2 ≤ 99 from ⟨by omega, by omega⟩) (fun y_4 hy_4 => (bk_inl (q_istore c_136_77 (nb_ rfl) ?_)))))))))
      refine q_iload c_136_79 rfl (q_iload c_136_81 rfl (q_iload_n c_136_83 rfl (q_iload_n c_136_84 rfl (q_call c_136_85 rfl rfl rfl (s_135 (a0 := (v7 % 2)) (a1 := (v7 / 2)) (a2 := a1) (a3 := a2) hI2 (show 0 ≤ (v7 % 2) ∧ (v7 % 2) ≤ 1 from ⟨by omega, by omega⟩) (show 0 ≤ (v7 / 2) ∧ (v7 / 2) ≤ 1 from ⟨by omega, by omega⟩) (show 0 ≤ a1 ∧ a1 ≤ 99 from ⟨by omega, by omega⟩) (show 0 ≤ a2 ∧ a2 ≤ 99 from ⟨by omega, by omega⟩) (fun y_5 hy_5 => (bk_inl (q_istore c_136_88 (nb_ rfl) (q_iconst c_136_90 ?_)))))))))
      refine q_iload c_136_91 rfl (v_isub (v := 1 - (v7 / 2)) c_136_93 rfl (q_iload c_136_94 rfl (q_iload_n c_136_96 rfl (q_iload_n c_136_97 rfl (q_call c_136_98 rfl rfl rfl (s_135 (a0 := 1 - (v7 / 2)) (a1 := (v7 % 2)) (a2 := a1) (a3 := a2) hI2 (show 0 ≤ 1 - (v7 / 2) ∧ 1 - (v7 / 2) ≤ 1 from ⟨by omega, by omega⟩) (show 0 ≤ (v7 % 2) ∧ (v7 % 2) ≤ 1 from ⟨by omega, by omega⟩) (show 0 ≤ a1 ∧ a1 ≤ 99 from ⟨by omega, by omega⟩) (show 0 ≤ a2 ∧ a2 ≤ 99 from ⟨by omega, by omega⟩) (fun y_6 hy_6 => (bk_inl (q_iload c_136_101 rfl ?_)))))))))
      by_cases h_7 : y_6 > y_4
      · refine v_ic_gt_t (t := 147) c_136_103 rfl ⟨(Int.le_trans (by decide) hy_4.1), h_7, (Int.le_trans hy_6.2 (by decide))⟩ (v_iinc (v := v7 + 1) c_136_147 rfl (nb_ rfl) rfl (Wp_ls [(7, vi (v7 + 1)), (11, vi y_5), (10, vi y_4), (9, vi (v7 % 2)), (8, vi (v7 / 2)), (0, .ref 0), (1, vi a1), (2, vi a2), (3, vi a3), (4, vi v4), (5, vi v5), (6, vi v6)] (lsub_cons rfl (lsub_cons rfl (lsub_cons rfl (lsub_cons rfl (lsub_cons rfl (lsub_cons rfl (lsub_cons rfl (lsub_cons rfl (lsub_cons rfl (lsub_cons rfl (lsub_cons rfl (lsub_cons rfl lsub_nil)))))))))))) (q_goto (t := 50) c_136_150 rfl (Wp_ls [(0, .ref 0), (1, vi a1), (2, vi a2), (3, vi a3), (4, vi v4), (5, vi v5), (6, vi v6), (7, vi (v7 + 1))] (lsub_cons rfl (lsub_cons rfl (lsub_cons rfl (lsub_cons rfl (lsub_cons rfl (lsub_cons rfl (lsub_cons rfl (lsub_cons rfl lsub_nil)))))))) ?_))))
        exact ih c2 v4 v5 v6 (v7 + 1) hI2 (fun a j hm => hF a j hm) hv4 hv5 hv6 ⟨by first | exact rgp_l hv7.1 (by decide) | omega, by first | exact q_121241f94 h_1 | omega⟩ ⟨by omega, by omega⟩ ⟨by omega, by omega⟩ (by omega)
      · refine v_ic_gt_f (t := 147) c_136_103 rfl ⟨(Int.le_trans (by decide) hy_6.1), (Int.not_lt.mp h_7), (Int.le_trans hy_4.2 (by decide))⟩ (q_iconst c_136_106 (q_iload c_136_107 rfl (v_isub (v := 1 - (v7 % 2)) c_136_109 rfl (q_iload c_136_110 rfl (q_iload_n c_136_112 rfl (q_iload_n c_136_113 rfl (q_call c_136_114 rfl rfl rfl (s_135 (a0 := 1 - (v7 % 2)) (a1 := (v7 / 2)) (a2 := a1) (a3 := a2) hI2 (show 0 ≤ 1 - (v7 % 2) ∧ 1 - (v7 % 2) ≤ 1 from ⟨by omega, by omega⟩) (show 0 ≤ (v7 / 2) ∧ (v7 / 2) ≤ 1 from ⟨by omega, by omega⟩) (show 0 ≤ a1 ∧ a1 ≤ 99 from ⟨by omega, by omega⟩) (show 0 ≤ a2 ∧ a2 ≤ 99 from ⟨by omega, by omega⟩) (fun y_8 hy_8 => ?_)))))))))
        refine bk_inl (q_iload c_136_117 rfl ?_)
        by_cases h_9 : y_8 > y_5
        · refine v_ic_gt_t (t := 147) c_136_119 rfl ⟨(Int.le_trans (by decide) hy_5.1), h_9, (Int.le_trans hy_8.2 (by decide))⟩ (v_iinc (v := v7 + 1) c_136_147 rfl (nb_ rfl) rfl (Wp_ls [(7, vi (v7 + 1)), (11, vi y_5), (10, vi y_4), (9, vi (v7 % 2)), (8, vi (v7 / 2)), (0, .ref 0), (1, vi a1), (2, vi a2), (3, vi a3), (4, vi v4), (5, vi v5), (6, vi v6)] (lsub_cons rfl (lsub_cons rfl (lsub_cons rfl (lsub_cons rfl (lsub_cons rfl (lsub_cons rfl (lsub_cons rfl (lsub_cons rfl (lsub_cons rfl (lsub_cons rfl (lsub_cons rfl (lsub_cons rfl lsub_nil)))))))))))) (q_goto (t := 50) c_136_150 rfl (Wp_ls [(0, .ref 0), (1, vi a1), (2, vi a2), (3, vi a3), (4, vi v4), (5, vi v5), (6, vi v6), (7, vi (v7 + 1))] (lsub_cons rfl (lsub_cons rfl (lsub_cons rfl (lsub_cons rfl (lsub_cons rfl (lsub_cons rfl (lsub_cons rfl (lsub_cons rfl lsub_nil)))))))) ?_))))
          exact ih c2 v4 v5 v6 (v7 + 1) hI2 (fun a j hm => hF a j hm) hv4 hv5 hv6 ⟨by first | exact rgp_l hv7.1 (by decide) | omega, by first | exact q_121241f94 h_1 | omega⟩ ⟨by omega, by omega⟩ ⟨by omega, by omega⟩ (by omega)
        · refine v_ic_gt_f (t := 147) c_136_119 rfl ⟨(Int.le_trans (by decide) hy_8.1), (Int.not_lt.mp h_9), (Int.le_trans hy_5.2 (by decide))⟩ (q_iload c_136_122 rfl ?_)
          by_cases h_10 : v4 ≠ 0
          · refine v_if_ne_t (t := 144) c_136_124 rfl ⟨h_10, ⟨hv4.1, hv4.2⟩, by decide, by decide⟩ (v_iincx c_136_144 rfl (by decide) (fun y_11 hy_11 => (Wp_ls [(4, vi y_11), (11, vi y_5), (10, vi y_4), (9, vi (v7 % 2)), (8, vi (v7 / 2)), (0, .ref 0), (1, vi a1), (2, vi a2), (3, vi a3), (5, vi v5), (6, vi v6), (7, vi v7)] (lsub_cons rfl (lsub_cons rfl (lsub_cons rfl (lsub_cons rfl (lsub_cons rfl (lsub_cons rfl (lsub_cons rfl (lsub_cons rfl (lsub_cons rfl (lsub_cons rfl (lsub_cons rfl (lsub_cons rfl lsub_nil)))))))))))) (v_iinc (v := v7 + 1) c_136_147 rfl (nb_ rfl) rfl (q_goto (t := 50) c_136_150 rfl (Wp_ls [(0, .ref 0), (1, vi a1), (2, vi a2), (3, vi a3), (4, vi y_11), (5, vi v5), (6, vi v6), (7, vi (v7 + 1))] (lsub_cons rfl (lsub_cons rfl (lsub_cons rfl (lsub_cons rfl (lsub_cons rfl (lsub_cons rfl (lsub_cons rfl (lsub_cons rfl lsub_nil)))))))) ?_))))))
            exact ih c2 y_11 v5 v6 (v7 + 1) hI2 (fun a j hm => hF a j hm) hy_11 hv5 hv6 ⟨by first | exact rgp_l hv7.1 (by decide) | omega, by first | exact q_121241f94 h_1 | omega⟩ ⟨by first | (clear ha1 ha2 ha3 hv4 hv5 hv6 hv7 hx1 h_1 h_7 h_9 h_10; omega) | omega, by first | (clear ha1 ha2 ha3 hv4 hv5 hv6 hv7 hx1 h_1 h_7 h_9 h_10; omega) | omega⟩ ⟨by first | (clear ha1 ha2 ha3 hv4 hv5 hv6 hv7 hx0 h_1 h_7 h_9 h_10; omega) | omega, by first | (clear ha1 ha2 ha3 hv4 hv5 hv6 hv7 hx0 h_1 h_7 h_9 h_10; omega) | omega⟩ (by omega)
          · refine v_if_ne_f (t := 144) c_136_124 rfl (Decidable.not_not.mp h_10) (v_bip c_136_127 (by decide) (q_iload c_136_129 rfl (v_imul (v := 10 * (v7 / 2)) c_136_131 rfl (q_iload c_136_132 rfl (v_iadd (v := (v7 % 2) + 10 * (v7 / 2)) c_136_134 (by first | exact q_022711c41 | omega) (q_istore c_136_135 (nb_ rfl) (Wp_ls [(5, vi ((v7 % 2) + 10 * (v7 / 2))), (11, vi y_5), (10, vi y_4), (9, vi (v7 % 2)), (8, vi (v7 / 2)), (0, .ref 0), (1, vi a1), (2, vi a2), (3, vi a3), (4, vi v4), (6, vi v6), (7, vi v7)] (lsub_cons rfl (lsub_cons rfl (lsub_cons rfl (lsub_cons rfl (lsub_cons rfl (lsub_cons rfl (lsub_cons rfl (lsub_cons rfl (lsub_cons rfl (lsub_cons rfl (lsub_cons rfl (lsub_cons rfl lsub_nil)))))))))))) ?_)))))))
            refine q_iload c_136_137 rfl (q_iload c_136_139 rfl (v_iadd (v := y_4 + y_5) c_136_141 rfl (q_istore c_136_142 (nb_ rfl) (v_iinc (v := v4 + 1) c_136_144 rfl (nb_ rfl) rfl (v_iinc (v := v7 + 1) c_136_147 rfl (nb_ rfl) rfl (q_goto (t := 50) c_136_150 rfl (Wp_ls [(0, .ref 0), (1, vi a1), (2, vi a2), (3, vi a3), (4, vi (v4 + 1)), (5, vi ((v7 % 2) + 10 * (v7 / 2))), (6, vi (y_4 + y_5)), (7, vi (v7 + 1))] (lsub_cons rfl (lsub_cons rfl (lsub_cons rfl (lsub_cons rfl (lsub_cons rfl (lsub_cons rfl (lsub_cons rfl (lsub_cons rfl lsub_nil)))))))) ?_)))))))
            exact ih c2 (v4 + 1) ((v7 % 2) + 10 * (v7 / 2)) (y_4 + y_5) (v7 + 1) hI2 (fun a j hm => hF a j hm) ⟨by first | exact rgp_l hv4.1 (by decide) | omega, by first | exact q_e46fec7e9 h_10 | omega⟩ ⟨by omega, by omega⟩ ⟨by omega, by omega⟩ ⟨by first | exact rgp_l hv7.1 (by decide) | omega, by first | exact q_121241f94 h_1 | omega⟩ ⟨by omega, by omega⟩ ⟨by omega, by omega⟩ (by omega)
set_option maxRecDepth 100000 in
set_option maxHeartbeats 4000000 in
theorem s_136 {sc : List Int32} {e : Int} {d u P Q : Nat} {c : ME} {a1 : Int} {a2 : Int} {a3 : Int} {Z : AR → Prop} (hI : Iv u e P Q c) (ha1 : (-2147483648) ≤ a1 ∧ a1 ≤ 2147483647) (ha2 : (-2147483648) ≤ a2 ∧ a2 ≤ 2147483647) (ha3 : (-2147483648) ≤ a3 ∧ a3 ≤ 2147483647) (T101 : ∀ c2 : ME, Iv u e P Q c2 → (∀ (a : Nat) (j : Int), ¬ ((a = 0 ∧ j = 13)) → c2 a j = c a j) → Z (.inr 101, Wd P Q P P c2, 1, 6)) (K : ∀ (c2 : ME) (y : Int), Iv u e P Q c2 → (∀ (a : Nat) (j : Int), ¬ ((a = 0 ∧ j = 13)) → c2 a j = c a j) → (-2147483648) ≤ y ∧ y ≤ 2147483647 → Z (.inl (some (vi y)), Wd P Q P P c2, 0, 0)) : Wp sc (d + 8) 136 0 [(0, .ref 0), (1, vi a1), (2, vi a2), (3, vi a3)] [] (Wd P Q P P c) 0 0 Z := by
  have hP := iv_P hI
  have hQ := iv_Q hI
  refine q_aload_n c_136_0 rfl (q_iload_n c_136_1 rfl (q_iconst c_136_2 (v_bip c_136_3 (by decide) (q_call c_136_5 rfl rfl rfl (q_iload_n c_80_0 rfl (q_iload_n c_80_1 rfl ?_))))))
  by_cases h_12 : a1 < 0
  · refine v_ic_lt_t (t := 14) c_80_2 rfl ⟨ha1.1, h_12, by decide⟩ (q_iconst c_80_14 (v_zret c_80_15 rfl (by decide) (bk_inl (v_if_eq_t (t := 34) c_136_8 rfl (by decide) (q_iconst c_136_34 (v_cv c_136_35 km_7_161 rfl rfl (nb_ rfl) ⟨⟨rfl, rfl⟩, nb_ rfl, rfl⟩ (nb_ rfl) (nb_ rfl) (q_iload_n c_81_0 rfl ?_)))))))
    refine v_if_ne_f (t := 25) c_81_1 rfl (by decide) (q_aload_n c_81_4 rfl (q_dup c_81_5 rfl ?_))
    have h_13 := ir_0_13 hI
    refine v_gi (z := 13) (v := c 0 13) c_81_6 kf_7_330 rfl (nb_ rfl) rfl rfl rfl (q_iconst c_81_9 (v_iadd (v := c 0 13 + 1) c_81_10 rfl (v_nrm (fun y_14 hy_14 => (v_pi (z := 13) c_81_11 kf_7_330 rfl (nb_ rfl) rfl rfl rfl (by decide) (v_new c_81_14 rfl (by decide) (ld_ rfl) (nb_ rfl) (by decide) rfl (bk_out rfl rfl ?_)))))))
    have hI_15 := iw_0_13 (v := y_14) hI ⟨hy_14.1, hy_14.2⟩
    exact T101 _ hI_15 (fun a j hm => up_b (Decidable.or_iff_not_imp_left.mpr (fun h1 h2 => hm ⟨Decidable.not_not.mp h1, h2⟩)))
  · refine v_ic_lt_f (t := 14) c_80_2 rfl ⟨by decide, (Int.not_lt.mp h_12), ha1.2⟩ (q_iload_n c_80_5 rfl (q_iload_n c_80_6 rfl ?_))
    by_cases h_16 : a1 > 99
    · refine v_ic_gt_t (t := 14) c_80_7 rfl ⟨by decide, h_16, ha1.2⟩ (q_iconst c_80_14 (v_zret c_80_15 rfl (by decide) (bk_inl (v_if_eq_t (t := 34) c_136_8 rfl (by decide) (q_iconst c_136_34 (v_cv c_136_35 km_7_161 rfl rfl (nb_ rfl) ⟨⟨rfl, rfl⟩, nb_ rfl, rfl⟩ (nb_ rfl) (nb_ rfl) (q_iload_n c_81_0 rfl ?_)))))))
      refine v_if_ne_f (t := 25) c_81_1 rfl (by decide) (q_aload_n c_81_4 rfl (q_dup c_81_5 rfl ?_))
      have h_17 := ir_0_13 hI
      refine v_gi (z := 13) (v := c 0 13) c_81_6 kf_7_330 rfl (nb_ rfl) rfl rfl rfl (q_iconst c_81_9 (v_iadd (v := c 0 13 + 1) c_81_10 rfl (v_nrm (fun y_18 hy_18 => (v_pi (z := 13) c_81_11 kf_7_330 rfl (nb_ rfl) rfl rfl rfl (by decide) (v_new c_81_14 rfl (by decide) (ld_ rfl) (nb_ rfl) (by decide) rfl (bk_out rfl rfl ?_)))))))
      have hI_19 := iw_0_13 (v := y_18) hI ⟨hy_18.1, hy_18.2⟩
      exact T101 _ hI_19 (fun a j hm => up_b (Decidable.or_iff_not_imp_left.mpr (fun h1 h2 => hm ⟨Decidable.not_not.mp h1, h2⟩)))
    · refine v_ic_gt_f (t := 14) c_80_7 rfl ⟨ha1.1, (Int.not_lt.mp h_16), by decide⟩ (q_iconst c_80_10 (q_goto (t := 15) c_80_11 rfl (v_zret c_80_15 rfl (by decide) (bk_inl (v_if_eq_f (t := 34) c_136_8 rfl (by decide) (q_iload_n c_136_11 rfl (q_iconst c_136_12 ?_)))))))
      refine v_bip c_136_13 (by decide) (q_call c_136_15 rfl rfl rfl (q_iload_n c_80_0 rfl (q_iload_n c_80_1 rfl ?_)))
      by_cases h_20 : a2 < 0
      · refine v_ic_lt_t (t := 14) c_80_2 rfl ⟨ha2.1, h_20, by decide⟩ (q_iconst c_80_14 (v_zret c_80_15 rfl (by decide) (bk_inl (v_if_eq_t (t := 34) c_136_18 rfl (by decide) (q_iconst c_136_34 (v_cv c_136_35 km_7_161 rfl rfl (nb_ rfl) ⟨⟨rfl, rfl⟩, nb_ rfl, rfl⟩ (nb_ rfl) (nb_ rfl) (q_iload_n c_81_0 rfl ?_)))))))
        refine v_if_ne_f (t := 25) c_81_1 rfl (by decide) (q_aload_n c_81_4 rfl (q_dup c_81_5 rfl ?_))
        have h_21 := ir_0_13 hI
        refine v_gi (z := 13) (v := c 0 13) c_81_6 kf_7_330 rfl (nb_ rfl) rfl rfl rfl (q_iconst c_81_9 (v_iadd (v := c 0 13 + 1) c_81_10 rfl (v_nrm (fun y_22 hy_22 => (v_pi (z := 13) c_81_11 kf_7_330 rfl (nb_ rfl) rfl rfl rfl (by decide) (v_new c_81_14 rfl (by decide) (ld_ rfl) (nb_ rfl) (by decide) rfl (bk_out rfl rfl ?_)))))))
        have hI_23 := iw_0_13 (v := y_22) hI ⟨hy_22.1, hy_22.2⟩
        exact T101 _ hI_23 (fun a j hm => up_b (Decidable.or_iff_not_imp_left.mpr (fun h1 h2 => hm ⟨Decidable.not_not.mp h1, h2⟩)))
      · refine v_ic_lt_f (t := 14) c_80_2 rfl ⟨by decide, (Int.not_lt.mp h_20), ha2.2⟩ (q_iload_n c_80_5 rfl (q_iload_n c_80_6 rfl ?_))
        by_cases h_24 : a2 > 99
        · refine v_ic_gt_t (t := 14) c_80_7 rfl ⟨by decide, h_24, ha2.2⟩ (q_iconst c_80_14 (v_zret c_80_15 rfl (by decide) (bk_inl (v_if_eq_t (t := 34) c_136_18 rfl (by decide) (q_iconst c_136_34 (v_cv c_136_35 km_7_161 rfl rfl (nb_ rfl) ⟨⟨rfl, rfl⟩, nb_ rfl, rfl⟩ (nb_ rfl) (nb_ rfl) (q_iload_n c_81_0 rfl ?_)))))))
          refine v_if_ne_f (t := 25) c_81_1 rfl (by decide) (q_aload_n c_81_4 rfl (q_dup c_81_5 rfl ?_))
          have h_25 := ir_0_13 hI
          refine v_gi (z := 13) (v := c 0 13) c_81_6 kf_7_330 rfl (nb_ rfl) rfl rfl rfl (q_iconst c_81_9 (v_iadd (v := c 0 13 + 1) c_81_10 rfl (v_nrm (fun y_26 hy_26 => (v_pi (z := 13) c_81_11 kf_7_330 rfl (nb_ rfl) rfl rfl rfl (by decide) (v_new c_81_14 rfl (by decide) (ld_ rfl) (nb_ rfl) (by decide) rfl (bk_out rfl rfl ?_)))))))
          have hI_27 := iw_0_13 (v := y_26) hI ⟨hy_26.1, hy_26.2⟩
          exact T101 _ hI_27 (fun a j hm => up_b (Decidable.or_iff_not_imp_left.mpr (fun h1 h2 => hm ⟨Decidable.not_not.mp h1, h2⟩)))
        · refine v_ic_gt_f (t := 14) c_80_7 rfl ⟨ha2.1, (Int.not_lt.mp h_24), by decide⟩ (q_iconst c_80_10 (q_goto (t := 15) c_80_11 rfl (v_zret c_80_15 rfl (by decide) (bk_inl (v_if_eq_f (t := 34) c_136_18 rfl (by decide) (q_iload_n c_136_21 rfl (q_iconst c_136_22 ?_)))))))
          refine q_iconst c_136_23 (q_call c_136_24 rfl rfl rfl (q_iload_n c_80_0 rfl (q_iload_n c_80_1 rfl ?_)))
          by_cases h_28 : a3 < 0
          · refine v_ic_lt_t (t := 14) c_80_2 rfl ⟨ha3.1, h_28, by decide⟩ (q_iconst c_80_14 (v_zret c_80_15 rfl (by decide) (bk_inl (v_if_eq_t (t := 34) c_136_27 rfl (by decide) (q_iconst c_136_34 (v_cv c_136_35 km_7_161 rfl rfl (nb_ rfl) ⟨⟨rfl, rfl⟩, nb_ rfl, rfl⟩ (nb_ rfl) (nb_ rfl) (q_iload_n c_81_0 rfl ?_)))))))
            refine v_if_ne_f (t := 25) c_81_1 rfl (by decide) (q_aload_n c_81_4 rfl (q_dup c_81_5 rfl ?_))
            have h_29 := ir_0_13 hI
            refine v_gi (z := 13) (v := c 0 13) c_81_6 kf_7_330 rfl (nb_ rfl) rfl rfl rfl (q_iconst c_81_9 (v_iadd (v := c 0 13 + 1) c_81_10 rfl (v_nrm (fun y_30 hy_30 => (v_pi (z := 13) c_81_11 kf_7_330 rfl (nb_ rfl) rfl rfl rfl (by decide) (v_new c_81_14 rfl (by decide) (ld_ rfl) (nb_ rfl) (by decide) rfl (bk_out rfl rfl ?_)))))))
            have hI_31 := iw_0_13 (v := y_30) hI ⟨hy_30.1, hy_30.2⟩
            exact T101 _ hI_31 (fun a j hm => up_b (Decidable.or_iff_not_imp_left.mpr (fun h1 h2 => hm ⟨Decidable.not_not.mp h1, h2⟩)))
          · refine v_ic_lt_f (t := 14) c_80_2 rfl ⟨by decide, (Int.not_lt.mp h_28), ha3.2⟩ (q_iload_n c_80_5 rfl (q_iload_n c_80_6 rfl ?_))
            by_cases h_32 : a3 > 2
            · refine v_ic_gt_t (t := 14) c_80_7 rfl ⟨by decide, h_32, ha3.2⟩ (q_iconst c_80_14 (v_zret c_80_15 rfl (by decide) (bk_inl (v_if_eq_t (t := 34) c_136_27 rfl (by decide) (q_iconst c_136_34 (v_cv c_136_35 km_7_161 rfl rfl (nb_ rfl) ⟨⟨rfl, rfl⟩, nb_ rfl, rfl⟩ (nb_ rfl) (nb_ rfl) (q_iload_n c_81_0 rfl ?_)))))))
              refine v_if_ne_f (t := 25) c_81_1 rfl (by decide) (q_aload_n c_81_4 rfl (q_dup c_81_5 rfl ?_))
              have h_33 := ir_0_13 hI
              refine v_gi (z := 13) (v := c 0 13) c_81_6 kf_7_330 rfl (nb_ rfl) rfl rfl rfl (q_iconst c_81_9 (v_iadd (v := c 0 13 + 1) c_81_10 rfl (v_nrm (fun y_34 hy_34 => (v_pi (z := 13) c_81_11 kf_7_330 rfl (nb_ rfl) rfl rfl rfl (by decide) (v_new c_81_14 rfl (by decide) (ld_ rfl) (nb_ rfl) (by decide) rfl (bk_out rfl rfl ?_)))))))
              have hI_35 := iw_0_13 (v := y_34) hI ⟨hy_34.1, hy_34.2⟩
              exact T101 _ hI_35 (fun a j hm => up_b (Decidable.or_iff_not_imp_left.mpr (fun h1 h2 => hm ⟨Decidable.not_not.mp h1, h2⟩)))
            · refine v_ic_gt_f (t := 14) c_80_7 rfl ⟨ha3.1, (Int.not_lt.mp h_32), by decide⟩ (q_iconst c_80_10 (q_goto (t := 15) c_80_11 rfl (v_zret c_80_15 rfl (by decide) (bk_inl (v_if_eq_f (t := 34) c_136_27 rfl (by decide) (q_iconst c_136_30 (q_goto (t := 35) c_136_31 rfl ?_)))))))
              refine v_cv c_136_35 km_7_161 rfl rfl (nb_ rfl) ⟨⟨rfl, rfl⟩, nb_ rfl, rfl⟩ (nb_ rfl) (nb_ rfl) (q_iload_n c_81_0 rfl (v_if_ne_t (t := 25) c_81_1 rfl (by decide) (q_vret rfl rfl (bk_inl (q_iconst c_136_38 (q_istore c_136_39 (nb_ rfl) (q_iconst c_136_41 ?_)))))))
              refine q_istore c_136_42 (nb_ rfl) (q_iconst c_136_44 (q_istore c_136_45 (nb_ rfl) (q_iconst c_136_47 (q_istore c_136_48 (nb_ rfl) (Wp_ls [(0, .ref 0), (1, vi a1), (2, vi a2), (3, vi a3), (4, vi 0), (5, vi (-1)), (6, vi 0), (7, vi 0)] (lsub_cons rfl (lsub_cons rfl (lsub_cons rfl (lsub_cons rfl (lsub_cons rfl (lsub_cons rfl (lsub_cons rfl (lsub_cons rfl lsub_nil)))))))) ?_)))))
              exact (s_136_l (sc := sc) (d := d) hI ha1 ha2 ha3 T101 K 12) c 0 (-1) 0 0 hI (fun a j hm => rfl) ⟨by decide, by decide⟩ ⟨by decide, by decide⟩ ⟨by decide, by decide⟩ ⟨by decide, by decide⟩ ⟨by first | exact q_720657ba9 h_12 | omega, by first | exact q_9010c525b h_16 | omega⟩ ⟨by first | exact q_720657ba9 h_20 | omega, by first | exact q_9010c525b h_24 | omega⟩ (by omega)

set_option maxRecDepth 100000 in
set_option maxHeartbeats 4000000 in
theorem s_137 {sc : List Int32} {d P Q : Nat} {c : ME} {a1 : Int} {a2 : Int} {a3 : Int} {a4 : Int} {Z : AR → Prop} (hI : Iv 0 (-1) P Q c) (ha1 : (-2147483648) ≤ a1 ∧ a1 ≤ 2147483647) (ha2 : (-2147483648) ≤ a2 ∧ a2 ≤ 2147483647) (ha3 : (-2147483648) ≤ a3 ∧ a3 ≤ 2147483647) (ha4 : (-2147483648) ≤ a4 ∧ a4 ≤ 2147483647) (T101 : ∀ c2 : ME, Iv 0 (-1) P Q c2 → (∀ (a : Nat) (j : Int), ¬ ((a = 0 ∧ j = 13) ∨ a = (P + 10) ∨ a = (P + 11) ∨ (a = 9 ∧ j = 0) ∨ a = 40) → c2 a j = c a j) → Z (.inr 101, Wd P Q P P c2, 1, 6)) (K : ∀ (c2 : ME) (y : Int), Iv 0 (-1) P Q c2 → (∀ (a : Nat) (j : Int), ¬ ((a = 0 ∧ j = 13) ∨ a = (P + 10) ∨ a = (P + 11) ∨ (a = 9 ∧ j = 0) ∨ a = 40) → c2 a j = c a j) → (-2147483648) ≤ y ∧ y ≤ 2147483647 → Z (.inl (some (vi y)), Wd P Q P P c2, 0, 0)) : Wp sc (d + 13) 137 0 [(0, .ref 0), (1, vi a1), (2, vi a2), (3, vi a3), (4, vi a4)] [] (Wd P Q P P c) 0 0 Z := by
  have hP := iv_P hI
  have hQ := iv_Q hI
  refine q_aload_n c_137_0 rfl (q_iload_n c_137_1 rfl (q_iconst c_137_2 (v_bip c_137_3 (by decide) (q_call c_137_5 rfl rfl rfl (q_iload_n c_80_0 rfl (q_iload_n c_80_1 rfl ?_))))))
  by_cases h_1 : a2 < 0
  · refine v_ic_lt_t (t := 14) c_80_2 rfl ⟨ha2.1, h_1, by decide⟩ (q_iconst c_80_14 (v_zret c_80_15 rfl (by decide) (bk_inl (v_if_eq_t (t := 35) c_137_8 rfl (by decide) (q_iconst c_137_35 (v_cv c_137_36 km_7_161 rfl rfl (nb_ rfl) ⟨⟨rfl, rfl⟩, nb_ rfl, rfl⟩ (nb_ rfl) (nb_ rfl) (q_iload_n c_81_0 rfl ?_)))))))
    refine v_if_ne_f (t := 25) c_81_1 rfl (by decide) (q_aload_n c_81_4 rfl (q_dup c_81_5 rfl ?_))
    have h_2 := ir_0_13 hI
    refine v_gi (z := 13) (v := c 0 13) c_81_6 kf_7_330 rfl (nb_ rfl) rfl rfl rfl (q_iconst c_81_9 (v_iadd (v := c 0 13 + 1) c_81_10 rfl (v_nrm (fun y_3 hy_3 => (v_pi (z := 13) c_81_11 kf_7_330 rfl (nb_ rfl) rfl rfl rfl (by decide) (v_new c_81_14 rfl (by decide) (ld_ rfl) (nb_ rfl) (by decide) rfl (bk_out rfl rfl ?_)))))))
    have hI_4 := iw_0_13 (v := y_3) hI ⟨hy_3.1, hy_3.2⟩
    exact T101 _ hI_4 (fun a j hm => up_b (Decidable.or_iff_not_imp_left.mpr (fun h1 h2 => hm (Or.inl ⟨Decidable.not_not.mp h1, h2⟩))))
  · refine v_ic_lt_f (t := 14) c_80_2 rfl ⟨by decide, (Int.not_lt.mp h_1), ha2.2⟩ (q_iload_n c_80_5 rfl (q_iload_n c_80_6 rfl ?_))
    by_cases h_5 : a2 > 16
    · refine v_ic_gt_t (t := 14) c_80_7 rfl ⟨by decide, h_5, ha2.2⟩ (q_iconst c_80_14 (v_zret c_80_15 rfl (by decide) (bk_inl (v_if_eq_t (t := 35) c_137_8 rfl (by decide) (q_iconst c_137_35 (v_cv c_137_36 km_7_161 rfl rfl (nb_ rfl) ⟨⟨rfl, rfl⟩, nb_ rfl, rfl⟩ (nb_ rfl) (nb_ rfl) (q_iload_n c_81_0 rfl ?_)))))))
      refine v_if_ne_f (t := 25) c_81_1 rfl (by decide) (q_aload_n c_81_4 rfl (q_dup c_81_5 rfl ?_))
      have h_6 := ir_0_13 hI
      refine v_gi (z := 13) (v := c 0 13) c_81_6 kf_7_330 rfl (nb_ rfl) rfl rfl rfl (q_iconst c_81_9 (v_iadd (v := c 0 13 + 1) c_81_10 rfl (v_nrm (fun y_7 hy_7 => (v_pi (z := 13) c_81_11 kf_7_330 rfl (nb_ rfl) rfl rfl rfl (by decide) (v_new c_81_14 rfl (by decide) (ld_ rfl) (nb_ rfl) (by decide) rfl (bk_out rfl rfl ?_)))))))
      have hI_8 := iw_0_13 (v := y_7) hI ⟨hy_7.1, hy_7.2⟩
      exact T101 _ hI_8 (fun a j hm => up_b (Decidable.or_iff_not_imp_left.mpr (fun h1 h2 => hm (Or.inl ⟨Decidable.not_not.mp h1, h2⟩))))
    · refine v_ic_gt_f (t := 14) c_80_7 rfl ⟨ha2.1, (Int.not_lt.mp h_5), by decide⟩ (q_iconst c_80_10 (q_goto (t := 15) c_80_11 rfl (v_zret c_80_15 rfl (by decide) (bk_inl (v_if_eq_f (t := 35) c_137_8 rfl (by decide) (q_iload_n c_137_11 rfl (q_iconst c_137_12 ?_)))))))
      refine v_bip c_137_13 (by decide) (q_call c_137_15 rfl rfl rfl (q_iload_n c_80_0 rfl (q_iload_n c_80_1 rfl ?_)))
      by_cases h_9 : a3 < 1
      · refine v_ic_lt_t (t := 14) c_80_2 rfl ⟨ha3.1, h_9, by decide⟩ (q_iconst c_80_14 (v_zret c_80_15 rfl (by decide) (bk_inl (v_if_eq_t (t := 35) c_137_18 rfl (by decide) (q_iconst c_137_35 (v_cv c_137_36 km_7_161 rfl rfl (nb_ rfl) ⟨⟨rfl, rfl⟩, nb_ rfl, rfl⟩ (nb_ rfl) (nb_ rfl) (q_iload_n c_81_0 rfl ?_)))))))
        refine v_if_ne_f (t := 25) c_81_1 rfl (by decide) (q_aload_n c_81_4 rfl (q_dup c_81_5 rfl ?_))
        have h_10 := ir_0_13 hI
        refine v_gi (z := 13) (v := c 0 13) c_81_6 kf_7_330 rfl (nb_ rfl) rfl rfl rfl (q_iconst c_81_9 (v_iadd (v := c 0 13 + 1) c_81_10 rfl (v_nrm (fun y_11 hy_11 => (v_pi (z := 13) c_81_11 kf_7_330 rfl (nb_ rfl) rfl rfl rfl (by decide) (v_new c_81_14 rfl (by decide) (ld_ rfl) (nb_ rfl) (by decide) rfl (bk_out rfl rfl ?_)))))))
        have hI_12 := iw_0_13 (v := y_11) hI ⟨hy_11.1, hy_11.2⟩
        exact T101 _ hI_12 (fun a j hm => up_b (Decidable.or_iff_not_imp_left.mpr (fun h1 h2 => hm (Or.inl ⟨Decidable.not_not.mp h1, h2⟩))))
      · refine v_ic_lt_f (t := 14) c_80_2 rfl ⟨by decide, (Int.not_lt.mp h_9), ha3.2⟩ (q_iload_n c_80_5 rfl (q_iload_n c_80_6 rfl ?_))
        by_cases h_13 : a3 > 48
        · refine v_ic_gt_t (t := 14) c_80_7 rfl ⟨by decide, h_13, ha3.2⟩ (q_iconst c_80_14 (v_zret c_80_15 rfl (by decide) (bk_inl (v_if_eq_t (t := 35) c_137_18 rfl (by decide) (q_iconst c_137_35 (v_cv c_137_36 km_7_161 rfl rfl (nb_ rfl) ⟨⟨rfl, rfl⟩, nb_ rfl, rfl⟩ (nb_ rfl) (nb_ rfl) (q_iload_n c_81_0 rfl ?_)))))))
          refine v_if_ne_f (t := 25) c_81_1 rfl (by decide) (q_aload_n c_81_4 rfl (q_dup c_81_5 rfl ?_))
          have h_14 := ir_0_13 hI
          refine v_gi (z := 13) (v := c 0 13) c_81_6 kf_7_330 rfl (nb_ rfl) rfl rfl rfl (q_iconst c_81_9 (v_iadd (v := c 0 13 + 1) c_81_10 rfl (v_nrm (fun y_15 hy_15 => (v_pi (z := 13) c_81_11 kf_7_330 rfl (nb_ rfl) rfl rfl rfl (by decide) (v_new c_81_14 rfl (by decide) (ld_ rfl) (nb_ rfl) (by decide) rfl (bk_out rfl rfl ?_)))))))
          have hI_16 := iw_0_13 (v := y_15) hI ⟨hy_15.1, hy_15.2⟩
          exact T101 _ hI_16 (fun a j hm => up_b (Decidable.or_iff_not_imp_left.mpr (fun h1 h2 => hm (Or.inl ⟨Decidable.not_not.mp h1, h2⟩))))
        · refine v_ic_gt_f (t := 14) c_80_7 rfl ⟨ha3.1, (Int.not_lt.mp h_13), by decide⟩ (q_iconst c_80_10 (q_goto (t := 15) c_80_11 rfl (v_zret c_80_15 rfl (by decide) (bk_inl (v_if_eq_f (t := 35) c_137_18 rfl (by decide) (q_iload c_137_21 rfl (q_iconst c_137_23 ?_)))))))
          refine q_iconst c_137_24 (q_call c_137_25 rfl rfl rfl (q_iload_n c_80_0 rfl (q_iload_n c_80_1 rfl ?_)))
          by_cases h_17 : a4 < 0
          · refine v_ic_lt_t (t := 14) c_80_2 rfl ⟨ha4.1, h_17, by decide⟩ (q_iconst c_80_14 (v_zret c_80_15 rfl (by decide) (bk_inl (v_if_eq_t (t := 35) c_137_28 rfl (by decide) (q_iconst c_137_35 (v_cv c_137_36 km_7_161 rfl rfl (nb_ rfl) ⟨⟨rfl, rfl⟩, nb_ rfl, rfl⟩ (nb_ rfl) (nb_ rfl) (q_iload_n c_81_0 rfl ?_)))))))
            refine v_if_ne_f (t := 25) c_81_1 rfl (by decide) (q_aload_n c_81_4 rfl (q_dup c_81_5 rfl ?_))
            have h_18 := ir_0_13 hI
            refine v_gi (z := 13) (v := c 0 13) c_81_6 kf_7_330 rfl (nb_ rfl) rfl rfl rfl (q_iconst c_81_9 (v_iadd (v := c 0 13 + 1) c_81_10 rfl (v_nrm (fun y_19 hy_19 => (v_pi (z := 13) c_81_11 kf_7_330 rfl (nb_ rfl) rfl rfl rfl (by decide) (v_new c_81_14 rfl (by decide) (ld_ rfl) (nb_ rfl) (by decide) rfl (bk_out rfl rfl ?_)))))))
            have hI_20 := iw_0_13 (v := y_19) hI ⟨hy_19.1, hy_19.2⟩
            exact T101 _ hI_20 (fun a j hm => up_b (Decidable.or_iff_not_imp_left.mpr (fun h1 h2 => hm (Or.inl ⟨Decidable.not_not.mp h1, h2⟩))))
          · refine v_ic_lt_f (t := 14) c_80_2 rfl ⟨by decide, (Int.not_lt.mp h_17), ha4.2⟩ (q_iload_n c_80_5 rfl (q_iload_n c_80_6 rfl ?_))
            by_cases h_21 : a4 > 3
            · refine v_ic_gt_t (t := 14) c_80_7 rfl ⟨by decide, h_21, ha4.2⟩ (q_iconst c_80_14 (v_zret c_80_15 rfl (by decide) (bk_inl (v_if_eq_t (t := 35) c_137_28 rfl (by decide) (q_iconst c_137_35 (v_cv c_137_36 km_7_161 rfl rfl (nb_ rfl) ⟨⟨rfl, rfl⟩, nb_ rfl, rfl⟩ (nb_ rfl) (nb_ rfl) (q_iload_n c_81_0 rfl ?_)))))))
              refine v_if_ne_f (t := 25) c_81_1 rfl (by decide) (q_aload_n c_81_4 rfl (q_dup c_81_5 rfl ?_))
              have h_22 := ir_0_13 hI
              refine v_gi (z := 13) (v := c 0 13) c_81_6 kf_7_330 rfl (nb_ rfl) rfl rfl rfl (q_iconst c_81_9 (v_iadd (v := c 0 13 + 1) c_81_10 rfl (v_nrm (fun y_23 hy_23 => (v_pi (z := 13) c_81_11 kf_7_330 rfl (nb_ rfl) rfl rfl rfl (by decide) (v_new c_81_14 rfl (by decide) (ld_ rfl) (nb_ rfl) (by decide) rfl (bk_out rfl rfl ?_)))))))
              have hI_24 := iw_0_13 (v := y_23) hI ⟨hy_23.1, hy_23.2⟩
              exact T101 _ hI_24 (fun a j hm => up_b (Decidable.or_iff_not_imp_left.mpr (fun h1 h2 => hm (Or.inl ⟨Decidable.not_not.mp h1, h2⟩))))
            · refine v_ic_gt_f (t := 14) c_80_7 rfl ⟨ha4.1, (Int.not_lt.mp h_21), by decide⟩ (q_iconst c_80_10 (q_goto (t := 15) c_80_11 rfl (v_zret c_80_15 rfl (by decide) (bk_inl (v_if_eq_f (t := 35) c_137_28 rfl (by decide) (q_iconst c_137_31 (q_goto (t := 36) c_137_32 rfl ?_)))))))
              refine v_cv c_137_36 km_7_161 rfl rfl (nb_ rfl) ⟨⟨rfl, rfl⟩, nb_ rfl, rfl⟩ (nb_ rfl) (nb_ rfl) (q_iload_n c_81_0 rfl (v_if_ne_t (t := 25) c_81_1 rfl (by decide) (q_vret rfl rfl (bk_inl (q_aload_n c_137_39 rfl (v_gr (t := 39) c_137_40 kf_7_66 rfl (nb_ rfl) rfl (q_aload_n c_137_43 rfl ?_)))))))
              refine v_gr (t := 37) c_137_44 kf_7_62 rfl (nb_ rfl) rfl (v_cv c_137_47 km_7_233 rfl rfl (nb_ rfl) ⟨⟨rfl, rfl⟩, nb_ rfl, rfl⟩ (nb_ rfl) (nb_ rfl) (s_66 hI (fun c_25 hI_26 hF_27 => (bk_inl (q_aload_n c_137_50 rfl (v_gr (t := 9) c_137_51 kf_7_33 rfl (nb_ rfl) rfl (q_aload_n c_137_54 rfl (v_gr (t := 39) c_137_55 kf_7_66 rfl (nb_ rfl) rfl (q_iload_n c_137_58 rfl ?_)))))))))
              refine q_iload_n c_137_59 rfl (q_iload_n c_137_60 rfl (v_cv c_137_61 km_7_303 rfl rfl (nb_ rfl) ⟨⟨rfl, rfl⟩, nb_ rfl, rfl⟩ (nb_ rfl) (nb_ rfl) (s_77 (a2 := a1) (a3 := a2) (a4 := a3) hI_26 (show (-2147483648) ≤ a1 ∧ a1 ≤ 2147483647 from ha1) (show 0 ≤ a2 ∧ a2 ≤ 16 from ⟨by first | exact q_720657ba9 h_1 | omega, by first | exact q_7f2151846 h_5 | omega⟩) (show 1 ≤ a3 ∧ a3 ≤ 48 from ⟨by first | exact q_f19038599 h_9 | omega, by first | exact q_1cdd54b12 h_13 | omega⟩) (fun c_28 hI_29 hF_30 => (bk_inl (q_iload c_137_64 rfl ?_))))))
              by_cases h_31 : a4 = 0
              · skip
                refine v_tsw_i (t := 92) 0 c_137_66 (by omega) (by decide) rfl (by decide) (q_aload_n c_137_92 rfl (v_gr (t := 39) c_137_93 kf_7_66 rfl (nb_ rfl) rfl (v_gr (t := 40) c_137_96 kf_7_174 rfl (nb_ rfl) rfl (v_bip c_137_99 (by decide) ?_))))
                have h_32 := ir_40 hI_29 33
                refine v_ia (v := c_28 40 33) c_137_101 rfl (by decide) (by decide) (by decide) rfl (q_aload_n c_137_102 rfl (v_gr (t := 37) c_137_103 kf_7_62 rfl (nb_ rfl) rfl (v_gr (t := 38) c_137_106 kf_7_174 rfl (nb_ rfl) rfl (v_bip c_137_109 (by decide) ?_))))
                have h_33 := ir_38 hI 33
                have kn_34 : Hid (c_25 38 33 = c 38 33) := hF_27 38 33 (fun h => absurd h (nn rfl))
                have kn_35 : Hid (c_28 38 33 = c 38 33) := (hF_30 38 33 (qn_c0aefbd12 hP)).trans (hid kn_34)
                refine v_ia (v := c 38 33) c_137_111 rfl (by decide) (by decide) (by decide) (hid kn_35) (v_isub (v := c_28 40 33 - c 38 33) c_137_112 (by first | exact q_888803a02 | omega) (v_nrm (fun y_36 hy_36 => (q_iret c_137_113 rfl ?_))))
                exact K c_28 y_36 hI_29 (fun a j hm => (hF_30 a j (qv_89ffef1cb hm)).trans (hF_27 a j (fun h => hm (Or.inr (Or.inr (Or.inr (Or.inr h))))))) hy_36
              by_cases h_37 : a4 = 1
              · skip
                refine v_tsw_i (t := 114) 1 rfl (by omega) (by decide) rfl (by decide) (q_aload_n c_137_114 rfl (v_gr (t := 39) c_137_115 kf_7_66 rfl (nb_ rfl) rfl (v_cv c_137_118 km_7_177 rfl rfl (nb_ rfl) ⟨⟨rfl, rfl⟩, nb_ rfl, rfl⟩ (nb_ rfl) (nb_ rfl) (s_69 hI_29 (.inr ⟨rfl, rfl⟩) (fun y_38 hy_38 => (bk_inl (q_iret c_137_121 rfl ?_)))))))
                exact K c_28 y_38 hI_29 (fun a j hm => (hF_30 a j (qv_89ffef1cb hm)).trans (hF_27 a j (fun h => hm (Or.inr (Or.inr (Or.inr (Or.inr h))))))) hy_38
              by_cases h_39 : a4 = 2
              · skip
                refine v_tsw_i (t := 122) 2 rfl (by omega) (by decide) rfl (by decide) (q_aload_n c_137_122 rfl (v_gr (t := 39) c_137_123 kf_7_66 rfl (nb_ rfl) rfl (v_gr (t := 40) c_137_126 kf_7_174 rfl (nb_ rfl) rfl (v_bip c_137_129 (by decide) ?_))))
                have h_40 := ir_40 hI_29 32
                refine v_ia (v := c_28 40 32) c_137_131 rfl (by decide) (by decide) (by decide) rfl (q_aload_n c_137_132 rfl (v_gr (t := 37) c_137_133 kf_7_62 rfl (nb_ rfl) rfl (v_gr (t := 38) c_137_136 kf_7_174 rfl (nb_ rfl) rfl (v_bip c_137_139 (by decide) ?_))))
                have h_41 := ir_38 hI 32
                have kn_42 : Hid (c_25 38 32 = c 38 32) := hF_27 38 32 (fun h => absurd h (nn rfl))
                have kn_43 : Hid (c_28 38 32 = c 38 32) := (hF_30 38 32 (qn_c0aefbd12 hP)).trans (hid kn_42)
                refine v_ia (v := c 38 32) c_137_141 rfl (by decide) (by decide) (by decide) (hid kn_43) (v_isub (v := c_28 40 32 - c 38 32) c_137_142 (by first | exact q_888803a02 | omega) (v_nrm (fun y_44 hy_44 => (q_iret c_137_143 rfl ?_))))
                exact K c_28 y_44 hI_29 (fun a j hm => (hF_30 a j (qv_89ffef1cb hm)).trans (hF_27 a j (fun h => hm (Or.inr (Or.inr (Or.inr (Or.inr h))))))) hy_44
              refine v_tsw_o (t := 144) rfl (by omega) (by decide) (q_aload_n c_137_144 rfl (v_gr (t := 39) c_137_145 kf_7_66 rfl (nb_ rfl) rfl (v_cv c_137_148 km_7_181 rfl rfl (nb_ rfl) ⟨⟨rfl, rfl⟩, nb_ rfl, rfl⟩ (nb_ rfl) (nb_ rfl) (s_70 hI_29 (.inr ⟨rfl, rfl⟩) (fun y_45 hy_45 => (bk_inl (q_iret c_137_151 rfl ?_)))))))
              exact K c_28 y_45 hI_29 (fun a j hm => (hF_30 a j (qv_89ffef1cb hm)).trans (hF_27 a j (fun h => hm (Or.inr (Or.inr (Or.inr (Or.inr h))))))) hy_45

set_option maxRecDepth 100000 in
set_option maxHeartbeats 4000000 in
theorem s_138_l {sc : List Int32} {d P Q : Nat} {c : ME} {a1 : Int} {a2 : Int} {a3 : Int} {a4 : Int} {a5 : Int} {a6 : Int} {Z : AR → Prop} (hI : Iv 0 (-1) P Q c) (ha1 : (-2147483648) ≤ a1 ∧ a1 ≤ 2147483647) (ha2 : (-2147483648) ≤ a2 ∧ a2 ≤ 2147483647) (ha3 : (-2147483648) ≤ a3 ∧ a3 ≤ 2147483647) (ha4 : (-2147483648) ≤ a4 ∧ a4 ≤ 2147483647) (ha5 : (-2147483648) ≤ a5 ∧ a5 ≤ 2147483647) (ha6 : (-2147483648) ≤ a6 ∧ a6 ≤ 2147483647) (T101 : ∀ c2 : ME, Iv 0 (-1) P Q c2 → (∀ (a : Nat) (j : Int), ¬ ((a = 0 ∧ j = 13) ∨ a = (P + 10) ∨ a = (P + 11) ∨ (a = 9 ∧ j = 0) ∨ a = 40) → c2 a j = c a j) → Z (.inr 101, Wd P Q P P c2, 1, 6)) (K : ∀ (c2 : ME) (y : Int), Iv 0 (-1) P Q c2 → (∀ (a : Nat) (j : Int), ¬ ((a = 0 ∧ j = 13) ∨ a = (P + 10) ∨ a = (P + 11) ∨ (a = 9 ∧ j = 0) ∨ a = 40) → c2 a j = c a j) → (-2147483648) ≤ y ∧ y ≤ 2147483647 → Z (.inl (some (vi y)), Wd P Q P P c2, 0, 0)) : ∀ n : Nat, (∀ (c2 : ME) (v7 : Int) (v8 : Int) (v9 : Int) (v10 : Int), Iv 0 (-1) P Q c2 → (∀ (a : Nat) (j : Int), ¬ ((a = 0 ∧ j = 13) ∨ a = (P + 10) ∨ a = (P + 11) ∨ (a = 9 ∧ j = 0) ∨ a = 40) → c2 a j = c a j) → (-2147483648) ≤ v7 ∧ v7 ≤ 2147483647 → 0 ≤ v8 ∧ v8 ≤ 2147483647 → (-2147483648) ≤ v9 ∧ v9 ≤ 2147483647 → 0 ≤ v10 ∧ v10 ≤ 10 → ((a2 ≥ 1 ∧ a2 ≤ 10)) → ((a6 ≥ 0 ∧ a6 ≤ 5)) → ((a3 ≥ 0 ∧ a3 ≤ 16)) → ((a4 ≥ 1 ∧ a4 ≤ 48)) → 21 - 2 * v10 < (n : Int) → Wp sc (d + 13) 138 82 [(0, .ref 0), (1, vi a1), (2, vi a2), (3, vi a3), (4, vi a4), (5, vi a5), (6, vi a6), (7, vi v7), (8, vi v8), (9, vi v9), (10, vi v10)] [] (Wd P Q P P c2) 0 0 Z) := by
  intro n
  induction n with
  | zero => exact (by intro c2 v7 v8 v9 v10 hI2 hF hv7 hv8 hv9 hv10 hx0 hx1 hx2 hx3 hm9; have hP := iv_P hI; have hQ := iv_Q hI; exfalso; omega)
  | succ n ih =>
    have hP := iv_P hI
    have hQ := iv_Q hI
    intro c2 v7 v8 v9 v10 hI2 hF hv7 hv8 hv9 hv10 hx0 hx1 hx2 hx3 hm9
    refine q_iload c_138_82 rfl (q_iload_n c_138_84 rfl ?_)
    by_cases h_1 : v10 ≥ a2
    · refine v_ic_ge_t (t := 186) c_138_85 rfl ⟨ha2.1, h_1, (Int.le_trans hv10.2 (by decide))⟩ (q_iload c_138_186 rfl ?_)
      by_cases h_2 : a5 = 0
      · refine v_lsw (t := 216) (off := 28) 0 c_138_188 (by omega) (by decide) (by decide) (by decide) (by decide) (q_iload c_138_216 rfl (q_iret c_138_218 rfl ?_))
        exact K c2 v7 hI2 (fun a j hm => hF a j hm) hv7
      by_cases h_3 : a5 = 1
      · refine v_lsw (t := 219) (off := 31) 1 c_138_188 (by omega) (by decide) (by decide) (by decide) (by decide) (q_iload c_138_219 rfl (q_iret c_138_221 rfl ?_))
        exact K c2 v8 hI2 (fun a j hm => hF a j hm) ⟨(Int.le_trans (by decide) hv8.1), hv8.2⟩
      refine v_lsw_o (t := 222) rfl (by omega) (by decide) (by simp [Op.lookupswitch.offset, Ne.symm (show a5 ≠ 0 by omega), Ne.symm (show a5 ≠ 1 by omega)]) (by decide) (q_iload c_138_222 rfl (q_iret c_138_224 rfl ?_))
      exact K c2 v9 hI2 (fun a j hm => hF a j hm) hv9
    · refine v_ic_ge_f (t := 186) c_138_85 rfl ⟨(Int.le_trans (by decide) hv10.1), (Int.not_le.mp h_1), ha2.2⟩ (q_aload_n c_138_88 rfl (v_gr (t := 39) c_138_89 kf_7_66 rfl (nb_ rfl) rfl (q_aload_n c_138_92 rfl (v_gr (t := 37) c_138_93 kf_7_62 rfl (nb_ rfl) rfl (v_cv c_138_96 km_7_233 rfl rfl (nb_ rfl) ⟨⟨rfl, rfl⟩, nb_ rfl, rfl⟩ (nb_ rfl) (nb_ rfl) (s_66 hI2 (fun c_4 hI_5 hF_6 => (bk_inl (q_aload_n c_138_99 rfl ?_)))))))))
      refine v_gr (t := 9) c_138_100 kf_7_33 rfl (nb_ rfl) rfl (q_aload_n c_138_103 rfl (v_gr (t := 39) c_138_104 kf_7_66 rfl (nb_ rfl) rfl (q_iload_n c_138_107 rfl (q_iload c_138_108 rfl (v_iadd (v := a1 + v10) c_138_110 rfl (v_nrm (fun y_7 hy_7 => (q_iload_n c_138_111 rfl ?_))))))))
      refine q_iload c_138_112 rfl (v_cv c_138_114 km_7_303 rfl rfl (nb_ rfl) ⟨⟨rfl, rfl⟩, nb_ rfl, rfl⟩ (nb_ rfl) (nb_ rfl) (s_77 (a2 := y_7) (a3 := a3) (a4 := a4) hI_5 (show (-2147483648) ≤ y_7 ∧ y_7 ≤ 2147483647 from hy_7) (show 0 ≤ a3 ∧ a3 ≤ 16 from ⟨by first | (clear ha1 ha2 ha3 ha4 ha5 ha6 hv7 hv8 hv9 hv10 hx0 hx1 hx3 h_1; omega) | omega, by first | (clear ha1 ha2 ha3 ha4 ha5 ha6 hv7 hv8 hv9 hv10 hx0 hx1 hx3 h_1; omega) | omega⟩) (show 1 ≤ a4 ∧ a4 ≤ 48 from ⟨by first | (clear ha1 ha2 ha3 ha4 ha5 ha6 hv7 hv8 hv9 hv10 hx0 hx1 hx2 h_1; omega) | omega, by first | (clear ha1 ha2 ha3 ha4 ha5 ha6 hv7 hv8 hv9 hv10 hx0 hx1 hx2 h_1; omega) | omega⟩) (fun c_8 hI_9 hF_10 => (bk_inl (q_aload_n c_138_117 rfl (v_gr (t := 39) c_138_118 kf_7_66 rfl (nb_ rfl) rfl (v_gr (t := 40) c_138_121 kf_7_174 rfl (nb_ rfl) rfl (v_bip c_138_124 (by decide) ?_))))))))
      have h_11 := ir_40 hI_9 33
      refine v_ia (v := c_8 40 33) c_138_126 rfl (by decide) (by decide) (by decide) rfl (q_aload_n c_138_127 rfl (v_gr (t := 37) c_138_128 kf_7_62 rfl (nb_ rfl) rfl (v_gr (t := 38) c_138_131 kf_7_174 rfl (nb_ rfl) rfl (v_bip c_138_134 (by decide) ?_))))
      have h_12 := ir_38 hI 33
      have kn_13 : Hid (c2 38 33 = c 38 33) := hF 38 33 (qn_b6c99e75a hP)
      have kn_14 : Hid (c_4 38 33 = c 38 33) := (hF_6 38 33 (fun h => absurd h (nn rfl))).trans (hid kn_13)
      have kn_15 : Hid (c_8 38 33 = c 38 33) := (hF_10 38 33 (qn_c0aefbd12 hP)).trans (hid kn_14)
      refine v_ia (v := c 38 33) c_138_136 rfl (by decide) (by decide) (by decide) (hid kn_15) (v_isub (v := c_8 40 33 - c 38 33) c_138_137 (by first | exact q_888803a02 | omega) (v_nrm (fun y_16 hy_16 => (q_istore c_138_138 (nb_ rfl) (q_iload c_138_140 rfl (q_iload c_138_142 rfl (v_minx c_138_144 rfl (by omega) (nb_ rfl) ⟨by omega, by omega, by omega, by omega⟩ (fun y_17 hy_17 => (q_istore c_138_147 (nb_ rfl) ?_)))))))))
      refine q_iload c_138_149 rfl (q_iload c_138_151 rfl (v_maxx c_138_153 rfl (by omega) (nb_ rfl) ⟨by omega, by omega, by omega, by omega⟩ (fun y_18 hy_18 => (q_istore c_138_156 (nb_ rfl) (q_iload c_138_158 rfl (q_aload_n c_138_160 rfl (v_gr (t := 39) c_138_161 kf_7_66 rfl (nb_ rfl) rfl (q_iload c_138_164 rfl ?_))))))))
      have h_19 := ir_40_g hI_9 (j := 4 * a6) (by first | (clear ha1 ha2 ha3 ha4 ha5 ha6 hv7 hv8 hv9 hv10 hx0 hx2 hx3 h_1 h_11 h_12; omega) | omega)
      have h_20 := ir_40_g hI_9 (j := 4 * a6 + 1) (by first | (clear ha1 ha2 ha3 ha4 ha5 ha6 hv7 hv8 hv9 hv10 hx0 hx2 hx3 h_1 h_11 h_12 h_19; omega) | omega)
      have h_21 := ir_40_g hI_9 (j := 4 * a6 + 2) (by first | (clear ha1 ha2 ha3 ha4 ha5 ha6 hv7 hv8 hv9 hv10 hx0 hx2 hx3 h_1 h_11 h_12 h_19 h_20; omega) | omega)
      have h_22 := ir_40_g hI_9 (j := 4 * a6 + 3) (by first | (clear ha1 ha2 ha3 ha4 ha5 ha6 hv7 hv8 hv9 hv10 hx0 hx2 hx3 h_1 h_11 h_12 h_19 h_20 h_21; omega) | omega)
      refine v_cv c_138_166 km_7_187 rfl rfl (nb_ rfl) ⟨⟨rfl, rfl⟩, nb_ rfl, rfl⟩ (nb_ rfl) (nb_ rfl) (s_43 (v1 := c_8 40 (4 * a6)) (v2 := c_8 40 (4 * a6 + 1)) (v3 := c_8 40 (4 * a6 + 2)) (v4 := c_8 40 (4 * a6 + 3)) (r := c_8 40 (4 * a6 + 1) + c_8 40 (4 * a6 + 2) + c_8 40 (4 * a6 + 3) + c_8 40 (4 * a6)) (a1 := a6) hI_9 (.inr ⟨rfl, rfl⟩) (show 0 ≤ a6 ∧ a6 ≤ 5 from ⟨by first | (clear ha1 ha2 ha3 ha4 ha5 ha6 hv7 hv8 hv9 hv10 hx0 hx2 hx3 h_1 h_11 h_12; omega) | omega, by first | (clear ha1 ha2 ha3 ha4 ha5 ha6 hv7 hv8 hv9 hv10 hx0 hx2 hx3 h_1 h_11 h_12; omega) | omega⟩) (rfl) (rfl) (rfl) (rfl) (by omega) (bk_inl ?_))
      by_cases h_23 : c_8 40 (4 * a6 + 1) + c_8 40 (4 * a6 + 2) + c_8 40 (4 * a6 + 3) + c_8 40 (4 * a6) ≠ 0
      · refine v_if_ne_t (t := 176) c_138_169 rfl ⟨h_23, ⟨by first | exact q_e052ef40e h_19 h_20 h_21 h_22 | omega, by first | exact q_db9ef1f4a h_19 h_20 h_21 h_22 | omega⟩, by decide, by decide⟩ (q_iconst c_138_176 (v_iadd (v := v9) c_138_177 (by first | exact q_7038fede5 | omega) (q_istore c_138_178 (nb_ rfl) (v_iinc (v := v10 + 1) c_138_180 rfl (nb_ rfl) rfl (Wp_ls [(10, vi (v10 + 1)), (9, vi v9), (8, vi y_18), (7, vi y_17), (11, vi y_16), (0, .ref 0), (1, vi a1), (2, vi a2), (3, vi a3), (4, vi a4), (5, vi a5), (6, vi a6)] (lsub_cons rfl (lsub_cons rfl (lsub_cons rfl (lsub_cons rfl (lsub_cons rfl (lsub_cons rfl (lsub_cons rfl (lsub_cons rfl (lsub_cons rfl (lsub_cons rfl (lsub_cons rfl (lsub_cons rfl lsub_nil)))))))))))) (q_goto (t := 82) c_138_183 rfl (Wp_ls [(0, .ref 0), (1, vi a1), (2, vi a2), (3, vi a3), (4, vi a4), (5, vi a5), (6, vi a6), (7, vi y_17), (8, vi y_18), (9, vi v9), (10, vi (v10 + 1))] (lsub_cons rfl (lsub_cons rfl (lsub_cons rfl (lsub_cons rfl (lsub_cons rfl (lsub_cons rfl (lsub_cons rfl (lsub_cons rfl (lsub_cons rfl (lsub_cons rfl (lsub_cons rfl lsub_nil))))))))))) ?_)))))))
        exact ih c_8 y_17 y_18 v9 (v10 + 1) hI_9 (fun a j hm => (hF_10 a j (qv_89ffef1cb hm)).trans ((hF_6 a j (fun h => hm (Or.inr (Or.inr (Or.inr (Or.inr h)))))).trans (hF a j hm))) ⟨by first | (clear ha1 ha2 ha3 ha4 ha5 ha6 hv8 hv9 hv10 hx0 hx1 hx2 hx3 h_1 h_11 h_12 h_19 h_20 h_21 h_22 h_23; omega) | omega, by first | (clear ha1 ha2 ha3 ha4 ha5 ha6 hv8 hv9 hv10 hx0 hx1 hx2 hx3 h_1 h_11 h_12 h_19 h_20 h_21 h_22 h_23; omega) | omega⟩ ⟨by first | (clear ha1 ha2 ha3 ha4 ha5 ha6 hv7 hv9 hv10 hx0 hx1 hx2 hx3 h_1 h_11 h_12 h_19 h_20 h_21 h_22 h_23; omega) | omega, by first | (clear ha1 ha2 ha3 ha4 ha5 ha6 hv7 hv9 hv10 hx0 hx1 hx2 hx3 h_1 h_11 h_12 h_19 h_20 h_21 h_22 h_23; omega) | omega⟩ hv9 ⟨by first | exact rgp_l hv10.1 (by decide) | omega, by first | (clear ha1 ha2 ha3 ha4 ha5 ha6 hv7 hv8 hv9 hv10 hx1 hx2 hx3 h_11 h_12 h_19 h_20 h_21 h_22 h_23; omega) | omega⟩ ⟨by first | (clear ha1 ha2 ha3 ha4 ha5 ha6 hv7 hv8 hv9 hv10 hx1 hx2 hx3 h_1 h_11 h_12 h_19 h_20 h_21 h_22 h_23; omega) | omega, by first | (clear ha1 ha2 ha3 ha4 ha5 ha6 hv7 hv8 hv9 hv10 hx1 hx2 hx3 h_1 h_11 h_12 h_19 h_20 h_21 h_22 h_23; omega) | omega⟩ ⟨by first | (clear ha1 ha2 ha3 ha4 ha5 ha6 hv7 hv8 hv9 hv10 hx0 hx2 hx3 h_1 h_11 h_12 h_19 h_20 h_21 h_22 h_23; omega) | omega, by first | (clear ha1 ha2 ha3 ha4 ha5 ha6 hv7 hv8 hv9 hv10 hx0 hx2 hx3 h_1 h_11 h_12 h_19 h_20 h_21 h_22 h_23; omega) | omega⟩ ⟨by first | (clear ha1 ha2 ha3 ha4 ha5 ha6 hv7 hv8 hv9 hv10 hx0 hx1 hx3 h_1 h_11 h_12 h_19 h_20 h_21 h_22 h_23; omega) | omega, by first | (clear ha1 ha2 ha3 ha4 ha5 ha6 hv7 hv8 hv9 hv10 hx0 hx1 hx3 h_1 h_11 h_12 h_19 h_20 h_21 h_22 h_23; omega) | omega⟩ ⟨by first | (clear ha1 ha2 ha3 ha4 ha5 ha6 hv7 hv8 hv9 hv10 hx0 hx1 hx2 h_1 h_11 h_12 h_19 h_20 h_21 h_22 h_23; omega) | omega, by first | (clear ha1 ha2 ha3 ha4 ha5 ha6 hv7 hv8 hv9 hv10 hx0 hx1 hx2 h_1 h_11 h_12 h_19 h_20 h_21 h_22 h_23; omega) | omega⟩ (by omega)
      · refine v_if_ne_f (t := 176) c_138_169 rfl (Decidable.not_not.mp h_23) (q_iconst c_138_172 (q_goto (t := 177) c_138_173 rfl (v_iadd (v := v9 + 1) c_138_177 rfl (v_nrm (fun y_24 hy_24 => (q_istore c_138_178 (nb_ rfl) (v_iinc (v := v10 + 1) c_138_180 rfl (nb_ rfl) rfl (Wp_ls [(10, vi (v10 + 1)), (9, vi y_24), (8, vi y_18), (7, vi y_17), (11, vi y_16), (0, .ref 0), (1, vi a1), (2, vi a2), (3, vi a3), (4, vi a4), (5, vi a5), (6, vi a6)] (lsub_cons rfl (lsub_cons rfl (lsub_cons rfl (lsub_cons rfl (lsub_cons rfl (lsub_cons rfl (lsub_cons rfl (lsub_cons rfl (lsub_cons rfl (lsub_cons rfl (lsub_cons rfl (lsub_cons rfl lsub_nil)))))))))))) ?_))))))))
        refine q_goto (t := 82) c_138_183 rfl (Wp_ls [(0, .ref 0), (1, vi a1), (2, vi a2), (3, vi a3), (4, vi a4), (5, vi a5), (6, vi a6), (7, vi y_17), (8, vi y_18), (9, vi y_24), (10, vi (v10 + 1))] (lsub_cons rfl (lsub_cons rfl (lsub_cons rfl (lsub_cons rfl (lsub_cons rfl (lsub_cons rfl (lsub_cons rfl (lsub_cons rfl (lsub_cons rfl (lsub_cons rfl (lsub_cons rfl lsub_nil))))))))))) ?_)
        exact ih c_8 y_17 y_18 y_24 (v10 + 1) hI_9 (fun a j hm => (hF_10 a j (qv_89ffef1cb hm)).trans ((hF_6 a j (fun h => hm (Or.inr (Or.inr (Or.inr (Or.inr h)))))).trans (hF a j hm))) ⟨by first | (clear ha1 ha2 ha3 ha4 ha5 ha6 hv8 hv9 hv10 hx0 hx1 hx2 hx3 h_1 h_11 h_12 h_19 h_20 h_21 h_22 h_23; omega) | omega, by first | (clear ha1 ha2 ha3 ha4 ha5 ha6 hv8 hv9 hv10 hx0 hx1 hx2 hx3 h_1 h_11 h_12 h_19 h_20 h_21 h_22 h_23; omega) | omega⟩ ⟨by first | (clear ha1 ha2 ha3 ha4 ha5 ha6 hv7 hv9 hv10 hx0 hx1 hx2 hx3 h_1 h_11 h_12 h_19 h_20 h_21 h_22 h_23; omega) | omega, by first | (clear ha1 ha2 ha3 ha4 ha5 ha6 hv7 hv9 hv10 hx0 hx1 hx2 hx3 h_1 h_11 h_12 h_19 h_20 h_21 h_22 h_23; omega) | omega⟩ hy_24 ⟨by first | exact rgp_l hv10.1 (by decide) | omega, by first | (clear ha1 ha2 ha3 ha4 ha5 ha6 hv7 hv8 hv9 hv10 hx1 hx2 hx3 h_11 h_12 h_19 h_20 h_21 h_22 h_23; omega) | omega⟩ ⟨by first | (clear ha1 ha2 ha3 ha4 ha5 ha6 hv7 hv8 hv9 hv10 hx1 hx2 hx3 h_1 h_11 h_12 h_19 h_20 h_21 h_22 h_23; omega) | omega, by first | (clear ha1 ha2 ha3 ha4 ha5 ha6 hv7 hv8 hv9 hv10 hx1 hx2 hx3 h_1 h_11 h_12 h_19 h_20 h_21 h_22 h_23; omega) | omega⟩ ⟨by first | (clear ha1 ha2 ha3 ha4 ha5 ha6 hv7 hv8 hv9 hv10 hx0 hx2 hx3 h_1 h_11 h_12 h_19 h_20 h_21 h_22 h_23; omega) | omega, by first | (clear ha1 ha2 ha3 ha4 ha5 ha6 hv7 hv8 hv9 hv10 hx0 hx2 hx3 h_1 h_11 h_12 h_19 h_20 h_21 h_22 h_23; omega) | omega⟩ ⟨by first | (clear ha1 ha2 ha3 ha4 ha5 ha6 hv7 hv8 hv9 hv10 hx0 hx1 hx3 h_1 h_11 h_12 h_19 h_20 h_21 h_22 h_23; omega) | omega, by first | (clear ha1 ha2 ha3 ha4 ha5 ha6 hv7 hv8 hv9 hv10 hx0 hx1 hx3 h_1 h_11 h_12 h_19 h_20 h_21 h_22 h_23; omega) | omega⟩ ⟨by first | (clear ha1 ha2 ha3 ha4 ha5 ha6 hv7 hv8 hv9 hv10 hx0 hx1 hx2 h_1 h_11 h_12 h_19 h_20 h_21 h_22 h_23; omega) | omega, by first | (clear ha1 ha2 ha3 ha4 ha5 ha6 hv7 hv8 hv9 hv10 hx0 hx1 hx2 h_1 h_11 h_12 h_19 h_20 h_21 h_22 h_23; omega) | omega⟩ (by omega)
set_option maxRecDepth 100000 in
set_option maxHeartbeats 4000000 in
theorem s_138 {sc : List Int32} {d P Q : Nat} {c : ME} {a1 : Int} {a2 : Int} {a3 : Int} {a4 : Int} {a5 : Int} {a6 : Int} {Z : AR → Prop} (hI : Iv 0 (-1) P Q c) (ha1 : (-2147483648) ≤ a1 ∧ a1 ≤ 2147483647) (ha2 : (-2147483648) ≤ a2 ∧ a2 ≤ 2147483647) (ha3 : (-2147483648) ≤ a3 ∧ a3 ≤ 2147483647) (ha4 : (-2147483648) ≤ a4 ∧ a4 ≤ 2147483647) (ha5 : (-2147483648) ≤ a5 ∧ a5 ≤ 2147483647) (ha6 : (-2147483648) ≤ a6 ∧ a6 ≤ 2147483647) (T101 : ∀ c2 : ME, Iv 0 (-1) P Q c2 → (∀ (a : Nat) (j : Int), ¬ ((a = 0 ∧ j = 13) ∨ a = (P + 10) ∨ a = (P + 11) ∨ (a = 9 ∧ j = 0) ∨ a = 40) → c2 a j = c a j) → Z (.inr 101, Wd P Q P P c2, 1, 6)) (K : ∀ (c2 : ME) (y : Int), Iv 0 (-1) P Q c2 → (∀ (a : Nat) (j : Int), ¬ ((a = 0 ∧ j = 13) ∨ a = (P + 10) ∨ a = (P + 11) ∨ (a = 9 ∧ j = 0) ∨ a = 40) → c2 a j = c a j) → (-2147483648) ≤ y ∧ y ≤ 2147483647 → Z (.inl (some (vi y)), Wd P Q P P c2, 0, 0)) : Wp sc (d + 13) 138 0 [(0, .ref 0), (1, vi a1), (2, vi a2), (3, vi a3), (4, vi a4), (5, vi a5), (6, vi a6)] [] (Wd P Q P P c) 0 0 Z := by
  have hP := iv_P hI
  have hQ := iv_Q hI
  refine q_aload_n c_138_0 rfl (q_iload_n c_138_1 rfl (q_iconst c_138_2 (v_bip c_138_3 (by decide) (q_call c_138_5 rfl rfl rfl (q_iload_n c_80_0 rfl (q_iload_n c_80_1 rfl ?_))))))
  by_cases h_25 : a2 < 1
  · refine v_ic_lt_t (t := 14) c_80_2 rfl ⟨ha2.1, h_25, by decide⟩ (q_iconst c_80_14 (v_zret c_80_15 rfl (by decide) (bk_inl (v_if_eq_t (t := 64) c_138_8 rfl (by decide) (q_iconst c_138_64 (v_cv c_138_65 km_7_161 rfl rfl (nb_ rfl) ⟨⟨rfl, rfl⟩, nb_ rfl, rfl⟩ (nb_ rfl) (nb_ rfl) (q_iload_n c_81_0 rfl ?_)))))))
    refine v_if_ne_f (t := 25) c_81_1 rfl (by decide) (q_aload_n c_81_4 rfl (q_dup c_81_5 rfl ?_))
    have h_26 := ir_0_13 hI
    refine v_gi (z := 13) (v := c 0 13) c_81_6 kf_7_330 rfl (nb_ rfl) rfl rfl rfl (q_iconst c_81_9 (v_iadd (v := c 0 13 + 1) c_81_10 rfl (v_nrm (fun y_27 hy_27 => (v_pi (z := 13) c_81_11 kf_7_330 rfl (nb_ rfl) rfl rfl rfl (by decide) (v_new c_81_14 rfl (by decide) (ld_ rfl) (nb_ rfl) (by decide) rfl (bk_out rfl rfl ?_)))))))
    have hI_28 := iw_0_13 (v := y_27) hI ⟨hy_27.1, hy_27.2⟩
    exact T101 _ hI_28 (fun a j hm => up_b (Decidable.or_iff_not_imp_left.mpr (fun h1 h2 => hm (Or.inl ⟨Decidable.not_not.mp h1, h2⟩))))
  · refine v_ic_lt_f (t := 14) c_80_2 rfl ⟨by decide, (Int.not_lt.mp h_25), ha2.2⟩ (q_iload_n c_80_5 rfl (q_iload_n c_80_6 rfl ?_))
    by_cases h_29 : a2 > 10
    · refine v_ic_gt_t (t := 14) c_80_7 rfl ⟨by decide, h_29, ha2.2⟩ (q_iconst c_80_14 (v_zret c_80_15 rfl (by decide) (bk_inl (v_if_eq_t (t := 64) c_138_8 rfl (by decide) (q_iconst c_138_64 (v_cv c_138_65 km_7_161 rfl rfl (nb_ rfl) ⟨⟨rfl, rfl⟩, nb_ rfl, rfl⟩ (nb_ rfl) (nb_ rfl) (q_iload_n c_81_0 rfl ?_)))))))
      refine v_if_ne_f (t := 25) c_81_1 rfl (by decide) (q_aload_n c_81_4 rfl (q_dup c_81_5 rfl ?_))
      have h_30 := ir_0_13 hI
      refine v_gi (z := 13) (v := c 0 13) c_81_6 kf_7_330 rfl (nb_ rfl) rfl rfl rfl (q_iconst c_81_9 (v_iadd (v := c 0 13 + 1) c_81_10 rfl (v_nrm (fun y_31 hy_31 => (v_pi (z := 13) c_81_11 kf_7_330 rfl (nb_ rfl) rfl rfl rfl (by decide) (v_new c_81_14 rfl (by decide) (ld_ rfl) (nb_ rfl) (by decide) rfl (bk_out rfl rfl ?_)))))))
      have hI_32 := iw_0_13 (v := y_31) hI ⟨hy_31.1, hy_31.2⟩
      exact T101 _ hI_32 (fun a j hm => up_b (Decidable.or_iff_not_imp_left.mpr (fun h1 h2 => hm (Or.inl ⟨Decidable.not_not.mp h1, h2⟩))))
    · refine v_ic_gt_f (t := 14) c_80_7 rfl ⟨ha2.1, (Int.not_lt.mp h_29), by decide⟩ (q_iconst c_80_10 (q_goto (t := 15) c_80_11 rfl (v_zret c_80_15 rfl (by decide) (bk_inl (v_if_eq_f (t := 64) c_138_8 rfl (by decide) (q_iload_n c_138_11 rfl (q_iconst c_138_12 ?_)))))))
      refine v_bip c_138_13 (by decide) (q_call c_138_15 rfl rfl rfl (q_iload_n c_80_0 rfl (q_iload_n c_80_1 rfl ?_)))
      by_cases h_33 : a3 < 0
      · refine v_ic_lt_t (t := 14) c_80_2 rfl ⟨ha3.1, h_33, by decide⟩ (q_iconst c_80_14 (v_zret c_80_15 rfl (by decide) (bk_inl (v_if_eq_t (t := 64) c_138_18 rfl (by decide) (q_iconst c_138_64 (v_cv c_138_65 km_7_161 rfl rfl (nb_ rfl) ⟨⟨rfl, rfl⟩, nb_ rfl, rfl⟩ (nb_ rfl) (nb_ rfl) (q_iload_n c_81_0 rfl ?_)))))))
        refine v_if_ne_f (t := 25) c_81_1 rfl (by decide) (q_aload_n c_81_4 rfl (q_dup c_81_5 rfl ?_))
        have h_34 := ir_0_13 hI
        refine v_gi (z := 13) (v := c 0 13) c_81_6 kf_7_330 rfl (nb_ rfl) rfl rfl rfl (q_iconst c_81_9 (v_iadd (v := c 0 13 + 1) c_81_10 rfl (v_nrm (fun y_35 hy_35 => (v_pi (z := 13) c_81_11 kf_7_330 rfl (nb_ rfl) rfl rfl rfl (by decide) (v_new c_81_14 rfl (by decide) (ld_ rfl) (nb_ rfl) (by decide) rfl (bk_out rfl rfl ?_)))))))
        have hI_36 := iw_0_13 (v := y_35) hI ⟨hy_35.1, hy_35.2⟩
        exact T101 _ hI_36 (fun a j hm => up_b (Decidable.or_iff_not_imp_left.mpr (fun h1 h2 => hm (Or.inl ⟨Decidable.not_not.mp h1, h2⟩))))
      · refine v_ic_lt_f (t := 14) c_80_2 rfl ⟨by decide, (Int.not_lt.mp h_33), ha3.2⟩ (q_iload_n c_80_5 rfl (q_iload_n c_80_6 rfl ?_))
        by_cases h_37 : a3 > 16
        · refine v_ic_gt_t (t := 14) c_80_7 rfl ⟨by decide, h_37, ha3.2⟩ (q_iconst c_80_14 (v_zret c_80_15 rfl (by decide) (bk_inl (v_if_eq_t (t := 64) c_138_18 rfl (by decide) (q_iconst c_138_64 (v_cv c_138_65 km_7_161 rfl rfl (nb_ rfl) ⟨⟨rfl, rfl⟩, nb_ rfl, rfl⟩ (nb_ rfl) (nb_ rfl) (q_iload_n c_81_0 rfl ?_)))))))
          refine v_if_ne_f (t := 25) c_81_1 rfl (by decide) (q_aload_n c_81_4 rfl (q_dup c_81_5 rfl ?_))
          have h_38 := ir_0_13 hI
          refine v_gi (z := 13) (v := c 0 13) c_81_6 kf_7_330 rfl (nb_ rfl) rfl rfl rfl (q_iconst c_81_9 (v_iadd (v := c 0 13 + 1) c_81_10 rfl (v_nrm (fun y_39 hy_39 => (v_pi (z := 13) c_81_11 kf_7_330 rfl (nb_ rfl) rfl rfl rfl (by decide) (v_new c_81_14 rfl (by decide) (ld_ rfl) (nb_ rfl) (by decide) rfl (bk_out rfl rfl ?_)))))))
          have hI_40 := iw_0_13 (v := y_39) hI ⟨hy_39.1, hy_39.2⟩
          exact T101 _ hI_40 (fun a j hm => up_b (Decidable.or_iff_not_imp_left.mpr (fun h1 h2 => hm (Or.inl ⟨Decidable.not_not.mp h1, h2⟩))))
        · refine v_ic_gt_f (t := 14) c_80_7 rfl ⟨ha3.1, (Int.not_lt.mp h_37), by decide⟩ (q_iconst c_80_10 (q_goto (t := 15) c_80_11 rfl (v_zret c_80_15 rfl (by decide) (bk_inl (v_if_eq_f (t := 64) c_138_18 rfl (by decide) (q_iload c_138_21 rfl (q_iconst c_138_23 ?_)))))))
          refine v_bip c_138_24 (by decide) (q_call c_138_26 rfl rfl rfl (q_iload_n c_80_0 rfl (q_iload_n c_80_1 rfl ?_)))
          by_cases h_41 : a4 < 1
          · refine v_ic_lt_t (t := 14) c_80_2 rfl ⟨ha4.1, h_41, by decide⟩ (q_iconst c_80_14 (v_zret c_80_15 rfl (by decide) (bk_inl (v_if_eq_t (t := 64) c_138_29 rfl (by decide) (q_iconst c_138_64 (v_cv c_138_65 km_7_161 rfl rfl (nb_ rfl) ⟨⟨rfl, rfl⟩, nb_ rfl, rfl⟩ (nb_ rfl) (nb_ rfl) (q_iload_n c_81_0 rfl ?_)))))))
            refine v_if_ne_f (t := 25) c_81_1 rfl (by decide) (q_aload_n c_81_4 rfl (q_dup c_81_5 rfl ?_))
            have h_42 := ir_0_13 hI
            refine v_gi (z := 13) (v := c 0 13) c_81_6 kf_7_330 rfl (nb_ rfl) rfl rfl rfl (q_iconst c_81_9 (v_iadd (v := c 0 13 + 1) c_81_10 rfl (v_nrm (fun y_43 hy_43 => (v_pi (z := 13) c_81_11 kf_7_330 rfl (nb_ rfl) rfl rfl rfl (by decide) (v_new c_81_14 rfl (by decide) (ld_ rfl) (nb_ rfl) (by decide) rfl (bk_out rfl rfl ?_)))))))
            have hI_44 := iw_0_13 (v := y_43) hI ⟨hy_43.1, hy_43.2⟩
            exact T101 _ hI_44 (fun a j hm => up_b (Decidable.or_iff_not_imp_left.mpr (fun h1 h2 => hm (Or.inl ⟨Decidable.not_not.mp h1, h2⟩))))
          · refine v_ic_lt_f (t := 14) c_80_2 rfl ⟨by decide, (Int.not_lt.mp h_41), ha4.2⟩ (q_iload_n c_80_5 rfl (q_iload_n c_80_6 rfl ?_))
            by_cases h_45 : a4 > 48
            · refine v_ic_gt_t (t := 14) c_80_7 rfl ⟨by decide, h_45, ha4.2⟩ (q_iconst c_80_14 (v_zret c_80_15 rfl (by decide) (bk_inl (v_if_eq_t (t := 64) c_138_29 rfl (by decide) (q_iconst c_138_64 (v_cv c_138_65 km_7_161 rfl rfl (nb_ rfl) ⟨⟨rfl, rfl⟩, nb_ rfl, rfl⟩ (nb_ rfl) (nb_ rfl) (q_iload_n c_81_0 rfl ?_)))))))
              refine v_if_ne_f (t := 25) c_81_1 rfl (by decide) (q_aload_n c_81_4 rfl (q_dup c_81_5 rfl ?_))
              have h_46 := ir_0_13 hI
              refine v_gi (z := 13) (v := c 0 13) c_81_6 kf_7_330 rfl (nb_ rfl) rfl rfl rfl (q_iconst c_81_9 (v_iadd (v := c 0 13 + 1) c_81_10 rfl (v_nrm (fun y_47 hy_47 => (v_pi (z := 13) c_81_11 kf_7_330 rfl (nb_ rfl) rfl rfl rfl (by decide) (v_new c_81_14 rfl (by decide) (ld_ rfl) (nb_ rfl) (by decide) rfl (bk_out rfl rfl ?_)))))))
              have hI_48 := iw_0_13 (v := y_47) hI ⟨hy_47.1, hy_47.2⟩
              exact T101 _ hI_48 (fun a j hm => up_b (Decidable.or_iff_not_imp_left.mpr (fun h1 h2 => hm (Or.inl ⟨Decidable.not_not.mp h1, h2⟩))))
            · refine v_ic_gt_f (t := 14) c_80_7 rfl ⟨ha4.1, (Int.not_lt.mp h_45), by decide⟩ (q_iconst c_80_10 (q_goto (t := 15) c_80_11 rfl (v_zret c_80_15 rfl (by decide) (bk_inl (v_if_eq_f (t := 64) c_138_29 rfl (by decide) (q_iload c_138_32 rfl (q_iconst c_138_34 ?_)))))))
              refine q_iconst c_138_35 (q_call c_138_36 rfl rfl rfl (q_iload_n c_80_0 rfl (q_iload_n c_80_1 rfl ?_)))
              by_cases h_49 : a5 < 0
              · refine v_ic_lt_t (t := 14) c_80_2 rfl ⟨ha5.1, h_49, by decide⟩ (q_iconst c_80_14 (v_zret c_80_15 rfl (by decide) (bk_inl (v_if_eq_t (t := 64) c_138_39 rfl (by decide) (q_iconst c_138_64 (v_cv c_138_65 km_7_161 rfl rfl (nb_ rfl) ⟨⟨rfl, rfl⟩, nb_ rfl, rfl⟩ (nb_ rfl) (nb_ rfl) (q_iload_n c_81_0 rfl ?_)))))))
                refine v_if_ne_f (t := 25) c_81_1 rfl (by decide) (q_aload_n c_81_4 rfl (q_dup c_81_5 rfl ?_))
                have h_50 := ir_0_13 hI
                refine v_gi (z := 13) (v := c 0 13) c_81_6 kf_7_330 rfl (nb_ rfl) rfl rfl rfl (q_iconst c_81_9 (v_iadd (v := c 0 13 + 1) c_81_10 rfl (v_nrm (fun y_51 hy_51 => (v_pi (z := 13) c_81_11 kf_7_330 rfl (nb_ rfl) rfl rfl rfl (by decide) (v_new c_81_14 rfl (by decide) (ld_ rfl) (nb_ rfl) (by decide) rfl (bk_out rfl rfl ?_)))))))
                have hI_52 := iw_0_13 (v := y_51) hI ⟨hy_51.1, hy_51.2⟩
                exact T101 _ hI_52 (fun a j hm => up_b (Decidable.or_iff_not_imp_left.mpr (fun h1 h2 => hm (Or.inl ⟨Decidable.not_not.mp h1, h2⟩))))
              · refine v_ic_lt_f (t := 14) c_80_2 rfl ⟨by decide, (Int.not_lt.mp h_49), ha5.2⟩ (q_iload_n c_80_5 rfl (q_iload_n c_80_6 rfl ?_))
                by_cases h_53 : a5 > 2
                · refine v_ic_gt_t (t := 14) c_80_7 rfl ⟨by decide, h_53, ha5.2⟩ (q_iconst c_80_14 (v_zret c_80_15 rfl (by decide) (bk_inl (v_if_eq_t (t := 64) c_138_39 rfl (by decide) (q_iconst c_138_64 (v_cv c_138_65 km_7_161 rfl rfl (nb_ rfl) ⟨⟨rfl, rfl⟩, nb_ rfl, rfl⟩ (nb_ rfl) (nb_ rfl) (q_iload_n c_81_0 rfl ?_)))))))
                  refine v_if_ne_f (t := 25) c_81_1 rfl (by decide) (q_aload_n c_81_4 rfl (q_dup c_81_5 rfl ?_))
                  have h_54 := ir_0_13 hI
                  refine v_gi (z := 13) (v := c 0 13) c_81_6 kf_7_330 rfl (nb_ rfl) rfl rfl rfl (q_iconst c_81_9 (v_iadd (v := c 0 13 + 1) c_81_10 rfl (v_nrm (fun y_55 hy_55 => (v_pi (z := 13) c_81_11 kf_7_330 rfl (nb_ rfl) rfl rfl rfl (by decide) (v_new c_81_14 rfl (by decide) (ld_ rfl) (nb_ rfl) (by decide) rfl (bk_out rfl rfl ?_)))))))
                  have hI_56 := iw_0_13 (v := y_55) hI ⟨hy_55.1, hy_55.2⟩
                  exact T101 _ hI_56 (fun a j hm => up_b (Decidable.or_iff_not_imp_left.mpr (fun h1 h2 => hm (Or.inl ⟨Decidable.not_not.mp h1, h2⟩))))
                · refine v_ic_gt_f (t := 14) c_80_7 rfl ⟨ha5.1, (Int.not_lt.mp h_53), by decide⟩ (q_iconst c_80_10 (q_goto (t := 15) c_80_11 rfl (v_zret c_80_15 rfl (by decide) (bk_inl (v_if_eq_f (t := 64) c_138_39 rfl (by decide) (q_iload c_138_42 rfl (q_iconst c_138_44 ?_)))))))
                  refine q_aload_n c_138_45 rfl (v_gr (t := P) c_138_46 kf_7_50 rfl (nb_ rfl) rfl ?_)
                  have h_57 := ir_p0_0 hI hP
                  refine v_gi (z := 0) (v := c P 0) c_138_49 kf_7_102 (ck_p0 hP) (a68z hP) rfl rfl rfl (q_iconst c_138_52 (v_isub (v := c P 0 - 1) c_138_53 rfl (q_call c_138_54 rfl rfl rfl (q_iload_n c_80_0 rfl (q_iload_n c_80_1 rfl ?_)))))
                  by_cases h_58 : a6 < 0
                  · refine v_ic_lt_t (t := 14) c_80_2 rfl ⟨ha6.1, h_58, by decide⟩ (q_iconst c_80_14 (v_zret c_80_15 rfl (by decide) (bk_inl (v_if_eq_t (t := 64) c_138_57 rfl (by decide) (q_iconst c_138_64 (v_cv c_138_65 km_7_161 rfl rfl (nb_ rfl) ⟨⟨rfl, rfl⟩, nb_ rfl, rfl⟩ (nb_ rfl) (nb_ rfl) (q_iload_n c_81_0 rfl ?_)))))))
                    refine v_if_ne_f (t := 25) c_81_1 rfl (by decide) (q_aload_n c_81_4 rfl (q_dup c_81_5 rfl ?_))
                    have h_59 := ir_0_13 hI
                    refine v_gi (z := 13) (v := c 0 13) c_81_6 kf_7_330 rfl (nb_ rfl) rfl rfl rfl (q_iconst c_81_9 (v_iadd (v := c 0 13 + 1) c_81_10 rfl (v_nrm (fun y_60 hy_60 => (v_pi (z := 13) c_81_11 kf_7_330 rfl (nb_ rfl) rfl rfl rfl (by decide) (v_new c_81_14 rfl (by decide) (ld_ rfl) (nb_ rfl) (by decide) rfl (bk_out rfl rfl ?_)))))))
                    have hI_61 := iw_0_13 (v := y_60) hI ⟨hy_60.1, hy_60.2⟩
                    exact T101 _ hI_61 (fun a j hm => up_b (Decidable.or_iff_not_imp_left.mpr (fun h1 h2 => hm (Or.inl ⟨Decidable.not_not.mp h1, h2⟩))))
                  · refine v_ic_lt_f (t := 14) c_80_2 rfl ⟨by decide, (Int.not_lt.mp h_58), ha6.2⟩ (q_iload_n c_80_5 rfl (q_iload_n c_80_6 rfl ?_))
                    by_cases h_62 : a6 > c P 0 - 1
                    · refine v_ic_gt_t (t := 14) c_80_7 rfl ⟨by first | exact rgm_l h_57.1 (by decide) | omega, h_62, ha6.2⟩ (q_iconst c_80_14 (v_zret c_80_15 rfl (by decide) (bk_inl (v_if_eq_t (t := 64) c_138_57 rfl (by decide) (q_iconst c_138_64 (v_cv c_138_65 km_7_161 rfl rfl (nb_ rfl) ⟨⟨rfl, rfl⟩, nb_ rfl, rfl⟩ (nb_ rfl) (nb_ rfl) (q_iload_n c_81_0 rfl ?_)))))))
                      refine v_if_ne_f (t := 25) c_81_1 rfl (by decide) (q_aload_n c_81_4 rfl (q_dup c_81_5 rfl ?_))
                      have h_63 := ir_0_13 hI
                      refine v_gi (z := 13) (v := c 0 13) c_81_6 kf_7_330 rfl (nb_ rfl) rfl rfl rfl (q_iconst c_81_9 (v_iadd (v := c 0 13 + 1) c_81_10 rfl (v_nrm (fun y_64 hy_64 => (v_pi (z := 13) c_81_11 kf_7_330 rfl (nb_ rfl) rfl rfl rfl (by decide) (v_new c_81_14 rfl (by decide) (ld_ rfl) (nb_ rfl) (by decide) rfl (bk_out rfl rfl ?_)))))))
                      have hI_65 := iw_0_13 (v := y_64) hI ⟨hy_64.1, hy_64.2⟩
                      exact T101 _ hI_65 (fun a j hm => up_b (Decidable.or_iff_not_imp_left.mpr (fun h1 h2 => hm (Or.inl ⟨Decidable.not_not.mp h1, h2⟩))))
                    · refine v_ic_gt_f (t := 14) c_80_7 rfl ⟨ha6.1, (Int.not_lt.mp h_62), by first | exact rgm_h h_57.2 (by decide) | omega⟩ (q_iconst c_80_10 (q_goto (t := 15) c_80_11 rfl (v_zret c_80_15 rfl (by decide) (bk_inl (v_if_eq_f (t := 64) c_138_57 rfl (by decide) (q_iconst c_138_60 (q_goto (t := 65) c_138_61 rfl ?_)))))))
                      refine v_cv c_138_65 km_7_161 rfl rfl (nb_ rfl) ⟨⟨rfl, rfl⟩, nb_ rfl, rfl⟩ (nb_ rfl) (nb_ rfl) (q_iload_n c_81_0 rfl (v_if_ne_t (t := 25) c_81_1 rfl (by decide) (q_vret rfl rfl (bk_inl (v_ldcw (n := 2147483647) c_138_68 rfl (by decide +kernel) (q_istore c_138_71 (nb_ rfl) (q_iconst c_138_73 ?_)))))))
                      refine q_istore c_138_74 (nb_ rfl) (q_iconst c_138_76 (q_istore c_138_77 (nb_ rfl) (q_iconst c_138_79 (q_istore c_138_80 (nb_ rfl) (Wp_ls [(0, .ref 0), (1, vi a1), (2, vi a2), (3, vi a3), (4, vi a4), (5, vi a5), (6, vi a6), (7, vi 2147483647), (8, vi 0), (9, vi 0), (10, vi 0)] (lsub_cons rfl (lsub_cons rfl (lsub_cons rfl (lsub_cons rfl (lsub_cons rfl (lsub_cons rfl (lsub_cons rfl (lsub_cons rfl (lsub_cons rfl (lsub_cons rfl (lsub_cons rfl lsub_nil))))))))))) ?_)))))
                      exact (s_138_l (sc := sc) (d := d) hI ha1 ha2 ha3 ha4 ha5 ha6 T101 K 24) c 2147483647 0 0 0 hI (fun a j hm => rfl) ⟨by decide, by decide⟩ ⟨by decide, by decide⟩ ⟨by decide, by decide⟩ ⟨by decide, by decide⟩ ⟨by first | exact q_f19038599 h_25 | omega, by first | exact q_92a66bdad h_29 | omega⟩ ⟨by first | exact q_720657ba9 h_58 | omega, by first | exact q_3a2e67ab0 h_57 h_62 | omega⟩ ⟨by first | exact q_720657ba9 h_33 | omega, by first | exact q_7f2151846 h_37 | omega⟩ ⟨by first | exact q_f19038599 h_41 | omega, by first | exact q_1cdd54b12 h_45 | omega⟩ (by omega)

set_option maxRecDepth 100000 in
set_option maxHeartbeats 4000000 in
theorem s_139 {sc : List Int32} {d P Q : Nat} {c : ME} {Z : AR → Prop} (hI : Iv 0 (-1) P Q c)  (K : ∀ (c2 : ME) (y : Int), Iv 0 (-1) P Q c2 → (∀ (a : Nat) (j : Int), ¬ ((a = 0 ∧ j = 11) ∨ (a = 3 ∧ j = 3) ∨ a = 38) → c2 a j = c a j) → (-1) ≤ y ∧ y ≤ 16 → ((c 3 3 = 0 ∧ c2 3 3 = 0 ∧ y = (-1)) ∨ (c 3 3 > 0 ∧ c2 3 3 = c 3 3 - 1 ∧ y = c2 3 3)) → Z (.inl (some (vi y)), Wd P Q P P c2, 0, 0)) : Wp sc (d + 8) 139 0 [(0, .ref 0)] [] (Wd P Q P P c) 0 0 Z := by
  have hP := iv_P hI
  have hQ := iv_Q hI
  refine q_aload_n c_139_0 rfl (v_gr (t := 3) c_139_1 kf_7_19 rfl (nb_ rfl) rfl ?_)
  have h_1 := ir_3_3 hI
  refine v_gi (z := 3) (v := c 3 3) c_139_4 kf_7_312 rfl (nb_ rfl) rfl rfl rfl ?_
  by_cases h_2 : c 3 3 ≠ 0
  · refine v_if_ne_t (t := 12) c_139_7 rfl ⟨h_2, ⟨(Int.le_trans (by decide) h_1.1), (Int.le_trans h_1.2 (by decide))⟩, by decide, by decide⟩ (q_aload_n c_139_12 rfl (v_gr (t := 3) c_139_13 kf_7_19 rfl (nb_ rfl) rfl (q_aload_n c_139_16 rfl (v_gr (t := 37) c_139_17 kf_7_62 rfl (nb_ rfl) rfl (v_cv c_139_20 km_7_315 rfl rfl (nb_ rfl) ⟨⟨rfl, rfl⟩, nb_ rfl, rfl⟩ (nb_ rfl) (nb_ rfl) (s_25 hI (fun c_3 hI_4 hF_5 h_6 => (bk_inl ?_))))))))
    have h_7 := ir_3_3 hI_4
    refine q_aload_n c_139_23 rfl (q_iconst c_139_24 (v_pi (z := 11) c_139_25 kf_7_99 rfl (nb_ rfl) rfl rfl rfl (by decide) (q_aload_n c_139_28 rfl (v_gr (t := 3) c_139_29 kf_7_19 rfl (nb_ rfl) rfl (v_gi (z := 3) (v := c_3 3 3) c_139_32 kf_7_312 rfl (nb_ rfl) rfl rfl (up_c (nn rfl)) (q_iret c_139_35 rfl ?_))))))
    have hI_8 := iw_0_11 (v := 0) hI_4 ⟨by decide, by decide⟩
    have h_9 : (up c_3 0 11 0) 3 3 = c_3 3 3 := (up_c (nn rfl))
    exact K (up c_3 0 11 0) (c_3 3 3) hI_8 (fun a j hm => (up_b (Decidable.or_iff_not_imp_left.mpr (fun h1 h2 => hm (Or.inl ⟨Decidable.not_not.mp h1, h2⟩)))).trans (hF_5 a j (qv_af04ee6ad hm))) ⟨(Int.le_trans (by decide) h_7.1), h_7.2⟩ (Or.inr ⟨by first | exact q_69a2a74e5 h_1 h_2 | omega, by first | exact q_dc47330e3 h_2 h_6 h_7 | omega, by first | assumption | omega⟩)
  · refine v_if_ne_f (t := 12) c_139_7 rfl (Decidable.not_not.mp h_2) (q_iconst c_139_10 (q_iret c_139_11 rfl ?_))
    exact K c (-1) hI (fun a j hm => rfl) ⟨by decide, by decide⟩ (Or.inl ⟨by first | exact q_bb0e0e122 h_1 h_2 | omega, by first | exact q_bb0e0e122 h_1 h_2 | omega, by first | assumption | omega⟩)

set_option maxRecDepth 100000 in
set_option maxHeartbeats 4000000 in
theorem s_140 {sc : List Int32} {d P Q : Nat} {c : ME} {Z : AR → Prop} (hI : Iv 0 (-1) P Q c)  (K : ∀ (c2 : ME) (y : Int), Iv 0 (-1) P Q c2 → (∀ (a : Nat) (j : Int), ¬ ((a = 3 ∧ j = 4) ∨ a = 5 ∨ a = 6) → c2 a j = c a j) → (-1) ≤ y ∧ y ≤ 3 → ((c 3 4 = 3 ∧ c2 3 4 = 3 ∧ y = (-1)) ∨ (c 3 4 ≤ 2 ∧ c2 3 4 = c 3 4 + 1 ∧ y = c2 3 4)) → Z (.inl (some (vi y)), Wd P Q P P c2, 0, 0)) : Wp sc (d + 8) 140 0 [(0, .ref 0)] [] (Wd P Q P P c) 0 0 Z := by
  have hP := iv_P hI
  have hQ := iv_Q hI
  refine q_aload_n c_140_0 rfl (v_gr (t := 3) c_140_1 kf_7_19 rfl (nb_ rfl) rfl ?_)
  have h_1 := ir_3_4 hI
  refine v_gi (z := 4) (v := c 3 4) c_140_4 kf_7_318 rfl (nb_ rfl) rfl rfl rfl (q_iconst c_140_7 ?_)
  by_cases h_2 : c 3 4 ≠ 3
  · refine v_ic_ne_t (t := 13) c_140_8 rfl ⟨h_2, ⟨(Int.le_trans (by decide) h_1.1), (Int.le_trans h_1.2 (by decide))⟩, by decide, by decide⟩ (q_aload_n c_140_13 rfl (v_gr (t := 3) c_140_14 kf_7_19 rfl (nb_ rfl) rfl (q_aload_n c_140_17 rfl (v_gr (t := 37) c_140_18 kf_7_62 rfl (nb_ rfl) rfl (v_cv c_140_21 km_7_321 rfl rfl (nb_ rfl) ⟨⟨rfl, rfl⟩, nb_ rfl, rfl⟩ (nb_ rfl) (nb_ rfl) (s_26 hI (fun c_3 hI_4 hF_5 h_6 => (bk_inl ?_))))))))
    have h_7 := ir_3_4 hI_4
    refine q_aload_n c_140_24 rfl (v_gr (t := 3) c_140_25 kf_7_19 rfl (nb_ rfl) rfl (v_gi (z := 4) (v := c_3 3 4) c_140_28 kf_7_318 rfl (nb_ rfl) rfl rfl rfl (q_iret c_140_31 rfl ?_)))
    exact K c_3 (c_3 3 4) hI_4 (fun a j hm => hF_5 a j hm) ⟨(Int.le_trans (by decide) h_7.1), h_7.2⟩ (Or.inr ⟨by first | exact q_20607f14c h_1 h_2 | omega, by first | exact q_b1174609c h_2 h_6 h_7 | omega, by first | assumption | omega⟩)
  · refine v_ic_ne_f (t := 13) c_140_8 rfl (Decidable.not_not.mp h_2) (q_iconst c_140_11 (q_iret c_140_12 rfl ?_))
    exact K c (-1) hI (fun a j hm => rfl) ⟨by decide, by decide⟩ (Or.inl ⟨by first | exact q_f16cccee8 h_1 h_2 | omega, by first | exact q_f16cccee8 h_1 h_2 | omega, by first | assumption | omega⟩)

set_option maxRecDepth 100000 in
set_option maxHeartbeats 4000000 in
theorem s_141 {sc : List Int32} {d P Q : Nat} {c : ME} {Z : AR → Prop} (hI : Iv 0 (-1) P Q c)  (K : ∀ (c2 : ME) (y : Int), Iv 0 (-1) P Q c2 → (∀ (a : Nat) (j : Int), ¬ ((a = 0 ∧ j = 11) ∨ (a = 3 ∧ j = 3) ∨ (a = 3 ∧ j = 4) ∨ a = 38 ∨ a = 4) → c2 a j = c a j) → (-1) ≤ y ∧ y ≤ 3 → ((c 3 4 = 0 ∧ c2 3 4 = 0 ∧ y = (-1)) ∨ (c 3 4 > 0 ∧ c2 3 4 = c 3 4 - 1 ∧ y = c2 3 4)) → Z (.inl (some (vi y)), Wd P Q P P c2, 0, 0)) : Wp sc (d + 8) 141 0 [(0, .ref 0)] [] (Wd P Q P P c) 0 0 Z := by
  have hP := iv_P hI
  have hQ := iv_Q hI
  refine q_aload_n c_141_0 rfl (v_gr (t := 3) c_141_1 kf_7_19 rfl (nb_ rfl) rfl ?_)
  have h_1 := ir_3_4 hI
  refine v_gi (z := 4) (v := c 3 4) c_141_4 kf_7_318 rfl (nb_ rfl) rfl rfl rfl ?_
  by_cases h_2 : c 3 4 ≠ 0
  · refine v_if_ne_t (t := 12) c_141_7 rfl ⟨h_2, ⟨(Int.le_trans (by decide) h_1.1), (Int.le_trans h_1.2 (by decide))⟩, by decide, by decide⟩ (q_aload_n c_141_12 rfl (v_gr (t := 3) c_141_13 kf_7_19 rfl (nb_ rfl) rfl (q_aload_n c_141_16 rfl (v_gr (t := 37) c_141_17 kf_7_62 rfl (nb_ rfl) rfl (v_cv c_141_20 km_7_324 rfl rfl (nb_ rfl) ⟨⟨rfl, rfl⟩, nb_ rfl, rfl⟩ (nb_ rfl) (nb_ rfl) (s_27 hI (fun c_3 hI_4 hF_5 h_6 => (bk_inl ?_))))))))
    have h_7 := ir_3_4 hI_4
    refine q_aload_n c_141_23 rfl (q_iconst c_141_24 (v_pi (z := 11) c_141_25 kf_7_99 rfl (nb_ rfl) rfl rfl rfl (by decide) (q_aload_n c_141_28 rfl (v_gr (t := 3) c_141_29 kf_7_19 rfl (nb_ rfl) rfl (v_gi (z := 4) (v := c_3 3 4) c_141_32 kf_7_318 rfl (nb_ rfl) rfl rfl (up_c (nn rfl)) (q_iret c_141_35 rfl ?_))))))
    have hI_8 := iw_0_11 (v := 0) hI_4 ⟨by decide, by decide⟩
    have h_9 : (up c_3 0 11 0) 3 4 = c_3 3 4 := (up_c (nn rfl))
    exact K (up c_3 0 11 0) (c_3 3 4) hI_8 (fun a j hm => (up_b (Decidable.or_iff_not_imp_left.mpr (fun h1 h2 => hm (Or.inl ⟨Decidable.not_not.mp h1, h2⟩)))).trans (hF_5 a j (qv_fe551244a hm))) ⟨(Int.le_trans (by decide) h_7.1), h_7.2⟩ (Or.inr ⟨by first | exact q_c6195508a h_1 h_2 | omega, by first | exact q_17b2b3eb6 h_2 h_6 h_7 | omega, by first | assumption | omega⟩)
  · refine v_if_ne_f (t := 12) c_141_7 rfl (Decidable.not_not.mp h_2) (q_iconst c_141_10 (q_iret c_141_11 rfl ?_))
    exact K c (-1) hI (fun a j hm => rfl) ⟨by decide, by decide⟩ (Or.inl ⟨by first | exact q_163d1c5eb h_1 h_2 | omega, by first | exact q_163d1c5eb h_1 h_2 | omega, by first | assumption | omega⟩)

set_option maxRecDepth 100000 in
set_option maxHeartbeats 4000000 in
theorem s_142 {sc : List Int32} {e : Int} {d u P Q : Nat} {c : ME} {a1 : Int} {Z : AR → Prop} (hI : Iv u e P Q c) (ha1 : (-2147483648) ≤ a1 ∧ a1 ≤ 2147483647) (K : ∀ (y : Int), (-2147483648) ≤ y ∧ y ≤ 2147483647 → Z (.inl (some (vi y)), Wd P Q P P c, 0, 0)) : Wp sc (d + 7) 142 0 [(0, .ref 0), (1, vi a1)] [] (Wd P Q P P c) 0 0 Z := by
  have hP := iv_P hI
  have hQ := iv_Q hI
  refine q_iload_n c_142_0 rfl ?_
  by_cases h_1 : a1 = 0
  · refine v_lsw (t := 28) (off := 27) 0 c_142_1 (by omega) (by decide) (by decide) (by decide) (by decide) (q_aload_n c_142_28 rfl ?_)
    have h_2 := ir_0_12 hI
    refine v_gi (z := 12) (v := c 0 12) c_142_29 kf_7_327 rfl (nb_ rfl) rfl rfl rfl (q_iret c_142_32 rfl ?_)
    exact K (c 0 12) h_2
  by_cases h_3 : a1 = 1
  · refine v_lsw (t := 33) (off := 32) 1 c_142_1 (by omega) (by decide) (by decide) (by decide) (by decide) (q_aload_n c_142_33 rfl ?_)
    have h_4 := ir_0_13 hI
    refine v_gi (z := 13) (v := c 0 13) c_142_34 kf_7_330 rfl (nb_ rfl) rfl rfl rfl (q_iret c_142_37 rfl ?_)
    exact K (c 0 13) h_4
  refine v_lsw_o (t := 38) rfl (by omega) (by decide) (by simp [Op.lookupswitch.offset, Ne.symm (show a1 ≠ 0 by omega), Ne.symm (show a1 ≠ 1 by omega)]) (by decide) (q_iconst c_142_38 (q_iret c_142_39 rfl ?_))
  exact K (-1) ⟨by decide, by decide⟩

set_option maxRecDepth 100000 in
set_option maxHeartbeats 4000000 in
theorem s_143 {sc : List Int32} {e : Int} {d u P Q : Nat} {c : ME} {a1 : Int} {Z : AR → Prop} (hI : Iv u e P Q c) (ha1 : (-2147483648) ≤ a1 ∧ a1 ≤ 2147483647) (K : ∀ (y : Int), (-2147483648) ≤ y ∧ y ≤ 2147483647 → Z (.inl (some (vi y)), Wd P Q P P c, 0, 0)) : Wp sc (d + 7) 143 0 [(0, .ref 0), (1, vi a1)] [] (Wd P Q P P c) 0 0 Z := by
  have hP := iv_P hI
  have hQ := iv_Q hI
  refine q_iload_n c_143_0 rfl ?_
  by_cases h_1 : a1 = 0
  · skip
    refine v_tsw_i (t := 28) 0 c_143_1 (by omega) (by decide) rfl (by decide) (q_aload_n c_143_28 rfl (v_gr (t := 3) c_143_29 kf_7_19 rfl (nb_ rfl) rfl ?_))
    have h_2 := ir_3_4 hI
    refine v_gi (z := 4) (v := c 3 4) c_143_32 kf_7_318 rfl (nb_ rfl) rfl rfl rfl (q_iret c_143_35 rfl ?_)
    exact K (c 3 4) ⟨(Int.le_trans (by decide) h_2.1), (Int.le_trans h_2.2 (by decide))⟩
  by_cases h_3 : a1 = 1
  · skip
    refine v_tsw_i (t := 36) 1 rfl (by omega) (by decide) rfl (by decide) (q_aload_n c_143_36 rfl (v_gr (t := 1) c_143_37 kf_7_10 rfl (nb_ rfl) rfl ?_))
    have h_4 := ir_1_3 hI
    refine v_gi (z := 3) (v := c 1 3) c_143_40 kf_7_77 rfl (nb_ rfl) rfl rfl rfl (q_iret c_143_43 rfl ?_)
    exact K (c 1 3) ⟨(Int.le_trans (by decide) h_4.1), (Int.le_trans h_4.2 (by decide))⟩
  by_cases h_5 : a1 = 2
  · skip
    refine v_tsw_i (t := 44) 2 rfl (by omega) (by decide) rfl (by decide) (q_aload_n c_143_44 rfl (v_gr (t := 3) c_143_45 kf_7_19 rfl (nb_ rfl) rfl ?_))
    have h_6 := ir_3_3 hI
    refine v_gi (z := 3) (v := c 3 3) c_143_48 kf_7_312 rfl (nb_ rfl) rfl rfl rfl (q_iret c_143_51 rfl ?_)
    exact K (c 3 3) ⟨(Int.le_trans (by decide) h_6.1), (Int.le_trans h_6.2 (by decide))⟩
  refine v_tsw_o (t := 52) rfl (by omega) (by decide) (q_iconst c_143_52 (q_iret c_143_53 rfl ?_))
  exact K (-1) ⟨by decide, by decide⟩

set_option maxRecDepth 100000 in
set_option maxHeartbeats 4000000 in
theorem s_147 {sc : List Int32} {e : Int} {d u P Q : Nat} {c : ME} {Z : AR → Prop} (hI : Iv u e P Q c)  (K : ∀ (c2 : ME), Iv u e P Q c2 → (∀ (a : Nat) (j : Int), ¬ ((a = 41 ∧ j = 16) ∨ (a = 41 ∧ j = 17) ∨ (a = 41 ∧ j = 18) ∨ (a = 41 ∧ j = 19)) → c2 a j = c a j) → ((c2 41 16 = 0 ∧ c2 41 17 = 0 ∧ c2 41 18 = 0 ∧ c2 41 19 = 5)) → Z (.inl (none), Wd P Q P P c2, 0, 0)) : Wp sc (d + 7) 147 0 [(0, .ref 41)] [] (Wd P Q P P c) 0 0 Z := by
  have hP := iv_P hI
  have hQ := iv_Q hI
  refine q_aload_n c_147_0 rfl (q_iconst c_147_1 (v_pi (z := 16) c_147_2 kf_8_145 rfl (nb_ rfl) rfl rfl rfl (by decide) (q_aload_n c_147_5 rfl (q_iconst c_147_6 (v_pi (z := 17) c_147_7 kf_8_148 rfl (nb_ rfl) rfl rfl rfl (by decide) (q_aload_n c_147_10 rfl (q_iconst c_147_11 ?_)))))))
  refine v_pi (z := 18) c_147_12 kf_8_151 rfl (nb_ rfl) rfl rfl rfl (by decide) (q_aload_n c_147_15 rfl (q_iconst c_147_16 (v_pi (z := 19) c_147_17 kf_8_154 rfl (nb_ rfl) rfl rfl rfl (by decide) (q_vret rfl rfl ?_))))
  have hI_1 := iw_41_16 (v := 0) hI ⟨by decide, by decide⟩
  have hI_2 := iw_41_17 (v := 0) hI_1 ⟨by decide, by decide⟩
  have hI_3 := iw_41_18 (v := 0) hI_2 ⟨by decide, by decide⟩
  have hI_4 := iw_41_19 (v := 5) hI_3 ⟨by decide, by decide⟩
  have h_5 : (up (up (up (up c 41 16 0) 41 17 0) 41 18 0) 41 19 5) 41 16 = 0 := ((up_n (by decide)).trans ((up_n (by decide)).trans ((up_n (by decide)).trans (up_e rfl))))
  have h_6 : (up (up (up (up c 41 16 0) 41 17 0) 41 18 0) 41 19 5) 41 17 = 0 := ((up_n (by decide)).trans ((up_n (by decide)).trans (up_e rfl)))
  have h_7 : (up (up (up (up c 41 16 0) 41 17 0) 41 18 0) 41 19 5) 41 18 = 0 := ((up_n (by decide)).trans (up_e rfl))
  have h_8 : (up (up (up (up c 41 16 0) 41 17 0) 41 18 0) 41 19 5) 41 19 = 5 := (up_e rfl)
  exact K (up (up (up (up c 41 16 0) 41 17 0) 41 18 0) 41 19 5) hI_4 (fun a j hm => (up_b (Decidable.or_iff_not_imp_left.mpr (fun h1 h2 => hm (Or.inr (Or.inr (Or.inr ⟨Decidable.not_not.mp h1, h2⟩)))))).trans ((up_b (Decidable.or_iff_not_imp_left.mpr (fun h1 h2 => hm (Or.inr (Or.inr (Or.inl ⟨Decidable.not_not.mp h1, h2⟩)))))).trans ((up_b (Decidable.or_iff_not_imp_left.mpr (fun h1 h2 => hm (Or.inr (Or.inl ⟨Decidable.not_not.mp h1, h2⟩))))).trans (up_b (Decidable.or_iff_not_imp_left.mpr (fun h1 h2 => hm (Or.inl ⟨Decidable.not_not.mp h1, h2⟩))))))) ⟨by first | assumption | omega, by first | assumption | omega, by first | assumption | omega, by first | assumption | omega⟩


set_option maxRecDepth 100000 in
set_option maxHeartbeats 4000000 in
theorem s_149_l {sc : List Int32} {d P Q : Nat} {c : ME} {Z : AR → Prop} (hI : Iv 58 (-1) P Q c)  (K : ∀ (c2 : ME), Iv 0 (-1) P Q c2 → (∀ (a : Nat) (j : Int), ¬ ((a = 41 ∧ j = 20) ∨ (a = 41 ∧ j = 21) ∨ (a = 41 ∧ j = 22) ∨ (a = 41 ∧ j = 23) ∨ (a = 41 ∧ j = 30) ∨ (a = 41 ∧ j = 35) ∨ (a = 41 ∧ j = 36) ∨ (a = 41 ∧ j = 47) ∨ (a = 41 ∧ j = 48) ∨ (a = 41 ∧ j = 52) ∨ a = 47 ∨ a = 48 ∨ a = 49 ∨ a = 58 ∨ a = 64) → c2 a j = c a j) → ((c2 41 20 = c 41 16 ∧ c2 41 21 = c 41 17 ∧ c2 41 22 = c 41 18 ∧ c2 41 23 = c 41 19 ∧ c2 41 30 = 0 ∧ c2 41 35 = 0 ∧ c2 41 36 = 0 ∧ c2 41 47 = 0 ∧ c2 41 48 = 0 ∧ c2 41 52 = 0)) → Z (.inl (none), Wd P Q P P c2, 0, 0)) : ∀ n : Nat, (∀ (c2 : ME) (v1 : Int), Iv 58 (-1) P Q c2 → (∀ (a : Nat) (j : Int), ¬ ((a = 41 ∧ j = 20) ∨ (a = 41 ∧ j = 21) ∨ (a = 41 ∧ j = 22) ∨ (a = 41 ∧ j = 23) ∨ (a = 41 ∧ j = 30) ∨ (a = 41 ∧ j = 35) ∨ (a = 41 ∧ j = 36) ∨ (a = 41 ∧ j = 47) ∨ (a = 41 ∧ j = 48) ∨ (a = 41 ∧ j = 52) ∨ a = 47 ∨ a = 48 ∨ a = 49 ∨ a = 58 ∨ a = 64) → c2 a j = c a j) → 0 ≤ v1 ∧ v1 ≤ 4 → ((c2 41 20 = c 41 16 ∧ c2 41 21 = c 41 17 ∧ c2 41 22 = c 41 18 ∧ c2 41 23 = c 41 19 ∧ c2 41 30 = 0 ∧ c2 41 35 = 0 ∧ c2 41 36 = 0 ∧ c2 41 47 = 0 ∧ c2 41 48 = 0 ∧ c2 41 52 = 0)) → 137 - 2 * v1 < (n : Int) → Wp sc (d + 7) 149 105 [(0, .ref 41), (1, vi v1)] [] (Wd P Q P P c2) 0 0 Z) ∧ (∀ (c2 : ME) (v1 : Int), Iv 58 (-1) P Q c2 → (∀ (a : Nat) (j : Int), ¬ ((a = 41 ∧ j = 20) ∨ (a = 41 ∧ j = 21) ∨ (a = 41 ∧ j = 22) ∨ (a = 41 ∧ j = 23) ∨ (a = 41 ∧ j = 30) ∨ (a = 41 ∧ j = 35) ∨ (a = 41 ∧ j = 36) ∨ (a = 41 ∧ j = 47) ∨ (a = 41 ∧ j = 48) ∨ (a = 41 ∧ j = 52) ∨ a = 47 ∨ a = 48 ∨ a = 49 ∨ a = 58 ∨ a = 64) → c2 a j = c a j) → 0 ≤ v1 ∧ v1 ≤ 37 → (∀ j : Int, 0 ≤ j → j < v1 → j < 24 → c2 58 j ≤ 999) → ((c2 41 20 = c 41 16 ∧ c2 41 21 = c 41 17 ∧ c2 41 22 = c 41 18 ∧ c2 41 23 = c 41 19 ∧ c2 41 30 = 0 ∧ c2 41 35 = 0 ∧ c2 41 36 = 0 ∧ c2 41 47 = 0 ∧ c2 41 48 = 0 ∧ c2 41 52 = 0)) → 126 - 2 * v1 < (n : Int) → Wp sc (d + 7) 149 125 [(0, .ref 41), (1, vi v1)] [] (Wd P Q P P c2) 0 0 Z) ∧ (∀ (c2 : ME) (v1 : Int), Iv 58 (-1) P Q c2 → (∀ (a : Nat) (j : Int), ¬ ((a = 41 ∧ j = 20) ∨ (a = 41 ∧ j = 21) ∨ (a = 41 ∧ j = 22) ∨ (a = 41 ∧ j = 23) ∨ (a = 41 ∧ j = 30) ∨ (a = 41 ∧ j = 35) ∨ (a = 41 ∧ j = 36) ∨ (a = 41 ∧ j = 47) ∨ (a = 41 ∧ j = 48) ∨ (a = 41 ∧ j = 52) ∨ a = 47 ∨ a = 48 ∨ a = 49 ∨ a = 58 ∨ a = 64) → c2 a j = c a j) → 0 ≤ v1 ∧ v1 ≤ 24 → (∀ j : Int, 0 ≤ j → j < 24 → j < 24 → c2 58 j ≤ 999) → ((c2 41 20 = c 41 16 ∧ c2 41 21 = c 41 17 ∧ c2 41 22 = c 41 18 ∧ c2 41 23 = c 41 19 ∧ c2 41 30 = 0 ∧ c2 41 35 = 0 ∧ c2 41 36 = 0 ∧ c2 41 47 = 0 ∧ c2 41 48 = 0 ∧ c2 41 52 = 0)) → 49 - 2 * v1 < (n : Int) → Wp sc (d + 7) 149 146 [(0, .ref 41), (1, vi v1)] [] (Wd P Q P P c2) 0 0 Z) := by
  intro n
  induction n with
  | zero => exact (by exact ⟨by (intro c2 v1 hI2 hF hv1 hx0 hm9; have hP := iv_P hI; have hQ := iv_Q hI; exfalso; omega), by (intro c2 v1 hI2 hF hv1 hx0 hx1 hm9; have hP := iv_P hI; have hQ := iv_Q hI; exfalso; omega), by (intro c2 v1 hI2 hF hv1 hx0 hx1 hm9; have hP := iv_P hI; have hQ := iv_Q hI; exfalso; omega)⟩)
  | succ n ih =>
    have hP := iv_P hI
    have hQ := iv_Q hI
    refine ⟨?_, ?_, ?_⟩
    · skip
      intro c2 v1 hI2 hF hv1 hx0 hm9
      have h_1 := ir_41_16 hI
      have h_2 := ir_41_17 hI
      have h_3 := ir_41_18 hI
      have h_4 := ir_41_19 hI
      have h_5 := ir_41_20 hI2
      have h_6 := ir_41_21 hI2
      have h_7 := ir_41_22 hI2
      have h_8 := ir_41_23 hI2
      have h_9 := ir_41_30 hI2
      have h_10 := ir_41_35 hI2
      have h_11 := ir_41_36 hI2
      have h_12 := ir_41_47 hI2
      have h_13 := ir_41_48 hI2
      have h_14 := ir_41_52 hI2
      refine q_iload_n c_149_105 rfl (q_iconst c_149_106 ?_)
      by_cases h_15 : v1 ≥ 4
      · refine v_ic_ge_t (t := 123) c_149_107 rfl ⟨by decide, h_15, (Int.le_trans hv1.2 (by decide))⟩ (q_iconst c_149_123 (q_istore_n c_149_124 (nb_ rfl) (Wp_ls [(0, .ref 41), (1, vi 0)] (lsub_cons rfl (lsub_cons rfl lsub_nil)) ?_)))
        have hr_16 : ∀ j : Int, 0 ≤ j → j < 0 → j < 24 → c2 58 j ≤ 999 := by
          intro j hj1 hj2 hj3
          omega
        exact ih.2.1 c2 0 hI2 (fun a j hm => hF a j hm) ⟨by decide, by decide⟩ hr_16 ⟨by first | (clear hv1 h_1 h_2 h_3 h_4 h_5 h_6 h_7 h_8 h_9 h_10 h_11 h_12 h_13 h_14 h_15; omega) | omega, by first | (clear hv1 h_1 h_2 h_3 h_4 h_5 h_6 h_7 h_8 h_9 h_10 h_11 h_12 h_13 h_14 h_15; omega) | omega, by first | (clear hv1 h_1 h_2 h_3 h_4 h_5 h_6 h_7 h_8 h_9 h_10 h_11 h_12 h_13 h_14 h_15; omega) | omega, by first | (clear hv1 h_1 h_2 h_3 h_4 h_5 h_6 h_7 h_8 h_9 h_10 h_11 h_12 h_13 h_14 h_15; omega) | omega, by first | (clear hv1 h_1 h_2 h_3 h_4 h_5 h_6 h_7 h_8 h_9 h_10 h_11 h_12 h_13 h_14 h_15; omega) | omega, by first | (clear hv1 h_1 h_2 h_3 h_4 h_5 h_6 h_7 h_8 h_9 h_10 h_11 h_12 h_13 h_14 h_15; omega) | omega, by first | (clear hv1 h_1 h_2 h_3 h_4 h_5 h_6 h_7 h_8 h_9 h_10 h_11 h_12 h_13 h_14 h_15; omega) | omega, by first | (clear hv1 h_1 h_2 h_3 h_4 h_5 h_6 h_7 h_8 h_9 h_10 h_11 h_12 h_13 h_14 h_15; omega) | omega, by first | (clear hv1 h_1 h_2 h_3 h_4 h_5 h_6 h_7 h_8 h_9 h_10 h_11 h_12 h_13 h_14 h_15; omega) | omega, by first | (clear hv1 h_1 h_2 h_3 h_4 h_5 h_6 h_7 h_8 h_9 h_10 h_11 h_12 h_13 h_14 h_15; omega) | omega⟩ (by omega)
      · refine v_ic_ge_f (t := 123) c_149_107 rfl ⟨(Int.le_trans (by decide) hv1.1), (Int.not_le.mp h_15), by decide⟩ (q_aload_n c_149_110 rfl (v_gr (t := 64) c_149_111 kf_8_83 rfl (nb_ rfl) rfl (q_iload_n c_149_114 rfl (q_iconst c_149_115 (v_is c_149_116 rfl (by decide) (by decide) ⟨hv1.1, by first | exact q_2e808647e h_15 | omega⟩ (v_iinc (v := v1 + 1) c_149_117 rfl (nb_ rfl) rfl (q_goto (t := 105) c_149_120 rfl ?_)))))))
        have hI_17 := iw_64 (j := v1) (v := (-1)) hI2 ⟨by decide, by decide⟩
        refine Wp_ls [(0, .ref 41), (1, vi (v1 + 1))] (lsub_cons rfl (lsub_cons rfl lsub_nil)) ?_
        have h_18 : (up c2 64 v1 (-1)) 41 20 = c2 41 20 := (up_c (nn rfl))
        have h_19 : (up c2 64 v1 (-1)) 41 21 = c2 41 21 := (up_c (nn rfl))
        have h_20 : (up c2 64 v1 (-1)) 41 22 = c2 41 22 := (up_c (nn rfl))
        have h_21 : (up c2 64 v1 (-1)) 41 23 = c2 41 23 := (up_c (nn rfl))
        have h_22 : (up c2 64 v1 (-1)) 41 30 = c2 41 30 := (up_c (nn rfl))
        have h_23 : (up c2 64 v1 (-1)) 41 35 = c2 41 35 := (up_c (nn rfl))
        have h_24 : (up c2 64 v1 (-1)) 41 36 = c2 41 36 := (up_c (nn rfl))
        have h_25 : (up c2 64 v1 (-1)) 41 47 = c2 41 47 := (up_c (nn rfl))
        have h_26 : (up c2 64 v1 (-1)) 41 48 = c2 41 48 := (up_c (nn rfl))
        have h_27 : (up c2 64 v1 (-1)) 41 52 = c2 41 52 := (up_c (nn rfl))
        exact ih.1 (up c2 64 v1 (-1)) (v1 + 1) hI_17 (fun a j hm => (up_b (Decidable.or_iff_not_imp_left.mpr (fun h1 h2 => hm (Or.inr (Or.inr (Or.inr (Or.inr (Or.inr (Or.inr (Or.inr (Or.inr (Or.inr (Or.inr (Or.inr (Or.inr (Or.inr (Or.inr (Decidable.not_not.mp h1)))))))))))))))))).trans (hF a j hm)) ⟨by first | exact rgp_l hv1.1 (by decide) | omega, by first | exact q_121241f94 h_15 | omega⟩ ⟨by first | (clear hv1 h_1 h_2 h_3 h_4 h_5 h_6 h_7 h_8 h_9 h_10 h_11 h_12 h_13 h_14 h_15; omega) | omega, by first | (clear hv1 h_1 h_2 h_3 h_4 h_5 h_6 h_7 h_8 h_9 h_10 h_11 h_12 h_13 h_14 h_15; omega) | omega, by first | (clear hv1 h_1 h_2 h_3 h_4 h_5 h_6 h_7 h_8 h_9 h_10 h_11 h_12 h_13 h_14 h_15; omega) | omega, by first | (clear hv1 h_1 h_2 h_3 h_4 h_5 h_6 h_7 h_8 h_9 h_10 h_11 h_12 h_13 h_14 h_15; omega) | omega, by first | (clear hv1 h_1 h_2 h_3 h_4 h_5 h_6 h_7 h_8 h_9 h_10 h_11 h_12 h_13 h_14 h_15; omega) | omega, by first | (clear hv1 h_1 h_2 h_3 h_4 h_5 h_6 h_7 h_8 h_9 h_10 h_11 h_12 h_13 h_14 h_15; omega) | omega, by first | (clear hv1 h_1 h_2 h_3 h_4 h_5 h_6 h_7 h_8 h_9 h_10 h_11 h_12 h_13 h_14 h_15; omega) | omega, by first | (clear hv1 h_1 h_2 h_3 h_4 h_5 h_6 h_7 h_8 h_9 h_10 h_11 h_12 h_13 h_14 h_15; omega) | omega, by first | (clear hv1 h_1 h_2 h_3 h_4 h_5 h_6 h_7 h_8 h_9 h_10 h_11 h_12 h_13 h_14 h_15; omega) | omega, by first | (clear hv1 h_1 h_2 h_3 h_4 h_5 h_6 h_7 h_8 h_9 h_10 h_11 h_12 h_13 h_14 h_15; omega) | omega⟩ (by omega)
    · skip
      intro c2 v1 hI2 hF hv1 hx0 hx1 hm9
      have h_28 := ir_41_16 hI
      have h_29 := ir_41_17 hI
      have h_30 := ir_41_18 hI
      have h_31 := ir_41_19 hI
      have h_32 := ir_41_20 hI2
      have h_33 := ir_41_21 hI2
      have h_34 := ir_41_22 hI2
      have h_35 := ir_41_23 hI2
      have h_36 := ir_41_30 hI2
      have h_37 := ir_41_35 hI2
      have h_38 := ir_41_36 hI2
      have h_39 := ir_41_47 hI2
      have h_40 := ir_41_48 hI2
      have h_41 := ir_41_52 hI2
      refine q_iload_n c_149_125 rfl (v_bip c_149_126 (by decide) ?_)
      by_cases h_42 : v1 ≥ 37
      · refine v_ic_ge_t (t := 144) c_149_128 rfl ⟨by decide, h_42, (Int.le_trans hv1.2 (by decide))⟩ (q_iconst c_149_144 (q_istore_n c_149_145 (nb_ rfl) (Wp_ls [(0, .ref 41), (1, vi 0)] (lsub_cons rfl (lsub_cons rfl lsub_nil)) ?_)))
        have hr_43 : ∀ j : Int, 0 ≤ j → j < 24 → j < 24 → c2 58 j ≤ 999 := fun j h1 h2 h3 => hx0 j h1 (by omega) h3
        exact ih.2.2 c2 0 hI2 (fun a j hm => hF a j hm) ⟨by decide, by decide⟩ hr_43 ⟨by first | (clear hv1 h_28 h_29 h_30 h_31 h_32 h_33 h_34 h_35 h_36 h_37 h_38 h_39 h_40 h_41 h_42; omega) | omega, by first | (clear hv1 h_28 h_29 h_30 h_31 h_32 h_33 h_34 h_35 h_36 h_37 h_38 h_39 h_40 h_41 h_42; omega) | omega, by first | (clear hv1 h_28 h_29 h_30 h_31 h_32 h_33 h_34 h_35 h_36 h_37 h_38 h_39 h_40 h_41 h_42; omega) | omega, by first | (clear hv1 h_28 h_29 h_30 h_31 h_32 h_33 h_34 h_35 h_36 h_37 h_38 h_39 h_40 h_41 h_42; omega) | omega, by first | (clear hv1 h_28 h_29 h_30 h_31 h_32 h_33 h_34 h_35 h_36 h_37 h_38 h_39 h_40 h_41 h_42; omega) | omega, by first | (clear hv1 h_28 h_29 h_30 h_31 h_32 h_33 h_34 h_35 h_36 h_37 h_38 h_39 h_40 h_41 h_42; omega) | omega, by first | (clear hv1 h_28 h_29 h_30 h_31 h_32 h_33 h_34 h_35 h_36 h_37 h_38 h_39 h_40 h_41 h_42; omega) | omega, by first | (clear hv1 h_28 h_29 h_30 h_31 h_32 h_33 h_34 h_35 h_36 h_37 h_38 h_39 h_40 h_41 h_42; omega) | omega, by first | (clear hv1 h_28 h_29 h_30 h_31 h_32 h_33 h_34 h_35 h_36 h_37 h_38 h_39 h_40 h_41 h_42; omega) | omega, by first | (clear hv1 h_28 h_29 h_30 h_31 h_32 h_33 h_34 h_35 h_36 h_37 h_38 h_39 h_40 h_41 h_42; omega) | omega⟩ (by omega)
      · refine v_ic_ge_f (t := 144) c_149_128 rfl ⟨(Int.le_trans (by decide) hv1.1), (Int.not_le.mp h_42), by decide⟩ (q_aload_n c_149_131 rfl (v_gr (t := 58) c_149_132 kf_8_65 rfl (nb_ rfl) rfl (q_iload_n c_149_135 rfl (q_iconst c_149_136 (v_is c_149_137 rfl (by decide) (by decide) ⟨hv1.1, by first | exact q_3cc4a238e h_42 | omega⟩ (v_iinc (v := v1 + 1) c_149_138 rfl (nb_ rfl) rfl (q_goto (t := 125) c_149_141 rfl ?_)))))))
        have hI_44 := iwr0 (a := 58) (j := v1) (v := 0) hI2 (by decide) ⟨by decide, by decide⟩
        refine Wp_ls [(0, .ref 41), (1, vi (v1 + 1))] (lsub_cons rfl (lsub_cons rfl lsub_nil)) ?_
        have h_45 : (up c2 58 v1 0) 41 20 = c2 41 20 := (up_c (nn rfl))
        have h_46 : (up c2 58 v1 0) 41 21 = c2 41 21 := (up_c (nn rfl))
        have h_47 : (up c2 58 v1 0) 41 22 = c2 41 22 := (up_c (nn rfl))
        have h_48 : (up c2 58 v1 0) 41 23 = c2 41 23 := (up_c (nn rfl))
        have h_49 : (up c2 58 v1 0) 41 30 = c2 41 30 := (up_c (nn rfl))
        have h_50 : (up c2 58 v1 0) 41 35 = c2 41 35 := (up_c (nn rfl))
        have h_51 : (up c2 58 v1 0) 41 36 = c2 41 36 := (up_c (nn rfl))
        have h_52 : (up c2 58 v1 0) 41 47 = c2 41 47 := (up_c (nn rfl))
        have h_53 : (up c2 58 v1 0) 41 48 = c2 41 48 := (up_c (nn rfl))
        have h_54 : (up c2 58 v1 0) 41 52 = c2 41 52 := (up_c (nn rfl))
        have hr_55 : ∀ j : Int, 0 ≤ j → j < v1 + 1 → j < 24 → (up c2 58 v1 0) 58 j ≤ 999 := by
          intro j hj1 hj2 hj3
          by_cases e9 : j = v1
          · have q9 : (up c2 58 v1 0) 58 j = 0 := up_e e9
            rw [q9]
            omega
          · have q9 : (up c2 58 v1 0) 58 j = c2 58 j := up_n e9
            rw [q9]
            exact hx0 j hj1 (by omega) hj3
        exact ih.2.1 (up c2 58 v1 0) (v1 + 1) hI_44 (fun a j hm => (up_b (Decidable.or_iff_not_imp_left.mpr (fun h1 h2 => hm (Or.inr (Or.inr (Or.inr (Or.inr (Or.inr (Or.inr (Or.inr (Or.inr (Or.inr (Or.inr (Or.inr (Or.inr (Or.inr (Or.inl (Decidable.not_not.mp h1)))))))))))))))))).trans (hF a j hm)) ⟨by first | exact rgp_l hv1.1 (by decide) | omega, by first | exact q_6a0ddf4b6 h_42 | omega⟩ hr_55 ⟨by first | (clear hv1 h_28 h_29 h_30 h_31 h_32 h_33 h_34 h_35 h_36 h_37 h_38 h_39 h_40 h_41 h_42; omega) | omega, by first | (clear hv1 h_28 h_29 h_30 h_31 h_32 h_33 h_34 h_35 h_36 h_37 h_38 h_39 h_40 h_41 h_42; omega) | omega, by first | (clear hv1 h_28 h_29 h_30 h_31 h_32 h_33 h_34 h_35 h_36 h_37 h_38 h_39 h_40 h_41 h_42; omega) | omega, by first | (clear hv1 h_28 h_29 h_30 h_31 h_32 h_33 h_34 h_35 h_36 h_37 h_38 h_39 h_40 h_41 h_42; omega) | omega, by first | (clear hv1 h_28 h_29 h_30 h_31 h_32 h_33 h_34 h_35 h_36 h_37 h_38 h_39 h_40 h_41 h_42; omega) | omega, by first | (clear hv1 h_28 h_29 h_30 h_31 h_32 h_33 h_34 h_35 h_36 h_37 h_38 h_39 h_40 h_41 h_42; omega) | omega, by first | (clear hv1 h_28 h_29 h_30 h_31 h_32 h_33 h_34 h_35 h_36 h_37 h_38 h_39 h_40 h_41 h_42; omega) | omega, by first | (clear hv1 h_28 h_29 h_30 h_31 h_32 h_33 h_34 h_35 h_36 h_37 h_38 h_39 h_40 h_41 h_42; omega) | omega, by first | (clear hv1 h_28 h_29 h_30 h_31 h_32 h_33 h_34 h_35 h_36 h_37 h_38 h_39 h_40 h_41 h_42; omega) | omega, by first | (clear hv1 h_28 h_29 h_30 h_31 h_32 h_33 h_34 h_35 h_36 h_37 h_38 h_39 h_40 h_41 h_42; omega) | omega⟩ (by omega)
    · skip
      intro c2 v1 hI2 hF hv1 hx0 hx1 hm9
      have h_56 := ir_41_16 hI
      have h_57 := ir_41_17 hI
      have h_58 := ir_41_18 hI
      have h_59 := ir_41_19 hI
      have h_60 := ir_41_20 hI2
      have h_61 := ir_41_21 hI2
      have h_62 := ir_41_22 hI2
      have h_63 := ir_41_23 hI2
      have h_64 := ir_41_30 hI2
      have h_65 := ir_41_35 hI2
      have h_66 := ir_41_36 hI2
      have h_67 := ir_41_47 hI2
      have h_68 := ir_41_48 hI2
      have h_69 := ir_41_52 hI2
      refine q_iload_n c_149_146 rfl (q_iconst c_149_147 (q_aload_n c_149_148 rfl (v_gi (z := 20) (v := c2 41 20) c_149_149 kf_8_157 rfl (nb_ rfl) rfl rfl rfl (v_imul (v := 4 * c2 41 20) c_149_152 (by first | exact q_4654d868a | omega) ?_))))
      by_cases h_70 : v1 ≥ 4 * c2 41 20
      · refine v_ic_ge_t (t := 174) c_149_153 rfl ⟨by first | exact q_4cd384ca3 h_60 | omega, h_70, (Int.le_trans hv1.2 (by decide))⟩ (q_vret rfl rfl ?_)
        have hI_71 := iv_close hI2 (fun j hj => by
          have q9 : j % 4 = 0 ∧ 0 ≤ j ∧ j < 24 := hj
          have q0 := hx0 j (by omega) (by omega) (by omega)
          have q1 := hx0 (j + 1) (by omega) (by omega) (by omega)
          have q2 := hx0 (j + 2) (by omega) (by omega) (by omega)
          have q3 := hx0 (j + 3) (by omega) (by omega) (by omega)
          omega)
        exact K c2 hI_71 (fun a j hm => hF a j hm) ⟨by first | (clear hv1 h_56 h_57 h_58 h_59 h_60 h_61 h_62 h_63 h_64 h_65 h_66 h_67 h_68 h_69 h_70; omega) | omega, by first | (clear hv1 h_56 h_57 h_58 h_59 h_60 h_61 h_62 h_63 h_64 h_65 h_66 h_67 h_68 h_69 h_70; omega) | omega, by first | (clear hv1 h_56 h_57 h_58 h_59 h_60 h_61 h_62 h_63 h_64 h_65 h_66 h_67 h_68 h_69 h_70; omega) | omega, by first | (clear hv1 h_56 h_57 h_58 h_59 h_60 h_61 h_62 h_63 h_64 h_65 h_66 h_67 h_68 h_69 h_70; omega) | omega, by first | (clear hv1 h_56 h_57 h_58 h_59 h_60 h_61 h_62 h_63 h_64 h_65 h_66 h_67 h_68 h_69 h_70; omega) | omega, by first | (clear hv1 h_56 h_57 h_58 h_59 h_60 h_61 h_62 h_63 h_64 h_65 h_66 h_67 h_68 h_69 h_70; omega) | omega, by first | (clear hv1 h_56 h_57 h_58 h_59 h_60 h_61 h_62 h_63 h_64 h_65 h_66 h_67 h_68 h_69 h_70; omega) | omega, by first | (clear hv1 h_56 h_57 h_58 h_59 h_60 h_61 h_62 h_63 h_64 h_65 h_66 h_67 h_68 h_69 h_70; omega) | omega, by first | (clear hv1 h_56 h_57 h_58 h_59 h_60 h_61 h_62 h_63 h_64 h_65 h_66 h_67 h_68 h_69 h_70; omega) | omega, by first | (clear hv1 h_56 h_57 h_58 h_59 h_60 h_61 h_62 h_63 h_64 h_65 h_66 h_67 h_68 h_69 h_70; omega) | omega⟩
      · refine v_ic_ge_f (t := 174) c_149_153 rfl ⟨(Int.le_trans (by decide) hv1.1), (Int.not_le.mp h_70), by first | exact q_959592613 h_60 | omega⟩ (q_aload_n c_149_156 rfl (v_gr (t := 58) c_149_157 kf_8_65 rfl (nb_ rfl) rfl (q_iload_n c_149_160 rfl (q_aload_n c_149_161 rfl (v_gr (t := 47) c_149_162 kf_8_32 rfl (nb_ rfl) rfl (q_iload_n c_149_165 rfl ?_))))))
        have h_72 := ir_47 hI2 v1
        refine v_ia (v := c2 47 v1) c_149_166 rfl (by decide) (by decide) ⟨hv1.1, by first | exact q_b6dd10c5c h_60 h_70 | omega⟩ rfl (v_is c_149_167 rfl (by decide) (by decide) ⟨hv1.1, by first | exact q_192ae6d23 hv1 | omega⟩ (v_iinc (v := v1 + 1) c_149_168 rfl (nb_ rfl) rfl (q_goto (t := 146) c_149_171 rfl ?_)))
        have hI_73 := iwr0 (a := 58) (j := v1) (v := c2 47 v1) hI2 (by decide) ⟨h_72.1, (Int.le_trans h_72.2 (by decide))⟩
        refine Wp_ls [(0, .ref 41), (1, vi (v1 + 1))] (lsub_cons rfl (lsub_cons rfl lsub_nil)) ?_
        have h_74 : (up c2 58 v1 (c2 47 v1)) 41 20 = c2 41 20 := (up_c (nn rfl))
        have h_75 : (up c2 58 v1 (c2 47 v1)) 41 21 = c2 41 21 := (up_c (nn rfl))
        have h_76 : (up c2 58 v1 (c2 47 v1)) 41 22 = c2 41 22 := (up_c (nn rfl))
        have h_77 : (up c2 58 v1 (c2 47 v1)) 41 23 = c2 41 23 := (up_c (nn rfl))
        have h_78 : (up c2 58 v1 (c2 47 v1)) 41 30 = c2 41 30 := (up_c (nn rfl))
        have h_79 : (up c2 58 v1 (c2 47 v1)) 41 35 = c2 41 35 := (up_c (nn rfl))
        have h_80 : (up c2 58 v1 (c2 47 v1)) 41 36 = c2 41 36 := (up_c (nn rfl))
        have h_81 : (up c2 58 v1 (c2 47 v1)) 41 47 = c2 41 47 := (up_c (nn rfl))
        have h_82 : (up c2 58 v1 (c2 47 v1)) 41 48 = c2 41 48 := (up_c (nn rfl))
        have h_83 : (up c2 58 v1 (c2 47 v1)) 41 52 = c2 41 52 := (up_c (nn rfl))
        have hr_84 : ∀ j : Int, 0 ≤ j → j < 24 → j < 24 → (up c2 58 v1 (c2 47 v1)) 58 j ≤ 999 := by
          intro j hj1 hj2 hj3
          by_cases e9 : j = v1
          · have q9 : (up c2 58 v1 (c2 47 v1)) 58 j = c2 47 v1 := up_e e9
            rw [q9]
            omega
          · have q9 : (up c2 58 v1 (c2 47 v1)) 58 j = c2 58 j := up_n e9
            rw [q9]
            exact hx0 j hj1 (by omega) hj3
        exact ih.2.2 (up c2 58 v1 (c2 47 v1)) (v1 + 1) hI_73 (fun a j hm => (up_b (Decidable.or_iff_not_imp_left.mpr (fun h1 h2 => hm (Or.inr (Or.inr (Or.inr (Or.inr (Or.inr (Or.inr (Or.inr (Or.inr (Or.inr (Or.inr (Or.inr (Or.inr (Or.inr (Or.inl (Decidable.not_not.mp h1)))))))))))))))))).trans (hF a j hm)) ⟨by first | exact rgp_l hv1.1 (by decide) | omega, by first | exact q_798f64f00 h_60 h_70 | omega⟩ hr_84 ⟨by first | (clear hv1 h_56 h_57 h_58 h_59 h_60 h_61 h_62 h_63 h_64 h_65 h_66 h_67 h_68 h_69 h_70 h_72; omega) | omega, by first | (clear hv1 h_56 h_57 h_58 h_59 h_60 h_61 h_62 h_63 h_64 h_65 h_66 h_67 h_68 h_69 h_70 h_72; omega) | omega, by first | (clear hv1 h_56 h_57 h_58 h_59 h_60 h_61 h_62 h_63 h_64 h_65 h_66 h_67 h_68 h_69 h_70 h_72; omega) | omega, by first | (clear hv1 h_56 h_57 h_58 h_59 h_60 h_61 h_62 h_63 h_64 h_65 h_66 h_67 h_68 h_69 h_70 h_72; omega) | omega, by first | (clear hv1 h_56 h_57 h_58 h_59 h_60 h_61 h_62 h_63 h_64 h_65 h_66 h_67 h_68 h_69 h_70 h_72; omega) | omega, by first | (clear hv1 h_56 h_57 h_58 h_59 h_60 h_61 h_62 h_63 h_64 h_65 h_66 h_67 h_68 h_69 h_70 h_72; omega) | omega, by first | (clear hv1 h_56 h_57 h_58 h_59 h_60 h_61 h_62 h_63 h_64 h_65 h_66 h_67 h_68 h_69 h_70 h_72; omega) | omega, by first | (clear hv1 h_56 h_57 h_58 h_59 h_60 h_61 h_62 h_63 h_64 h_65 h_66 h_67 h_68 h_69 h_70 h_72; omega) | omega, by first | (clear hv1 h_56 h_57 h_58 h_59 h_60 h_61 h_62 h_63 h_64 h_65 h_66 h_67 h_68 h_69 h_70 h_72; omega) | omega, by first | (clear hv1 h_56 h_57 h_58 h_59 h_60 h_61 h_62 h_63 h_64 h_65 h_66 h_67 h_68 h_69 h_70 h_72; omega) | omega⟩ (by omega)
set_option maxRecDepth 100000 in
set_option maxHeartbeats 4000000 in
theorem s_149 {sc : List Int32} {d P Q : Nat} {c : ME} {Z : AR → Prop} (hI : Iv 58 (-1) P Q c)  (K : ∀ (c2 : ME), Iv 0 (-1) P Q c2 → (∀ (a : Nat) (j : Int), ¬ ((a = 41 ∧ j = 20) ∨ (a = 41 ∧ j = 21) ∨ (a = 41 ∧ j = 22) ∨ (a = 41 ∧ j = 23) ∨ (a = 41 ∧ j = 30) ∨ (a = 41 ∧ j = 35) ∨ (a = 41 ∧ j = 36) ∨ (a = 41 ∧ j = 47) ∨ (a = 41 ∧ j = 48) ∨ (a = 41 ∧ j = 52) ∨ a = 47 ∨ a = 48 ∨ a = 49 ∨ a = 58 ∨ a = 64) → c2 a j = c a j) → ((c2 41 20 = c 41 16 ∧ c2 41 21 = c 41 17 ∧ c2 41 22 = c 41 18 ∧ c2 41 23 = c 41 19 ∧ c2 41 30 = 0 ∧ c2 41 35 = 0 ∧ c2 41 36 = 0 ∧ c2 41 47 = 0 ∧ c2 41 48 = 0 ∧ c2 41 52 = 0)) → Z (.inl (none), Wd P Q P P c2, 0, 0)) : Wp sc (d + 7) 149 0 [(0, .ref 41)] [] (Wd P Q P P c) 0 0 Z := by
  have hP := iv_P hI
  have hQ := iv_Q hI
  refine q_aload_n c_149_0 rfl (q_aload_n c_149_1 rfl ?_)
  have h_85 := ir_41_16 hI
  refine v_gi (z := 16) (v := c 41 16) c_149_2 kf_8_145 rfl (nb_ rfl) rfl rfl rfl (v_pi (z := 20) c_149_5 kf_8_157 rfl (nb_ rfl) rfl rfl rfl (by decide) (q_aload_n c_149_8 rfl (q_aload_n c_149_9 rfl ?_)))
  have h_86 := ir_41_17 hI
  refine v_gi (z := 17) (v := c 41 17) c_149_10 kf_8_148 rfl (nb_ rfl) rfl rfl (up_n (by decide)) (v_pi (z := 21) c_149_13 kf_8_160 rfl (nb_ rfl) rfl rfl rfl (by decide) (q_aload_n c_149_16 rfl (q_aload_n c_149_17 rfl ?_)))
  have h_87 := ir_41_18 hI
  refine v_gi (z := 18) (v := c 41 18) c_149_18 kf_8_151 rfl (nb_ rfl) rfl rfl ((up_n (by decide)).trans (up_n (by decide))) (v_pi (z := 22) c_149_21 kf_8_163 rfl (nb_ rfl) rfl rfl rfl (by decide) (q_aload_n c_149_24 rfl (q_aload_n c_149_25 rfl ?_)))
  have h_88 := ir_41_19 hI
  refine v_gi (z := 19) (v := c 41 19) c_149_26 kf_8_154 rfl (nb_ rfl) rfl rfl ((up_n (by decide)).trans ((up_n (by decide)).trans (up_n (by decide)))) (v_pi (z := 23) c_149_29 kf_8_166 rfl (nb_ rfl) rfl rfl rfl (by decide) (q_aload_n c_149_32 rfl (q_aload_n c_149_33 rfl (v_gr (t := 44) c_149_34 kf_8_23 rfl (nb_ rfl) rfl (q_aload_n c_149_37 rfl (v_gr (t := 47) c_149_38 kf_8_32 rfl (nb_ rfl) rfl (v_bip c_149_41 (by decide) ?_)))))))
  refine v_cv c_149_43 km_8_169 rfl rfl (nb_ rfl) ⟨⟨rfl, rfl⟩, nb_ rfl, rfl⟩ (nb_ rfl) (nb_ rfl) (s_148 (f := 44) (t := 47) (nf := 24) (nt := 24) (n := 24) rfl rfl (by decide) (by decide) (by decide) (by decide) (by decide) (by omega) (bk_inl (q_aload_n c_149_46 rfl (q_aload_n c_149_47 rfl (v_gr (t := 45) c_149_48 kf_8_26 rfl (nb_ rfl) rfl (q_aload_n c_149_51 rfl (v_gr (t := 48) c_149_52 kf_8_35 rfl (nb_ rfl) rfl (v_bip c_149_55 (by decide) ?_))))))))
  refine v_cv c_149_57 km_8_169 rfl rfl (nb_ rfl) ⟨⟨rfl, rfl⟩, nb_ rfl, rfl⟩ (nb_ rfl) (nb_ rfl) (s_148 (f := 45) (t := 48) (nf := 12) (nt := 12) (n := 12) rfl rfl (by decide) (by decide) (by decide) (by decide) (by decide) (by omega) (bk_inl (q_aload_n c_149_60 rfl (q_aload_n c_149_61 rfl (v_gr (t := 46) c_149_62 kf_8_29 rfl (nb_ rfl) rfl (q_aload_n c_149_65 rfl (v_gr (t := 49) c_149_66 kf_8_38 rfl (nb_ rfl) rfl (q_iconst c_149_69 ?_))))))))
  refine v_cv c_149_70 km_8_169 rfl rfl (nb_ rfl) ⟨⟨rfl, rfl⟩, nb_ rfl, rfl⟩ (nb_ rfl) (nb_ rfl) (s_148 (f := 46) (t := 49) (nf := 4) (nt := 4) (n := 4) rfl rfl (by decide) (by decide) (by decide) (by decide) (by decide) (by omega) (bk_inl (q_aload_n c_149_73 rfl (q_iconst c_149_74 (v_pi (z := 30) c_149_75 kf_8_173 rfl (nb_ rfl) rfl rfl rfl (by decide) (q_aload_n c_149_78 rfl (q_iconst c_149_79 (v_pi (z := 47) c_149_80 kf_8_176 rfl (nb_ rfl) rfl rfl rfl (by decide) ?_))))))))
  refine q_aload_n c_149_83 rfl (q_iconst c_149_84 (v_pi (z := 48) c_149_85 kf_8_179 rfl (nb_ rfl) rfl rfl rfl (by decide) (q_aload_n c_149_88 rfl (q_iconst c_149_89 (v_pi (z := 35) c_149_90 kf_8_182 rfl (nb_ rfl) rfl rfl rfl (by decide) (q_aload_n c_149_93 rfl (q_iconst c_149_94 ?_)))))))
  refine v_pi (z := 52) c_149_95 kf_8_185 rfl (nb_ rfl) rfl rfl rfl (by decide) (q_aload_n c_149_98 rfl (q_iconst c_149_99 (v_pi (z := 36) c_149_100 kf_8_188 rfl (nb_ rfl) rfl rfl rfl (by decide) (q_iconst c_149_103 (q_istore_n c_149_104 (nb_ rfl) ?_)))))
  have hI_89 := iw_41_20 (v := c 41 16) hI ⟨h_85.1, h_85.2⟩
  have hI_90 := iw_41_21 (v := c 41 17) hI_89 ⟨h_86.1, h_86.2⟩
  have hI_91 := iw_41_22 (v := c 41 18) hI_90 ⟨h_87.1, h_87.2⟩
  have hI_92 := iw_41_23 (v := c 41 19) hI_91 ⟨h_88.1, h_88.2⟩
  have hI_93 := cp_44_47 hI_92
  have hI_94 := cp_45_48 hI_93
  have hI_95 := cp_46_49 hI_94
  have hI_96 := iw_codes0 hI_95
  have hI_97 := iw_41_47 (v := 0) hI_96 ⟨by decide, by decide⟩
  have hI_98 := iw_41_48 (v := 0) hI_97 ⟨by decide, by decide⟩
  have hI_99 := iw_41_35 (v := 0) hI_98 ⟨by decide, by decide⟩
  have hI_100 := iw_41_52 (v := 0) hI_99 ⟨by decide, by decide⟩
  have hI_101 := iw_41_36 (v := 0) hI_100 ⟨by decide, by decide⟩
  refine Wp_ls [(0, .ref 41), (1, vi 0)] (lsub_cons rfl (lsub_cons rfl lsub_nil)) ?_
  have h_102 : (up (up (up (up (up (up (upc (upc (upc (up (up (up (up c 41 20 (c 41 16)) 41 21 (c 41 17)) 41 22 (c 41 18)) 41 23 (c 41 19)) 44 0 47 0 24) 45 0 48 0 12) 46 0 49 0 4) 41 30 0) 41 47 0) 41 48 0) 41 35 0) 41 52 0) 41 36 0) 41 20 = c 41 16 := ((up_n (by decide)).trans ((up_n (by decide)).trans ((up_n (by decide)).trans ((up_n (by decide)).trans ((up_n (by decide)).trans ((up_n (by decide)).trans ((upc_c (by omega)).trans ((upc_c (by omega)).trans ((upc_c (by omega)).trans ((up_n (by decide)).trans ((up_n (by decide)).trans ((up_n (by decide)).trans (up_e rfl)))))))))))))
  have h_103 : (up (up (up (up (up (up (upc (upc (upc (up (up (up (up c 41 20 (c 41 16)) 41 21 (c 41 17)) 41 22 (c 41 18)) 41 23 (c 41 19)) 44 0 47 0 24) 45 0 48 0 12) 46 0 49 0 4) 41 30 0) 41 47 0) 41 48 0) 41 35 0) 41 52 0) 41 36 0) 41 21 = c 41 17 := ((up_n (by decide)).trans ((up_n (by decide)).trans ((up_n (by decide)).trans ((up_n (by decide)).trans ((up_n (by decide)).trans ((up_n (by decide)).trans ((upc_c (by omega)).trans ((upc_c (by omega)).trans ((upc_c (by omega)).trans ((up_n (by decide)).trans ((up_n (by decide)).trans (up_e rfl))))))))))))
  have h_104 : (up (up (up (up (up (up (upc (upc (upc (up (up (up (up c 41 20 (c 41 16)) 41 21 (c 41 17)) 41 22 (c 41 18)) 41 23 (c 41 19)) 44 0 47 0 24) 45 0 48 0 12) 46 0 49 0 4) 41 30 0) 41 47 0) 41 48 0) 41 35 0) 41 52 0) 41 36 0) 41 22 = c 41 18 := ((up_n (by decide)).trans ((up_n (by decide)).trans ((up_n (by decide)).trans ((up_n (by decide)).trans ((up_n (by decide)).trans ((up_n (by decide)).trans ((upc_c (by omega)).trans ((upc_c (by omega)).trans ((upc_c (by omega)).trans ((up_n (by decide)).trans (up_e rfl)))))))))))
  have h_105 : (up (up (up (up (up (up (upc (upc (upc (up (up (up (up c 41 20 (c 41 16)) 41 21 (c 41 17)) 41 22 (c 41 18)) 41 23 (c 41 19)) 44 0 47 0 24) 45 0 48 0 12) 46 0 49 0 4) 41 30 0) 41 47 0) 41 48 0) 41 35 0) 41 52 0) 41 36 0) 41 23 = c 41 19 := ((up_n (by decide)).trans ((up_n (by decide)).trans ((up_n (by decide)).trans ((up_n (by decide)).trans ((up_n (by decide)).trans ((up_n (by decide)).trans ((upc_c (by omega)).trans ((upc_c (by omega)).trans ((upc_c (by omega)).trans (up_e rfl))))))))))
  have h_106 : (up (up (up (up (up (up (upc (upc (upc (up (up (up (up c 41 20 (c 41 16)) 41 21 (c 41 17)) 41 22 (c 41 18)) 41 23 (c 41 19)) 44 0 47 0 24) 45 0 48 0 12) 46 0 49 0 4) 41 30 0) 41 47 0) 41 48 0) 41 35 0) 41 52 0) 41 36 0) 41 30 = 0 := ((up_n (by decide)).trans ((up_n (by decide)).trans ((up_n (by decide)).trans ((up_n (by decide)).trans ((up_n (by decide)).trans (up_e rfl))))))
  have h_107 : (up (up (up (up (up (up (upc (upc (upc (up (up (up (up c 41 20 (c 41 16)) 41 21 (c 41 17)) 41 22 (c 41 18)) 41 23 (c 41 19)) 44 0 47 0 24) 45 0 48 0 12) 46 0 49 0 4) 41 30 0) 41 47 0) 41 48 0) 41 35 0) 41 52 0) 41 36 0) 41 35 = 0 := ((up_n (by decide)).trans ((up_n (by decide)).trans (up_e rfl)))
  have h_108 : (up (up (up (up (up (up (upc (upc (upc (up (up (up (up c 41 20 (c 41 16)) 41 21 (c 41 17)) 41 22 (c 41 18)) 41 23 (c 41 19)) 44 0 47 0 24) 45 0 48 0 12) 46 0 49 0 4) 41 30 0) 41 47 0) 41 48 0) 41 35 0) 41 52 0) 41 36 0) 41 36 = 0 := (up_e rfl)
  have h_109 : (up (up (up (up (up (up (upc (upc (upc (up (up (up (up c 41 20 (c 41 16)) 41 21 (c 41 17)) 41 22 (c 41 18)) 41 23 (c 41 19)) 44 0 47 0 24) 45 0 48 0 12) 46 0 49 0 4) 41 30 0) 41 47 0) 41 48 0) 41 35 0) 41 52 0) 41 36 0) 41 47 = 0 := ((up_n (by decide)).trans ((up_n (by decide)).trans ((up_n (by decide)).trans ((up_n (by decide)).trans (up_e rfl)))))
  have h_110 : (up (up (up (up (up (up (upc (upc (upc (up (up (up (up c 41 20 (c 41 16)) 41 21 (c 41 17)) 41 22 (c 41 18)) 41 23 (c 41 19)) 44 0 47 0 24) 45 0 48 0 12) 46 0 49 0 4) 41 30 0) 41 47 0) 41 48 0) 41 35 0) 41 52 0) 41 36 0) 41 48 = 0 := ((up_n (by decide)).trans ((up_n (by decide)).trans ((up_n (by decide)).trans (up_e rfl))))
  have h_111 : (up (up (up (up (up (up (upc (upc (upc (up (up (up (up c 41 20 (c 41 16)) 41 21 (c 41 17)) 41 22 (c 41 18)) 41 23 (c 41 19)) 44 0 47 0 24) 45 0 48 0 12) 46 0 49 0 4) 41 30 0) 41 47 0) 41 48 0) 41 35 0) 41 52 0) 41 36 0) 41 52 = 0 := ((up_n (by decide)).trans (up_e rfl))
  exact (s_149_l (sc := sc) (d := d) hI K 140).1 (up (up (up (up (up (up (upc (upc (upc (up (up (up (up c 41 20 (c 41 16)) 41 21 (c 41 17)) 41 22 (c 41 18)) 41 23 (c 41 19)) 44 0 47 0 24) 45 0 48 0 12) 46 0 49 0 4) 41 30 0) 41 47 0) 41 48 0) 41 35 0) 41 52 0) 41 36 0) 0 hI_101 (fun a j hm => (up_b (Decidable.or_iff_not_imp_left.mpr (fun h1 h2 => hm (Or.inr (Or.inr (Or.inr (Or.inr (Or.inr (Or.inr (Or.inl ⟨Decidable.not_not.mp h1, h2⟩)))))))))).trans ((up_b (Decidable.or_iff_not_imp_left.mpr (fun h1 h2 => hm (Or.inr (Or.inr (Or.inr (Or.inr (Or.inr (Or.inr (Or.inr (Or.inr (Or.inr (Or.inl ⟨Decidable.not_not.mp h1, h2⟩))))))))))))).trans ((up_b (Decidable.or_iff_not_imp_left.mpr (fun h1 h2 => hm (Or.inr (Or.inr (Or.inr (Or.inr (Or.inr (Or.inl ⟨Decidable.not_not.mp h1, h2⟩))))))))).trans ((up_b (Decidable.or_iff_not_imp_left.mpr (fun h1 h2 => hm (Or.inr (Or.inr (Or.inr (Or.inr (Or.inr (Or.inr (Or.inr (Or.inr (Or.inl ⟨Decidable.not_not.mp h1, h2⟩)))))))))))).trans ((up_b (Decidable.or_iff_not_imp_left.mpr (fun h1 h2 => hm (Or.inr (Or.inr (Or.inr (Or.inr (Or.inr (Or.inr (Or.inr (Or.inl ⟨Decidable.not_not.mp h1, h2⟩))))))))))).trans ((up_b (Decidable.or_iff_not_imp_left.mpr (fun h1 h2 => hm (Or.inr (Or.inr (Or.inr (Or.inr (Or.inl ⟨Decidable.not_not.mp h1, h2⟩)))))))).trans ((upc_c (fun h => hm (Or.inr (Or.inr (Or.inr (Or.inr (Or.inr (Or.inr (Or.inr (Or.inr (Or.inr (Or.inr (Or.inr (Or.inr (Or.inl h))))))))))))))).trans ((upc_c (fun h => hm (Or.inr (Or.inr (Or.inr (Or.inr (Or.inr (Or.inr (Or.inr (Or.inr (Or.inr (Or.inr (Or.inr (Or.inl h)))))))))))))).trans ((upc_c (fun h => hm (Or.inr (Or.inr (Or.inr (Or.inr (Or.inr (Or.inr (Or.inr (Or.inr (Or.inr (Or.inr (Or.inl h))))))))))))).trans ((up_b (Decidable.or_iff_not_imp_left.mpr (fun h1 h2 => hm (Or.inr (Or.inr (Or.inr (Or.inl ⟨Decidable.not_not.mp h1, h2⟩))))))).trans ((up_b (Decidable.or_iff_not_imp_left.mpr (fun h1 h2 => hm (Or.inr (Or.inr (Or.inl ⟨Decidable.not_not.mp h1, h2⟩)))))).trans ((up_b (Decidable.or_iff_not_imp_left.mpr (fun h1 h2 => hm (Or.inr (Or.inl ⟨Decidable.not_not.mp h1, h2⟩))))).trans (up_b (Decidable.or_iff_not_imp_left.mpr (fun h1 h2 => hm (Or.inl ⟨Decidable.not_not.mp h1, h2⟩)))))))))))))))) ⟨by decide, by decide⟩ ⟨by first | assumption | omega, by first | assumption | omega, by first | assumption | omega, by first | assumption | omega, by first | assumption | omega, by first | assumption | omega, by first | assumption | omega, by first | assumption | omega, by first | assumption | omega, by first | assumption | omega⟩ (by omega)

set_option maxRecDepth 100000 in
set_option maxHeartbeats 4000000 in
theorem s_151_l {sc : List Int32} {e : Int} {d u P Q : Nat} {c : ME} {a1 : Int} {a2 : Int} {a3 : Int} {a4 : Int} {a5 : Int} {Z : AR → Prop} (hI : Iv u e P Q c) (ha1 : (-2147483648) ≤ a1 ∧ a1 ≤ 2147483647) (ha2 : (-2147483648) ≤ a2 ∧ a2 ≤ 2147483647) (ha3 : (-2147483648) ≤ a3 ∧ a3 ≤ 2147483647) (ha4 : (-2147483648) ≤ a4 ∧ a4 ≤ 2147483647) (ha5 : (-2147483648) ≤ a5 ∧ a5 ≤ 2147483647) (K : ∀ (c2 : ME) (y : Int), Iv u e P Q c2 → (∀ (a : Nat) (j : Int), ¬ ((a = 41 ∧ j = 0) ∨ (a = 41 ∧ j = 2) ∨ a = 43) → c2 a j = c a j) → (-1) ≤ y ∧ y ≤ 600 → Z (.inl (some (vi y)), Wd P Q P P c2, 0, 0)) : ∀ n : Nat, (∀ (c2 : ME) (v6 : Int), Iv u e P Q c2 → (∀ (a : Nat) (j : Int), ¬ ((a = 41 ∧ j = 0) ∨ (a = 41 ∧ j = 2) ∨ a = 43) → c2 a j = c a j) → 0 ≤ v6 ∧ v6 ≤ 20 → ((c2 41 2 = c 41 2 + v6)) → ((c 41 2 ≤ 580)) → 41 - 2 * v6 < (n : Int) → Wp sc (d + 7) 151 23 [(0, .ref 41), (1, vi a1), (2, vi a2), (3, vi a3), (4, vi a4), (5, vi a5), (6, vi v6)] [] (Wd P Q P P c2) 0 0 Z) := by
  intro n
  induction n with
  | zero => exact (by intro c2 v6 hI2 hF hv6 hx0 hx1 hm9; have hP := iv_P hI; have hQ := iv_Q hI; exfalso; omega)
  | succ n ih =>
    have hP := iv_P hI
    have hQ := iv_Q hI
    intro c2 v6 hI2 hF hv6 hx0 hx1 hm9
    have h_1 := ir_41_2 hI
    have h_2 := ir_41_2 hI2
    refine q_iload c_151_23 rfl (v_bip c_151_25 (by decide) ?_)
    by_cases h_3 : v6 ≥ 20
    · refine v_ic_ge_t (t := 120) c_151_27 rfl ⟨by decide, h_3, (Int.le_trans hv6.2 (by decide))⟩ (q_aload_n c_151_120 rfl (v_gi (z := 2) (v := c2 41 2) c_151_121 kf_8_99 rfl (nb_ rfl) rfl rfl rfl (q_iret c_151_124 rfl ?_)))
      exact K c2 (c2 41 2) hI2 (fun a j hm => hF a j hm) ⟨(Int.le_trans (by decide) h_2.1), h_2.2⟩
    · refine v_ic_ge_f (t := 120) c_151_27 rfl ⟨(Int.le_trans (by decide) hv6.1), (Int.not_le.mp h_3), by decide⟩ (q_iload c_151_30 rfl (q_iconst c_151_32 ?_))
      by_cases h_4 : v6 ≥ 4
      · refine v_ic_ge_t (t := 40) c_151_33 rfl ⟨by decide, h_4, (Int.le_trans hv6.2 (by decide))⟩ (q_iload c_151_40 rfl (v_bip c_151_42 (by decide) ?_))
        by_cases h_5 : v6 ≥ 8
        · refine v_ic_ge_t (t := 51) c_151_44 rfl ⟨by decide, h_5, (Int.le_trans hv6.2 (by decide))⟩ (q_iload c_151_51 rfl (v_bip c_151_53 (by decide) ?_))
          by_cases h_6 : v6 ≥ 12
          · refine v_ic_ge_t (t := 62) c_151_55 rfl ⟨by decide, h_6, (Int.le_trans hv6.2 (by decide))⟩ (q_iload c_151_62 rfl (v_bip c_151_64 (by decide) ?_))
            by_cases h_7 : v6 ≥ 16
            · refine v_ic_ge_t (t := 74) c_151_66 rfl ⟨by decide, h_7, (Int.le_trans hv6.2 (by decide))⟩ (q_iload c_151_74 rfl (q_istore c_151_76 (nb_ rfl) (q_aload_n c_151_78 rfl (v_gr (t := 43) c_151_79 kf_8_20 rfl (nb_ rfl) rfl (q_aload_n c_151_82 rfl (v_gi (z := 2) (v := c2 41 2) c_151_83 kf_8_99 rfl (nb_ rfl) rfl rfl rfl (q_iload c_151_86 rfl ?_)))))))
              refine v_bip c_151_88 (by decide) (v_bip c_151_90 (by decide) (q_iload c_151_92 rfl (q_iconst c_151_94 (v_irem (v := (v6 % 4)) c_151_95 (by omega) rfl (v_imul (v := 8 * (v6 % 4)) c_151_96 rfl (v_isub (v := 24 - 8 * (v6 % 4)) c_151_97 (by first | exact q_e3cb7898a | omega) (v_ishrx c_151_98 (fun y_8 hy_8 => ?_))))))))
              refine v_sip c_151_99 (by decide) (v_and8 (v := (y_8 % 256)) c_151_102 rfl (v_is c_151_103 rfl (by decide) (by decide) ⟨h_2.1, by first | (clear ha1 ha2 ha3 ha4 ha5 hv6 h_1 h_2 h_4 h_5 h_6 h_7; omega) | omega⟩ (q_aload_n c_151_104 rfl (q_dup c_151_105 rfl (v_gi (z := 2) (v := c2 41 2) c_151_106 kf_8_99 rfl (nb_ rfl) rfl rfl (up_c (nn rfl)) (q_iconst c_151_109 (v_iadd (v := c2 41 2 + 1) c_151_110 rfl ?_)))))))
              refine v_pi (z := 2) c_151_111 kf_8_99 rfl (nb_ rfl) rfl rfl rfl (by decide) (v_iinc (v := v6 + 1) c_151_114 rfl (nb_ rfl) rfl (q_goto (t := 23) c_151_117 rfl ?_))
              have hI_9 := iw_43 (j := c2 41 2) (v := (y_8 % 256)) hI2 ⟨by first | (clear ha1 ha2 ha3 ha4 ha5 hv6 hx0 hx1 h_1 h_2 h_3 h_4 h_5 h_6 h_7; omega) | omega, by first | (clear ha1 ha2 ha3 ha4 ha5 hv6 hx0 hx1 h_1 h_2 h_3 h_4 h_5 h_6 h_7; omega) | omega⟩
              have hI_10 := iw_41_2 (v := c2 41 2 + 1) hI_9 ⟨by first | exact rgp_l h_2.1 (by decide) | omega, by first | (clear ha1 ha2 ha3 ha4 ha5 hv6 h_1 h_2 h_4 h_5 h_6 h_7; omega) | omega⟩
              refine Wp_ls [(0, .ref 41), (1, vi a1), (2, vi a2), (3, vi a3), (4, vi a4), (5, vi a5), (6, vi (v6 + 1))] (lsub_cons rfl (lsub_cons rfl (lsub_cons rfl (lsub_cons rfl (lsub_cons rfl (lsub_cons rfl (lsub_cons rfl lsub_nil))))))) ?_
              have h_11 : (up (up c2 43 (c2 41 2) (y_8 % 256)) 41 2 (c2 41 2 + 1)) 41 2 = c2 41 2 + 1 := (up_e rfl)
              exact ih (up (up c2 43 (c2 41 2) (y_8 % 256)) 41 2 (c2 41 2 + 1)) (v6 + 1) hI_10 (fun a j hm => (up_b (Decidable.or_iff_not_imp_left.mpr (fun h1 h2 => hm (Or.inr (Or.inl ⟨Decidable.not_not.mp h1, h2⟩))))).trans ((up_b (Decidable.or_iff_not_imp_left.mpr (fun h1 h2 => hm (Or.inr (Or.inr (Decidable.not_not.mp h1)))))).trans (hF a j hm))) ⟨by first | exact rgp_l hv6.1 (by decide) | omega, by first | exact q_7164d7a2b h_3 | omega⟩ (by first | (clear ha1 ha2 ha3 ha4 ha5 hv6 hx1 h_1 h_2 h_3 h_4 h_5 h_6 h_7; omega) | omega) (by first | (clear ha1 ha2 ha3 ha4 ha5 hv6 hx0 h_1 h_2 h_3 h_4 h_5 h_6 h_7; omega) | omega) (by omega)
            · refine v_ic_ge_f (t := 74) c_151_66 rfl ⟨(Int.le_trans (by decide) hv6.1), (Int.not_le.mp h_7), by decide⟩ (q_iload c_151_69 rfl (q_goto (t := 76) c_151_71 rfl (q_istore c_151_76 (nb_ rfl) (q_aload_n c_151_78 rfl (v_gr (t := 43) c_151_79 kf_8_20 rfl (nb_ rfl) rfl (q_aload_n c_151_82 rfl (v_gi (z := 2) (v := c2 41 2) c_151_83 kf_8_99 rfl (nb_ rfl) rfl rfl rfl ?_)))))))
              refine q_iload c_151_86 rfl (v_bip c_151_88 (by decide) (v_bip c_151_90 (by decide) (q_iload c_151_92 rfl (q_iconst c_151_94 (v_irem (v := (v6 % 4)) c_151_95 (by omega) rfl (v_imul (v := 8 * (v6 % 4)) c_151_96 rfl (v_isub (v := 24 - 8 * (v6 % 4)) c_151_97 (by first | exact q_e3cb7898a | omega) ?_)))))))
              refine v_ishrx c_151_98 (fun y_12 hy_12 => (v_sip c_151_99 (by decide) (v_and8 (v := (y_12 % 256)) c_151_102 rfl (v_is c_151_103 rfl (by decide) (by decide) ⟨h_2.1, by first | (clear ha1 ha2 ha3 ha4 ha5 hv6 h_1 h_2 h_3 h_4 h_5 h_6; omega) | omega⟩ (q_aload_n c_151_104 rfl (q_dup c_151_105 rfl (v_gi (z := 2) (v := c2 41 2) c_151_106 kf_8_99 rfl (nb_ rfl) rfl rfl (up_c (nn rfl)) (q_iconst c_151_109 ?_))))))))
              refine v_iadd (v := c2 41 2 + 1) c_151_110 rfl (v_pi (z := 2) c_151_111 kf_8_99 rfl (nb_ rfl) rfl rfl rfl (by decide) (v_iinc (v := v6 + 1) c_151_114 rfl (nb_ rfl) rfl (q_goto (t := 23) c_151_117 rfl ?_)))
              have hI_13 := iw_43 (j := c2 41 2) (v := (y_12 % 256)) hI2 ⟨by first | (clear ha1 ha2 ha3 ha4 ha5 hv6 hx0 hx1 h_1 h_2 h_3 h_4 h_5 h_6 h_7; omega) | omega, by first | (clear ha1 ha2 ha3 ha4 ha5 hv6 hx0 hx1 h_1 h_2 h_3 h_4 h_5 h_6 h_7; omega) | omega⟩
              have hI_14 := iw_41_2 (v := c2 41 2 + 1) hI_13 ⟨by first | exact rgp_l h_2.1 (by decide) | omega, by first | (clear ha1 ha2 ha3 ha4 ha5 hv6 h_1 h_2 h_3 h_4 h_5 h_6; omega) | omega⟩
              refine Wp_ls [(0, .ref 41), (1, vi a1), (2, vi a2), (3, vi a3), (4, vi a4), (5, vi a5), (6, vi (v6 + 1))] (lsub_cons rfl (lsub_cons rfl (lsub_cons rfl (lsub_cons rfl (lsub_cons rfl (lsub_cons rfl (lsub_cons rfl lsub_nil))))))) ?_
              have h_15 : (up (up c2 43 (c2 41 2) (y_12 % 256)) 41 2 (c2 41 2 + 1)) 41 2 = c2 41 2 + 1 := (up_e rfl)
              exact ih (up (up c2 43 (c2 41 2) (y_12 % 256)) 41 2 (c2 41 2 + 1)) (v6 + 1) hI_14 (fun a j hm => (up_b (Decidable.or_iff_not_imp_left.mpr (fun h1 h2 => hm (Or.inr (Or.inl ⟨Decidable.not_not.mp h1, h2⟩))))).trans ((up_b (Decidable.or_iff_not_imp_left.mpr (fun h1 h2 => hm (Or.inr (Or.inr (Decidable.not_not.mp h1)))))).trans (hF a j hm))) ⟨by first | exact rgp_l hv6.1 (by decide) | omega, by first | exact q_295dd9ba7 h_7 | omega⟩ (by first | (clear ha1 ha2 ha3 ha4 ha5 hv6 hx1 h_1 h_2 h_3 h_4 h_5 h_6 h_7; omega) | omega) (by first | (clear ha1 ha2 ha3 ha4 ha5 hv6 hx0 h_1 h_2 h_3 h_4 h_5 h_6 h_7; omega) | omega) (by omega)
          · refine v_ic_ge_f (t := 62) c_151_55 rfl ⟨(Int.le_trans (by decide) hv6.1), (Int.not_le.mp h_6), by decide⟩ (q_iload_n c_151_58 rfl (q_goto (t := 76) c_151_59 rfl (q_istore c_151_76 (nb_ rfl) (q_aload_n c_151_78 rfl (v_gr (t := 43) c_151_79 kf_8_20 rfl (nb_ rfl) rfl (q_aload_n c_151_82 rfl (v_gi (z := 2) (v := c2 41 2) c_151_83 kf_8_99 rfl (nb_ rfl) rfl rfl rfl ?_)))))))
            refine q_iload c_151_86 rfl (v_bip c_151_88 (by decide) (v_bip c_151_90 (by decide) (q_iload c_151_92 rfl (q_iconst c_151_94 (v_irem (v := (v6 % 4)) c_151_95 (by omega) rfl (v_imul (v := 8 * (v6 % 4)) c_151_96 rfl (v_isub (v := 24 - 8 * (v6 % 4)) c_151_97 (by first | exact q_e3cb7898a | omega) ?_)))))))
            refine v_ishrx c_151_98 (fun y_16 hy_16 => (v_sip c_151_99 (by decide) (v_and8 (v := (y_16 % 256)) c_151_102 rfl (v_is c_151_103 rfl (by decide) (by decide) ⟨h_2.1, by first | (clear ha1 ha2 ha3 ha4 ha5 hv6 h_1 h_2 h_3 h_4 h_5; omega) | omega⟩ (q_aload_n c_151_104 rfl (q_dup c_151_105 rfl (v_gi (z := 2) (v := c2 41 2) c_151_106 kf_8_99 rfl (nb_ rfl) rfl rfl (up_c (nn rfl)) (q_iconst c_151_109 ?_))))))))
            refine v_iadd (v := c2 41 2 + 1) c_151_110 rfl (v_pi (z := 2) c_151_111 kf_8_99 rfl (nb_ rfl) rfl rfl rfl (by decide) (v_iinc (v := v6 + 1) c_151_114 rfl (nb_ rfl) rfl (q_goto (t := 23) c_151_117 rfl ?_)))
            have hI_17 := iw_43 (j := c2 41 2) (v := (y_16 % 256)) hI2 ⟨by first | (clear ha1 ha2 ha3 ha4 ha5 hv6 hx0 hx1 h_1 h_2 h_3 h_4 h_5 h_6; omega) | omega, by first | (clear ha1 ha2 ha3 ha4 ha5 hv6 hx0 hx1 h_1 h_2 h_3 h_4 h_5 h_6; omega) | omega⟩
            have hI_18 := iw_41_2 (v := c2 41 2 + 1) hI_17 ⟨by first | exact rgp_l h_2.1 (by decide) | omega, by first | (clear ha1 ha2 ha3 ha4 ha5 hv6 h_1 h_2 h_3 h_4 h_5; omega) | omega⟩
            refine Wp_ls [(0, .ref 41), (1, vi a1), (2, vi a2), (3, vi a3), (4, vi a4), (5, vi a5), (6, vi (v6 + 1))] (lsub_cons rfl (lsub_cons rfl (lsub_cons rfl (lsub_cons rfl (lsub_cons rfl (lsub_cons rfl (lsub_cons rfl lsub_nil))))))) ?_
            have h_19 : (up (up c2 43 (c2 41 2) (y_16 % 256)) 41 2 (c2 41 2 + 1)) 41 2 = c2 41 2 + 1 := (up_e rfl)
            exact ih (up (up c2 43 (c2 41 2) (y_16 % 256)) 41 2 (c2 41 2 + 1)) (v6 + 1) hI_18 (fun a j hm => (up_b (Decidable.or_iff_not_imp_left.mpr (fun h1 h2 => hm (Or.inr (Or.inl ⟨Decidable.not_not.mp h1, h2⟩))))).trans ((up_b (Decidable.or_iff_not_imp_left.mpr (fun h1 h2 => hm (Or.inr (Or.inr (Decidable.not_not.mp h1)))))).trans (hF a j hm))) ⟨by first | exact rgp_l hv6.1 (by decide) | omega, by first | exact q_265ba0740 h_6 | omega⟩ (by first | (clear ha1 ha2 ha3 ha4 ha5 hv6 hx1 h_1 h_2 h_3 h_4 h_5 h_6; omega) | omega) (by first | (clear ha1 ha2 ha3 ha4 ha5 hv6 hx0 h_1 h_2 h_3 h_4 h_5 h_6; omega) | omega) (by omega)
        · refine v_ic_ge_f (t := 51) c_151_44 rfl ⟨(Int.le_trans (by decide) hv6.1), (Int.not_le.mp h_5), by decide⟩ (q_iload_n c_151_47 rfl (q_goto (t := 76) c_151_48 rfl (q_istore c_151_76 (nb_ rfl) (q_aload_n c_151_78 rfl (v_gr (t := 43) c_151_79 kf_8_20 rfl (nb_ rfl) rfl (q_aload_n c_151_82 rfl (v_gi (z := 2) (v := c2 41 2) c_151_83 kf_8_99 rfl (nb_ rfl) rfl rfl rfl ?_)))))))
          refine q_iload c_151_86 rfl (v_bip c_151_88 (by decide) (v_bip c_151_90 (by decide) (q_iload c_151_92 rfl (q_iconst c_151_94 (v_irem (v := (v6 % 4)) c_151_95 (by omega) rfl (v_imul (v := 8 * (v6 % 4)) c_151_96 rfl (v_isub (v := 24 - 8 * (v6 % 4)) c_151_97 (by first | exact q_e3cb7898a | omega) ?_)))))))
          refine v_ishrx c_151_98 (fun y_20 hy_20 => (v_sip c_151_99 (by decide) (v_and8 (v := (y_20 % 256)) c_151_102 rfl (v_is c_151_103 rfl (by decide) (by decide) ⟨h_2.1, by omega⟩ (q_aload_n c_151_104 rfl (q_dup c_151_105 rfl (v_gi (z := 2) (v := c2 41 2) c_151_106 kf_8_99 rfl (nb_ rfl) rfl rfl (up_c (nn rfl)) (q_iconst c_151_109 ?_))))))))
          refine v_iadd (v := c2 41 2 + 1) c_151_110 rfl (v_pi (z := 2) c_151_111 kf_8_99 rfl (nb_ rfl) rfl rfl rfl (by decide) (v_iinc (v := v6 + 1) c_151_114 rfl (nb_ rfl) rfl (q_goto (t := 23) c_151_117 rfl ?_)))
          have hI_21 := iw_43 (j := c2 41 2) (v := (y_20 % 256)) hI2 ⟨by omega, by omega⟩
          have hI_22 := iw_41_2 (v := c2 41 2 + 1) hI_21 ⟨by first | exact rgp_l h_2.1 (by decide) | omega, by omega⟩
          refine Wp_ls [(0, .ref 41), (1, vi a1), (2, vi a2), (3, vi a3), (4, vi a4), (5, vi a5), (6, vi (v6 + 1))] (lsub_cons rfl (lsub_cons rfl (lsub_cons rfl (lsub_cons rfl (lsub_cons rfl (lsub_cons rfl (lsub_cons rfl lsub_nil))))))) ?_
          have h_23 : (up (up c2 43 (c2 41 2) (y_20 % 256)) 41 2 (c2 41 2 + 1)) 41 2 = c2 41 2 + 1 := (up_e rfl)
          exact ih (up (up c2 43 (c2 41 2) (y_20 % 256)) 41 2 (c2 41 2 + 1)) (v6 + 1) hI_22 (fun a j hm => (up_b (Decidable.or_iff_not_imp_left.mpr (fun h1 h2 => hm (Or.inr (Or.inl ⟨Decidable.not_not.mp h1, h2⟩))))).trans ((up_b (Decidable.or_iff_not_imp_left.mpr (fun h1 h2 => hm (Or.inr (Or.inr (Decidable.not_not.mp h1)))))).trans (hF a j hm))) ⟨by first | exact rgp_l hv6.1 (by decide) | omega, by first | exact q_ea4103e0d h_5 | omega⟩ (by omega) (by omega) (by omega)
      · refine v_ic_ge_f (t := 40) c_151_33 rfl ⟨(Int.le_trans (by decide) hv6.1), (Int.not_le.mp h_4), by decide⟩ (q_iload_n c_151_36 rfl (q_goto (t := 76) c_151_37 rfl (q_istore c_151_76 (nb_ rfl) (q_aload_n c_151_78 rfl (v_gr (t := 43) c_151_79 kf_8_20 rfl (nb_ rfl) rfl (q_aload_n c_151_82 rfl (v_gi (z := 2) (v := c2 41 2) c_151_83 kf_8_99 rfl (nb_ rfl) rfl rfl rfl ?_)))))))
        refine q_iload c_151_86 rfl (v_bip c_151_88 (by decide) (v_bip c_151_90 (by decide) (q_iload c_151_92 rfl (q_iconst c_151_94 (v_irem (v := (v6 % 4)) c_151_95 (by omega) rfl (v_imul (v := 8 * (v6 % 4)) c_151_96 rfl (v_isub (v := 24 - 8 * (v6 % 4)) c_151_97 (by first | exact q_e3cb7898a | omega) ?_)))))))
        refine v_ishrx c_151_98 (fun y_24 hy_24 => (v_sip c_151_99 (by decide) (v_and8 (v := (y_24 % 256)) c_151_102 rfl (v_is c_151_103 rfl (by decide) (by decide) ⟨h_2.1, by omega⟩ (q_aload_n c_151_104 rfl (q_dup c_151_105 rfl (v_gi (z := 2) (v := c2 41 2) c_151_106 kf_8_99 rfl (nb_ rfl) rfl rfl (up_c (nn rfl)) (q_iconst c_151_109 ?_))))))))
        refine v_iadd (v := c2 41 2 + 1) c_151_110 rfl (v_pi (z := 2) c_151_111 kf_8_99 rfl (nb_ rfl) rfl rfl rfl (by decide) (v_iinc (v := v6 + 1) c_151_114 rfl (nb_ rfl) rfl (q_goto (t := 23) c_151_117 rfl ?_)))
        have hI_25 := iw_43 (j := c2 41 2) (v := (y_24 % 256)) hI2 ⟨by omega, by omega⟩
        have hI_26 := iw_41_2 (v := c2 41 2 + 1) hI_25 ⟨by first | exact rgp_l h_2.1 (by decide) | omega, by omega⟩
        refine Wp_ls [(0, .ref 41), (1, vi a1), (2, vi a2), (3, vi a3), (4, vi a4), (5, vi a5), (6, vi (v6 + 1))] (lsub_cons rfl (lsub_cons rfl (lsub_cons rfl (lsub_cons rfl (lsub_cons rfl (lsub_cons rfl (lsub_cons rfl lsub_nil))))))) ?_
        have h_27 : (up (up c2 43 (c2 41 2) (y_24 % 256)) 41 2 (c2 41 2 + 1)) 41 2 = c2 41 2 + 1 := (up_e rfl)
        exact ih (up (up c2 43 (c2 41 2) (y_24 % 256)) 41 2 (c2 41 2 + 1)) (v6 + 1) hI_26 (fun a j hm => (up_b (Decidable.or_iff_not_imp_left.mpr (fun h1 h2 => hm (Or.inr (Or.inl ⟨Decidable.not_not.mp h1, h2⟩))))).trans ((up_b (Decidable.or_iff_not_imp_left.mpr (fun h1 h2 => hm (Or.inr (Or.inr (Decidable.not_not.mp h1)))))).trans (hF a j hm))) ⟨by first | exact rgp_l hv6.1 (by decide) | omega, by first | exact q_c3775e7c2 h_4 | omega⟩ (by omega) (by omega) (by omega)
set_option maxRecDepth 100000 in
set_option maxHeartbeats 4000000 in
theorem s_151 {sc : List Int32} {e : Int} {d u P Q : Nat} {c : ME} {a1 : Int} {a2 : Int} {a3 : Int} {a4 : Int} {a5 : Int} {Z : AR → Prop} (hI : Iv u e P Q c) (ha1 : (-2147483648) ≤ a1 ∧ a1 ≤ 2147483647) (ha2 : (-2147483648) ≤ a2 ∧ a2 ≤ 2147483647) (ha3 : (-2147483648) ≤ a3 ∧ a3 ≤ 2147483647) (ha4 : (-2147483648) ≤ a4 ∧ a4 ≤ 2147483647) (ha5 : (-2147483648) ≤ a5 ∧ a5 ≤ 2147483647) (K : ∀ (c2 : ME) (y : Int), Iv u e P Q c2 → (∀ (a : Nat) (j : Int), ¬ ((a = 41 ∧ j = 0) ∨ (a = 41 ∧ j = 2) ∨ a = 43) → c2 a j = c a j) → (-1) ≤ y ∧ y ≤ 600 → Z (.inl (some (vi y)), Wd P Q P P c2, 0, 0)) : Wp sc (d + 7) 151 0 [(0, .ref 41), (1, vi a1), (2, vi a2), (3, vi a3), (4, vi a4), (5, vi a5)] [] (Wd P Q P P c) 0 0 Z := by
  have hP := iv_P hI
  have hQ := iv_Q hI
  refine q_aload_n c_151_0 rfl (q_iconst c_151_1 (v_pi (z := 0) c_151_2 kf_8_3 rfl (nb_ rfl) rfl rfl rfl (by decide) (q_aload_n c_151_5 rfl ?_)))
  have h_28 := ir_41_2 hI
  refine v_gi (z := 2) (v := c 41 2) c_151_6 kf_8_99 rfl (nb_ rfl) rfl rfl (up_n (by decide)) (v_bip c_151_9 (by decide) (v_iadd (v := c 41 2 + 20) c_151_11 rfl (v_sip c_151_12 (by decide) ?_)))
  by_cases h_29 : c 41 2 + 20 ≤ 600
  · refine v_ic_le_t (t := 20) c_151_15 rfl ⟨by first | exact rgp_l h_28.1 (by decide) | omega, h_29, by decide⟩ (q_iconst c_151_20 (q_istore c_151_21 (nb_ rfl) ?_))
    have hI_30 := iw_41_0 (v := 0) hI ⟨by decide, by decide⟩
    refine Wp_ls [(0, .ref 41), (1, vi a1), (2, vi a2), (3, vi a3), (4, vi a4), (5, vi a5), (6, vi 0)] (lsub_cons rfl (lsub_cons rfl (lsub_cons rfl (lsub_cons rfl (lsub_cons rfl (lsub_cons rfl (lsub_cons rfl lsub_nil))))))) ?_
    have h_31 : (up c 41 0 0) 41 2 = c 41 2 := (up_n (by decide))
    exact (s_151_l (sc := sc) (d := d) hI ha1 ha2 ha3 ha4 ha5 K 44) (up c 41 0 0) 0 hI_30 (fun a j hm => up_b (Decidable.or_iff_not_imp_left.mpr (fun h1 h2 => hm (Or.inl ⟨Decidable.not_not.mp h1, h2⟩)))) ⟨by decide, by decide⟩ (by first | assumption | omega) (by first | exact q_54b025b5a h_29 | omega) (by omega)
  · refine v_ic_le_f (t := 20) c_151_15 rfl ⟨by decide, (Int.not_le.mp h_29), by first | exact rgp_h h_28.2 (by decide) | omega⟩ (q_iconst c_151_18 (q_iret c_151_19 rfl ?_))
    have hI_32 := iw_41_0 (v := 0) hI ⟨by decide, by decide⟩
    exact K (up c 41 0 0) (-1) hI_32 (fun a j hm => up_b (Decidable.or_iff_not_imp_left.mpr (fun h1 h2 => hm (Or.inl ⟨Decidable.not_not.mp h1, h2⟩)))) ⟨by decide, by decide⟩

set_option maxRecDepth 100000 in
set_option maxHeartbeats 4000000 in
theorem s_153 {sc : List Int32} {e : Int} {d u P Q : Nat} {c : ME} {a1 : Int} {a2 : Int} {Z : AR → Prop} (hI : Iv u e P Q c) (ha1 : 1 ≤ a1 ∧ a1 ≤ 3) (ha2 : 0 ≤ a2 ∧ a2 ≤ 605) (K : ∀ (c2 : ME), Iv u e P Q c2 → (∀ (a : Nat) (j : Int), ¬ ((a = 41 ∧ j = 5) ∨ (a = 41 ∧ j = 6)) → c2 a j = c a j) → ((c2 41 5 ≠ (-1))) → Z (.inl (none), Wd P Q P P c2, 0, 0)) : Wp sc (d + 7) 153 0 [(0, .ref 41), (1, vi a1), (2, vi a2)] [] (Wd P Q P P c) 0 0 Z := by
  have hP := iv_P hI
  have hQ := iv_Q hI
  refine q_aload_n c_153_0 rfl ?_
  have h_1 := ir_41_5 hI
  refine v_gi (z := 5) (v := c 41 5) c_153_1 kf_8_102 rfl (nb_ rfl) rfl rfl rfl (q_iconst c_153_4 ?_)
  by_cases h_2 : c 41 5 = (-1)
  · refine v_ic_eq_t (t := 9) c_153_5 rfl h_2 (q_aload_n c_153_9 rfl (q_iload_n c_153_10 rfl (v_pi (z := 5) c_153_11 kf_8_102 rfl (nb_ rfl) rfl rfl rfl (by decide) (q_aload_n c_153_14 rfl (q_iload_n c_153_15 rfl (v_pi (z := 6) c_153_16 kf_8_105 rfl (nb_ rfl) rfl rfl rfl (by decide) (q_vret rfl rfl ?_)))))))
    have hI_3 := iw_41_5 (v := a2) hI ⟨(Int.le_trans (by decide) ha2.1), ha2.2⟩
    have hI_4 := iw_41_6 (v := a1) hI_3 ⟨(Int.le_trans (by decide) ha1.1), ha1.2⟩
    have h_5 : (up (up c 41 5 a2) 41 6 a1) 41 5 = a2 := ((up_n (by decide)).trans (up_e rfl))
    exact K (up (up c 41 5 a2) 41 6 a1) hI_4 (fun a j hm => (up_b (Decidable.or_iff_not_imp_left.mpr (fun h1 h2 => hm (Or.inr ⟨Decidable.not_not.mp h1, h2⟩)))).trans (up_b (Decidable.or_iff_not_imp_left.mpr (fun h1 h2 => hm (Or.inl ⟨Decidable.not_not.mp h1, h2⟩))))) (by first | exact q_24fba09a9 ha2 | omega)
  · refine v_ic_eq_f (t := 9) c_153_5 rfl ⟨h_2, ⟨(Int.le_trans (by decide) h_1.1), (Int.le_trans h_1.2 (by decide))⟩, by decide, by decide⟩ (q_vret rfl rfl ?_)
    exact K c hI (fun a j hm => rfl) (by first | exact q_c967a1259 h_1 h_2 | omega)

set_option maxRecDepth 100000 in
set_option maxHeartbeats 4000000 in
theorem s_154_l {sc : List Int32} {e : Int} {d u P Q : Nat} {c : ME} {Z : AR → Prop} (hI : Iv u e P Q c)  (K : ∀ (c2 : ME) (y : Int), Iv u e P Q c2 → (∀ (a : Nat) (j : Int), ¬ ((a = 41 ∧ j = 4)) → c2 a j = c a j) → (-2147483648) ≤ y ∧ y ≤ 2147483647 → ((c2 41 4 ≥ c 41 4)) → ((y = 0) ∨ (c2 41 4 < c 41 3)) → ((c2 41 4 ≤ c 41 3) ∨ (c2 41 4 = c 41 4)) → ((y = 0) ∨ (y = c 43 (c2 41 4))) → Z (.inl (some (vi y)), Wd P Q P P c2, 0, 0)) : ∀ n : Nat, (∀ (c2 : ME), Iv u e P Q c2 → (∀ (a : Nat) (j : Int), ¬ ((a = 41 ∧ j = 4)) → c2 a j = c a j) → ((c2 41 4 ≥ c 41 4)) → ((c2 41 4 ≤ c 41 3) ∨ (c2 41 4 = c 41 4)) → 1211 - 2 * c2 41 4 < (n : Int) → Wp sc (d + 7) 154 0 [(0, .ref 41)] [] (Wd P Q P P c2) 0 0 Z) := by
  intro n
  induction n with
  | zero => exact (by intro c2 hI2 hF hx0 hx1 hm9; have hP := iv_P hI; have hQ := iv_Q hI; have h_14 := ir_41_4 hI2; exfalso; omega)
  | succ n ih =>
    have hP := iv_P hI
    have hQ := iv_Q hI
    intro c2 hI2 hF hx0 hx1 hm9
    have h_1 := ir_41_4 hI
    have h_2 := ir_41_4 hI2
    have h_3 := ir_41_3 hI
    refine q_aload_n c_154_0 rfl (v_gi (z := 4) (v := c2 41 4) c_154_1 kf_8_108 rfl (nb_ rfl) rfl rfl rfl (q_aload_n c_154_4 rfl ?_))
    have kn_4 : Hid (c2 41 3 = c 41 3) := hF 41 3 (fun h => absurd h.2 (ni rfl))
    refine v_gi (z := 3) (v := c 41 3) c_154_5 kf_8_111 rfl (nb_ rfl) rfl rfl (hid kn_4) ?_
    by_cases h_5 : c2 41 4 ≥ c 41 3
    · refine v_ic_ge_t (t := 38) c_154_8 rfl ⟨(Int.le_trans (by decide) h_3.1), h_5, (Int.le_trans h_2.2 (by decide))⟩ (q_aload_n c_154_38 rfl (v_gi (z := 4) (v := c2 41 4) c_154_39 kf_8_108 rfl (nb_ rfl) rfl rfl rfl (q_aload_n c_154_42 rfl (v_gi (z := 3) (v := c 41 3) c_154_43 kf_8_111 rfl (nb_ rfl) rfl rfl (hid kn_4) (v_ic_ge_t (t := 61) c_154_46 rfl ⟨(Int.le_trans (by decide) h_3.1), by first | exact q_a29fbb6d7 h_5 | omega, (Int.le_trans h_2.2 (by decide))⟩ (q_iconst c_154_61 (q_iret c_154_62 rfl ?_)))))))
      have h_6 := ir_43 hI (c2 41 4)
      have h_7 : c 43 ((c2 41 4)) = c 43 (c2 41 4) := congrArg (c 43) (by first | exact q_ef0f4cfe4 | assumption | exact Int.le_antisymm (by omega) (by omega))
      exact K c2 0 hI2 (fun a j hm => hF a j hm) ⟨by decide, by decide⟩ (by first | (clear h_1 h_2 h_3 h_5 h_6 hx1; omega) | omega) (Or.inl (by first | assumption | omega)) (by omega) (Or.inl (by first | assumption | omega))
    · refine v_ic_ge_f (t := 38) c_154_8 rfl ⟨(Int.le_trans (by decide) h_2.1), (Int.not_le.mp h_5), (Int.le_trans h_3.2 (by decide))⟩ (q_aload_n c_154_11 rfl (v_gr (t := 43) c_154_12 kf_8_20 rfl (nb_ rfl) rfl (q_aload_n c_154_15 rfl (v_gi (z := 4) (v := c2 41 4) c_154_16 kf_8_108 rfl (nb_ rfl) rfl rfl rfl ?_))))
      have h_8 := ir_43 hI (c2 41 4)
      have kn_9 : Hid (c2 43 (c2 41 4) = c 43 (c2 41 4)) := hF 43 (c2 41 4) (fun h => absurd h.1 (nn rfl))
      refine v_ia (v := c 43 (c2 41 4)) c_154_19 rfl (by decide) (by decide) ⟨h_2.1, by first | exact q_364416c3d h_3 h_5 | omega⟩ (hid kn_9) (v_bip c_154_20 (by decide) ?_)
      by_cases h_10 : c 43 (c2 41 4) ≠ 32
      · refine v_ic_ne_t (t := 38) c_154_22 rfl ⟨h_10, ⟨by first | exact q_cc1935a2a h_8 | omega, by first | exact q_4e52e4576 h_8 | omega⟩, by decide, by decide⟩ (q_aload_n c_154_38 rfl (v_gi (z := 4) (v := c2 41 4) c_154_39 kf_8_108 rfl (nb_ rfl) rfl rfl rfl (q_aload_n c_154_42 rfl (v_gi (z := 3) (v := c 41 3) c_154_43 kf_8_111 rfl (nb_ rfl) rfl rfl (hid kn_4) (v_ic_ge_f (t := 61) c_154_46 rfl ⟨(Int.le_trans (by decide) h_2.1), by first | exact q_d17d18138 h_5 | omega, (Int.le_trans h_3.2 (by decide))⟩ (q_aload_n c_154_49 rfl (v_gr (t := 43) c_154_50 kf_8_20 rfl (nb_ rfl) rfl ?_)))))))
        refine q_aload_n c_154_53 rfl (v_gi (z := 4) (v := c2 41 4) c_154_54 kf_8_108 rfl (nb_ rfl) rfl rfl rfl (v_ia (v := c 43 (c2 41 4)) c_154_57 rfl (by decide) (by decide) ⟨h_2.1, by first | exact q_364416c3d h_3 h_5 | omega⟩ (hid kn_9) (q_goto (t := 62) c_154_58 rfl (q_iret c_154_62 rfl ?_))))
        have h_11 : c 43 ((c2 41 4)) = c 43 (c2 41 4) := congrArg (c 43) (by first | exact q_ef0f4cfe4 | assumption | exact Int.le_antisymm (by omega) (by omega))
        exact K c2 (c 43 (c2 41 4)) hI2 (fun a j hm => hF a j hm) ⟨by first | exact q_cc1935a2a h_8 | omega, by first | exact q_4e52e4576 h_8 | omega⟩ (by first | (clear h_1 h_2 h_3 h_5 h_8 hx1 h_10; omega) | omega) (Or.inr (by first | exact q_d17d18138 h_5 | omega)) (Or.inl (by first | exact q_5fcb01701 h_5 | omega)) (Or.inr (by first | assumption | omega))
      · refine v_ic_ne_f (t := 38) c_154_22 rfl (Decidable.not_not.mp h_10) (q_aload_n c_154_25 rfl (q_dup c_154_26 rfl (v_gi (z := 4) (v := c2 41 4) c_154_27 kf_8_108 rfl (nb_ rfl) rfl rfl rfl (q_iconst c_154_30 (v_iadd (v := c2 41 4 + 1) c_154_31 rfl (v_pi (z := 4) c_154_32 kf_8_108 rfl (nb_ rfl) rfl rfl rfl (by decide) (q_goto (t := 0) c_154_35 rfl ?_)))))))
        have hI_12 := iw_41_4 (v := c2 41 4 + 1) hI2 ⟨by first | exact rgp_l h_2.1 (by decide) | omega, by first | exact q_dadb204b8 h_3 h_5 | omega⟩
        refine Wp_ls [(0, .ref 41)] (lsub_cons rfl lsub_nil) ?_
        have h_13 : (up c2 41 4 (c2 41 4 + 1)) 41 4 = c2 41 4 + 1 := (up_e rfl)
        exact ih (up c2 41 4 (c2 41 4 + 1)) hI_12 (fun a j hm => (up_b (Decidable.or_iff_not_imp_left.mpr (fun h1 h2 => hm ⟨Decidable.not_not.mp h1, h2⟩))).trans (hF a j hm)) (by first | (clear h_1 h_2 h_3 h_5 h_8 h_10 hx1; omega) | omega) (Or.inl (by first | exact q_d6c070bf6 h_5 | omega)) (by omega)
set_option maxRecDepth 100000 in
set_option maxHeartbeats 4000000 in
theorem s_154 {sc : List Int32} {e : Int} {d u P Q : Nat} {c : ME} {Z : AR → Prop} (hI : Iv u e P Q c)  (K : ∀ (c2 : ME) (y : Int), Iv u e P Q c2 → (∀ (a : Nat) (j : Int), ¬ ((a = 41 ∧ j = 4)) → c2 a j = c a j) → (-2147483648) ≤ y ∧ y ≤ 2147483647 → ((c2 41 4 ≥ c 41 4)) → ((y = 0) ∨ (c2 41 4 < c 41 3)) → ((c2 41 4 ≤ c 41 3) ∨ (c2 41 4 = c 41 4)) → ((y = 0) ∨ (y = c 43 (c2 41 4))) → Z (.inl (some (vi y)), Wd P Q P P c2, 0, 0)) : Wp sc (d + 7) 154 0 [(0, .ref 41)] [] (Wd P Q P P c) 0 0 Z := by
  have hP := iv_P hI
  have hQ := iv_Q hI
  refine Wp_ls [(0, .ref 41)] (lsub_cons rfl lsub_nil) ?_
  have h_15 := ir_41_4 hI
  exact (s_154_l (sc := sc) (d := d) hI K 1214) c hI (fun a j hm => rfl) (by first | exact q_e074ea49a | omega) (Or.inr (by first | assumption | omega)) (by omega)
end
