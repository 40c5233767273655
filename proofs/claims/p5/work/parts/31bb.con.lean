/-! ===== contracts 15 ===== -/
theorem q_a528eb14d {x0 : Int} (f0 : 0 ≤ x0 ∧ x0 ≤ 3) : 0 ≤ 3 * x0 := by omega
theorem q_c653f2490 {x0 : Int} (f0 : 0 ≤ x0 ∧ x0 ≤ 3) : 3 * x0 < 12 := by omega
theorem q_31334ae77 {x0 : Int} (f0 : 0 ≤ x0 ∧ x0 ≤ 3) : 0 ≤ 3 * x0 + 1 := by omega
theorem q_f26004469 {x0 : Int} (f0 : 0 ≤ x0 ∧ x0 ≤ 3) : 3 * x0 + 1 < 12 := by omega
theorem q_b14b554d2 {x0 : Int} (f0 : 0 ≤ x0 ∧ x0 ≤ 3) : 0 ≤ 3 * x0 + 2 := by omega
theorem q_65819fa91 {x0 : Int} (f0 : 0 ≤ x0 ∧ x0 ≤ 3) : 3 * x0 + 2 < 12 := by omega
theorem q_b528aeba2 {x0 : Int} (f0 : 0 ≤ x0 ∧ x0 ≤ 5) : 4 * x0 < 35 := by omega
theorem q_ff1dc68db {x0 : Int} (f0 : 0 ≤ x0 ∧ x0 ≤ 5) : 4 * x0 + 2 < 35 := by omega
theorem q_f794b9410 {x0 : Int} (f0 : 0 ≤ x0 ∧ x0 ≤ 5) : 4 * x0 + 3 < 35 := by omega
theorem q_586eba1d6 {x0 : Int} (f0 : 0 ≤ x0 ∧ x0 ≤ 5) : 4 * x0 + 1 < 35 := by omega
theorem q_26b090a2b {x0 : Int} (f0 : 0 ≤ x0 ∧ x0 ≤ 3) : x0 + 30 < 37 := by omega
theorem q_7e8eed9ea {x0 x1 : Int} (f0 : 0 ≤ x0 ∧ x0 ≤ 5) (f1 : 0 ≤ x1 ∧ x1 ≤ 3) : 4 * x0 + x1 < 37 := by omega
theorem q_57f615a18 {x0 : Int} (f0 : 0 ≤ x0 ∧ x0 ≤ 5) : x0 + 24 < 37 := by omega
theorem c_188_0 : mLk 188 0 = some (.aload_n 0, 1) := rfl
theorem c_188_1 : mLk 188 1 = some (.iload_n 2, 1) := rfl
theorem c_188_2 : mLk 188 2 = some (.invokevirtual 343, 3) := rfl
theorem c_188_5 : mLk 188 5 = some (.ifCond .ne 5, 3) := rfl
theorem c_188_10 : mLk 188 10 = some (.iconst 1, 1) := rfl
theorem c_188_11 : mLk 188 11 = some (.istore_n 3, 1) := rfl
theorem c_188_12 : mLk 188 12 = some (.iload_n 3, 1) := rfl
theorem c_188_13 : mLk 188 13 = some (.iconst 4, 1) := rfl
theorem c_188_14 : mLk 188 14 = some (.if_icmp .ge 69, 3) := rfl
theorem c_188_17 : mLk 188 17 = some (.aload_n 0, 1) := rfl
theorem c_188_18 : mLk 188 18 = some (.getfield 68, 3) := rfl
theorem c_188_21 : mLk 188 21 = some (.iconst 4, 1) := rfl
theorem c_188_22 : mLk 188 22 = some (.iload_n 2, 1) := rfl
theorem c_188_23 : mLk 188 23 = some (.imul, 1) := rfl
theorem c_188_24 : mLk 188 24 = some (.iload_n 3, 1) := rfl
theorem c_188_25 : mLk 188 25 = some (.iadd, 1) := rfl
theorem c_188_26 : mLk 188 26 = some (.iaload, 1) := rfl
theorem c_188_27 : mLk 188 27 = some (.aload_n 0, 1) := rfl
theorem c_188_28 : mLk 188 28 = some (.getfield 35, 3) := rfl
theorem c_188_31 : mLk 188 31 = some (.iconst 3, 1) := rfl
theorem c_188_32 : mLk 188 32 = some (.iload_n 1, 1) := rfl
theorem c_188_33 : mLk 188 33 = some (.imul, 1) := rfl
theorem c_188_34 : mLk 188 34 = some (.iload_n 3, 1) := rfl
theorem c_188_35 : mLk 188 35 = some (.iadd, 1) := rfl
theorem c_188_36 : mLk 188 36 = some (.iconst 1, 1) := rfl
theorem c_188_37 : mLk 188 37 = some (.isub, 1) := rfl
theorem c_188_38 : mLk 188 38 = some (.iaload, 1) := rfl
theorem c_188_40 : mLk 188 40 = some (.bipush 10, 2) := rfl
theorem c_188_43 : mLk 188 43 = some (.istore 4, 2) := rfl
theorem c_188_45 : mLk 188 45 = some (.aload_n 0, 1) := rfl
theorem c_188_46 : mLk 188 46 = some (.getfield 68, 3) := rfl
theorem c_188_49 : mLk 188 49 = some (.iconst 4, 1) := rfl
theorem c_188_50 : mLk 188 50 = some (.iload_n 2, 1) := rfl
theorem c_188_51 : mLk 188 51 = some (.imul, 1) := rfl
theorem c_188_52 : mLk 188 52 = some (.iload_n 3, 1) := rfl
theorem c_188_53 : mLk 188 53 = some (.iadd, 1) := rfl
theorem c_188_54 : mLk 188 54 = some (.dup2, 1) := rfl
theorem c_188_55 : mLk 188 55 = some (.iaload, 1) := rfl
theorem c_188_56 : mLk 188 56 = some (.iload 4, 2) := rfl
theorem c_188_59 : mLk 188 59 = some (.iastore, 1) := rfl
theorem c_188_60 : mLk 188 60 = some (.aload_n 0, 1) := rfl
theorem c_188_61 : mLk 188 61 = some (.getfield 68, 3) := rfl
theorem c_188_64 : mLk 188 64 = some (.iconst 4, 1) := rfl
theorem c_188_65 : mLk 188 65 = some (.iload_n 2, 1) := rfl
theorem c_188_66 : mLk 188 66 = some (.imul, 1) := rfl
theorem c_188_67 : mLk 188 67 = some (.iload_n 3, 1) := rfl
theorem c_188_68 : mLk 188 68 = some (.iadd, 1) := rfl
theorem c_188_69 : mLk 188 69 = some (.iconst 1, 1) := rfl
theorem c_188_70 : mLk 188 70 = some (.isub, 1) := rfl
theorem c_188_71 : mLk 188 71 = some (.dup2, 1) := rfl
theorem c_188_72 : mLk 188 72 = some (.iaload, 1) := rfl
theorem c_188_73 : mLk 188 73 = some (.iload 4, 2) := rfl
theorem c_188_76 : mLk 188 76 = some (.iastore, 1) := rfl
theorem c_188_77 : mLk 188 77 = some (.iinc 3 1, 3) := rfl
theorem c_188_80 : mLk 188 80 = some (.goto (-68), 3) := rfl
theorem c_188_83 : mLk 188 83 = some (.aload_n 0, 1) := rfl
theorem c_188_84 : mLk 188 84 = some (.getfield 68, 3) := rfl
theorem c_188_87 : mLk 188 87 = some (.iconst 4, 1) := rfl
theorem c_188_88 : mLk 188 88 = some (.iload_n 2, 1) := rfl
theorem c_188_89 : mLk 188 89 = some (.imul, 1) := rfl
theorem c_188_91 : mLk 188 91 = some (.aload_n 0, 1) := rfl
theorem c_188_92 : mLk 188 92 = some (.getfield 166, 3) := rfl
theorem c_188_96 : mLk 188 96 = some (.bipush 100, 2) := rfl
theorem c_188_99 : mLk 188 99 = some (.istore_n 3, 1) := rfl
theorem c_188_100 : mLk 188 100 = some (.aload_n 0, 1) := rfl
theorem c_188_101 : mLk 188 101 = some (.getfield 68, 3) := rfl
theorem c_188_104 : mLk 188 104 = some (.iconst 4, 1) := rfl
theorem c_188_105 : mLk 188 105 = some (.iload_n 2, 1) := rfl
theorem c_188_106 : mLk 188 106 = some (.imul, 1) := rfl
theorem c_188_107 : mLk 188 107 = some (.dup2, 1) := rfl
theorem c_188_109 : mLk 188 109 = some (.iload_n 3, 1) := rfl
theorem c_188_111 : mLk 188 111 = some (.iastore, 1) := rfl
theorem c_188_112 : mLk 188 112 = some (.aload_n 0, 1) := rfl
theorem c_188_113 : mLk 188 113 = some (.getfield 68, 3) := rfl
theorem c_188_116 : mLk 188 116 = some (.bipush 35, 2) := rfl
theorem c_188_118 : mLk 188 118 = some (.dup2, 1) := rfl
theorem c_188_119 : mLk 188 119 = some (.iaload, 1) := rfl
theorem c_188_120 : mLk 188 120 = some (.iload_n 3, 1) := rfl
theorem c_188_122 : mLk 188 122 = some (.iastore, 1) := rfl
theorem c_188_123 : mLk 188 123 = some (.iconst 1, 1) := rfl
theorem c_188_124 : mLk 188 124 = some (.ireturn, 1) := rfl
theorem c_188_8 : mLk 188 8 = some (.iconst 0, 1) := rfl
theorem c_188_9 : mLk 188 9 = some (.ireturn, 1) := rfl
theorem c_189_0 : mLk 189 0 = some (.iload_n 3, 1) := rfl
theorem c_189_1 : mLk 189 1 = some (.aload_n 0, 1) := rfl
theorem c_189_2 : mLk 189 2 = some (.getfield 38, 3) := rfl
theorem c_189_5 : mLk 189 5 = some (.iload_n 1, 1) := rfl
theorem c_189_6 : mLk 189 6 = some (.iaload, 1) := rfl
theorem c_189_7 : mLk 189 7 = some (.if_icmp .gt 16, 3) := rfl
theorem c_189_23 : mLk 189 23 = some (.iload_n 3, 1) := rfl
theorem c_189_24 : mLk 189 24 = some (.aload_n 0, 1) := rfl
theorem c_189_25 : mLk 189 25 = some (.getfield 38, 3) := rfl
theorem c_189_28 : mLk 189 28 = some (.iload_n 1, 1) := rfl
theorem c_189_29 : mLk 189 29 = some (.iaload, 1) := rfl
theorem c_189_30 : mLk 189 30 = some (.iconst 1, 1) := rfl
theorem c_189_31 : mLk 189 31 = some (.iadd, 1) := rfl
theorem c_189_32 : mLk 189 32 = some (.if_icmp .ne 31, 3) := rfl
theorem c_189_63 : mLk 189 63 = some (.iconst 0, 1) := rfl
theorem c_189_64 : mLk 189 64 = some (.ireturn, 1) := rfl
theorem c_189_35 : mLk 189 35 = some (.aload_n 0, 1) := rfl
theorem c_189_36 : mLk 189 36 = some (.getfield 68, 3) := rfl
theorem c_189_39 : mLk 189 39 = some (.bipush 30, 2) := rfl
theorem c_189_41 : mLk 189 41 = some (.iload_n 1, 1) := rfl
theorem c_189_42 : mLk 189 42 = some (.iadd, 1) := rfl
theorem c_189_43 : mLk 189 43 = some (.iaload, 1) := rfl
theorem c_189_44 : mLk 189 44 = some (.iconst 1, 1) := rfl
theorem c_189_45 : mLk 189 45 = some (.if_icmp .ne 18, 3) := rfl
theorem c_189_48 : mLk 189 48 = some (.aload_n 0, 1) := rfl
theorem c_189_49 : mLk 189 49 = some (.getfield 68, 3) := rfl
theorem c_189_52 : mLk 189 52 = some (.iconst 4, 1) := rfl
theorem c_189_53 : mLk 189 53 = some (.iload_n 2, 1) := rfl
theorem c_189_54 : mLk 189 54 = some (.imul, 1) := rfl
theorem c_189_55 : mLk 189 55 = some (.iload_n 3, 1) := rfl
theorem c_189_56 : mLk 189 56 = some (.iadd, 1) := rfl
theorem c_189_57 : mLk 189 57 = some (.iaload, 1) := rfl
theorem c_189_58 : mLk 189 58 = some (.iconst 2, 1) := rfl
theorem c_189_59 : mLk 189 59 = some (.idiv, 1) := rfl
theorem c_189_60 : mLk 189 60 = some (.goto 4, 3) := rfl
theorem c_189_10 : mLk 189 10 = some (.aload_n 0, 1) := rfl
theorem c_189_11 : mLk 189 11 = some (.getfield 68, 3) := rfl
theorem c_189_14 : mLk 189 14 = some (.iconst 4, 1) := rfl
theorem c_189_15 : mLk 189 15 = some (.iload_n 2, 1) := rfl
theorem c_189_16 : mLk 189 16 = some (.imul, 1) := rfl
theorem c_189_17 : mLk 189 17 = some (.iload_n 3, 1) := rfl
theorem c_189_18 : mLk 189 18 = some (.iadd, 1) := rfl
theorem c_189_19 : mLk 189 19 = some (.iaload, 1) := rfl
theorem c_189_20 : mLk 189 20 = some (.goto 44, 3) := rfl
theorem c_190_0 : mLk 190 0 = some (.iconst 0, 1) := rfl
theorem c_190_1 : mLk 190 1 = some (.istore_n 3, 1) := rfl
theorem c_190_2 : mLk 190 2 = some (.iconst 0, 1) := rfl
theorem c_190_3 : mLk 190 3 = some (.istore 4, 2) := rfl
theorem c_190_5 : mLk 190 5 = some (.iload 4, 2) := rfl
theorem c_190_7 : mLk 190 7 = some (.iconst 4, 1) := rfl
theorem c_190_8 : mLk 190 8 = some (.if_icmp .ge 20, 3) := rfl
theorem c_190_11 : mLk 190 11 = some (.iload_n 3, 1) := rfl
theorem c_190_12 : mLk 190 12 = some (.aload_n 0, 1) := rfl
theorem c_190_13 : mLk 190 13 = some (.iload_n 1, 1) := rfl
theorem c_190_14 : mLk 190 14 = some (.iload_n 2, 1) := rfl
theorem c_190_15 : mLk 190 15 = some (.iload 4, 2) := rfl
theorem c_190_17 : mLk 190 17 = some (.invokevirtual 363, 3) := rfl
theorem c_190_20 : mLk 190 20 = some (.iadd, 1) := rfl
theorem c_190_21 : mLk 190 21 = some (.istore_n 3, 1) := rfl
theorem c_190_22 : mLk 190 22 = some (.iinc 4 1, 3) := rfl
theorem c_190_25 : mLk 190 25 = some (.goto (-20), 3) := rfl
theorem c_190_28 : mLk 190 28 = some (.iload_n 3, 1) := rfl
theorem c_190_29 : mLk 190 29 = some (.ireturn, 1) := rfl
theorem c_191_0 : mLk 191 0 = some (.aload_n 0, 1) := rfl
theorem c_191_1 : mLk 191 1 = some (.getfield 68, 3) := rfl
theorem c_191_4 : mLk 191 4 = some (.bipush 24, 2) := rfl
theorem c_191_6 : mLk 191 6 = some (.iload_n 1, 1) := rfl
theorem c_191_7 : mLk 191 7 = some (.iadd, 1) := rfl
theorem c_191_8 : mLk 191 8 = some (.iload_n 2, 1) := rfl
theorem c_191_9 : mLk 191 9 = some (.aload_n 0, 1) := rfl
theorem c_191_10 : mLk 191 10 = some (.getfield 68, 3) := rfl
theorem c_191_13 : mLk 191 13 = some (.bipush 24, 2) := rfl
theorem c_191_15 : mLk 191 15 = some (.iload_n 1, 1) := rfl
theorem c_191_16 : mLk 191 16 = some (.iadd, 1) := rfl
theorem c_191_17 : mLk 191 17 = some (.iaload, 1) := rfl
theorem c_191_18 : mLk 191 18 = some (.if_icmp .le 7, 3) := rfl
theorem c_191_25 : mLk 191 25 = some (.aload_n 0, 1) := rfl
theorem c_191_26 : mLk 191 26 = some (.getfield 68, 3) := rfl
theorem c_191_29 : mLk 191 29 = some (.bipush 24, 2) := rfl
theorem c_191_31 : mLk 191 31 = some (.iload_n 1, 1) := rfl
theorem c_191_32 : mLk 191 32 = some (.iadd, 1) := rfl
theorem c_191_33 : mLk 191 33 = some (.iaload, 1) := rfl
theorem c_191_34 : mLk 191 34 = some (.iastore, 1) := rfl
theorem c_191_21 : mLk 191 21 = some (.iload_n 2, 1) := rfl
theorem c_191_22 : mLk 191 22 = some (.goto 12, 3) := rfl
theorem c_192_0 : mLk 192 0 = some (.iconst 0, 1) := rfl
theorem c_192_1 : mLk 192 1 = some (.istore_n 2, 1) := rfl
theorem c_192_2 : mLk 192 2 = some (.iload_n 2, 1) := rfl
theorem c_192_3 : mLk 192 3 = some (.iconst 4, 1) := rfl
theorem c_192_4 : mLk 192 4 = some (.if_icmp .ge 20, 3) := rfl
theorem c_192_7 : mLk 192 7 = some (.aload_n 0, 1) := rfl
theorem c_192_8 : mLk 192 8 = some (.getfield 68, 3) := rfl
theorem c_192_11 : mLk 192 11 = some (.iconst 4, 1) := rfl
theorem c_192_12 : mLk 192 12 = some (.iload_n 1, 1) := rfl
theorem c_192_13 : mLk 192 13 = some (.imul, 1) := rfl
theorem c_192_14 : mLk 192 14 = some (.iload_n 2, 1) := rfl
theorem c_192_15 : mLk 192 15 = some (.iadd, 1) := rfl
theorem c_192_16 : mLk 192 16 = some (.iconst 0, 1) := rfl
theorem c_192_17 : mLk 192 17 = some (.iastore, 1) := rfl
theorem c_192_18 : mLk 192 18 = some (.iinc 2 1, 3) := rfl
theorem c_192_21 : mLk 192 21 = some (.goto (-19), 3) := rfl
theorem c_192_24 : mLk 192 24 = some (.aload_n 0, 1) := rfl
theorem c_192_25 : mLk 192 25 = some (.getfield 68, 3) := rfl
theorem c_192_28 : mLk 192 28 = some (.bipush 24, 2) := rfl
theorem c_192_30 : mLk 192 30 = some (.iload_n 1, 1) := rfl
theorem c_192_31 : mLk 192 31 = some (.iadd, 1) := rfl
theorem c_192_32 : mLk 192 32 = some (.iconst 0, 1) := rfl
theorem c_192_33 : mLk 192 33 = some (.iastore, 1) := rfl
theorem km_8_343 : a_lk (kM 8) 343 = some (0, 187) := rfl
theorem km_8_363 : a_lk (kM 8) 363 = some (0, 189) := rfl
set_option maxRecDepth 100000 in
set_option maxHeartbeats 4000000 in
theorem s_188 {sc : List Int32} {d P Q : Nat} {c : ME} {a1 : Int} {a2 : Int} {Z : AR → Prop} (hI : Iv 0 (-1) P Q c) (ha1 : 0 ≤ a1 ∧ a1 ≤ 3) (ha2 : 0 ≤ a2 ∧ a2 ≤ 5) (K : ∀ (c2 : ME) (y : Int), Iv 0 (-1) P Q c2 → (∀ (a : Nat) (j : Int), ¬ (a = 59) → c2 a j = c a j) → 0 ≤ y ∧ y ≤ 1 → Z (.inl (some (vi y)), Wd P Q P P c2, 0, 0)) : Wp sc (d + 8) 188 0 [(0, .ref 41), (1, vi a1), (2, vi a2)] [] (Wd P Q P P c) 0 0 Z := by
  have hP := iv_P hI
  have hQ := iv_Q hI
  have hIo : Iv 59 (-1) P Q c := iv_open hI
  have hsum_1 := ir_59_r hI (of_decide_eq_true rfl) (j := a2) (by omega)
  have h_2 := ir_59_g hI (j := 4 * a2) ((q_9f1d5ffdc ha2))
  have h_3 := ir_59_g hI (j := 4 * a2 + 1) ((q_0a2ee6f8f ha2))
  have h_4 := ir_59_g hI (j := 4 * a2 + 2) ((q_e07a293a2 ha2))
  have h_5 := ir_59_g hI (j := 4 * a2 + 3) ((q_d09cb0b73 ha2))
  refine q_aload_n c_188_0 rfl (q_iload_n c_188_1 rfl (v_cv c_188_2 km_8_343 rfl rfl (Nat.le_of_ble_eq_true rfl) ⟨⟨rfl, rfl⟩, Nat.le_of_ble_eq_true rfl, rfl⟩ (Nat.le_of_ble_eq_true rfl) (Nat.le_of_ble_eq_true rfl) (s_187 (v1 := c 59 (4 * a2)) (v2 := c 59 (4 * a2 + 1)) (v3 := c 59 (4 * a2 + 2)) (v4 := c 59 (4 * a2 + 3)) (r := c 59 (4 * a2 + 1) + c 59 (4 * a2 + 2) + c 59 (4 * a2 + 3) + c 59 (4 * a2)) (a1 := a2) hIo (show 0 ≤ a2 ∧ a2 ≤ 5 from ha2) (rfl) (rfl) (rfl) (rfl) (by omega) (bk_inl ?_))))
  by_cases h_6 : c 59 (4 * a2 + 1) + c 59 (4 * a2 + 2) + c 59 (4 * a2 + 3) + c 59 (4 * a2) ≠ 0
  · refine v_if_ne_t (t := 10) c_188_5 rfl ⟨h_6, ⟨(q_e052ef40e h_2 h_3 h_4 h_5), (q_6719c4bfd hsum_1)⟩, of_decide_eq_true rfl, of_decide_eq_true rfl⟩ (q_iconst c_188_10 (q_istore_n c_188_11 (Nat.le_of_ble_eq_true rfl) (q_iload_n c_188_12 rfl (q_iconst c_188_13 (v_ic_ge_f (t := 83) c_188_14 rfl (of_decide_eq_true rfl) (q_aload_n c_188_17 rfl (v_gr (t := 59) c_188_18 kf_8_68 rfl (Nat.le_of_ble_eq_true rfl) rfl ?_)))))))
    refine q_iconst c_188_21 (q_iload_n c_188_22 rfl (v_imul (v := 4 * a2) c_188_23 rfl (q_iload_n c_188_24 rfl (v_iadd (v := 4 * a2 + 1) c_188_25 rfl (v_ia (v := c 59 (4 * a2 + 1)) c_188_26 rfl (of_decide_eq_true rfl) (of_decide_eq_true rfl) ⟨(q_83fdbd35d ha2), (q_7a0c0a739 ha2)⟩ rfl (q_aload_n c_188_27 rfl (v_gr (t := 48) c_188_28 kf_8_35 rfl (Nat.le_of_ble_eq_true rfl) rfl ?_)))))))
    refine q_iconst c_188_31 (q_iload_n c_188_32 rfl (v_imul (v := 3 * a1) c_188_33 rfl (q_iload_n c_188_34 rfl (v_iadd (v := 3 * a1 + 1) c_188_35 rfl (q_iconst c_188_36 (v_isub (v := 3 * a1) c_188_37 (by first | (clear ha1 ha2 h_2 h_3 h_4 h_5 hsum_1 h_6; omega) | omega) ?_))))))
    have h_7 := ir_48 hI (3 * a1)
    refine v_ia (v := c 48 (3 * a1)) c_188_38 rfl (of_decide_eq_true rfl) (of_decide_eq_true rfl) ⟨(q_a528eb14d ha1), (q_c653f2490 ha1)⟩ rfl ?_
    have h_8 : 0 ≤ (c 59 (4 * a2 + 1)) * (c 48 (3 * a1)) ∧ (c 59 (4 * a2 + 1)) * (c 48 (3 * a1)) ≤ 10 * (c 59 (4 * a2 + 1)) := mul_bd (by omega) (by omega) (by omega)
    have h_9 : 0 ≤ (c 59 (4 * a2 + 1)) * (c 48 (3 * a1)) ∧ (c 59 (4 * a2 + 1)) * (c 48 (3 * a1)) ≤ 9999 * (c 48 (3 * a1)) := mul_bd2 (by omega) (by omega) (by omega)
    refine v_imul (v := ((c 59 (4 * a2 + 1)) * (c 48 (3 * a1)))) rfl rfl (v_bip c_188_40 (of_decide_eq_true rfl) (v_idiv (v := (((c 59 (4 * a2 + 1)) * (c 48 (3 * a1))) / 10)) rfl (by omega) rfl (q_istore c_188_43 (Nat.le_of_ble_eq_true rfl) (q_aload_n c_188_45 rfl (v_gr (t := 59) c_188_46 kf_8_68 rfl (Nat.le_of_ble_eq_true rfl) rfl (q_iconst c_188_49 (q_iload_n c_188_50 rfl ?_)))))))
    refine v_imul (v := 4 * a2) c_188_51 rfl (q_iload_n c_188_52 rfl (v_iadd (v := 4 * a2 + 1) c_188_53 rfl (q_dup2 c_188_54 ⟨rfl, rfl⟩ (v_ia (v := c 59 (4 * a2 + 1)) c_188_55 rfl (of_decide_eq_true rfl) (of_decide_eq_true rfl) ⟨(q_83fdbd35d ha2), (q_7a0c0a739 ha2)⟩ rfl (q_iload c_188_56 rfl (v_isub (v := c 59 (4 * a2 + 1) - (((c 59 (4 * a2 + 1)) * (c 48 (3 * a1))) / 10)) rfl rfl (v_is c_188_59 rfl (of_decide_eq_true rfl) (of_decide_eq_true rfl) ⟨(q_83fdbd35d ha2), (q_7a0c0a739 ha2)⟩ ?_)))))))
    refine q_aload_n c_188_60 rfl (v_gr (t := 59) c_188_61 kf_8_68 rfl (Nat.le_of_ble_eq_true rfl) rfl (q_iconst c_188_64 (q_iload_n c_188_65 rfl (v_imul (v := 4 * a2) c_188_66 rfl (q_iload_n c_188_67 rfl (v_iadd (v := 4 * a2 + 1) c_188_68 rfl (q_iconst c_188_69 ?_)))))))
    refine v_isub (v := 4 * a2) c_188_70 (by first | (clear ha1 ha2 h_2 h_3 h_4 h_5 hsum_1 h_7 h_8 h_9 h_6; omega) | omega) (q_dup2 c_188_71 ⟨rfl, rfl⟩ (v_ia (v := c 59 (4 * a2)) c_188_72 rfl (of_decide_eq_true rfl) (of_decide_eq_true rfl) ⟨(q_c065257af ha2), (q_a49915bbb ha2)⟩ (up_n ((ne_0a (ni rfl)))) (q_iload c_188_73 rfl (v_iadd (v := (((c 59 (4 * a2 + 1)) * (c 48 (3 * a1))) / 10) + c 59 (4 * a2)) rfl (by first | (clear ha1 ha2 h_2 h_3 h_4 h_5 hsum_1 h_7 h_8 h_9 h_6; omega) | omega) (v_is c_188_76 rfl (of_decide_eq_true rfl) (of_decide_eq_true rfl) ⟨(q_c065257af ha2), (q_a49915bbb ha2)⟩ (v_iinc (v := 2) c_188_77 rfl (Nat.le_of_ble_eq_true rfl) (of_decide_eq_true rfl) (q_goto (t := 12) c_188_80 rfl ?_)))))))
    refine q_iload_n c_188_12 rfl (q_iconst c_188_13 (v_ic_ge_f (t := 83) c_188_14 rfl (of_decide_eq_true rfl) (q_aload_n c_188_17 rfl (v_gr (t := 59) c_188_18 kf_8_68 rfl (Nat.le_of_ble_eq_true rfl) rfl (q_iconst c_188_21 (q_iload_n c_188_22 rfl (v_imul (v := 4 * a2) c_188_23 rfl ?_)))))))
    refine q_iload_n c_188_24 rfl (v_iadd (v := 4 * a2 + 2) c_188_25 rfl (v_ia (v := c 59 (4 * a2 + 2)) c_188_26 rfl (of_decide_eq_true rfl) (of_decide_eq_true rfl) ⟨(q_0f37a0c6e ha2), (q_36e1404d4 ha2)⟩ ((up_n ((ne_a0 (ni rfl)))).trans (up_n ((ne_aa (ni rfl))))) (q_aload_n c_188_27 rfl (v_gr (t := 48) c_188_28 kf_8_35 rfl (Nat.le_of_ble_eq_true rfl) rfl (q_iconst c_188_31 (q_iload_n c_188_32 rfl (v_imul (v := 3 * a1) c_188_33 rfl ?_)))))))
    refine q_iload_n c_188_34 rfl (v_iadd (v := 3 * a1 + 2) c_188_35 rfl (q_iconst c_188_36 (v_isub (v := 3 * a1 + 1) c_188_37 (by first | (clear ha1 ha2 h_2 h_3 h_4 h_5 hsum_1 h_7 h_8 h_9 h_6; omega) | omega) ?_)))
    have h_10 := ir_48 hI (3 * a1 + 1)
    refine v_ia (v := c 48 (3 * a1 + 1)) c_188_38 rfl (of_decide_eq_true rfl) (of_decide_eq_true rfl) ⟨(q_31334ae77 ha1), (q_f26004469 ha1)⟩ ((up_c (nn rfl)).trans (up_c (nn rfl))) ?_
    have h_11 : 0 ≤ (c 59 (4 * a2 + 2)) * (c 48 (3 * a1 + 1)) ∧ (c 59 (4 * a2 + 2)) * (c 48 (3 * a1 + 1)) ≤ 10 * (c 59 (4 * a2 + 2)) := mul_bd (by omega) (by omega) (by omega)
    have h_12 : 0 ≤ (c 59 (4 * a2 + 2)) * (c 48 (3 * a1 + 1)) ∧ (c 59 (4 * a2 + 2)) * (c 48 (3 * a1 + 1)) ≤ 9999 * (c 48 (3 * a1 + 1)) := mul_bd2 (by omega) (by omega) (by omega)
    refine v_imul (v := ((c 59 (4 * a2 + 2)) * (c 48 (3 * a1 + 1)))) rfl rfl (v_bip c_188_40 (of_decide_eq_true rfl) (v_idiv (v := (((c 59 (4 * a2 + 2)) * (c 48 (3 * a1 + 1))) / 10)) rfl (by omega) rfl (q_istore c_188_43 (Nat.le_of_ble_eq_true rfl) (q_aload_n c_188_45 rfl (v_gr (t := 59) c_188_46 kf_8_68 rfl (Nat.le_of_ble_eq_true rfl) rfl (q_iconst c_188_49 (q_iload_n c_188_50 rfl ?_)))))))
    refine v_imul (v := 4 * a2) c_188_51 rfl (q_iload_n c_188_52 rfl (v_iadd (v := 4 * a2 + 2) c_188_53 rfl (q_dup2 c_188_54 ⟨rfl, rfl⟩ (v_ia (v := c 59 (4 * a2 + 2)) c_188_55 rfl (of_decide_eq_true rfl) (of_decide_eq_true rfl) ⟨(q_0f37a0c6e ha2), (q_36e1404d4 ha2)⟩ ((up_n ((ne_a0 (ni rfl)))).trans (up_n ((ne_aa (ni rfl))))) (q_iload c_188_56 rfl (v_isub (v := c 59 (4 * a2 + 2) - (((c 59 (4 * a2 + 2)) * (c 48 (3 * a1 + 1))) / 10)) rfl rfl (v_is c_188_59 rfl (of_decide_eq_true rfl) (of_decide_eq_true rfl) ⟨(q_0f37a0c6e ha2), (q_36e1404d4 ha2)⟩ ?_)))))))
    refine q_aload_n c_188_60 rfl (v_gr (t := 59) c_188_61 kf_8_68 rfl (Nat.le_of_ble_eq_true rfl) rfl (q_iconst c_188_64 (q_iload_n c_188_65 rfl (v_imul (v := 4 * a2) c_188_66 rfl (q_iload_n c_188_67 rfl (v_iadd (v := 4 * a2 + 2) c_188_68 rfl (q_iconst c_188_69 ?_)))))))
    refine v_isub (v := 4 * a2 + 1) c_188_70 (by first | (clear ha1 ha2 h_2 h_3 h_4 h_5 hsum_1 h_7 h_8 h_9 h_10 h_11 h_12 h_6; omega) | omega) (q_dup2 c_188_71 ⟨rfl, rfl⟩ (v_ia (v := c 59 (4 * a2 + 1) - (((c 59 (4 * a2 + 1)) * (c 48 (3 * a1))) / 10)) rfl rfl (of_decide_eq_true rfl) (of_decide_eq_true rfl) ⟨(q_83fdbd35d ha2), (q_7a0c0a739 ha2)⟩ ((up_n ((ne_aa (ni rfl)))).trans ((up_n ((ne_a0 (ni rfl)))).trans (up_e rfl))) (q_iload c_188_73 rfl (v_iadd (v := (((c 59 (4 * a2 + 2)) * (c 48 (3 * a1 + 1))) / 10) + c 59 (4 * a2 + 1) - (((c 59 (4 * a2 + 1)) * (c 48 (3 * a1))) / 10)) rfl (by first | (clear ha1 ha2 h_2 h_3 h_4 h_5 hsum_1 h_7 h_8 h_9 h_10 h_11 h_12 h_6; omega) | omega) (v_is c_188_76 rfl (of_decide_eq_true rfl) (of_decide_eq_true rfl) ⟨(q_83fdbd35d ha2), (q_7a0c0a739 ha2)⟩ (v_iinc (v := 3) c_188_77 rfl (Nat.le_of_ble_eq_true rfl) (of_decide_eq_true rfl) (Wp_ls [(3, vi 3), (4, vi (((c 59 (4 * a2 + 2)) * (c 48 (3 * a1 + 1))) / 10)), (0, .ref 41), (1, vi a1), (2, vi a2)] (lsub_cons rfl (lsub_cons rfl (lsub_cons rfl (lsub_cons rfl (lsub_cons rfl lsub_nil))))) ?_)))))))
    refine q_goto (t := 12) c_188_80 rfl (q_iload_n c_188_12 rfl (q_iconst c_188_13 (v_ic_ge_f (t := 83) c_188_14 rfl (of_decide_eq_true rfl) (q_aload_n c_188_17 rfl (v_gr (t := 59) c_188_18 kf_8_68 rfl (Nat.le_of_ble_eq_true rfl) rfl (q_iconst c_188_21 (q_iload_n c_188_22 rfl ?_)))))))
    refine v_imul (v := 4 * a2) c_188_23 rfl (q_iload_n c_188_24 rfl (v_iadd (v := 4 * a2 + 3) c_188_25 rfl (v_ia (v := c 59 (4 * a2 + 3)) c_188_26 rfl (of_decide_eq_true rfl) (of_decide_eq_true rfl) ⟨(q_f6be69137 ha2), (q_6b2d832d4 ha2)⟩ ((up_n ((ne_aa (ni rfl)))).trans ((up_n ((ne_aa (ni rfl)))).trans ((up_n ((ne_a0 (ni rfl)))).trans (up_n ((ne_aa (ni rfl))))))) (q_aload_n c_188_27 rfl (v_gr (t := 48) c_188_28 kf_8_35 rfl (Nat.le_of_ble_eq_true rfl) rfl (q_iconst c_188_31 (q_iload_n c_188_32 rfl ?_)))))))
    refine v_imul (v := 3 * a1) c_188_33 rfl (q_iload_n c_188_34 rfl (v_iadd (v := 3 * a1 + 3) c_188_35 rfl (q_iconst c_188_36 (v_isub (v := 3 * a1 + 2) c_188_37 (by first | (clear ha1 ha2 h_2 h_3 h_4 h_5 hsum_1 h_7 h_8 h_9 h_10 h_11 h_12 h_6; omega) | omega) ?_))))
    have h_13 := ir_48 hI (3 * a1 + 2)
    refine v_ia (v := c 48 (3 * a1 + 2)) c_188_38 rfl (of_decide_eq_true rfl) (of_decide_eq_true rfl) ⟨(q_b14b554d2 ha1), (q_65819fa91 ha1)⟩ ((up_c (nn rfl)).trans ((up_c (nn rfl)).trans ((up_c (nn rfl)).trans (up_c (nn rfl))))) ?_
    have h_14 : 0 ≤ (c 59 (4 * a2 + 3)) * (c 48 (3 * a1 + 2)) ∧ (c 59 (4 * a2 + 3)) * (c 48 (3 * a1 + 2)) ≤ 10 * (c 59 (4 * a2 + 3)) := mul_bd (by omega) (by omega) (by omega)
    have h_15 : 0 ≤ (c 59 (4 * a2 + 3)) * (c 48 (3 * a1 + 2)) ∧ (c 59 (4 * a2 + 3)) * (c 48 (3 * a1 + 2)) ≤ 9999 * (c 48 (3 * a1 + 2)) := mul_bd2 (by omega) (by omega) (by omega)
    refine v_imul (v := ((c 59 (4 * a2 + 3)) * (c 48 (3 * a1 + 2)))) rfl rfl (v_bip c_188_40 (of_decide_eq_true rfl) (v_idiv (v := (((c 59 (4 * a2 + 3)) * (c 48 (3 * a1 + 2))) / 10)) rfl (by omega) rfl (q_istore c_188_43 (Nat.le_of_ble_eq_true rfl) (q_aload_n c_188_45 rfl (v_gr (t := 59) c_188_46 kf_8_68 rfl (Nat.le_of_ble_eq_true rfl) rfl (q_iconst c_188_49 (q_iload_n c_188_50 rfl ?_)))))))
    refine v_imul (v := 4 * a2) c_188_51 rfl (q_iload_n c_188_52 rfl (v_iadd (v := 4 * a2 + 3) c_188_53 rfl (q_dup2 c_188_54 ⟨rfl, rfl⟩ (v_ia (v := c 59 (4 * a2 + 3)) c_188_55 rfl (of_decide_eq_true rfl) (of_decide_eq_true rfl) ⟨(q_f6be69137 ha2), (q_6b2d832d4 ha2)⟩ ((up_n ((ne_aa (ni rfl)))).trans ((up_n ((ne_aa (ni rfl)))).trans ((up_n ((ne_a0 (ni rfl)))).trans (up_n ((ne_aa (ni rfl))))))) (q_iload c_188_56 rfl (v_isub (v := c 59 (4 * a2 + 3) - (((c 59 (4 * a2 + 3)) * (c 48 (3 * a1 + 2))) / 10)) rfl rfl (v_is c_188_59 rfl (of_decide_eq_true rfl) (of_decide_eq_true rfl) ⟨(q_f6be69137 ha2), (q_6b2d832d4 ha2)⟩ ?_)))))))
    refine q_aload_n c_188_60 rfl (v_gr (t := 59) c_188_61 kf_8_68 rfl (Nat.le_of_ble_eq_true rfl) rfl (q_iconst c_188_64 (q_iload_n c_188_65 rfl (v_imul (v := 4 * a2) c_188_66 rfl (q_iload_n c_188_67 rfl (v_iadd (v := 4 * a2 + 3) c_188_68 rfl (q_iconst c_188_69 ?_)))))))
    refine v_isub (v := 4 * a2 + 2) c_188_70 (by first | (clear ha1 ha2 h_2 h_3 h_4 h_5 hsum_1 h_7 h_8 h_9 h_10 h_11 h_12 h_13 h_14 h_15 h_6; omega) | omega) (q_dup2 c_188_71 ⟨rfl, rfl⟩ (v_ia (v := c 59 (4 * a2 + 2) - (((c 59 (4 * a2 + 2)) * (c 48 (3 * a1 + 1))) / 10)) rfl rfl (of_decide_eq_true rfl) (of_decide_eq_true rfl) ⟨(q_0f37a0c6e ha2), (q_36e1404d4 ha2)⟩ ((up_n ((ne_aa (ni rfl)))).trans ((up_n ((ne_aa (ni rfl)))).trans (up_e rfl))) (q_iload c_188_73 rfl (v_iadd (v := (((c 59 (4 * a2 + 3)) * (c 48 (3 * a1 + 2))) / 10) + c 59 (4 * a2 + 2) - (((c 59 (4 * a2 + 2)) * (c 48 (3 * a1 + 1))) / 10)) rfl (by first | (clear ha1 ha2 h_2 h_3 h_4 h_5 hsum_1 h_7 h_8 h_9 h_10 h_11 h_12 h_13 h_14 h_15 h_6; omega) | omega) (v_is c_188_76 rfl (of_decide_eq_true rfl) (of_decide_eq_true rfl) ⟨(q_0f37a0c6e ha2), (q_36e1404d4 ha2)⟩ (v_iinc (v := 4) c_188_77 rfl (Nat.le_of_ble_eq_true rfl) (of_decide_eq_true rfl) (q_goto (t := 12) c_188_80 rfl ?_)))))))
    refine q_iload_n c_188_12 rfl (q_iconst c_188_13 (v_ic_ge_t (t := 83) c_188_14 rfl (of_decide_eq_true rfl) (q_aload_n c_188_83 rfl (v_gr (t := 59) c_188_84 kf_8_68 rfl (Nat.le_of_ble_eq_true rfl) rfl (q_iconst c_188_87 (q_iload_n c_188_88 rfl (v_imul (v := 4 * a2) c_188_89 rfl ?_)))))))
    refine v_ia (v := (((c 59 (4 * a2 + 1)) * (c 48 (3 * a1))) / 10) + c 59 (4 * a2)) rfl rfl (of_decide_eq_true rfl) (of_decide_eq_true rfl) ⟨(q_c065257af ha2), (q_a49915bbb ha2)⟩ ((up_n ((ne_0a (ni rfl)))).trans ((up_n ((ne_0a (ni rfl)))).trans ((up_n ((ne_0a (ni rfl)))).trans ((up_n ((ne_0a (ni rfl)))).trans (up_e rfl))))) (q_aload_n c_188_91 rfl ?_)
    have h_16 := ir_41_23 hI
    refine v_gi (z := 23) (v := c 41 23) c_188_92 kf_8_166 rfl (Nat.le_of_ble_eq_true rfl) rfl rfl ((up_c (nn rfl)).trans ((up_c (nn rfl)).trans ((up_c (nn rfl)).trans ((up_c (nn rfl)).trans ((up_c (nn rfl)).trans (up_c (nn rfl))))))) ?_
    have h_17 : 0 ≤ ((((c 59 (4 * a2 + 1)) * (c 48 (3 * a1))) / 10) + c 59 (4 * a2)) * (c 41 23) ∧ ((((c 59 (4 * a2 + 1)) * (c 48 (3 * a1))) / 10) + c 59 (4 * a2)) * (c 41 23) ≤ 50 * ((((c 59 (4 * a2 + 1)) * (c 48 (3 * a1))) / 10) + c 59 (4 * a2)) := mul_bd (by omega) (by omega) (by omega)
    have h_18 : 0 ≤ ((((c 59 (4 * a2 + 1)) * (c 48 (3 * a1))) / 10) + c 59 (4 * a2)) * (c 41 23) ∧ ((((c 59 (4 * a2 + 1)) * (c 48 (3 * a1))) / 10) + c 59 (4 * a2)) * (c 41 23) ≤ 9999 * (c 41 23) := mul_bd2 (by omega) (by omega) (by omega)
    refine v_imul (v := (((((c 59 (4 * a2 + 1)) * (c 48 (3 * a1))) / 10) + c 59 (4 * a2)) * (c 41 23))) rfl rfl (v_bip c_188_96 (of_decide_eq_true rfl) (v_idiv (v := ((((((c 59 (4 * a2 + 1)) * (c 48 (3 * a1))) / 10) + c 59 (4 * a2)) * (c 41 23)) / 100)) rfl (by omega) rfl (q_istore_n c_188_99 (Nat.le_of_ble_eq_true rfl) (q_aload_n c_188_100 rfl (v_gr (t := 59) c_188_101 kf_8_68 rfl (Nat.le_of_ble_eq_true rfl) rfl (q_iconst c_188_104 (q_iload_n c_188_105 rfl ?_)))))))
    refine v_imul (v := 4 * a2) c_188_106 rfl (q_dup2 c_188_107 ⟨rfl, rfl⟩ (v_ia (v := (((c 59 (4 * a2 + 1)) * (c 48 (3 * a1))) / 10) + c 59 (4 * a2)) rfl rfl (of_decide_eq_true rfl) (of_decide_eq_true rfl) ⟨(q_c065257af ha2), (q_a49915bbb ha2)⟩ ((up_n ((ne_0a (ni rfl)))).trans ((up_n ((ne_0a (ni rfl)))).trans ((up_n ((ne_0a (ni rfl)))).trans ((up_n ((ne_0a (ni rfl)))).trans (up_e rfl))))) (q_iload_n c_188_109 rfl (v_isub (v := (((c 59 (4 * a2 + 1)) * (c 48 (3 * a1))) / 10) + c 59 (4 * a2) - ((((((c 59 (4 * a2 + 1)) * (c 48 (3 * a1))) / 10) + c 59 (4 * a2)) * (c 41 23)) / 100)) rfl rfl (v_is c_188_111 rfl (of_decide_eq_true rfl) (of_decide_eq_true rfl) ⟨(q_c065257af ha2), (q_a49915bbb ha2)⟩ (q_aload_n c_188_112 rfl (v_gr (t := 59) c_188_113 kf_8_68 rfl (Nat.le_of_ble_eq_true rfl) rfl ?_)))))))
    refine v_bip c_188_116 (of_decide_eq_true rfl) (q_dup2 c_188_118 ⟨rfl, rfl⟩ ?_)
    have h_19 := ir_59 hI 35
    refine v_ia (v := c 59 35) c_188_119 rfl (of_decide_eq_true rfl) (of_decide_eq_true rfl) (of_decide_eq_true rfl) ((up_n (ne_g ((q_b528aeba2 ha2)))).trans ((up_n (ne_g ((q_ff1dc68db ha2)))).trans ((up_n (ne_g ((q_f794b9410 ha2)))).trans ((up_n (ne_g ((q_586eba1d6 ha2)))).trans ((up_n (ne_g ((q_ff1dc68db ha2)))).trans ((up_n (ne_g ((q_b528aeba2 ha2)))).trans (up_n (ne_g ((q_586eba1d6 ha2)))))))))) (q_iload_n c_188_120 rfl (v_iadd (v := ((((((c 59 (4 * a2 + 1)) * (c 48 (3 * a1))) / 10) + c 59 (4 * a2)) * (c 41 23)) / 100) + c 59 35) rfl (by first | (clear ha1 ha2 h_2 h_3 h_4 h_5 hsum_1 h_7 h_8 h_9 h_10 h_11 h_12 h_13 h_14 h_15 h_16 h_17 h_18 h_19 h_6; omega) | omega) (v_nrm (fun y_20 hy_20 => (v_is c_188_122 rfl (of_decide_eq_true rfl) (of_decide_eq_true rfl) (of_decide_eq_true rfl) (q_iconst c_188_123 (v_zret c_188_124 rfl (of_decide_eq_true rfl) ?_)))))))
    have hI_21 := iw_row (a := 59) (j := 4 * a2 + 1) (v := c 59 (4 * a2 + 1) - (((c 59 (4 * a2 + 1)) * (c 48 (3 * a1))) / 10)) hIo (by omega) (Or.inl rfl) ⟨by omega, by omega, by omega⟩
    have hI_22 := iw_row (a := 59) (j := 4 * a2) (v := (((c 59 (4 * a2 + 1)) * (c 48 (3 * a1))) / 10) + c 59 (4 * a2)) hI_21 (by omega) (Or.inl rfl) ⟨by omega, by omega, by omega⟩
    have hI_23 := iw_row (a := 59) (j := 4 * a2 + 2) (v := c 59 (4 * a2 + 2) - (((c 59 (4 * a2 + 2)) * (c 48 (3 * a1 + 1))) / 10)) hI_22 (by omega) (Or.inl rfl) ⟨by omega, by omega, by omega⟩
    have hI_24 := iw_row (a := 59) (j := 4 * a2 + 1) (v := (((c 59 (4 * a2 + 2)) * (c 48 (3 * a1 + 1))) / 10) + c 59 (4 * a2 + 1) - (((c 59 (4 * a2 + 1)) * (c 48 (3 * a1))) / 10)) hI_23 (by omega) (Or.inl rfl) ⟨by omega, by omega, by omega⟩
    have hI_25 := iw_row (a := 59) (j := 4 * a2 + 3) (v := c 59 (4 * a2 + 3) - (((c 59 (4 * a2 + 3)) * (c 48 (3 * a1 + 2))) / 10)) hI_24 (by omega) (Or.inl rfl) ⟨by omega, by omega, by omega⟩
    have hI_26 := iw_row (a := 59) (j := 4 * a2 + 2) (v := (((c 59 (4 * a2 + 3)) * (c 48 (3 * a1 + 2))) / 10) + c 59 (4 * a2 + 2) - (((c 59 (4 * a2 + 2)) * (c 48 (3 * a1 + 1))) / 10)) hI_25 (by omega) (Or.inl rfl) ⟨by omega, by omega, by omega⟩
    have hI_27 := iw_row (a := 59) (j := 4 * a2) (v := (((c 59 (4 * a2 + 1)) * (c 48 (3 * a1))) / 10) + c 59 (4 * a2) - ((((((c 59 (4 * a2 + 1)) * (c 48 (3 * a1))) / 10) + c 59 (4 * a2)) * (c 41 23)) / 100)) hI_26 (by omega) (Or.inl rfl) ⟨by omega, by omega, by omega⟩
    have hI_28 := iw_row (a := 59) (j := 35) (v := y_20) hI_27 (by omega) (Or.inr (by omega)) ⟨by omega, by omega, by omega⟩
    have hr_29 : ∀ j : Int, rs 59 j → (up (up (up (up (up (up (up (up c 59 (4 * a2 + 1) (c 59 (4 * a2 + 1) - (((c 59 (4 * a2 + 1)) * (c 48 (3 * a1))) / 10))) 59 (4 * a2) ((((c 59 (4 * a2 + 1)) * (c 48 (3 * a1))) / 10) + c 59 (4 * a2))) 59 (4 * a2 + 2) (c 59 (4 * a2 + 2) - (((c 59 (4 * a2 + 2)) * (c 48 (3 * a1 + 1))) / 10))) 59 (4 * a2 + 1) ((((c 59 (4 * a2 + 2)) * (c 48 (3 * a1 + 1))) / 10) + c 59 (4 * a2 + 1) - (((c 59 (4 * a2 + 1)) * (c 48 (3 * a1))) / 10))) 59 (4 * a2 + 3) (c 59 (4 * a2 + 3) - (((c 59 (4 * a2 + 3)) * (c 48 (3 * a1 + 2))) / 10))) 59 (4 * a2 + 2) ((((c 59 (4 * a2 + 3)) * (c 48 (3 * a1 + 2))) / 10) + c 59 (4 * a2 + 2) - (((c 59 (4 * a2 + 2)) * (c 48 (3 * a1 + 1))) / 10))) 59 (4 * a2) ((((c 59 (4 * a2 + 1)) * (c 48 (3 * a1))) / 10) + c 59 (4 * a2) - ((((((c 59 (4 * a2 + 1)) * (c 48 (3 * a1))) / 10) + c 59 (4 * a2)) * (c 41 23)) / 100))) 59 35 y_20) 59 j + (up (up (up (up (up (up (up (up c 59 (4 * a2 + 1) (c 59 (4 * a2 + 1) - (((c 59 (4 * a2 + 1)) * (c 48 (3 * a1))) / 10))) 59 (4 * a2) ((((c 59 (4 * a2 + 1)) * (c 48 (3 * a1))) / 10) + c 59 (4 * a2))) 59 (4 * a2 + 2) (c 59 (4 * a2 + 2) - (((c 59 (4 * a2 + 2)) * (c 48 (3 * a1 + 1))) / 10))) 59 (4 * a2 + 1) ((((c 59 (4 * a2 + 2)) * (c 48 (3 * a1 + 1))) / 10) + c 59 (4 * a2 + 1) - (((c 59 (4 * a2 + 1)) * (c 48 (3 * a1))) / 10))) 59 (4 * a2 + 3) (c 59 (4 * a2 + 3) - (((c 59 (4 * a2 + 3)) * (c 48 (3 * a1 + 2))) / 10))) 59 (4 * a2 + 2) ((((c 59 (4 * a2 + 3)) * (c 48 (3 * a1 + 2))) / 10) + c 59 (4 * a2 + 2) - (((c 59 (4 * a2 + 2)) * (c 48 (3 * a1 + 1))) / 10))) 59 (4 * a2) ((((c 59 (4 * a2 + 1)) * (c 48 (3 * a1))) / 10) + c 59 (4 * a2) - ((((((c 59 (4 * a2 + 1)) * (c 48 (3 * a1))) / 10) + c 59 (4 * a2)) * (c 41 23)) / 100))) 59 35 y_20) 59 (j + 1) + (up (up (up (up (up (up (up (up c 59 (4 * a2 + 1) (c 59 (4 * a2 + 1) - (((c 59 (4 * a2 + 1)) * (c 48 (3 * a1))) / 10))) 59 (4 * a2) ((((c 59 (4 * a2 + 1)) * (c 48 (3 * a1))) / 10) + c 59 (4 * a2))) 59 (4 * a2 + 2) (c 59 (4 * a2 + 2) - (((c 59 (4 * a2 + 2)) * (c 48 (3 * a1 + 1))) / 10))) 59 (4 * a2 + 1) ((((c 59 (4 * a2 + 2)) * (c 48 (3 * a1 + 1))) / 10) + c 59 (4 * a2 + 1) - (((c 59 (4 * a2 + 1)) * (c 48 (3 * a1))) / 10))) 59 (4 * a2 + 3) (c 59 (4 * a2 + 3) - (((c 59 (4 * a2 + 3)) * (c 48 (3 * a1 + 2))) / 10))) 59 (4 * a2 + 2) ((((c 59 (4 * a2 + 3)) * (c 48 (3 * a1 + 2))) / 10) + c 59 (4 * a2 + 2) - (((c 59 (4 * a2 + 2)) * (c 48 (3 * a1 + 1))) / 10))) 59 (4 * a2) ((((c 59 (4 * a2 + 1)) * (c 48 (3 * a1))) / 10) + c 59 (4 * a2) - ((((((c 59 (4 * a2 + 1)) * (c 48 (3 * a1))) / 10) + c 59 (4 * a2)) * (c 41 23)) / 100))) 59 35 y_20) 59 (j + 2) + (up (up (up (up (up (up (up (up c 59 (4 * a2 + 1) (c 59 (4 * a2 + 1) - (((c 59 (4 * a2 + 1)) * (c 48 (3 * a1))) / 10))) 59 (4 * a2) ((((c 59 (4 * a2 + 1)) * (c 48 (3 * a1))) / 10) + c 59 (4 * a2))) 59 (4 * a2 + 2) (c 59 (4 * a2 + 2) - (((c 59 (4 * a2 + 2)) * (c 48 (3 * a1 + 1))) / 10))) 59 (4 * a2 + 1) ((((c 59 (4 * a2 + 2)) * (c 48 (3 * a1 + 1))) / 10) + c 59 (4 * a2 + 1) - (((c 59 (4 * a2 + 1)) * (c 48 (3 * a1))) / 10))) 59 (4 * a2 + 3) (c 59 (4 * a2 + 3) - (((c 59 (4 * a2 + 3)) * (c 48 (3 * a1 + 2))) / 10))) 59 (4 * a2 + 2) ((((c 59 (4 * a2 + 3)) * (c 48 (3 * a1 + 2))) / 10) + c 59 (4 * a2 + 2) - (((c 59 (4 * a2 + 2)) * (c 48 (3 * a1 + 1))) / 10))) 59 (4 * a2) ((((c 59 (4 * a2 + 1)) * (c 48 (3 * a1))) / 10) + c 59 (4 * a2) - ((((((c 59 (4 * a2 + 1)) * (c 48 (3 * a1))) / 10) + c 59 (4 * a2)) * (c 41 23)) / 100))) 59 35 y_20) 59 (j + 3) ≤ 9999 := by
      intro j9 hj9
      obtain ⟨k9, rfl, hk9⟩ := rs_59 hj9
      by_cases e_30 : k9 = a2
      · skip
        have h_31 : (up (up (up (up (up (up (up (up c 59 (4 * a2 + 1) (c 59 (4 * a2 + 1) - (((c 59 (4 * a2 + 1)) * (c 48 (3 * a1))) / 10))) 59 (4 * a2) ((((c 59 (4 * a2 + 1)) * (c 48 (3 * a1))) / 10) + c 59 (4 * a2))) 59 (4 * a2 + 2) (c 59 (4 * a2 + 2) - (((c 59 (4 * a2 + 2)) * (c 48 (3 * a1 + 1))) / 10))) 59 (4 * a2 + 1) ((((c 59 (4 * a2 + 2)) * (c 48 (3 * a1 + 1))) / 10) + c 59 (4 * a2 + 1) - (((c 59 (4 * a2 + 1)) * (c 48 (3 * a1))) / 10))) 59 (4 * a2 + 3) (c 59 (4 * a2 + 3) - (((c 59 (4 * a2 + 3)) * (c 48 (3 * a1 + 2))) / 10))) 59 (4 * a2 + 2) ((((c 59 (4 * a2 + 3)) * (c 48 (3 * a1 + 2))) / 10) + c 59 (4 * a2 + 2) - (((c 59 (4 * a2 + 2)) * (c 48 (3 * a1 + 1))) / 10))) 59 (4 * a2) ((((c 59 (4 * a2 + 1)) * (c 48 (3 * a1))) / 10) + c 59 (4 * a2) - ((((((c 59 (4 * a2 + 1)) * (c 48 (3 * a1))) / 10) + c 59 (4 * a2)) * (c 41 23)) / 100))) 59 35 y_20) 59 (4 * k9) = (((c 59 (4 * a2 + 1)) * (c 48 (3 * a1))) / 10) + c 59 (4 * a2) - ((((((c 59 (4 * a2 + 1)) * (c 48 (3 * a1))) / 10) + c 59 (4 * a2)) * (c 41 23)) / 100) := (congrArg ((up (up (up (up (up (up (up (up c 59 (4 * a2 + 1) (c 59 (4 * a2 + 1) - (((c 59 (4 * a2 + 1)) * (c 48 (3 * a1))) / 10))) 59 (4 * a2) ((((c 59 (4 * a2 + 1)) * (c 48 (3 * a1))) / 10) + c 59 (4 * a2))) 59 (4 * a2 + 2) (c 59 (4 * a2 + 2) - (((c 59 (4 * a2 + 2)) * (c 48 (3 * a1 + 1))) / 10))) 59 (4 * a2 + 1) ((((c 59 (4 * a2 + 2)) * (c 48 (3 * a1 + 1))) / 10) + c 59 (4 * a2 + 1) - (((c 59 (4 * a2 + 1)) * (c 48 (3 * a1))) / 10))) 59 (4 * a2 + 3) (c 59 (4 * a2 + 3) - (((c 59 (4 * a2 + 3)) * (c 48 (3 * a1 + 2))) / 10))) 59 (4 * a2 + 2) ((((c 59 (4 * a2 + 3)) * (c 48 (3 * a1 + 2))) / 10) + c 59 (4 * a2 + 2) - (((c 59 (4 * a2 + 2)) * (c 48 (3 * a1 + 1))) / 10))) 59 (4 * a2) ((((c 59 (4 * a2 + 1)) * (c 48 (3 * a1))) / 10) + c 59 (4 * a2) - ((((((c 59 (4 * a2 + 1)) * (c 48 (3 * a1))) / 10) + c 59 (4 * a2)) * (c 41 23)) / 100))) 59 35 y_20) 59) (show 4 * k9 = 4 * a2 from by first | assumption | exact Int.le_antisymm (by omega) (by omega))).trans ((up_n (ne_l ((q_b528aeba2 ha2)))).trans (up_e rfl))
        have h_32 : (up (up (up (up (up (up (up (up c 59 (4 * a2 + 1) (c 59 (4 * a2 + 1) - (((c 59 (4 * a2 + 1)) * (c 48 (3 * a1))) / 10))) 59 (4 * a2) ((((c 59 (4 * a2 + 1)) * (c 48 (3 * a1))) / 10) + c 59 (4 * a2))) 59 (4 * a2 + 2) (c 59 (4 * a2 + 2) - (((c 59 (4 * a2 + 2)) * (c 48 (3 * a1 + 1))) / 10))) 59 (4 * a2 + 1) ((((c 59 (4 * a2 + 2)) * (c 48 (3 * a1 + 1))) / 10) + c 59 (4 * a2 + 1) - (((c 59 (4 * a2 + 1)) * (c 48 (3 * a1))) / 10))) 59 (4 * a2 + 3) (c 59 (4 * a2 + 3) - (((c 59 (4 * a2 + 3)) * (c 48 (3 * a1 + 2))) / 10))) 59 (4 * a2 + 2) ((((c 59 (4 * a2 + 3)) * (c 48 (3 * a1 + 2))) / 10) + c 59 (4 * a2 + 2) - (((c 59 (4 * a2 + 2)) * (c 48 (3 * a1 + 1))) / 10))) 59 (4 * a2) ((((c 59 (4 * a2 + 1)) * (c 48 (3 * a1))) / 10) + c 59 (4 * a2) - ((((((c 59 (4 * a2 + 1)) * (c 48 (3 * a1))) / 10) + c 59 (4 * a2)) * (c 41 23)) / 100))) 59 35 y_20) 59 (4 * k9 + 1) = (((c 59 (4 * a2 + 2)) * (c 48 (3 * a1 + 1))) / 10) + c 59 (4 * a2 + 1) - (((c 59 (4 * a2 + 1)) * (c 48 (3 * a1))) / 10) := (congrArg ((up (up (up (up (up (up (up (up c 59 (4 * a2 + 1) (c 59 (4 * a2 + 1) - (((c 59 (4 * a2 + 1)) * (c 48 (3 * a1))) / 10))) 59 (4 * a2) ((((c 59 (4 * a2 + 1)) * (c 48 (3 * a1))) / 10) + c 59 (4 * a2))) 59 (4 * a2 + 2) (c 59 (4 * a2 + 2) - (((c 59 (4 * a2 + 2)) * (c 48 (3 * a1 + 1))) / 10))) 59 (4 * a2 + 1) ((((c 59 (4 * a2 + 2)) * (c 48 (3 * a1 + 1))) / 10) + c 59 (4 * a2 + 1) - (((c 59 (4 * a2 + 1)) * (c 48 (3 * a1))) / 10))) 59 (4 * a2 + 3) (c 59 (4 * a2 + 3) - (((c 59 (4 * a2 + 3)) * (c 48 (3 * a1 + 2))) / 10))) 59 (4 * a2 + 2) ((((c 59 (4 * a2 + 3)) * (c 48 (3 * a1 + 2))) / 10) + c 59 (4 * a2 + 2) - (((c 59 (4 * a2 + 2)) * (c 48 (3 * a1 + 1))) / 10))) 59 (4 * a2) ((((c 59 (4 * a2 + 1)) * (c 48 (3 * a1))) / 10) + c 59 (4 * a2) - ((((((c 59 (4 * a2 + 1)) * (c 48 (3 * a1))) / 10) + c 59 (4 * a2)) * (c 41 23)) / 100))) 59 35 y_20) 59) (show 4 * k9 + 1 = 4 * a2 + 1 from by first | assumption | exact Int.le_antisymm (by omega) (by omega))).trans ((up_n (ne_l ((q_586eba1d6 ha2)))).trans ((up_n ((ne_a0 (ni rfl)))).trans ((up_n ((ne_aa (ni rfl)))).trans ((up_n ((ne_aa (ni rfl)))).trans (up_e rfl)))))
        have h_33 : (up (up (up (up (up (up (up (up c 59 (4 * a2 + 1) (c 59 (4 * a2 + 1) - (((c 59 (4 * a2 + 1)) * (c 48 (3 * a1))) / 10))) 59 (4 * a2) ((((c 59 (4 * a2 + 1)) * (c 48 (3 * a1))) / 10) + c 59 (4 * a2))) 59 (4 * a2 + 2) (c 59 (4 * a2 + 2) - (((c 59 (4 * a2 + 2)) * (c 48 (3 * a1 + 1))) / 10))) 59 (4 * a2 + 1) ((((c 59 (4 * a2 + 2)) * (c 48 (3 * a1 + 1))) / 10) + c 59 (4 * a2 + 1) - (((c 59 (4 * a2 + 1)) * (c 48 (3 * a1))) / 10))) 59 (4 * a2 + 3) (c 59 (4 * a2 + 3) - (((c 59 (4 * a2 + 3)) * (c 48 (3 * a1 + 2))) / 10))) 59 (4 * a2 + 2) ((((c 59 (4 * a2 + 3)) * (c 48 (3 * a1 + 2))) / 10) + c 59 (4 * a2 + 2) - (((c 59 (4 * a2 + 2)) * (c 48 (3 * a1 + 1))) / 10))) 59 (4 * a2) ((((c 59 (4 * a2 + 1)) * (c 48 (3 * a1))) / 10) + c 59 (4 * a2) - ((((((c 59 (4 * a2 + 1)) * (c 48 (3 * a1))) / 10) + c 59 (4 * a2)) * (c 41 23)) / 100))) 59 35 y_20) 59 (4 * k9 + 2) = (((c 59 (4 * a2 + 3)) * (c 48 (3 * a1 + 2))) / 10) + c 59 (4 * a2 + 2) - (((c 59 (4 * a2 + 2)) * (c 48 (3 * a1 + 1))) / 10) := (congrArg ((up (up (up (up (up (up (up (up c 59 (4 * a2 + 1) (c 59 (4 * a2 + 1) - (((c 59 (4 * a2 + 1)) * (c 48 (3 * a1))) / 10))) 59 (4 * a2) ((((c 59 (4 * a2 + 1)) * (c 48 (3 * a1))) / 10) + c 59 (4 * a2))) 59 (4 * a2 + 2) (c 59 (4 * a2 + 2) - (((c 59 (4 * a2 + 2)) * (c 48 (3 * a1 + 1))) / 10))) 59 (4 * a2 + 1) ((((c 59 (4 * a2 + 2)) * (c 48 (3 * a1 + 1))) / 10) + c 59 (4 * a2 + 1) - (((c 59 (4 * a2 + 1)) * (c 48 (3 * a1))) / 10))) 59 (4 * a2 + 3) (c 59 (4 * a2 + 3) - (((c 59 (4 * a2 + 3)) * (c 48 (3 * a1 + 2))) / 10))) 59 (4 * a2 + 2) ((((c 59 (4 * a2 + 3)) * (c 48 (3 * a1 + 2))) / 10) + c 59 (4 * a2 + 2) - (((c 59 (4 * a2 + 2)) * (c 48 (3 * a1 + 1))) / 10))) 59 (4 * a2) ((((c 59 (4 * a2 + 1)) * (c 48 (3 * a1))) / 10) + c 59 (4 * a2) - ((((((c 59 (4 * a2 + 1)) * (c 48 (3 * a1))) / 10) + c 59 (4 * a2)) * (c 41 23)) / 100))) 59 35 y_20) 59) (show 4 * k9 + 2 = 4 * a2 + 2 from by first | assumption | exact Int.le_antisymm (by omega) (by omega))).trans ((up_n (ne_l ((q_ff1dc68db ha2)))).trans ((up_n ((ne_a0 (ni rfl)))).trans (up_e rfl)))
        have h_34 : (up (up (up (up (up (up (up (up c 59 (4 * a2 + 1) (c 59 (4 * a2 + 1) - (((c 59 (4 * a2 + 1)) * (c 48 (3 * a1))) / 10))) 59 (4 * a2) ((((c 59 (4 * a2 + 1)) * (c 48 (3 * a1))) / 10) + c 59 (4 * a2))) 59 (4 * a2 + 2) (c 59 (4 * a2 + 2) - (((c 59 (4 * a2 + 2)) * (c 48 (3 * a1 + 1))) / 10))) 59 (4 * a2 + 1) ((((c 59 (4 * a2 + 2)) * (c 48 (3 * a1 + 1))) / 10) + c 59 (4 * a2 + 1) - (((c 59 (4 * a2 + 1)) * (c 48 (3 * a1))) / 10))) 59 (4 * a2 + 3) (c 59 (4 * a2 + 3) - (((c 59 (4 * a2 + 3)) * (c 48 (3 * a1 + 2))) / 10))) 59 (4 * a2 + 2) ((((c 59 (4 * a2 + 3)) * (c 48 (3 * a1 + 2))) / 10) + c 59 (4 * a2 + 2) - (((c 59 (4 * a2 + 2)) * (c 48 (3 * a1 + 1))) / 10))) 59 (4 * a2) ((((c 59 (4 * a2 + 1)) * (c 48 (3 * a1))) / 10) + c 59 (4 * a2) - ((((((c 59 (4 * a2 + 1)) * (c 48 (3 * a1))) / 10) + c 59 (4 * a2)) * (c 41 23)) / 100))) 59 35 y_20) 59 (4 * k9 + 3) = c 59 (4 * a2 + 3) - (((c 59 (4 * a2 + 3)) * (c 48 (3 * a1 + 2))) / 10) := (congrArg ((up (up (up (up (up (up (up (up c 59 (4 * a2 + 1) (c 59 (4 * a2 + 1) - (((c 59 (4 * a2 + 1)) * (c 48 (3 * a1))) / 10))) 59 (4 * a2) ((((c 59 (4 * a2 + 1)) * (c 48 (3 * a1))) / 10) + c 59 (4 * a2))) 59 (4 * a2 + 2) (c 59 (4 * a2 + 2) - (((c 59 (4 * a2 + 2)) * (c 48 (3 * a1 + 1))) / 10))) 59 (4 * a2 + 1) ((((c 59 (4 * a2 + 2)) * (c 48 (3 * a1 + 1))) / 10) + c 59 (4 * a2 + 1) - (((c 59 (4 * a2 + 1)) * (c 48 (3 * a1))) / 10))) 59 (4 * a2 + 3) (c 59 (4 * a2 + 3) - (((c 59 (4 * a2 + 3)) * (c 48 (3 * a1 + 2))) / 10))) 59 (4 * a2 + 2) ((((c 59 (4 * a2 + 3)) * (c 48 (3 * a1 + 2))) / 10) + c 59 (4 * a2 + 2) - (((c 59 (4 * a2 + 2)) * (c 48 (3 * a1 + 1))) / 10))) 59 (4 * a2) ((((c 59 (4 * a2 + 1)) * (c 48 (3 * a1))) / 10) + c 59 (4 * a2) - ((((((c 59 (4 * a2 + 1)) * (c 48 (3 * a1))) / 10) + c 59 (4 * a2)) * (c 41 23)) / 100))) 59 35 y_20) 59) (show 4 * k9 + 3 = 4 * a2 + 3 from by first | assumption | exact Int.le_antisymm (by omega) (by omega))).trans ((up_n (ne_l ((q_f794b9410 ha2)))).trans ((up_n ((ne_a0 (ni rfl)))).trans ((up_n ((ne_aa (ni rfl)))).trans (up_e rfl))))
        omega
      have h_35 := iv_r hI 59 (4 * k9) hj9 (by omega)
      have h_36 := ir_59_g hI (j := 4 * k9) ((q_9f1d5ffdc hk9))
      have h_37 : (up (up (up (up (up (up (up (up c 59 (4 * a2 + 1) (c 59 (4 * a2 + 1) - (((c 59 (4 * a2 + 1)) * (c 48 (3 * a1))) / 10))) 59 (4 * a2) ((((c 59 (4 * a2 + 1)) * (c 48 (3 * a1))) / 10) + c 59 (4 * a2))) 59 (4 * a2 + 2) (c 59 (4 * a2 + 2) - (((c 59 (4 * a2 + 2)) * (c 48 (3 * a1 + 1))) / 10))) 59 (4 * a2 + 1) ((((c 59 (4 * a2 + 2)) * (c 48 (3 * a1 + 1))) / 10) + c 59 (4 * a2 + 1) - (((c 59 (4 * a2 + 1)) * (c 48 (3 * a1))) / 10))) 59 (4 * a2 + 3) (c 59 (4 * a2 + 3) - (((c 59 (4 * a2 + 3)) * (c 48 (3 * a1 + 2))) / 10))) 59 (4 * a2 + 2) ((((c 59 (4 * a2 + 3)) * (c 48 (3 * a1 + 2))) / 10) + c 59 (4 * a2 + 2) - (((c 59 (4 * a2 + 2)) * (c 48 (3 * a1 + 1))) / 10))) 59 (4 * a2) ((((c 59 (4 * a2 + 1)) * (c 48 (3 * a1))) / 10) + c 59 (4 * a2) - ((((((c 59 (4 * a2 + 1)) * (c 48 (3 * a1))) / 10) + c 59 (4 * a2)) * (c 41 23)) / 100))) 59 35 y_20) 59 (4 * k9) = c 59 (4 * k9) := ((up_n (ne_l ((q_b528aeba2 hk9)))).trans ((up_n ((q_336fb6678 e_30))).trans ((up_n ((q_c037f51da))).trans ((up_n ((q_8ac71c5f3))).trans ((up_n ((q_b2cb8bf87))).trans ((up_n ((q_c037f51da))).trans ((up_n ((q_336fb6678 e_30))).trans (up_n ((q_b2cb8bf87))))))))))
      have h_38 := ir_59_g hI (j := 4 * k9 + 1) ((q_0a2ee6f8f hk9))
      have h_39 : (up (up (up (up (up (up (up (up c 59 (4 * a2 + 1) (c 59 (4 * a2 + 1) - (((c 59 (4 * a2 + 1)) * (c 48 (3 * a1))) / 10))) 59 (4 * a2) ((((c 59 (4 * a2 + 1)) * (c 48 (3 * a1))) / 10) + c 59 (4 * a2))) 59 (4 * a2 + 2) (c 59 (4 * a2 + 2) - (((c 59 (4 * a2 + 2)) * (c 48 (3 * a1 + 1))) / 10))) 59 (4 * a2 + 1) ((((c 59 (4 * a2 + 2)) * (c 48 (3 * a1 + 1))) / 10) + c 59 (4 * a2 + 1) - (((c 59 (4 * a2 + 1)) * (c 48 (3 * a1))) / 10))) 59 (4 * a2 + 3) (c 59 (4 * a2 + 3) - (((c 59 (4 * a2 + 3)) * (c 48 (3 * a1 + 2))) / 10))) 59 (4 * a2 + 2) ((((c 59 (4 * a2 + 3)) * (c 48 (3 * a1 + 2))) / 10) + c 59 (4 * a2 + 2) - (((c 59 (4 * a2 + 2)) * (c 48 (3 * a1 + 1))) / 10))) 59 (4 * a2) ((((c 59 (4 * a2 + 1)) * (c 48 (3 * a1))) / 10) + c 59 (4 * a2) - ((((((c 59 (4 * a2 + 1)) * (c 48 (3 * a1))) / 10) + c 59 (4 * a2)) * (c 41 23)) / 100))) 59 35 y_20) 59 (4 * k9 + 1) = c 59 (4 * k9 + 1) := ((up_n (ne_l ((q_586eba1d6 hk9)))).trans ((up_n ((q_e5bcc673e))).trans ((up_n ((q_3650b790c))).trans ((up_n ((q_7c6b1b09a))).trans ((up_n ((q_52b51d728 e_30))).trans ((up_n ((q_3650b790c))).trans ((up_n ((q_e5bcc673e))).trans (up_n ((q_52b51d728 e_30))))))))))
      have h_40 := ir_59_g hI (j := 4 * k9 + 2) ((q_e07a293a2 hk9))
      have h_41 : (up (up (up (up (up (up (up (up c 59 (4 * a2 + 1) (c 59 (4 * a2 + 1) - (((c 59 (4 * a2 + 1)) * (c 48 (3 * a1))) / 10))) 59 (4 * a2) ((((c 59 (4 * a2 + 1)) * (c 48 (3 * a1))) / 10) + c 59 (4 * a2))) 59 (4 * a2 + 2) (c 59 (4 * a2 + 2) - (((c 59 (4 * a2 + 2)) * (c 48 (3 * a1 + 1))) / 10))) 59 (4 * a2 + 1) ((((c 59 (4 * a2 + 2)) * (c 48 (3 * a1 + 1))) / 10) + c 59 (4 * a2 + 1) - (((c 59 (4 * a2 + 1)) * (c 48 (3 * a1))) / 10))) 59 (4 * a2 + 3) (c 59 (4 * a2 + 3) - (((c 59 (4 * a2 + 3)) * (c 48 (3 * a1 + 2))) / 10))) 59 (4 * a2 + 2) ((((c 59 (4 * a2 + 3)) * (c 48 (3 * a1 + 2))) / 10) + c 59 (4 * a2 + 2) - (((c 59 (4 * a2 + 2)) * (c 48 (3 * a1 + 1))) / 10))) 59 (4 * a2) ((((c 59 (4 * a2 + 1)) * (c 48 (3 * a1))) / 10) + c 59 (4 * a2) - ((((((c 59 (4 * a2 + 1)) * (c 48 (3 * a1))) / 10) + c 59 (4 * a2)) * (c 41 23)) / 100))) 59 35 y_20) 59 (4 * k9 + 2) = c 59 (4 * k9 + 2) := ((up_n (ne_l ((q_ff1dc68db hk9)))).trans ((up_n ((q_ae83e86ba))).trans ((up_n ((q_27892e29e e_30))).trans ((up_n ((q_91c5bd343))).trans ((up_n ((q_08c3d7060))).trans ((up_n ((q_27892e29e e_30))).trans ((up_n ((q_ae83e86ba))).trans (up_n ((q_08c3d7060))))))))))
      have h_42 := ir_59_g hI (j := 4 * k9 + 3) ((q_d09cb0b73 hk9))
      have h_43 : (up (up (up (up (up (up (up (up c 59 (4 * a2 + 1) (c 59 (4 * a2 + 1) - (((c 59 (4 * a2 + 1)) * (c 48 (3 * a1))) / 10))) 59 (4 * a2) ((((c 59 (4 * a2 + 1)) * (c 48 (3 * a1))) / 10) + c 59 (4 * a2))) 59 (4 * a2 + 2) (c 59 (4 * a2 + 2) - (((c 59 (4 * a2 + 2)) * (c 48 (3 * a1 + 1))) / 10))) 59 (4 * a2 + 1) ((((c 59 (4 * a2 + 2)) * (c 48 (3 * a1 + 1))) / 10) + c 59 (4 * a2 + 1) - (((c 59 (4 * a2 + 1)) * (c 48 (3 * a1))) / 10))) 59 (4 * a2 + 3) (c 59 (4 * a2 + 3) - (((c 59 (4 * a2 + 3)) * (c 48 (3 * a1 + 2))) / 10))) 59 (4 * a2 + 2) ((((c 59 (4 * a2 + 3)) * (c 48 (3 * a1 + 2))) / 10) + c 59 (4 * a2 + 2) - (((c 59 (4 * a2 + 2)) * (c 48 (3 * a1 + 1))) / 10))) 59 (4 * a2) ((((c 59 (4 * a2 + 1)) * (c 48 (3 * a1))) / 10) + c 59 (4 * a2) - ((((((c 59 (4 * a2 + 1)) * (c 48 (3 * a1))) / 10) + c 59 (4 * a2)) * (c 41 23)) / 100))) 59 35 y_20) 59 (4 * k9 + 3) = c 59 (4 * k9 + 3) := ((up_n (ne_l ((q_f794b9410 hk9)))).trans ((up_n ((q_b6789388a))).trans ((up_n ((q_28d70e8e5))).trans ((up_n ((q_2db9f474b e_30))).trans ((up_n ((q_6d5c6886e))).trans ((up_n ((q_28d70e8e5))).trans ((up_n ((q_b6789388a))).trans (up_n ((q_6d5c6886e))))))))))
      omega
    have hI_44 := iv_close hI_28 hr_29
    exact K (up (up (up (up (up (up (up (up c 59 (4 * a2 + 1) (c 59 (4 * a2 + 1) - (((c 59 (4 * a2 + 1)) * (c 48 (3 * a1))) / 10))) 59 (4 * a2) ((((c 59 (4 * a2 + 1)) * (c 48 (3 * a1))) / 10) + c 59 (4 * a2))) 59 (4 * a2 + 2) (c 59 (4 * a2 + 2) - (((c 59 (4 * a2 + 2)) * (c 48 (3 * a1 + 1))) / 10))) 59 (4 * a2 + 1) ((((c 59 (4 * a2 + 2)) * (c 48 (3 * a1 + 1))) / 10) + c 59 (4 * a2 + 1) - (((c 59 (4 * a2 + 1)) * (c 48 (3 * a1))) / 10))) 59 (4 * a2 + 3) (c 59 (4 * a2 + 3) - (((c 59 (4 * a2 + 3)) * (c 48 (3 * a1 + 2))) / 10))) 59 (4 * a2 + 2) ((((c 59 (4 * a2 + 3)) * (c 48 (3 * a1 + 2))) / 10) + c 59 (4 * a2 + 2) - (((c 59 (4 * a2 + 2)) * (c 48 (3 * a1 + 1))) / 10))) 59 (4 * a2) ((((c 59 (4 * a2 + 1)) * (c 48 (3 * a1))) / 10) + c 59 (4 * a2) - ((((((c 59 (4 * a2 + 1)) * (c 48 (3 * a1))) / 10) + c 59 (4 * a2)) * (c 41 23)) / 100))) 59 35 y_20) 1 hI_44 (fun a j hm => (up_b (Decidable.or_iff_not_imp_left.mpr (fun h1 h2 => hm (Decidable.not_not.mp h1)))).trans ((up_b (Decidable.or_iff_not_imp_left.mpr (fun h1 h2 => hm (Decidable.not_not.mp h1)))).trans ((up_b (Decidable.or_iff_not_imp_left.mpr (fun h1 h2 => hm (Decidable.not_not.mp h1)))).trans ((up_b (Decidable.or_iff_not_imp_left.mpr (fun h1 h2 => hm (Decidable.not_not.mp h1)))).trans ((up_b (Decidable.or_iff_not_imp_left.mpr (fun h1 h2 => hm (Decidable.not_not.mp h1)))).trans ((up_b (Decidable.or_iff_not_imp_left.mpr (fun h1 h2 => hm (Decidable.not_not.mp h1)))).trans ((up_b (Decidable.or_iff_not_imp_left.mpr (fun h1 h2 => hm (Decidable.not_not.mp h1)))).trans (up_b (Decidable.or_iff_not_imp_left.mpr (fun h1 h2 => hm (Decidable.not_not.mp h1))))))))))) ⟨of_decide_eq_true rfl, of_decide_eq_true rfl⟩
  · refine v_if_ne_f (t := 10) c_188_5 rfl (Decidable.not_not.mp h_6) (q_iconst c_188_8 (v_zret c_188_9 rfl (of_decide_eq_true rfl) ?_))
    have hr_45 : ∀ j : Int, rs 59 j → c 59 j + c 59 (j + 1) + c 59 (j + 2) + c 59 (j + 3) ≤ 9999 := by
      intro j9 hj9
      obtain ⟨k9, rfl, hk9⟩ := rs_59 hj9
      by_cases e_46 : k9 = a2
      · skip
        have h_47 : c 59 (4 * k9) = c 59 (4 * a2) := (congrArg (c 59) (show 4 * k9 = 4 * a2 from by omega))
        have h_48 : c 59 (4 * k9 + 1) = c 59 (4 * a2 + 1) := (congrArg (c 59) (show 4 * k9 + 1 = 4 * a2 + 1 from by omega))
        have h_49 : c 59 (4 * k9 + 2) = c 59 (4 * a2 + 2) := (congrArg (c 59) (show 4 * k9 + 2 = 4 * a2 + 2 from by omega))
        have h_50 : c 59 (4 * k9 + 3) = c 59 (4 * a2 + 3) := (congrArg (c 59) (show 4 * k9 + 3 = 4 * a2 + 3 from by omega))
        omega
      have h_51 := iv_r hI 59 (4 * k9) hj9 (by omega)
      have h_52 := ir_59_g hI (j := 4 * k9) ((q_9f1d5ffdc hk9))
      have h_53 : c 59 (4 * k9) = c 59 (4 * k9) := rfl
      have h_54 := ir_59_g hI (j := 4 * k9 + 1) ((q_0a2ee6f8f hk9))
      have h_55 : c 59 (4 * k9 + 1) = c 59 (4 * k9 + 1) := rfl
      have h_56 := ir_59_g hI (j := 4 * k9 + 2) ((q_e07a293a2 hk9))
      have h_57 : c 59 (4 * k9 + 2) = c 59 (4 * k9 + 2) := rfl
      have h_58 := ir_59_g hI (j := 4 * k9 + 3) ((q_d09cb0b73 hk9))
      have h_59 : c 59 (4 * k9 + 3) = c 59 (4 * k9 + 3) := rfl
      omega
    have hI_60 := iv_close hIo hr_45
    exact K c 0 hI_60 (fun a j hm => rfl) ⟨of_decide_eq_true rfl, of_decide_eq_true rfl⟩

set_option maxRecDepth 100000 in
set_option maxHeartbeats 4000000 in
theorem s_189 {sc : List Int32} {e : Int} {d u P Q : Nat} {c : ME} {v1 v2 v3 r : Int} {a1 : Int} {a2 : Int} {a3 : Int} {Z : AR → Prop} (hI : Iv u e P Q c) (ha1 : 0 ≤ a1 ∧ a1 ≤ 3) (ha2 : 0 ≤ a2 ∧ a2 ≤ 5) (ha3 : 0 ≤ a3 ∧ a3 ≤ 3) (hv0 : c 49 a1 = v1) (hv1 : c 59 (a1 + 30) = v2) (hv2 : c 59 (4 * a2 + a3) = v3) (hr9 : fal v1 (v2) a3 v3 = r) (K : Z (.inl (some (vi r)), Wd P Q P P c, 0, 0)) : Wp sc (d + 7) 189 0 [(0, .ref 41), (1, vi a1), (2, vi a2), (3, vi a3)] [] (Wd P Q P P c) 0 0 Z := by
  have hP := iv_P hI
  have hQ := iv_Q hI
  have h_1 := ir_49 hI a1
  have h_2 := ir_59 hI (a1 + 30)
  have h_3 := ir_59_g hI (j := 4 * a2 + a3) ((q_d5fe0d0d1 ha2 ha3))
  refine q_iload_n c_189_0 rfl (q_aload_n c_189_1 rfl (v_gr (t := 49) c_189_2 kf_8_38 rfl (Nat.le_of_ble_eq_true rfl) rfl (q_iload_n c_189_5 rfl (v_ia (v := v1) c_189_6 rfl (of_decide_eq_true rfl) (of_decide_eq_true rfl) ⟨ha1.1, (q_b6d45db89 ha1)⟩ (hv0) ?_))))
  by_cases h_4 : a3 > v1
  · refine v_ic_gt_t (t := 23) c_189_7 rfl ⟨by omega, h_4, (ler ha3.2 rfl)⟩ (q_iload_n c_189_23 rfl (q_aload_n c_189_24 rfl (v_gr (t := 49) c_189_25 kf_8_38 rfl (Nat.le_of_ble_eq_true rfl) rfl (q_iload_n c_189_28 rfl (v_ia (v := v1) c_189_29 rfl (of_decide_eq_true rfl) (of_decide_eq_true rfl) ⟨ha1.1, (q_b6d45db89 ha1)⟩ (hv0) (q_iconst c_189_30 (v_iadd (v := v1 + 1) c_189_31 rfl ?_)))))))
    by_cases h_5 : a3 ≠ v1 + 1
    · refine v_ic_ne_t (t := 63) c_189_32 rfl ⟨h_5, ⟨(lel ha3.1 rfl), (ler ha3.2 rfl)⟩, by omega, (q_429e24ab3 h_4 ha3)⟩ (q_iconst c_189_63 (q_iret c_189_64 rfl ?_))
      exact zv (by rw [← hr9]; unfold fal; split <;> first | omega | (split <;> omega)) (K)
    · refine v_ic_ne_f (t := 63) c_189_32 rfl (Decidable.not_not.mp h_5) (q_aload_n c_189_35 rfl (v_gr (t := 59) c_189_36 kf_8_68 rfl (Nat.le_of_ble_eq_true rfl) rfl (v_bip c_189_39 (of_decide_eq_true rfl) (q_iload_n c_189_41 rfl (v_iadd (v := a1 + 30) c_189_42 (by omega) (v_ia (v := v2) c_189_43 rfl (of_decide_eq_true rfl) (of_decide_eq_true rfl) ⟨(rgp_l ha1.1 (of_decide_eq_true rfl)), (q_26b090a2b ha1)⟩ (hv1) (q_iconst c_189_44 ?_)))))))
      by_cases h_6 : v2 ≠ 1
      · refine v_ic_ne_t (t := 63) c_189_45 rfl ⟨h_6, ⟨by omega, by omega⟩, of_decide_eq_true rfl, of_decide_eq_true rfl⟩ (q_iconst c_189_63 (q_iret c_189_64 rfl ?_))
        exact zv (by rw [← hr9]; unfold fal; split <;> first | omega | (split <;> omega)) (K)
      · refine v_ic_ne_f (t := 63) c_189_45 rfl (Decidable.not_not.mp h_6) (q_aload_n c_189_48 rfl (v_gr (t := 59) c_189_49 kf_8_68 rfl (Nat.le_of_ble_eq_true rfl) rfl (q_iconst c_189_52 (q_iload_n c_189_53 rfl (v_imul (v := 4 * a2) c_189_54 rfl (q_iload_n c_189_55 rfl (v_iadd (v := 4 * a2 + a3) c_189_56 rfl ?_)))))))
        refine v_ia (v := v3) c_189_57 rfl (of_decide_eq_true rfl) (of_decide_eq_true rfl) ⟨by omega, (q_7e8eed9ea ha2 ha3)⟩ (hv2) (q_iconst c_189_58 (v_idiv (v := (v3 / 2)) c_189_59 (by omega) rfl (q_goto (t := 64) c_189_60 rfl (q_iret c_189_64 rfl ?_))))
        exact zv (by rw [← hr9]; unfold fal; split <;> first | omega | (split <;> omega)) (K)
  · refine v_ic_gt_f (t := 23) c_189_7 rfl ⟨(lel ha3.1 rfl), (Int.not_lt.mp h_4), by omega⟩ (q_aload_n c_189_10 rfl (v_gr (t := 59) c_189_11 kf_8_68 rfl (Nat.le_of_ble_eq_true rfl) rfl (q_iconst c_189_14 (q_iload_n c_189_15 rfl (v_imul (v := 4 * a2) c_189_16 rfl (q_iload_n c_189_17 rfl (v_iadd (v := 4 * a2 + a3) c_189_18 rfl ?_)))))))
    refine v_ia (v := v3) c_189_19 rfl (of_decide_eq_true rfl) (of_decide_eq_true rfl) ⟨(q_404267838 ha2 ha3), (q_7e8eed9ea ha2 ha3)⟩ (hv2) (q_goto (t := 64) c_189_20 rfl (q_iret c_189_64 rfl ?_))
    exact zv (by rw [← hr9]; unfold fal; split <;> first | omega | (split <;> omega)) (K)

set_option maxRecDepth 100000 in
set_option maxHeartbeats 4000000 in
theorem s_190 {sc : List Int32} {e : Int} {d u P Q : Nat} {c : ME} {v1 v2 v3 v4 v5 v6 r : Int} {a1 : Int} {a2 : Int} {Z : AR → Prop} (hI : Iv u e P Q c) (ha1 : 0 ≤ a1 ∧ a1 ≤ 3) (ha2 : 0 ≤ a2 ∧ a2 ≤ 5) (hv0 : c 49 a1 = v1) (hv1 : c 59 (a1 + 30) = v2) (hv2 : c 59 (4 * a2) = v3) (hv3 : c 59 (4 * a2 + 1) = v4) (hv4 : c 59 (4 * a2 + 2) = v5) (hv5 : c 59 (4 * a2 + 3) = v6) (hr9 : fal v1 (v2) 0 v3 + fal v1 (v2) 1 v4 + fal v1 (v2) 2 v5 + fal v1 (v2) 3 v6 = r) (K : Z (.inl (some (vi r)), Wd P Q P P c, 0, 0)) : Wp sc (d + 8) 190 0 [(0, .ref 41), (1, vi a1), (2, vi a2)] [] (Wd P Q P P c) 0 0 Z := by
  have hP := iv_P hI
  have hQ := iv_Q hI
  have h_1 := ir_49 hI a1
  have h_2 := ir_59 hI (a1 + 30)
  have h_3 := ir_59_g hI (j := 4 * a2) ((q_9f1d5ffdc ha2))
  have h_4 := ir_59_g hI (j := 4 * a2 + 1) ((q_0a2ee6f8f ha2))
  have h_5 := ir_59_g hI (j := 4 * a2 + 2) ((q_e07a293a2 ha2))
  have h_6 := ir_59_g hI (j := 4 * a2 + 3) ((q_d09cb0b73 ha2))
  refine q_iconst c_190_0 (q_istore_n c_190_1 (Nat.le_of_ble_eq_true rfl) (q_iconst c_190_2 (q_istore c_190_3 (Nat.le_of_ble_eq_true rfl) (q_iload c_190_5 rfl (q_iconst c_190_7 (v_ic_ge_f (t := 28) c_190_8 rfl (of_decide_eq_true rfl) (q_iload_n c_190_11 rfl ?_)))))))
  refine q_aload_n c_190_12 rfl (q_iload_n c_190_13 rfl (q_iload_n c_190_14 rfl (q_iload c_190_15 rfl ?_)))
  have h_7 := fal_rng (m := v1) (t := v2) (g := 0) (x := v3) (by first | (clear ha1 ha2 h_1 hv0 h_2 hv1 h_4 hv3 h_5 hv4 h_6 hv5; omega) | omega)
  refine v_cv c_190_17 km_8_363 rfl rfl (Nat.le_of_ble_eq_true rfl) ⟨⟨rfl, rfl⟩, Nat.le_of_ble_eq_true rfl, rfl⟩ (Nat.le_of_ble_eq_true rfl) (Nat.le_of_ble_eq_true rfl) (s_189 (v1 := v1) (v2 := v2) (v3 := v3) (r := (fal v1 (v2) 0 v3)) (a1 := a1) (a2 := a2) (a3 := 0) hI (show 0 ≤ a1 ∧ a1 ≤ 3 from ha1) (show 0 ≤ a2 ∧ a2 ≤ 5 from ha2) (show 0 ≤ 0 ∧ 0 ≤ 3 from ⟨of_decide_eq_true rfl, of_decide_eq_true rfl⟩) ((hv0)) ((hv1)) ((congrArg (c 59) (show 4 * a2 + 0 = 4 * a2 from (q_8baad3eb5))).trans (hv2)) rfl (bk_inl (v_iadd (v := (fal v1 (v2) 0 v3)) c_190_20 (by first | (clear ha1 ha2 h_1 hv0 h_2 hv1 h_3 hv2 h_4 hv3 h_5 hv4 h_6 hv5 h_7; omega) | omega) (q_istore_n c_190_21 (Nat.le_of_ble_eq_true rfl) (v_iinc (v := 1) c_190_22 rfl (Nat.le_of_ble_eq_true rfl) (of_decide_eq_true rfl) (q_goto (t := 5) c_190_25 rfl (q_iload c_190_5 rfl (q_iconst c_190_7 ?_))))))))
  refine v_ic_ge_f (t := 28) c_190_8 rfl (of_decide_eq_true rfl) (q_iload_n c_190_11 rfl (q_aload_n c_190_12 rfl (q_iload_n c_190_13 rfl (q_iload_n c_190_14 rfl (q_iload c_190_15 rfl ?_)))))
  have h_8 := fal_rng (m := v1) (t := v2) (g := 1) (x := v4) (by first | (clear ha1 ha2 h_1 hv0 h_2 hv1 h_3 hv2 h_5 hv4 h_6 hv5 h_7; omega) | omega)
  refine v_cv c_190_17 km_8_363 rfl rfl (Nat.le_of_ble_eq_true rfl) ⟨⟨rfl, rfl⟩, Nat.le_of_ble_eq_true rfl, rfl⟩ (Nat.le_of_ble_eq_true rfl) (Nat.le_of_ble_eq_true rfl) (s_189 (v1 := v1) (v2 := v2) (v3 := v4) (r := (fal v1 (v2) 1 v4)) (a1 := a1) (a2 := a2) (a3 := 1) hI (show 0 ≤ a1 ∧ a1 ≤ 3 from ha1) (show 0 ≤ a2 ∧ a2 ≤ 5 from ha2) (show 0 ≤ 1 ∧ 1 ≤ 3 from ⟨of_decide_eq_true rfl, of_decide_eq_true rfl⟩) ((hv0)) ((hv1)) ((hv3)) rfl (bk_inl (v_iadd (v := (fal v1 (v2) 0 v3) + (fal v1 (v2) 1 v4)) c_190_20 rfl (q_istore_n c_190_21 (Nat.le_of_ble_eq_true rfl) (Wp_ls [(3, vi ((fal v1 (v2) 0 v3) + (fal v1 (v2) 1 v4))), (4, vi 1), (0, .ref 41), (1, vi a1), (2, vi a2)] (lsub_cons rfl (lsub_cons rfl (lsub_cons rfl (lsub_cons rfl (lsub_cons rfl lsub_nil))))) (v_iinc (v := 2) c_190_22 rfl (Nat.le_of_ble_eq_true rfl) (of_decide_eq_true rfl) (q_goto (t := 5) c_190_25 rfl (q_iload c_190_5 rfl ?_))))))))
  refine q_iconst c_190_7 (v_ic_ge_f (t := 28) c_190_8 rfl (of_decide_eq_true rfl) (q_iload_n c_190_11 rfl (q_aload_n c_190_12 rfl (q_iload_n c_190_13 rfl (q_iload_n c_190_14 rfl (q_iload c_190_15 rfl ?_))))))
  have h_9 := fal_rng (m := v1) (t := v2) (g := 2) (x := v5) (by first | (clear ha1 ha2 h_1 hv0 h_2 hv1 h_3 hv2 h_4 hv3 h_6 hv5 h_7 h_8; omega) | omega)
  refine v_cv c_190_17 km_8_363 rfl rfl (Nat.le_of_ble_eq_true rfl) ⟨⟨rfl, rfl⟩, Nat.le_of_ble_eq_true rfl, rfl⟩ (Nat.le_of_ble_eq_true rfl) (Nat.le_of_ble_eq_true rfl) (s_189 (v1 := v1) (v2 := v2) (v3 := v5) (r := (fal v1 (v2) 2 v5)) (a1 := a1) (a2 := a2) (a3 := 2) hI (show 0 ≤ a1 ∧ a1 ≤ 3 from ha1) (show 0 ≤ a2 ∧ a2 ≤ 5 from ha2) (show 0 ≤ 2 ∧ 2 ≤ 3 from ⟨of_decide_eq_true rfl, of_decide_eq_true rfl⟩) ((hv0)) ((hv1)) ((hv4)) rfl (bk_inl (v_iadd (v := (fal v1 (v2) 0 v3) + (fal v1 (v2) 1 v4) + (fal v1 (v2) 2 v5)) c_190_20 rfl (q_istore_n c_190_21 (Nat.le_of_ble_eq_true rfl) (v_iinc (v := 3) c_190_22 rfl (Nat.le_of_ble_eq_true rfl) (of_decide_eq_true rfl) (q_goto (t := 5) c_190_25 rfl (q_iload c_190_5 rfl (q_iconst c_190_7 ?_))))))))
  refine v_ic_ge_f (t := 28) c_190_8 rfl (of_decide_eq_true rfl) (q_iload_n c_190_11 rfl (q_aload_n c_190_12 rfl (q_iload_n c_190_13 rfl (q_iload_n c_190_14 rfl (q_iload c_190_15 rfl ?_)))))
  have h_10 := fal_rng (m := v1) (t := v2) (g := 3) (x := v6) (by first | (clear ha1 ha2 h_1 hv0 h_2 hv1 h_3 hv2 h_4 hv3 h_5 hv4 h_7 h_8 h_9; omega) | omega)
  refine v_cv c_190_17 km_8_363 rfl rfl (Nat.le_of_ble_eq_true rfl) ⟨⟨rfl, rfl⟩, Nat.le_of_ble_eq_true rfl, rfl⟩ (Nat.le_of_ble_eq_true rfl) (Nat.le_of_ble_eq_true rfl) (s_189 (v1 := v1) (v2 := v2) (v3 := v6) (r := (fal v1 (v2) 3 v6)) (a1 := a1) (a2 := a2) (a3 := 3) hI (show 0 ≤ a1 ∧ a1 ≤ 3 from ha1) (show 0 ≤ a2 ∧ a2 ≤ 5 from ha2) (show 0 ≤ 3 ∧ 3 ≤ 3 from ⟨of_decide_eq_true rfl, of_decide_eq_true rfl⟩) ((hv0)) ((hv1)) ((hv5)) rfl (bk_inl (v_iadd (v := (fal v1 (v2) 0 v3) + (fal v1 (v2) 1 v4) + (fal v1 (v2) 2 v5) + (fal v1 (v2) 3 v6)) c_190_20 rfl (q_istore_n c_190_21 (Nat.le_of_ble_eq_true rfl) (v_iinc (v := 4) c_190_22 rfl (Nat.le_of_ble_eq_true rfl) (of_decide_eq_true rfl) (Wp_ls [(4, vi 4), (3, vi ((fal v1 (v2) 0 v3) + (fal v1 (v2) 1 v4) + (fal v1 (v2) 2 v5) + (fal v1 (v2) 3 v6))), (0, .ref 41), (1, vi a1), (2, vi a2)] (lsub_cons rfl (lsub_cons rfl (lsub_cons rfl (lsub_cons rfl (lsub_cons rfl lsub_nil))))) (q_goto (t := 5) c_190_25 rfl (q_iload c_190_5 rfl ?_))))))))
  refine q_iconst c_190_7 (v_ic_ge_t (t := 28) c_190_8 rfl (of_decide_eq_true rfl) (q_iload_n c_190_28 rfl (q_iret c_190_29 rfl ?_)))
  exact zv (by omega) (K)

set_option maxRecDepth 100000 in
set_option maxHeartbeats 4000000 in
theorem s_191 {sc : List Int32} {e : Int} {d u P Q : Nat} {c : ME} {a1 : Int} {a2 : Int} {Z : AR → Prop} (hI : Iv u e P Q c) (ha1 : 0 ≤ a1 ∧ a1 ≤ 5) (ha2 : (-2147483648) ≤ a2 ∧ a2 ≤ 2147483647) (K : ∀ (c2 : ME), Iv u e P Q c2 → (∀ (a : Nat) (j : Int), ¬ ((a = 59 ∧ j = a1 + 24)) → c2 a j = c a j) → Z (.inl (none), Wd P Q P P c2, 0, 0)) : Wp sc (d + 7) 191 0 [(0, .ref 41), (1, vi a1), (2, vi a2)] [] (Wd P Q P P c) 0 0 Z := by
  have hP := iv_P hI
  have hQ := iv_Q hI
  refine q_aload_n c_191_0 rfl (v_gr (t := 59) c_191_1 kf_8_68 rfl (Nat.le_of_ble_eq_true rfl) rfl (v_bip c_191_4 (of_decide_eq_true rfl) (q_iload_n c_191_6 rfl (v_iadd (v := a1 + 24) c_191_7 (by omega) (q_iload_n c_191_8 rfl (q_aload_n c_191_9 rfl (v_gr (t := 59) c_191_10 kf_8_68 rfl (Nat.le_of_ble_eq_true rfl) rfl ?_)))))))
  refine v_bip c_191_13 (of_decide_eq_true rfl) (q_iload_n c_191_15 rfl (v_iadd (v := a1 + 24) c_191_16 (by omega) ?_))
  have h_1 := ir_59 hI (a1 + 24)
  refine v_ia (v := c 59 (a1 + 24)) c_191_17 rfl (of_decide_eq_true rfl) (of_decide_eq_true rfl) ⟨(rgp_l ha1.1 (of_decide_eq_true rfl)), (q_57f615a18 ha1)⟩ rfl ?_
  by_cases h_2 : a2 ≤ c 59 (a1 + 24)
  · refine v_ic_le_t (t := 25) c_191_18 rfl ⟨ha2.1, h_2, h_1.2⟩ (q_aload_n c_191_25 rfl (v_gr (t := 59) c_191_26 kf_8_68 rfl (Nat.le_of_ble_eq_true rfl) rfl (v_bip c_191_29 (of_decide_eq_true rfl) (q_iload_n c_191_31 rfl (v_iadd (v := a1 + 24) c_191_32 (by omega) (v_ia (v := c 59 (a1 + 24)) c_191_33 rfl (of_decide_eq_true rfl) (of_decide_eq_true rfl) ⟨(rgp_l ha1.1 (of_decide_eq_true rfl)), (q_57f615a18 ha1)⟩ rfl (v_is c_191_34 rfl (of_decide_eq_true rfl) (of_decide_eq_true rfl) ⟨(rgp_l ha1.1 (of_decide_eq_true rfl)), (q_57f615a18 ha1)⟩ ?_)))))))
    refine q_vret rfl rfl ?_
    have hI_3 := iw_row (a := 59) (j := a1 + 24) (v := c 59 (a1 + 24)) hI (by omega) (Or.inr (by omega)) ⟨by omega, by omega, by omega⟩
    exact K (up c 59 (a1 + 24) (c 59 (a1 + 24))) hI_3 (fun a j hm => up_b (Decidable.or_iff_not_imp_left.mpr (fun h1 h2 => hm ⟨Decidable.not_not.mp h1, h2⟩)))
  · refine v_ic_le_f (t := 25) c_191_18 rfl ⟨h_1.1, (Int.not_le.mp h_2), ha2.2⟩ (q_iload_n c_191_21 rfl (q_goto (t := 34) c_191_22 rfl (v_is c_191_34 rfl (of_decide_eq_true rfl) (of_decide_eq_true rfl) ⟨(rgp_l ha1.1 (of_decide_eq_true rfl)), (q_57f615a18 ha1)⟩ (q_vret rfl rfl ?_))))
    have hI_4 := iw_row (a := 59) (j := a1 + 24) (v := a2) hI (by omega) (Or.inr (by omega)) ⟨by omega, by omega, by omega⟩
    exact K (up c 59 (a1 + 24) a2) hI_4 (fun a j hm => up_b (Decidable.or_iff_not_imp_left.mpr (fun h1 h2 => hm ⟨Decidable.not_not.mp h1, h2⟩)))

set_option maxRecDepth 100000 in
set_option maxHeartbeats 4000000 in
theorem s_192 {sc : List Int32} {d P Q : Nat} {c : ME} {a1 : Int} {Z : AR → Prop} (hI : Iv 59 (-1) P Q c) (ha1 : 0 ≤ a1 ∧ a1 ≤ 5) (K : ∀ (c2 : ME), Iv 59 (-1) P Q c2 → (∀ (a : Nat) (j : Int), ¬ ((a = 59 ∧ j = 4 * a1) ∨ (a = 59 ∧ j = 4 * a1 + 1) ∨ (a = 59 ∧ j = 4 * a1 + 2) ∨ (a = 59 ∧ j = 4 * a1 + 3) ∨ (a = 59 ∧ j = a1 + 24)) → c2 a j = c a j) → ((c2 59 (4 * a1) = 0 ∧ c2 59 (4 * a1 + 1) = 0 ∧ c2 59 (4 * a1 + 2) = 0 ∧ c2 59 (4 * a1 + 3) = 0)) → Z (.inl (none), Wd P Q P P c2, 0, 0)) : Wp sc (d + 7) 192 0 [(0, .ref 41), (1, vi a1)] [] (Wd P Q P P c) 0 0 Z := by
  have hP := iv_P hI
  have hQ := iv_Q hI
  refine q_iconst c_192_0 (q_istore_n c_192_1 (Nat.le_of_ble_eq_true rfl) (q_iload_n c_192_2 rfl (q_iconst c_192_3 (v_ic_ge_f (t := 24) c_192_4 rfl (of_decide_eq_true rfl) (q_aload_n c_192_7 rfl (v_gr (t := 59) c_192_8 kf_8_68 rfl (Nat.le_of_ble_eq_true rfl) rfl (q_iconst c_192_11 ?_)))))))
  refine q_iload_n c_192_12 rfl (v_imul (v := 4 * a1) c_192_13 rfl (q_iload_n c_192_14 rfl (v_iadd (v := 4 * a1) c_192_15 (by omega) (q_iconst c_192_16 (v_is c_192_17 rfl (of_decide_eq_true rfl) (of_decide_eq_true rfl) ⟨(q_c065257af ha1), (q_a49915bbb ha1)⟩ (v_iinc (v := 1) c_192_18 rfl (Nat.le_of_ble_eq_true rfl) (of_decide_eq_true rfl) (q_goto (t := 2) c_192_21 rfl ?_)))))))
  refine q_iload_n c_192_2 rfl (q_iconst c_192_3 (v_ic_ge_f (t := 24) c_192_4 rfl (of_decide_eq_true rfl) (q_aload_n c_192_7 rfl (v_gr (t := 59) c_192_8 kf_8_68 rfl (Nat.le_of_ble_eq_true rfl) rfl (q_iconst c_192_11 (q_iload_n c_192_12 rfl (v_imul (v := 4 * a1) c_192_13 rfl ?_)))))))
  refine q_iload_n c_192_14 rfl (v_iadd (v := 4 * a1 + 1) c_192_15 rfl (q_iconst c_192_16 (v_is c_192_17 rfl (of_decide_eq_true rfl) (of_decide_eq_true rfl) ⟨(q_83fdbd35d ha1), (q_7a0c0a739 ha1)⟩ (v_iinc (v := 2) c_192_18 rfl (Nat.le_of_ble_eq_true rfl) (of_decide_eq_true rfl) (q_goto (t := 2) c_192_21 rfl (q_iload_n c_192_2 rfl (q_iconst c_192_3 ?_)))))))
  refine v_ic_ge_f (t := 24) c_192_4 rfl (of_decide_eq_true rfl) (q_aload_n c_192_7 rfl (v_gr (t := 59) c_192_8 kf_8_68 rfl (Nat.le_of_ble_eq_true rfl) rfl (q_iconst c_192_11 (q_iload_n c_192_12 rfl (v_imul (v := 4 * a1) c_192_13 rfl (q_iload_n c_192_14 rfl (v_iadd (v := 4 * a1 + 2) c_192_15 rfl ?_)))))))
  refine q_iconst c_192_16 (v_is c_192_17 rfl (of_decide_eq_true rfl) (of_decide_eq_true rfl) ⟨(q_0f37a0c6e ha1), (q_36e1404d4 ha1)⟩ (v_iinc (v := 3) c_192_18 rfl (Nat.le_of_ble_eq_true rfl) (of_decide_eq_true rfl) (q_goto (t := 2) c_192_21 rfl (q_iload_n c_192_2 rfl (q_iconst c_192_3 (v_ic_ge_f (t := 24) c_192_4 rfl (of_decide_eq_true rfl) (q_aload_n c_192_7 rfl ?_)))))))
  refine v_gr (t := 59) c_192_8 kf_8_68 rfl (Nat.le_of_ble_eq_true rfl) rfl (q_iconst c_192_11 (q_iload_n c_192_12 rfl (v_imul (v := 4 * a1) c_192_13 rfl (q_iload_n c_192_14 rfl (v_iadd (v := 4 * a1 + 3) c_192_15 rfl (q_iconst c_192_16 (v_is c_192_17 rfl (of_decide_eq_true rfl) (of_decide_eq_true rfl) ⟨(q_f6be69137 ha1), (q_6b2d832d4 ha1)⟩ ?_)))))))
  refine v_iinc (v := 4) c_192_18 rfl (Nat.le_of_ble_eq_true rfl) (of_decide_eq_true rfl) (Wp_ls [(2, vi 4), (0, .ref 41), (1, vi a1)] (lsub_cons rfl (lsub_cons rfl (lsub_cons rfl lsub_nil))) (q_goto (t := 2) c_192_21 rfl (q_iload_n c_192_2 rfl (q_iconst c_192_3 (v_ic_ge_t (t := 24) c_192_4 rfl (of_decide_eq_true rfl) (q_aload_n c_192_24 rfl (v_gr (t := 59) c_192_25 kf_8_68 rfl (Nat.le_of_ble_eq_true rfl) rfl ?_)))))))
  refine v_bip c_192_28 (of_decide_eq_true rfl) (q_iload_n c_192_30 rfl (v_iadd (v := a1 + 24) c_192_31 (by omega) (q_iconst c_192_32 (v_is c_192_33 rfl (of_decide_eq_true rfl) (of_decide_eq_true rfl) ⟨(rgp_l ha1.1 (of_decide_eq_true rfl)), (q_57f615a18 ha1)⟩ (q_vret rfl rfl ?_)))))
  have hI_1 := iw_row (a := 59) (j := 4 * a1) (v := 0) hI (by omega) (Or.inl rfl) ⟨by omega, by omega, by omega⟩
  have hI_2 := iw_row (a := 59) (j := 4 * a1 + 1) (v := 0) hI_1 (by omega) (Or.inl rfl) ⟨by omega, by omega, by omega⟩
  have hI_3 := iw_row (a := 59) (j := 4 * a1 + 2) (v := 0) hI_2 (by omega) (Or.inl rfl) ⟨by omega, by omega, by omega⟩
  have hI_4 := iw_row (a := 59) (j := 4 * a1 + 3) (v := 0) hI_3 (by omega) (Or.inl rfl) ⟨by omega, by omega, by omega⟩
  have hI_5 := iw_row (a := 59) (j := a1 + 24) (v := 0) hI_4 (by omega) (Or.inl rfl) ⟨by omega, by omega, by omega⟩
  have h_6 : (up (up (up (up (up c 59 (4 * a1) 0) 59 (4 * a1 + 1) 0) 59 (4 * a1 + 2) 0) 59 (4 * a1 + 3) 0) 59 (a1 + 24) 0) 59 (4 * a1 + 1) = 0 := ((up_n (ne_l ((q_60c9feeee ha1)))).trans ((up_n ((ne_aa (ni rfl)))).trans ((up_n ((ne_aa (ni rfl)))).trans (up_e rfl))))
  have h_7 : (up (up (up (up (up c 59 (4 * a1) 0) 59 (4 * a1 + 1) 0) 59 (4 * a1 + 2) 0) 59 (4 * a1 + 3) 0) 59 (a1 + 24) 0) 59 (4 * a1 + 2) = 0 := ((up_n (ne_l ((q_27ec1b4d7 ha1)))).trans ((up_n ((ne_aa (ni rfl)))).trans (up_e rfl)))
  have h_8 : (up (up (up (up (up c 59 (4 * a1) 0) 59 (4 * a1 + 1) 0) 59 (4 * a1 + 2) 0) 59 (4 * a1 + 3) 0) 59 (a1 + 24) 0) 59 (4 * a1 + 3) = 0 := ((up_n (ne_l ((q_fd9aac8f8 ha1)))).trans (up_e rfl))
  have h_9 : (up (up (up (up (up c 59 (4 * a1) 0) 59 (4 * a1 + 1) 0) 59 (4 * a1 + 2) 0) 59 (4 * a1 + 3) 0) 59 (a1 + 24) 0) 59 (4 * a1) = 0 := ((up_n (ne_l ((q_788f4b81f ha1)))).trans ((up_n ((ne_0a (ni rfl)))).trans ((up_n ((ne_0a (ni rfl)))).trans ((up_n ((ne_0a (ni rfl)))).trans (up_e rfl)))))
  exact K (up (up (up (up (up c 59 (4 * a1) 0) 59 (4 * a1 + 1) 0) 59 (4 * a1 + 2) 0) 59 (4 * a1 + 3) 0) 59 (a1 + 24) 0) hI_5 (fun a j hm => (up_b (Decidable.or_iff_not_imp_left.mpr (fun h1 h2 => hm (Or.inr (Or.inr (Or.inr (Or.inr ⟨Decidable.not_not.mp h1, h2⟩))))))).trans ((up_b (Decidable.or_iff_not_imp_left.mpr (fun h1 h2 => hm (Or.inr (Or.inr (Or.inr (Or.inl ⟨Decidable.not_not.mp h1, h2⟩))))))).trans ((up_b (Decidable.or_iff_not_imp_left.mpr (fun h1 h2 => hm (Or.inr (Or.inr (Or.inl ⟨Decidable.not_not.mp h1, h2⟩)))))).trans ((up_b (Decidable.or_iff_not_imp_left.mpr (fun h1 h2 => hm (Or.inr (Or.inl ⟨Decidable.not_not.mp h1, h2⟩))))).trans (up_b (Decidable.or_iff_not_imp_left.mpr (fun h1 h2 => hm (Or.inl ⟨Decidable.not_not.mp h1, h2⟩)))))))) ⟨by first | assumption | omega, by first | assumption | omega, by first | assumption | omega, by first | assumption | omega⟩

