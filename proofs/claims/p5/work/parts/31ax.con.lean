/-! ===== contracts 14 ===== -/
theorem q_f9c88a064 {x0 : Int} (f0 : (x0 = 0)) : x0 = 0 := by omega
theorem q_3554c080d {x0 x1 : Int} (f0 : (-1) ≤ x0 ∧ x0 ≤ 605) (f1 : ¬ (x0 ≠ (-1))) (f2 : (x0 < (-1)) ∨ (x0 > (-1)) ∨ (x1 ≤ 245)) : x1 < 250 := by omega
theorem q_2e240ba46 {x0 x1 : Int} (f0 : (-1) ≤ x0 ∧ x0 ≤ 605) (f1 : ¬ (x0 ≠ (-1))) (f2 : (x0 < (-1)) ∨ (x0 > (-1)) ∨ (x1 ≤ 245)) : x1 + 1 < 250 := by omega
theorem q_21de9155c {x0 x1 : Int} (f0 : (-1) ≤ x0 ∧ x0 ≤ 605) (f1 : ¬ (x0 ≠ (-1))) (f2 : (x0 < (-1)) ∨ (x0 > (-1)) ∨ (x1 ≤ 245)) : x1 + 2 < 250 := by omega
theorem q_dedf3b238 {x0 x1 : Int} (f0 : (-1) ≤ x0 ∧ x0 ≤ 605) (f1 : ¬ (x0 ≠ (-1))) (f2 : (x0 < (-1)) ∨ (x0 > (-1)) ∨ (x1 ≤ 245)) : x1 + 3 < 250 := by omega
theorem q_b87357d11 {x0 x1 : Int} (f0 : (-1) ≤ x0 ∧ x0 ≤ 605) (f1 : ¬ (x0 ≠ (-1))) (f2 : (x0 < (-1)) ∨ (x0 > (-1)) ∨ (x1 ≤ 245)) : x1 + 4 < 250 := by omega
theorem q_ba2d1a26e {x0 x1 : Int} (f0 : (-1) ≤ x0 ∧ x0 ≤ 605) (f1 : ¬ (x0 ≠ (-1))) (f2 : (x0 < (-1)) ∨ (x0 > (-1)) ∨ (x1 ≤ 245)) : x1 ≤ 245 := by omega
theorem q_205826eb7 {x0 x1 : Int} (f0 : x0 = 0) (f1 : 0 ≤ x0 ∧ x0 ≤ 7) (f2 : (x0 ≠ 0) ∨ (x1 ≤ 3)) : x1 ≤ 3 := by omega
theorem q_f954b72af {x0 : Int} (f0 : 0 ≤ x0 ∧ x0 ≤ 5) : x0 ≤ 5 := by omega
theorem q_0ea479d95 {x0 x1 x2 : Int} (f0 : x0 = 1) (f1 : (x0 ≠ 1) ∨ (x1 ≤ 3 ∧ x2 ≤ 5)) : x1 ≤ 3 := by omega
theorem q_e01607d78 {x0 x1 x2 : Int} (f0 : x0 = 1) (f1 : (x0 ≠ 1) ∨ (x1 ≤ 3 ∧ x2 ≤ 5)) : x2 ≤ 5 := by omega
theorem q_2719dcd49 {x0 x1 : Int} (f0 : x0 = 2) (f1 : (x0 ≠ 2) ∨ (x1 ≤ 5)) : x1 ≤ 5 := by omega
theorem q_1211e66ac {x0 x1 : Int} (f0 : x0 = 3) (f1 : (x0 ≠ 3) ∨ (x1 ≤ 5)) : x1 ≤ 5 := by omega
theorem q_1f31d9498 {x0 x1 : Int} (f0 : x0 = 4) (f1 : (x0 ≠ 4) ∨ (x1 ≤ 3)) : x1 ≤ 3 := by omega
theorem q_25f500cd7 {x0 x1 : Int} (f0 : x0 = 5) (f1 : (x0 ≠ 5) ∨ (x1 ≤ 5)) : x1 ≤ 5 := by omega
theorem q_5894d4d30 {x0 x1 : Int} (f0 : x0 = 7) (f1 : 0 ≤ x0 ∧ x0 ≤ 7) (f2 : (x0 ≠ 7) ∨ (x1 = 0)) : x1 ≤ 0 := by omega
theorem q_e1fbc899f {x0 : Int} (f0 : 0 ≤ x0 ∧ x0 ≤ 5) : 0 ≤ x0 := by omega
theorem q_4881f0222 {x0 : Int}  : x0 ≤ x0 + 4 := by omega
theorem q_6a73f82e8 {x0 : Int}  : x0 ≤ x0 + 3 := by omega
theorem q_5585f7267 {x0 : Int}  : x0 ≤ x0 + 2 := by omega
theorem q_867451e9a {x0 : Int}  : x0 ≤ x0 + 1 := by omega
theorem q_64f9e4230 {x0 : Int} (f0 : ¬ (x0 ≠ 1279278)) : 1023 < x0 := by omega
theorem q_ad877822f {x0 : Int} (f0 : ¬ (x0 ≠ 4153)) : 1023 < x0 := by omega
theorem q_a92f8dcb8 {x0 : Int} (f0 : ¬ (x0 ≠ 628108)) : 1023 < x0 := by omega
theorem q_36d178e95 {x0 : Int} (f0 : ¬ (x0 ≠ 660530)) : 1023 < x0 := by omega
theorem q_067a6fc62 {x0 : Int} (f0 : ¬ (x0 ≠ 20037104)) : 1023 < x0 := by omega
theorem q_1721f5441 {x0 : Int} (f0 : ¬ (x0 ≠ 540338)) : 1023 < x0 := by omega
theorem q_79933d4be {x0 : Int} (f0 : ¬ (x0 ≠ 632020)) : 1023 < x0 := by omega
theorem q_63c692497 {x0 : Int} (f0 : ¬ (x0 ≠ 7939524)) : 1023 < x0 := by omega
theorem q_f121c64ac {x0 x1 : Int} (f0 : 0 ≤ x0 ∧ x0 ≤ 6) (f1 : (x1 = 0) ∨ (x1 ≥ 0 ∧ x1 ≤ x0 - 1)) : x1 ≤ 5 := by omega
theorem c_181_0 : mLk 181 0 = some (.aload_n 0, 1) := rfl
theorem c_181_1 : mLk 181 1 = some (.invokevirtual 131, 3) := rfl
theorem c_181_4 : mLk 181 4 = some (.ifCond .ne 4, 3) := rfl
theorem c_181_8 : mLk 181 8 = some (.aload_n 0, 1) := rfl
theorem c_181_9 : mLk 181 9 = some (.getfield 59, 3) := rfl
theorem c_181_12 : mLk 181 12 = some (.aload_n 0, 1) := rfl
theorem c_181_13 : mLk 181 13 = some (.getfield 284, 3) := rfl
theorem c_181_16 : mLk 181 16 = some (.iload_n 1, 1) := rfl
theorem c_181_17 : mLk 181 17 = some (.iastore, 1) := rfl
theorem c_181_18 : mLk 181 18 = some (.aload_n 0, 1) := rfl
theorem c_181_19 : mLk 181 19 = some (.getfield 59, 3) := rfl
theorem c_181_22 : mLk 181 22 = some (.aload_n 0, 1) := rfl
theorem c_181_23 : mLk 181 23 = some (.getfield 284, 3) := rfl
theorem c_181_26 : mLk 181 26 = some (.iconst 1, 1) := rfl
theorem c_181_27 : mLk 181 27 = some (.iadd, 1) := rfl
theorem c_181_28 : mLk 181 28 = some (.iload_n 2, 1) := rfl
theorem c_181_29 : mLk 181 29 = some (.iastore, 1) := rfl
theorem c_181_30 : mLk 181 30 = some (.aload_n 0, 1) := rfl
theorem c_181_31 : mLk 181 31 = some (.getfield 59, 3) := rfl
theorem c_181_34 : mLk 181 34 = some (.aload_n 0, 1) := rfl
theorem c_181_35 : mLk 181 35 = some (.getfield 284, 3) := rfl
theorem c_181_38 : mLk 181 38 = some (.iconst 2, 1) := rfl
theorem c_181_39 : mLk 181 39 = some (.iadd, 1) := rfl
theorem c_181_40 : mLk 181 40 = some (.iload_n 3, 1) := rfl
theorem c_181_41 : mLk 181 41 = some (.iastore, 1) := rfl
theorem c_181_42 : mLk 181 42 = some (.aload_n 0, 1) := rfl
theorem c_181_43 : mLk 181 43 = some (.getfield 59, 3) := rfl
theorem c_181_46 : mLk 181 46 = some (.aload_n 0, 1) := rfl
theorem c_181_47 : mLk 181 47 = some (.getfield 284, 3) := rfl
theorem c_181_50 : mLk 181 50 = some (.iconst 3, 1) := rfl
theorem c_181_51 : mLk 181 51 = some (.iadd, 1) := rfl
theorem c_181_52 : mLk 181 52 = some (.iload 4, 2) := rfl
theorem c_181_54 : mLk 181 54 = some (.iastore, 1) := rfl
theorem c_181_55 : mLk 181 55 = some (.aload_n 0, 1) := rfl
theorem c_181_56 : mLk 181 56 = some (.getfield 59, 3) := rfl
theorem c_181_59 : mLk 181 59 = some (.aload_n 0, 1) := rfl
theorem c_181_60 : mLk 181 60 = some (.getfield 284, 3) := rfl
theorem c_181_63 : mLk 181 63 = some (.iconst 4, 1) := rfl
theorem c_181_64 : mLk 181 64 = some (.iadd, 1) := rfl
theorem c_181_65 : mLk 181 65 = some (.iload 5, 2) := rfl
theorem c_181_67 : mLk 181 67 = some (.iastore, 1) := rfl
theorem c_181_68 : mLk 181 68 = some (.aload_n 0, 1) := rfl
theorem c_181_69 : mLk 181 69 = some (.dup, 1) := rfl
theorem c_181_70 : mLk 181 70 = some (.getfield 284, 3) := rfl
theorem c_181_73 : mLk 181 73 = some (.iconst 5, 1) := rfl
theorem c_181_74 : mLk 181 74 = some (.iadd, 1) := rfl
theorem c_181_75 : mLk 181 75 = some (.putfield 284, 3) := rfl
theorem c_182_0 : mLk 182 0 = some (.iload_n 0, 1) := rfl
theorem c_182_1 : mLk 182 1 = some (.ldc_w 287, 3) := rfl
theorem c_182_4 : mLk 182 4 = some (.invokestatic 192, 3) := rfl
theorem c_182_7 : mLk 182 7 = some (.if_icmp .ne 7, 3) := rfl
theorem c_182_14 : mLk 182 14 = some (.iload_n 0, 1) := rfl
theorem c_182_15 : mLk 182 15 = some (.ldc_w 289, 3) := rfl
theorem c_182_18 : mLk 182 18 = some (.invokestatic 192, 3) := rfl
theorem c_182_21 : mLk 182 21 = some (.if_icmp .ne 7, 3) := rfl
theorem c_182_28 : mLk 182 28 = some (.iload_n 0, 1) := rfl
theorem c_182_29 : mLk 182 29 = some (.ldc_w 291, 3) := rfl
theorem c_182_32 : mLk 182 32 = some (.invokestatic 192, 3) := rfl
theorem c_182_35 : mLk 182 35 = some (.if_icmp .ne 7, 3) := rfl
theorem c_182_42 : mLk 182 42 = some (.iload_n 0, 1) := rfl
theorem c_182_43 : mLk 182 43 = some (.ldc_w 293, 3) := rfl
theorem c_182_46 : mLk 182 46 = some (.invokestatic 192, 3) := rfl
theorem c_182_49 : mLk 182 49 = some (.if_icmp .ne 7, 3) := rfl
theorem c_182_56 : mLk 182 56 = some (.iload_n 0, 1) := rfl
theorem c_182_57 : mLk 182 57 = some (.ldc_w 295, 3) := rfl
theorem c_182_60 : mLk 182 60 = some (.invokestatic 192, 3) := rfl
theorem c_182_63 : mLk 182 63 = some (.if_icmp .ne 7, 3) := rfl
theorem c_182_70 : mLk 182 70 = some (.iload_n 0, 1) := rfl
theorem c_182_71 : mLk 182 71 = some (.ldc_w 297, 3) := rfl
theorem c_182_74 : mLk 182 74 = some (.invokestatic 192, 3) := rfl
theorem c_182_77 : mLk 182 77 = some (.if_icmp .ne 7, 3) := rfl
theorem c_182_84 : mLk 182 84 = some (.iload_n 0, 1) := rfl
theorem c_182_85 : mLk 182 85 = some (.ldc_w 265, 3) := rfl
theorem c_182_88 : mLk 182 88 = some (.invokestatic 192, 3) := rfl
theorem c_182_91 : mLk 182 91 = some (.if_icmp .ne 8, 3) := rfl
theorem c_182_99 : mLk 182 99 = some (.iload_n 0, 1) := rfl
theorem c_182_100 : mLk 182 100 = some (.ldc_w 299, 3) := rfl
theorem c_182_103 : mLk 182 103 = some (.invokestatic 192, 3) := rfl
theorem c_182_106 : mLk 182 106 = some (.if_icmp .ne 8, 3) := rfl
theorem c_182_114 : mLk 182 114 = some (.iconst (-1), 1) := rfl
theorem c_182_115 : mLk 182 115 = some (.ireturn, 1) := rfl
theorem c_182_109 : mLk 182 109 = some (.bipush 7, 2) := rfl
theorem c_182_111 : mLk 182 111 = some (.goto 4, 3) := rfl
theorem c_182_94 : mLk 182 94 = some (.bipush 6, 2) := rfl
theorem c_182_96 : mLk 182 96 = some (.goto 19, 3) := rfl
theorem c_182_80 : mLk 182 80 = some (.iconst 5, 1) := rfl
theorem c_182_81 : mLk 182 81 = some (.goto 34, 3) := rfl
theorem c_182_66 : mLk 182 66 = some (.iconst 4, 1) := rfl
theorem c_182_67 : mLk 182 67 = some (.goto 48, 3) := rfl
theorem c_182_52 : mLk 182 52 = some (.iconst 3, 1) := rfl
theorem c_182_53 : mLk 182 53 = some (.goto 62, 3) := rfl
theorem c_182_38 : mLk 182 38 = some (.iconst 2, 1) := rfl
theorem c_182_39 : mLk 182 39 = some (.goto 76, 3) := rfl
theorem c_182_24 : mLk 182 24 = some (.iconst 1, 1) := rfl
theorem c_182_25 : mLk 182 25 = some (.goto 90, 3) := rfl
theorem c_182_10 : mLk 182 10 = some (.iconst 0, 1) := rfl
theorem c_182_11 : mLk 182 11 = some (.goto 104, 3) := rfl
theorem c_183_0 : mLk 183 0 = some (.aload_n 0, 1) := rfl
theorem c_183_1 : mLk 183 1 = some (.iconst 0, 1) := rfl
theorem c_183_2 : mLk 183 2 = some (.aload_n 0, 1) := rfl
theorem c_183_3 : mLk 183 3 = some (.getfield 157, 3) := rfl
theorem c_183_6 : mLk 183 6 = some (.iconst 1, 1) := rfl
theorem c_183_7 : mLk 183 7 = some (.isub, 1) := rfl
theorem c_183_8 : mLk 183 8 = some (.invokevirtual 199, 3) := rfl
theorem c_183_11 : mLk 183 11 = some (.ireturn, 1) := rfl
theorem kf_8_284 : a_lk (kF 8) 284 = some (8, 34) := rfl
theorem kf_8_59 : a_lk (kF 8) 59 = some (8, 32) := rfl
set_option maxRecDepth 100000 in
set_option maxHeartbeats 4000000 in
theorem s_181 {sc : List Int32} {e : Int} {d u P Q : Nat} {c : ME} {a1 : Int} {a2 : Int} {a3 : Int} {a4 : Int} {a5 : Int} {Z : AR → Prop} (hI : Iv u e P Q c) (ha1 : 0 ≤ a1 ∧ a1 ≤ 7) (ha2 : 0 ≤ a2 ∧ a2 ≤ 40) (ha3 : 0 ≤ a3 ∧ a3 ≤ 5) (ha4 : 0 ≤ a4 ∧ a4 ≤ 999) (ha5 : 0 ≤ a5 ∧ a5 ≤ 5) (hq0 : (((c 41 34) % 5) = 0)) (hq1 : (c 41 5 < (-1)) ∨ (c 41 5 > (-1)) ∨ (c 41 34 ≤ 245)) (hq2 : (a1 ≠ 0) ∨ (a2 ≤ 3)) (hq3 : (a1 ≠ 1) ∨ (a2 ≤ 3 ∧ a4 ≤ 5)) (hq4 : (a1 ≠ 2) ∨ (a2 ≤ 5)) (hq5 : (a1 ≠ 3) ∨ (a2 ≤ 5)) (hq6 : (a1 ≠ 4) ∨ (a2 ≤ 3)) (hq7 : (a1 ≠ 5) ∨ (a2 ≤ 5)) (hq8 : (a1 ≠ 7) ∨ (a3 = 0)) (K : ∀ (c2 : ME), Iv u e P Q c2 → (∀ (a : Nat) (j : Int), ¬ ((a = 41 ∧ j = 34) ∨ (a = 56 ∧ j ≥ c 41 34)) → c2 a j = c a j) → ((((c2 41 34) % 5) = 0)) → ((c 41 5 < (-1)) ∨ (c 41 5 > (-1)) ∨ (c2 41 34 = c 41 34 + 5 ∧ c2 56 (c 41 34) = a1)) → ((c 41 5 = (-1)) ∨ (c2 41 34 = c 41 34)) → Z (.inl (none), Wd P Q P P c2, 0, 0)) : Wp sc (d + 8) 181 0 [(0, .ref 41), (1, vi a1), (2, vi a2), (3, vi a3), (4, vi a4), (5, vi a5)] [] (Wd P Q P P c) 0 0 Z := by
  have hP := iv_P hI
  have hQ := iv_Q hI
  have h_1 := ir_41_34 hI
  have h_2 := ir_41_5 hI
  refine q_aload_n c_181_0 rfl (v_cv c_181_1 km_8_131 rfl rfl (Nat.le_of_ble_eq_true rfl) ⟨⟨rfl, rfl⟩, Nat.le_of_ble_eq_true rfl, rfl⟩ (Nat.le_of_ble_eq_true rfl) (Nat.le_of_ble_eq_true rfl) (q_aload_n c_152_0 rfl (v_gi (z := 5) (v := c 41 5) c_152_1 kf_8_102 rfl (Nat.le_of_ble_eq_true rfl) rfl rfl rfl (q_iconst c_152_4 ?_))))
  by_cases h_3 : c 41 5 ≠ (-1)
  · refine v_ic_ne_t (t := 12) c_152_5 rfl ⟨h_3, ⟨(lel h_2.1 rfl), (ler h_2.2 rfl)⟩, of_decide_eq_true rfl, of_decide_eq_true rfl⟩ (q_iconst c_152_12 (v_zret c_152_13 rfl (of_decide_eq_true rfl) (bk_inl (v_if_ne_f (t := 8) c_181_4 rfl (of_decide_eq_true rfl) (q_vret rfl rfl ?_)))))
    have h_4 := ir_56 hI (c 41 34)
    exact K c hI (fun a j hm => rfl) ((q_f9c88a064 hq0)) (Or.inr (Or.inl ((q_2c2c046ea h_2 h_3)))) (Or.inr (by first | assumption | omega))
  · refine v_ic_ne_f (t := 12) c_152_5 rfl (Decidable.not_not.mp h_3) (q_iconst c_152_8 (q_goto (t := 13) c_152_9 rfl (v_zret c_152_13 rfl (of_decide_eq_true rfl) (bk_inl (v_if_ne_t (t := 8) c_181_4 rfl (of_decide_eq_true rfl) (q_aload_n c_181_8 rfl (v_gr (t := 56) c_181_9 kf_8_59 rfl (Nat.le_of_ble_eq_true rfl) rfl ?_)))))))
    refine q_aload_n c_181_12 rfl (v_gi (z := 34) (v := c 41 34) c_181_13 kf_8_284 rfl (Nat.le_of_ble_eq_true rfl) rfl rfl rfl (q_iload_n c_181_16 rfl (v_is c_181_17 rfl (of_decide_eq_true rfl) (of_decide_eq_true rfl) ⟨h_1.1, (q_3554c080d h_2 h_3 hq1)⟩ (q_aload_n c_181_18 rfl (v_gr (t := 56) c_181_19 kf_8_59 rfl (Nat.le_of_ble_eq_true rfl) rfl (q_aload_n c_181_22 rfl (v_gi (z := 34) (v := c 41 34) c_181_23 kf_8_284 rfl (Nat.le_of_ble_eq_true rfl) rfl rfl (up_c (nn rfl)) ?_)))))))
    refine q_iconst c_181_26 (v_iadd (v := c 41 34 + 1) c_181_27 rfl (q_iload_n c_181_28 rfl (v_is c_181_29 rfl (of_decide_eq_true rfl) (of_decide_eq_true rfl) ⟨(rgp_l h_1.1 (of_decide_eq_true rfl)), (q_2e240ba46 h_2 h_3 hq1)⟩ (q_aload_n c_181_30 rfl (v_gr (t := 56) c_181_31 kf_8_59 rfl (Nat.le_of_ble_eq_true rfl) rfl (q_aload_n c_181_34 rfl (v_gi (z := 34) (v := c 41 34) c_181_35 kf_8_284 rfl (Nat.le_of_ble_eq_true rfl) rfl rfl ((up_c (nn rfl)).trans (up_c (nn rfl))) ?_)))))))
    refine q_iconst c_181_38 (v_iadd (v := c 41 34 + 2) c_181_39 rfl (q_iload_n c_181_40 rfl (v_is c_181_41 rfl (of_decide_eq_true rfl) (of_decide_eq_true rfl) ⟨(rgp_l h_1.1 (of_decide_eq_true rfl)), (q_21de9155c h_2 h_3 hq1)⟩ (q_aload_n c_181_42 rfl (v_gr (t := 56) c_181_43 kf_8_59 rfl (Nat.le_of_ble_eq_true rfl) rfl (q_aload_n c_181_46 rfl (v_gi (z := 34) (v := c 41 34) c_181_47 kf_8_284 rfl (Nat.le_of_ble_eq_true rfl) rfl rfl ((up_c (nn rfl)).trans ((up_c (nn rfl)).trans (up_c (nn rfl)))) ?_)))))))
    refine q_iconst c_181_50 (v_iadd (v := c 41 34 + 3) c_181_51 rfl (q_iload c_181_52 rfl (v_is c_181_54 rfl (of_decide_eq_true rfl) (of_decide_eq_true rfl) ⟨(rgp_l h_1.1 (of_decide_eq_true rfl)), (q_dedf3b238 h_2 h_3 hq1)⟩ (q_aload_n c_181_55 rfl (v_gr (t := 56) c_181_56 kf_8_59 rfl (Nat.le_of_ble_eq_true rfl) rfl (q_aload_n c_181_59 rfl (v_gi (z := 34) (v := c 41 34) c_181_60 kf_8_284 rfl (Nat.le_of_ble_eq_true rfl) rfl rfl ((up_c (nn rfl)).trans ((up_c (nn rfl)).trans ((up_c (nn rfl)).trans (up_c (nn rfl))))) ?_)))))))
    refine q_iconst c_181_63 (v_iadd (v := c 41 34 + 4) c_181_64 rfl (q_iload c_181_65 rfl (v_is c_181_67 rfl (of_decide_eq_true rfl) (of_decide_eq_true rfl) ⟨(rgp_l h_1.1 (of_decide_eq_true rfl)), (q_b87357d11 h_2 h_3 hq1)⟩ (q_aload_n c_181_68 rfl (q_dup c_181_69 rfl (v_gi (z := 34) (v := c 41 34) c_181_70 kf_8_284 rfl (Nat.le_of_ble_eq_true rfl) rfl rfl ((up_c (nn rfl)).trans ((up_c (nn rfl)).trans ((up_c (nn rfl)).trans ((up_c (nn rfl)).trans (up_c (nn rfl)))))) (q_iconst c_181_73 ?_)))))))
    refine v_iadd (v := c 41 34 + 5) c_181_74 rfl (v_pi (z := 34) c_181_75 kf_8_284 rfl (Nat.le_of_ble_eq_true rfl) rfl rfl rfl (of_decide_eq_true rfl) (q_vret rfl rfl ?_))
    have hI_5 : Iv u e P Q (up (up (up (up (up (up c 56 (c 41 34) a1) 56 (c 41 34 + 1) a2) 56 (c 41 34 + 2) a3) 56 (c 41 34 + 3) a4) 56 (c 41 34 + 4) a5) 41 34 (c 41 34 + 5)) := iw_tells (n := c 41 34) hI ⟨h_1.1, (q_ba2d1a26e h_2 h_3 hq1)⟩ ((q_f9c88a064 hq0)) ⟨(fun e9 => ⟨(q_205826eb7 e9 ha1 hq2), (q_f954b72af ha3)⟩), (fun e9 => ⟨(q_0ea479d95 e9 hq3), (q_f954b72af ha3), (q_e01607d78 e9 hq3), (q_f954b72af ha5)⟩), (fun e9 => ⟨(q_2719dcd49 e9 hq4), (q_f954b72af ha3)⟩), (fun e9 => ⟨(q_1211e66ac e9 hq5), (q_f954b72af ha3)⟩), (fun e9 => ((q_1f31d9498 e9 hq6))), (fun e9 => ((q_25f500cd7 e9 hq7)))⟩ ⟨⟨⟨ha1.1, (ler ha1.2 rfl)⟩, ⟨ha2.1, (ler ha2.2 rfl)⟩, ⟨ha3.1, (ler ha3.2 rfl)⟩, ha4, ⟨ha5.1, (ler ha5.2 rfl)⟩⟩, fun e9 => (by first | assumption | exact Int.le_antisymm ((q_5894d4d30 e9 ha1 hq8)) ((q_e1fbc899f ha3)))⟩
    have h_6 : (up (up (up (up (up (up c 56 (c 41 34) a1) 56 (c 41 34 + 1) a2) 56 (c 41 34 + 2) a3) 56 (c 41 34 + 3) a4) 56 (c 41 34 + 4) a5) 41 34 (c 41 34 + 5)) 41 34 = c 41 34 + 5 := (up_e rfl)
    have h_7 : (up (up (up (up (up (up c 56 (c 41 34) a1) 56 (c 41 34 + 1) a2) 56 (c 41 34 + 2) a3) 56 (c 41 34 + 3) a4) 56 (c 41 34 + 4) a5) 41 34 (c 41 34 + 5)) 41 34 = c 41 34 + 5 := (up_e rfl)
    have h_8 : (up (up (up (up (up (up c 56 (c 41 34) a1) 56 (c 41 34 + 1) a2) 56 (c 41 34 + 2) a3) 56 (c 41 34 + 3) a4) 56 (c 41 34 + 4) a5) 41 34 (c 41 34 + 5)) 56 (c 41 34) = a1 := ((up_c (nn rfl)).trans ((up_n ((ne_0a (ni rfl)))).trans ((up_n ((ne_0a (ni rfl)))).trans ((up_n ((ne_0a (ni rfl)))).trans ((up_n ((ne_0a (ni rfl)))).trans (up_e rfl))))))
    exact K (up (up (up (up (up (up c 56 (c 41 34) a1) 56 (c 41 34 + 1) a2) 56 (c 41 34 + 2) a3) 56 (c 41 34 + 3) a4) 56 (c 41 34 + 4) a5) 41 34 (c 41 34 + 5)) hI_5 (fun a j hm => (up_b (Decidable.or_iff_not_imp_left.mpr (fun h1 h2 => hm (Or.inl ⟨Decidable.not_not.mp h1, h2⟩)))).trans ((up_b (Decidable.or_iff_not_imp_left.mpr (fun h1 h2 => hm (Or.inr ⟨Decidable.not_not.mp h1, (Int.le_trans ((q_4881f0222)) (Int.le_of_eq h2.symm))⟩)))).trans ((up_b (Decidable.or_iff_not_imp_left.mpr (fun h1 h2 => hm (Or.inr ⟨Decidable.not_not.mp h1, (Int.le_trans ((q_6a73f82e8)) (Int.le_of_eq h2.symm))⟩)))).trans ((up_b (Decidable.or_iff_not_imp_left.mpr (fun h1 h2 => hm (Or.inr ⟨Decidable.not_not.mp h1, (Int.le_trans ((q_5585f7267)) (Int.le_of_eq h2.symm))⟩)))).trans ((up_b (Decidable.or_iff_not_imp_left.mpr (fun h1 h2 => hm (Or.inr ⟨Decidable.not_not.mp h1, (Int.le_trans ((q_867451e9a)) (Int.le_of_eq h2.symm))⟩)))).trans (up_b (Decidable.or_iff_not_imp_left.mpr (fun h1 h2 => hm (Or.inr ⟨Decidable.not_not.mp h1, (Int.le_trans ((q_e074ea49a)) (Int.le_of_eq h2.symm))⟩))))))))) (by first | (clear ha1 ha2 ha3 ha4 ha5 h_1 h_2 h_3 hq1 hq2 hq3 hq4 hq5 hq6 hq7 hq8; omega) | omega) (Or.inr (Or.inr ⟨by first | assumption | omega, by first | assumption | omega⟩)) (Or.inl ((q_65c5ff97d h_2 h_3)))

set_option maxRecDepth 100000 in
set_option maxHeartbeats 4000000 in
theorem s_182 {sc : List Int32} {e : Int} {d u P Q : Nat} {c : ME} {a0 : Int} {Z : AR → Prop} (hI : Iv u e P Q c) (ha0 : (-2147483648) ≤ a0 ∧ a0 ≤ 2147483647) (K : ∀ (y : Int), (-1) ≤ y ∧ y ≤ 7 → ((y < 0) ∨ (a0 > 1023)) → Z (.inl (some (vi y)), Wd P Q P P c, 0, 0)) : Wp sc (d + 8) 182 0 [(0, vi a0)] [] (Wd P Q P P c) 0 0 Z := by
  have hP := iv_P hI
  have hQ := iv_Q hI
  refine q_iload_n c_182_0 rfl (q_ldc_w_s c_182_1 rfl rfl (of_decide_eq_true rfl) (q_call c_182_4 rfl rfl rfl (s_158_29 (bk_inl ?_))))
  by_cases h_1 : a0 ≠ 7939524
  · refine v_ic_ne_t (t := 14) c_182_7 rfl ⟨h_1, ⟨ha0.1, ha0.2⟩, of_decide_eq_true rfl, of_decide_eq_true rfl⟩ (q_iload_n c_182_14 rfl (q_ldc_w_s c_182_15 rfl rfl (of_decide_eq_true rfl) (q_call c_182_18 rfl rfl rfl (s_158_30 (bk_inl ?_)))))
    by_cases h_2 : a0 ≠ 632020
    · refine v_ic_ne_t (t := 28) c_182_21 rfl ⟨h_2, ⟨ha0.1, ha0.2⟩, of_decide_eq_true rfl, of_decide_eq_true rfl⟩ (q_iload_n c_182_28 rfl (q_ldc_w_s c_182_29 rfl rfl (of_decide_eq_true rfl) (q_call c_182_32 rfl rfl rfl (s_158_31 (bk_inl ?_)))))
      by_cases h_3 : a0 ≠ 540338
      · refine v_ic_ne_t (t := 42) c_182_35 rfl ⟨h_3, ⟨ha0.1, ha0.2⟩, of_decide_eq_true rfl, of_decide_eq_true rfl⟩ (q_iload_n c_182_42 rfl (q_ldc_w_s c_182_43 rfl rfl (of_decide_eq_true rfl) (q_call c_182_46 rfl rfl rfl (s_158_32 (bk_inl ?_)))))
        by_cases h_4 : a0 ≠ 20037104
        · refine v_ic_ne_t (t := 56) c_182_49 rfl ⟨h_4, ⟨ha0.1, ha0.2⟩, of_decide_eq_true rfl, of_decide_eq_true rfl⟩ (q_iload_n c_182_56 rfl (q_ldc_w_s c_182_57 rfl rfl (of_decide_eq_true rfl) (q_call c_182_60 rfl rfl rfl (s_158_33 (bk_inl ?_)))))
          by_cases h_5 : a0 ≠ 660530
          · refine v_ic_ne_t (t := 70) c_182_63 rfl ⟨h_5, ⟨ha0.1, ha0.2⟩, of_decide_eq_true rfl, of_decide_eq_true rfl⟩ (q_iload_n c_182_70 rfl (q_ldc_w_s c_182_71 rfl rfl (of_decide_eq_true rfl) (q_call c_182_74 rfl rfl rfl (s_158_34 (bk_inl ?_)))))
            by_cases h_6 : a0 ≠ 628108
            · refine v_ic_ne_t (t := 84) c_182_77 rfl ⟨h_6, ⟨ha0.1, ha0.2⟩, of_decide_eq_true rfl, of_decide_eq_true rfl⟩ (q_iload_n c_182_84 rfl (q_ldc_w_s c_182_85 rfl rfl (of_decide_eq_true rfl) (q_call c_182_88 rfl rfl rfl (s_158_28 (bk_inl ?_)))))
              by_cases h_7 : a0 ≠ 4153
              · refine v_ic_ne_t (t := 99) c_182_91 rfl ⟨h_7, ⟨ha0.1, ha0.2⟩, of_decide_eq_true rfl, of_decide_eq_true rfl⟩ (q_iload_n c_182_99 rfl (q_ldc_w_s c_182_100 rfl rfl (of_decide_eq_true rfl) (q_call c_182_103 rfl rfl rfl (s_158_35 (bk_inl ?_)))))
                by_cases h_8 : a0 ≠ 1279278
                · refine v_ic_ne_t (t := 114) c_182_106 rfl ⟨h_8, ⟨ha0.1, ha0.2⟩, of_decide_eq_true rfl, of_decide_eq_true rfl⟩ (q_iconst c_182_114 (q_iret c_182_115 rfl ?_))
                  exact K (-1) ⟨of_decide_eq_true rfl, of_decide_eq_true rfl⟩ (Or.inl (by first | decide | omega))
                · refine v_ic_ne_f (t := 114) c_182_106 rfl (Decidable.not_not.mp h_8) (v_bip c_182_109 (of_decide_eq_true rfl) (q_goto (t := 115) c_182_111 rfl (q_iret c_182_115 rfl ?_)))
                  exact K 7 ⟨of_decide_eq_true rfl, of_decide_eq_true rfl⟩ (Or.inr ((q_64f9e4230 h_8)))
              · refine v_ic_ne_f (t := 99) c_182_91 rfl (Decidable.not_not.mp h_7) (v_bip c_182_94 (of_decide_eq_true rfl) (q_goto (t := 115) c_182_96 rfl (q_iret c_182_115 rfl ?_)))
                exact K 6 ⟨of_decide_eq_true rfl, of_decide_eq_true rfl⟩ (Or.inr ((q_ad877822f h_7)))
            · refine v_ic_ne_f (t := 84) c_182_77 rfl (Decidable.not_not.mp h_6) (q_iconst c_182_80 (q_goto (t := 115) c_182_81 rfl (q_iret c_182_115 rfl ?_)))
              exact K 5 ⟨of_decide_eq_true rfl, of_decide_eq_true rfl⟩ (Or.inr ((q_a92f8dcb8 h_6)))
          · refine v_ic_ne_f (t := 70) c_182_63 rfl (Decidable.not_not.mp h_5) (q_iconst c_182_66 (q_goto (t := 115) c_182_67 rfl (q_iret c_182_115 rfl ?_)))
            exact K 4 ⟨of_decide_eq_true rfl, of_decide_eq_true rfl⟩ (Or.inr ((q_36d178e95 h_5)))
        · refine v_ic_ne_f (t := 56) c_182_49 rfl (Decidable.not_not.mp h_4) (q_iconst c_182_52 (q_goto (t := 115) c_182_53 rfl (q_iret c_182_115 rfl ?_)))
          exact K 3 ⟨of_decide_eq_true rfl, of_decide_eq_true rfl⟩ (Or.inr ((q_067a6fc62 h_4)))
      · refine v_ic_ne_f (t := 42) c_182_35 rfl (Decidable.not_not.mp h_3) (q_iconst c_182_38 (q_goto (t := 115) c_182_39 rfl (q_iret c_182_115 rfl ?_)))
        exact K 2 ⟨of_decide_eq_true rfl, of_decide_eq_true rfl⟩ (Or.inr ((q_1721f5441 h_3)))
    · refine v_ic_ne_f (t := 28) c_182_21 rfl (Decidable.not_not.mp h_2) (q_iconst c_182_24 (q_goto (t := 115) c_182_25 rfl (q_iret c_182_115 rfl ?_)))
      exact K 1 ⟨of_decide_eq_true rfl, of_decide_eq_true rfl⟩ (Or.inr ((q_79933d4be h_2)))
  · refine v_ic_ne_f (t := 14) c_182_7 rfl (Decidable.not_not.mp h_1) (q_iconst c_182_10 (q_goto (t := 115) c_182_11 rfl (q_iret c_182_115 rfl ?_)))
    exact K 0 ⟨of_decide_eq_true rfl, of_decide_eq_true rfl⟩ (Or.inr ((q_63c692497 h_1)))

set_option maxRecDepth 100000 in
set_option maxHeartbeats 4000000 in
theorem s_183 {sc : List Int32} {e : Int} {d u P Q : Nat} {c : ME} {Z : AR → Prop} (hI : Iv u e P Q c)  (K : ∀ (c2 : ME) (y : Int), Iv u e P Q c2 → (∀ (a : Nat) (j : Int), ¬ ((a = 41 ∧ j = 4) ∨ (a = 41 ∧ j = 5) ∨ (a = 41 ∧ j = 6)) → c2 a j = c a j) → 0 ≤ y ∧ y ≤ 5 → ((c2 41 4 ≥ c 41 4)) → ((c2 41 4 ≤ c 41 3) ∨ (c2 41 4 = c 41 4)) → ((c 41 5 = (-1)) ∨ (c2 41 5 = c 41 5)) → ((c2 41 5 < (-1)) ∨ (c2 41 5 > (-1)) ∨ (c2 41 4 > c 41 4 ∧ c2 41 4 ≤ c 41 3 ∧ c 41 5 = (-1))) → Z (.inl (some (vi y)), Wd P Q P P c2, 0, 0)) : Wp sc (d + 9) 183 0 [(0, .ref 41)] [] (Wd P Q P P c) 0 0 Z := by
  have hP := iv_P hI
  have hQ := iv_Q hI
  refine q_aload_n c_183_0 rfl (q_iconst c_183_1 (q_aload_n c_183_2 rfl ?_))
  have h_1 := ir_41_20 hI
  refine v_gi (z := 20) (v := c 41 20) c_183_3 kf_8_157 rfl (Nat.le_of_ble_eq_true rfl) rfl rfl rfl (q_iconst c_183_6 (v_isub (v := c 41 20 - 1) c_183_7 rfl ?_))
  have h_2 := ir_41_4 hI
  have h_3 := ir_41_3 hI
  have h_4 := ir_41_5 hI
  refine v_cv c_183_8 km_8_199 rfl rfl (Nat.le_of_ble_eq_true rfl) ⟨⟨rfl, rfl⟩, Nat.le_of_ble_eq_true rfl, rfl⟩ (Nat.le_of_ble_eq_true rfl) (Nat.le_of_ble_eq_true rfl) (s_160 (a1 := 0) (a2 := c 41 20 - 1) hI (show 0 ≤ 0 ∧ 0 ≤ 1 from ⟨of_decide_eq_true rfl, of_decide_eq_true rfl⟩) (show (-1) ≤ c 41 20 - 1 ∧ c 41 20 - 1 ≤ 9999 from ⟨(rgm_l h_1.1 (of_decide_eq_true rfl)), (rgm_h h_1.2 (of_decide_eq_true rfl))⟩) (fun c_5 y_8 hI_6 hF_7 hy_8 h_9 h_10 h_11 h_12 h_13 => (bk_inl ?_)))
  have h_14 := ir_41_4 hI_6
  have h_15 := ir_41_5 hI_6
  refine q_iret c_183_11 rfl ?_
  exact K c_5 y_8 hI_6 (fun a j hm => hF_7 a j hm) ⟨hy_8.1, (q_f121c64ac h_1 h_11)⟩ ((q_a2ce855bf h_9)) (by omega) (by omega) (by omega)
