/-! ===== contracts 14 ===== -/
theorem q_f9c88a064 {x0 : Int} (f0 : (x0 = 0)) : x0 = 0 := by omega
theorem q_3554c080d {x0 x1 : Int} (f0 : (-1) ≤ x0 ∧ x0 ≤ 605) (f1 : ¬ (x0 ≠ (-1))) (f2 : (x0 < (-1)) ∨ (x0 > (-1)) ∨ (x1 ≤ 245)) : x1 < 250 := by omega
theorem q_2e240ba46 {x0 x1 : Int} (f0 : (-1) ≤ x0 ∧ x0 ≤ 605) (f1 : ¬ (x0 ≠ (-1))) (f2 : (x0 < (-1)) ∨ (x0 > (-1)) ∨ (x1 ≤ 245)) : x1 + 1 < 250 := by omega
theorem q_21de9155c {x0 x1 : Int} (f0 : (-1) ≤ x0 ∧ x0 ≤ 605) (f1 : ¬ (x0 ≠ (-1))) (f2 : (x0 < (-1)) ∨ (x0 > (-1)) ∨ (x1 ≤ 245)) : x1 + 2 < 250 := by omega
theorem q_dedf3b238 {x0 x1 : Int} (f0 : (-1) ≤ x0 ∧ x0 ≤ 605) (f1 : ¬ (x0 ≠ (-1))) (f2 : (x0 < (-1)) ∨ (x0 > (-1)) ∨ (x1 ≤ 245)) : x1 + 3 < 250 := by omega
theorem q_b87357d11 {x0 x1 : Int} (f0 : (-1) ≤ x0 ∧ x0 ≤ 605) (f1 : ¬ (x0 ≠ (-1))) (f2 : (x0 < (-1)) ∨ (x0 > (-1)) ∨ (x1 ≤ 245)) : x1 + 4 < 250 := by omega
theorem q_5fd407de8 {x0 : Int}  : x0 + 5 = x0 + 5 := by omega
theorem q_64f9e4230 {x0 : Int} (f0 : ¬ (x0 ≠ 1279278)) : 1023 < x0 := by omega
theorem q_ad877822f {x0 : Int} (f0 : ¬ (x0 ≠ 4153)) : 1023 < x0 := by omega
theorem q_a92f8dcb8 {x0 : Int} (f0 : ¬ (x0 ≠ 628108)) : 1023 < x0 := by omega
theorem q_36d178e95 {x0 : Int} (f0 : ¬ (x0 ≠ 660530)) : 1023 < x0 := by omega
theorem q_067a6fc62 {x0 : Int} (f0 : ¬ (x0 ≠ 20037104)) : 1023 < x0 := by omega
theorem q_1721f5441 {x0 : Int} (f0 : ¬ (x0 ≠ 540338)) : 1023 < x0 := by omega
theorem q_79933d4be {x0 : Int} (f0 : ¬ (x0 ≠ 632020)) : 1023 < x0 := by omega
theorem q_63c692497 {x0 : Int} (f0 : ¬ (x0 ≠ 7939524)) : 1023 < x0 := by omega
set_option maxRecDepth 100000 in
set_option maxHeartbeats 4000000 in
theorem s_181 {sc : List Int32} {e : Int} {d u P Q : Nat} {c : ME} {a1 : Int} {a2 : Int} {a3 : Int} {a4 : Int} {a5 : Int} {Z : AR → Prop} (hI : Iv u e P Q c) (ha1 : 0 ≤ a1 ∧ a1 ≤ 7) (ha2 : 0 ≤ a2 ∧ a2 ≤ 40) (ha3 : 0 ≤ a3 ∧ a3 ≤ 5) (ha4 : 0 ≤ a4 ∧ a4 ≤ 999) (ha5 : 0 ≤ a5 ∧ a5 ≤ 5) (hq0 : (((c 41 34) % 5) = 0)) (hq1 : (c 41 5 < (-1)) ∨ (c 41 5 > (-1)) ∨ (c 41 34 ≤ 245)) (hq2 : (a1 ≠ 0) ∨ (a2 ≤ 3)) (hq3 : (a1 ≠ 1) ∨ (a2 ≤ 3 ∧ a4 ≤ 5)) (hq4 : (a1 ≠ 2) ∨ (a2 ≤ 5)) (hq5 : (a1 ≠ 3) ∨ (a2 ≤ 5)) (hq6 : (a1 ≠ 4) ∨ (a2 ≤ 3)) (hq7 : (a1 ≠ 5) ∨ (a2 ≤ 5)) (hq8 : (a1 ≠ 7) ∨ (a3 = 0)) (K : ∀ (c2 : ME), Iv u e P Q c2 → (∀ (a : Nat) (j : Int), ¬ ((a = 41 ∧ j = 34) ∨ (a = 56 ∧ j ≥ c 41 34)) → c2 a j = c a j) → ((((c2 41 34) % 5) = 0)) → ((c 41 5 < (-1)) ∨ (c 41 5 > (-1)) ∨ (c2 41 34 = c 41 34 + 5 ∧ c2 56 (c 41 34) = a1)) → ((c 41 5 = (-1)) ∨ (c2 41 34 = c 41 34)) → Z (.inl (none), Wd P Q P P c2, 0, 0)) : Wp sc (d + 8) 181 0 [(0, .ref 41), (1, vi a1), (2, vi a2), (3, vi a3), (4, vi a4), (5, vi a5)] [] (Wd P Q P P c) 0 0 Z := by
  have hP := iv_P hI
  have hQ := iv_Q hI
  have h_1 := ir_41_34 hI
  have h_2 := ir_41_5 hI
  refine q_aload_n rfl rfl (v_cv rfl rfl rfl rfl (Nat.le_of_ble_eq_true rfl) ⟨⟨rfl, rfl⟩, Nat.le_of_ble_eq_true rfl, rfl⟩ (Nat.le_of_ble_eq_true rfl) (Nat.le_of_ble_eq_true rfl) (q_aload_n rfl rfl (v_gi (z := 5) (v := c 41 5) rfl rfl rfl (Nat.le_of_ble_eq_true rfl) rfl rfl rfl (q_iconst rfl ?_))))
  by_cases h_3 : c 41 5 ≠ (-1)
  · refine v_ic_ne_t (t := 12) rfl rfl ⟨h_3, ⟨(Int.le_trans (by decide) h_2.1), (Int.le_trans h_2.2 (by decide))⟩, by decide, by decide⟩ (q_iconst rfl (v_zret rfl rfl (by decide) (bk_inl (v_if_ne_f (t := 8) rfl rfl (by decide) (q_vret rfl rfl ?_)))))
    have h_4 := ir_56 hI (c 41 34)
    exact K c hI (fun a j hm => rfl) (by first | exact q_f9c88a064 hq0 | (clear ha1 ha2 ha3 ha4 ha5 h_1 h_2 h_4 hq1 hq2 hq3 hq4 hq5 hq6 hq7 hq8 h_3; omega) | omega) (Or.inr (Or.inl (by first | exact q_2c2c046ea h_2 h_3 | (clear ha1 ha2 ha3 ha4 ha5 hq0 h_1 h_4 hq1 hq2 hq3 hq4 hq5 hq6 hq7 hq8; omega) | omega))) (Or.inr (by first | exact q_94b7ed2f4 | (clear ha1 ha2 ha3 ha4 ha5 hq0 h_1 h_2 h_4 hq1 hq2 hq3 hq4 hq5 hq6 hq7 hq8 h_3; omega) | omega))
  · refine v_ic_ne_f (t := 12) rfl rfl (Decidable.not_not.mp h_3) (q_iconst rfl (q_goto (t := 13) rfl rfl (v_zret rfl rfl (by decide) (bk_inl (v_if_ne_t (t := 8) rfl rfl (by decide) (q_aload_n rfl rfl (v_gr (t := 56) rfl rfl rfl (Nat.le_of_ble_eq_true rfl) rfl ?_)))))))
    refine q_aload_n rfl rfl (v_gi (z := 34) (v := c 41 34) rfl rfl rfl (Nat.le_of_ble_eq_true rfl) rfl rfl rfl (q_iload_n rfl rfl (v_is rfl rfl (by decide) (by decide) ⟨h_1.1, by first | exact q_3554c080d h_2 h_3 hq1 | (clear ha1 ha2 ha3 ha4 ha5 hq0 h_1 hq2 hq3 hq4 hq5 hq6 hq7 hq8; omega) | omega⟩ (q_aload_n rfl rfl (v_gr (t := 56) rfl rfl rfl (Nat.le_of_ble_eq_true rfl) rfl (q_aload_n rfl rfl (v_gi (z := 34) (v := c 41 34) rfl rfl rfl (Nat.le_of_ble_eq_true rfl) rfl rfl (up_c (nn rfl)) ?_)))))))
    refine q_iconst rfl (v_iadd (v := c 41 34 + 1) rfl rfl (q_iload_n rfl rfl (v_is rfl rfl (by decide) (by decide) ⟨by first | exact rgp_l h_1.1 (by decide) | omega, by first | exact q_2e240ba46 h_2 h_3 hq1 | (clear ha1 ha2 ha3 ha4 ha5 hq0 h_1 hq2 hq3 hq4 hq5 hq6 hq7 hq8; omega) | omega⟩ (q_aload_n rfl rfl (v_gr (t := 56) rfl rfl rfl (Nat.le_of_ble_eq_true rfl) rfl (q_aload_n rfl rfl (v_gi (z := 34) (v := c 41 34) rfl rfl rfl (Nat.le_of_ble_eq_true rfl) rfl rfl ((up_c (nn rfl)).trans (up_c (nn rfl))) ?_)))))))
    refine q_iconst rfl (v_iadd (v := c 41 34 + 2) rfl rfl (q_iload_n rfl rfl (v_is rfl rfl (by decide) (by decide) ⟨by first | exact rgp_l h_1.1 (by decide) | omega, by first | exact q_21de9155c h_2 h_3 hq1 | (clear ha1 ha2 ha3 ha4 ha5 hq0 h_1 hq2 hq3 hq4 hq5 hq6 hq7 hq8; omega) | omega⟩ (q_aload_n rfl rfl (v_gr (t := 56) rfl rfl rfl (Nat.le_of_ble_eq_true rfl) rfl (q_aload_n rfl rfl (v_gi (z := 34) (v := c 41 34) rfl rfl rfl (Nat.le_of_ble_eq_true rfl) rfl rfl ((up_c (nn rfl)).trans ((up_c (nn rfl)).trans (up_c (nn rfl)))) ?_)))))))
    refine q_iconst rfl (v_iadd (v := c 41 34 + 3) rfl rfl (q_iload rfl rfl (v_is rfl rfl (by decide) (by decide) ⟨by first | exact rgp_l h_1.1 (by decide) | omega, by first | exact q_dedf3b238 h_2 h_3 hq1 | (clear ha1 ha2 ha3 ha4 ha5 hq0 h_1 hq2 hq3 hq4 hq5 hq6 hq7 hq8; omega) | omega⟩ (q_aload_n rfl rfl (v_gr (t := 56) rfl rfl rfl (Nat.le_of_ble_eq_true rfl) rfl (q_aload_n rfl rfl (v_gi (z := 34) (v := c 41 34) rfl rfl rfl (Nat.le_of_ble_eq_true rfl) rfl rfl ((up_c (nn rfl)).trans ((up_c (nn rfl)).trans ((up_c (nn rfl)).trans (up_c (nn rfl))))) ?_)))))))
    refine q_iconst rfl (v_iadd (v := c 41 34 + 4) rfl rfl (q_iload rfl rfl (v_is rfl rfl (by decide) (by decide) ⟨by first | exact rgp_l h_1.1 (by decide) | omega, by first | exact q_b87357d11 h_2 h_3 hq1 | (clear ha1 ha2 ha3 ha4 ha5 hq0 h_1 hq2 hq3 hq4 hq5 hq6 hq7 hq8; omega) | omega⟩ (q_aload_n rfl rfl (q_dup rfl rfl (v_gi (z := 34) (v := c 41 34) rfl rfl rfl (Nat.le_of_ble_eq_true rfl) rfl rfl ((up_c (nn rfl)).trans ((up_c (nn rfl)).trans ((up_c (nn rfl)).trans ((up_c (nn rfl)).trans (up_c (nn rfl)))))) (q_iconst rfl ?_)))))))
    refine v_iadd (v := c 41 34 + 5) rfl rfl (v_pi (z := 34) rfl rfl rfl (Nat.le_of_ble_eq_true rfl) rfl rfl rfl (by decide) (q_vret rfl rfl ?_))
    have hI_5 : Iv u e P Q (up (up (up (up (up (up c 56 (c 41 34) a1) 56 (c 41 34 + 1) a2) 56 (c 41 34 + 2) a3) 56 (c 41 34 + 3) a4) 56 (c 41 34 + 4) a5) 41 34 (c 41 34 + 5)) := iw_tells (n := c 41 34) hI (by omega) (by omega) ⟨fun e9 => by clear hq0 hq1 hq3 hq4 hq5 hq6 hq7 hq8; omega, fun e9 => by clear hq0 hq1 hq2 hq4 hq5 hq6 hq7 hq8; omega, fun e9 => by clear hq0 hq1 hq2 hq3 hq5 hq6 hq7 hq8; omega, fun e9 => by clear hq0 hq1 hq2 hq3 hq4 hq6 hq7 hq8; omega, fun e9 => by clear hq0 hq1 hq2 hq3 hq4 hq5 hq7 hq8; omega, fun e9 => by clear hq0 hq1 hq2 hq3 hq4 hq5 hq6 hq8; omega⟩ (by omega)
    have h_6 : (up (up (up (up (up (up c 56 (c 41 34) a1) 56 (c 41 34 + 1) a2) 56 (c 41 34 + 2) a3) 56 (c 41 34 + 3) a4) 56 (c 41 34 + 4) a5) 41 34 (c 41 34 + 5)) 41 34 = c 41 34 + 5 := (up_e rfl)
    have h_7 : (up (up (up (up (up (up c 56 (c 41 34) a1) 56 (c 41 34 + 1) a2) 56 (c 41 34 + 2) a3) 56 (c 41 34 + 3) a4) 56 (c 41 34 + 4) a5) 41 34 (c 41 34 + 5)) 41 34 = c 41 34 + 5 := (up_e rfl)
    have h_8 : (up (up (up (up (up (up c 56 (c 41 34) a1) 56 (c 41 34 + 1) a2) 56 (c 41 34 + 2) a3) 56 (c 41 34 + 3) a4) 56 (c 41 34 + 4) a5) 41 34 (c 41 34 + 5)) 56 (c 41 34) = a1 := ((up_c (nn rfl)).trans ((up_n (by first | exact ne_0a (by decide) | omega)).trans ((up_n (by first | exact ne_0a (by decide) | omega)).trans ((up_n (by first | exact ne_0a (by decide) | omega)).trans ((up_n (by first | exact ne_0a (by decide) | omega)).trans (up_e rfl))))))
    exact K (up (up (up (up (up (up c 56 (c 41 34) a1) 56 (c 41 34 + 1) a2) 56 (c 41 34 + 2) a3) 56 (c 41 34 + 3) a4) 56 (c 41 34 + 4) a5) 41 34 (c 41 34 + 5)) hI_5 (fun a j hm => (up_b (Decidable.or_iff_not_imp_left.mpr (fun h1 h2 => hm (Or.inl ⟨Decidable.not_not.mp h1, h2⟩)))).trans ((up_b (Decidable.or_iff_not_imp_left.mpr (fun h1 h2 => hm (Or.inr ⟨Decidable.not_not.mp h1, by clear hm; omega⟩)))).trans ((up_b (Decidable.or_iff_not_imp_left.mpr (fun h1 h2 => hm (Or.inr ⟨Decidable.not_not.mp h1, by clear hm; omega⟩)))).trans ((up_b (Decidable.or_iff_not_imp_left.mpr (fun h1 h2 => hm (Or.inr ⟨Decidable.not_not.mp h1, by clear hm; omega⟩)))).trans ((up_b (Decidable.or_iff_not_imp_left.mpr (fun h1 h2 => hm (Or.inr ⟨Decidable.not_not.mp h1, by clear hm; omega⟩)))).trans (up_b (Decidable.or_iff_not_imp_left.mpr (fun h1 h2 => hm (Or.inr ⟨Decidable.not_not.mp h1, by clear hm; omega⟩))))))))) (by first | (clear ha1 ha2 ha3 ha4 ha5 h_1 h_2 h_3 hq1 hq2 hq3 hq4 hq5 hq6 hq7 hq8; omega) | omega) (Or.inr (Or.inr ⟨by first | exact q_5fd407de8 | (clear ha1 ha2 ha3 ha4 ha5 hq0 h_1 h_2 h_3 hq1 hq2 hq3 hq4 hq5 hq6 hq7 hq8; omega) | omega, by first | exact q_94b7ed2f4 | (clear ha1 ha2 ha3 ha4 ha5 hq0 h_1 h_2 h_3 hq1 hq2 hq3 hq4 hq5 hq6 hq7 hq8; omega) | omega⟩)) (Or.inl (by first | exact q_65c5ff97d h_2 h_3 | (clear ha1 ha2 ha3 ha4 ha5 hq0 h_1 hq1 hq2 hq3 hq4 hq5 hq6 hq7 hq8; omega) | omega))

set_option maxRecDepth 100000 in
set_option maxHeartbeats 4000000 in
theorem s_182 {sc : List Int32} {e : Int} {d u P Q : Nat} {c : ME} {a0 : Int} {Z : AR → Prop} (hI : Iv u e P Q c) (ha0 : (-2147483648) ≤ a0 ∧ a0 ≤ 2147483647) (K : ∀ (y : Int), (-1) ≤ y ∧ y ≤ 7 → ((y < 0) ∨ (a0 > 1023)) → Z (.inl (some (vi y)), Wd P Q P P c, 0, 0)) : Wp sc (d + 8) 182 0 [(0, vi a0)] [] (Wd P Q P P c) 0 0 Z := by
  have hP := iv_P hI
  have hQ := iv_Q hI
  refine q_iload_n rfl rfl (q_ldc_w_s rfl rfl rfl (by decide) (q_call rfl rfl rfl rfl (s_158_29 (bk_inl ?_))))
  by_cases h_1 : a0 ≠ 7939524
  · refine v_ic_ne_t (t := 14) rfl rfl ⟨h_1, ⟨ha0.1, ha0.2⟩, by decide, by decide⟩ (q_iload_n rfl rfl (q_ldc_w_s rfl rfl rfl (by decide) (q_call rfl rfl rfl rfl (s_158_30 (bk_inl ?_)))))
    by_cases h_2 : a0 ≠ 632020
    · refine v_ic_ne_t (t := 28) rfl rfl ⟨h_2, ⟨ha0.1, ha0.2⟩, by decide, by decide⟩ (q_iload_n rfl rfl (q_ldc_w_s rfl rfl rfl (by decide) (q_call rfl rfl rfl rfl (s_158_31 (bk_inl ?_)))))
      by_cases h_3 : a0 ≠ 540338
      · refine v_ic_ne_t (t := 42) rfl rfl ⟨h_3, ⟨ha0.1, ha0.2⟩, by decide, by decide⟩ (q_iload_n rfl rfl (q_ldc_w_s rfl rfl rfl (by decide) (q_call rfl rfl rfl rfl (s_158_32 (bk_inl ?_)))))
        by_cases h_4 : a0 ≠ 20037104
        · refine v_ic_ne_t (t := 56) rfl rfl ⟨h_4, ⟨ha0.1, ha0.2⟩, by decide, by decide⟩ (q_iload_n rfl rfl (q_ldc_w_s rfl rfl rfl (by decide) (q_call rfl rfl rfl rfl (s_158_33 (bk_inl ?_)))))
          by_cases h_5 : a0 ≠ 660530
          · refine v_ic_ne_t (t := 70) rfl rfl ⟨h_5, ⟨ha0.1, ha0.2⟩, by decide, by decide⟩ (q_iload_n rfl rfl (q_ldc_w_s rfl rfl rfl (by decide) (q_call rfl rfl rfl rfl (s_158_34 (bk_inl ?_)))))
            by_cases h_6 : a0 ≠ 628108
            · refine v_ic_ne_t (t := 84) rfl rfl ⟨h_6, ⟨ha0.1, ha0.2⟩, by decide, by decide⟩ (q_iload_n rfl rfl (q_ldc_w_s rfl rfl rfl (by decide) (q_call rfl rfl rfl rfl (s_158_28 (bk_inl ?_)))))
              by_cases h_7 : a0 ≠ 4153
              · refine v_ic_ne_t (t := 99) rfl rfl ⟨h_7, ⟨ha0.1, ha0.2⟩, by decide, by decide⟩ (q_iload_n rfl rfl (q_ldc_w_s rfl rfl rfl (by decide) (q_call rfl rfl rfl rfl (s_158_35 (bk_inl ?_)))))
                by_cases h_8 : a0 ≠ 1279278
                · refine v_ic_ne_t (t := 114) rfl rfl ⟨h_8, ⟨ha0.1, ha0.2⟩, by decide, by decide⟩ (q_iconst rfl (q_iret rfl rfl ?_))
                  exact K (-1) ⟨by decide, by decide⟩ (Or.inl (by first | decide | (clear ha0 h_1 h_2 h_3 h_4 h_5 h_6 h_7 h_8; omega) | omega))
                · refine v_ic_ne_f (t := 114) rfl rfl (Decidable.not_not.mp h_8) (v_bip rfl (by decide) (q_goto (t := 115) rfl rfl (q_iret rfl rfl ?_)))
                  exact K 7 ⟨by decide, by decide⟩ (Or.inr (by first | exact q_64f9e4230 h_8 | (clear ha0 h_1 h_2 h_3 h_4 h_5 h_6 h_7; omega) | omega))
              · refine v_ic_ne_f (t := 99) rfl rfl (Decidable.not_not.mp h_7) (v_bip rfl (by decide) (q_goto (t := 115) rfl rfl (q_iret rfl rfl ?_)))
                exact K 6 ⟨by decide, by decide⟩ (Or.inr (by first | exact q_ad877822f h_7 | (clear ha0 h_1 h_2 h_3 h_4 h_5 h_6; omega) | omega))
            · refine v_ic_ne_f (t := 84) rfl rfl (Decidable.not_not.mp h_6) (q_iconst rfl (q_goto (t := 115) rfl rfl (q_iret rfl rfl ?_)))
              exact K 5 ⟨by decide, by decide⟩ (Or.inr (by first | exact q_a92f8dcb8 h_6 | (clear ha0 h_1 h_2 h_3 h_4 h_5; omega) | omega))
          · refine v_ic_ne_f (t := 70) rfl rfl (Decidable.not_not.mp h_5) (q_iconst rfl (q_goto (t := 115) rfl rfl (q_iret rfl rfl ?_)))
            exact K 4 ⟨by decide, by decide⟩ (Or.inr (by first | exact q_36d178e95 h_5 | (clear ha0 h_1 h_2 h_3 h_4; omega) | omega))
        · refine v_ic_ne_f (t := 56) rfl rfl (Decidable.not_not.mp h_4) (q_iconst rfl (q_goto (t := 115) rfl rfl (q_iret rfl rfl ?_)))
          exact K 3 ⟨by decide, by decide⟩ (Or.inr (by first | exact q_067a6fc62 h_4 | (clear ha0 h_1 h_2 h_3; omega) | omega))
      · refine v_ic_ne_f (t := 42) rfl rfl (Decidable.not_not.mp h_3) (q_iconst rfl (q_goto (t := 115) rfl rfl (q_iret rfl rfl ?_)))
        exact K 2 ⟨by decide, by decide⟩ (Or.inr (by first | exact q_1721f5441 h_3 | (clear ha0 h_1 h_2; omega) | omega))
    · refine v_ic_ne_f (t := 28) rfl rfl (Decidable.not_not.mp h_2) (q_iconst rfl (q_goto (t := 115) rfl rfl (q_iret rfl rfl ?_)))
      exact K 1 ⟨by decide, by decide⟩ (Or.inr (by first | exact q_79933d4be h_2 | (clear ha0 h_1; omega) | omega))
  · refine v_ic_ne_f (t := 14) rfl rfl (Decidable.not_not.mp h_1) (q_iconst rfl (q_goto (t := 115) rfl rfl (q_iret rfl rfl ?_)))
    exact K 0 ⟨by decide, by decide⟩ (Or.inr (by first | exact q_63c692497 h_1 | omega))

set_option maxRecDepth 100000 in
set_option maxHeartbeats 4000000 in
theorem s_183 {sc : List Int32} {e : Int} {d u P Q : Nat} {c : ME} {Z : AR → Prop} (hI : Iv u e P Q c)  (K : ∀ (c2 : ME) (y : Int), Iv u e P Q c2 → (∀ (a : Nat) (j : Int), ¬ ((a = 41 ∧ j = 4) ∨ (a = 41 ∧ j = 5) ∨ (a = 41 ∧ j = 6)) → c2 a j = c a j) → 0 ≤ y ∧ y ≤ 5 → ((c2 41 4 ≥ c 41 4)) → ((c2 41 4 ≤ c 41 3) ∨ (c2 41 4 = c 41 4)) → ((c 41 5 = (-1)) ∨ (c2 41 5 = c 41 5)) → ((c2 41 5 < (-1)) ∨ (c2 41 5 > (-1)) ∨ (c2 41 4 > c 41 4 ∧ c2 41 4 ≤ c 41 3 ∧ c 41 5 = (-1))) → Z (.inl (some (vi y)), Wd P Q P P c2, 0, 0)) : Wp sc (d + 9) 183 0 [(0, .ref 41)] [] (Wd P Q P P c) 0 0 Z := by
  have hP := iv_P hI
  have hQ := iv_Q hI
  refine q_aload_n rfl rfl (q_iconst rfl (q_aload_n rfl rfl ?_))
  have h_1 := ir_41_20 hI
  refine v_gi (z := 20) (v := c 41 20) rfl rfl rfl (Nat.le_of_ble_eq_true rfl) rfl rfl rfl (q_iconst rfl (v_isub (v := c 41 20 - 1) rfl rfl ?_))
  have h_2 := ir_41_4 hI
  have h_3 := ir_41_3 hI
  have h_4 := ir_41_5 hI
  refine v_cv rfl rfl rfl rfl (Nat.le_of_ble_eq_true rfl) ⟨⟨rfl, rfl⟩, Nat.le_of_ble_eq_true rfl, rfl⟩ (Nat.le_of_ble_eq_true rfl) (Nat.le_of_ble_eq_true rfl) (s_160 (a1 := 0) (a2 := c 41 20 - 1) hI (show 0 ≤ 0 ∧ 0 ≤ 1 from ⟨by decide, by decide⟩) (show (-1) ≤ c 41 20 - 1 ∧ c 41 20 - 1 ≤ 9999 from ⟨by first | exact rgm_l h_1.1 (by decide) | omega, by first | exact rgm_h h_1.2 (by decide) | omega⟩) (fun c_5 y_8 hI_6 hF_7 hy_8 h_9 h_10 h_11 h_12 h_13 => (bk_inl ?_)))
  have h_14 := ir_41_4 hI_6
  have h_15 := ir_41_5 hI_6
  refine q_iret rfl rfl ?_
  exact K c_5 y_8 hI_6 (fun a j hm => hF_7 a j (fun q => q.elim (fun h => hm (Or.inl h)) (fun q => q.elim (fun h => hm (Or.inr (Or.inl h))) (fun h => hm (Or.inr (Or.inr h)))))) ⟨hy_8.1, by first | (clear h_2 h_3 h_4 h_14 h_9 h_15 h_10 h_12 h_13; omega) | omega⟩ (by first | (clear h_1 h_2 h_3 h_4 h_14 h_15 h_10 h_11 h_12 h_13; omega) | omega) (by omega) (by omega) (by omega)
