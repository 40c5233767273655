/-! ===== contracts 23 ===== -/
theorem q_42435cb53 {x0 : Int} (f0 : (-1) ≤ x0 ∧ x0 ≤ 5) : x0 + 24 < 37 := by omega
set_option maxRecDepth 100000 in
set_option maxHeartbeats 4000000 in
theorem s_244_l {sc : List Int32} {d P Q : Nat} {c : ME} {a1 : Int} {Z : AR → Prop} (hI : Iv 0 (-1) P Q c) (ha1 : (-2147483648) ≤ a1 ∧ a1 ≤ 2147483647) (K : ∀ (c2 : ME) (y : Int), Iv 0 (-1) P Q c2 → (∀ (a : Nat) (j : Int), ¬ ((a = 41 ∧ j = 0) ∨ a = 42 ∨ a = 59 ∨ a = 54 ∨ a = 55) → c2 a j = c a j) → (-2147483648) ≤ y ∧ y ≤ 2147483647 → Z (.inl (some (vi y)), Wd P Q P P c2, 0, 0)) : ∀ n : Nat, (∀ (c2 : ME) (v2 : Int), Iv 0 (-1) P Q c2 → (∀ (a : Nat) (j : Int), ¬ ((a = 41 ∧ j = 0) ∨ a = 42 ∨ a = 59 ∨ a = 54 ∨ a = 55) → c2 a j = c a j) → 0 ≤ v2 ∧ v2 ≤ 100 → ((a1 ≥ 0 ∧ a1 ≤ 5)) → 201 - 2 * v2 < (n : Int) → Wp sc (d + 13) 244 25 [(0, .ref 41), (1, vi a1), (2, vi v2)] [] (Wd P Q P P c2) 0 0 Z)
  | 0 => by intro c2 v2 hI2 hF hv2 hx0 hm9; have hP := iv_P hI; have hQ := iv_Q hI; exfalso; omega
  | n + 1 => by
    have hP := iv_P hI
    have hQ := iv_Q hI
    have ih := s_244_l (sc := sc) (d := d) hI ha1 K n
    intro c2 v2 hI2 hF hv2 hx0 hm9
    refine q_iload_n rfl rfl (v_bip rfl (by decide) ?_)
    by_cases h_1 : v2 > 99
    · refine v_ic_gt_t (t := 51) rfl rfl ⟨by decide, h_1, (Int.le_trans hv2.2 (by decide))⟩ (q_iconst rfl (q_iret rfl rfl ?_))
      exact K c2 (-1) hI2 (fun a j hm => hF a j (fun q => q.elim (fun h => hm (Or.inl h)) (fun q => q.elim (fun h => hm (Or.inr (Or.inl h))) (fun q => q.elim (fun h => hm (Or.inr (Or.inr (Or.inl h)))) (fun q => q.elim (fun h => hm (Or.inr (Or.inr (Or.inr (Or.inl h))))) (fun h => hm (Or.inr (Or.inr (Or.inr (Or.inr h)))))))))) ⟨by decide, by decide⟩
    · refine v_ic_gt_f (t := 51) rfl rfl ⟨(Int.le_trans (by decide) hv2.1), (Int.not_lt.mp h_1), by decide⟩ (q_aload_n rfl rfl (q_iload_n rfl rfl (v_cv rfl rfl rfl rfl (Nat.le_of_ble_eq_true rfl) ⟨⟨rfl, rfl⟩, Nat.le_of_ble_eq_true rfl, rfl⟩ (Nat.le_of_ble_eq_true rfl) (Nat.le_of_ble_eq_true rfl) (s_197 (a1 := a1) hI2 (show 0 ≤ a1 ∧ a1 ≤ 5 from ⟨by omega, by omega⟩) (fun c_2 y_5 hI_3 hF_4 hy_5 => (bk_inl ?_))))))
      by_cases h_6 : y_5 = 0
      · refine v_if_eq_t (t := 41) rfl rfl h_6 (q_aload_n rfl rfl (v_cv rfl rfl rfl rfl (Nat.le_of_ble_eq_true rfl) ⟨⟨rfl, rfl⟩, Nat.le_of_ble_eq_true rfl, rfl⟩ (Nat.le_of_ble_eq_true rfl) (Nat.le_of_ble_eq_true rfl) (s_199 hI_3 (fun c_7 hI_8 hF_9 => (bk_inl (v_iinc (v := v2 + 1) rfl rfl (Nat.le_of_ble_eq_true rfl) rfl (q_goto (t := 25) rfl rfl (Wp_ls [(0, .ref 41), (1, vi a1), (2, vi (v2 + 1))] (lsub_cons rfl (lsub_cons rfl (lsub_cons rfl lsub_nil))) ?_))))))))
        exact ih c_7 (v2 + 1) hI_8 (fun a j hm => (hF_9 a j (fun h => hm (Or.inr (Or.inr (Or.inl h))))).trans ((hF_4 a j (fun q => q.elim (fun h => hm (Or.inr (Or.inr (Or.inr (Or.inl h))))) (fun h => hm (Or.inr (Or.inr (Or.inr (Or.inr h))))))).trans (hF a j (fun q => q.elim (fun h => hm (Or.inl h)) (fun q => q.elim (fun h => hm (Or.inr (Or.inl h))) (fun q => q.elim (fun h => hm (Or.inr (Or.inr (Or.inl h)))) (fun q => q.elim (fun h => hm (Or.inr (Or.inr (Or.inr (Or.inl h))))) (fun h => hm (Or.inr (Or.inr (Or.inr (Or.inr h)))))))))))) ⟨by first | exact rgp_l hv2.1 (by decide) | omega, by first | exact q_1eecf77db h_1 | omega⟩ ⟨by omega, by omega⟩ (by omega)
      · refine v_if_eq_f (t := 41) rfl rfl ⟨h_6, ⟨(Int.le_trans (by decide) hy_5.1), (Int.le_trans hy_5.2 (by decide))⟩, by decide, by decide⟩ (q_iload_n rfl rfl (q_iret rfl rfl ?_))
        exact K c_2 v2 hI_3 (fun a j hm => (hF_4 a j (fun q => q.elim (fun h => hm (Or.inr (Or.inr (Or.inr (Or.inl h))))) (fun h => hm (Or.inr (Or.inr (Or.inr (Or.inr h))))))).trans (hF a j (fun q => q.elim (fun h => hm (Or.inl h)) (fun q => q.elim (fun h => hm (Or.inr (Or.inl h))) (fun q => q.elim (fun h => hm (Or.inr (Or.inr (Or.inl h)))) (fun q => q.elim (fun h => hm (Or.inr (Or.inr (Or.inr (Or.inl h))))) (fun h => hm (Or.inr (Or.inr (Or.inr (Or.inr h))))))))))) ⟨(Int.le_trans (by decide) hv2.1), (Int.le_trans hv2.2 (by decide))⟩
set_option maxRecDepth 100000 in
set_option maxHeartbeats 4000000 in
theorem s_244 {sc : List Int32} {d P Q : Nat} {c : ME} {a1 : Int} {Z : AR → Prop} (hI : Iv 0 (-1) P Q c) (ha1 : (-2147483648) ≤ a1 ∧ a1 ≤ 2147483647) (K : ∀ (c2 : ME) (y : Int), Iv 0 (-1) P Q c2 → (∀ (a : Nat) (j : Int), ¬ ((a = 41 ∧ j = 0) ∨ a = 42 ∨ a = 59 ∨ a = 54 ∨ a = 55) → c2 a j = c a j) → (-2147483648) ≤ y ∧ y ≤ 2147483647 → Z (.inl (some (vi y)), Wd P Q P P c2, 0, 0)) : Wp sc (d + 13) 244 0 [(0, .ref 41), (1, vi a1)] [] (Wd P Q P P c) 0 0 Z := by
  have hP := iv_P hI
  have hQ := iv_Q hI
  refine q_aload_n rfl rfl (q_iconst rfl (v_pi (z := 0) rfl rfl rfl (Nat.le_of_ble_eq_true rfl) rfl rfl rfl (by decide) (q_aload_n rfl rfl (q_iload_n rfl rfl (q_aload_n rfl rfl ?_)))))
  have h_10 := ir_41_20 hI
  refine v_gi (z := 20) (v := c 41 20) rfl rfl rfl (Nat.le_of_ble_eq_true rfl) rfl rfl (up_n (by decide)) (v_cv rfl rfl rfl rfl (Nat.le_of_ble_eq_true rfl) ⟨⟨rfl, rfl⟩, Nat.le_of_ble_eq_true rfl, rfl⟩ (Nat.le_of_ble_eq_true rfl) (Nat.le_of_ble_eq_true rfl) (q_aload_n rfl rfl (q_iload_n rfl rfl (q_iconst rfl (q_iload_n rfl rfl (q_iconst rfl (v_isub (v := c 41 20 - 1) rfl rfl ?_)))))))
  refine q_call rfl rfl rfl rfl (q_iload_n rfl rfl (q_iload_n rfl rfl ?_))
  by_cases h_11 : a1 < 0
  · refine v_ic_lt_t (t := 14) rfl rfl ⟨ha1.1, h_11, by decide⟩ (q_iconst rfl (v_zret rfl rfl (by decide) (bk_inl (q_iconst rfl (q_iconst rfl (v_cv rfl rfl rfl rfl (Nat.le_of_ble_eq_true rfl) ⟨⟨rfl, rfl⟩, Nat.le_of_ble_eq_true rfl, rfl⟩ (Nat.le_of_ble_eq_true rfl) (Nat.le_of_ble_eq_true rfl) (q_iload_n rfl rfl ?_)))))))
    refine v_if_ne_f (t := 26) rfl rfl (by decide) (q_aload_n rfl rfl (v_gi (z := 0) (v := 0) rfl rfl rfl (Nat.le_of_ble_eq_true rfl) rfl rfl (up_e rfl) (v_if_ne_f (t := 26) rfl rfl (by decide) (q_aload_n rfl rfl (q_iload_n rfl rfl (v_pi (z := 0) rfl rfl rfl (Nat.le_of_ble_eq_true rfl) rfl rfl rfl (by decide) (q_aload_n rfl rfl ?_)))))))
    refine v_gr (t := 42) rfl rfl rfl (Nat.le_of_ble_eq_true rfl) rfl (q_iload_n rfl rfl (q_dup2 rfl ⟨rfl, rfl⟩ ?_))
    have h_12 := ir_42 hI 0
    refine v_ia (v := c 42 0) rfl rfl (by decide) (by decide) (by decide) ((up_c (nn rfl)).trans (up_c (nn rfl))) (q_iconst rfl (v_iadd (v := c 42 0 + 1) rfl rfl (v_nrm (fun y_13 hy_13 => (v_is rfl rfl (by decide) (by decide) (by decide) (q_aload_n rfl rfl (v_gi (z := 0) (v := 1) rfl rfl rfl (Nat.le_of_ble_eq_true rfl) rfl rfl ((up_c (nn rfl)).trans (up_e rfl)) (v_if_ne_t (t := 37) rfl rfl (by decide) ?_))))))))
    refine q_iconst rfl (v_zret rfl rfl (by decide) (bk_inl (v_zret rfl rfl (by decide) (bk_inl (v_if_ne_f (t := 19) rfl rfl (by decide) (q_iconst rfl (q_iret rfl rfl ?_)))))))
    have hI_14 := iw_41_0 (v := 0) hI ⟨by decide, by decide⟩
    have hI_15 := iw_41_0 (v := 1) hI_14 ⟨by decide, by decide⟩
    have hI_16 := iw_42 (j := 0) (v := y_13) hI_15 ⟨hy_13.1, hy_13.2⟩
    exact K (up (up (up c 41 0 0) 41 0 1) 42 0 y_13) 0 hI_16 (fun a j hm => (up_b (Decidable.or_iff_not_imp_left.mpr (fun h1 h2 => hm (Or.inr (Or.inl (Decidable.not_not.mp h1)))))).trans ((up_b (Decidable.or_iff_not_imp_left.mpr (fun h1 h2 => hm (Or.inl ⟨Decidable.not_not.mp h1, h2⟩)))).trans (up_b (Decidable.or_iff_not_imp_left.mpr (fun h1 h2 => hm (Or.inl ⟨Decidable.not_not.mp h1, h2⟩)))))) ⟨by decide, by decide⟩
  · refine v_ic_lt_f (t := 14) rfl rfl ⟨by decide, (Int.not_lt.mp h_11), ha1.2⟩ (q_iload_n rfl rfl (q_iload_n rfl rfl ?_))
    by_cases h_17 : a1 > c 41 20 - 1
    · refine v_ic_gt_t (t := 14) rfl rfl ⟨by first | exact rgm_l h_10.1 (by decide) | omega, h_17, ha1.2⟩ (q_iconst rfl (v_zret rfl rfl (by decide) (bk_inl (q_iconst rfl (q_iconst rfl (v_cv rfl rfl rfl rfl (Nat.le_of_ble_eq_true rfl) ⟨⟨rfl, rfl⟩, Nat.le_of_ble_eq_true rfl, rfl⟩ (Nat.le_of_ble_eq_true rfl) (Nat.le_of_ble_eq_true rfl) (q_iload_n rfl rfl ?_)))))))
      refine v_if_ne_f (t := 26) rfl rfl (by decide) (q_aload_n rfl rfl (v_gi (z := 0) (v := 0) rfl rfl rfl (Nat.le_of_ble_eq_true rfl) rfl rfl (up_e rfl) (v_if_ne_f (t := 26) rfl rfl (by decide) (q_aload_n rfl rfl (q_iload_n rfl rfl (v_pi (z := 0) rfl rfl rfl (Nat.le_of_ble_eq_true rfl) rfl rfl rfl (by decide) (q_aload_n rfl rfl ?_)))))))
      refine v_gr (t := 42) rfl rfl rfl (Nat.le_of_ble_eq_true rfl) rfl (q_iload_n rfl rfl (q_dup2 rfl ⟨rfl, rfl⟩ ?_))
      have h_18 := ir_42 hI 0
      refine v_ia (v := c 42 0) rfl rfl (by decide) (by decide) (by decide) ((up_c (nn rfl)).trans (up_c (nn rfl))) (q_iconst rfl (v_iadd (v := c 42 0 + 1) rfl rfl (v_nrm (fun y_19 hy_19 => (v_is rfl rfl (by decide) (by decide) (by decide) (q_aload_n rfl rfl (v_gi (z := 0) (v := 1) rfl rfl rfl (Nat.le_of_ble_eq_true rfl) rfl rfl ((up_c (nn rfl)).trans (up_e rfl)) (v_if_ne_t (t := 37) rfl rfl (by decide) ?_))))))))
      refine q_iconst rfl (v_zret rfl rfl (by decide) (bk_inl (v_zret rfl rfl (by decide) (bk_inl (v_if_ne_f (t := 19) rfl rfl (by decide) (q_iconst rfl (q_iret rfl rfl ?_)))))))
      have hI_20 := iw_41_0 (v := 0) hI ⟨by decide, by decide⟩
      have hI_21 := iw_41_0 (v := 1) hI_20 ⟨by decide, by decide⟩
      have hI_22 := iw_42 (j := 0) (v := y_19) hI_21 ⟨hy_19.1, hy_19.2⟩
      exact K (up (up (up c 41 0 0) 41 0 1) 42 0 y_19) 0 hI_22 (fun a j hm => (up_b (Decidable.or_iff_not_imp_left.mpr (fun h1 h2 => hm (Or.inr (Or.inl (Decidable.not_not.mp h1)))))).trans ((up_b (Decidable.or_iff_not_imp_left.mpr (fun h1 h2 => hm (Or.inl ⟨Decidable.not_not.mp h1, h2⟩)))).trans (up_b (Decidable.or_iff_not_imp_left.mpr (fun h1 h2 => hm (Or.inl ⟨Decidable.not_not.mp h1, h2⟩)))))) ⟨by decide, by decide⟩
    · refine v_ic_gt_f (t := 14) rfl rfl ⟨ha1.1, (Int.not_lt.mp h_17), by first | exact rgm_h h_10.2 (by decide) | omega⟩ (q_iconst rfl (q_goto (t := 15) rfl rfl (v_zret rfl rfl (by decide) (bk_inl (q_iconst rfl (q_iconst rfl (v_cv rfl rfl rfl rfl (Nat.le_of_ble_eq_true rfl) ⟨⟨rfl, rfl⟩, Nat.le_of_ble_eq_true rfl, rfl⟩ (Nat.le_of_ble_eq_true rfl) (Nat.le_of_ble_eq_true rfl) ?_)))))))
      refine q_iload_n rfl rfl (v_if_ne_t (t := 26) rfl rfl (by decide) (q_aload_n rfl rfl (v_gi (z := 0) (v := 0) rfl rfl rfl (Nat.le_of_ble_eq_true rfl) rfl rfl (up_e rfl) (v_if_ne_f (t := 37) rfl rfl (by decide) (q_iconst rfl (q_goto (t := 38) rfl rfl (v_zret rfl rfl (by decide) ?_)))))))
      refine bk_inl (v_zret rfl rfl (by decide) (bk_inl (v_if_ne_t (t := 19) rfl rfl (by decide) (q_aload_n rfl rfl ?_))))
      have hI_23 := iw_41_0 (v := 0) hI ⟨by decide, by decide⟩
      refine v_cv rfl rfl rfl rfl (Nat.le_of_ble_eq_true rfl) ⟨⟨rfl, rfl⟩, Nat.le_of_ble_eq_true rfl, rfl⟩ (Nat.le_of_ble_eq_true rfl) (Nat.le_of_ble_eq_true rfl) (s_186 hI_23 (fun c_24 hI_25 hF_26 => (bk_inl (q_iconst rfl (q_istore_n rfl (Nat.le_of_ble_eq_true rfl) (Wp_ls [(0, .ref 41), (1, vi a1), (2, vi 0)] (lsub_cons rfl (lsub_cons rfl (lsub_cons rfl lsub_nil))) ?_))))))
      exact (s_244_l (sc := sc) (d := d) hI ha1 K 204) c_24 0 hI_25 (fun a j hm => (hF_26 a j (fun h => hm (Or.inr (Or.inr (Or.inl h))))).trans (up_b (Decidable.or_iff_not_imp_left.mpr (fun h1 h2 => hm (Or.inl ⟨Decidable.not_not.mp h1, h2⟩))))) ⟨by decide, by decide⟩ ⟨by first | exact q_720657ba9 h_11 | omega, by first | exact q_3a2e67ab0 h_10 h_17 | omega⟩ (by omega)

set_option maxRecDepth 100000 in
set_option maxHeartbeats 4000000 in
theorem s_245 {sc : List Int32} {d P Q : Nat} {c : ME} {a1 : Int} {Z : AR → Prop} (hI : Iv 0 (-1) P Q c) (ha1 : (-2147483648) ≤ a1 ∧ a1 ≤ 2147483647) (K : ∀ (c2 : ME) (y : Int), Iv 0 (-1) P Q c2 → (∀ (a : Nat) (j : Int), ¬ ((a = 41 ∧ j = 0) ∨ a = 42 ∨ a = 59) → c2 a j = c a j) → (-2147483648) ≤ y ∧ y ≤ 2147483647 → Z (.inl (some (vi y)), Wd P Q P P c2, 0, 0)) : Wp sc (d + 9) 245 0 [(0, .ref 41), (1, vi a1)] [] (Wd P Q P P c) 0 0 Z := by
  have hP := iv_P hI
  have hQ := iv_Q hI
  refine q_aload_n rfl rfl (q_iconst rfl (v_pi (z := 0) rfl rfl rfl (Nat.le_of_ble_eq_true rfl) rfl rfl rfl (by decide) (q_aload_n rfl rfl (q_iload_n rfl rfl (q_aload_n rfl rfl ?_)))))
  have h_1 := ir_41_20 hI
  refine v_gi (z := 20) (v := c 41 20) rfl rfl rfl (Nat.le_of_ble_eq_true rfl) rfl rfl (up_n (by decide)) (v_cv rfl rfl rfl rfl (Nat.le_of_ble_eq_true rfl) ⟨⟨rfl, rfl⟩, Nat.le_of_ble_eq_true rfl, rfl⟩ (Nat.le_of_ble_eq_true rfl) (Nat.le_of_ble_eq_true rfl) (q_aload_n rfl rfl (q_iload_n rfl rfl (q_iconst rfl (q_iload_n rfl rfl (q_iconst rfl (v_isub (v := c 41 20 - 1) rfl rfl ?_)))))))
  refine q_call rfl rfl rfl rfl (q_iload_n rfl rfl (q_iload_n rfl rfl ?_))
  by_cases h_2 : a1 < 0
  · refine v_ic_lt_t (t := 14) rfl rfl ⟨ha1.1, h_2, by decide⟩ (q_iconst rfl (v_zret rfl rfl (by decide) (bk_inl (q_iconst rfl (q_iconst rfl (v_cv rfl rfl rfl rfl (Nat.le_of_ble_eq_true rfl) ⟨⟨rfl, rfl⟩, Nat.le_of_ble_eq_true rfl, rfl⟩ (Nat.le_of_ble_eq_true rfl) (Nat.le_of_ble_eq_true rfl) (q_iload_n rfl rfl ?_)))))))
    refine v_if_ne_f (t := 26) rfl rfl (by decide) (q_aload_n rfl rfl (v_gi (z := 0) (v := 0) rfl rfl rfl (Nat.le_of_ble_eq_true rfl) rfl rfl (up_e rfl) (v_if_ne_f (t := 26) rfl rfl (by decide) (q_aload_n rfl rfl (q_iload_n rfl rfl (v_pi (z := 0) rfl rfl rfl (Nat.le_of_ble_eq_true rfl) rfl rfl rfl (by decide) (q_aload_n rfl rfl ?_)))))))
    refine v_gr (t := 42) rfl rfl rfl (Nat.le_of_ble_eq_true rfl) rfl (q_iload_n rfl rfl (q_dup2 rfl ⟨rfl, rfl⟩ ?_))
    have h_3 := ir_42 hI 0
    refine v_ia (v := c 42 0) rfl rfl (by decide) (by decide) (by decide) ((up_c (nn rfl)).trans (up_c (nn rfl))) (q_iconst rfl (v_iadd (v := c 42 0 + 1) rfl rfl (v_nrm (fun y_4 hy_4 => (v_is rfl rfl (by decide) (by decide) (by decide) (q_aload_n rfl rfl (v_gi (z := 0) (v := 1) rfl rfl rfl (Nat.le_of_ble_eq_true rfl) rfl rfl ((up_c (nn rfl)).trans (up_e rfl)) (v_if_ne_t (t := 37) rfl rfl (by decide) ?_))))))))
    refine q_iconst rfl (v_zret rfl rfl (by decide) (bk_inl (v_zret rfl rfl (by decide) (bk_inl (v_if_ne_f (t := 19) rfl rfl (by decide) (q_iconst rfl (q_iret rfl rfl ?_)))))))
    have hI_5 := iw_41_0 (v := 0) hI ⟨by decide, by decide⟩
    have hI_6 := iw_41_0 (v := 1) hI_5 ⟨by decide, by decide⟩
    have hI_7 := iw_42 (j := 0) (v := y_4) hI_6 ⟨hy_4.1, hy_4.2⟩
    exact K (up (up (up c 41 0 0) 41 0 1) 42 0 y_4) 0 hI_7 (fun a j hm => (up_b (Decidable.or_iff_not_imp_left.mpr (fun h1 h2 => hm (Or.inr (Or.inl (Decidable.not_not.mp h1)))))).trans ((up_b (Decidable.or_iff_not_imp_left.mpr (fun h1 h2 => hm (Or.inl ⟨Decidable.not_not.mp h1, h2⟩)))).trans (up_b (Decidable.or_iff_not_imp_left.mpr (fun h1 h2 => hm (Or.inl ⟨Decidable.not_not.mp h1, h2⟩)))))) ⟨by decide, by decide⟩
  · refine v_ic_lt_f (t := 14) rfl rfl ⟨by decide, (Int.not_lt.mp h_2), ha1.2⟩ (q_iload_n rfl rfl (q_iload_n rfl rfl ?_))
    by_cases h_8 : a1 > c 41 20 - 1
    · refine v_ic_gt_t (t := 14) rfl rfl ⟨by first | exact rgm_l h_1.1 (by decide) | omega, h_8, ha1.2⟩ (q_iconst rfl (v_zret rfl rfl (by decide) (bk_inl (q_iconst rfl (q_iconst rfl (v_cv rfl rfl rfl rfl (Nat.le_of_ble_eq_true rfl) ⟨⟨rfl, rfl⟩, Nat.le_of_ble_eq_true rfl, rfl⟩ (Nat.le_of_ble_eq_true rfl) (Nat.le_of_ble_eq_true rfl) (q_iload_n rfl rfl ?_)))))))
      refine v_if_ne_f (t := 26) rfl rfl (by decide) (q_aload_n rfl rfl (v_gi (z := 0) (v := 0) rfl rfl rfl (Nat.le_of_ble_eq_true rfl) rfl rfl (up_e rfl) (v_if_ne_f (t := 26) rfl rfl (by decide) (q_aload_n rfl rfl (q_iload_n rfl rfl (v_pi (z := 0) rfl rfl rfl (Nat.le_of_ble_eq_true rfl) rfl rfl rfl (by decide) (q_aload_n rfl rfl ?_)))))))
      refine v_gr (t := 42) rfl rfl rfl (Nat.le_of_ble_eq_true rfl) rfl (q_iload_n rfl rfl (q_dup2 rfl ⟨rfl, rfl⟩ ?_))
      have h_9 := ir_42 hI 0
      refine v_ia (v := c 42 0) rfl rfl (by decide) (by decide) (by decide) ((up_c (nn rfl)).trans (up_c (nn rfl))) (q_iconst rfl (v_iadd (v := c 42 0 + 1) rfl rfl (v_nrm (fun y_10 hy_10 => (v_is rfl rfl (by decide) (by decide) (by decide) (q_aload_n rfl rfl (v_gi (z := 0) (v := 1) rfl rfl rfl (Nat.le_of_ble_eq_true rfl) rfl rfl ((up_c (nn rfl)).trans (up_e rfl)) (v_if_ne_t (t := 37) rfl rfl (by decide) ?_))))))))
      refine q_iconst rfl (v_zret rfl rfl (by decide) (bk_inl (v_zret rfl rfl (by decide) (bk_inl (v_if_ne_f (t := 19) rfl rfl (by decide) (q_iconst rfl (q_iret rfl rfl ?_)))))))
      have hI_11 := iw_41_0 (v := 0) hI ⟨by decide, by decide⟩
      have hI_12 := iw_41_0 (v := 1) hI_11 ⟨by decide, by decide⟩
      have hI_13 := iw_42 (j := 0) (v := y_10) hI_12 ⟨hy_10.1, hy_10.2⟩
      exact K (up (up (up c 41 0 0) 41 0 1) 42 0 y_10) 0 hI_13 (fun a j hm => (up_b (Decidable.or_iff_not_imp_left.mpr (fun h1 h2 => hm (Or.inr (Or.inl (Decidable.not_not.mp h1)))))).trans ((up_b (Decidable.or_iff_not_imp_left.mpr (fun h1 h2 => hm (Or.inl ⟨Decidable.not_not.mp h1, h2⟩)))).trans (up_b (Decidable.or_iff_not_imp_left.mpr (fun h1 h2 => hm (Or.inl ⟨Decidable.not_not.mp h1, h2⟩)))))) ⟨by decide, by decide⟩
    · refine v_ic_gt_f (t := 14) rfl rfl ⟨ha1.1, (Int.not_lt.mp h_8), by first | exact rgm_h h_1.2 (by decide) | omega⟩ (q_iconst rfl (q_goto (t := 15) rfl rfl (v_zret rfl rfl (by decide) (bk_inl (q_iconst rfl (q_iconst rfl (v_cv rfl rfl rfl rfl (Nat.le_of_ble_eq_true rfl) ⟨⟨rfl, rfl⟩, Nat.le_of_ble_eq_true rfl, rfl⟩ (Nat.le_of_ble_eq_true rfl) (Nat.le_of_ble_eq_true rfl) ?_)))))))
      refine q_iload_n rfl rfl (v_if_ne_t (t := 26) rfl rfl (by decide) (q_aload_n rfl rfl (v_gi (z := 0) (v := 0) rfl rfl rfl (Nat.le_of_ble_eq_true rfl) rfl rfl (up_e rfl) (v_if_ne_f (t := 37) rfl rfl (by decide) (q_iconst rfl (q_goto (t := 38) rfl rfl (v_zret rfl rfl (by decide) ?_)))))))
      refine bk_inl (v_zret rfl rfl (by decide) (bk_inl (v_if_ne_t (t := 19) rfl rfl (by decide) (q_aload_n rfl rfl ?_))))
      have hI_14 := iw_41_0 (v := 0) hI ⟨by decide, by decide⟩
      refine v_cv rfl rfl rfl rfl (Nat.le_of_ble_eq_true rfl) ⟨⟨rfl, rfl⟩, Nat.le_of_ble_eq_true rfl, rfl⟩ (Nat.le_of_ble_eq_true rfl) (Nat.le_of_ble_eq_true rfl) (s_186 hI_14 (fun c_15 hI_16 hF_17 => (bk_inl (v_sip rfl (by decide) (q_aload_n rfl rfl (q_iload_n rfl rfl ?_))))))
      have h_18 := ir_59_g hI_16 (j := 4 * a1) (by first | exact q_b0d0e4535 h_1 h_8 | omega)
      have h_19 := ir_59_g hI_16 (j := 4 * a1 + 1) (by first | exact q_e3354e5e9 h_1 h_8 | omega)
      have h_20 := ir_59_g hI_16 (j := 4 * a1 + 2) (by first | exact q_0a5347bcd h_1 h_8 | omega)
      have h_21 := ir_59_g hI_16 (j := 4 * a1 + 3) (by first | exact q_9939b3b7f h_1 h_8 | omega)
      refine v_cv rfl rfl rfl rfl (Nat.le_of_ble_eq_true rfl) ⟨⟨rfl, rfl⟩, Nat.le_of_ble_eq_true rfl, rfl⟩ (Nat.le_of_ble_eq_true rfl) (Nat.le_of_ble_eq_true rfl) (s_187 (v1 := c_15 59 (4 * a1)) (v2 := c_15 59 (4 * a1 + 1)) (v3 := c_15 59 (4 * a1 + 2)) (v4 := c_15 59 (4 * a1 + 3)) (r := c_15 59 (4 * a1 + 1) + c_15 59 (4 * a1 + 2) + c_15 59 (4 * a1 + 3) + c_15 59 (4 * a1)) (a1 := a1) hI_16 (show 0 ≤ a1 ∧ a1 ≤ 5 from ⟨by first | exact q_720657ba9 h_2 | omega, by first | exact q_3a2e67ab0 h_1 h_8 | omega⟩) (rfl) (rfl) (rfl) (rfl) (by omega) (bk_inl (v_isub (v := 9999 - c_15 59 (4 * a1 + 1) - c_15 59 (4 * a1 + 2) - c_15 59 (4 * a1 + 3) - c_15 59 (4 * a1)) rfl (by omega) (q_iret rfl rfl ?_))))
      exact K c_15 (9999 - c_15 59 (4 * a1 + 1) - c_15 59 (4 * a1 + 2) - c_15 59 (4 * a1 + 3) - c_15 59 (4 * a1)) hI_16 (fun a j hm => (hF_17 a j (fun h => hm (Or.inr (Or.inr h)))).trans (up_b (Decidable.or_iff_not_imp_left.mpr (fun h1 h2 => hm (Or.inl ⟨Decidable.not_not.mp h1, h2⟩))))) ⟨by first | exact q_fb5727b6a h_18 h_19 h_20 h_21 | omega, by first | exact q_033ec8ac9 h_18 h_19 h_20 h_21 | omega⟩

set_option maxRecDepth 100000 in
set_option maxHeartbeats 4000000 in
theorem s_246_l {sc : List Int32} {d P Q : Nat} {c : ME} {a1 : Int} {Z : AR → Prop} (hI : Iv 0 (-1) P Q c) (ha1 : (-2147483648) ≤ a1 ∧ a1 ≤ 2147483647) (K : ∀ (c2 : ME) (y : Int), Iv 0 (-1) P Q c2 → (∀ (a : Nat) (j : Int), ¬ ((a = 41 ∧ j = 0) ∨ a = 42 ∨ a = 59) → c2 a j = c a j) → (-2147483648) ≤ y ∧ y ≤ 2147483647 → Z (.inl (some (vi y)), Wd P Q P P c2, 0, 0)) : ∀ n : Nat, (∀ (c2 : ME) (v2 : Int) (v3 : Int), Iv 0 (-1) P Q c2 → (∀ (a : Nat) (j : Int), ¬ ((a = 41 ∧ j = 0) ∨ a = 42 ∨ a = 59) → c2 a j = c a j) → (-1) ≤ v2 ∧ v2 ≤ 5 → 0 ≤ v3 ∧ v3 ≤ 6 → 13 - 2 * v3 < (n : Int) → Wp sc (d + 8) 246 30 [(0, .ref 41), (1, vi a1), (2, vi v2), (3, vi v3)] [] (Wd P Q P P c2) 0 0 Z)
  | 0 => by intro c2 v2 v3 hI2 hF hv2 hv3 hm9; have hP := iv_P hI; have hQ := iv_Q hI; exfalso; omega
  | n + 1 => by
    have hP := iv_P hI
    have hQ := iv_Q hI
    have ih := s_246_l (sc := sc) (d := d) hI ha1 K n
    intro c2 v2 v3 hI2 hF hv2 hv3 hm9
    refine q_iload_n rfl rfl (q_aload_n rfl rfl ?_)
    have h_1 := ir_41_20 hI
    have kn_2 : Hid (c2 41 20 = c 41 20) := hF 41 20 (fun q => q.elim (fun h => absurd h.2 (ni rfl)) (fun q => q.elim (fun h => absurd h (nn rfl)) (fun h => absurd h (nn rfl))))
    refine v_gi (z := 20) (v := c 41 20) rfl rfl rfl (Nat.le_of_ble_eq_true rfl) rfl rfl (hid kn_2) ?_
    by_cases h_3 : v3 ≥ c 41 20
    · refine v_ic_ge_t (t := 80) rfl rfl ⟨by first | exact q_730ab5169 h_1 | omega, h_3, (Int.le_trans hv3.2 (by decide))⟩ (q_iload_n rfl rfl ?_)
      by_cases h_4 : a1 = 0
      · refine v_if_eq_t (t := 89) rfl rfl h_4 (q_iload_n rfl rfl (q_goto (t := 102) rfl rfl (q_iret rfl rfl ?_)))
        exact K c2 v2 hI2 (fun a j hm => hF a j (fun q => q.elim (fun h => hm (Or.inl h)) (fun q => q.elim (fun h => hm (Or.inr (Or.inl h))) (fun h => hm (Or.inr (Or.inr h)))))) ⟨(Int.le_trans (by decide) hv2.1), (Int.le_trans hv2.2 (by decide))⟩
      · refine v_if_eq_f (t := 89) rfl rfl ⟨h_4, ⟨ha1.1, ha1.2⟩, by decide, by decide⟩ (q_iload_n rfl rfl (q_iconst rfl ?_))
        by_cases h_5 : v2 ≠ (-1)
        · refine v_ic_ne_t (t := 93) rfl rfl ⟨h_5, ⟨(Int.le_trans (by decide) hv2.1), (Int.le_trans hv2.2 (by decide))⟩, by decide, by decide⟩ (q_aload_n rfl rfl (v_gr (t := 59) rfl rfl rfl (Nat.le_of_ble_eq_true rfl) rfl (v_bip rfl (by decide) (q_iload_n rfl rfl (v_iadd (v := v2 + 24) rfl (by first | (clear ha1 hv2 hv3 h_1 h_3 h_4 h_5; omega) | omega) ?_)))))
          have h_6 := ir_59 hI2 (v2 + 24)
          refine v_ia (v := c2 59 (v2 + 24)) rfl rfl (by decide) (by decide) ⟨by first | exact rgp_l hv2.1 (by decide) | omega, by first | exact q_42435cb53 hv2 | (clear ha1 hv3 h_1 h_3 h_6 h_4 h_5; omega) | omega⟩ rfl (q_iret rfl rfl ?_)
          exact K c2 (c2 59 (v2 + 24)) hI2 (fun a j hm => hF a j (fun q => q.elim (fun h => hm (Or.inl h)) (fun q => q.elim (fun h => hm (Or.inr (Or.inl h))) (fun h => hm (Or.inr (Or.inr h)))))) h_6
        · refine v_ic_ne_f (t := 93) rfl rfl (Decidable.not_not.mp h_5) (q_iload_n rfl rfl (q_goto (t := 102) rfl rfl (q_iret rfl rfl ?_)))
          exact K c2 v2 hI2 (fun a j hm => hF a j (fun q => q.elim (fun h => hm (Or.inl h)) (fun q => q.elim (fun h => hm (Or.inr (Or.inl h))) (fun h => hm (Or.inr (Or.inr h)))))) ⟨(Int.le_trans (by decide) hv2.1), (Int.le_trans hv2.2 (by decide))⟩
    · refine v_ic_ge_f (t := 80) rfl rfl ⟨(Int.le_trans (by decide) hv3.1), (Int.not_le.mp h_3), by first | exact q_b289b7db2 h_1 | omega⟩ (q_aload_n rfl rfl (q_iload_n rfl rfl ?_))
      have h_7 := ir_59_g hI2 (j := 4 * v3) (by first | exact q_aa51b186e h_1 h_3 | omega)
      have h_8 := ir_59_g hI2 (j := 4 * v3 + 1) (by first | exact q_57851f9de h_1 h_3 | omega)
      have h_9 := ir_59_g hI2 (j := 4 * v3 + 2) (by first | exact q_7296e74e6 h_1 h_3 | omega)
      have h_10 := ir_59_g hI2 (j := 4 * v3 + 3) (by first | exact q_b15525c4c h_1 h_3 | omega)
      refine v_cv rfl rfl rfl rfl (Nat.le_of_ble_eq_true rfl) ⟨⟨rfl, rfl⟩, Nat.le_of_ble_eq_true rfl, rfl⟩ (Nat.le_of_ble_eq_true rfl) (Nat.le_of_ble_eq_true rfl) (s_187 (v1 := c2 59 (4 * v3)) (v2 := c2 59 (4 * v3 + 1)) (v3 := c2 59 (4 * v3 + 2)) (v4 := c2 59 (4 * v3 + 3)) (r := c2 59 (4 * v3 + 1) + c2 59 (4 * v3 + 2) + c2 59 (4 * v3 + 3) + c2 59 (4 * v3)) (a1 := v3) hI2 (show 0 ≤ v3 ∧ v3 ≤ 5 from ⟨hv3.1, by first | exact q_d63a8538e h_1 h_3 | omega⟩) (rfl) (rfl) (rfl) (rfl) (by omega) (bk_inl ?_))
      by_cases h_11 : c2 59 (4 * v3 + 1) + c2 59 (4 * v3 + 2) + c2 59 (4 * v3 + 3) + c2 59 (4 * v3) ≤ 0
      · refine v_if_le_t (t := 74) rfl rfl ⟨by first | exact q_94559468f h_10 h_7 h_8 h_9 | omega, h_11, by decide⟩ (v_iinc (v := v3 + 1) rfl rfl (Nat.le_of_ble_eq_true rfl) rfl (q_goto (t := 30) rfl rfl (Wp_ls [(0, .ref 41), (1, vi a1), (2, vi v2), (3, vi (v3 + 1))] (lsub_cons rfl (lsub_cons rfl (lsub_cons rfl (lsub_cons rfl lsub_nil)))) ?_)))
        exact ih c2 v2 (v3 + 1) hI2 (fun a j hm => hF a j (fun q => q.elim (fun h => hm (Or.inl h)) (fun q => q.elim (fun h => hm (Or.inr (Or.inl h))) (fun h => hm (Or.inr (Or.inr h)))))) hv2 ⟨by first | exact rgp_l hv3.1 (by decide) | omega, by first | exact q_4a76cd9c7 h_1 h_3 | omega⟩ (by omega)
      · refine v_if_le_f (t := 74) rfl rfl ⟨by decide, (Int.not_le.mp h_11), by first | exact q_f81653045 h_10 h_7 h_8 h_9 | omega⟩ (q_iload_n rfl rfl (q_iconst rfl ?_))
        by_cases h_12 : v2 = (-1)
        · refine v_ic_eq_t (t := 72) rfl rfl h_12 (q_iload_n rfl rfl (q_istore_n rfl (Nat.le_of_ble_eq_true rfl) (v_iinc (v := v3 + 1) rfl rfl (Nat.le_of_ble_eq_true rfl) rfl (q_goto (t := 30) rfl rfl (Wp_ls [(0, .ref 41), (1, vi a1), (2, vi v3), (3, vi (v3 + 1))] (lsub_cons rfl (lsub_cons rfl (lsub_cons rfl (lsub_cons rfl lsub_nil)))) ?_)))))
          exact ih c2 v3 (v3 + 1) hI2 (fun a j hm => hF a j (fun q => q.elim (fun h => hm (Or.inl h)) (fun q => q.elim (fun h => hm (Or.inr (Or.inl h))) (fun h => hm (Or.inr (Or.inr h)))))) ⟨(Int.le_trans (by decide) hv3.1), by first | exact q_d63a8538e h_1 h_3 | omega⟩ ⟨by first | exact rgp_l hv3.1 (by decide) | omega, by first | exact q_4a76cd9c7 h_1 h_3 | omega⟩ (by omega)
        · refine v_ic_eq_f (t := 72) rfl rfl ⟨h_12, ⟨(Int.le_trans (by decide) hv2.1), (Int.le_trans hv2.2 (by decide))⟩, by decide, by decide⟩ (q_aload_n rfl rfl (v_gr (t := 59) rfl rfl rfl (Nat.le_of_ble_eq_true rfl) rfl (v_bip rfl (by decide) (q_iload_n rfl rfl (v_iadd (v := v3 + 24) rfl (by first | (clear ha1 hv2 hv3 h_1 h_3 h_7 h_8 h_9 h_10 h_11 h_12; omega) | omega) ?_)))))
          have h_13 := ir_59 hI2 (v3 + 24)
          refine v_ia (v := c2 59 (v3 + 24)) rfl rfl (by decide) (by decide) ⟨by first | exact rgp_l hv3.1 (by decide) | omega, by first | exact q_51955fde5 hv3 | (clear ha1 hv2 h_1 h_3 h_7 h_8 h_9 h_10 h_11 h_13 h_12; omega) | omega⟩ rfl (q_aload_n rfl rfl (v_gr (t := 59) rfl rfl rfl (Nat.le_of_ble_eq_true rfl) rfl (v_bip rfl (by decide) (q_iload_n rfl rfl (v_iadd (v := v2 + 24) rfl (by first | (clear ha1 hv2 hv3 h_1 h_3 h_7 h_8 h_9 h_10 h_11 h_13 h_12; omega) | omega) ?_)))))
          have h_14 := ir_59 hI2 (v2 + 24)
          refine v_ia (v := c2 59 (v2 + 24)) rfl rfl (by decide) (by decide) ⟨by first | exact rgp_l hv2.1 (by decide) | omega, by first | exact q_42435cb53 hv2 | (clear ha1 hv3 h_1 h_3 h_7 h_8 h_9 h_10 h_11 h_13 h_14 h_12; omega) | omega⟩ rfl ?_
          by_cases h_15 : c2 59 (v3 + 24) ≤ c2 59 (v2 + 24)
          · refine v_ic_le_t (t := 74) rfl rfl ⟨h_13.1, h_15, h_14.2⟩ (v_iinc (v := v3 + 1) rfl rfl (Nat.le_of_ble_eq_true rfl) rfl (q_goto (t := 30) rfl rfl (Wp_ls [(0, .ref 41), (1, vi a1), (2, vi v2), (3, vi (v3 + 1))] (lsub_cons rfl (lsub_cons rfl (lsub_cons rfl (lsub_cons rfl lsub_nil)))) ?_)))
            exact ih c2 v2 (v3 + 1) hI2 (fun a j hm => hF a j (fun q => q.elim (fun h => hm (Or.inl h)) (fun q => q.elim (fun h => hm (Or.inr (Or.inl h))) (fun h => hm (Or.inr (Or.inr h)))))) hv2 ⟨by first | exact rgp_l hv3.1 (by decide) | omega, by first | exact q_4a76cd9c7 h_1 h_3 | (clear ha1 hv2 hv3 h_7 h_8 h_9 h_10 h_11 h_13 h_14 h_15 h_12; omega) | omega⟩ (by omega)
          · refine v_ic_le_f (t := 74) rfl rfl ⟨h_14.1, (Int.not_le.mp h_15), h_13.2⟩ (q_iload_n rfl rfl (q_istore_n rfl (Nat.le_of_ble_eq_true rfl) (v_iinc (v := v3 + 1) rfl rfl (Nat.le_of_ble_eq_true rfl) rfl (q_goto (t := 30) rfl rfl (Wp_ls [(0, .ref 41), (1, vi a1), (2, vi v3), (3, vi (v3 + 1))] (lsub_cons rfl (lsub_cons rfl (lsub_cons rfl (lsub_cons rfl lsub_nil)))) ?_)))))
            exact ih c2 v3 (v3 + 1) hI2 (fun a j hm => hF a j (fun q => q.elim (fun h => hm (Or.inl h)) (fun q => q.elim (fun h => hm (Or.inr (Or.inl h))) (fun h => hm (Or.inr (Or.inr h)))))) ⟨(Int.le_trans (by decide) hv3.1), by first | exact q_d63a8538e h_1 h_3 | (clear ha1 hv2 hv3 h_7 h_8 h_9 h_10 h_11 h_13 h_14 h_15 h_12; omega) | omega⟩ ⟨by first | exact rgp_l hv3.1 (by decide) | omega, by first | exact q_4a76cd9c7 h_1 h_3 | (clear ha1 hv2 hv3 h_7 h_8 h_9 h_10 h_11 h_13 h_14 h_15 h_12; omega) | omega⟩ (by omega)
set_option maxRecDepth 100000 in
set_option maxHeartbeats 4000000 in
theorem s_246 {sc : List Int32} {d P Q : Nat} {c : ME} {a1 : Int} {Z : AR → Prop} (hI : Iv 0 (-1) P Q c) (ha1 : (-2147483648) ≤ a1 ∧ a1 ≤ 2147483647) (K : ∀ (c2 : ME) (y : Int), Iv 0 (-1) P Q c2 → (∀ (a : Nat) (j : Int), ¬ ((a = 41 ∧ j = 0) ∨ a = 42 ∨ a = 59) → c2 a j = c a j) → (-2147483648) ≤ y ∧ y ≤ 2147483647 → Z (.inl (some (vi y)), Wd P Q P P c2, 0, 0)) : Wp sc (d + 8) 246 0 [(0, .ref 41), (1, vi a1)] [] (Wd P Q P P c) 0 0 Z := by
  have hP := iv_P hI
  have hQ := iv_Q hI
  refine q_aload_n rfl rfl (q_iconst rfl (v_pi (z := 0) rfl rfl rfl (Nat.le_of_ble_eq_true rfl) rfl rfl rfl (by decide) (q_aload_n rfl rfl (q_iload_n rfl rfl (q_iconst rfl (q_iconst rfl (q_call rfl rfl rfl rfl ?_)))))))
  refine q_iload_n rfl rfl (q_iload_n rfl rfl ?_)
  by_cases h_16 : a1 < 0
  · refine v_ic_lt_t (t := 14) rfl rfl ⟨ha1.1, h_16, by decide⟩ (q_iconst rfl (v_zret rfl rfl (by decide) (bk_inl (q_iconst rfl (q_iconst rfl (v_cv rfl rfl rfl rfl (Nat.le_of_ble_eq_true rfl) ⟨⟨rfl, rfl⟩, Nat.le_of_ble_eq_true rfl, rfl⟩ (Nat.le_of_ble_eq_true rfl) (Nat.le_of_ble_eq_true rfl) (q_iload_n rfl rfl ?_)))))))
    refine v_if_ne_f (t := 26) rfl rfl (by decide) (q_aload_n rfl rfl (v_gi (z := 0) (v := 0) rfl rfl rfl (Nat.le_of_ble_eq_true rfl) rfl rfl (up_e rfl) (v_if_ne_f (t := 26) rfl rfl (by decide) (q_aload_n rfl rfl (q_iload_n rfl rfl (v_pi (z := 0) rfl rfl rfl (Nat.le_of_ble_eq_true rfl) rfl rfl rfl (by decide) (q_aload_n rfl rfl ?_)))))))
    refine v_gr (t := 42) rfl rfl rfl (Nat.le_of_ble_eq_true rfl) rfl (q_iload_n rfl rfl (q_dup2 rfl ⟨rfl, rfl⟩ ?_))
    have h_17 := ir_42 hI 1
    refine v_ia (v := c 42 1) rfl rfl (by decide) (by decide) (by decide) ((up_c (nn rfl)).trans (up_c (nn rfl))) (q_iconst rfl (v_iadd (v := c 42 1 + 1) rfl rfl (v_nrm (fun y_18 hy_18 => (v_is rfl rfl (by decide) (by decide) (by decide) (q_aload_n rfl rfl (v_gi (z := 0) (v := 1) rfl rfl rfl (Nat.le_of_ble_eq_true rfl) rfl rfl ((up_c (nn rfl)).trans (up_e rfl)) (v_if_ne_t (t := 37) rfl rfl (by decide) ?_))))))))
    refine q_iconst rfl (v_zret rfl rfl (by decide) (bk_inl (v_if_ne_f (t := 22) rfl rfl (by decide) (q_iconst rfl (q_iret rfl rfl ?_)))))
    have hI_19 := iw_41_0 (v := 0) hI ⟨by decide, by decide⟩
    have hI_20 := iw_41_0 (v := 1) hI_19 ⟨by decide, by decide⟩
    have hI_21 := iw_42 (j := 1) (v := y_18) hI_20 ⟨hy_18.1, hy_18.2⟩
    exact K (up (up (up c 41 0 0) 41 0 1) 42 1 y_18) 0 hI_21 (fun a j hm => (up_b (Decidable.or_iff_not_imp_left.mpr (fun h1 h2 => hm (Or.inr (Or.inl (Decidable.not_not.mp h1)))))).trans ((up_b (Decidable.or_iff_not_imp_left.mpr (fun h1 h2 => hm (Or.inl ⟨Decidable.not_not.mp h1, h2⟩)))).trans (up_b (Decidable.or_iff_not_imp_left.mpr (fun h1 h2 => hm (Or.inl ⟨Decidable.not_not.mp h1, h2⟩)))))) ⟨by decide, by decide⟩
  · refine v_ic_lt_f (t := 14) rfl rfl ⟨by decide, (Int.not_lt.mp h_16), ha1.2⟩ (q_iload_n rfl rfl (q_iload_n rfl rfl ?_))
    by_cases h_22 : a1 > 1
    · refine v_ic_gt_t (t := 14) rfl rfl ⟨by decide, h_22, ha1.2⟩ (q_iconst rfl (v_zret rfl rfl (by decide) (bk_inl (q_iconst rfl (q_iconst rfl (v_cv rfl rfl rfl rfl (Nat.le_of_ble_eq_true rfl) ⟨⟨rfl, rfl⟩, Nat.le_of_ble_eq_true rfl, rfl⟩ (Nat.le_of_ble_eq_true rfl) (Nat.le_of_ble_eq_true rfl) (q_iload_n rfl rfl ?_)))))))
      refine v_if_ne_f (t := 26) rfl rfl (by decide) (q_aload_n rfl rfl (v_gi (z := 0) (v := 0) rfl rfl rfl (Nat.le_of_ble_eq_true rfl) rfl rfl (up_e rfl) (v_if_ne_f (t := 26) rfl rfl (by decide) (q_aload_n rfl rfl (q_iload_n rfl rfl (v_pi (z := 0) rfl rfl rfl (Nat.le_of_ble_eq_true rfl) rfl rfl rfl (by decide) (q_aload_n rfl rfl ?_)))))))
      refine v_gr (t := 42) rfl rfl rfl (Nat.le_of_ble_eq_true rfl) rfl (q_iload_n rfl rfl (q_dup2 rfl ⟨rfl, rfl⟩ ?_))
      have h_23 := ir_42 hI 1
      refine v_ia (v := c 42 1) rfl rfl (by decide) (by decide) (by decide) ((up_c (nn rfl)).trans (up_c (nn rfl))) (q_iconst rfl (v_iadd (v := c 42 1 + 1) rfl rfl (v_nrm (fun y_24 hy_24 => (v_is rfl rfl (by decide) (by decide) (by decide) (q_aload_n rfl rfl (v_gi (z := 0) (v := 1) rfl rfl rfl (Nat.le_of_ble_eq_true rfl) rfl rfl ((up_c (nn rfl)).trans (up_e rfl)) (v_if_ne_t (t := 37) rfl rfl (by decide) ?_))))))))
      refine q_iconst rfl (v_zret rfl rfl (by decide) (bk_inl (v_if_ne_f (t := 22) rfl rfl (by decide) (q_iconst rfl (q_iret rfl rfl ?_)))))
      have hI_25 := iw_41_0 (v := 0) hI ⟨by decide, by decide⟩
      have hI_26 := iw_41_0 (v := 1) hI_25 ⟨by decide, by decide⟩
      have hI_27 := iw_42 (j := 1) (v := y_24) hI_26 ⟨hy_24.1, hy_24.2⟩
      exact K (up (up (up c 41 0 0) 41 0 1) 42 1 y_24) 0 hI_27 (fun a j hm => (up_b (Decidable.or_iff_not_imp_left.mpr (fun h1 h2 => hm (Or.inr (Or.inl (Decidable.not_not.mp h1)))))).trans ((up_b (Decidable.or_iff_not_imp_left.mpr (fun h1 h2 => hm (Or.inl ⟨Decidable.not_not.mp h1, h2⟩)))).trans (up_b (Decidable.or_iff_not_imp_left.mpr (fun h1 h2 => hm (Or.inl ⟨Decidable.not_not.mp h1, h2⟩)))))) ⟨by decide, by decide⟩
    · refine v_ic_gt_f (t := 14) rfl rfl ⟨ha1.1, (Int.not_lt.mp h_22), by decide⟩ (q_iconst rfl (q_goto (t := 15) rfl rfl (v_zret rfl rfl (by decide) (bk_inl (q_iconst rfl (q_iconst rfl (v_cv rfl rfl rfl rfl (Nat.le_of_ble_eq_true rfl) ⟨⟨rfl, rfl⟩, Nat.le_of_ble_eq_true rfl, rfl⟩ (Nat.le_of_ble_eq_true rfl) (Nat.le_of_ble_eq_true rfl) ?_)))))))
      refine q_iload_n rfl rfl (v_if_ne_t (t := 26) rfl rfl (by decide) (q_aload_n rfl rfl (v_gi (z := 0) (v := 0) rfl rfl rfl (Nat.le_of_ble_eq_true rfl) rfl rfl (up_e rfl) (v_if_ne_f (t := 37) rfl rfl (by decide) (q_iconst rfl (q_goto (t := 38) rfl rfl (v_zret rfl rfl (by decide) ?_)))))))
      refine bk_inl (v_if_ne_t (t := 22) rfl rfl (by decide) (q_aload_n rfl rfl ?_))
      have hI_28 := iw_41_0 (v := 0) hI ⟨by decide, by decide⟩
      refine v_cv rfl rfl rfl rfl (Nat.le_of_ble_eq_true rfl) ⟨⟨rfl, rfl⟩, Nat.le_of_ble_eq_true rfl, rfl⟩ (Nat.le_of_ble_eq_true rfl) (Nat.le_of_ble_eq_true rfl) (s_186 hI_28 (fun c_29 hI_30 hF_31 => (bk_inl (q_iconst rfl (q_istore_n rfl (Nat.le_of_ble_eq_true rfl) (q_iconst rfl (q_istore_n rfl (Nat.le_of_ble_eq_true rfl) (Wp_ls [(0, .ref 41), (1, vi a1), (2, vi (-1)), (3, vi 0)] (lsub_cons rfl (lsub_cons rfl (lsub_cons rfl (lsub_cons rfl lsub_nil)))) ?_))))))))
      exact (s_246_l (sc := sc) (d := d) hI ha1 K 16) c_29 (-1) 0 hI_30 (fun a j hm => (hF_31 a j (fun h => hm (Or.inr (Or.inr h)))).trans (up_b (Decidable.or_iff_not_imp_left.mpr (fun h1 h2 => hm (Or.inl ⟨Decidable.not_not.mp h1, h2⟩))))) ⟨by decide, by decide⟩ ⟨by decide, by decide⟩ (by omega)

set_option maxRecDepth 100000 in
set_option maxHeartbeats 4000000 in
theorem s_247_l {sc : List Int32} {d P Q : Nat} {c : ME} {a1 : Int} {Z : AR → Prop} (hI : Iv 0 (-1) P Q c) (ha1 : (-2147483648) ≤ a1 ∧ a1 ≤ 2147483647) (K : ∀ (c2 : ME) (y : Int), Iv 0 (-1) P Q c2 → (∀ (a : Nat) (j : Int), ¬ ((a = 41 ∧ j = 0) ∨ a = 42 ∨ a = 59) → c2 a j = c a j) → (-2147483648) ≤ y ∧ y ≤ 2147483647 → Z (.inl (some (vi y)), Wd P Q P P c2, 0, 0)) : ∀ n : Nat, (∀ (c2 : ME) (v2 : Int) (v3 : Int), Iv 0 (-1) P Q c2 → (∀ (a : Nat) (j : Int), ¬ ((a = 41 ∧ j = 0) ∨ a = 42 ∨ a = 59) → c2 a j = c a j) → (-2147483648) ≤ v2 ∧ v2 ≤ 2147483647 → 0 ≤ v3 ∧ v3 ≤ 6 → ((a1 ≥ 0 ∧ a1 ≤ 3)) → 13 - 2 * v3 < (n : Int) → Wp sc (d + 9) 247 27 [(0, .ref 41), (1, vi a1), (2, vi v2), (3, vi v3)] [] (Wd P Q P P c2) 0 0 Z)
  | 0 => by intro c2 v2 v3 hI2 hF hv2 hv3 hx0 hm9; have hP := iv_P hI; have hQ := iv_Q hI; exfalso; omega
  | n + 1 => by
    have hP := iv_P hI
    have hQ := iv_Q hI
    have ih := s_247_l (sc := sc) (d := d) hI ha1 K n
    intro c2 v2 v3 hI2 hF hv2 hv3 hx0 hm9
    refine q_iload_n rfl rfl (q_aload_n rfl rfl ?_)
    have h_1 := ir_41_20 hI
    have kn_2 : Hid (c2 41 20 = c 41 20) := hF 41 20 (fun q => q.elim (fun h => absurd h.2 (ni rfl)) (fun q => q.elim (fun h => absurd h (nn rfl)) (fun h => absurd h (nn rfl))))
    refine v_gi (z := 20) (v := c 41 20) rfl rfl rfl (Nat.le_of_ble_eq_true rfl) rfl rfl (hid kn_2) ?_
    by_cases h_3 : v3 ≥ c 41 20
    · refine v_ic_ge_t (t := 73) rfl rfl ⟨by first | exact q_730ab5169 h_1 | omega, h_3, (Int.le_trans hv3.2 (by decide))⟩ (q_iload_n rfl rfl (q_iret rfl rfl ?_))
      exact K c2 v2 hI2 (fun a j hm => hF a j (fun q => q.elim (fun h => hm (Or.inl h)) (fun q => q.elim (fun h => hm (Or.inr (Or.inl h))) (fun h => hm (Or.inr (Or.inr h)))))) hv2
    · refine v_ic_ge_f (t := 73) rfl rfl ⟨(Int.le_trans (by decide) hv3.1), (Int.not_le.mp h_3), by first | exact q_b289b7db2 h_1 | omega⟩ (q_iload_n rfl rfl (q_aload_n rfl rfl (q_iload_n rfl rfl ?_)))
      have h_4 := ir_59_g hI2 (j := 4 * v3) (by first | exact q_aa51b186e h_1 h_3 | omega)
      have h_5 := ir_59_g hI2 (j := 4 * v3 + 1) (by first | exact q_57851f9de h_1 h_3 | omega)
      have h_6 := ir_59_g hI2 (j := 4 * v3 + 2) (by first | exact q_7296e74e6 h_1 h_3 | omega)
      have h_7 := ir_59_g hI2 (j := 4 * v3 + 3) (by first | exact q_b15525c4c h_1 h_3 | omega)
      refine v_cv rfl rfl rfl rfl (Nat.le_of_ble_eq_true rfl) ⟨⟨rfl, rfl⟩, Nat.le_of_ble_eq_true rfl, rfl⟩ (Nat.le_of_ble_eq_true rfl) (Nat.le_of_ble_eq_true rfl) (s_187 (v1 := c2 59 (4 * v3)) (v2 := c2 59 (4 * v3 + 1)) (v3 := c2 59 (4 * v3 + 2)) (v4 := c2 59 (4 * v3 + 3)) (r := c2 59 (4 * v3 + 1) + c2 59 (4 * v3 + 2) + c2 59 (4 * v3 + 3) + c2 59 (4 * v3)) (a1 := v3) hI2 (show 0 ≤ v3 ∧ v3 ≤ 5 from ⟨hv3.1, by first | exact q_d63a8538e h_1 h_3 | omega⟩) (rfl) (rfl) (rfl) (rfl) (by omega) (bk_inl ?_))
      by_cases h_8 : c2 59 (4 * v3 + 1) + c2 59 (4 * v3 + 2) + c2 59 (4 * v3 + 3) + c2 59 (4 * v3) ≤ 0
      · refine v_if_le_t (t := 64) rfl rfl ⟨by first | exact q_e052ef40e h_4 h_5 h_6 h_7 | omega, h_8, by decide⟩ (q_iconst rfl (v_iorx rfl (fun y_9 hy_9 => (q_istore_n rfl (Nat.le_of_ble_eq_true rfl) (v_iinc (v := v3 + 1) rfl rfl (Nat.le_of_ble_eq_true rfl) rfl (q_goto (t := 27) rfl rfl (Wp_ls [(0, .ref 41), (1, vi a1), (2, vi y_9), (3, vi (v3 + 1))] (lsub_cons rfl (lsub_cons rfl (lsub_cons rfl (lsub_cons rfl lsub_nil)))) ?_)))))))
        exact ih c2 y_9 (v3 + 1) hI2 (fun a j hm => hF a j (fun q => q.elim (fun h => hm (Or.inl h)) (fun q => q.elim (fun h => hm (Or.inr (Or.inl h))) (fun h => hm (Or.inr (Or.inr h)))))) hy_9 ⟨by first | exact rgp_l hv3.1 (by decide) | omega, by first | exact q_4a76cd9c7 h_1 h_3 | omega⟩ ⟨by omega, by omega⟩ (by omega)
      · refine v_if_le_f (t := 64) rfl rfl ⟨by decide, (Int.not_le.mp h_8), by first | exact q_db9ef1f4a h_4 h_5 h_6 h_7 | omega⟩ (q_aload_n rfl rfl (q_iload_n rfl rfl (q_iload_n rfl rfl ?_)))
        have h_10 := ir_49 hI a1
        have kn_11 : Hid (c2 49 a1 = c 49 a1) := hF 49 a1 (fun q => q.elim (fun h => absurd h.1 (nn rfl)) (fun q => q.elim (fun h => absurd h (nn rfl)) (fun h => absurd h (nn rfl))))
        have h_12 := ir_59 hI2 (a1 + 30)
        have h_13 := fal_rng (m := c 49 a1) (t := c2 59 (a1 + 30)) (g := 0) (x := c2 59 (4 * v3)) (by omega)
        have h_14 := fal_rng (m := c 49 a1) (t := c2 59 (a1 + 30)) (g := 1) (x := c2 59 (4 * v3 + 1)) (by omega)
        have h_15 := fal_rng (m := c 49 a1) (t := c2 59 (a1 + 30)) (g := 2) (x := c2 59 (4 * v3 + 2)) (by omega)
        have h_16 := fal_rng (m := c 49 a1) (t := c2 59 (a1 + 30)) (g := 3) (x := c2 59 (4 * v3 + 3)) (by omega)
        refine v_cv rfl rfl rfl rfl (Nat.le_of_ble_eq_true rfl) ⟨⟨rfl, rfl⟩, Nat.le_of_ble_eq_true rfl, rfl⟩ (Nat.le_of_ble_eq_true rfl) (Nat.le_of_ble_eq_true rfl) (s_190 (v1 := c 49 a1) (v2 := c2 59 (a1 + 30)) (v3 := c2 59 (4 * v3)) (v4 := c2 59 (4 * v3 + 1)) (v5 := c2 59 (4 * v3 + 2)) (v6 := c2 59 (4 * v3 + 3)) (r := (fal (c 49 a1) (c2 59 (a1 + 30)) 0 (c2 59 (4 * v3))) + (fal (c 49 a1) (c2 59 (a1 + 30)) 1 (c2 59 (4 * v3 + 1))) + (fal (c 49 a1) (c2 59 (a1 + 30)) 2 (c2 59 (4 * v3 + 2))) + (fal (c 49 a1) (c2 59 (a1 + 30)) 3 (c2 59 (4 * v3 + 3)))) (a1 := a1) (a2 := v3) hI2 (show 0 ≤ a1 ∧ a1 ≤ 3 from ⟨by omega, by omega⟩) (show 0 ≤ v3 ∧ v3 ≤ 5 from ⟨hv3.1, by first | exact q_d63a8538e h_1 h_3 | omega⟩) ((hid kn_11)) (rfl) (rfl) (rfl) (rfl) (rfl) rfl (bk_inl (q_aload_n rfl rfl (q_iload_n rfl rfl (v_cv rfl rfl rfl rfl (Nat.le_of_ble_eq_true rfl) ⟨⟨rfl, rfl⟩, Nat.le_of_ble_eq_true rfl, rfl⟩ (Nat.le_of_ble_eq_true rfl) (Nat.le_of_ble_eq_true rfl) (s_187 (v1 := c2 59 (4 * v3)) (v2 := c2 59 (4 * v3 + 1)) (v3 := c2 59 (4 * v3 + 2)) (v4 := c2 59 (4 * v3 + 3)) (r := c2 59 (4 * v3 + 1) + c2 59 (4 * v3 + 2) + c2 59 (4 * v3 + 3) + c2 59 (4 * v3)) (a1 := v3) hI2 (show 0 ≤ v3 ∧ v3 ≤ 5 from ⟨hv3.1, by first | exact q_d63a8538e h_1 h_3 | (clear ha1 hv2 hv3 hx0 h_4 h_5 h_6 h_7 h_8 h_10 h_12 h_13 h_14 h_15 h_16; omega) | omega⟩) (rfl) (rfl) (rfl) (rfl) (by omega) (bk_inl ?_)))))))
        by_cases h_17 : (fal (c 49 a1) (c2 59 (a1 + 30)) 0 (c2 59 (4 * v3))) + (fal (c 49 a1) (c2 59 (a1 + 30)) 1 (c2 59 (4 * v3 + 1))) + (fal (c 49 a1) (c2 59 (a1 + 30)) 2 (c2 59 (4 * v3 + 2))) + (fal (c 49 a1) (c2 59 (a1 + 30)) 3 (c2 59 (4 * v3 + 3))) ≠ c2 59 (4 * v3 + 1) + c2 59 (4 * v3 + 2) + c2 59 (4 * v3 + 3) + c2 59 (4 * v3)
        · refine v_ic_ne_t (t := 64) rfl rfl ⟨h_17, ⟨by first | (clear ha1 hv2 hv3 hx0 h_1 h_3 h_4 h_5 h_6 h_7 h_8 h_10 h_12; omega) | omega, by omega⟩, by first | exact q_0023c4fc8 h_8 | (clear ha1 hv2 hv3 hx0 h_1 h_3 h_4 h_5 h_6 h_7 h_10 h_12 h_13 h_14 h_15 h_16; omega) | omega, by first | exact q_db9ef1f4a h_4 h_5 h_6 h_7 | (clear ha1 hv2 hv3 hx0 h_1 h_3 h_8 h_10 h_12 h_13 h_14 h_15 h_16; omega) | omega⟩ (q_iconst rfl (v_iorx rfl (fun y_18 hy_18 => (q_istore_n rfl (Nat.le_of_ble_eq_true rfl) (v_iinc (v := v3 + 1) rfl rfl (Nat.le_of_ble_eq_true rfl) rfl (q_goto (t := 27) rfl rfl (Wp_ls [(0, .ref 41), (1, vi a1), (2, vi y_18), (3, vi (v3 + 1))] (lsub_cons rfl (lsub_cons rfl (lsub_cons rfl (lsub_cons rfl lsub_nil)))) ?_)))))))
          exact ih c2 y_18 (v3 + 1) hI2 (fun a j hm => hF a j (fun q => q.elim (fun h => hm (Or.inl h)) (fun q => q.elim (fun h => hm (Or.inr (Or.inl h))) (fun h => hm (Or.inr (Or.inr h)))))) hy_18 ⟨by first | exact rgp_l hv3.1 (by decide) | omega, by first | exact q_4a76cd9c7 h_1 h_3 | (clear ha1 hv2 hv3 hx0 h_4 h_5 h_6 h_7 h_8 h_10 h_12 h_13 h_14 h_15 h_16 h_17; omega) | omega⟩ ⟨by first | (clear ha1 hv2 hv3 h_1 h_3 h_4 h_5 h_6 h_7 h_8 h_10 h_12 h_13 h_14 h_15 h_16 h_17; omega) | omega, by first | (clear ha1 hv2 hv3 h_1 h_3 h_4 h_5 h_6 h_7 h_8 h_10 h_12 h_13 h_14 h_15 h_16 h_17; omega) | omega⟩ (by omega)
        · refine v_ic_ne_f (t := 64) rfl rfl (Decidable.not_not.mp h_17) (q_iconst rfl (q_iload_n rfl rfl (v_shl1 rfl ⟨by omega, by omega⟩ (fun y_19 hy_19 => (q_goto (t := 65) rfl rfl (v_iorx rfl (fun y_20 hy_20 => (q_istore_n rfl (Nat.le_of_ble_eq_true rfl) (v_iinc (v := v3 + 1) rfl rfl (Nat.le_of_ble_eq_true rfl) rfl ?_)))))))))
          refine q_goto (t := 27) rfl rfl (Wp_ls [(0, .ref 41), (1, vi a1), (2, vi y_20), (3, vi (v3 + 1))] (lsub_cons rfl (lsub_cons rfl (lsub_cons rfl (lsub_cons rfl lsub_nil)))) ?_)
          exact ih c2 y_20 (v3 + 1) hI2 (fun a j hm => hF a j (fun q => q.elim (fun h => hm (Or.inl h)) (fun q => q.elim (fun h => hm (Or.inr (Or.inl h))) (fun h => hm (Or.inr (Or.inr h)))))) hy_20 ⟨by first | exact rgp_l hv3.1 (by decide) | omega, by first | exact q_4a76cd9c7 h_1 h_3 | (clear ha1 hv2 hv3 hx0 h_4 h_5 h_6 h_7 h_8 h_10 h_12 h_13 h_14 h_15 h_16 h_17; omega) | omega⟩ ⟨by first | (clear ha1 hv2 hv3 h_1 h_3 h_4 h_5 h_6 h_7 h_8 h_10 h_12 h_13 h_14 h_15 h_16 h_17; omega) | omega, by first | (clear ha1 hv2 hv3 h_1 h_3 h_4 h_5 h_6 h_7 h_8 h_10 h_12 h_13 h_14 h_15 h_16 h_17; omega) | omega⟩ (by omega)
set_option maxRecDepth 100000 in
set_option maxHeartbeats 4000000 in
theorem s_247 {sc : List Int32} {d P Q : Nat} {c : ME} {a1 : Int} {Z : AR → Prop} (hI : Iv 0 (-1) P Q c) (ha1 : (-2147483648) ≤ a1 ∧ a1 ≤ 2147483647) (K : ∀ (c2 : ME) (y : Int), Iv 0 (-1) P Q c2 → (∀ (a : Nat) (j : Int), ¬ ((a = 41 ∧ j = 0) ∨ a = 42 ∨ a = 59) → c2 a j = c a j) → (-2147483648) ≤ y ∧ y ≤ 2147483647 → Z (.inl (some (vi y)), Wd P Q P P c2, 0, 0)) : Wp sc (d + 9) 247 0 [(0, .ref 41), (1, vi a1)] [] (Wd P Q P P c) 0 0 Z := by
  have hP := iv_P hI
  have hQ := iv_Q hI
  refine q_aload_n rfl rfl (q_iconst rfl (v_pi (z := 0) rfl rfl rfl (Nat.le_of_ble_eq_true rfl) rfl rfl rfl (by decide) (q_aload_n rfl rfl (q_iload_n rfl rfl (q_aload_n rfl rfl ?_)))))
  have h_21 := ir_41_22 hI
  refine v_gi (z := 22) (v := c 41 22) rfl rfl rfl (Nat.le_of_ble_eq_true rfl) rfl rfl (up_n (by decide)) (v_cv rfl rfl rfl rfl (Nat.le_of_ble_eq_true rfl) ⟨⟨rfl, rfl⟩, Nat.le_of_ble_eq_true rfl, rfl⟩ (Nat.le_of_ble_eq_true rfl) (Nat.le_of_ble_eq_true rfl) (q_aload_n rfl rfl (q_iload_n rfl rfl (q_iconst rfl (q_iload_n rfl rfl (q_iconst rfl (v_isub (v := c 41 22 - 1) rfl rfl ?_)))))))
  refine q_call rfl rfl rfl rfl (q_iload_n rfl rfl (q_iload_n rfl rfl ?_))
  by_cases h_22 : a1 < 0
  · refine v_ic_lt_t (t := 14) rfl rfl ⟨ha1.1, h_22, by decide⟩ (q_iconst rfl (v_zret rfl rfl (by decide) (bk_inl (q_iconst rfl (q_iconst rfl (v_cv rfl rfl rfl rfl (Nat.le_of_ble_eq_true rfl) ⟨⟨rfl, rfl⟩, Nat.le_of_ble_eq_true rfl, rfl⟩ (Nat.le_of_ble_eq_true rfl) (Nat.le_of_ble_eq_true rfl) (q_iload_n rfl rfl ?_)))))))
    refine v_if_ne_f (t := 26) rfl rfl (by decide) (q_aload_n rfl rfl (v_gi (z := 0) (v := 0) rfl rfl rfl (Nat.le_of_ble_eq_true rfl) rfl rfl (up_e rfl) (v_if_ne_f (t := 26) rfl rfl (by decide) (q_aload_n rfl rfl (q_iload_n rfl rfl (v_pi (z := 0) rfl rfl rfl (Nat.le_of_ble_eq_true rfl) rfl rfl rfl (by decide) (q_aload_n rfl rfl ?_)))))))
    refine v_gr (t := 42) rfl rfl rfl (Nat.le_of_ble_eq_true rfl) rfl (q_iload_n rfl rfl (q_dup2 rfl ⟨rfl, rfl⟩ ?_))
    have h_23 := ir_42 hI 0
    refine v_ia (v := c 42 0) rfl rfl (by decide) (by decide) (by decide) ((up_c (nn rfl)).trans (up_c (nn rfl))) (q_iconst rfl (v_iadd (v := c 42 0 + 1) rfl rfl (v_nrm (fun y_24 hy_24 => (v_is rfl rfl (by decide) (by decide) (by decide) (q_aload_n rfl rfl (v_gi (z := 0) (v := 1) rfl rfl rfl (Nat.le_of_ble_eq_true rfl) rfl rfl ((up_c (nn rfl)).trans (up_e rfl)) (v_if_ne_t (t := 37) rfl rfl (by decide) ?_))))))))
    refine q_iconst rfl (v_zret rfl rfl (by decide) (bk_inl (v_zret rfl rfl (by decide) (bk_inl (v_if_ne_f (t := 19) rfl rfl (by decide) (q_iconst rfl (q_iret rfl rfl ?_)))))))
    have hI_25 := iw_41_0 (v := 0) hI ⟨by decide, by decide⟩
    have hI_26 := iw_41_0 (v := 1) hI_25 ⟨by decide, by decide⟩
    have hI_27 := iw_42 (j := 0) (v := y_24) hI_26 ⟨hy_24.1, hy_24.2⟩
    exact K (up (up (up c 41 0 0) 41 0 1) 42 0 y_24) 0 hI_27 (fun a j hm => (up_b (Decidable.or_iff_not_imp_left.mpr (fun h1 h2 => hm (Or.inr (Or.inl (Decidable.not_not.mp h1)))))).trans ((up_b (Decidable.or_iff_not_imp_left.mpr (fun h1 h2 => hm (Or.inl ⟨Decidable.not_not.mp h1, h2⟩)))).trans (up_b (Decidable.or_iff_not_imp_left.mpr (fun h1 h2 => hm (Or.inl ⟨Decidable.not_not.mp h1, h2⟩)))))) ⟨by decide, by decide⟩
  · refine v_ic_lt_f (t := 14) rfl rfl ⟨by decide, (Int.not_lt.mp h_22), ha1.2⟩ (q_iload_n rfl rfl (q_iload_n rfl rfl ?_))
    by_cases h_28 : a1 > c 41 22 - 1
    · refine v_ic_gt_t (t := 14) rfl rfl ⟨by first | exact rgm_l h_21.1 (by decide) | omega, h_28, ha1.2⟩ (q_iconst rfl (v_zret rfl rfl (by decide) (bk_inl (q_iconst rfl (q_iconst rfl (v_cv rfl rfl rfl rfl (Nat.le_of_ble_eq_true rfl) ⟨⟨rfl, rfl⟩, Nat.le_of_ble_eq_true rfl, rfl⟩ (Nat.le_of_ble_eq_true rfl) (Nat.le_of_ble_eq_true rfl) (q_iload_n rfl rfl ?_)))))))
      refine v_if_ne_f (t := 26) rfl rfl (by decide) (q_aload_n rfl rfl (v_gi (z := 0) (v := 0) rfl rfl rfl (Nat.le_of_ble_eq_true rfl) rfl rfl (up_e rfl) (v_if_ne_f (t := 26) rfl rfl (by decide) (q_aload_n rfl rfl (q_iload_n rfl rfl (v_pi (z := 0) rfl rfl rfl (Nat.le_of_ble_eq_true rfl) rfl rfl rfl (by decide) (q_aload_n rfl rfl ?_)))))))
      refine v_gr (t := 42) rfl rfl rfl (Nat.le_of_ble_eq_true rfl) rfl (q_iload_n rfl rfl (q_dup2 rfl ⟨rfl, rfl⟩ ?_))
      have h_29 := ir_42 hI 0
      refine v_ia (v := c 42 0) rfl rfl (by decide) (by decide) (by decide) ((up_c (nn rfl)).trans (up_c (nn rfl))) (q_iconst rfl (v_iadd (v := c 42 0 + 1) rfl rfl (v_nrm (fun y_30 hy_30 => (v_is rfl rfl (by decide) (by decide) (by decide) (q_aload_n rfl rfl (v_gi (z := 0) (v := 1) rfl rfl rfl (Nat.le_of_ble_eq_true rfl) rfl rfl ((up_c (nn rfl)).trans (up_e rfl)) (v_if_ne_t (t := 37) rfl rfl (by decide) ?_))))))))
      refine q_iconst rfl (v_zret rfl rfl (by decide) (bk_inl (v_zret rfl rfl (by decide) (bk_inl (v_if_ne_f (t := 19) rfl rfl (by decide) (q_iconst rfl (q_iret rfl rfl ?_)))))))
      have hI_31 := iw_41_0 (v := 0) hI ⟨by decide, by decide⟩
      have hI_32 := iw_41_0 (v := 1) hI_31 ⟨by decide, by decide⟩
      have hI_33 := iw_42 (j := 0) (v := y_30) hI_32 ⟨hy_30.1, hy_30.2⟩
      exact K (up (up (up c 41 0 0) 41 0 1) 42 0 y_30) 0 hI_33 (fun a j hm => (up_b (Decidable.or_iff_not_imp_left.mpr (fun h1 h2 => hm (Or.inr (Or.inl (Decidable.not_not.mp h1)))))).trans ((up_b (Decidable.or_iff_not_imp_left.mpr (fun h1 h2 => hm (Or.inl ⟨Decidable.not_not.mp h1, h2⟩)))).trans (up_b (Decidable.or_iff_not_imp_left.mpr (fun h1 h2 => hm (Or.inl ⟨Decidable.not_not.mp h1, h2⟩)))))) ⟨by decide, by decide⟩
    · refine v_ic_gt_f (t := 14) rfl rfl ⟨ha1.1, (Int.not_lt.mp h_28), by first | exact rgm_h h_21.2 (by decide) | omega⟩ (q_iconst rfl (q_goto (t := 15) rfl rfl (v_zret rfl rfl (by decide) (bk_inl (q_iconst rfl (q_iconst rfl (v_cv rfl rfl rfl rfl (Nat.le_of_ble_eq_true rfl) ⟨⟨rfl, rfl⟩, Nat.le_of_ble_eq_true rfl, rfl⟩ (Nat.le_of_ble_eq_true rfl) (Nat.le_of_ble_eq_true rfl) ?_)))))))
      refine q_iload_n rfl rfl (v_if_ne_t (t := 26) rfl rfl (by decide) (q_aload_n rfl rfl (v_gi (z := 0) (v := 0) rfl rfl rfl (Nat.le_of_ble_eq_true rfl) rfl rfl (up_e rfl) (v_if_ne_f (t := 37) rfl rfl (by decide) (q_iconst rfl (q_goto (t := 38) rfl rfl (v_zret rfl rfl (by decide) ?_)))))))
      refine bk_inl (v_zret rfl rfl (by decide) (bk_inl (v_if_ne_t (t := 19) rfl rfl (by decide) (q_aload_n rfl rfl ?_))))
      have hI_34 := iw_41_0 (v := 0) hI ⟨by decide, by decide⟩
      refine v_cv rfl rfl rfl rfl (Nat.le_of_ble_eq_true rfl) ⟨⟨rfl, rfl⟩, Nat.le_of_ble_eq_true rfl, rfl⟩ (Nat.le_of_ble_eq_true rfl) (Nat.le_of_ble_eq_true rfl) (s_186 hI_34 (fun c_35 hI_36 hF_37 => (bk_inl (q_iconst rfl (q_istore_n rfl (Nat.le_of_ble_eq_true rfl) (q_iconst rfl (q_istore_n rfl (Nat.le_of_ble_eq_true rfl) (Wp_ls [(0, .ref 41), (1, vi a1), (2, vi 0), (3, vi 0)] (lsub_cons rfl (lsub_cons rfl (lsub_cons rfl (lsub_cons rfl lsub_nil)))) ?_))))))))
      exact (s_247_l (sc := sc) (d := d) hI ha1 K 16) c_35 0 0 hI_36 (fun a j hm => (hF_37 a j (fun h => hm (Or.inr (Or.inr h)))).trans (up_b (Decidable.or_iff_not_imp_left.mpr (fun h1 h2 => hm (Or.inl ⟨Decidable.not_not.mp h1, h2⟩))))) ⟨by decide, by decide⟩ ⟨by decide, by decide⟩ ⟨by first | exact q_720657ba9 h_22 | omega, by first | exact q_1b5e4f74b h_21 h_28 | omega⟩ (by omega)

set_option maxRecDepth 100000 in
set_option maxHeartbeats 4000000 in
theorem s_248_l {sc : List Int32} {e : Int} {d u P Q : Nat} {c : ME} {a1 : Int} {a2 : Int} {Z : AR → Prop} (hI : Iv u e P Q c) (ha1 : (-2147483648) ≤ a1 ∧ a1 ≤ 2147483647) (ha2 : (-2147483648) ≤ a2 ∧ a2 ≤ 2147483647) (K : ∀ (c2 : ME) (y : Int), Iv u e P Q c2 → (∀ (a : Nat) (j : Int), ¬ ((a = 41 ∧ j = 0) ∨ a = 42) → c2 a j = c a j) → (-2147483648) ≤ y ∧ y ≤ 2147483647 → Z (.inl (some (vi y)), Wd P Q P P c2, 0, 0)) : ∀ n : Nat, (∀ (c2 : ME) (v3 : Int) (v4 : Int) (v5 : Int), Iv u e P Q c2 → (∀ (a : Nat) (j : Int), ¬ ((a = 41 ∧ j = 0) ∨ a = 42) → c2 a j = c a j) → (-2147483648) ≤ v3 ∧ v3 ≤ 2147483647 → (-1) ≤ v4 ∧ v4 ≤ 5 → 0 ≤ v5 ∧ v5 ≤ 6 → ((a1 ≥ 0 ∧ a1 ≤ 3)) → 13 - 2 * v5 < (n : Int) → Wp sc (d + 8) 248 47 [(0, .ref 41), (1, vi a1), (2, vi a2), (3, vi v3), (4, vi v4), (5, vi v5)] [] (Wd P Q P P c2) 0 0 Z)
  | 0 => by intro c2 v3 v4 v5 hI2 hF hv3 hv4 hv5 hx0 hm9; have hP := iv_P hI; have hQ := iv_Q hI; exfalso; omega
  | n + 1 => by
    have hP := iv_P hI
    have hQ := iv_Q hI
    have ih := s_248_l (sc := sc) (d := d) hI ha1 ha2 K n
    intro c2 v3 v4 v5 hI2 hF hv3 hv4 hv5 hx0 hm9
    refine q_iload rfl rfl (q_aload_n rfl rfl ?_)
    have h_1 := ir_41_20 hI
    have kn_2 : Hid (c2 41 20 = c 41 20) := hF 41 20 (fun q => q.elim (fun h => absurd h.2 (ni rfl)) (fun h => absurd h (nn rfl)))
    refine v_gi (z := 20) (v := c 41 20) rfl rfl rfl (Nat.le_of_ble_eq_true rfl) rfl rfl (hid kn_2) ?_
    by_cases h_3 : v5 ≥ c 41 20
    · refine v_ic_ge_t (t := 110) rfl rfl ⟨by first | exact q_730ab5169 h_1 | omega, h_3, (Int.le_trans hv5.2 (by decide))⟩ (q_iload_n rfl rfl ?_)
      by_cases h_4 : a2 ≠ 0
      · refine v_if_ne_t (t := 118) rfl rfl ⟨h_4, ⟨ha2.1, ha2.2⟩, by decide, by decide⟩ (q_iload rfl rfl (q_iret rfl rfl ?_))
        exact K c2 v4 hI2 (fun a j hm => hF a j (fun q => q.elim (fun h => hm (Or.inl h)) (fun h => hm (Or.inr h)))) ⟨(Int.le_trans (by decide) hv4.1), (Int.le_trans hv4.2 (by decide))⟩
      · refine v_if_ne_f (t := 118) rfl rfl (Decidable.not_not.mp h_4) (q_iload_n rfl rfl (q_goto (t := 120) rfl rfl (q_iret rfl rfl ?_)))
        exact K c2 v3 hI2 (fun a j hm => hF a j (fun q => q.elim (fun h => hm (Or.inl h)) (fun h => hm (Or.inr h)))) hv3
    · refine v_ic_ge_f (t := 110) rfl rfl ⟨(Int.le_trans (by decide) hv5.1), (Int.not_le.mp h_3), by first | exact q_b289b7db2 h_1 | omega⟩ (q_aload_n rfl rfl (v_gr (t := 58) rfl rfl rfl (Nat.le_of_ble_eq_true rfl) rfl (q_iconst rfl (q_iload rfl rfl (v_imul (v := 4 * v5) rfl rfl (q_iload_n rfl rfl (v_iadd (v := a1 + 4 * v5) rfl (by omega) ?_)))))))
      have h_5 := ir_58_g hI (j := a1 + 4 * v5) (by omega)
      have kn_6 : Hid (c2 58 (a1 + 4 * v5) = c 58 (a1 + 4 * v5)) := hF 58 (a1 + 4 * v5) (fun q => q.elim (fun h => absurd h.1 (nn rfl)) (fun h => absurd h (nn rfl)))
      refine v_ia (v := c 58 (a1 + 4 * v5)) rfl rfl (by decide) (by decide) (by omega) (hid kn_6) (q_istore rfl (Nat.le_of_ble_eq_true rfl) (q_iload_n rfl rfl (q_iload rfl rfl (v_iadd (v := c 58 (a1 + 4 * v5) + v3) rfl (by omega) (v_nrm (fun y_7 hy_7 => (q_istore_n rfl (Nat.le_of_ble_eq_true rfl) (q_iload rfl rfl ?_))))))))
      refine q_iload rfl rfl (q_iconst rfl ?_)
      by_cases h_8 : v4 ≠ (-1)
      · refine v_ic_ne_t (t := 86) rfl rfl ⟨h_8, ⟨(Int.le_trans (by decide) hv4.1), (Int.le_trans hv4.2 (by decide))⟩, by decide, by decide⟩ (q_aload_n rfl rfl (v_gr (t := 58) rfl rfl rfl (Nat.le_of_ble_eq_true rfl) rfl (q_iconst rfl (q_iload rfl rfl (v_imul (v := 4 * v4) rfl rfl (q_iload_n rfl rfl (v_iadd (v := a1 + 4 * v4) rfl (by first | (clear ha1 ha2 hv3 hv4 hv5 hx0 h_1 h_3 h_5 h_8; omega) | omega) ?_)))))))
        have h_9 := ir_58_g hI (j := a1 + 4 * v4) (by first | (clear ha1 ha2 hv3 hv5 h_1 h_3 h_5 h_8; omega) | omega)
        have kn_10 : Hid (c2 58 (a1 + 4 * v4) = c 58 (a1 + 4 * v4)) := hF 58 (a1 + 4 * v4) (fun q => q.elim (fun h => absurd h.1 (nn rfl)) (fun h => absurd h (nn rfl)))
        refine v_ia (v := c 58 (a1 + 4 * v4)) rfl rfl (by decide) (by decide) ⟨by omega, by first | (clear ha1 ha2 hv3 hv5 h_1 h_3 h_5 h_9 h_8; omega) | omega⟩ (hid kn_10) ?_
        by_cases h_11 : c 58 (a1 + 4 * v5) ≤ c 58 (a1 + 4 * v4)
        · refine v_ic_le_t (t := 104) rfl rfl ⟨by first | exact q_c4d6b60d6 h_5 | (clear ha1 ha2 hv3 hv4 hv5 hx0 h_1 h_3 h_9 h_8; omega) | omega, h_11, by first | exact q_838dca997 h_9 | (clear ha1 ha2 hv3 hv4 hv5 hx0 h_1 h_3 h_5 h_8; omega) | omega⟩ (v_iinc (v := v5 + 1) rfl rfl (Nat.le_of_ble_eq_true rfl) rfl (q_goto (t := 47) rfl rfl (Wp_ls [(0, .ref 41), (1, vi a1), (2, vi a2), (3, vi y_7), (4, vi v4), (5, vi (v5 + 1))] (lsub_cons rfl (lsub_cons rfl (lsub_cons rfl (lsub_cons rfl (lsub_cons rfl (lsub_cons rfl lsub_nil)))))) ?_)))
          exact ih c2 y_7 v4 (v5 + 1) hI2 (fun a j hm => hF a j (fun q => q.elim (fun h => hm (Or.inl h)) (fun h => hm (Or.inr h)))) hy_7 hv4 ⟨by first | exact rgp_l hv5.1 (by decide) | omega, by first | exact q_4a76cd9c7 h_1 h_3 | (clear ha1 ha2 hv3 hv4 hv5 hx0 h_5 h_9 h_11 h_8; omega) | omega⟩ ⟨by first | (clear ha1 ha2 hv3 hv4 hv5 h_1 h_3 h_5 h_9 h_11 h_8; omega) | omega, by first | (clear ha1 ha2 hv3 hv4 hv5 h_1 h_3 h_5 h_9 h_11 h_8; omega) | omega⟩ (by omega)
        · refine v_ic_le_f (t := 104) rfl rfl ⟨by first | exact q_c4d6b60d6 h_9 | (clear ha1 ha2 hv3 hv4 hv5 hx0 h_1 h_3 h_5 h_8; omega) | omega, (Int.not_le.mp h_11), by first | exact q_838dca997 h_5 | (clear ha1 ha2 hv3 hv4 hv5 hx0 h_1 h_3 h_9 h_8; omega) | omega⟩ (q_iload rfl rfl (q_istore rfl (Nat.le_of_ble_eq_true rfl) (v_iinc (v := v5 + 1) rfl rfl (Nat.le_of_ble_eq_true rfl) rfl (q_goto (t := 47) rfl rfl (Wp_ls [(0, .ref 41), (1, vi a1), (2, vi a2), (3, vi y_7), (4, vi v5), (5, vi (v5 + 1))] (lsub_cons rfl (lsub_cons rfl (lsub_cons rfl (lsub_cons rfl (lsub_cons rfl (lsub_cons rfl lsub_nil)))))) ?_)))))
          exact ih c2 y_7 v5 (v5 + 1) hI2 (fun a j hm => hF a j (fun q => q.elim (fun h => hm (Or.inl h)) (fun h => hm (Or.inr h)))) hy_7 ⟨(Int.le_trans (by decide) hv5.1), by first | exact q_d63a8538e h_1 h_3 | (clear ha1 ha2 hv3 hv4 hv5 hx0 h_5 h_9 h_11 h_8; omega) | omega⟩ ⟨by first | exact rgp_l hv5.1 (by decide) | omega, by first | exact q_4a76cd9c7 h_1 h_3 | (clear ha1 ha2 hv3 hv4 hv5 hx0 h_5 h_9 h_11 h_8; omega) | omega⟩ ⟨by first | (clear ha1 ha2 hv3 hv4 hv5 h_1 h_3 h_5 h_9 h_11 h_8; omega) | omega, by first | (clear ha1 ha2 hv3 hv4 hv5 h_1 h_3 h_5 h_9 h_11 h_8; omega) | omega⟩ (by omega)
      · refine v_ic_ne_f (t := 86) rfl rfl (Decidable.not_not.mp h_8) (q_iconst rfl (q_goto (t := 97) rfl rfl ?_))
        by_cases h_12 : c 58 (a1 + 4 * v5) ≤ 0
        · refine v_ic_le_t (t := 104) rfl rfl ⟨by first | exact q_c4d6b60d6 h_5 | omega, h_12, by decide⟩ (v_iinc (v := v5 + 1) rfl rfl (Nat.le_of_ble_eq_true rfl) rfl (q_goto (t := 47) rfl rfl (Wp_ls [(0, .ref 41), (1, vi a1), (2, vi a2), (3, vi y_7), (4, vi v4), (5, vi (v5 + 1))] (lsub_cons rfl (lsub_cons rfl (lsub_cons rfl (lsub_cons rfl (lsub_cons rfl (lsub_cons rfl lsub_nil)))))) ?_)))
          exact ih c2 y_7 v4 (v5 + 1) hI2 (fun a j hm => hF a j (fun q => q.elim (fun h => hm (Or.inl h)) (fun h => hm (Or.inr h)))) hy_7 hv4 ⟨by first | exact rgp_l hv5.1 (by decide) | omega, by first | exact q_4a76cd9c7 h_1 h_3 | omega⟩ ⟨by omega, by omega⟩ (by omega)
        · refine v_ic_le_f (t := 104) rfl rfl ⟨by decide, (Int.not_le.mp h_12), by first | exact q_838dca997 h_5 | omega⟩ (q_iload rfl rfl (q_istore rfl (Nat.le_of_ble_eq_true rfl) (v_iinc (v := v5 + 1) rfl rfl (Nat.le_of_ble_eq_true rfl) rfl (q_goto (t := 47) rfl rfl (Wp_ls [(0, .ref 41), (1, vi a1), (2, vi a2), (3, vi y_7), (4, vi v5), (5, vi (v5 + 1))] (lsub_cons rfl (lsub_cons rfl (lsub_cons rfl (lsub_cons rfl (lsub_cons rfl (lsub_cons rfl lsub_nil)))))) ?_)))))
          exact ih c2 y_7 v5 (v5 + 1) hI2 (fun a j hm => hF a j (fun q => q.elim (fun h => hm (Or.inl h)) (fun h => hm (Or.inr h)))) hy_7 ⟨(Int.le_trans (by decide) hv5.1), by first | exact q_d63a8538e h_1 h_3 | omega⟩ ⟨by first | exact rgp_l hv5.1 (by decide) | omega, by first | exact q_4a76cd9c7 h_1 h_3 | omega⟩ ⟨by omega, by omega⟩ (by omega)
set_option maxRecDepth 100000 in
set_option maxHeartbeats 4000000 in
theorem s_248 {sc : List Int32} {e : Int} {d u P Q : Nat} {c : ME} {a1 : Int} {a2 : Int} {Z : AR → Prop} (hI : Iv u e P Q c) (ha1 : (-2147483648) ≤ a1 ∧ a1 ≤ 2147483647) (ha2 : (-2147483648) ≤ a2 ∧ a2 ≤ 2147483647) (K : ∀ (c2 : ME) (y : Int), Iv u e P Q c2 → (∀ (a : Nat) (j : Int), ¬ ((a = 41 ∧ j = 0) ∨ a = 42) → c2 a j = c a j) → (-2147483648) ≤ y ∧ y ≤ 2147483647 → Z (.inl (some (vi y)), Wd P Q P P c2, 0, 0)) : Wp sc (d + 8) 248 0 [(0, .ref 41), (1, vi a1), (2, vi a2)] [] (Wd P Q P P c) 0 0 Z := by
  have hP := iv_P hI
  have hQ := iv_Q hI
  refine q_aload_n rfl rfl (q_iconst rfl (v_pi (z := 0) rfl rfl rfl (Nat.le_of_ble_eq_true rfl) rfl rfl rfl (by decide) (q_aload_n rfl rfl (q_iload_n rfl rfl (q_iconst rfl (q_iconst rfl (q_call rfl rfl rfl rfl ?_)))))))
  refine q_iload_n rfl rfl (q_iload_n rfl rfl ?_)
  by_cases h_13 : a1 < 0
  · refine v_ic_lt_t (t := 14) rfl rfl ⟨ha1.1, h_13, by decide⟩ (q_iconst rfl (v_zret rfl rfl (by decide) (bk_inl (v_if_eq_t (t := 28) rfl rfl (by decide) (q_iconst rfl (q_iconst rfl (q_iconst rfl ?_)))))))
    refine v_cv rfl rfl rfl rfl (Nat.le_of_ble_eq_true rfl) ⟨⟨rfl, rfl⟩, Nat.le_of_ble_eq_true rfl, rfl⟩ (Nat.le_of_ble_eq_true rfl) (Nat.le_of_ble_eq_true rfl) (q_iload_n rfl rfl (v_if_ne_f (t := 26) rfl rfl (by decide) (q_aload_n rfl rfl (v_gi (z := 0) (v := 0) rfl rfl rfl (Nat.le_of_ble_eq_true rfl) rfl rfl (up_e rfl) (v_if_ne_f (t := 26) rfl rfl (by decide) (q_aload_n rfl rfl (q_iload_n rfl rfl ?_)))))))
    refine v_pi (z := 0) rfl rfl rfl (Nat.le_of_ble_eq_true rfl) rfl rfl rfl (by decide) (q_aload_n rfl rfl (v_gr (t := 42) rfl rfl rfl (Nat.le_of_ble_eq_true rfl) rfl (q_iload_n rfl rfl (q_dup2 rfl ⟨rfl, rfl⟩ ?_))))
    have h_14 := ir_42 hI 1
    refine v_ia (v := c 42 1) rfl rfl (by decide) (by decide) (by decide) ((up_c (nn rfl)).trans (up_c (nn rfl))) (q_iconst rfl (v_iadd (v := c 42 1 + 1) rfl rfl (v_nrm (fun y_15 hy_15 => (v_is rfl rfl (by decide) (by decide) (by decide) (q_aload_n rfl rfl (v_gi (z := 0) (v := 1) rfl rfl rfl (Nat.le_of_ble_eq_true rfl) rfl rfl ((up_c (nn rfl)).trans (up_e rfl)) (v_if_ne_t (t := 37) rfl rfl (by decide) ?_))))))))
    refine q_iconst rfl (v_zret rfl rfl (by decide) (bk_inl (v_if_ne_f (t := 39) rfl rfl (by decide) (q_iconst rfl (q_iret rfl rfl ?_)))))
    have hI_16 := iw_41_0 (v := 0) hI ⟨by decide, by decide⟩
    have hI_17 := iw_41_0 (v := 1) hI_16 ⟨by decide, by decide⟩
    have hI_18 := iw_42 (j := 1) (v := y_15) hI_17 ⟨hy_15.1, hy_15.2⟩
    exact K (up (up (up c 41 0 0) 41 0 1) 42 1 y_15) 0 hI_18 (fun a j hm => (up_b (Decidable.or_iff_not_imp_left.mpr (fun h1 h2 => hm (Or.inr (Decidable.not_not.mp h1))))).trans ((up_b (Decidable.or_iff_not_imp_left.mpr (fun h1 h2 => hm (Or.inl ⟨Decidable.not_not.mp h1, h2⟩)))).trans (up_b (Decidable.or_iff_not_imp_left.mpr (fun h1 h2 => hm (Or.inl ⟨Decidable.not_not.mp h1, h2⟩)))))) ⟨by decide, by decide⟩
  · refine v_ic_lt_f (t := 14) rfl rfl ⟨by decide, (Int.not_lt.mp h_13), ha1.2⟩ (q_iload_n rfl rfl (q_iload_n rfl rfl ?_))
    by_cases h_19 : a1 > 3
    · refine v_ic_gt_t (t := 14) rfl rfl ⟨by decide, h_19, ha1.2⟩ (q_iconst rfl (v_zret rfl rfl (by decide) (bk_inl (v_if_eq_t (t := 28) rfl rfl (by decide) (q_iconst rfl (q_iconst rfl (q_iconst rfl ?_)))))))
      refine v_cv rfl rfl rfl rfl (Nat.le_of_ble_eq_true rfl) ⟨⟨rfl, rfl⟩, Nat.le_of_ble_eq_true rfl, rfl⟩ (Nat.le_of_ble_eq_true rfl) (Nat.le_of_ble_eq_true rfl) (q_iload_n rfl rfl (v_if_ne_f (t := 26) rfl rfl (by decide) (q_aload_n rfl rfl (v_gi (z := 0) (v := 0) rfl rfl rfl (Nat.le_of_ble_eq_true rfl) rfl rfl (up_e rfl) (v_if_ne_f (t := 26) rfl rfl (by decide) (q_aload_n rfl rfl (q_iload_n rfl rfl ?_)))))))
      refine v_pi (z := 0) rfl rfl rfl (Nat.le_of_ble_eq_true rfl) rfl rfl rfl (by decide) (q_aload_n rfl rfl (v_gr (t := 42) rfl rfl rfl (Nat.le_of_ble_eq_true rfl) rfl (q_iload_n rfl rfl (q_dup2 rfl ⟨rfl, rfl⟩ ?_))))
      have h_20 := ir_42 hI 1
      refine v_ia (v := c 42 1) rfl rfl (by decide) (by decide) (by decide) ((up_c (nn rfl)).trans (up_c (nn rfl))) (q_iconst rfl (v_iadd (v := c 42 1 + 1) rfl rfl (v_nrm (fun y_21 hy_21 => (v_is rfl rfl (by decide) (by decide) (by decide) (q_aload_n rfl rfl (v_gi (z := 0) (v := 1) rfl rfl rfl (Nat.le_of_ble_eq_true rfl) rfl rfl ((up_c (nn rfl)).trans (up_e rfl)) (v_if_ne_t (t := 37) rfl rfl (by decide) ?_))))))))
      refine q_iconst rfl (v_zret rfl rfl (by decide) (bk_inl (v_if_ne_f (t := 39) rfl rfl (by decide) (q_iconst rfl (q_iret rfl rfl ?_)))))
      have hI_22 := iw_41_0 (v := 0) hI ⟨by decide, by decide⟩
      have hI_23 := iw_41_0 (v := 1) hI_22 ⟨by decide, by decide⟩
      have hI_24 := iw_42 (j := 1) (v := y_21) hI_23 ⟨hy_21.1, hy_21.2⟩
      exact K (up (up (up c 41 0 0) 41 0 1) 42 1 y_21) 0 hI_24 (fun a j hm => (up_b (Decidable.or_iff_not_imp_left.mpr (fun h1 h2 => hm (Or.inr (Decidable.not_not.mp h1))))).trans ((up_b (Decidable.or_iff_not_imp_left.mpr (fun h1 h2 => hm (Or.inl ⟨Decidable.not_not.mp h1, h2⟩)))).trans (up_b (Decidable.or_iff_not_imp_left.mpr (fun h1 h2 => hm (Or.inl ⟨Decidable.not_not.mp h1, h2⟩)))))) ⟨by decide, by decide⟩
    · refine v_ic_gt_f (t := 14) rfl rfl ⟨ha1.1, (Int.not_lt.mp h_19), by decide⟩ (q_iconst rfl (q_goto (t := 15) rfl rfl (v_zret rfl rfl (by decide) (bk_inl (v_if_eq_f (t := 28) rfl rfl (by decide) (q_iload_n rfl rfl (q_iconst rfl ?_)))))))
      refine q_iconst rfl (q_call rfl rfl rfl rfl (q_iload_n rfl rfl (q_iload_n rfl rfl ?_)))
      by_cases h_25 : a2 < 0
      · refine v_ic_lt_t (t := 14) rfl rfl ⟨ha2.1, h_25, by decide⟩ (q_iconst rfl (v_zret rfl rfl (by decide) (bk_inl (v_if_eq_t (t := 28) rfl rfl (by decide) (q_iconst rfl (q_iconst rfl (q_iconst rfl ?_)))))))
        refine v_cv rfl rfl rfl rfl (Nat.le_of_ble_eq_true rfl) ⟨⟨rfl, rfl⟩, Nat.le_of_ble_eq_true rfl, rfl⟩ (Nat.le_of_ble_eq_true rfl) (Nat.le_of_ble_eq_true rfl) (q_iload_n rfl rfl (v_if_ne_f (t := 26) rfl rfl (by decide) (q_aload_n rfl rfl (v_gi (z := 0) (v := 0) rfl rfl rfl (Nat.le_of_ble_eq_true rfl) rfl rfl (up_e rfl) (v_if_ne_f (t := 26) rfl rfl (by decide) (q_aload_n rfl rfl (q_iload_n rfl rfl ?_)))))))
        refine v_pi (z := 0) rfl rfl rfl (Nat.le_of_ble_eq_true rfl) rfl rfl rfl (by decide) (q_aload_n rfl rfl (v_gr (t := 42) rfl rfl rfl (Nat.le_of_ble_eq_true rfl) rfl (q_iload_n rfl rfl (q_dup2 rfl ⟨rfl, rfl⟩ ?_))))
        have h_26 := ir_42 hI 1
        refine v_ia (v := c 42 1) rfl rfl (by decide) (by decide) (by decide) ((up_c (nn rfl)).trans (up_c (nn rfl))) (q_iconst rfl (v_iadd (v := c 42 1 + 1) rfl rfl (v_nrm (fun y_27 hy_27 => (v_is rfl rfl (by decide) (by decide) (by decide) (q_aload_n rfl rfl (v_gi (z := 0) (v := 1) rfl rfl rfl (Nat.le_of_ble_eq_true rfl) rfl rfl ((up_c (nn rfl)).trans (up_e rfl)) (v_if_ne_t (t := 37) rfl rfl (by decide) ?_))))))))
        refine q_iconst rfl (v_zret rfl rfl (by decide) (bk_inl (v_if_ne_f (t := 39) rfl rfl (by decide) (q_iconst rfl (q_iret rfl rfl ?_)))))
        have hI_28 := iw_41_0 (v := 0) hI ⟨by decide, by decide⟩
        have hI_29 := iw_41_0 (v := 1) hI_28 ⟨by decide, by decide⟩
        have hI_30 := iw_42 (j := 1) (v := y_27) hI_29 ⟨hy_27.1, hy_27.2⟩
        exact K (up (up (up c 41 0 0) 41 0 1) 42 1 y_27) 0 hI_30 (fun a j hm => (up_b (Decidable.or_iff_not_imp_left.mpr (fun h1 h2 => hm (Or.inr (Decidable.not_not.mp h1))))).trans ((up_b (Decidable.or_iff_not_imp_left.mpr (fun h1 h2 => hm (Or.inl ⟨Decidable.not_not.mp h1, h2⟩)))).trans (up_b (Decidable.or_iff_not_imp_left.mpr (fun h1 h2 => hm (Or.inl ⟨Decidable.not_not.mp h1, h2⟩)))))) ⟨by decide, by decide⟩
      · refine v_ic_lt_f (t := 14) rfl rfl ⟨by decide, (Int.not_lt.mp h_25), ha2.2⟩ (q_iload_n rfl rfl (q_iload_n rfl rfl ?_))
        by_cases h_31 : a2 > 1
        · refine v_ic_gt_t (t := 14) rfl rfl ⟨by decide, h_31, ha2.2⟩ (q_iconst rfl (v_zret rfl rfl (by decide) (bk_inl (v_if_eq_t (t := 28) rfl rfl (by decide) (q_iconst rfl (q_iconst rfl (q_iconst rfl ?_)))))))
          refine v_cv rfl rfl rfl rfl (Nat.le_of_ble_eq_true rfl) ⟨⟨rfl, rfl⟩, Nat.le_of_ble_eq_true rfl, rfl⟩ (Nat.le_of_ble_eq_true rfl) (Nat.le_of_ble_eq_true rfl) (q_iload_n rfl rfl (v_if_ne_f (t := 26) rfl rfl (by decide) (q_aload_n rfl rfl (v_gi (z := 0) (v := 0) rfl rfl rfl (Nat.le_of_ble_eq_true rfl) rfl rfl (up_e rfl) (v_if_ne_f (t := 26) rfl rfl (by decide) (q_aload_n rfl rfl (q_iload_n rfl rfl ?_)))))))
          refine v_pi (z := 0) rfl rfl rfl (Nat.le_of_ble_eq_true rfl) rfl rfl rfl (by decide) (q_aload_n rfl rfl (v_gr (t := 42) rfl rfl rfl (Nat.le_of_ble_eq_true rfl) rfl (q_iload_n rfl rfl (q_dup2 rfl ⟨rfl, rfl⟩ ?_))))
          have h_32 := ir_42 hI 1
          refine v_ia (v := c 42 1) rfl rfl (by decide) (by decide) (by decide) ((up_c (nn rfl)).trans (up_c (nn rfl))) (q_iconst rfl (v_iadd (v := c 42 1 + 1) rfl rfl (v_nrm (fun y_33 hy_33 => (v_is rfl rfl (by decide) (by decide) (by decide) (q_aload_n rfl rfl (v_gi (z := 0) (v := 1) rfl rfl rfl (Nat.le_of_ble_eq_true rfl) rfl rfl ((up_c (nn rfl)).trans (up_e rfl)) (v_if_ne_t (t := 37) rfl rfl (by decide) ?_))))))))
          refine q_iconst rfl (v_zret rfl rfl (by decide) (bk_inl (v_if_ne_f (t := 39) rfl rfl (by decide) (q_iconst rfl (q_iret rfl rfl ?_)))))
          have hI_34 := iw_41_0 (v := 0) hI ⟨by decide, by decide⟩
          have hI_35 := iw_41_0 (v := 1) hI_34 ⟨by decide, by decide⟩
          have hI_36 := iw_42 (j := 1) (v := y_33) hI_35 ⟨hy_33.1, hy_33.2⟩
          exact K (up (up (up c 41 0 0) 41 0 1) 42 1 y_33) 0 hI_36 (fun a j hm => (up_b (Decidable.or_iff_not_imp_left.mpr (fun h1 h2 => hm (Or.inr (Decidable.not_not.mp h1))))).trans ((up_b (Decidable.or_iff_not_imp_left.mpr (fun h1 h2 => hm (Or.inl ⟨Decidable.not_not.mp h1, h2⟩)))).trans (up_b (Decidable.or_iff_not_imp_left.mpr (fun h1 h2 => hm (Or.inl ⟨Decidable.not_not.mp h1, h2⟩)))))) ⟨by decide, by decide⟩
        · refine v_ic_gt_f (t := 14) rfl rfl ⟨ha2.1, (Int.not_lt.mp h_31), by decide⟩ (q_iconst rfl (q_goto (t := 15) rfl rfl (v_zret rfl rfl (by decide) (bk_inl (v_if_eq_f (t := 28) rfl rfl (by decide) (q_iconst rfl (q_goto (t := 29) rfl rfl ?_)))))))
          refine q_iconst rfl (q_iconst rfl (v_cv rfl rfl rfl rfl (Nat.le_of_ble_eq_true rfl) ⟨⟨rfl, rfl⟩, Nat.le_of_ble_eq_true rfl, rfl⟩ (Nat.le_of_ble_eq_true rfl) (Nat.le_of_ble_eq_true rfl) (q_iload_n rfl rfl (v_if_ne_t (t := 26) rfl rfl (by decide) (q_aload_n rfl rfl (v_gi (z := 0) (v := 0) rfl rfl rfl (Nat.le_of_ble_eq_true rfl) rfl rfl (up_e rfl) (v_if_ne_f (t := 37) rfl rfl (by decide) ?_)))))))
          refine q_iconst rfl (q_goto (t := 38) rfl rfl (v_zret rfl rfl (by decide) (bk_inl (v_if_ne_t (t := 39) rfl rfl (by decide) (q_iconst rfl (q_istore_n rfl (Nat.le_of_ble_eq_true rfl) (q_iconst rfl ?_)))))))
          refine q_istore rfl (Nat.le_of_ble_eq_true rfl) (q_iconst rfl (q_istore rfl (Nat.le_of_ble_eq_true rfl) ?_))
          have hI_37 := iw_41_0 (v := 0) hI ⟨by decide, by decide⟩
          refine Wp_ls [(0, .ref 41), (1, vi a1), (2, vi a2), (3, vi 0), (4, vi (-1)), (5, vi 0)] (lsub_cons rfl (lsub_cons rfl (lsub_cons rfl (lsub_cons rfl (lsub_cons rfl (lsub_cons rfl lsub_nil)))))) ?_
          exact (s_248_l (sc := sc) (d := d) hI ha1 ha2 K 16) (up c 41 0 0) 0 (-1) 0 hI_37 (fun a j hm => up_b (Decidable.or_iff_not_imp_left.mpr (fun h1 h2 => hm (Or.inl ⟨Decidable.not_not.mp h1, h2⟩)))) ⟨by decide, by decide⟩ ⟨by decide, by decide⟩ ⟨by decide, by decide⟩ ⟨by first | exact q_720657ba9 h_13 | omega, by first | exact q_eef7e887c h_19 | omega⟩ (by omega)

set_option maxRecDepth 100000 in
set_option maxHeartbeats 4000000 in
theorem s_249_l {sc : List Int32} {d P Q : Nat} {c : ME} {Z : AR → Prop} (hI : Iv 0 (-1) P Q c)  (K : ∀ (c2 : ME) (y : Int), Iv 0 (-1) P Q c2 → (∀ (a : Nat) (j : Int), ¬ ((a = 41 ∧ j = 0) ∨ a = 59 ∨ a = 54 ∨ a = 55) → c2 a j = c a j) → (-2147483648) ≤ y ∧ y ≤ 2147483647 → Z (.inl (some (vi y)), Wd P Q P P c2, 0, 0)) : ∀ n : Nat, (∀ (c2 : ME) (v1 : Int) (v2 : Int), Iv 0 (-1) P Q c2 → (∀ (a : Nat) (j : Int), ¬ ((a = 41 ∧ j = 0) ∨ a = 59 ∨ a = 54 ∨ a = 55) → c2 a j = c a j) → (-2147483648) ≤ v1 ∧ v1 ≤ 2147483647 → 0 ≤ v2 ∧ v2 ≤ 6 → 13 - 2 * v2 < (n : Int) → Wp sc (d + 13) 249 13 [(0, .ref 41), (1, vi v1), (2, vi v2)] [] (Wd P Q P P c2) 0 0 Z)
  | 0 => by intro c2 v1 v2 hI2 hF hv1 hv2 hm9; have hP := iv_P hI; have hQ := iv_Q hI; exfalso; omega
  | n + 1 => by
    have hP := iv_P hI
    have hQ := iv_Q hI
    have ih := s_249_l (sc := sc) (d := d) hI K n
    intro c2 v1 v2 hI2 hF hv1 hv2 hm9
    refine q_iload_n rfl rfl (q_aload_n rfl rfl ?_)
    have h_1 := ir_41_20 hI
    have kn_2 : Hid (c2 41 20 = c 41 20) := hF 41 20 (fun q => q.elim (fun h => absurd h.2 (ni rfl)) (fun q => q.elim (fun h => absurd h (nn rfl)) (fun q => q.elim (fun h => absurd h (nn rfl)) (fun h => absurd h (nn rfl)))))
    refine v_gi (z := 20) (v := c 41 20) rfl rfl rfl (Nat.le_of_ble_eq_true rfl) rfl rfl (hid kn_2) ?_
    by_cases h_3 : v2 ≥ c 41 20
    · refine v_ic_ge_t (t := 50) rfl rfl ⟨by first | exact q_730ab5169 h_1 | omega, h_3, (Int.le_trans hv2.2 (by decide))⟩ (q_iload_n rfl rfl (q_iret rfl rfl ?_))
      exact K c2 v1 hI2 (fun a j hm => hF a j (fun q => q.elim (fun h => hm (Or.inl h)) (fun q => q.elim (fun h => hm (Or.inr (Or.inl h))) (fun q => q.elim (fun h => hm (Or.inr (Or.inr (Or.inl h)))) (fun h => hm (Or.inr (Or.inr (Or.inr h)))))))) hv1
    · refine v_ic_ge_f (t := 50) rfl rfl ⟨(Int.le_trans (by decide) hv2.1), (Int.not_le.mp h_3), by first | exact q_b289b7db2 h_1 | omega⟩ (q_iload_n rfl rfl (q_aload_n rfl rfl (q_iload_n rfl rfl (v_cv rfl rfl rfl rfl (Nat.le_of_ble_eq_true rfl) ⟨⟨rfl, rfl⟩, Nat.le_of_ble_eq_true rfl, rfl⟩ (Nat.le_of_ble_eq_true rfl) (Nat.le_of_ble_eq_true rfl) (s_197 (a1 := v2) hI2 (show 0 ≤ v2 ∧ v2 ≤ 5 from ⟨hv2.1, by first | exact q_d63a8538e h_1 h_3 | omega⟩) (fun c_4 y_7 hI_5 hF_6 hy_7 => (bk_inl ?_)))))))
      by_cases h_8 : y_7 = 0
      · refine v_if_eq_t (t := 41) rfl rfl h_8 (q_iconst rfl (v_iadd (v := v1) rfl (by omega) (q_istore_n rfl (Nat.le_of_ble_eq_true rfl) (v_iinc (v := v2 + 1) rfl rfl (Nat.le_of_ble_eq_true rfl) rfl (q_goto (t := 13) rfl rfl (Wp_ls [(0, .ref 41), (1, vi v1), (2, vi (v2 + 1))] (lsub_cons rfl (lsub_cons rfl (lsub_cons rfl lsub_nil))) ?_))))))
        exact ih c_4 v1 (v2 + 1) hI_5 (fun a j hm => (hF_6 a j (fun q => q.elim (fun h => hm (Or.inr (Or.inr (Or.inl h)))) (fun h => hm (Or.inr (Or.inr (Or.inr h)))))).trans (hF a j (fun q => q.elim (fun h => hm (Or.inl h)) (fun q => q.elim (fun h => hm (Or.inr (Or.inl h))) (fun q => q.elim (fun h => hm (Or.inr (Or.inr (Or.inl h)))) (fun h => hm (Or.inr (Or.inr (Or.inr h))))))))) hv1 ⟨by first | exact rgp_l hv2.1 (by decide) | omega, by first | exact q_4a76cd9c7 h_1 h_3 | omega⟩ (by omega)
      · refine v_if_eq_f (t := 41) rfl rfl ⟨h_8, ⟨(Int.le_trans (by decide) hy_7.1), (Int.le_trans hy_7.2 (by decide))⟩, by decide, by decide⟩ (q_aload_n rfl rfl (q_iload_n rfl rfl ?_))
        have h_9 := ir_59_g hI2 (j := 4 * v2) (by first | exact q_aa51b186e h_1 h_3 | (clear hv1 hv2 h_8; omega) | omega)
        have kn_10 : Hid (c_4 59 (4 * v2) = c2 59 (4 * v2)) := hF_6 59 (4 * v2) (fun q => q.elim (fun h => absurd h (nn rfl)) (fun h => absurd h (nn rfl)))
        have h_11 := ir_59_g hI2 (j := 4 * v2 + 1) (by first | exact q_57851f9de h_1 h_3 | (clear hv1 hv2 h_9 h_8; omega) | omega)
        have kn_12 : Hid (c_4 59 (4 * v2 + 1) = c2 59 (4 * v2 + 1)) := hF_6 59 (4 * v2 + 1) (fun q => q.elim (fun h => absurd h (nn rfl)) (fun h => absurd h (nn rfl)))
        have h_13 := ir_59_g hI2 (j := 4 * v2 + 2) (by first | exact q_7296e74e6 h_1 h_3 | (clear hv1 hv2 h_9 h_11 h_8; omega) | omega)
        have kn_14 : Hid (c_4 59 (4 * v2 + 2) = c2 59 (4 * v2 + 2)) := hF_6 59 (4 * v2 + 2) (fun q => q.elim (fun h => absurd h (nn rfl)) (fun h => absurd h (nn rfl)))
        have h_15 := ir_59_g hI2 (j := 4 * v2 + 3) (by first | exact q_b15525c4c h_1 h_3 | (clear hv1 hv2 h_9 h_11 h_13 h_8; omega) | omega)
        have kn_16 : Hid (c_4 59 (4 * v2 + 3) = c2 59 (4 * v2 + 3)) := hF_6 59 (4 * v2 + 3) (fun q => q.elim (fun h => absurd h (nn rfl)) (fun h => absurd h (nn rfl)))
        refine v_cv rfl rfl rfl rfl (Nat.le_of_ble_eq_true rfl) ⟨⟨rfl, rfl⟩, Nat.le_of_ble_eq_true rfl, rfl⟩ (Nat.le_of_ble_eq_true rfl) (Nat.le_of_ble_eq_true rfl) (s_187 (v1 := c2 59 (4 * v2)) (v2 := c2 59 (4 * v2 + 1)) (v3 := c2 59 (4 * v2 + 2)) (v4 := c2 59 (4 * v2 + 3)) (r := c2 59 (4 * v2 + 1) + c2 59 (4 * v2 + 2) + c2 59 (4 * v2 + 3) + c2 59 (4 * v2)) (a1 := v2) hI_5 (show 0 ≤ v2 ∧ v2 ≤ 5 from ⟨hv2.1, by first | exact q_d63a8538e h_1 h_3 | (clear hv1 hv2 h_8; omega) | omega⟩) ((hid kn_10)) ((hid kn_12)) ((hid kn_14)) ((hid kn_16)) (by omega) (bk_inl (v_bip rfl (by decide) (v_idiv (v := ((c2 59 (4 * v2 + 1) + c2 59 (4 * v2 + 2) + c2 59 (4 * v2 + 3) + c2 59 (4 * v2)) / 10)) rfl (by omega) rfl (q_goto (t := 42) rfl rfl (v_iadd (v := ((c2 59 (4 * v2 + 1) + c2 59 (4 * v2 + 2) + c2 59 (4 * v2 + 3) + c2 59 (4 * v2)) / 10) + v1) rfl (by first | (clear hv1 hv2 h_1 h_3 h_9 h_11 h_13 h_15 h_8; omega) | omega) (v_nrm (fun y_17 hy_17 => (q_istore_n rfl (Nat.le_of_ble_eq_true rfl) ?_)))))))))
        refine v_iinc (v := v2 + 1) rfl rfl (Nat.le_of_ble_eq_true rfl) rfl (q_goto (t := 13) rfl rfl (Wp_ls [(0, .ref 41), (1, vi y_17), (2, vi (v2 + 1))] (lsub_cons rfl (lsub_cons rfl (lsub_cons rfl lsub_nil))) ?_))
        exact ih c_4 y_17 (v2 + 1) hI_5 (fun a j hm => (hF_6 a j (fun q => q.elim (fun h => hm (Or.inr (Or.inr (Or.inl h)))) (fun h => hm (Or.inr (Or.inr (Or.inr h)))))).trans (hF a j (fun q => q.elim (fun h => hm (Or.inl h)) (fun q => q.elim (fun h => hm (Or.inr (Or.inl h))) (fun q => q.elim (fun h => hm (Or.inr (Or.inr (Or.inl h)))) (fun h => hm (Or.inr (Or.inr (Or.inr h))))))))) hy_17 ⟨by first | exact rgp_l hv2.1 (by decide) | omega, by first | exact q_4a76cd9c7 h_1 h_3 | (clear hv1 hv2 h_9 h_11 h_13 h_15 h_8; omega) | omega⟩ (by omega)
set_option maxRecDepth 100000 in
set_option maxHeartbeats 4000000 in
theorem s_249 {sc : List Int32} {d P Q : Nat} {c : ME} {Z : AR → Prop} (hI : Iv 0 (-1) P Q c)  (K : ∀ (c2 : ME) (y : Int), Iv 0 (-1) P Q c2 → (∀ (a : Nat) (j : Int), ¬ ((a = 41 ∧ j = 0) ∨ a = 59 ∨ a = 54 ∨ a = 55) → c2 a j = c a j) → (-2147483648) ≤ y ∧ y ≤ 2147483647 → Z (.inl (some (vi y)), Wd P Q P P c2, 0, 0)) : Wp sc (d + 13) 249 0 [(0, .ref 41)] [] (Wd P Q P P c) 0 0 Z := by
  have hP := iv_P hI
  have hQ := iv_Q hI
  refine q_aload_n rfl rfl (q_iconst rfl (v_pi (z := 0) rfl rfl rfl (Nat.le_of_ble_eq_true rfl) rfl rfl rfl (by decide) (q_aload_n rfl rfl ?_)))
  have hI_18 := iw_41_0 (v := 0) hI ⟨by decide, by decide⟩
  refine v_cv rfl rfl rfl rfl (Nat.le_of_ble_eq_true rfl) ⟨⟨rfl, rfl⟩, Nat.le_of_ble_eq_true rfl, rfl⟩ (Nat.le_of_ble_eq_true rfl) (Nat.le_of_ble_eq_true rfl) (s_186 hI_18 (fun c_19 hI_20 hF_21 => (bk_inl (q_iconst rfl (q_istore_n rfl (Nat.le_of_ble_eq_true rfl) (q_iconst rfl (q_istore_n rfl (Nat.le_of_ble_eq_true rfl) (Wp_ls [(0, .ref 41), (1, vi 0), (2, vi 0)] (lsub_cons rfl (lsub_cons rfl (lsub_cons rfl lsub_nil))) ?_))))))))
  exact (s_249_l (sc := sc) (d := d) hI K 16) c_19 0 0 hI_20 (fun a j hm => (hF_21 a j (fun h => hm (Or.inr (Or.inl h)))).trans (up_b (Decidable.or_iff_not_imp_left.mpr (fun h1 h2 => hm (Or.inl ⟨Decidable.not_not.mp h1, h2⟩))))) ⟨by decide, by decide⟩ ⟨by decide, by decide⟩ (by omega)

set_option maxRecDepth 100000 in
set_option maxHeartbeats 4000000 in
theorem s_250_l {sc : List Int32} {d P Q : Nat} {c : ME} {a1 : Int} {Z : AR → Prop} (hI : Iv 0 (-1) P Q c) (ha1 : (-2147483648) ≤ a1 ∧ a1 ≤ 2147483647) (K : ∀ (c2 : ME) (y : Int), Iv 0 (-1) P Q c2 → (∀ (a : Nat) (j : Int), ¬ ((a = 41 ∧ j = 0) ∨ a = 42 ∨ a = 59) → c2 a j = c a j) → (-2147483648) ≤ y ∧ y ≤ 2147483647 → Z (.inl (some (vi y)), Wd P Q P P c2, 0, 0)) : ∀ n : Nat, (∀ (c2 : ME) (v2 : Int) (v3 : Int), Iv 0 (-1) P Q c2 → (∀ (a : Nat) (j : Int), ¬ ((a = 41 ∧ j = 0) ∨ a = 42 ∨ a = 59) → c2 a j = c a j) → (-1) ≤ v2 ∧ v2 ≤ 5 → 0 ≤ v3 ∧ v3 ≤ 6 → ((a1 ≥ 0 ∧ a1 ≤ 5)) → 13 - 2 * v3 < (n : Int) → Wp sc (d + 9) 250 27 [(0, .ref 41), (1, vi a1), (2, vi v2), (3, vi v3)] [] (Wd P Q P P c2) 0 0 Z)
  | 0 => by intro c2 v2 v3 hI2 hF hv2 hv3 hx0 hm9; have hP := iv_P hI; have hQ := iv_Q hI; exfalso; omega
  | n + 1 => by
    have hP := iv_P hI
    have hQ := iv_Q hI
    have ih := s_250_l (sc := sc) (d := d) hI ha1 K n
    intro c2 v2 v3 hI2 hF hv2 hv3 hx0 hm9
    refine q_iload_n rfl rfl (q_aload_n rfl rfl ?_)
    have h_1 := ir_41_20 hI
    have kn_2 : Hid (c2 41 20 = c 41 20) := hF 41 20 (fun q => q.elim (fun h => absurd h.2 (ni rfl)) (fun q => q.elim (fun h => absurd h (nn rfl)) (fun h => absurd h (nn rfl))))
    refine v_gi (z := 20) (v := c 41 20) rfl rfl rfl (Nat.le_of_ble_eq_true rfl) rfl rfl (hid kn_2) ?_
    by_cases h_3 : v3 ≥ c 41 20
    · refine v_ic_ge_t (t := 92) rfl rfl ⟨by first | exact q_730ab5169 h_1 | omega, h_3, (Int.le_trans hv3.2 (by decide))⟩ (q_iload_n rfl rfl (q_iret rfl rfl ?_))
      exact K c2 v2 hI2 (fun a j hm => hF a j (fun q => q.elim (fun h => hm (Or.inl h)) (fun q => q.elim (fun h => hm (Or.inr (Or.inl h))) (fun h => hm (Or.inr (Or.inr h)))))) ⟨(Int.le_trans (by decide) hv2.1), (Int.le_trans hv2.2 (by decide))⟩
    · refine v_ic_ge_f (t := 92) rfl rfl ⟨(Int.le_trans (by decide) hv3.1), (Int.not_le.mp h_3), by first | exact q_b289b7db2 h_1 | omega⟩ (q_iload_n rfl rfl (q_iload_n rfl rfl ?_))
      by_cases h_4 : v3 = a1
      · refine v_ic_eq_t (t := 86) rfl rfl h_4 (v_iinc (v := v3 + 1) rfl rfl (Nat.le_of_ble_eq_true rfl) rfl (q_goto (t := 27) rfl rfl (Wp_ls [(0, .ref 41), (1, vi a1), (2, vi v2), (3, vi (v3 + 1))] (lsub_cons rfl (lsub_cons rfl (lsub_cons rfl (lsub_cons rfl lsub_nil)))) ?_)))
        exact ih c2 v2 (v3 + 1) hI2 (fun a j hm => hF a j (fun q => q.elim (fun h => hm (Or.inl h)) (fun q => q.elim (fun h => hm (Or.inr (Or.inl h))) (fun h => hm (Or.inr (Or.inr h)))))) hv2 ⟨by first | exact rgp_l hv3.1 (by decide) | omega, by first | exact q_4a76cd9c7 h_1 h_3 | omega⟩ ⟨by omega, by omega⟩ (by omega)
      · refine v_ic_eq_f (t := 86) rfl rfl ⟨h_4, ⟨(Int.le_trans (by decide) hv3.1), (Int.le_trans hv3.2 (by decide))⟩, ha1.1, ha1.2⟩ (q_aload_n rfl rfl (q_iload_n rfl rfl ?_))
        have h_5 := ir_59_g hI2 (j := 4 * v3) (by first | exact q_aa51b186e h_1 h_3 | (clear ha1 hv2 hv3 hx0 h_4; omega) | omega)
        have h_6 := ir_59_g hI2 (j := 4 * v3 + 1) (by first | exact q_57851f9de h_1 h_3 | (clear ha1 hv2 hv3 hx0 h_5 h_4; omega) | omega)
        have h_7 := ir_59_g hI2 (j := 4 * v3 + 2) (by first | exact q_7296e74e6 h_1 h_3 | (clear ha1 hv2 hv3 hx0 h_5 h_6 h_4; omega) | omega)
        have h_8 := ir_59_g hI2 (j := 4 * v3 + 3) (by first | exact q_b15525c4c h_1 h_3 | (clear ha1 hv2 hv3 hx0 h_5 h_6 h_7 h_4; omega) | omega)
        refine v_cv rfl rfl rfl rfl (Nat.le_of_ble_eq_true rfl) ⟨⟨rfl, rfl⟩, Nat.le_of_ble_eq_true rfl, rfl⟩ (Nat.le_of_ble_eq_true rfl) (Nat.le_of_ble_eq_true rfl) (s_187 (v1 := c2 59 (4 * v3)) (v2 := c2 59 (4 * v3 + 1)) (v3 := c2 59 (4 * v3 + 2)) (v4 := c2 59 (4 * v3 + 3)) (r := c2 59 (4 * v3 + 1) + c2 59 (4 * v3 + 2) + c2 59 (4 * v3 + 3) + c2 59 (4 * v3)) (a1 := v3) hI2 (show 0 ≤ v3 ∧ v3 ≤ 5 from ⟨hv3.1, by first | exact q_d63a8538e h_1 h_3 | (clear ha1 hv2 hv3 hx0 h_4; omega) | omega⟩) (rfl) (rfl) (rfl) (rfl) (by omega) (bk_inl ?_))
        by_cases h_9 : c2 59 (4 * v3 + 1) + c2 59 (4 * v3 + 2) + c2 59 (4 * v3 + 3) + c2 59 (4 * v3) ≤ 0
        · refine v_if_le_t (t := 86) rfl rfl ⟨by first | exact q_e052ef40e h_5 h_6 h_7 h_8 | (clear ha1 hv2 hv3 hx0 h_1 h_3 h_4; omega) | omega, h_9, by decide⟩ (v_iinc (v := v3 + 1) rfl rfl (Nat.le_of_ble_eq_true rfl) rfl (q_goto (t := 27) rfl rfl (Wp_ls [(0, .ref 41), (1, vi a1), (2, vi v2), (3, vi (v3 + 1))] (lsub_cons rfl (lsub_cons rfl (lsub_cons rfl (lsub_cons rfl lsub_nil)))) ?_)))
          exact ih c2 v2 (v3 + 1) hI2 (fun a j hm => hF a j (fun q => q.elim (fun h => hm (Or.inl h)) (fun q => q.elim (fun h => hm (Or.inr (Or.inl h))) (fun h => hm (Or.inr (Or.inr h)))))) hv2 ⟨by first | exact rgp_l hv3.1 (by decide) | omega, by first | exact q_4a76cd9c7 h_1 h_3 | (clear ha1 hv2 hv3 hx0 h_5 h_6 h_7 h_8 h_9 h_4; omega) | omega⟩ ⟨by first | (clear ha1 hv2 hv3 h_1 h_3 h_5 h_6 h_7 h_8 h_9 h_4; omega) | omega, by first | (clear ha1 hv2 hv3 h_1 h_3 h_5 h_6 h_7 h_8 h_9 h_4; omega) | omega⟩ (by omega)
        · refine v_if_le_f (t := 86) rfl rfl ⟨by decide, (Int.not_le.mp h_9), by first | exact q_db9ef1f4a h_5 h_6 h_7 h_8 | (clear ha1 hv2 hv3 hx0 h_1 h_3 h_4; omega) | omega⟩ (q_iload_n rfl rfl (q_iconst rfl ?_))
          by_cases h_10 : v2 = (-1)
          · refine v_ic_eq_t (t := 84) rfl rfl h_10 (q_iload_n rfl rfl (q_istore_n rfl (Nat.le_of_ble_eq_true rfl) (v_iinc (v := v3 + 1) rfl rfl (Nat.le_of_ble_eq_true rfl) rfl (q_goto (t := 27) rfl rfl (Wp_ls [(0, .ref 41), (1, vi a1), (2, vi v3), (3, vi (v3 + 1))] (lsub_cons rfl (lsub_cons rfl (lsub_cons rfl (lsub_cons rfl lsub_nil)))) ?_)))))
            exact ih c2 v3 (v3 + 1) hI2 (fun a j hm => hF a j (fun q => q.elim (fun h => hm (Or.inl h)) (fun q => q.elim (fun h => hm (Or.inr (Or.inl h))) (fun h => hm (Or.inr (Or.inr h)))))) ⟨(Int.le_trans (by decide) hv3.1), by first | exact q_d63a8538e h_1 h_3 | (clear ha1 hv2 hv3 hx0 h_5 h_6 h_7 h_8 h_9 h_10 h_4; omega) | omega⟩ ⟨by first | exact rgp_l hv3.1 (by decide) | omega, by first | exact q_4a76cd9c7 h_1 h_3 | (clear ha1 hv2 hv3 hx0 h_5 h_6 h_7 h_8 h_9 h_10 h_4; omega) | omega⟩ ⟨by first | (clear ha1 hv2 hv3 h_1 h_3 h_5 h_6 h_7 h_8 h_9 h_10 h_4; omega) | omega, by first | (clear ha1 hv2 hv3 h_1 h_3 h_5 h_6 h_7 h_8 h_9 h_10 h_4; omega) | omega⟩ (by omega)
          · refine v_ic_eq_f (t := 84) rfl rfl ⟨h_10, ⟨(Int.le_trans (by decide) hv2.1), (Int.le_trans hv2.2 (by decide))⟩, by decide, by decide⟩ (q_aload_n rfl rfl (q_iload_n rfl rfl (v_cv rfl rfl rfl rfl (Nat.le_of_ble_eq_true rfl) ⟨⟨rfl, rfl⟩, Nat.le_of_ble_eq_true rfl, rfl⟩ (Nat.le_of_ble_eq_true rfl) (Nat.le_of_ble_eq_true rfl) (s_204 (a1 := v3) hI2 (show 0 ≤ v3 ∧ v3 ≤ 5 from ⟨hv3.1, by first | exact q_d63a8538e h_1 h_3 | (clear ha1 hv2 hv3 hx0 h_5 h_6 h_7 h_8 h_9 h_4 h_10; omega) | omega⟩) (fun y_11 hy_11 => (bk_inl (q_aload_n rfl rfl (q_iload_n rfl rfl (v_cv rfl rfl rfl rfl (Nat.le_of_ble_eq_true rfl) ⟨⟨rfl, rfl⟩, Nat.le_of_ble_eq_true rfl, rfl⟩ (Nat.le_of_ble_eq_true rfl) (Nat.le_of_ble_eq_true rfl) (s_204 (a1 := a1) hI2 (show 0 ≤ a1 ∧ a1 ≤ 5 from ⟨by first | (clear ha1 hv2 hv3 h_1 h_3 h_5 h_6 h_7 h_8 h_9 h_4 h_10; omega) | omega, by first | (clear ha1 hv2 hv3 h_1 h_3 h_5 h_6 h_7 h_8 h_9 h_4 h_10; omega) | omega⟩) (fun y_12 hy_12 => ?_)))))))))))
            refine bk_inl (v_isub (v := y_11 - y_12) rfl rfl (v_nrm (fun y_13 hy_13 => (q_call rfl rfl rfl rfl (q_iload_n rfl rfl ?_)))))
            by_cases h_14 : y_13 ≥ 0
            · refine v_if_ge_t (t := 9) rfl rfl ⟨by decide, h_14, hy_13.2⟩ (q_iload_n rfl rfl (q_iret rfl rfl (bk_inl (q_aload_n rfl rfl (q_iload_n rfl rfl (v_cv rfl rfl rfl rfl (Nat.le_of_ble_eq_true rfl) ⟨⟨rfl, rfl⟩, Nat.le_of_ble_eq_true rfl, rfl⟩ (Nat.le_of_ble_eq_true rfl) (Nat.le_of_ble_eq_true rfl) (s_204 (a1 := v2) hI2 (show 0 ≤ v2 ∧ v2 ≤ 5 from ⟨by first | exact q_a0327fb45 h_10 hv2 | (clear ha1 hv3 hx0 h_1 h_3 h_5 h_6 h_7 h_8 h_9 h_14 h_4; omega) | omega, hv2.2⟩) (fun y_15 hy_15 => (bk_inl ?_)))))))))
              refine q_aload_n rfl rfl (q_iload_n rfl rfl (v_cv rfl rfl rfl rfl (Nat.le_of_ble_eq_true rfl) ⟨⟨rfl, rfl⟩, Nat.le_of_ble_eq_true rfl, rfl⟩ (Nat.le_of_ble_eq_true rfl) (Nat.le_of_ble_eq_true rfl) (s_204 (a1 := a1) hI2 (show 0 ≤ a1 ∧ a1 ≤ 5 from ⟨by first | (clear ha1 hv2 hv3 h_1 h_3 h_5 h_6 h_7 h_8 h_9 h_14 h_4 h_10; omega) | omega, by first | (clear ha1 hv2 hv3 h_1 h_3 h_5 h_6 h_7 h_8 h_9 h_14 h_4 h_10; omega) | omega⟩) (fun y_16 hy_16 => (bk_inl (v_isub (v := y_15 - y_16) rfl rfl (v_nrm (fun y_17 hy_17 => (q_call rfl rfl rfl rfl (q_iload_n rfl rfl ?_))))))))))
              by_cases h_18 : y_17 ≥ 0
              · refine v_if_ge_t (t := 9) rfl rfl ⟨by decide, h_18, hy_17.2⟩ (q_iload_n rfl rfl (q_iret rfl rfl (bk_inl ?_)))
                by_cases h_19 : y_13 ≥ y_17
                · refine v_ic_ge_t (t := 86) rfl rfl ⟨hy_17.1, h_19, hy_13.2⟩ (v_iinc (v := v3 + 1) rfl rfl (Nat.le_of_ble_eq_true rfl) rfl (q_goto (t := 27) rfl rfl (Wp_ls [(0, .ref 41), (1, vi a1), (2, vi v2), (3, vi (v3 + 1))] (lsub_cons rfl (lsub_cons rfl (lsub_cons rfl (lsub_cons rfl lsub_nil)))) ?_)))
                  exact ih c2 v2 (v3 + 1) hI2 (fun a j hm => hF a j (fun q => q.elim (fun h => hm (Or.inl h)) (fun q => q.elim (fun h => hm (Or.inr (Or.inl h))) (fun h => hm (Or.inr (Or.inr h)))))) hv2 ⟨by first | exact rgp_l hv3.1 (by decide) | omega, by first | exact q_4a76cd9c7 h_1 h_3 | (clear ha1 hv2 hv3 hx0 h_5 h_6 h_7 h_8 h_9 h_14 h_18 h_19 h_4 h_10; omega) | omega⟩ ⟨by first | (clear ha1 hv2 hv3 h_1 h_3 h_5 h_6 h_7 h_8 h_9 h_14 h_18 h_19 h_4 h_10; omega) | omega, by first | (clear ha1 hv2 hv3 h_1 h_3 h_5 h_6 h_7 h_8 h_9 h_14 h_18 h_19 h_4 h_10; omega) | omega⟩ (by omega)
                · refine v_ic_ge_f (t := 86) rfl rfl ⟨hy_13.1, (Int.not_le.mp h_19), hy_17.2⟩ (q_iload_n rfl rfl (q_istore_n rfl (Nat.le_of_ble_eq_true rfl) (v_iinc (v := v3 + 1) rfl rfl (Nat.le_of_ble_eq_true rfl) rfl (q_goto (t := 27) rfl rfl (Wp_ls [(0, .ref 41), (1, vi a1), (2, vi v3), (3, vi (v3 + 1))] (lsub_cons rfl (lsub_cons rfl (lsub_cons rfl (lsub_cons rfl lsub_nil)))) ?_)))))
                  exact ih c2 v3 (v3 + 1) hI2 (fun a j hm => hF a j (fun q => q.elim (fun h => hm (Or.inl h)) (fun q => q.elim (fun h => hm (Or.inr (Or.inl h))) (fun h => hm (Or.inr (Or.inr h)))))) ⟨(Int.le_trans (by decide) hv3.1), by first | exact q_d63a8538e h_1 h_3 | (clear ha1 hv2 hv3 hx0 h_5 h_6 h_7 h_8 h_9 h_14 h_18 h_19 h_4 h_10; omega) | omega⟩ ⟨by first | exact rgp_l hv3.1 (by decide) | omega, by first | exact q_4a76cd9c7 h_1 h_3 | (clear ha1 hv2 hv3 hx0 h_5 h_6 h_7 h_8 h_9 h_14 h_18 h_19 h_4 h_10; omega) | omega⟩ ⟨by first | (clear ha1 hv2 hv3 h_1 h_3 h_5 h_6 h_7 h_8 h_9 h_14 h_18 h_19 h_4 h_10; omega) | omega, by first | (clear ha1 hv2 hv3 h_1 h_3 h_5 h_6 h_7 h_8 h_9 h_14 h_18 h_19 h_4 h_10; omega) | omega⟩ (by omega)
              · refine v_if_ge_f (t := 9) rfl rfl ⟨hy_17.1, (Int.not_le.mp h_18), by decide⟩ (q_iload_n rfl rfl (v_ineg (v := 0 - y_17) rfl (by omega) (v_nrm (fun y_20 hy_20 => (q_goto (t := 10) rfl rfl (q_iret rfl rfl (bk_inl ?_)))))))
                by_cases h_21 : y_13 ≥ y_20
                · refine v_ic_ge_t (t := 86) rfl rfl ⟨hy_20.1, h_21, hy_13.2⟩ (v_iinc (v := v3 + 1) rfl rfl (Nat.le_of_ble_eq_true rfl) rfl (q_goto (t := 27) rfl rfl (Wp_ls [(0, .ref 41), (1, vi a1), (2, vi v2), (3, vi (v3 + 1))] (lsub_cons rfl (lsub_cons rfl (lsub_cons rfl (lsub_cons rfl lsub_nil)))) ?_)))
                  exact ih c2 v2 (v3 + 1) hI2 (fun a j hm => hF a j (fun q => q.elim (fun h => hm (Or.inl h)) (fun q => q.elim (fun h => hm (Or.inr (Or.inl h))) (fun h => hm (Or.inr (Or.inr h)))))) hv2 ⟨by first | exact rgp_l hv3.1 (by decide) | omega, by first | exact q_4a76cd9c7 h_1 h_3 | (clear ha1 hv2 hv3 hx0 h_5 h_6 h_7 h_8 h_9 h_14 h_18 h_21 h_4 h_10; omega) | omega⟩ ⟨by first | (clear ha1 hv2 hv3 h_1 h_3 h_5 h_6 h_7 h_8 h_9 h_14 h_18 h_21 h_4 h_10; omega) | omega, by first | (clear ha1 hv2 hv3 h_1 h_3 h_5 h_6 h_7 h_8 h_9 h_14 h_18 h_21 h_4 h_10; omega) | omega⟩ (by omega)
                · refine v_ic_ge_f (t := 86) rfl rfl ⟨hy_13.1, (Int.not_le.mp h_21), hy_20.2⟩ (q_iload_n rfl rfl (q_istore_n rfl (Nat.le_of_ble_eq_true rfl) (v_iinc (v := v3 + 1) rfl rfl (Nat.le_of_ble_eq_true rfl) rfl (q_goto (t := 27) rfl rfl (Wp_ls [(0, .ref 41), (1, vi a1), (2, vi v3), (3, vi (v3 + 1))] (lsub_cons rfl (lsub_cons rfl (lsub_cons rfl (lsub_cons rfl lsub_nil)))) ?_)))))
                  exact ih c2 v3 (v3 + 1) hI2 (fun a j hm => hF a j (fun q => q.elim (fun h => hm (Or.inl h)) (fun q => q.elim (fun h => hm (Or.inr (Or.inl h))) (fun h => hm (Or.inr (Or.inr h)))))) ⟨(Int.le_trans (by decide) hv3.1), by first | exact q_d63a8538e h_1 h_3 | (clear ha1 hv2 hv3 hx0 h_5 h_6 h_7 h_8 h_9 h_14 h_18 h_21 h_4 h_10; omega) | omega⟩ ⟨by first | exact rgp_l hv3.1 (by decide) | omega, by first | exact q_4a76cd9c7 h_1 h_3 | (clear ha1 hv2 hv3 hx0 h_5 h_6 h_7 h_8 h_9 h_14 h_18 h_21 h_4 h_10; omega) | omega⟩ ⟨by first | (clear ha1 hv2 hv3 h_1 h_3 h_5 h_6 h_7 h_8 h_9 h_14 h_18 h_21 h_4 h_10; omega) | omega, by first | (clear ha1 hv2 hv3 h_1 h_3 h_5 h_6 h_7 h_8 h_9 h_14 h_18 h_21 h_4 h_10; omega) | omega⟩ (by omega)
            · refine v_if_ge_f (t := 9) rfl rfl ⟨hy_13.1, (Int.not_le.mp h_14), by decide⟩ (q_iload_n rfl rfl (v_ineg (v := 0 - y_13) rfl (by omega) (v_nrm (fun y_22 hy_22 => (q_goto (t := 10) rfl rfl (q_iret rfl rfl (bk_inl (q_aload_n rfl rfl ?_))))))))
              refine q_iload_n rfl rfl (v_cv rfl rfl rfl rfl (Nat.le_of_ble_eq_true rfl) ⟨⟨rfl, rfl⟩, Nat.le_of_ble_eq_true rfl, rfl⟩ (Nat.le_of_ble_eq_true rfl) (Nat.le_of_ble_eq_true rfl) (s_204 (a1 := v2) hI2 (show 0 ≤ v2 ∧ v2 ≤ 5 from ⟨by first | exact q_a0327fb45 h_10 hv2 | (clear ha1 hv3 hx0 h_1 h_3 h_5 h_6 h_7 h_8 h_9 h_14 h_4; omega) | omega, hv2.2⟩) (fun y_23 hy_23 => (bk_inl (q_aload_n rfl rfl (q_iload_n rfl rfl (v_cv rfl rfl rfl rfl (Nat.le_of_ble_eq_true rfl) ⟨⟨rfl, rfl⟩, Nat.le_of_ble_eq_true rfl, rfl⟩ (Nat.le_of_ble_eq_true rfl) (Nat.le_of_ble_eq_true rfl) (s_204 (a1 := a1) hI2 (show 0 ≤ a1 ∧ a1 ≤ 5 from ⟨by first | (clear ha1 hv2 hv3 h_1 h_3 h_5 h_6 h_7 h_8 h_9 h_14 h_4 h_10; omega) | omega, by first | (clear ha1 hv2 hv3 h_1 h_3 h_5 h_6 h_7 h_8 h_9 h_14 h_4 h_10; omega) | omega⟩) (fun y_24 hy_24 => (bk_inl (v_isub (v := y_23 - y_24) rfl rfl ?_)))))))))))
              refine v_nrm (fun y_25 hy_25 => (q_call rfl rfl rfl rfl (q_iload_n rfl rfl ?_)))
              by_cases h_26 : y_25 ≥ 0
              · refine v_if_ge_t (t := 9) rfl rfl ⟨by decide, h_26, hy_25.2⟩ (q_iload_n rfl rfl (q_iret rfl rfl (bk_inl ?_)))
                by_cases h_27 : y_22 ≥ y_25
                · refine v_ic_ge_t (t := 86) rfl rfl ⟨hy_25.1, h_27, hy_22.2⟩ (v_iinc (v := v3 + 1) rfl rfl (Nat.le_of_ble_eq_true rfl) rfl (q_goto (t := 27) rfl rfl (Wp_ls [(0, .ref 41), (1, vi a1), (2, vi v2), (3, vi (v3 + 1))] (lsub_cons rfl (lsub_cons rfl (lsub_cons rfl (lsub_cons rfl lsub_nil)))) ?_)))
                  exact ih c2 v2 (v3 + 1) hI2 (fun a j hm => hF a j (fun q => q.elim (fun h => hm (Or.inl h)) (fun q => q.elim (fun h => hm (Or.inr (Or.inl h))) (fun h => hm (Or.inr (Or.inr h)))))) hv2 ⟨by first | exact rgp_l hv3.1 (by decide) | omega, by first | exact q_4a76cd9c7 h_1 h_3 | (clear ha1 hv2 hv3 hx0 h_5 h_6 h_7 h_8 h_9 h_14 h_26 h_27 h_4 h_10; omega) | omega⟩ ⟨by first | (clear ha1 hv2 hv3 h_1 h_3 h_5 h_6 h_7 h_8 h_9 h_14 h_26 h_27 h_4 h_10; omega) | omega, by first | (clear ha1 hv2 hv3 h_1 h_3 h_5 h_6 h_7 h_8 h_9 h_14 h_26 h_27 h_4 h_10; omega) | omega⟩ (by omega)
                · refine v_ic_ge_f (t := 86) rfl rfl ⟨hy_22.1, (Int.not_le.mp h_27), hy_25.2⟩ (q_iload_n rfl rfl (q_istore_n rfl (Nat.le_of_ble_eq_true rfl) (v_iinc (v := v3 + 1) rfl rfl (Nat.le_of_ble_eq_true rfl) rfl (q_goto (t := 27) rfl rfl (Wp_ls [(0, .ref 41), (1, vi a1), (2, vi v3), (3, vi (v3 + 1))] (lsub_cons rfl (lsub_cons rfl (lsub_cons rfl (lsub_cons rfl lsub_nil)))) ?_)))))
                  exact ih c2 v3 (v3 + 1) hI2 (fun a j hm => hF a j (fun q => q.elim (fun h => hm (Or.inl h)) (fun q => q.elim (fun h => hm (Or.inr (Or.inl h))) (fun h => hm (Or.inr (Or.inr h)))))) ⟨(Int.le_trans (by decide) hv3.1), by first | exact q_d63a8538e h_1 h_3 | (clear ha1 hv2 hv3 hx0 h_5 h_6 h_7 h_8 h_9 h_14 h_26 h_27 h_4 h_10; omega) | omega⟩ ⟨by first | exact rgp_l hv3.1 (by decide) | omega, by first | exact q_4a76cd9c7 h_1 h_3 | (clear ha1 hv2 hv3 hx0 h_5 h_6 h_7 h_8 h_9 h_14 h_26 h_27 h_4 h_10; omega) | omega⟩ ⟨by first | (clear ha1 hv2 hv3 h_1 h_3 h_5 h_6 h_7 h_8 h_9 h_14 h_26 h_27 h_4 h_10; omega) | omega, by first | (clear ha1 hv2 hv3 h_1 h_3 h_5 h_6 h_7 h_8 h_9 h_14 h_26 h_27 h_4 h_10; omega) | omega⟩ (by omega)
              · refine v_if_ge_f (t := 9) rfl rfl ⟨hy_25.1, (Int.not_le.mp h_26), by decide⟩ (q_iload_n rfl rfl (v_ineg (v := 0 - y_25) rfl (by omega) (v_nrm (fun y_28 hy_28 => (q_goto (t := 10) rfl rfl (q_iret rfl rfl (bk_inl ?_)))))))
                by_cases h_29 : y_22 ≥ y_28
                · refine v_ic_ge_t (t := 86) rfl rfl ⟨hy_28.1, h_29, hy_22.2⟩ (v_iinc (v := v3 + 1) rfl rfl (Nat.le_of_ble_eq_true rfl) rfl (q_goto (t := 27) rfl rfl (Wp_ls [(0, .ref 41), (1, vi a1), (2, vi v2), (3, vi (v3 + 1))] (lsub_cons rfl (lsub_cons rfl (lsub_cons rfl (lsub_cons rfl lsub_nil)))) ?_)))
                  exact ih c2 v2 (v3 + 1) hI2 (fun a j hm => hF a j (fun q => q.elim (fun h => hm (Or.inl h)) (fun q => q.elim (fun h => hm (Or.inr (Or.inl h))) (fun h => hm (Or.inr (Or.inr h)))))) hv2 ⟨by first | exact rgp_l hv3.1 (by decide) | omega, by first | exact q_4a76cd9c7 h_1 h_3 | (clear ha1 hv2 hv3 hx0 h_5 h_6 h_7 h_8 h_9 h_14 h_26 h_29 h_4 h_10; omega) | omega⟩ ⟨by first | (clear ha1 hv2 hv3 h_1 h_3 h_5 h_6 h_7 h_8 h_9 h_14 h_26 h_29 h_4 h_10; omega) | omega, by first | (clear ha1 hv2 hv3 h_1 h_3 h_5 h_6 h_7 h_8 h_9 h_14 h_26 h_29 h_4 h_10; omega) | omega⟩ (by omega)
                · refine v_ic_ge_f (t := 86) rfl rfl ⟨hy_22.1, (Int.not_le.mp h_29), hy_28.2⟩ (q_iload_n rfl rfl (q_istore_n rfl (Nat.le_of_ble_eq_true rfl) (v_iinc (v := v3 + 1) rfl rfl (Nat.le_of_ble_eq_true rfl) rfl (q_goto (t := 27) rfl rfl (Wp_ls [(0, .ref 41), (1, vi a1), (2, vi v3), (3, vi (v3 + 1))] (lsub_cons rfl (lsub_cons rfl (lsub_cons rfl (lsub_cons rfl lsub_nil)))) ?_)))))
                  exact ih c2 v3 (v3 + 1) hI2 (fun a j hm => hF a j (fun q => q.elim (fun h => hm (Or.inl h)) (fun q => q.elim (fun h => hm (Or.inr (Or.inl h))) (fun h => hm (Or.inr (Or.inr h)))))) ⟨(Int.le_trans (by decide) hv3.1), by first | exact q_d63a8538e h_1 h_3 | (clear ha1 hv2 hv3 hx0 h_5 h_6 h_7 h_8 h_9 h_14 h_26 h_29 h_4 h_10; omega) | omega⟩ ⟨by first | exact rgp_l hv3.1 (by decide) | omega, by first | exact q_4a76cd9c7 h_1 h_3 | (clear ha1 hv2 hv3 hx0 h_5 h_6 h_7 h_8 h_9 h_14 h_26 h_29 h_4 h_10; omega) | omega⟩ ⟨by first | (clear ha1 hv2 hv3 h_1 h_3 h_5 h_6 h_7 h_8 h_9 h_14 h_26 h_29 h_4 h_10; omega) | omega, by first | (clear ha1 hv2 hv3 h_1 h_3 h_5 h_6 h_7 h_8 h_9 h_14 h_26 h_29 h_4 h_10; omega) | omega⟩ (by omega)
set_option maxRecDepth 100000 in
set_option maxHeartbeats 4000000 in
theorem s_250 {sc : List Int32} {d P Q : Nat} {c : ME} {a1 : Int} {Z : AR → Prop} (hI : Iv 0 (-1) P Q c) (ha1 : (-2147483648) ≤ a1 ∧ a1 ≤ 2147483647) (K : ∀ (c2 : ME) (y : Int), Iv 0 (-1) P Q c2 → (∀ (a : Nat) (j : Int), ¬ ((a = 41 ∧ j = 0) ∨ a = 42 ∨ a = 59) → c2 a j = c a j) → (-2147483648) ≤ y ∧ y ≤ 2147483647 → Z (.inl (some (vi y)), Wd P Q P P c2, 0, 0)) : Wp sc (d + 9) 250 0 [(0, .ref 41), (1, vi a1)] [] (Wd P Q P P c) 0 0 Z := by
  have hP := iv_P hI
  have hQ := iv_Q hI
  refine q_aload_n rfl rfl (q_iconst rfl (v_pi (z := 0) rfl rfl rfl (Nat.le_of_ble_eq_true rfl) rfl rfl rfl (by decide) (q_aload_n rfl rfl (q_iload_n rfl rfl (q_aload_n rfl rfl ?_)))))
  have h_30 := ir_41_20 hI
  refine v_gi (z := 20) (v := c 41 20) rfl rfl rfl (Nat.le_of_ble_eq_true rfl) rfl rfl (up_n (by decide)) (v_cv rfl rfl rfl rfl (Nat.le_of_ble_eq_true rfl) ⟨⟨rfl, rfl⟩, Nat.le_of_ble_eq_true rfl, rfl⟩ (Nat.le_of_ble_eq_true rfl) (Nat.le_of_ble_eq_true rfl) (q_aload_n rfl rfl (q_iload_n rfl rfl (q_iconst rfl (q_iload_n rfl rfl (q_iconst rfl (v_isub (v := c 41 20 - 1) rfl rfl ?_)))))))
  refine q_call rfl rfl rfl rfl (q_iload_n rfl rfl (q_iload_n rfl rfl ?_))
  by_cases h_31 : a1 < 0
  · refine v_ic_lt_t (t := 14) rfl rfl ⟨ha1.1, h_31, by decide⟩ (q_iconst rfl (v_zret rfl rfl (by decide) (bk_inl (q_iconst rfl (q_iconst rfl (v_cv rfl rfl rfl rfl (Nat.le_of_ble_eq_true rfl) ⟨⟨rfl, rfl⟩, Nat.le_of_ble_eq_true rfl, rfl⟩ (Nat.le_of_ble_eq_true rfl) (Nat.le_of_ble_eq_true rfl) (q_iload_n rfl rfl ?_)))))))
    refine v_if_ne_f (t := 26) rfl rfl (by decide) (q_aload_n rfl rfl (v_gi (z := 0) (v := 0) rfl rfl rfl (Nat.le_of_ble_eq_true rfl) rfl rfl (up_e rfl) (v_if_ne_f (t := 26) rfl rfl (by decide) (q_aload_n rfl rfl (q_iload_n rfl rfl (v_pi (z := 0) rfl rfl rfl (Nat.le_of_ble_eq_true rfl) rfl rfl rfl (by decide) (q_aload_n rfl rfl ?_)))))))
    refine v_gr (t := 42) rfl rfl rfl (Nat.le_of_ble_eq_true rfl) rfl (q_iload_n rfl rfl (q_dup2 rfl ⟨rfl, rfl⟩ ?_))
    have h_32 := ir_42 hI 0
    refine v_ia (v := c 42 0) rfl rfl (by decide) (by decide) (by decide) ((up_c (nn rfl)).trans (up_c (nn rfl))) (q_iconst rfl (v_iadd (v := c 42 0 + 1) rfl rfl (v_nrm (fun y_33 hy_33 => (v_is rfl rfl (by decide) (by decide) (by decide) (q_aload_n rfl rfl (v_gi (z := 0) (v := 1) rfl rfl rfl (Nat.le_of_ble_eq_true rfl) rfl rfl ((up_c (nn rfl)).trans (up_e rfl)) (v_if_ne_t (t := 37) rfl rfl (by decide) ?_))))))))
    refine q_iconst rfl (v_zret rfl rfl (by decide) (bk_inl (v_zret rfl rfl (by decide) (bk_inl (v_if_ne_f (t := 19) rfl rfl (by decide) (q_iconst rfl (q_iret rfl rfl ?_)))))))
    have hI_34 := iw_41_0 (v := 0) hI ⟨by decide, by decide⟩
    have hI_35 := iw_41_0 (v := 1) hI_34 ⟨by decide, by decide⟩
    have hI_36 := iw_42 (j := 0) (v := y_33) hI_35 ⟨hy_33.1, hy_33.2⟩
    exact K (up (up (up c 41 0 0) 41 0 1) 42 0 y_33) 0 hI_36 (fun a j hm => (up_b (Decidable.or_iff_not_imp_left.mpr (fun h1 h2 => hm (Or.inr (Or.inl (Decidable.not_not.mp h1)))))).trans ((up_b (Decidable.or_iff_not_imp_left.mpr (fun h1 h2 => hm (Or.inl ⟨Decidable.not_not.mp h1, h2⟩)))).trans (up_b (Decidable.or_iff_not_imp_left.mpr (fun h1 h2 => hm (Or.inl ⟨Decidable.not_not.mp h1, h2⟩)))))) ⟨by decide, by decide⟩
  · refine v_ic_lt_f (t := 14) rfl rfl ⟨by decide, (Int.not_lt.mp h_31), ha1.2⟩ (q_iload_n rfl rfl (q_iload_n rfl rfl ?_))
    by_cases h_37 : a1 > c 41 20 - 1
    · refine v_ic_gt_t (t := 14) rfl rfl ⟨by first | exact rgm_l h_30.1 (by decide) | omega, h_37, ha1.2⟩ (q_iconst rfl (v_zret rfl rfl (by decide) (bk_inl (q_iconst rfl (q_iconst rfl (v_cv rfl rfl rfl rfl (Nat.le_of_ble_eq_true rfl) ⟨⟨rfl, rfl⟩, Nat.le_of_ble_eq_true rfl, rfl⟩ (Nat.le_of_ble_eq_true rfl) (Nat.le_of_ble_eq_true rfl) (q_iload_n rfl rfl ?_)))))))
      refine v_if_ne_f (t := 26) rfl rfl (by decide) (q_aload_n rfl rfl (v_gi (z := 0) (v := 0) rfl rfl rfl (Nat.le_of_ble_eq_true rfl) rfl rfl (up_e rfl) (v_if_ne_f (t := 26) rfl rfl (by decide) (q_aload_n rfl rfl (q_iload_n rfl rfl (v_pi (z := 0) rfl rfl rfl (Nat.le_of_ble_eq_true rfl) rfl rfl rfl (by decide) (q_aload_n rfl rfl ?_)))))))
      refine v_gr (t := 42) rfl rfl rfl (Nat.le_of_ble_eq_true rfl) rfl (q_iload_n rfl rfl (q_dup2 rfl ⟨rfl, rfl⟩ ?_))
      have h_38 := ir_42 hI 0
      refine v_ia (v := c 42 0) rfl rfl (by decide) (by decide) (by decide) ((up_c (nn rfl)).trans (up_c (nn rfl))) (q_iconst rfl (v_iadd (v := c 42 0 + 1) rfl rfl (v_nrm (fun y_39 hy_39 => (v_is rfl rfl (by decide) (by decide) (by decide) (q_aload_n rfl rfl (v_gi (z := 0) (v := 1) rfl rfl rfl (Nat.le_of_ble_eq_true rfl) rfl rfl ((up_c (nn rfl)).trans (up_e rfl)) (v_if_ne_t (t := 37) rfl rfl (by decide) ?_))))))))
      refine q_iconst rfl (v_zret rfl rfl (by decide) (bk_inl (v_zret rfl rfl (by decide) (bk_inl (v_if_ne_f (t := 19) rfl rfl (by decide) (q_iconst rfl (q_iret rfl rfl ?_)))))))
      have hI_40 := iw_41_0 (v := 0) hI ⟨by decide, by decide⟩
      have hI_41 := iw_41_0 (v := 1) hI_40 ⟨by decide, by decide⟩
      have hI_42 := iw_42 (j := 0) (v := y_39) hI_41 ⟨hy_39.1, hy_39.2⟩
      exact K (up (up (up c 41 0 0) 41 0 1) 42 0 y_39) 0 hI_42 (fun a j hm => (up_b (Decidable.or_iff_not_imp_left.mpr (fun h1 h2 => hm (Or.inr (Or.inl (Decidable.not_not.mp h1)))))).trans ((up_b (Decidable.or_iff_not_imp_left.mpr (fun h1 h2 => hm (Or.inl ⟨Decidable.not_not.mp h1, h2⟩)))).trans (up_b (Decidable.or_iff_not_imp_left.mpr (fun h1 h2 => hm (Or.inl ⟨Decidable.not_not.mp h1, h2⟩)))))) ⟨by decide, by decide⟩
    · refine v_ic_gt_f (t := 14) rfl rfl ⟨ha1.1, (Int.not_lt.mp h_37), by first | exact rgm_h h_30.2 (by decide) | omega⟩ (q_iconst rfl (q_goto (t := 15) rfl rfl (v_zret rfl rfl (by decide) (bk_inl (q_iconst rfl (q_iconst rfl (v_cv rfl rfl rfl rfl (Nat.le_of_ble_eq_true rfl) ⟨⟨rfl, rfl⟩, Nat.le_of_ble_eq_true rfl, rfl⟩ (Nat.le_of_ble_eq_true rfl) (Nat.le_of_ble_eq_true rfl) ?_)))))))
      refine q_iload_n rfl rfl (v_if_ne_t (t := 26) rfl rfl (by decide) (q_aload_n rfl rfl (v_gi (z := 0) (v := 0) rfl rfl rfl (Nat.le_of_ble_eq_true rfl) rfl rfl (up_e rfl) (v_if_ne_f (t := 37) rfl rfl (by decide) (q_iconst rfl (q_goto (t := 38) rfl rfl (v_zret rfl rfl (by decide) ?_)))))))
      refine bk_inl (v_zret rfl rfl (by decide) (bk_inl (v_if_ne_t (t := 19) rfl rfl (by decide) (q_aload_n rfl rfl ?_))))
      have hI_43 := iw_41_0 (v := 0) hI ⟨by decide, by decide⟩
      refine v_cv rfl rfl rfl rfl (Nat.le_of_ble_eq_true rfl) ⟨⟨rfl, rfl⟩, Nat.le_of_ble_eq_true rfl, rfl⟩ (Nat.le_of_ble_eq_true rfl) (Nat.le_of_ble_eq_true rfl) (s_186 hI_43 (fun c_44 hI_45 hF_46 => (bk_inl (q_iconst rfl (q_istore_n rfl (Nat.le_of_ble_eq_true rfl) (q_iconst rfl (q_istore_n rfl (Nat.le_of_ble_eq_true rfl) (Wp_ls [(0, .ref 41), (1, vi a1), (2, vi (-1)), (3, vi 0)] (lsub_cons rfl (lsub_cons rfl (lsub_cons rfl (lsub_cons rfl lsub_nil)))) ?_))))))))
      exact (s_250_l (sc := sc) (d := d) hI ha1 K 16) c_44 (-1) 0 hI_45 (fun a j hm => (hF_46 a j (fun h => hm (Or.inr (Or.inr h)))).trans (up_b (Decidable.or_iff_not_imp_left.mpr (fun h1 h2 => hm (Or.inl ⟨Decidable.not_not.mp h1, h2⟩))))) ⟨by decide, by decide⟩ ⟨by decide, by decide⟩ ⟨by first | exact q_720657ba9 h_31 | omega, by first | exact q_3a2e67ab0 h_30 h_37 | omega⟩ (by omega)

set_option maxRecDepth 100000 in
set_option maxHeartbeats 4000000 in
theorem s_251_l {sc : List Int32} {d P Q : Nat} {c : ME} {a1 : Int} {a2 : Int} {Z : AR → Prop} (hI : Iv 0 (-1) P Q c) (ha1 : (-2147483648) ≤ a1 ∧ a1 ≤ 2147483647) (ha2 : (-2147483648) ≤ a2 ∧ a2 ≤ 2147483647) (K : ∀ (c2 : ME) (y : Int), Iv 0 (-1) P Q c2 → (∀ (a : Nat) (j : Int), ¬ ((a = 41 ∧ j = 0) ∨ a = 42 ∨ a = 59) → c2 a j = c a j) → (-2147483648) ≤ y ∧ y ≤ 2147483647 → Z (.inl (some (vi y)), Wd P Q P P c2, 0, 0)) : ∀ n : Nat, (∀ (c2 : ME) (v3 : Int) (v4 : Int), Iv 0 (-1) P Q c2 → (∀ (a : Nat) (j : Int), ¬ ((a = 41 ∧ j = 0) ∨ a = 42 ∨ a = 59) → c2 a j = c a j) → (-2147483648) ≤ v3 ∧ v3 ≤ 2147483647 → 0 ≤ v4 ∧ v4 ≤ 6 → ((a1 ≥ 0 ∧ a1 ≤ 3)) → 13 - 2 * v4 < (n : Int) → Wp sc (d + 9) 251 43 [(0, .ref 41), (1, vi a1), (2, vi a2), (3, vi v3), (4, vi v4)] [] (Wd P Q P P c2) 0 0 Z)
  | 0 => by intro c2 v3 v4 hI2 hF hv3 hv4 hx0 hm9; have hP := iv_P hI; have hQ := iv_Q hI; exfalso; omega
  | n + 1 => by
    have hP := iv_P hI
    have hQ := iv_Q hI
    have ih := s_251_l (sc := sc) (d := d) hI ha1 ha2 K n
    intro c2 v3 v4 hI2 hF hv3 hv4 hx0 hm9
    refine q_iload rfl rfl (q_aload_n rfl rfl ?_)
    have h_1 := ir_41_20 hI
    have kn_2 : Hid (c2 41 20 = c 41 20) := hF 41 20 (fun q => q.elim (fun h => absurd h.2 (ni rfl)) (fun q => q.elim (fun h => absurd h (nn rfl)) (fun h => absurd h (nn rfl))))
    refine v_gi (z := 20) (v := c 41 20) rfl rfl rfl (Nat.le_of_ble_eq_true rfl) rfl rfl (hid kn_2) ?_
    by_cases h_3 : v4 ≥ c 41 20
    · refine v_ic_ge_t (t := 68) rfl rfl ⟨by first | exact q_730ab5169 h_1 | omega, h_3, (Int.le_trans hv4.2 (by decide))⟩ (q_iload_n rfl rfl ?_)
      by_cases h_4 : a2 ≠ 0
      · refine v_if_ne_t (t := 76) rfl rfl ⟨h_4, ⟨ha2.1, ha2.2⟩, by decide, by decide⟩ (q_aload_n rfl rfl (v_cv rfl rfl rfl rfl (Nat.le_of_ble_eq_true rfl) ⟨⟨rfl, rfl⟩, Nat.le_of_ble_eq_true rfl, rfl⟩ (Nat.le_of_ble_eq_true rfl) (Nat.le_of_ble_eq_true rfl) (s_203 hI2 (fun y_5 hy_5 => (bk_inl (q_iload_n rfl rfl (v_isub (v := y_5 - v3) rfl rfl (v_nrm (fun y_6 hy_6 => (q_iret rfl rfl ?_))))))))))
        exact K c2 y_6 hI2 (fun a j hm => hF a j (fun q => q.elim (fun h => hm (Or.inl h)) (fun q => q.elim (fun h => hm (Or.inr (Or.inl h))) (fun h => hm (Or.inr (Or.inr h)))))) hy_6
      · refine v_if_ne_f (t := 76) rfl rfl (Decidable.not_not.mp h_4) (q_iload_n rfl rfl (q_goto (t := 82) rfl rfl (q_iret rfl rfl ?_)))
        exact K c2 v3 hI2 (fun a j hm => hF a j (fun q => q.elim (fun h => hm (Or.inl h)) (fun q => q.elim (fun h => hm (Or.inr (Or.inl h))) (fun h => hm (Or.inr (Or.inr h)))))) hv3
    · refine v_ic_ge_f (t := 68) rfl rfl ⟨(Int.le_trans (by decide) hv4.1), (Int.not_le.mp h_3), by first | exact q_b289b7db2 h_1 | omega⟩ (q_iload_n rfl rfl (q_aload_n rfl rfl (q_iload_n rfl rfl (q_iload rfl rfl ?_))))
      have h_7 := ir_49 hI a1
      have kn_8 : Hid (c2 49 a1 = c 49 a1) := hF 49 a1 (fun q => q.elim (fun h => absurd h.1 (nn rfl)) (fun q => q.elim (fun h => absurd h (nn rfl)) (fun h => absurd h (nn rfl))))
      have h_9 := ir_59 hI2 (a1 + 30)
      have h_10 := ir_59_g hI2 (j := 4 * v4) (by first | exact q_aa51b186e h_1 h_3 | omega)
      have h_11 := ir_59_g hI2 (j := 4 * v4 + 1) (by first | exact q_57851f9de h_1 h_3 | omega)
      have h_12 := ir_59_g hI2 (j := 4 * v4 + 2) (by first | exact q_7296e74e6 h_1 h_3 | omega)
      have h_13 := ir_59_g hI2 (j := 4 * v4 + 3) (by first | exact q_b15525c4c h_1 h_3 | omega)
      have h_14 := fal_rng (m := c 49 a1) (t := c2 59 (a1 + 30)) (g := 0) (x := c2 59 (4 * v4)) (by omega)
      have h_15 := fal_rng (m := c 49 a1) (t := c2 59 (a1 + 30)) (g := 1) (x := c2 59 (4 * v4 + 1)) (by omega)
      have h_16 := fal_rng (m := c 49 a1) (t := c2 59 (a1 + 30)) (g := 2) (x := c2 59 (4 * v4 + 2)) (by omega)
      have h_17 := fal_rng (m := c 49 a1) (t := c2 59 (a1 + 30)) (g := 3) (x := c2 59 (4 * v4 + 3)) (by omega)
      refine v_cv rfl rfl rfl rfl (Nat.le_of_ble_eq_true rfl) ⟨⟨rfl, rfl⟩, Nat.le_of_ble_eq_true rfl, rfl⟩ (Nat.le_of_ble_eq_true rfl) (Nat.le_of_ble_eq_true rfl) (s_190 (v1 := c 49 a1) (v2 := c2 59 (a1 + 30)) (v3 := c2 59 (4 * v4)) (v4 := c2 59 (4 * v4 + 1)) (v5 := c2 59 (4 * v4 + 2)) (v6 := c2 59 (4 * v4 + 3)) (r := (fal (c 49 a1) (c2 59 (a1 + 30)) 0 (c2 59 (4 * v4))) + (fal (c 49 a1) (c2 59 (a1 + 30)) 1 (c2 59 (4 * v4 + 1))) + (fal (c 49 a1) (c2 59 (a1 + 30)) 2 (c2 59 (4 * v4 + 2))) + (fal (c 49 a1) (c2 59 (a1 + 30)) 3 (c2 59 (4 * v4 + 3)))) (a1 := a1) (a2 := v4) hI2 (show 0 ≤ a1 ∧ a1 ≤ 3 from ⟨by omega, by omega⟩) (show 0 ≤ v4 ∧ v4 ≤ 5 from ⟨hv4.1, by first | exact q_d63a8538e h_1 h_3 | omega⟩) ((hid kn_8)) (rfl) (rfl) (rfl) (rfl) (rfl) rfl (bk_inl (v_iadd (v := (fal (c 49 a1) (c2 59 (a1 + 30)) 0 (c2 59 (4 * v4))) + (fal (c 49 a1) (c2 59 (a1 + 30)) 1 (c2 59 (4 * v4 + 1))) + (fal (c 49 a1) (c2 59 (a1 + 30)) 2 (c2 59 (4 * v4 + 2))) + (fal (c 49 a1) (c2 59 (a1 + 30)) 3 (c2 59 (4 * v4 + 3))) + v3) rfl (by first | (clear ha1 ha2 hv3 hv4 hx0 h_1 h_3 h_7 h_9 h_10 h_11 h_12 h_13 h_14 h_15 h_16 h_17; omega) | omega) (v_nrm (fun y_18 hy_18 => (q_istore_n rfl (Nat.le_of_ble_eq_true rfl) (v_iinc (v := v4 + 1) rfl rfl (Nat.le_of_ble_eq_true rfl) rfl (q_goto (t := 43) rfl rfl (Wp_ls [(0, .ref 41), (1, vi a1), (2, vi a2), (3, vi y_18), (4, vi (v4 + 1))] (lsub_cons rfl (lsub_cons rfl (lsub_cons rfl (lsub_cons rfl (lsub_cons rfl lsub_nil))))) ?_)))))))))
      exact ih c2 y_18 (v4 + 1) hI2 (fun a j hm => hF a j (fun q => q.elim (fun h => hm (Or.inl h)) (fun q => q.elim (fun h => hm (Or.inr (Or.inl h))) (fun h => hm (Or.inr (Or.inr h)))))) hy_18 ⟨by first | exact rgp_l hv4.1 (by decide) | omega, by first | exact q_4a76cd9c7 h_1 h_3 | (clear ha1 ha2 hv3 hv4 hx0 h_7 h_9 h_10 h_11 h_12 h_13 h_14 h_15 h_16 h_17; omega) | omega⟩ ⟨by first | (clear ha1 ha2 hv3 hv4 h_1 h_3 h_7 h_9 h_10 h_11 h_12 h_13 h_14 h_15 h_16 h_17; omega) | omega, by first | (clear ha1 ha2 hv3 hv4 h_1 h_3 h_7 h_9 h_10 h_11 h_12 h_13 h_14 h_15 h_16 h_17; omega) | omega⟩ (by omega)
set_option maxRecDepth 100000 in
set_option maxHeartbeats 4000000 in
theorem s_251 {sc : List Int32} {d P Q : Nat} {c : ME} {a1 : Int} {a2 : Int} {Z : AR → Prop} (hI : Iv 0 (-1) P Q c) (ha1 : (-2147483648) ≤ a1 ∧ a1 ≤ 2147483647) (ha2 : (-2147483648) ≤ a2 ∧ a2 ≤ 2147483647) (K : ∀ (c2 : ME) (y : Int), Iv 0 (-1) P Q c2 → (∀ (a : Nat) (j : Int), ¬ ((a = 41 ∧ j = 0) ∨ a = 42 ∨ a = 59) → c2 a j = c a j) → (-2147483648) ≤ y ∧ y ≤ 2147483647 → Z (.inl (some (vi y)), Wd P Q P P c2, 0, 0)) : Wp sc (d + 9) 251 0 [(0, .ref 41), (1, vi a1), (2, vi a2)] [] (Wd P Q P P c) 0 0 Z := by
  have hP := iv_P hI
  have hQ := iv_Q hI
  refine q_aload_n rfl rfl (q_iconst rfl (v_pi (z := 0) rfl rfl rfl (Nat.le_of_ble_eq_true rfl) rfl rfl rfl (by decide) (q_aload_n rfl rfl (q_iload_n rfl rfl (q_aload_n rfl rfl ?_)))))
  have h_19 := ir_41_22 hI
  refine v_gi (z := 22) (v := c 41 22) rfl rfl rfl (Nat.le_of_ble_eq_true rfl) rfl rfl (up_n (by decide)) (v_cv rfl rfl rfl rfl (Nat.le_of_ble_eq_true rfl) ⟨⟨rfl, rfl⟩, Nat.le_of_ble_eq_true rfl, rfl⟩ (Nat.le_of_ble_eq_true rfl) (Nat.le_of_ble_eq_true rfl) (q_aload_n rfl rfl (q_iload_n rfl rfl (q_iconst rfl (q_iload_n rfl rfl (q_iconst rfl (v_isub (v := c 41 22 - 1) rfl rfl ?_)))))))
  refine q_call rfl rfl rfl rfl (q_iload_n rfl rfl (q_iload_n rfl rfl ?_))
  by_cases h_20 : a1 < 0
  · refine v_ic_lt_t (t := 14) rfl rfl ⟨ha1.1, h_20, by decide⟩ (q_iconst rfl (v_zret rfl rfl (by decide) (bk_inl (q_iconst rfl (q_iconst rfl (v_cv rfl rfl rfl rfl (Nat.le_of_ble_eq_true rfl) ⟨⟨rfl, rfl⟩, Nat.le_of_ble_eq_true rfl, rfl⟩ (Nat.le_of_ble_eq_true rfl) (Nat.le_of_ble_eq_true rfl) (q_iload_n rfl rfl ?_)))))))
    refine v_if_ne_f (t := 26) rfl rfl (by decide) (q_aload_n rfl rfl (v_gi (z := 0) (v := 0) rfl rfl rfl (Nat.le_of_ble_eq_true rfl) rfl rfl (up_e rfl) (v_if_ne_f (t := 26) rfl rfl (by decide) (q_aload_n rfl rfl (q_iload_n rfl rfl (v_pi (z := 0) rfl rfl rfl (Nat.le_of_ble_eq_true rfl) rfl rfl rfl (by decide) (q_aload_n rfl rfl ?_)))))))
    refine v_gr (t := 42) rfl rfl rfl (Nat.le_of_ble_eq_true rfl) rfl (q_iload_n rfl rfl (q_dup2 rfl ⟨rfl, rfl⟩ ?_))
    have h_21 := ir_42 hI 0
    refine v_ia (v := c 42 0) rfl rfl (by decide) (by decide) (by decide) ((up_c (nn rfl)).trans (up_c (nn rfl))) (q_iconst rfl (v_iadd (v := c 42 0 + 1) rfl rfl (v_nrm (fun y_22 hy_22 => (v_is rfl rfl (by decide) (by decide) (by decide) (q_aload_n rfl rfl (v_gi (z := 0) (v := 1) rfl rfl rfl (Nat.le_of_ble_eq_true rfl) rfl rfl ((up_c (nn rfl)).trans (up_e rfl)) (v_if_ne_t (t := 37) rfl rfl (by decide) ?_))))))))
    refine q_iconst rfl (v_zret rfl rfl (by decide) (bk_inl (v_zret rfl rfl (by decide) (bk_inl (v_if_eq_t (t := 32) rfl rfl (by decide) (q_iconst rfl (q_iret rfl rfl ?_)))))))
    have hI_23 := iw_41_0 (v := 0) hI ⟨by decide, by decide⟩
    have hI_24 := iw_41_0 (v := 1) hI_23 ⟨by decide, by decide⟩
    have hI_25 := iw_42 (j := 0) (v := y_22) hI_24 ⟨hy_22.1, hy_22.2⟩
    exact K (up (up (up c 41 0 0) 41 0 1) 42 0 y_22) 0 hI_25 (fun a j hm => (up_b (Decidable.or_iff_not_imp_left.mpr (fun h1 h2 => hm (Or.inr (Or.inl (Decidable.not_not.mp h1)))))).trans ((up_b (Decidable.or_iff_not_imp_left.mpr (fun h1 h2 => hm (Or.inl ⟨Decidable.not_not.mp h1, h2⟩)))).trans (up_b (Decidable.or_iff_not_imp_left.mpr (fun h1 h2 => hm (Or.inl ⟨Decidable.not_not.mp h1, h2⟩)))))) ⟨by decide, by decide⟩
  · refine v_ic_lt_f (t := 14) rfl rfl ⟨by decide, (Int.not_lt.mp h_20), ha1.2⟩ (q_iload_n rfl rfl (q_iload_n rfl rfl ?_))
    by_cases h_26 : a1 > c 41 22 - 1
    · refine v_ic_gt_t (t := 14) rfl rfl ⟨by first | exact rgm_l h_19.1 (by decide) | omega, h_26, ha1.2⟩ (q_iconst rfl (v_zret rfl rfl (by decide) (bk_inl (q_iconst rfl (q_iconst rfl (v_cv rfl rfl rfl rfl (Nat.le_of_ble_eq_true rfl) ⟨⟨rfl, rfl⟩, Nat.le_of_ble_eq_true rfl, rfl⟩ (Nat.le_of_ble_eq_true rfl) (Nat.le_of_ble_eq_true rfl) (q_iload_n rfl rfl ?_)))))))
      refine v_if_ne_f (t := 26) rfl rfl (by decide) (q_aload_n rfl rfl (v_gi (z := 0) (v := 0) rfl rfl rfl (Nat.le_of_ble_eq_true rfl) rfl rfl (up_e rfl) (v_if_ne_f (t := 26) rfl rfl (by decide) (q_aload_n rfl rfl (q_iload_n rfl rfl (v_pi (z := 0) rfl rfl rfl (Nat.le_of_ble_eq_true rfl) rfl rfl rfl (by decide) (q_aload_n rfl rfl ?_)))))))
      refine v_gr (t := 42) rfl rfl rfl (Nat.le_of_ble_eq_true rfl) rfl (q_iload_n rfl rfl (q_dup2 rfl ⟨rfl, rfl⟩ ?_))
      have h_27 := ir_42 hI 0
      refine v_ia (v := c 42 0) rfl rfl (by decide) (by decide) (by decide) ((up_c (nn rfl)).trans (up_c (nn rfl))) (q_iconst rfl (v_iadd (v := c 42 0 + 1) rfl rfl (v_nrm (fun y_28 hy_28 => (v_is rfl rfl (by decide) (by decide) (by decide) (q_aload_n rfl rfl (v_gi (z := 0) (v := 1) rfl rfl rfl (Nat.le_of_ble_eq_true rfl) rfl rfl ((up_c (nn rfl)).trans (up_e rfl)) (v_if_ne_t (t := 37) rfl rfl (by decide) ?_))))))))
      refine q_iconst rfl (v_zret rfl rfl (by decide) (bk_inl (v_zret rfl rfl (by decide) (bk_inl (v_if_eq_t (t := 32) rfl rfl (by decide) (q_iconst rfl (q_iret rfl rfl ?_)))))))
      have hI_29 := iw_41_0 (v := 0) hI ⟨by decide, by decide⟩
      have hI_30 := iw_41_0 (v := 1) hI_29 ⟨by decide, by decide⟩
      have hI_31 := iw_42 (j := 0) (v := y_28) hI_30 ⟨hy_28.1, hy_28.2⟩
      exact K (up (up (up c 41 0 0) 41 0 1) 42 0 y_28) 0 hI_31 (fun a j hm => (up_b (Decidable.or_iff_not_imp_left.mpr (fun h1 h2 => hm (Or.inr (Or.inl (Decidable.not_not.mp h1)))))).trans ((up_b (Decidable.or_iff_not_imp_left.mpr (fun h1 h2 => hm (Or.inl ⟨Decidable.not_not.mp h1, h2⟩)))).trans (up_b (Decidable.or_iff_not_imp_left.mpr (fun h1 h2 => hm (Or.inl ⟨Decidable.not_not.mp h1, h2⟩)))))) ⟨by decide, by decide⟩
    · refine v_ic_gt_f (t := 14) rfl rfl ⟨ha1.1, (Int.not_lt.mp h_26), by first | exact rgm_h h_19.2 (by decide) | omega⟩ (q_iconst rfl (q_goto (t := 15) rfl rfl (v_zret rfl rfl (by decide) (bk_inl (q_iconst rfl (q_iconst rfl (v_cv rfl rfl rfl rfl (Nat.le_of_ble_eq_true rfl) ⟨⟨rfl, rfl⟩, Nat.le_of_ble_eq_true rfl, rfl⟩ (Nat.le_of_ble_eq_true rfl) (Nat.le_of_ble_eq_true rfl) ?_)))))))
      refine q_iload_n rfl rfl (v_if_ne_t (t := 26) rfl rfl (by decide) (q_aload_n rfl rfl (v_gi (z := 0) (v := 0) rfl rfl rfl (Nat.le_of_ble_eq_true rfl) rfl rfl (up_e rfl) (v_if_ne_f (t := 37) rfl rfl (by decide) (q_iconst rfl (q_goto (t := 38) rfl rfl (v_zret rfl rfl (by decide) ?_)))))))
      refine bk_inl (v_zret rfl rfl (by decide) (bk_inl (v_if_eq_f (t := 32) rfl rfl (by decide) (q_aload_n rfl rfl (q_iload_n rfl rfl (q_iconst rfl (q_iconst rfl ?_)))))))
      refine q_call rfl rfl rfl rfl (q_iload_n rfl rfl (q_iload_n rfl rfl ?_))
      by_cases h_32 : a2 < 0
      · refine v_ic_lt_t (t := 14) rfl rfl ⟨ha2.1, h_32, by decide⟩ (q_iconst rfl (v_zret rfl rfl (by decide) (bk_inl (q_iconst rfl (q_iconst rfl (v_cv rfl rfl rfl rfl (Nat.le_of_ble_eq_true rfl) ⟨⟨rfl, rfl⟩, Nat.le_of_ble_eq_true rfl, rfl⟩ (Nat.le_of_ble_eq_true rfl) (Nat.le_of_ble_eq_true rfl) (q_iload_n rfl rfl ?_)))))))
        refine v_if_ne_f (t := 26) rfl rfl (by decide) (q_aload_n rfl rfl (v_gi (z := 0) (v := 0) rfl rfl rfl (Nat.le_of_ble_eq_true rfl) rfl rfl (up_e rfl) (v_if_ne_f (t := 26) rfl rfl (by decide) (q_aload_n rfl rfl (q_iload_n rfl rfl (v_pi (z := 0) rfl rfl rfl (Nat.le_of_ble_eq_true rfl) rfl rfl rfl (by decide) (q_aload_n rfl rfl ?_)))))))
        refine v_gr (t := 42) rfl rfl rfl (Nat.le_of_ble_eq_true rfl) rfl (q_iload_n rfl rfl (q_dup2 rfl ⟨rfl, rfl⟩ ?_))
        have h_33 := ir_42 hI 1
        refine v_ia (v := c 42 1) rfl rfl (by decide) (by decide) (by decide) ((up_c (nn rfl)).trans (up_c (nn rfl))) (q_iconst rfl (v_iadd (v := c 42 1 + 1) rfl rfl (v_nrm (fun y_34 hy_34 => (v_is rfl rfl (by decide) (by decide) (by decide) (q_aload_n rfl rfl (v_gi (z := 0) (v := 2) rfl rfl rfl (Nat.le_of_ble_eq_true rfl) rfl rfl ((up_c (nn rfl)).trans (up_e rfl)) (v_if_ne_t (t := 37) rfl rfl (by decide) ?_))))))))
        refine q_iconst rfl (v_zret rfl rfl (by decide) (bk_inl (v_if_ne_f (t := 34) rfl rfl (by decide) (q_iconst rfl (q_iret rfl rfl ?_)))))
        have hI_35 := iw_41_0 (v := 0) hI ⟨by decide, by decide⟩
        have hI_36 := iw_41_0 (v := 2) hI_35 ⟨by decide, by decide⟩
        have hI_37 := iw_42 (j := 1) (v := y_34) hI_36 ⟨hy_34.1, hy_34.2⟩
        exact K (up (up (up c 41 0 0) 41 0 2) 42 1 y_34) 0 hI_37 (fun a j hm => (up_b (Decidable.or_iff_not_imp_left.mpr (fun h1 h2 => hm (Or.inr (Or.inl (Decidable.not_not.mp h1)))))).trans ((up_b (Decidable.or_iff_not_imp_left.mpr (fun h1 h2 => hm (Or.inl ⟨Decidable.not_not.mp h1, h2⟩)))).trans (up_b (Decidable.or_iff_not_imp_left.mpr (fun h1 h2 => hm (Or.inl ⟨Decidable.not_not.mp h1, h2⟩)))))) ⟨by decide, by decide⟩
      · refine v_ic_lt_f (t := 14) rfl rfl ⟨by decide, (Int.not_lt.mp h_32), ha2.2⟩ (q_iload_n rfl rfl (q_iload_n rfl rfl ?_))
        by_cases h_38 : a2 > 1
        · refine v_ic_gt_t (t := 14) rfl rfl ⟨by decide, h_38, ha2.2⟩ (q_iconst rfl (v_zret rfl rfl (by decide) (bk_inl (q_iconst rfl (q_iconst rfl (v_cv rfl rfl rfl rfl (Nat.le_of_ble_eq_true rfl) ⟨⟨rfl, rfl⟩, Nat.le_of_ble_eq_true rfl, rfl⟩ (Nat.le_of_ble_eq_true rfl) (Nat.le_of_ble_eq_true rfl) (q_iload_n rfl rfl ?_)))))))
          refine v_if_ne_f (t := 26) rfl rfl (by decide) (q_aload_n rfl rfl (v_gi (z := 0) (v := 0) rfl rfl rfl (Nat.le_of_ble_eq_true rfl) rfl rfl (up_e rfl) (v_if_ne_f (t := 26) rfl rfl (by decide) (q_aload_n rfl rfl (q_iload_n rfl rfl (v_pi (z := 0) rfl rfl rfl (Nat.le_of_ble_eq_true rfl) rfl rfl rfl (by decide) (q_aload_n rfl rfl ?_)))))))
          refine v_gr (t := 42) rfl rfl rfl (Nat.le_of_ble_eq_true rfl) rfl (q_iload_n rfl rfl (q_dup2 rfl ⟨rfl, rfl⟩ ?_))
          have h_39 := ir_42 hI 1
          refine v_ia (v := c 42 1) rfl rfl (by decide) (by decide) (by decide) ((up_c (nn rfl)).trans (up_c (nn rfl))) (q_iconst rfl (v_iadd (v := c 42 1 + 1) rfl rfl (v_nrm (fun y_40 hy_40 => (v_is rfl rfl (by decide) (by decide) (by decide) (q_aload_n rfl rfl (v_gi (z := 0) (v := 2) rfl rfl rfl (Nat.le_of_ble_eq_true rfl) rfl rfl ((up_c (nn rfl)).trans (up_e rfl)) (v_if_ne_t (t := 37) rfl rfl (by decide) ?_))))))))
          refine q_iconst rfl (v_zret rfl rfl (by decide) (bk_inl (v_if_ne_f (t := 34) rfl rfl (by decide) (q_iconst rfl (q_iret rfl rfl ?_)))))
          have hI_41 := iw_41_0 (v := 0) hI ⟨by decide, by decide⟩
          have hI_42 := iw_41_0 (v := 2) hI_41 ⟨by decide, by decide⟩
          have hI_43 := iw_42 (j := 1) (v := y_40) hI_42 ⟨hy_40.1, hy_40.2⟩
          exact K (up (up (up c 41 0 0) 41 0 2) 42 1 y_40) 0 hI_43 (fun a j hm => (up_b (Decidable.or_iff_not_imp_left.mpr (fun h1 h2 => hm (Or.inr (Or.inl (Decidable.not_not.mp h1)))))).trans ((up_b (Decidable.or_iff_not_imp_left.mpr (fun h1 h2 => hm (Or.inl ⟨Decidable.not_not.mp h1, h2⟩)))).trans (up_b (Decidable.or_iff_not_imp_left.mpr (fun h1 h2 => hm (Or.inl ⟨Decidable.not_not.mp h1, h2⟩)))))) ⟨by decide, by decide⟩
        · refine v_ic_gt_f (t := 14) rfl rfl ⟨ha2.1, (Int.not_lt.mp h_38), by decide⟩ (q_iconst rfl (q_goto (t := 15) rfl rfl (v_zret rfl rfl (by decide) (bk_inl (q_iconst rfl (q_iconst rfl (v_cv rfl rfl rfl rfl (Nat.le_of_ble_eq_true rfl) ⟨⟨rfl, rfl⟩, Nat.le_of_ble_eq_true rfl, rfl⟩ (Nat.le_of_ble_eq_true rfl) (Nat.le_of_ble_eq_true rfl) ?_)))))))
          refine q_iload_n rfl rfl (v_if_ne_t (t := 26) rfl rfl (by decide) (q_aload_n rfl rfl (v_gi (z := 0) (v := 0) rfl rfl rfl (Nat.le_of_ble_eq_true rfl) rfl rfl (up_e rfl) (v_if_ne_f (t := 37) rfl rfl (by decide) (q_iconst rfl (q_goto (t := 38) rfl rfl (v_zret rfl rfl (by decide) ?_)))))))
          refine bk_inl (v_if_ne_t (t := 34) rfl rfl (by decide) (q_aload_n rfl rfl ?_))
          have hI_44 := iw_41_0 (v := 0) hI ⟨by decide, by decide⟩
          refine v_cv rfl rfl rfl rfl (Nat.le_of_ble_eq_true rfl) ⟨⟨rfl, rfl⟩, Nat.le_of_ble_eq_true rfl, rfl⟩ (Nat.le_of_ble_eq_true rfl) (Nat.le_of_ble_eq_true rfl) (s_186 hI_44 (fun c_45 hI_46 hF_47 => (bk_inl (q_iconst rfl (q_istore_n rfl (Nat.le_of_ble_eq_true rfl) (q_iconst rfl (q_istore rfl (Nat.le_of_ble_eq_true rfl) (Wp_ls [(0, .ref 41), (1, vi a1), (2, vi a2), (3, vi 0), (4, vi 0)] (lsub_cons rfl (lsub_cons rfl (lsub_cons rfl (lsub_cons rfl (lsub_cons rfl lsub_nil))))) ?_))))))))
          exact (s_251_l (sc := sc) (d := d) hI ha1 ha2 K 16) c_45 0 0 hI_46 (fun a j hm => (hF_47 a j (fun h => hm (Or.inr (Or.inr h)))).trans (up_b (Decidable.or_iff_not_imp_left.mpr (fun h1 h2 => hm (Or.inl ⟨Decidable.not_not.mp h1, h2⟩))))) ⟨by decide, by decide⟩ ⟨by decide, by decide⟩ ⟨by first | exact q_720657ba9 h_20 | omega, by first | exact q_1b5e4f74b h_19 h_26 | omega⟩ (by omega)

set_option maxRecDepth 100000 in
set_option maxHeartbeats 4000000 in
theorem s_252 {sc : List Int32} {e : Int} {d u P Q : Nat} {c : ME} {a1 : Int} {Z : AR → Prop} (hI : Iv u e P Q c) (ha1 : 1 ≤ a1 ∧ a1 ≤ 16) (K : ∀ (c2 : ME) (y : Int), Iv u e P Q c2 → (∀ (a : Nat) (j : Int), ¬ ((a = 41 ∧ j = 50)) → c2 a j = c a j) → 0 ≤ y ∧ y ≤ 15 → ((y < a1)) → Z (.inl (some (vi y)), Wd P Q P P c2, 0, 0)) : Wp sc (d + 7) 252 0 [(0, .ref 41), (1, vi a1)] [] (Wd P Q P P c) 0 0 Z := by
  have hP := iv_P hI
  have hQ := iv_Q hI
  refine q_aload_n rfl rfl (q_aload_n rfl rfl ?_)
  have h_1 := ir_41_50 hI
  refine v_gi (z := 50) (v := c 41 50) rfl rfl rfl (Nat.le_of_ble_eq_true rfl) rfl rfl rfl (v_ldcw (n := 1103515245) rfl rfl (by decide +kernel) (v_imul (v := 1103515245 * c 41 50) rfl (by omega) (v_nrm (fun y_2 hy_2 => (v_sip rfl (by decide) (v_iadd (v := y_2 + 12345) rfl rfl (v_nrm (fun y_3 hy_3 => (v_pi (z := 50) rfl rfl rfl (Nat.le_of_ble_eq_true rfl) rfl rfl rfl (by decide) ?_)))))))))
  refine q_aload_n rfl rfl (v_gi (z := 50) (v := y_3) rfl rfl rfl (Nat.le_of_ble_eq_true rfl) rfl rfl (up_e rfl) (v_bip rfl (by decide) (v_ishr (m := 65536) (v := (y_3 / 65536)) 16 rfl (by omega) rfl (by decide) (by decide) rfl (v_sip rfl (by decide) (v_and15 (v := ((y_3 / 65536) % 32768)) rfl rfl (q_iload_n rfl rfl ?_))))))
  have h_4 : 0 ≤ (((y_3 / 65536) % 32768) % a1) ∧ (((y_3 / 65536) % 32768) % a1) < a1 := rem_bd (by omega)
  refine v_irem (v := (((y_3 / 65536) % 32768) % a1)) rfl (by omega) rfl (q_iret rfl rfl ?_)
  have hI_5 := iw_41_50 (v := y_3) hI ⟨hy_3.1, hy_3.2⟩
  exact K (up c 41 50 y_3) (((y_3 / 65536) % 32768) % a1) hI_5 (fun a j hm => up_b (Decidable.or_iff_not_imp_left.mpr (fun h1 h2 => hm ⟨Decidable.not_not.mp h1, h2⟩))) ⟨by first | exact q_c4fec1d75 h_4 | omega, by first | exact q_3c66af975 h_4 ha1 | omega⟩ (by first | exact q_84496e02d h_4 | omega)

