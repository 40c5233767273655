/-! ===== contracts 8 ===== -/
theorem q_72f86bfab {x0 : Int} (f0 : ¬ (x0 > 9999)) : x0 ≤ 9999 := by omega
theorem q_1eecf77db {x0 : Int} (f0 : ¬ (x0 > 99)) : x0 + 1 ≤ 100 := by omega
theorem q_e0f71dbae {x0 x1 x2 : Int} (f0 : 0 ≤ x0 ∧ x0 ≤ 6) (f1 : ¬ (x1 > x0 - 1)) (f2 : ¬ (x2 > 4)) (f3 : x2 ≠ 4) : 4 * x1 + x2 < 24 := by omega
theorem q_adb162ac9 {x0 : Int} (f0 : ¬ (x0 > 4)) (f1 : x0 ≠ 4) : x0 ≤ 3 := by omega
theorem q_39694b04c {x0 x1 : Int} (f0 : ¬ (x0 > x1 - 1)) (f1 : 0 ≤ x1 ∧ x1 ≤ 6) : 4 * x0 < 24 := by omega
theorem q_daba94bfb {x0 x1 : Int} (f0 : ¬ (x0 > x1 - 1)) (f1 : 0 ≤ x1 ∧ x1 ≤ 6) : 4 * x0 + 1 < 24 := by omega
theorem q_c56a483ea {x0 x1 : Int} (f0 : ¬ (x0 > x1 - 1)) (f1 : 0 ≤ x1 ∧ x1 ≤ 6) : 4 * x0 + 2 < 24 := by omega
theorem q_bd71cc491 {x0 x1 : Int} (f0 : ¬ (x0 > x1 - 1)) (f1 : 0 ≤ x1 ∧ x1 ≤ 6) : 4 * x0 + 3 < 24 := by omega
theorem q_2aee6eea3 {x0 x1 : Int} (f0 : ¬ (x0 > x1 - 1)) (f1 : 0 ≤ x1 ∧ x1 ≤ 6) : x0 ≤ 5 := by omega
set_option maxRecDepth 100000 in
set_option maxHeartbeats 4000000 in
theorem s_104 {sc : List Int32} {e : Int} {d u P Q : Nat} {c : ME} {a1 : Int} {a2 : Int} {a3 : Int} {a4 : Int} {a5 : Int} {a6 : Int} {a7 : Int} {Z : AR → Prop} (hI : Iv u e P Q c) (ha1 : (-2147483648) ≤ a1 ∧ a1 ≤ 2147483647) (ha2 : (-2147483648) ≤ a2 ∧ a2 ≤ 2147483647) (ha3 : (-2147483648) ≤ a3 ∧ a3 ≤ 2147483647) (ha4 : (-2147483648) ≤ a4 ∧ a4 ≤ 2147483647) (ha5 : (-2147483648) ≤ a5 ∧ a5 ≤ 2147483647) (ha6 : (-2147483648) ≤ a6 ∧ a6 ≤ 2147483647) (ha7 : (-2147483648) ≤ a7 ∧ a7 ≤ 2147483647) (T101 : ∀ c2 : ME, Iv u e P Q c2 → (∀ (a : Nat) (j : Int), ¬ ((a = 0 ∧ j = 13) ∨ a = (P + 10) ∨ a = (P + 11)) → c2 a j = c a j) → Z (.inr 101, Wd P Q P P c2, 1, 6)) (K : ∀ (c2 : ME) (y : Int), Iv u e P Q c2 → (∀ (a : Nat) (j : Int), ¬ ((a = 0 ∧ j = 13) ∨ a = (P + 10) ∨ a = (P + 11)) → c2 a j = c a j) → (-2147483648) ≤ y ∧ y ≤ 2147483647 → Z (.inl (some (vi y)), Wd P Q P P c2, 0, 0)) : Wp sc (d + 9) 104 0 [(0, .ref 0), (1, vi a1), (2, vi a2), (3, vi a3), (4, vi a4), (5, vi a5), (6, vi a6), (7, vi a7)] [] (Wd P Q P P c) 0 0 Z := by
  have hP := iv_P hI
  have hQ := iv_Q hI
  refine q_aload_n rfl rfl (q_iload_n rfl rfl (q_iconst rfl (v_sip rfl (by decide) (q_call rfl rfl rfl rfl (q_iload_n rfl rfl (q_iload_n rfl rfl ?_))))))
  by_cases h_1 : a1 < 0
  · refine v_ic_lt_t (t := 14) rfl rfl ⟨ha1.1, h_1, by decide⟩ (q_iconst rfl (v_zret rfl rfl (by decide) (bk_inl (v_if_eq_t (t := 84) rfl rfl (by decide) (q_iconst rfl (v_cv rfl rfl rfl rfl (Nat.le_of_ble_eq_true rfl) ⟨⟨rfl, rfl⟩, Nat.le_of_ble_eq_true rfl, rfl⟩ (Nat.le_of_ble_eq_true rfl) (Nat.le_of_ble_eq_true rfl) (q_iload_n rfl rfl ?_)))))))
    refine v_if_ne_f (t := 25) rfl rfl (by decide) (q_aload_n rfl rfl (q_dup rfl rfl ?_))
    have h_2 := ir_0_13 hI
    refine v_gi (z := 13) (v := c 0 13) rfl rfl rfl (Nat.le_of_ble_eq_true rfl) rfl rfl rfl (q_iconst rfl (v_iadd (v := c 0 13 + 1) rfl rfl (v_nrm (fun y_3 hy_3 => (v_pi (z := 13) rfl rfl rfl (Nat.le_of_ble_eq_true rfl) rfl rfl rfl (by decide) (v_new rfl rfl (by decide) (by omega) (Nat.le_of_ble_eq_true rfl) (by decide) rfl (bk_out rfl rfl ?_)))))))
    have hI_4 := iw_0_13 (v := y_3) hI ⟨hy_3.1, hy_3.2⟩
    exact T101 _ hI_4 (fun a j hm => up_b (Decidable.or_iff_not_imp_left.mpr (fun h1 h2 => hm (Or.inl ⟨Decidable.not_not.mp h1, h2⟩))))
  · refine v_ic_lt_f (t := 14) rfl rfl ⟨by decide, (Int.not_lt.mp h_1), ha1.2⟩ (q_iload_n rfl rfl (q_iload_n rfl rfl ?_))
    by_cases h_5 : a1 > 9999
    · refine v_ic_gt_t (t := 14) rfl rfl ⟨by decide, h_5, ha1.2⟩ (q_iconst rfl (v_zret rfl rfl (by decide) (bk_inl (v_if_eq_t (t := 84) rfl rfl (by decide) (q_iconst rfl (v_cv rfl rfl rfl rfl (Nat.le_of_ble_eq_true rfl) ⟨⟨rfl, rfl⟩, Nat.le_of_ble_eq_true rfl, rfl⟩ (Nat.le_of_ble_eq_true rfl) (Nat.le_of_ble_eq_true rfl) (q_iload_n rfl rfl ?_)))))))
      refine v_if_ne_f (t := 25) rfl rfl (by decide) (q_aload_n rfl rfl (q_dup rfl rfl ?_))
      have h_6 := ir_0_13 hI
      refine v_gi (z := 13) (v := c 0 13) rfl rfl rfl (Nat.le_of_ble_eq_true rfl) rfl rfl rfl (q_iconst rfl (v_iadd (v := c 0 13 + 1) rfl rfl (v_nrm (fun y_7 hy_7 => (v_pi (z := 13) rfl rfl rfl (Nat.le_of_ble_eq_true rfl) rfl rfl rfl (by decide) (v_new rfl rfl (by decide) (by omega) (Nat.le_of_ble_eq_true rfl) (by decide) rfl (bk_out rfl rfl ?_)))))))
      have hI_8 := iw_0_13 (v := y_7) hI ⟨hy_7.1, hy_7.2⟩
      exact T101 _ hI_8 (fun a j hm => up_b (Decidable.or_iff_not_imp_left.mpr (fun h1 h2 => hm (Or.inl ⟨Decidable.not_not.mp h1, h2⟩))))
    · refine v_ic_gt_f (t := 14) rfl rfl ⟨ha1.1, (Int.not_lt.mp h_5), by decide⟩ (q_iconst rfl (q_goto (t := 15) rfl rfl (v_zret rfl rfl (by decide) (bk_inl (v_if_eq_f (t := 84) rfl rfl (by decide) (q_iload_n rfl rfl (q_iconst rfl ?_)))))))
      refine v_sip rfl (by decide) (q_call rfl rfl rfl rfl (q_iload_n rfl rfl (q_iload_n rfl rfl ?_)))
      by_cases h_9 : a2 < 0
      · refine v_ic_lt_t (t := 14) rfl rfl ⟨ha2.1, h_9, by decide⟩ (q_iconst rfl (v_zret rfl rfl (by decide) (bk_inl (v_if_eq_t (t := 84) rfl rfl (by decide) (q_iconst rfl (v_cv rfl rfl rfl rfl (Nat.le_of_ble_eq_true rfl) ⟨⟨rfl, rfl⟩, Nat.le_of_ble_eq_true rfl, rfl⟩ (Nat.le_of_ble_eq_true rfl) (Nat.le_of_ble_eq_true rfl) (q_iload_n rfl rfl ?_)))))))
        refine v_if_ne_f (t := 25) rfl rfl (by decide) (q_aload_n rfl rfl (q_dup rfl rfl ?_))
        have h_10 := ir_0_13 hI
        refine v_gi (z := 13) (v := c 0 13) rfl rfl rfl (Nat.le_of_ble_eq_true rfl) rfl rfl rfl (q_iconst rfl (v_iadd (v := c 0 13 + 1) rfl rfl (v_nrm (fun y_11 hy_11 => (v_pi (z := 13) rfl rfl rfl (Nat.le_of_ble_eq_true rfl) rfl rfl rfl (by decide) (v_new rfl rfl (by decide) (by omega) (Nat.le_of_ble_eq_true rfl) (by decide) rfl (bk_out rfl rfl ?_)))))))
        have hI_12 := iw_0_13 (v := y_11) hI ⟨hy_11.1, hy_11.2⟩
        exact T101 _ hI_12 (fun a j hm => up_b (Decidable.or_iff_not_imp_left.mpr (fun h1 h2 => hm (Or.inl ⟨Decidable.not_not.mp h1, h2⟩))))
      · refine v_ic_lt_f (t := 14) rfl rfl ⟨by decide, (Int.not_lt.mp h_9), ha2.2⟩ (q_iload_n rfl rfl (q_iload_n rfl rfl ?_))
        by_cases h_13 : a2 > 9999
        · refine v_ic_gt_t (t := 14) rfl rfl ⟨by decide, h_13, ha2.2⟩ (q_iconst rfl (v_zret rfl rfl (by decide) (bk_inl (v_if_eq_t (t := 84) rfl rfl (by decide) (q_iconst rfl (v_cv rfl rfl rfl rfl (Nat.le_of_ble_eq_true rfl) ⟨⟨rfl, rfl⟩, Nat.le_of_ble_eq_true rfl, rfl⟩ (Nat.le_of_ble_eq_true rfl) (Nat.le_of_ble_eq_true rfl) (q_iload_n rfl rfl ?_)))))))
          refine v_if_ne_f (t := 25) rfl rfl (by decide) (q_aload_n rfl rfl (q_dup rfl rfl ?_))
          have h_14 := ir_0_13 hI
          refine v_gi (z := 13) (v := c 0 13) rfl rfl rfl (Nat.le_of_ble_eq_true rfl) rfl rfl rfl (q_iconst rfl (v_iadd (v := c 0 13 + 1) rfl rfl (v_nrm (fun y_15 hy_15 => (v_pi (z := 13) rfl rfl rfl (Nat.le_of_ble_eq_true rfl) rfl rfl rfl (by decide) (v_new rfl rfl (by decide) (by omega) (Nat.le_of_ble_eq_true rfl) (by decide) rfl (bk_out rfl rfl ?_)))))))
          have hI_16 := iw_0_13 (v := y_15) hI ⟨hy_15.1, hy_15.2⟩
          exact T101 _ hI_16 (fun a j hm => up_b (Decidable.or_iff_not_imp_left.mpr (fun h1 h2 => hm (Or.inl ⟨Decidable.not_not.mp h1, h2⟩))))
        · refine v_ic_gt_f (t := 14) rfl rfl ⟨ha2.1, (Int.not_lt.mp h_13), by decide⟩ (q_iconst rfl (q_goto (t := 15) rfl rfl (v_zret rfl rfl (by decide) (bk_inl (v_if_eq_f (t := 84) rfl rfl (by decide) (q_iload_n rfl rfl (q_iconst rfl ?_)))))))
          refine v_sip rfl (by decide) (q_call rfl rfl rfl rfl (q_iload_n rfl rfl (q_iload_n rfl rfl ?_)))
          by_cases h_17 : a3 < 0
          · refine v_ic_lt_t (t := 14) rfl rfl ⟨ha3.1, h_17, by decide⟩ (q_iconst rfl (v_zret rfl rfl (by decide) (bk_inl (v_if_eq_t (t := 84) rfl rfl (by decide) (q_iconst rfl (v_cv rfl rfl rfl rfl (Nat.le_of_ble_eq_true rfl) ⟨⟨rfl, rfl⟩, Nat.le_of_ble_eq_true rfl, rfl⟩ (Nat.le_of_ble_eq_true rfl) (Nat.le_of_ble_eq_true rfl) (q_iload_n rfl rfl ?_)))))))
            refine v_if_ne_f (t := 25) rfl rfl (by decide) (q_aload_n rfl rfl (q_dup rfl rfl ?_))
            have h_18 := ir_0_13 hI
            refine v_gi (z := 13) (v := c 0 13) rfl rfl rfl (Nat.le_of_ble_eq_true rfl) rfl rfl rfl (q_iconst rfl (v_iadd (v := c 0 13 + 1) rfl rfl (v_nrm (fun y_19 hy_19 => (v_pi (z := 13) rfl rfl rfl (Nat.le_of_ble_eq_true rfl) rfl rfl rfl (by decide) (v_new rfl rfl (by decide) (by omega) (Nat.le_of_ble_eq_true rfl) (by decide) rfl (bk_out rfl rfl ?_)))))))
            have hI_20 := iw_0_13 (v := y_19) hI ⟨hy_19.1, hy_19.2⟩
            exact T101 _ hI_20 (fun a j hm => up_b (Decidable.or_iff_not_imp_left.mpr (fun h1 h2 => hm (Or.inl ⟨Decidable.not_not.mp h1, h2⟩))))
          · refine v_ic_lt_f (t := 14) rfl rfl ⟨by decide, (Int.not_lt.mp h_17), ha3.2⟩ (q_iload_n rfl rfl (q_iload_n rfl rfl ?_))
            by_cases h_21 : a3 > 9999
            · refine v_ic_gt_t (t := 14) rfl rfl ⟨by decide, h_21, ha3.2⟩ (q_iconst rfl (v_zret rfl rfl (by decide) (bk_inl (v_if_eq_t (t := 84) rfl rfl (by decide) (q_iconst rfl (v_cv rfl rfl rfl rfl (Nat.le_of_ble_eq_true rfl) ⟨⟨rfl, rfl⟩, Nat.le_of_ble_eq_true rfl, rfl⟩ (Nat.le_of_ble_eq_true rfl) (Nat.le_of_ble_eq_true rfl) (q_iload_n rfl rfl ?_)))))))
              refine v_if_ne_f (t := 25) rfl rfl (by decide) (q_aload_n rfl rfl (q_dup rfl rfl ?_))
              have h_22 := ir_0_13 hI
              refine v_gi (z := 13) (v := c 0 13) rfl rfl rfl (Nat.le_of_ble_eq_true rfl) rfl rfl rfl (q_iconst rfl (v_iadd (v := c 0 13 + 1) rfl rfl (v_nrm (fun y_23 hy_23 => (v_pi (z := 13) rfl rfl rfl (Nat.le_of_ble_eq_true rfl) rfl rfl rfl (by decide) (v_new rfl rfl (by decide) (by omega) (Nat.le_of_ble_eq_true rfl) (by decide) rfl (bk_out rfl rfl ?_)))))))
              have hI_24 := iw_0_13 (v := y_23) hI ⟨hy_23.1, hy_23.2⟩
              exact T101 _ hI_24 (fun a j hm => up_b (Decidable.or_iff_not_imp_left.mpr (fun h1 h2 => hm (Or.inl ⟨Decidable.not_not.mp h1, h2⟩))))
            · refine v_ic_gt_f (t := 14) rfl rfl ⟨ha3.1, (Int.not_lt.mp h_21), by decide⟩ (q_iconst rfl (q_goto (t := 15) rfl rfl (v_zret rfl rfl (by decide) (bk_inl (v_if_eq_f (t := 84) rfl rfl (by decide) (q_iload rfl rfl (q_iconst rfl ?_)))))))
              refine v_sip rfl (by decide) (q_call rfl rfl rfl rfl (q_iload_n rfl rfl (q_iload_n rfl rfl ?_)))
              by_cases h_25 : a4 < 0
              · refine v_ic_lt_t (t := 14) rfl rfl ⟨ha4.1, h_25, by decide⟩ (q_iconst rfl (v_zret rfl rfl (by decide) (bk_inl (v_if_eq_t (t := 84) rfl rfl (by decide) (q_iconst rfl (v_cv rfl rfl rfl rfl (Nat.le_of_ble_eq_true rfl) ⟨⟨rfl, rfl⟩, Nat.le_of_ble_eq_true rfl, rfl⟩ (Nat.le_of_ble_eq_true rfl) (Nat.le_of_ble_eq_true rfl) (q_iload_n rfl rfl ?_)))))))
                refine v_if_ne_f (t := 25) rfl rfl (by decide) (q_aload_n rfl rfl (q_dup rfl rfl ?_))
                have h_26 := ir_0_13 hI
                refine v_gi (z := 13) (v := c 0 13) rfl rfl rfl (Nat.le_of_ble_eq_true rfl) rfl rfl rfl (q_iconst rfl (v_iadd (v := c 0 13 + 1) rfl rfl (v_nrm (fun y_27 hy_27 => (v_pi (z := 13) rfl rfl rfl (Nat.le_of_ble_eq_true rfl) rfl rfl rfl (by decide) (v_new rfl rfl (by decide) (by omega) (Nat.le_of_ble_eq_true rfl) (by decide) rfl (bk_out rfl rfl ?_)))))))
                have hI_28 := iw_0_13 (v := y_27) hI ⟨hy_27.1, hy_27.2⟩
                exact T101 _ hI_28 (fun a j hm => up_b (Decidable.or_iff_not_imp_left.mpr (fun h1 h2 => hm (Or.inl ⟨Decidable.not_not.mp h1, h2⟩))))
              · refine v_ic_lt_f (t := 14) rfl rfl ⟨by decide, (Int.not_lt.mp h_25), ha4.2⟩ (q_iload_n rfl rfl (q_iload_n rfl rfl ?_))
                by_cases h_29 : a4 > 9999
                · refine v_ic_gt_t (t := 14) rfl rfl ⟨by decide, h_29, ha4.2⟩ (q_iconst rfl (v_zret rfl rfl (by decide) (bk_inl (v_if_eq_t (t := 84) rfl rfl (by decide) (q_iconst rfl (v_cv rfl rfl rfl rfl (Nat.le_of_ble_eq_true rfl) ⟨⟨rfl, rfl⟩, Nat.le_of_ble_eq_true rfl, rfl⟩ (Nat.le_of_ble_eq_true rfl) (Nat.le_of_ble_eq_true rfl) (q_iload_n rfl rfl ?_)))))))
                  refine v_if_ne_f (t := 25) rfl rfl (by decide) (q_aload_n rfl rfl (q_dup rfl rfl ?_))
                  have h_30 := ir_0_13 hI
                  refine v_gi (z := 13) (v := c 0 13) rfl rfl rfl (Nat.le_of_ble_eq_true rfl) rfl rfl rfl (q_iconst rfl (v_iadd (v := c 0 13 + 1) rfl rfl (v_nrm (fun y_31 hy_31 => (v_pi (z := 13) rfl rfl rfl (Nat.le_of_ble_eq_true rfl) rfl rfl rfl (by decide) (v_new rfl rfl (by decide) (by omega) (Nat.le_of_ble_eq_true rfl) (by decide) rfl (bk_out rfl rfl ?_)))))))
                  have hI_32 := iw_0_13 (v := y_31) hI ⟨hy_31.1, hy_31.2⟩
                  exact T101 _ hI_32 (fun a j hm => up_b (Decidable.or_iff_not_imp_left.mpr (fun h1 h2 => hm (Or.inl ⟨Decidable.not_not.mp h1, h2⟩))))
                · refine v_ic_gt_f (t := 14) rfl rfl ⟨ha4.1, (Int.not_lt.mp h_29), by decide⟩ (q_iconst rfl (q_goto (t := 15) rfl rfl (v_zret rfl rfl (by decide) (bk_inl (v_if_eq_f (t := 84) rfl rfl (by decide) (q_iload rfl rfl (q_iconst rfl ?_)))))))
                  refine v_sip rfl (by decide) (q_call rfl rfl rfl rfl (q_iload_n rfl rfl (q_iload_n rfl rfl ?_)))
                  by_cases h_33 : a5 < 0
                  · refine v_ic_lt_t (t := 14) rfl rfl ⟨ha5.1, h_33, by decide⟩ (q_iconst rfl (v_zret rfl rfl (by decide) (bk_inl (v_if_eq_t (t := 84) rfl rfl (by decide) (q_iconst rfl (v_cv rfl rfl rfl rfl (Nat.le_of_ble_eq_true rfl) ⟨⟨rfl, rfl⟩, Nat.le_of_ble_eq_true rfl, rfl⟩ (Nat.le_of_ble_eq_true rfl) (Nat.le_of_ble_eq_true rfl) (q_iload_n rfl rfl ?_)))))))
                    refine v_if_ne_f (t := 25) rfl rfl (by decide) (q_aload_n rfl rfl (q_dup rfl rfl ?_))
                    have h_34 := ir_0_13 hI
                    refine v_gi (z := 13) (v := c 0 13) rfl rfl rfl (Nat.le_of_ble_eq_true rfl) rfl rfl rfl (q_iconst rfl (v_iadd (v := c 0 13 + 1) rfl rfl (v_nrm (fun y_35 hy_35 => (v_pi (z := 13) rfl rfl rfl (Nat.le_of_ble_eq_true rfl) rfl rfl rfl (by decide) (v_new rfl rfl (by decide) (by omega) (Nat.le_of_ble_eq_true rfl) (by decide) rfl (bk_out rfl rfl ?_)))))))
                    have hI_36 := iw_0_13 (v := y_35) hI ⟨hy_35.1, hy_35.2⟩
                    exact T101 _ hI_36 (fun a j hm => up_b (Decidable.or_iff_not_imp_left.mpr (fun h1 h2 => hm (Or.inl ⟨Decidable.not_not.mp h1, h2⟩))))
                  · refine v_ic_lt_f (t := 14) rfl rfl ⟨by decide, (Int.not_lt.mp h_33), ha5.2⟩ (q_iload_n rfl rfl (q_iload_n rfl rfl ?_))
                    by_cases h_37 : a5 > 400
                    · refine v_ic_gt_t (t := 14) rfl rfl ⟨by decide, h_37, ha5.2⟩ (q_iconst rfl (v_zret rfl rfl (by decide) (bk_inl (v_if_eq_t (t := 84) rfl rfl (by decide) (q_iconst rfl (v_cv rfl rfl rfl rfl (Nat.le_of_ble_eq_true rfl) ⟨⟨rfl, rfl⟩, Nat.le_of_ble_eq_true rfl, rfl⟩ (Nat.le_of_ble_eq_true rfl) (Nat.le_of_ble_eq_true rfl) (q_iload_n rfl rfl ?_)))))))
                      refine v_if_ne_f (t := 25) rfl rfl (by decide) (q_aload_n rfl rfl (q_dup rfl rfl ?_))
                      have h_38 := ir_0_13 hI
                      refine v_gi (z := 13) (v := c 0 13) rfl rfl rfl (Nat.le_of_ble_eq_true rfl) rfl rfl rfl (q_iconst rfl (v_iadd (v := c 0 13 + 1) rfl rfl (v_nrm (fun y_39 hy_39 => (v_pi (z := 13) rfl rfl rfl (Nat.le_of_ble_eq_true rfl) rfl rfl rfl (by decide) (v_new rfl rfl (by decide) (by omega) (Nat.le_of_ble_eq_true rfl) (by decide) rfl (bk_out rfl rfl ?_)))))))
                      have hI_40 := iw_0_13 (v := y_39) hI ⟨hy_39.1, hy_39.2⟩
                      exact T101 _ hI_40 (fun a j hm => up_b (Decidable.or_iff_not_imp_left.mpr (fun h1 h2 => hm (Or.inl ⟨Decidable.not_not.mp h1, h2⟩))))
                    · refine v_ic_gt_f (t := 14) rfl rfl ⟨ha5.1, (Int.not_lt.mp h_37), by decide⟩ (q_iconst rfl (q_goto (t := 15) rfl rfl (v_zret rfl rfl (by decide) (bk_inl (v_if_eq_f (t := 84) rfl rfl (by decide) (q_iload rfl rfl (q_iconst rfl ?_)))))))
                      refine v_sip rfl (by decide) (q_call rfl rfl rfl rfl (q_iload_n rfl rfl (q_iload_n rfl rfl ?_)))
                      by_cases h_41 : a6 < 0
                      · refine v_ic_lt_t (t := 14) rfl rfl ⟨ha6.1, h_41, by decide⟩ (q_iconst rfl (v_zret rfl rfl (by decide) (bk_inl (v_if_eq_t (t := 84) rfl rfl (by decide) (q_iconst rfl (v_cv rfl rfl rfl rfl (Nat.le_of_ble_eq_true rfl) ⟨⟨rfl, rfl⟩, Nat.le_of_ble_eq_true rfl, rfl⟩ (Nat.le_of_ble_eq_true rfl) (Nat.le_of_ble_eq_true rfl) (q_iload_n rfl rfl ?_)))))))
                        refine v_if_ne_f (t := 25) rfl rfl (by decide) (q_aload_n rfl rfl (q_dup rfl rfl ?_))
                        have h_42 := ir_0_13 hI
                        refine v_gi (z := 13) (v := c 0 13) rfl rfl rfl (Nat.le_of_ble_eq_true rfl) rfl rfl rfl (q_iconst rfl (v_iadd (v := c 0 13 + 1) rfl rfl (v_nrm (fun y_43 hy_43 => (v_pi (z := 13) rfl rfl rfl (Nat.le_of_ble_eq_true rfl) rfl rfl rfl (by decide) (v_new rfl rfl (by decide) (by omega) (Nat.le_of_ble_eq_true rfl) (by decide) rfl (bk_out rfl rfl ?_)))))))
                        have hI_44 := iw_0_13 (v := y_43) hI ⟨hy_43.1, hy_43.2⟩
                        exact T101 _ hI_44 (fun a j hm => up_b (Decidable.or_iff_not_imp_left.mpr (fun h1 h2 => hm (Or.inl ⟨Decidable.not_not.mp h1, h2⟩))))
                      · refine v_ic_lt_f (t := 14) rfl rfl ⟨by decide, (Int.not_lt.mp h_41), ha6.2⟩ (q_iload_n rfl rfl (q_iload_n rfl rfl ?_))
                        by_cases h_45 : a6 > 400
                        · refine v_ic_gt_t (t := 14) rfl rfl ⟨by decide, h_45, ha6.2⟩ (q_iconst rfl (v_zret rfl rfl (by decide) (bk_inl (v_if_eq_t (t := 84) rfl rfl (by decide) (q_iconst rfl (v_cv rfl rfl rfl rfl (Nat.le_of_ble_eq_true rfl) ⟨⟨rfl, rfl⟩, Nat.le_of_ble_eq_true rfl, rfl⟩ (Nat.le_of_ble_eq_true rfl) (Nat.le_of_ble_eq_true rfl) (q_iload_n rfl rfl ?_)))))))
                          refine v_if_ne_f (t := 25) rfl rfl (by decide) (q_aload_n rfl rfl (q_dup rfl rfl ?_))
                          have h_46 := ir_0_13 hI
                          refine v_gi (z := 13) (v := c 0 13) rfl rfl rfl (Nat.le_of_ble_eq_true rfl) rfl rfl rfl (q_iconst rfl (v_iadd (v := c 0 13 + 1) rfl rfl (v_nrm (fun y_47 hy_47 => (v_pi (z := 13) rfl rfl rfl (Nat.le_of_ble_eq_true rfl) rfl rfl rfl (by decide) (v_new rfl rfl (by decide) (by omega) (Nat.le_of_ble_eq_true rfl) (by decide) rfl (bk_out rfl rfl ?_)))))))
                          have hI_48 := iw_0_13 (v := y_47) hI ⟨hy_47.1, hy_47.2⟩
                          exact T101 _ hI_48 (fun a j hm => up_b (Decidable.or_iff_not_imp_left.mpr (fun h1 h2 => hm (Or.inl ⟨Decidable.not_not.mp h1, h2⟩))))
                        · refine v_ic_gt_f (t := 14) rfl rfl ⟨ha6.1, (Int.not_lt.mp h_45), by decide⟩ (q_iconst rfl (q_goto (t := 15) rfl rfl (v_zret rfl rfl (by decide) (bk_inl (v_if_eq_f (t := 84) rfl rfl (by decide) (q_iload rfl rfl (q_iconst rfl ?_)))))))
                          refine q_iconst rfl (q_call rfl rfl rfl rfl (q_iload_n rfl rfl (q_iload_n rfl rfl ?_)))
                          by_cases h_49 : a7 < 0
                          · refine v_ic_lt_t (t := 14) rfl rfl ⟨ha7.1, h_49, by decide⟩ (q_iconst rfl (v_zret rfl rfl (by decide) (bk_inl (v_if_eq_t (t := 84) rfl rfl (by decide) (q_iconst rfl (v_cv rfl rfl rfl rfl (Nat.le_of_ble_eq_true rfl) ⟨⟨rfl, rfl⟩, Nat.le_of_ble_eq_true rfl, rfl⟩ (Nat.le_of_ble_eq_true rfl) (Nat.le_of_ble_eq_true rfl) (q_iload_n rfl rfl ?_)))))))
                            refine v_if_ne_f (t := 25) rfl rfl (by decide) (q_aload_n rfl rfl (q_dup rfl rfl ?_))
                            have h_50 := ir_0_13 hI
                            refine v_gi (z := 13) (v := c 0 13) rfl rfl rfl (Nat.le_of_ble_eq_true rfl) rfl rfl rfl (q_iconst rfl (v_iadd (v := c 0 13 + 1) rfl rfl (v_nrm (fun y_51 hy_51 => (v_pi (z := 13) rfl rfl rfl (Nat.le_of_ble_eq_true rfl) rfl rfl rfl (by decide) (v_new rfl rfl (by decide) (by omega) (Nat.le_of_ble_eq_true rfl) (by decide) rfl (bk_out rfl rfl ?_)))))))
                            have hI_52 := iw_0_13 (v := y_51) hI ⟨hy_51.1, hy_51.2⟩
                            exact T101 _ hI_52 (fun a j hm => up_b (Decidable.or_iff_not_imp_left.mpr (fun h1 h2 => hm (Or.inl ⟨Decidable.not_not.mp h1, h2⟩))))
                          · refine v_ic_lt_f (t := 14) rfl rfl ⟨by decide, (Int.not_lt.mp h_49), ha7.2⟩ (q_iload_n rfl rfl (q_iload_n rfl rfl ?_))
                            by_cases h_53 : a7 > 5
                            · refine v_ic_gt_t (t := 14) rfl rfl ⟨by decide, h_53, ha7.2⟩ (q_iconst rfl (v_zret rfl rfl (by decide) (bk_inl (v_if_eq_t (t := 84) rfl rfl (by decide) (q_iconst rfl (v_cv rfl rfl rfl rfl (Nat.le_of_ble_eq_true rfl) ⟨⟨rfl, rfl⟩, Nat.le_of_ble_eq_true rfl, rfl⟩ (Nat.le_of_ble_eq_true rfl) (Nat.le_of_ble_eq_true rfl) (q_iload_n rfl rfl ?_)))))))
                              refine v_if_ne_f (t := 25) rfl rfl (by decide) (q_aload_n rfl rfl (q_dup rfl rfl ?_))
                              have h_54 := ir_0_13 hI
                              refine v_gi (z := 13) (v := c 0 13) rfl rfl rfl (Nat.le_of_ble_eq_true rfl) rfl rfl rfl (q_iconst rfl (v_iadd (v := c 0 13 + 1) rfl rfl (v_nrm (fun y_55 hy_55 => (v_pi (z := 13) rfl rfl rfl (Nat.le_of_ble_eq_true rfl) rfl rfl rfl (by decide) (v_new rfl rfl (by decide) (by omega) (Nat.le_of_ble_eq_true rfl) (by decide) rfl (bk_out rfl rfl ?_)))))))
                              have hI_56 := iw_0_13 (v := y_55) hI ⟨hy_55.1, hy_55.2⟩
                              exact T101 _ hI_56 (fun a j hm => up_b (Decidable.or_iff_not_imp_left.mpr (fun h1 h2 => hm (Or.inl ⟨Decidable.not_not.mp h1, h2⟩))))
                            · refine v_ic_gt_f (t := 14) rfl rfl ⟨ha7.1, (Int.not_lt.mp h_53), by decide⟩ (q_iconst rfl (q_goto (t := 15) rfl rfl (v_zret rfl rfl (by decide) (bk_inl (v_if_eq_f (t := 84) rfl rfl (by decide) (q_iconst rfl (q_goto (t := 85) rfl rfl ?_)))))))
                              refine v_cv rfl rfl rfl rfl (Nat.le_of_ble_eq_true rfl) ⟨⟨rfl, rfl⟩, Nat.le_of_ble_eq_true rfl, rfl⟩ (Nat.le_of_ble_eq_true rfl) (Nat.le_of_ble_eq_true rfl) (q_iload_n rfl rfl (v_if_ne_t (t := 25) rfl rfl (by decide) (q_vret rfl rfl (bk_inl (q_aload_n rfl rfl (v_gr (t := P) rfl rfl rfl (Nat.le_of_ble_eq_true rfl) rfl (v_gr (t := (P + 7)) rfl rfl (ck_p0 hP) (a68z hP) rfl ?_)))))))
                              refine q_iload_n rfl rfl (q_iload_n rfl rfl (q_iload_n rfl rfl (q_iload rfl rfl (q_iload rfl rfl (q_iload rfl rfl (q_iload rfl rfl ?_))))))
                              refine v_cv rfl rfl rfl (ck_p7 hP) (a68 hP rfl) ⟨⟨rfl, rfl⟩, by decide, rfl⟩ (Nat.le_of_ble_eq_true rfl) (Nat.le_of_ble_eq_true rfl) (s_20 (a1 := a1) (a2 := a2) (a3 := a3) (a4 := a4) (a5 := a5) (a6 := a6) (a7 := a7) hI hP (show 0 ≤ a1 ∧ a1 ≤ 9999 from ⟨by first | exact q_720657ba9 h_1 | (clear ha1 ha2 ha3 ha4 ha5 ha6 ha7 h_5 h_9 h_13 h_17 h_21 h_25 h_29 h_33 h_37 h_41 h_45 h_49 h_53; omega) | omega, by first | exact q_72f86bfab h_5 | (clear ha1 ha2 ha3 ha4 ha5 ha6 ha7 h_1 h_9 h_13 h_17 h_21 h_25 h_29 h_33 h_37 h_41 h_45 h_49 h_53; omega) | omega⟩) (show 0 ≤ a2 ∧ a2 ≤ 9999 from ⟨by first | exact q_720657ba9 h_9 | (clear ha1 ha2 ha3 ha4 ha5 ha6 ha7 h_1 h_5 h_13 h_17 h_21 h_25 h_29 h_33 h_37 h_41 h_45 h_49 h_53; omega) | omega, by first | exact q_72f86bfab h_13 | (clear ha1 ha2 ha3 ha4 ha5 ha6 ha7 h_1 h_5 h_9 h_17 h_21 h_25 h_29 h_33 h_37 h_41 h_45 h_49 h_53; omega) | omega⟩) (show 0 ≤ a3 ∧ a3 ≤ 9999 from ⟨by first | exact q_720657ba9 h_17 | (clear ha1 ha2 ha3 ha4 ha5 ha6 ha7 h_1 h_5 h_9 h_13 h_21 h_25 h_29 h_33 h_37 h_41 h_45 h_49 h_53; omega) | omega, by first | exact q_72f86bfab h_21 | (clear ha1 ha2 ha3 ha4 ha5 ha6 ha7 h_1 h_5 h_9 h_13 h_17 h_25 h_29 h_33 h_37 h_41 h_45 h_49 h_53; omega) | omega⟩) (show 0 ≤ a4 ∧ a4 ≤ 9999 from ⟨by first | exact q_720657ba9 h_25 | (clear ha1 ha2 ha3 ha4 ha5 ha6 ha7 h_1 h_5 h_9 h_13 h_17 h_21 h_29 h_33 h_37 h_41 h_45 h_49 h_53; omega) | omega, by first | exact q_72f86bfab h_29 | (clear ha1 ha2 ha3 ha4 ha5 ha6 ha7 h_1 h_5 h_9 h_13 h_17 h_21 h_25 h_33 h_37 h_41 h_45 h_49 h_53; omega) | omega⟩) (show (-2147483648) ≤ a5 ∧ a5 ≤ 2147483647 from ha5) (show (-2147483648) ≤ a6 ∧ a6 ≤ 2147483647 from ha6) (show (-2147483648) ≤ a7 ∧ a7 ≤ 2147483647 from ha7) (fun c_57 y_60 hI_58 hF_59 hy_60 => ?_))
                              refine bk_inl (q_iret rfl rfl ?_)
                              exact K c_57 y_60 hI_58 (fun a j hm => hF_59 a j (fun q => q.elim (fun h => hm (Or.inr (Or.inl h))) (fun h => hm (Or.inr (Or.inr h))))) ⟨(Int.le_trans (by decide) hy_60.1), (Int.le_trans hy_60.2 (by decide))⟩

set_option maxRecDepth 100000 in
set_option maxHeartbeats 4000000 in
theorem s_105_l {sc : List Int32} {e : Int} {d u P Q : Nat} {c : ME} {a1 : Int} {Z : AR → Prop} (hI : Iv u e P Q c) (ha1 : (-2147483648) ≤ a1 ∧ a1 ≤ 2147483647) (T101 : ∀ c2 : ME, Iv u e P Q c2 → (∀ (a : Nat) (j : Int), ¬ ((a = 0 ∧ j = 13) ∨ a = (P + 10) ∨ a = (P + 11)) → c2 a j = c a j) → Z (.inr 101, Wd P Q P P c2, 1, 6)) (K : ∀ (c2 : ME) (y : Int), Iv u e P Q c2 → (∀ (a : Nat) (j : Int), ¬ ((a = 0 ∧ j = 13) ∨ a = (P + 10) ∨ a = (P + 11)) → c2 a j = c a j) → (-2147483648) ≤ y ∧ y ≤ 2147483647 → Z (.inl (some (vi y)), Wd P Q P P c2, 0, 0)) : ∀ n : Nat, (∀ (c2 : ME) (v2 : Int) (v3 : Int) (v4 : Int), Iv u e P Q c2 → (∀ (a : Nat) (j : Int), ¬ ((a = 0 ∧ j = 13) ∨ a = (P + 10) ∨ a = (P + 11)) → c2 a j = c a j) → (-1) ≤ v2 ∧ v2 ≤ 5 → (-1) ≤ v3 ∧ v3 ≤ 99 → 0 ≤ v4 ∧ v4 ≤ 6 → 13 - 2 * v4 < (n : Int) → Wp sc (d + 10) 105 17 [(0, .ref 0), (1, vi a1), (2, vi v2), (3, vi v3), (4, vi v4)] [] (Wd P Q P P c2) 0 0 Z)
  | 0 => by intro c2 v2 v3 v4 hI2 hF hv2 hv3 hv4 hm9; have hP := iv_P hI; have hQ := iv_Q hI; exfalso; omega
  | n + 1 => by
    have hP := iv_P hI
    have hQ := iv_Q hI
    have ih := s_105_l (sc := sc) (d := d) hI ha1 T101 K n
    intro c2 v2 v3 v4 hI2 hF hv2 hv3 hv4 hm9
    refine q_iload rfl rfl (q_aload_n rfl rfl (v_gr (t := P) rfl rfl rfl (Nat.le_of_ble_eq_true rfl) rfl ?_))
    have h_1 := ir_p0_0 hI hP
    have kn_2 : Hid (c2 P 0 = c P 0) := hF P 0 (fun q => q.elim (fun h => absurd h.1 (np0 hP rfl)) (fun q => q.elim (fun h => absurd h (p0p rfl)) (fun h => absurd h (p0p rfl))))
    refine v_gi (z := 0) (v := c P 0) rfl rfl (ck_p0 hP) (a68z hP) rfl rfl (hid kn_2) ?_
    by_cases h_3 : v4 ≥ c P 0
    · refine v_ic_ge_t (t := 74) rfl rfl ⟨by first | exact q_730ab5169 h_1 | omega, h_3, (Int.le_trans hv4.2 (by decide))⟩ (q_iload_n rfl rfl ?_)
      by_cases h_4 : a1 ≠ 0
      · refine v_if_ne_t (t := 82) rfl rfl ⟨h_4, ⟨ha1.1, ha1.2⟩, by decide, by decide⟩ (q_iload_n rfl rfl (q_iret rfl rfl ?_))
        exact K c2 v3 hI2 (fun a j hm => hF a j (fun q => q.elim (fun h => hm (Or.inl h)) (fun q => q.elim (fun h => hm (Or.inr (Or.inl h))) (fun h => hm (Or.inr (Or.inr h)))))) ⟨(Int.le_trans (by decide) hv3.1), (Int.le_trans hv3.2 (by decide))⟩
      · refine v_if_ne_f (t := 82) rfl rfl (Decidable.not_not.mp h_4) (q_iload_n rfl rfl (q_goto (t := 83) rfl rfl (q_iret rfl rfl ?_)))
        exact K c2 v2 hI2 (fun a j hm => hF a j (fun q => q.elim (fun h => hm (Or.inl h)) (fun q => q.elim (fun h => hm (Or.inr (Or.inl h))) (fun h => hm (Or.inr (Or.inr h)))))) ⟨(Int.le_trans (by decide) hv2.1), (Int.le_trans hv2.2 (by decide))⟩
    · refine v_ic_ge_f (t := 74) rfl rfl ⟨(Int.le_trans (by decide) hv4.1), (Int.not_le.mp h_3), by first | exact q_b289b7db2 h_1 | omega⟩ (q_aload_n rfl rfl (v_gr (t := 37) rfl rfl rfl (Nat.le_of_ble_eq_true rfl) rfl (q_iload rfl rfl ?_)))
      have h_5 := ir_38_g hI (j := 4 * v4) (by first | exact q_aa51b186e h_1 h_3 | omega)
      have kn_6 : Hid (c2 38 (4 * v4) = c 38 (4 * v4)) := hF 38 (4 * v4) (fun q => q.elim (fun h => absurd h.1 (nn rfl)) (fun q => q.elim (fun h => absurd h (pn hP rfl rfl)) (fun h => absurd h (pn hP rfl rfl))))
      have h_7 := ir_38_g hI (j := 4 * v4 + 1) (by first | exact q_57851f9de h_1 h_3 | omega)
      have kn_8 : Hid (c2 38 (4 * v4 + 1) = c 38 (4 * v4 + 1)) := hF 38 (4 * v4 + 1) (fun q => q.elim (fun h => absurd h.1 (nn rfl)) (fun q => q.elim (fun h => absurd h (pn hP rfl rfl)) (fun h => absurd h (pn hP rfl rfl))))
      have h_9 := ir_38_g hI (j := 4 * v4 + 2) (by first | exact q_7296e74e6 h_1 h_3 | omega)
      have kn_10 : Hid (c2 38 (4 * v4 + 2) = c 38 (4 * v4 + 2)) := hF 38 (4 * v4 + 2) (fun q => q.elim (fun h => absurd h.1 (nn rfl)) (fun q => q.elim (fun h => absurd h (pn hP rfl rfl)) (fun h => absurd h (pn hP rfl rfl))))
      have h_11 := ir_38_g hI (j := 4 * v4 + 3) (by first | exact q_b15525c4c h_1 h_3 | omega)
      have kn_12 : Hid (c2 38 (4 * v4 + 3) = c 38 (4 * v4 + 3)) := hF 38 (4 * v4 + 3) (fun q => q.elim (fun h => absurd h.1 (nn rfl)) (fun q => q.elim (fun h => absurd h (pn hP rfl rfl)) (fun h => absurd h (pn hP rfl rfl))))
      refine v_cv rfl rfl rfl rfl (Nat.le_of_ble_eq_true rfl) ⟨⟨rfl, rfl⟩, Nat.le_of_ble_eq_true rfl, rfl⟩ (Nat.le_of_ble_eq_true rfl) (Nat.le_of_ble_eq_true rfl) (s_43 (v1 := c 38 (4 * v4)) (v2 := c 38 (4 * v4 + 1)) (v3 := c 38 (4 * v4 + 2)) (v4 := c 38 (4 * v4 + 3)) (r := c 38 (4 * v4 + 1) + c 38 (4 * v4 + 2) + c 38 (4 * v4 + 3) + c 38 (4 * v4)) (a1 := v4) hI2 (.inl ⟨rfl, rfl⟩) (show 0 ≤ v4 ∧ v4 ≤ 5 from ⟨hv4.1, by first | exact q_d63a8538e h_1 h_3 | omega⟩) ((hid kn_6)) ((hid kn_8)) ((hid kn_10)) ((hid kn_12)) (by omega) (bk_inl ?_))
      by_cases h_13 : c 38 (4 * v4 + 1) + c 38 (4 * v4 + 2) + c 38 (4 * v4 + 3) + c 38 (4 * v4) ≤ 0
      · refine v_if_le_t (t := 53) rfl rfl ⟨by first | exact q_94559468f h_11 h_5 h_7 h_9 | omega, h_13, by decide⟩ (q_iconst rfl (q_istore rfl (Nat.le_of_ble_eq_true rfl) (q_iload rfl rfl (q_iload_n rfl rfl (v_ic_le_t (t := 68) rfl rfl ⟨by decide, (Int.le_trans (by decide) hv3.1), (Int.le_trans hv3.2 (by decide))⟩ (v_iinc (v := v4 + 1) rfl rfl (Nat.le_of_ble_eq_true rfl) rfl (q_goto (t := 17) rfl rfl ?_)))))))
        refine Wp_ls [(0, .ref 0), (1, vi a1), (2, vi v2), (3, vi v3), (4, vi (v4 + 1))] (lsub_cons rfl (lsub_cons rfl (lsub_cons rfl (lsub_cons rfl (lsub_cons rfl lsub_nil))))) ?_
        exact ih c2 v2 v3 (v4 + 1) hI2 (fun a j hm => hF a j (fun q => q.elim (fun h => hm (Or.inl h)) (fun q => q.elim (fun h => hm (Or.inr (Or.inl h))) (fun h => hm (Or.inr (Or.inr h)))))) hv2 hv3 ⟨by first | exact rgp_l hv4.1 (by decide) | omega, by first | exact q_4a76cd9c7 h_1 h_3 | omega⟩ (by omega)
      · refine v_if_le_f (t := 53) rfl rfl ⟨by decide, (Int.not_le.mp h_13), by first | exact q_f81653045 h_11 h_5 h_7 h_9 | omega⟩ (q_aload_n rfl rfl (v_gr (t := 37) rfl rfl rfl (Nat.le_of_ble_eq_true rfl) rfl (q_iload rfl rfl (v_cv rfl rfl rfl rfl (Nat.le_of_ble_eq_true rfl) ⟨⟨rfl, rfl⟩, Nat.le_of_ble_eq_true rfl, rfl⟩ (Nat.le_of_ble_eq_true rfl) (Nat.le_of_ble_eq_true rfl) (s_56 (a1 := v4) hI2 (.inl ⟨rfl, rfl⟩) (show 0 ≤ v4 ∧ v4 ≤ 5 from ⟨hv4.1, by first | exact q_d63a8538e h_1 h_3 | omega⟩) (fun c_14 y_17 hI_15 hF_16 hy_17 => (bk_inl (q_goto (t := 54) rfl rfl (q_istore rfl (Nat.le_of_ble_eq_true rfl) ?_)))))))))
        refine q_iload rfl rfl (q_iload_n rfl rfl ?_)
        by_cases h_18 : y_17 ≤ v3
        · refine v_ic_le_t (t := 68) rfl rfl ⟨(Int.le_trans (by decide) hy_17.1), h_18, (Int.le_trans hv3.2 (by decide))⟩ (v_iinc (v := v4 + 1) rfl rfl (Nat.le_of_ble_eq_true rfl) rfl (q_goto (t := 17) rfl rfl (Wp_ls [(0, .ref 0), (1, vi a1), (2, vi v2), (3, vi v3), (4, vi (v4 + 1))] (lsub_cons rfl (lsub_cons rfl (lsub_cons rfl (lsub_cons rfl (lsub_cons rfl lsub_nil))))) ?_)))
          exact ih c_14 v2 v3 (v4 + 1) hI_15 (fun a j hm => (hF_16 a j (fun q => q.elim (fun h => hm (Or.inr (Or.inl h))) (fun h => hm (Or.inr (Or.inr h))))).trans (hF a j (fun q => q.elim (fun h => hm (Or.inl h)) (fun q => q.elim (fun h => hm (Or.inr (Or.inl h))) (fun h => hm (Or.inr (Or.inr h))))))) hv2 hv3 ⟨by first | exact rgp_l hv4.1 (by decide) | omega, by first | exact q_4a76cd9c7 h_1 h_3 | omega⟩ (by omega)
        · refine v_ic_le_f (t := 68) rfl rfl ⟨(Int.le_trans (by decide) hv3.1), (Int.not_le.mp h_18), (Int.le_trans hy_17.2 (by decide))⟩ (q_iload rfl rfl (q_istore_n rfl (Nat.le_of_ble_eq_true rfl) (q_iload rfl rfl (q_istore_n rfl (Nat.le_of_ble_eq_true rfl) (v_iinc (v := v4 + 1) rfl rfl (Nat.le_of_ble_eq_true rfl) rfl (q_goto (t := 17) rfl rfl (Wp_ls [(0, .ref 0), (1, vi a1), (2, vi v4), (3, vi y_17), (4, vi (v4 + 1))] (lsub_cons rfl (lsub_cons rfl (lsub_cons rfl (lsub_cons rfl (lsub_cons rfl lsub_nil))))) ?_)))))))
          exact ih c_14 v4 y_17 (v4 + 1) hI_15 (fun a j hm => (hF_16 a j (fun q => q.elim (fun h => hm (Or.inr (Or.inl h))) (fun h => hm (Or.inr (Or.inr h))))).trans (hF a j (fun q => q.elim (fun h => hm (Or.inl h)) (fun q => q.elim (fun h => hm (Or.inr (Or.inl h))) (fun h => hm (Or.inr (Or.inr h))))))) ⟨(Int.le_trans (by decide) hv4.1), by first | exact q_d63a8538e h_1 h_3 | omega⟩ ⟨(Int.le_trans (by decide) hy_17.1), hy_17.2⟩ ⟨by first | exact rgp_l hv4.1 (by decide) | omega, by first | exact q_4a76cd9c7 h_1 h_3 | omega⟩ (by omega)
set_option maxRecDepth 100000 in
set_option maxHeartbeats 4000000 in
theorem s_105 {sc : List Int32} {e : Int} {d u P Q : Nat} {c : ME} {a1 : Int} {Z : AR → Prop} (hI : Iv u e P Q c) (ha1 : (-2147483648) ≤ a1 ∧ a1 ≤ 2147483647) (T101 : ∀ c2 : ME, Iv u e P Q c2 → (∀ (a : Nat) (j : Int), ¬ ((a = 0 ∧ j = 13) ∨ a = (P + 10) ∨ a = (P + 11)) → c2 a j = c a j) → Z (.inr 101, Wd P Q P P c2, 1, 6)) (K : ∀ (c2 : ME) (y : Int), Iv u e P Q c2 → (∀ (a : Nat) (j : Int), ¬ ((a = 0 ∧ j = 13) ∨ a = (P + 10) ∨ a = (P + 11)) → c2 a j = c a j) → (-2147483648) ≤ y ∧ y ≤ 2147483647 → Z (.inl (some (vi y)), Wd P Q P P c2, 0, 0)) : Wp sc (d + 10) 105 0 [(0, .ref 0), (1, vi a1)] [] (Wd P Q P P c) 0 0 Z := by
  have hP := iv_P hI
  have hQ := iv_Q hI
  refine q_aload_n rfl rfl (q_iload_n rfl rfl (q_iconst rfl (q_iconst rfl (q_call rfl rfl rfl rfl (q_iload_n rfl rfl (q_iload_n rfl rfl ?_))))))
  by_cases h_19 : a1 < 0
  · refine v_ic_lt_t (t := 14) rfl rfl ⟨ha1.1, h_19, by decide⟩ (q_iconst rfl (v_zret rfl rfl (by decide) (bk_inl (v_cv rfl rfl rfl rfl (Nat.le_of_ble_eq_true rfl) ⟨⟨rfl, rfl⟩, Nat.le_of_ble_eq_true rfl, rfl⟩ (Nat.le_of_ble_eq_true rfl) (Nat.le_of_ble_eq_true rfl) (q_iload_n rfl rfl (v_if_ne_f (t := 25) rfl rfl (by decide) (q_aload_n rfl rfl ?_)))))))
    refine q_dup rfl rfl ?_
    have h_20 := ir_0_13 hI
    refine v_gi (z := 13) (v := c 0 13) rfl rfl rfl (Nat.le_of_ble_eq_true rfl) rfl rfl rfl (q_iconst rfl (v_iadd (v := c 0 13 + 1) rfl rfl (v_nrm (fun y_21 hy_21 => (v_pi (z := 13) rfl rfl rfl (Nat.le_of_ble_eq_true rfl) rfl rfl rfl (by decide) (v_new rfl rfl (by decide) (by omega) (Nat.le_of_ble_eq_true rfl) (by decide) rfl (bk_out rfl rfl ?_)))))))
    have hI_22 := iw_0_13 (v := y_21) hI ⟨hy_21.1, hy_21.2⟩
    exact T101 _ hI_22 (fun a j hm => up_b (Decidable.or_iff_not_imp_left.mpr (fun h1 h2 => hm (Or.inl ⟨Decidable.not_not.mp h1, h2⟩))))
  · refine v_ic_lt_f (t := 14) rfl rfl ⟨by decide, (Int.not_lt.mp h_19), ha1.2⟩ (q_iload_n rfl rfl (q_iload_n rfl rfl ?_))
    by_cases h_23 : a1 > 1
    · refine v_ic_gt_t (t := 14) rfl rfl ⟨by decide, h_23, ha1.2⟩ (q_iconst rfl (v_zret rfl rfl (by decide) (bk_inl (v_cv rfl rfl rfl rfl (Nat.le_of_ble_eq_true rfl) ⟨⟨rfl, rfl⟩, Nat.le_of_ble_eq_true rfl, rfl⟩ (Nat.le_of_ble_eq_true rfl) (Nat.le_of_ble_eq_true rfl) (q_iload_n rfl rfl (v_if_ne_f (t := 25) rfl rfl (by decide) (q_aload_n rfl rfl ?_)))))))
      refine q_dup rfl rfl ?_
      have h_24 := ir_0_13 hI
      refine v_gi (z := 13) (v := c 0 13) rfl rfl rfl (Nat.le_of_ble_eq_true rfl) rfl rfl rfl (q_iconst rfl (v_iadd (v := c 0 13 + 1) rfl rfl (v_nrm (fun y_25 hy_25 => (v_pi (z := 13) rfl rfl rfl (Nat.le_of_ble_eq_true rfl) rfl rfl rfl (by decide) (v_new rfl rfl (by decide) (by omega) (Nat.le_of_ble_eq_true rfl) (by decide) rfl (bk_out rfl rfl ?_)))))))
      have hI_26 := iw_0_13 (v := y_25) hI ⟨hy_25.1, hy_25.2⟩
      exact T101 _ hI_26 (fun a j hm => up_b (Decidable.or_iff_not_imp_left.mpr (fun h1 h2 => hm (Or.inl ⟨Decidable.not_not.mp h1, h2⟩))))
    · refine v_ic_gt_f (t := 14) rfl rfl ⟨ha1.1, (Int.not_lt.mp h_23), by decide⟩ (q_iconst rfl (q_goto (t := 15) rfl rfl (v_zret rfl rfl (by decide) (bk_inl (v_cv rfl rfl rfl rfl (Nat.le_of_ble_eq_true rfl) ⟨⟨rfl, rfl⟩, Nat.le_of_ble_eq_true rfl, rfl⟩ (Nat.le_of_ble_eq_true rfl) (Nat.le_of_ble_eq_true rfl) (q_iload_n rfl rfl (v_if_ne_t (t := 25) rfl rfl (by decide) ?_)))))))
      refine q_vret rfl rfl (bk_inl (q_iconst rfl (q_istore_n rfl (Nat.le_of_ble_eq_true rfl) (q_iconst rfl (q_istore_n rfl (Nat.le_of_ble_eq_true rfl) (q_iconst rfl (q_istore rfl (Nat.le_of_ble_eq_true rfl) ?_)))))))
      refine Wp_ls [(0, .ref 0), (1, vi a1), (2, vi (-1)), (3, vi (-1)), (4, vi 0)] (lsub_cons rfl (lsub_cons rfl (lsub_cons rfl (lsub_cons rfl (lsub_cons rfl lsub_nil))))) ?_
      exact (s_105_l (sc := sc) (d := d) hI ha1 T101 K 16) c (-1) (-1) 0 hI (fun a j hm => rfl) ⟨by decide, by decide⟩ ⟨by decide, by decide⟩ ⟨by decide, by decide⟩ (by omega)

set_option maxRecDepth 100000 in
set_option maxHeartbeats 4000000 in
theorem s_106_l {sc : List Int32} {e : Int} {d u P Q : Nat} {c : ME} {Z : AR → Prop} (hI : Iv u e P Q c)  (K : ∀ (c2 : ME) (y : Int), Iv u e P Q c2 → (∀ (a : Nat) (j : Int), ¬ (a = (P + 10) ∨ a = (P + 11)) → c2 a j = c a j) → (-2147483648) ≤ y ∧ y ≤ 2147483647 → Z (.inl (some (vi y)), Wd P Q P P c2, 0, 0)) : ∀ n : Nat, (∀ (c2 : ME) (v1 : Int) (v2 : Int), Iv u e P Q c2 → (∀ (a : Nat) (j : Int), ¬ (a = (P + 10) ∨ a = (P + 11)) → c2 a j = c a j) → (-2147483648) ≤ v1 ∧ v1 ≤ 2147483647 → 0 ≤ v2 ∧ v2 ≤ 6 → 13 - 2 * v2 < (n : Int) → Wp sc (d + 11) 106 4 [(0, .ref 0), (1, vi v1), (2, vi v2)] [] (Wd P Q P P c2) 0 0 Z)
  | 0 => by intro c2 v1 v2 hI2 hF hv1 hv2 hm9; have hP := iv_P hI; have hQ := iv_Q hI; exfalso; omega
  | n + 1 => by
    have hP := iv_P hI
    have hQ := iv_Q hI
    have ih := s_106_l (sc := sc) (d := d) hI K n
    intro c2 v1 v2 hI2 hF hv1 hv2 hm9
    refine q_iload_n rfl rfl (q_aload_n rfl rfl (v_gr (t := P) rfl rfl rfl (Nat.le_of_ble_eq_true rfl) rfl ?_))
    have h_1 := ir_p0_0 hI hP
    have kn_2 : Hid (c2 P 0 = c P 0) := hF P 0 (fun q => q.elim (fun h => absurd h (p0p rfl)) (fun h => absurd h (p0p rfl)))
    refine v_gi (z := 0) (v := c P 0) rfl rfl (ck_p0 hP) (a68z hP) rfl rfl (hid kn_2) ?_
    by_cases h_3 : v2 ≥ c P 0
    · refine v_ic_ge_t (t := 38) rfl rfl ⟨by first | exact q_730ab5169 h_1 | omega, h_3, (Int.le_trans hv2.2 (by decide))⟩ (q_iload_n rfl rfl (q_iret rfl rfl ?_))
      exact K c2 v1 hI2 (fun a j hm => hF a j (fun q => q.elim (fun h => hm (Or.inl h)) (fun h => hm (Or.inr h)))) hv1
    · refine v_ic_ge_f (t := 38) rfl rfl ⟨(Int.le_trans (by decide) hv2.1), (Int.not_le.mp h_3), by first | exact q_b289b7db2 h_1 | omega⟩ (q_aload_n rfl rfl (v_gr (t := 37) rfl rfl rfl (Nat.le_of_ble_eq_true rfl) rfl (q_iload_n rfl rfl (v_cv rfl rfl rfl rfl (Nat.le_of_ble_eq_true rfl) ⟨⟨rfl, rfl⟩, Nat.le_of_ble_eq_true rfl, rfl⟩ (Nat.le_of_ble_eq_true rfl) (Nat.le_of_ble_eq_true rfl) (s_57 (a1 := v2) hI2 (.inl ⟨rfl, rfl⟩) (show 0 ≤ v2 ∧ v2 ≤ 5 from ⟨hv2.1, by first | exact q_d63a8538e h_1 h_3 | omega⟩) (fun c_4 y_7 hI_5 hF_6 hy_7 => (bk_inl ?_)))))))
      by_cases h_8 : y_7 = 0
      · refine v_if_eq_t (t := 32) rfl rfl h_8 (v_iinc (v := v2 + 1) rfl rfl (Nat.le_of_ble_eq_true rfl) rfl (q_goto (t := 4) rfl rfl (Wp_ls [(0, .ref 0), (1, vi v1), (2, vi (v2 + 1))] (lsub_cons rfl (lsub_cons rfl (lsub_cons rfl lsub_nil))) ?_)))
        exact ih c_4 v1 (v2 + 1) hI_5 (fun a j hm => (hF_6 a j (fun q => q.elim (fun h => hm (Or.inl h)) (fun h => hm (Or.inr h)))).trans (hF a j (fun q => q.elim (fun h => hm (Or.inl h)) (fun h => hm (Or.inr h))))) hv1 ⟨by first | exact rgp_l hv2.1 (by decide) | omega, by first | exact q_4a76cd9c7 h_1 h_3 | omega⟩ (by omega)
      · refine v_if_eq_f (t := 32) rfl rfl ⟨h_8, ⟨(Int.le_trans (by decide) hy_7.1), (Int.le_trans hy_7.2 (by decide))⟩, by decide, by decide⟩ (q_iload_n rfl rfl (q_iconst rfl (q_iload_n rfl rfl (v_shl1 rfl ⟨by omega, by omega⟩ (fun y_9 hy_9 => (v_iorx rfl (fun y_10 hy_10 => (q_istore_n rfl (Nat.le_of_ble_eq_true rfl) (v_iinc (v := v2 + 1) rfl rfl (Nat.le_of_ble_eq_true rfl) rfl ?_)))))))))
        refine q_goto (t := 4) rfl rfl (Wp_ls [(0, .ref 0), (1, vi y_10), (2, vi (v2 + 1))] (lsub_cons rfl (lsub_cons rfl (lsub_cons rfl lsub_nil))) ?_)
        exact ih c_4 y_10 (v2 + 1) hI_5 (fun a j hm => (hF_6 a j (fun q => q.elim (fun h => hm (Or.inl h)) (fun h => hm (Or.inr h)))).trans (hF a j (fun q => q.elim (fun h => hm (Or.inl h)) (fun h => hm (Or.inr h))))) hy_10 ⟨by first | exact rgp_l hv2.1 (by decide) | omega, by first | exact q_4a76cd9c7 h_1 h_3 | (clear hv1 hv2 h_8; omega) | omega⟩ (by omega)
set_option maxRecDepth 100000 in
set_option maxHeartbeats 4000000 in
theorem s_106 {sc : List Int32} {e : Int} {d u P Q : Nat} {c : ME} {Z : AR → Prop} (hI : Iv u e P Q c)  (K : ∀ (c2 : ME) (y : Int), Iv u e P Q c2 → (∀ (a : Nat) (j : Int), ¬ (a = (P + 10) ∨ a = (P + 11)) → c2 a j = c a j) → (-2147483648) ≤ y ∧ y ≤ 2147483647 → Z (.inl (some (vi y)), Wd P Q P P c2, 0, 0)) : Wp sc (d + 11) 106 0 [(0, .ref 0)] [] (Wd P Q P P c) 0 0 Z := by
  have hP := iv_P hI
  have hQ := iv_Q hI
  refine q_iconst rfl (q_istore_n rfl (Nat.le_of_ble_eq_true rfl) (q_iconst rfl (q_istore_n rfl (Nat.le_of_ble_eq_true rfl) (Wp_ls [(0, .ref 0), (1, vi 0), (2, vi 0)] (lsub_cons rfl (lsub_cons rfl (lsub_cons rfl lsub_nil))) ?_))))
  exact (s_106_l (sc := sc) (d := d) hI K 16) c 0 0 hI (fun a j hm => rfl) ⟨by decide, by decide⟩ ⟨by decide, by decide⟩ (by omega)

set_option maxRecDepth 100000 in
set_option maxHeartbeats 4000000 in
theorem s_107_l {sc : List Int32} {e : Int} {d u P Q : Nat} {c : ME} {Z : AR → Prop} (hI : Iv u e P Q c)  (K : ∀ (c2 : ME) (y : Int), Iv u e P Q c2 → (∀ (a : Nat) (j : Int), ¬ (a = (P + 10) ∨ a = (P + 11)) → c2 a j = c a j) → (-2147483648) ≤ y ∧ y ≤ 2147483647 → Z (.inl (some (vi y)), Wd P Q P P c2, 0, 0)) : ∀ n : Nat, (∀ (c2 : ME) (v1 : Int) (v2 : Int), Iv u e P Q c2 → (∀ (a : Nat) (j : Int), ¬ (a = (P + 10) ∨ a = (P + 11)) → c2 a j = c a j) → (-2147483648) ≤ v1 ∧ v1 ≤ 2147483647 → 0 ≤ v2 ∧ v2 ≤ 6 → 13 - 2 * v2 < (n : Int) → Wp sc (d + 11) 107 4 [(0, .ref 0), (1, vi v1), (2, vi v2)] [] (Wd P Q P P c2) 0 0 Z)
  | 0 => by intro c2 v1 v2 hI2 hF hv1 hv2 hm9; have hP := iv_P hI; have hQ := iv_Q hI; exfalso; omega
  | n + 1 => by
    have hP := iv_P hI
    have hQ := iv_Q hI
    have ih := s_107_l (sc := sc) (d := d) hI K n
    intro c2 v1 v2 hI2 hF hv1 hv2 hm9
    refine q_iload_n rfl rfl (q_aload_n rfl rfl (v_gr (t := P) rfl rfl rfl (Nat.le_of_ble_eq_true rfl) rfl ?_))
    have h_1 := ir_p0_0 hI hP
    have kn_2 : Hid (c2 P 0 = c P 0) := hF P 0 (fun q => q.elim (fun h => absurd h (p0p rfl)) (fun h => absurd h (p0p rfl)))
    refine v_gi (z := 0) (v := c P 0) rfl rfl (ck_p0 hP) (a68z hP) rfl rfl (hid kn_2) ?_
    by_cases h_3 : v2 ≥ c P 0
    · refine v_ic_ge_t (t := 46) rfl rfl ⟨by first | exact q_730ab5169 h_1 | omega, h_3, (Int.le_trans hv2.2 (by decide))⟩ (q_iload_n rfl rfl (q_iret rfl rfl ?_))
      exact K c2 v1 hI2 (fun a j hm => hF a j (fun q => q.elim (fun h => hm (Or.inl h)) (fun h => hm (Or.inr h)))) hv1
    · refine v_ic_ge_f (t := 46) rfl rfl ⟨(Int.le_trans (by decide) hv2.1), (Int.not_le.mp h_3), by first | exact q_b289b7db2 h_1 | omega⟩ (q_aload_n rfl rfl (v_gr (t := 37) rfl rfl rfl (Nat.le_of_ble_eq_true rfl) rfl (q_iload_n rfl rfl (v_cv rfl rfl rfl rfl (Nat.le_of_ble_eq_true rfl) ⟨⟨rfl, rfl⟩, Nat.le_of_ble_eq_true rfl, rfl⟩ (Nat.le_of_ble_eq_true rfl) (Nat.le_of_ble_eq_true rfl) (s_57 (a1 := v2) hI2 (.inl ⟨rfl, rfl⟩) (show 0 ≤ v2 ∧ v2 ≤ 5 from ⟨hv2.1, by first | exact q_d63a8538e h_1 h_3 | omega⟩) (fun c_4 y_7 hI_5 hF_6 hy_7 => (bk_inl ?_)))))))
      by_cases h_8 : y_7 = 0
      · refine v_if_eq_t (t := 40) rfl rfl h_8 (v_iinc (v := v2 + 1) rfl rfl (Nat.le_of_ble_eq_true rfl) rfl (q_goto (t := 4) rfl rfl (Wp_ls [(0, .ref 0), (1, vi v1), (2, vi (v2 + 1))] (lsub_cons rfl (lsub_cons rfl (lsub_cons rfl lsub_nil))) ?_)))
        exact ih c_4 v1 (v2 + 1) hI_5 (fun a j hm => (hF_6 a j (fun q => q.elim (fun h => hm (Or.inl h)) (fun h => hm (Or.inr h)))).trans (hF a j (fun q => q.elim (fun h => hm (Or.inl h)) (fun h => hm (Or.inr h))))) hv1 ⟨by first | exact rgp_l hv2.1 (by decide) | omega, by first | exact q_4a76cd9c7 h_1 h_3 | omega⟩ (by omega)
      · refine v_if_eq_f (t := 40) rfl rfl ⟨h_8, ⟨(Int.le_trans (by decide) hy_7.1), (Int.le_trans hy_7.2 (by decide))⟩, by decide, by decide⟩ (q_iload_n rfl rfl (q_aload_n rfl rfl (v_gr (t := 37) rfl rfl rfl (Nat.le_of_ble_eq_true rfl) rfl (q_iload_n rfl rfl ?_))))
        have h_9 := ir_38_g hI (j := 4 * v2) (by first | exact q_aa51b186e h_1 h_3 | (clear hv1 hv2 h_8; omega) | omega)
        have kn_10 : Hid (c2 38 (4 * v2) = c 38 (4 * v2)) := hF 38 (4 * v2) (fun q => q.elim (fun h => absurd h (pn hP rfl rfl)) (fun h => absurd h (pn hP rfl rfl)))
        have kn_11 : Hid (c_4 38 (4 * v2) = c 38 (4 * v2)) := (hF_6 38 (4 * v2) (fun q => q.elim (fun h => absurd h (pn hP rfl rfl)) (fun h => absurd h (pn hP rfl rfl)))).trans (hid kn_10)
        have h_12 := ir_38_g hI (j := 4 * v2 + 1) (by first | exact q_57851f9de h_1 h_3 | (clear hv1 hv2 h_9 h_8; omega) | omega)
        have kn_13 : Hid (c2 38 (4 * v2 + 1) = c 38 (4 * v2 + 1)) := hF 38 (4 * v2 + 1) (fun q => q.elim (fun h => absurd h (pn hP rfl rfl)) (fun h => absurd h (pn hP rfl rfl)))
        have kn_14 : Hid (c_4 38 (4 * v2 + 1) = c 38 (4 * v2 + 1)) := (hF_6 38 (4 * v2 + 1) (fun q => q.elim (fun h => absurd h (pn hP rfl rfl)) (fun h => absurd h (pn hP rfl rfl)))).trans (hid kn_13)
        have h_15 := ir_38_g hI (j := 4 * v2 + 2) (by first | exact q_7296e74e6 h_1 h_3 | (clear hv1 hv2 h_9 h_12 h_8; omega) | omega)
        have kn_16 : Hid (c2 38 (4 * v2 + 2) = c 38 (4 * v2 + 2)) := hF 38 (4 * v2 + 2) (fun q => q.elim (fun h => absurd h (pn hP rfl rfl)) (fun h => absurd h (pn hP rfl rfl)))
        have kn_17 : Hid (c_4 38 (4 * v2 + 2) = c 38 (4 * v2 + 2)) := (hF_6 38 (4 * v2 + 2) (fun q => q.elim (fun h => absurd h (pn hP rfl rfl)) (fun h => absurd h (pn hP rfl rfl)))).trans (hid kn_16)
        have h_18 := ir_38_g hI (j := 4 * v2 + 3) (by first | exact q_b15525c4c h_1 h_3 | (clear hv1 hv2 h_9 h_12 h_15 h_8; omega) | omega)
        have kn_19 : Hid (c2 38 (4 * v2 + 3) = c 38 (4 * v2 + 3)) := hF 38 (4 * v2 + 3) (fun q => q.elim (fun h => absurd h (pn hP rfl rfl)) (fun h => absurd h (pn hP rfl rfl)))
        have kn_20 : Hid (c_4 38 (4 * v2 + 3) = c 38 (4 * v2 + 3)) := (hF_6 38 (4 * v2 + 3) (fun q => q.elim (fun h => absurd h (pn hP rfl rfl)) (fun h => absurd h (pn hP rfl rfl)))).trans (hid kn_19)
        refine v_cv rfl rfl rfl rfl (Nat.le_of_ble_eq_true rfl) ⟨⟨rfl, rfl⟩, Nat.le_of_ble_eq_true rfl, rfl⟩ (Nat.le_of_ble_eq_true rfl) (Nat.le_of_ble_eq_true rfl) (s_43 (v1 := c 38 (4 * v2)) (v2 := c 38 (4 * v2 + 1)) (v3 := c 38 (4 * v2 + 2)) (v4 := c 38 (4 * v2 + 3)) (r := c 38 (4 * v2 + 1) + c 38 (4 * v2 + 2) + c 38 (4 * v2 + 3) + c 38 (4 * v2)) (a1 := v2) hI_5 (.inl ⟨rfl, rfl⟩) (show 0 ≤ v2 ∧ v2 ≤ 5 from ⟨hv2.1, by first | exact q_d63a8538e h_1 h_3 | (clear hv1 hv2 h_8; omega) | omega⟩) ((hid kn_11)) ((hid kn_14)) ((hid kn_17)) ((hid kn_20)) (by omega) (bk_inl (v_bip rfl (by decide) (v_idiv (v := ((c 38 (4 * v2 + 1) + c 38 (4 * v2 + 2) + c 38 (4 * v2 + 3) + c 38 (4 * v2)) / 10)) rfl (by omega) rfl (v_iadd (v := ((c 38 (4 * v2 + 1) + c 38 (4 * v2 + 2) + c 38 (4 * v2 + 3) + c 38 (4 * v2)) / 10) + v1) rfl (by first | (clear hv1 hv2 h_1 h_3 h_9 h_12 h_15 h_18 h_8; omega) | omega) (v_nrm (fun y_21 hy_21 => (q_istore_n rfl (Nat.le_of_ble_eq_true rfl) (v_iinc (v := v2 + 1) rfl rfl (Nat.le_of_ble_eq_true rfl) rfl ?_)))))))))
        refine q_goto (t := 4) rfl rfl (Wp_ls [(0, .ref 0), (1, vi y_21), (2, vi (v2 + 1))] (lsub_cons rfl (lsub_cons rfl (lsub_cons rfl lsub_nil))) ?_)
        exact ih c_4 y_21 (v2 + 1) hI_5 (fun a j hm => (hF_6 a j (fun q => q.elim (fun h => hm (Or.inl h)) (fun h => hm (Or.inr h)))).trans (hF a j (fun q => q.elim (fun h => hm (Or.inl h)) (fun h => hm (Or.inr h))))) hy_21 ⟨by first | exact rgp_l hv2.1 (by decide) | omega, by first | exact q_4a76cd9c7 h_1 h_3 | (clear hv1 hv2 h_9 h_12 h_15 h_18 h_8; omega) | omega⟩ (by omega)
set_option maxRecDepth 100000 in
set_option maxHeartbeats 4000000 in
theorem s_107 {sc : List Int32} {e : Int} {d u P Q : Nat} {c : ME} {Z : AR → Prop} (hI : Iv u e P Q c)  (K : ∀ (c2 : ME) (y : Int), Iv u e P Q c2 → (∀ (a : Nat) (j : Int), ¬ (a = (P + 10) ∨ a = (P + 11)) → c2 a j = c a j) → (-2147483648) ≤ y ∧ y ≤ 2147483647 → Z (.inl (some (vi y)), Wd P Q P P c2, 0, 0)) : Wp sc (d + 11) 107 0 [(0, .ref 0)] [] (Wd P Q P P c) 0 0 Z := by
  have hP := iv_P hI
  have hQ := iv_Q hI
  refine q_iconst rfl (q_istore_n rfl (Nat.le_of_ble_eq_true rfl) (q_iconst rfl (q_istore_n rfl (Nat.le_of_ble_eq_true rfl) (Wp_ls [(0, .ref 0), (1, vi 0), (2, vi 0)] (lsub_cons rfl (lsub_cons rfl (lsub_cons rfl lsub_nil))) ?_))))
  exact (s_107_l (sc := sc) (d := d) hI K 16) c 0 0 hI (fun a j hm => rfl) ⟨by decide, by decide⟩ ⟨by decide, by decide⟩ (by omega)

set_option maxRecDepth 100000 in
set_option maxHeartbeats 4000000 in
theorem s_108 {sc : List Int32} {d P Q : Nat} {c : ME} {a1 : Int} {a2 : Int} {Z : AR → Prop} (hI : Iv 0 (-1) P Q c) (ha1 : (-2147483648) ≤ a1 ∧ a1 ≤ 2147483647) (ha2 : (-2147483648) ≤ a2 ∧ a2 ≤ 2147483647) (T100 : ∀ c2 : ME, Iv 0 (-1) P Q c2 → (∀ (a : Nat) (j : Int), ¬ ((a = 0 ∧ j = 12) ∨ a = (P + 10) ∨ a = (P + 11) ∨ a = 40) → c2 a j = c a j) → Z (.inr 100, Wd P Q P P c2, 1, 6)) (K : ∀ (c2 : ME) (y : Int), Iv 0 (-1) P Q c2 → (∀ (a : Nat) (j : Int), ¬ ((a = 0 ∧ j = 12) ∨ a = (P + 10) ∨ a = (P + 11) ∨ a = 40) → c2 a j = c a j) → (-2147483648) ≤ y ∧ y ≤ 2147483647 → Z (.inl (some (vi y)), Wd P Q P P c2, 0, 0)) : Wp sc (d + 11) 108 0 [(0, .ref 0), (1, vi a1), (2, vi a2)] [] (Wd P Q P P c) 0 0 Z := by
  have hP := iv_P hI
  have hQ := iv_Q hI
  refine q_aload_n rfl rfl (q_iload_n rfl rfl (v_cv rfl rfl rfl rfl (Nat.le_of_ble_eq_true rfl) ⟨⟨rfl, rfl⟩, Nat.le_of_ble_eq_true rfl, rfl⟩ (Nat.le_of_ble_eq_true rfl) (Nat.le_of_ble_eq_true rfl) (q_aload_n rfl rfl (q_iload_n rfl rfl (q_iconst rfl (q_aload_n rfl rfl (v_gr (t := P) rfl rfl rfl (Nat.le_of_ble_eq_true rfl) rfl ?_)))))))
  have h_1 := ir_p0_0 hI hP
  refine v_gi (z := 0) (v := c P 0) rfl rfl (ck_p0 hP) (a68z hP) rfl rfl rfl (q_iconst rfl (v_isub (v := c P 0 - 1) rfl rfl (q_call rfl rfl rfl rfl (q_iload_n rfl rfl (q_iload_n rfl rfl ?_)))))
  by_cases h_2 : a1 < 0
  · refine v_ic_lt_t (t := 14) rfl rfl ⟨ha1.1, h_2, by decide⟩ (q_iconst rfl (v_zret rfl rfl (by decide) (bk_inl (v_cv rfl rfl rfl rfl (Nat.le_of_ble_eq_true rfl) ⟨⟨rfl, rfl⟩, Nat.le_of_ble_eq_true rfl, rfl⟩ (Nat.le_of_ble_eq_true rfl) (Nat.le_of_ble_eq_true rfl) (q_iload_n rfl rfl (v_if_ne_f (t := 25) rfl rfl (by decide) (q_aload_n rfl rfl ?_)))))))
    refine q_dup rfl rfl ?_
    have h_3 := ir_0_12 hI
    refine v_gi (z := 12) (v := c 0 12) rfl rfl rfl (Nat.le_of_ble_eq_true rfl) rfl rfl rfl (q_iconst rfl (v_iadd (v := c 0 12 + 1) rfl rfl (v_nrm (fun y_4 hy_4 => (v_pi (z := 12) rfl rfl rfl (Nat.le_of_ble_eq_true rfl) rfl rfl rfl (by decide) (v_new rfl rfl (by decide) (by omega) (Nat.le_of_ble_eq_true rfl) (by decide) rfl (bk_out rfl rfl (bk_out rfl rfl ?_))))))))
    have hI_5 := iw_0_12 (v := y_4) hI ⟨hy_4.1, hy_4.2⟩
    exact T100 _ hI_5 (fun a j hm => up_b (Decidable.or_iff_not_imp_left.mpr (fun h1 h2 => hm (Or.inl ⟨Decidable.not_not.mp h1, h2⟩))))
  · refine v_ic_lt_f (t := 14) rfl rfl ⟨by decide, (Int.not_lt.mp h_2), ha1.2⟩ (q_iload_n rfl rfl (q_iload_n rfl rfl ?_))
    by_cases h_6 : a1 > c P 0 - 1
    · refine v_ic_gt_t (t := 14) rfl rfl ⟨by first | exact rgm_l h_1.1 (by decide) | omega, h_6, ha1.2⟩ (q_iconst rfl (v_zret rfl rfl (by decide) (bk_inl (v_cv rfl rfl rfl rfl (Nat.le_of_ble_eq_true rfl) ⟨⟨rfl, rfl⟩, Nat.le_of_ble_eq_true rfl, rfl⟩ (Nat.le_of_ble_eq_true rfl) (Nat.le_of_ble_eq_true rfl) (q_iload_n rfl rfl (v_if_ne_f (t := 25) rfl rfl (by decide) (q_aload_n rfl rfl ?_)))))))
      refine q_dup rfl rfl ?_
      have h_7 := ir_0_12 hI
      refine v_gi (z := 12) (v := c 0 12) rfl rfl rfl (Nat.le_of_ble_eq_true rfl) rfl rfl rfl (q_iconst rfl (v_iadd (v := c 0 12 + 1) rfl rfl (v_nrm (fun y_8 hy_8 => (v_pi (z := 12) rfl rfl rfl (Nat.le_of_ble_eq_true rfl) rfl rfl rfl (by decide) (v_new rfl rfl (by decide) (by omega) (Nat.le_of_ble_eq_true rfl) (by decide) rfl (bk_out rfl rfl (bk_out rfl rfl ?_))))))))
      have hI_9 := iw_0_12 (v := y_8) hI ⟨hy_8.1, hy_8.2⟩
      exact T100 _ hI_9 (fun a j hm => up_b (Decidable.or_iff_not_imp_left.mpr (fun h1 h2 => hm (Or.inl ⟨Decidable.not_not.mp h1, h2⟩))))
    · refine v_ic_gt_f (t := 14) rfl rfl ⟨ha1.1, (Int.not_lt.mp h_6), by first | exact rgm_h h_1.2 (by decide) | omega⟩ (q_iconst rfl (q_goto (t := 15) rfl rfl (v_zret rfl rfl (by decide) (bk_inl (v_cv rfl rfl rfl rfl (Nat.le_of_ble_eq_true rfl) ⟨⟨rfl, rfl⟩, Nat.le_of_ble_eq_true rfl, rfl⟩ (Nat.le_of_ble_eq_true rfl) (Nat.le_of_ble_eq_true rfl) (q_iload_n rfl rfl (v_if_ne_t (t := 25) rfl rfl (by decide) ?_)))))))
      refine q_vret rfl rfl (bk_inl (q_vret rfl rfl (bk_inl (q_aload_n rfl rfl (q_iload_n rfl rfl (v_cv rfl rfl rfl rfl (Nat.le_of_ble_eq_true rfl) ⟨⟨rfl, rfl⟩, Nat.le_of_ble_eq_true rfl, rfl⟩ (Nat.le_of_ble_eq_true rfl) (Nat.le_of_ble_eq_true rfl) (q_aload_n rfl rfl ?_)))))))
      refine q_iload_n rfl rfl (q_iconst rfl (q_aload_n rfl rfl (v_gr (t := P) rfl rfl rfl (Nat.le_of_ble_eq_true rfl) rfl (v_gi (z := 0) (v := c P 0) rfl rfl (ck_p0 hP) (a68z hP) rfl rfl rfl (q_iconst rfl (v_isub (v := c P 0 - 1) rfl rfl (q_call rfl rfl rfl rfl ?_)))))))
      refine q_iload_n rfl rfl (q_iload_n rfl rfl ?_)
      by_cases h_10 : a2 < 0
      · refine v_ic_lt_t (t := 14) rfl rfl ⟨ha2.1, h_10, by decide⟩ (q_iconst rfl (v_zret rfl rfl (by decide) (bk_inl (v_cv rfl rfl rfl rfl (Nat.le_of_ble_eq_true rfl) ⟨⟨rfl, rfl⟩, Nat.le_of_ble_eq_true rfl, rfl⟩ (Nat.le_of_ble_eq_true rfl) (Nat.le_of_ble_eq_true rfl) (q_iload_n rfl rfl (v_if_ne_f (t := 25) rfl rfl (by decide) (q_aload_n rfl rfl ?_)))))))
        refine q_dup rfl rfl ?_
        have h_11 := ir_0_12 hI
        refine v_gi (z := 12) (v := c 0 12) rfl rfl rfl (Nat.le_of_ble_eq_true rfl) rfl rfl rfl (q_iconst rfl (v_iadd (v := c 0 12 + 1) rfl rfl (v_nrm (fun y_12 hy_12 => (v_pi (z := 12) rfl rfl rfl (Nat.le_of_ble_eq_true rfl) rfl rfl rfl (by decide) (v_new rfl rfl (by decide) (by omega) (Nat.le_of_ble_eq_true rfl) (by decide) rfl (bk_out rfl rfl (bk_out rfl rfl ?_))))))))
        have hI_13 := iw_0_12 (v := y_12) hI ⟨hy_12.1, hy_12.2⟩
        exact T100 _ hI_13 (fun a j hm => up_b (Decidable.or_iff_not_imp_left.mpr (fun h1 h2 => hm (Or.inl ⟨Decidable.not_not.mp h1, h2⟩))))
      · refine v_ic_lt_f (t := 14) rfl rfl ⟨by decide, (Int.not_lt.mp h_10), ha2.2⟩ (q_iload_n rfl rfl (q_iload_n rfl rfl ?_))
        by_cases h_14 : a2 > c P 0 - 1
        · refine v_ic_gt_t (t := 14) rfl rfl ⟨by first | exact rgm_l h_1.1 (by decide) | omega, h_14, ha2.2⟩ (q_iconst rfl (v_zret rfl rfl (by decide) (bk_inl (v_cv rfl rfl rfl rfl (Nat.le_of_ble_eq_true rfl) ⟨⟨rfl, rfl⟩, Nat.le_of_ble_eq_true rfl, rfl⟩ (Nat.le_of_ble_eq_true rfl) (Nat.le_of_ble_eq_true rfl) (q_iload_n rfl rfl (v_if_ne_f (t := 25) rfl rfl (by decide) (q_aload_n rfl rfl ?_)))))))
          refine q_dup rfl rfl ?_
          have h_15 := ir_0_12 hI
          refine v_gi (z := 12) (v := c 0 12) rfl rfl rfl (Nat.le_of_ble_eq_true rfl) rfl rfl rfl (q_iconst rfl (v_iadd (v := c 0 12 + 1) rfl rfl (v_nrm (fun y_16 hy_16 => (v_pi (z := 12) rfl rfl rfl (Nat.le_of_ble_eq_true rfl) rfl rfl rfl (by decide) (v_new rfl rfl (by decide) (by omega) (Nat.le_of_ble_eq_true rfl) (by decide) rfl (bk_out rfl rfl (bk_out rfl rfl ?_))))))))
          have hI_17 := iw_0_12 (v := y_16) hI ⟨hy_16.1, hy_16.2⟩
          exact T100 _ hI_17 (fun a j hm => up_b (Decidable.or_iff_not_imp_left.mpr (fun h1 h2 => hm (Or.inl ⟨Decidable.not_not.mp h1, h2⟩))))
        · refine v_ic_gt_f (t := 14) rfl rfl ⟨ha2.1, (Int.not_lt.mp h_14), by first | exact rgm_h h_1.2 (by decide) | omega⟩ (q_iconst rfl (q_goto (t := 15) rfl rfl (v_zret rfl rfl (by decide) (bk_inl (v_cv rfl rfl rfl rfl (Nat.le_of_ble_eq_true rfl) ⟨⟨rfl, rfl⟩, Nat.le_of_ble_eq_true rfl, rfl⟩ (Nat.le_of_ble_eq_true rfl) (Nat.le_of_ble_eq_true rfl) (q_iload_n rfl rfl (v_if_ne_t (t := 25) rfl rfl (by decide) ?_)))))))
          refine q_vret rfl rfl (bk_inl (q_vret rfl rfl (bk_inl (q_aload_n rfl rfl (v_gr (t := 39) rfl rfl rfl (Nat.le_of_ble_eq_true rfl) rfl (q_aload_n rfl rfl (v_gr (t := 37) rfl rfl rfl (Nat.le_of_ble_eq_true rfl) rfl ?_)))))))
          refine v_cv rfl rfl rfl rfl (Nat.le_of_ble_eq_true rfl) ⟨⟨rfl, rfl⟩, Nat.le_of_ble_eq_true rfl, rfl⟩ (Nat.le_of_ble_eq_true rfl) (Nat.le_of_ble_eq_true rfl) (s_66 hI (fun c_18 hI_19 hF_20 => (bk_inl (q_aload_n rfl rfl (v_gr (t := 39) rfl rfl rfl (Nat.le_of_ble_eq_true rfl) rfl (q_iload_n rfl rfl (q_iload_n rfl rfl (v_cv rfl rfl rfl rfl (Nat.le_of_ble_eq_true rfl) ⟨⟨rfl, rfl⟩, Nat.le_of_ble_eq_true rfl, rfl⟩ (Nat.le_of_ble_eq_true rfl) (Nat.le_of_ble_eq_true rfl) (s_55 (a1 := a1) (a2 := a2) hI_19 (.inr ⟨rfl, rfl⟩) (show 0 ≤ a1 ∧ a1 ≤ 5 from ⟨by first | exact q_720657ba9 h_2 | omega, by first | exact q_3a2e67ab0 h_1 h_6 | omega⟩) (show 0 ≤ a2 ∧ a2 ≤ 5 from ⟨by first | exact q_720657ba9 h_10 | omega, by first | exact q_3a2e67ab0 h_1 h_14 | omega⟩) (fun c_21 y_24 hI_22 hF_23 hy_24 => (bk_inl ?_)))))))))))
          by_cases h_25 : y_24 = 0
          · refine v_if_eq_t (t := 44) rfl rfl h_25 (q_iconst rfl (q_iret rfl rfl ?_))
            exact K c_21 (-1) hI_22 (fun a j hm => (hF_23 a j (fun h => hm (Or.inr (Or.inr (Or.inr h))))).trans (hF_20 a j (fun h => hm (Or.inr (Or.inr (Or.inr h)))))) ⟨by decide, by decide⟩
          · refine v_if_eq_f (t := 44) rfl rfl ⟨h_25, ⟨(Int.le_trans (by decide) hy_24.1), (Int.le_trans hy_24.2 (by decide))⟩, by decide, by decide⟩ (q_aload_n rfl rfl (v_gr (t := 39) rfl rfl rfl (Nat.le_of_ble_eq_true rfl) rfl (q_iload_n rfl rfl (v_cv rfl rfl rfl rfl (Nat.le_of_ble_eq_true rfl) ⟨⟨rfl, rfl⟩, Nat.le_of_ble_eq_true rfl, rfl⟩ (Nat.le_of_ble_eq_true rfl) (Nat.le_of_ble_eq_true rfl) (s_56 (a1 := a2) hI_22 (.inr ⟨rfl, rfl⟩) (show 0 ≤ a2 ∧ a2 ≤ 5 from ⟨by first | exact q_720657ba9 h_10 | (clear ha1 ha2 h_1 h_2 h_6 h_14 h_25; omega) | omega, by first | exact q_3a2e67ab0 h_1 h_14 | (clear ha1 ha2 h_2 h_6 h_10 h_25; omega) | omega⟩) (fun c_26 y_29 hI_27 hF_28 hy_29 => (bk_inl (q_goto (t := 45) rfl rfl (q_iret rfl rfl ?_)))))))))
            exact K c_26 y_29 hI_27 (fun a j hm => (hF_28 a j (fun q => q.elim (fun h => hm (Or.inr (Or.inl h))) (fun h => hm (Or.inr (Or.inr (Or.inl h)))))).trans ((hF_23 a j (fun h => hm (Or.inr (Or.inr (Or.inr h))))).trans (hF_20 a j (fun h => hm (Or.inr (Or.inr (Or.inr h))))))) ⟨(Int.le_trans (by decide) hy_29.1), (Int.le_trans hy_29.2 (by decide))⟩

set_option maxRecDepth 100000 in
set_option maxHeartbeats 4000000 in
theorem s_109_l {sc : List Int32} {d P Q : Nat} {c : ME} {a1 : Int} {Z : AR → Prop} (hI : Iv 0 (-1) P Q c) (ha1 : (-2147483648) ≤ a1 ∧ a1 ≤ 2147483647) (T100 : ∀ c2 : ME, Iv 0 (-1) P Q c2 → (∀ (a : Nat) (j : Int), ¬ ((a = 0 ∧ j = 12) ∨ a = (P + 10) ∨ a = (P + 11) ∨ a = 40) → c2 a j = c a j) → Z (.inr 100, Wd P Q P P c2, 1, 6)) (K : ∀ (c2 : ME) (y : Int), Iv 0 (-1) P Q c2 → (∀ (a : Nat) (j : Int), ¬ ((a = 0 ∧ j = 12) ∨ a = (P + 10) ∨ a = (P + 11) ∨ a = 40) → c2 a j = c a j) → (-2147483648) ≤ y ∧ y ≤ 2147483647 → Z (.inl (some (vi y)), Wd P Q P P c2, 0, 0)) : ∀ n : Nat, (∀ (c2 : ME) (v2 : Int), Iv 0 (-1) P Q c2 → (∀ (a : Nat) (j : Int), ¬ ((a = 0 ∧ j = 12) ∨ a = (P + 10) ∨ a = (P + 11) ∨ a = 40) → c2 a j = c a j) → 0 ≤ v2 ∧ v2 ≤ 100 → ((a1 ≥ 0 ∧ a1 ≤ 5)) → 201 - 2 * v2 < (n : Int) → Wp sc (d + 11) 109 18 [(0, .ref 0), (1, vi a1), (2, vi v2)] [] (Wd P Q P P c2) 0 0 Z)
  | 0 => by intro c2 v2 hI2 hF hv2 hx0 hm9; have hP := iv_P hI; have hQ := iv_Q hI; exfalso; omega
  | n + 1 => by
    have hP := iv_P hI
    have hQ := iv_Q hI
    have ih := s_109_l (sc := sc) (d := d) hI ha1 T100 K n
    intro c2 v2 hI2 hF hv2 hx0 hm9
    refine q_iload_n rfl rfl (v_bip rfl (by decide) ?_)
    by_cases h_1 : v2 > 99
    · refine v_ic_gt_t (t := 55) rfl rfl ⟨by decide, h_1, (Int.le_trans hv2.2 (by decide))⟩ (q_iconst rfl (q_iret rfl rfl ?_))
      exact K c2 (-1) hI2 (fun a j hm => hF a j (fun q => q.elim (fun h => hm (Or.inl h)) (fun q => q.elim (fun h => hm (Or.inr (Or.inl h))) (fun q => q.elim (fun h => hm (Or.inr (Or.inr (Or.inl h)))) (fun h => hm (Or.inr (Or.inr (Or.inr h)))))))) ⟨by decide, by decide⟩
    · refine v_ic_gt_f (t := 55) rfl rfl ⟨(Int.le_trans (by decide) hv2.1), (Int.not_lt.mp h_1), by decide⟩ (q_aload_n rfl rfl (v_gr (t := 39) rfl rfl rfl (Nat.le_of_ble_eq_true rfl) rfl (q_iload_n rfl rfl (v_cv rfl rfl rfl rfl (Nat.le_of_ble_eq_true rfl) ⟨⟨rfl, rfl⟩, Nat.le_of_ble_eq_true rfl, rfl⟩ (Nat.le_of_ble_eq_true rfl) (Nat.le_of_ble_eq_true rfl) (s_57 (a1 := a1) hI2 (.inr ⟨rfl, rfl⟩) (show 0 ≤ a1 ∧ a1 ≤ 5 from ⟨by omega, by omega⟩) (fun c_2 y_5 hI_3 hF_4 hy_5 => (bk_inl ?_)))))))
      by_cases h_6 : y_5 = 0
      · refine v_if_eq_t (t := 37) rfl rfl h_6 (q_aload_n rfl rfl (v_gr (t := 39) rfl rfl rfl (Nat.le_of_ble_eq_true rfl) rfl (v_cv rfl rfl rfl rfl (Nat.le_of_ble_eq_true rfl) ⟨⟨rfl, rfl⟩, Nat.le_of_ble_eq_true rfl, rfl⟩ (Nat.le_of_ble_eq_true rfl) (Nat.le_of_ble_eq_true rfl) (s_60 hI_3 (.inr ⟨rfl, rfl⟩) (fun c_7 y_10 hI_8 hF_9 hy_10 => (bk_inl ?_))))))
        by_cases h_11 : y_10 ≠ 0
        · refine v_if_ne_t (t := 49) rfl rfl ⟨h_11, ⟨(Int.le_trans (by decide) hy_10.1), (Int.le_trans hy_10.2 (by decide))⟩, by decide, by decide⟩ (v_iinc (v := v2 + 1) rfl rfl (Nat.le_of_ble_eq_true rfl) rfl (q_goto (t := 18) rfl rfl (Wp_ls [(0, .ref 0), (1, vi a1), (2, vi (v2 + 1))] (lsub_cons rfl (lsub_cons rfl (lsub_cons rfl lsub_nil))) ?_)))
          exact ih c_7 (v2 + 1) hI_8 (fun a j hm => (hF_9 a j (fun h => hm (Or.inr (Or.inr (Or.inr h))))).trans ((hF_4 a j (fun q => q.elim (fun h => hm (Or.inr (Or.inl h))) (fun h => hm (Or.inr (Or.inr (Or.inl h)))))).trans (hF a j (fun q => q.elim (fun h => hm (Or.inl h)) (fun q => q.elim (fun h => hm (Or.inr (Or.inl h))) (fun q => q.elim (fun h => hm (Or.inr (Or.inr (Or.inl h)))) (fun h => hm (Or.inr (Or.inr (Or.inr h)))))))))) ⟨by first | exact rgp_l hv2.1 (by decide) | omega, by first | exact q_1eecf77db h_1 | (clear ha1 hv2 hx0 h_6 h_11; omega) | omega⟩ ⟨by first | (clear ha1 hv2 h_1 h_6 h_11; omega) | omega, by first | (clear ha1 hv2 h_1 h_6 h_11; omega) | omega⟩ (by omega)
        · refine v_if_ne_f (t := 49) rfl rfl (Decidable.not_not.mp h_11) (q_iconst rfl (q_iret rfl rfl ?_))
          exact K c_7 (-1) hI_8 (fun a j hm => (hF_9 a j (fun h => hm (Or.inr (Or.inr (Or.inr h))))).trans ((hF_4 a j (fun q => q.elim (fun h => hm (Or.inr (Or.inl h))) (fun h => hm (Or.inr (Or.inr (Or.inl h)))))).trans (hF a j (fun q => q.elim (fun h => hm (Or.inl h)) (fun q => q.elim (fun h => hm (Or.inr (Or.inl h))) (fun q => q.elim (fun h => hm (Or.inr (Or.inr (Or.inl h)))) (fun h => hm (Or.inr (Or.inr (Or.inr h)))))))))) ⟨by decide, by decide⟩
      · refine v_if_eq_f (t := 37) rfl rfl ⟨h_6, ⟨(Int.le_trans (by decide) hy_5.1), (Int.le_trans hy_5.2 (by decide))⟩, by decide, by decide⟩ (q_iload_n rfl rfl (q_iret rfl rfl ?_))
        exact K c_2 v2 hI_3 (fun a j hm => (hF_4 a j (fun q => q.elim (fun h => hm (Or.inr (Or.inl h))) (fun h => hm (Or.inr (Or.inr (Or.inl h)))))).trans (hF a j (fun q => q.elim (fun h => hm (Or.inl h)) (fun q => q.elim (fun h => hm (Or.inr (Or.inl h))) (fun q => q.elim (fun h => hm (Or.inr (Or.inr (Or.inl h)))) (fun h => hm (Or.inr (Or.inr (Or.inr h))))))))) ⟨(Int.le_trans (by decide) hv2.1), (Int.le_trans hv2.2 (by decide))⟩
set_option maxRecDepth 100000 in
set_option maxHeartbeats 4000000 in
theorem s_109 {sc : List Int32} {d P Q : Nat} {c : ME} {a1 : Int} {Z : AR → Prop} (hI : Iv 0 (-1) P Q c) (ha1 : (-2147483648) ≤ a1 ∧ a1 ≤ 2147483647) (T100 : ∀ c2 : ME, Iv 0 (-1) P Q c2 → (∀ (a : Nat) (j : Int), ¬ ((a = 0 ∧ j = 12) ∨ a = (P + 10) ∨ a = (P + 11) ∨ a = 40) → c2 a j = c a j) → Z (.inr 100, Wd P Q P P c2, 1, 6)) (K : ∀ (c2 : ME) (y : Int), Iv 0 (-1) P Q c2 → (∀ (a : Nat) (j : Int), ¬ ((a = 0 ∧ j = 12) ∨ a = (P + 10) ∨ a = (P + 11) ∨ a = 40) → c2 a j = c a j) → (-2147483648) ≤ y ∧ y ≤ 2147483647 → Z (.inl (some (vi y)), Wd P Q P P c2, 0, 0)) : Wp sc (d + 11) 109 0 [(0, .ref 0), (1, vi a1)] [] (Wd P Q P P c) 0 0 Z := by
  have hP := iv_P hI
  have hQ := iv_Q hI
  refine q_aload_n rfl rfl (q_iload_n rfl rfl (v_cv rfl rfl rfl rfl (Nat.le_of_ble_eq_true rfl) ⟨⟨rfl, rfl⟩, Nat.le_of_ble_eq_true rfl, rfl⟩ (Nat.le_of_ble_eq_true rfl) (Nat.le_of_ble_eq_true rfl) (q_aload_n rfl rfl (q_iload_n rfl rfl (q_iconst rfl (q_aload_n rfl rfl (v_gr (t := P) rfl rfl rfl (Nat.le_of_ble_eq_true rfl) rfl ?_)))))))
  have h_12 := ir_p0_0 hI hP
  refine v_gi (z := 0) (v := c P 0) rfl rfl (ck_p0 hP) (a68z hP) rfl rfl rfl (q_iconst rfl (v_isub (v := c P 0 - 1) rfl rfl (q_call rfl rfl rfl rfl (q_iload_n rfl rfl (q_iload_n rfl rfl ?_)))))
  by_cases h_13 : a1 < 0
  · refine v_ic_lt_t (t := 14) rfl rfl ⟨ha1.1, h_13, by decide⟩ (q_iconst rfl (v_zret rfl rfl (by decide) (bk_inl (v_cv rfl rfl rfl rfl (Nat.le_of_ble_eq_true rfl) ⟨⟨rfl, rfl⟩, Nat.le_of_ble_eq_true rfl, rfl⟩ (Nat.le_of_ble_eq_true rfl) (Nat.le_of_ble_eq_true rfl) (q_iload_n rfl rfl (v_if_ne_f (t := 25) rfl rfl (by decide) (q_aload_n rfl rfl ?_)))))))
    refine q_dup rfl rfl ?_
    have h_14 := ir_0_12 hI
    refine v_gi (z := 12) (v := c 0 12) rfl rfl rfl (Nat.le_of_ble_eq_true rfl) rfl rfl rfl (q_iconst rfl (v_iadd (v := c 0 12 + 1) rfl rfl (v_nrm (fun y_15 hy_15 => (v_pi (z := 12) rfl rfl rfl (Nat.le_of_ble_eq_true rfl) rfl rfl rfl (by decide) (v_new rfl rfl (by decide) (by omega) (Nat.le_of_ble_eq_true rfl) (by decide) rfl (bk_out rfl rfl (bk_out rfl rfl ?_))))))))
    have hI_16 := iw_0_12 (v := y_15) hI ⟨hy_15.1, hy_15.2⟩
    exact T100 _ hI_16 (fun a j hm => up_b (Decidable.or_iff_not_imp_left.mpr (fun h1 h2 => hm (Or.inl ⟨Decidable.not_not.mp h1, h2⟩))))
  · refine v_ic_lt_f (t := 14) rfl rfl ⟨by decide, (Int.not_lt.mp h_13), ha1.2⟩ (q_iload_n rfl rfl (q_iload_n rfl rfl ?_))
    by_cases h_17 : a1 > c P 0 - 1
    · refine v_ic_gt_t (t := 14) rfl rfl ⟨by first | exact rgm_l h_12.1 (by decide) | omega, h_17, ha1.2⟩ (q_iconst rfl (v_zret rfl rfl (by decide) (bk_inl (v_cv rfl rfl rfl rfl (Nat.le_of_ble_eq_true rfl) ⟨⟨rfl, rfl⟩, Nat.le_of_ble_eq_true rfl, rfl⟩ (Nat.le_of_ble_eq_true rfl) (Nat.le_of_ble_eq_true rfl) (q_iload_n rfl rfl (v_if_ne_f (t := 25) rfl rfl (by decide) (q_aload_n rfl rfl ?_)))))))
      refine q_dup rfl rfl ?_
      have h_18 := ir_0_12 hI
      refine v_gi (z := 12) (v := c 0 12) rfl rfl rfl (Nat.le_of_ble_eq_true rfl) rfl rfl rfl (q_iconst rfl (v_iadd (v := c 0 12 + 1) rfl rfl (v_nrm (fun y_19 hy_19 => (v_pi (z := 12) rfl rfl rfl (Nat.le_of_ble_eq_true rfl) rfl rfl rfl (by decide) (v_new rfl rfl (by decide) (by omega) (Nat.le_of_ble_eq_true rfl) (by decide) rfl (bk_out rfl rfl (bk_out rfl rfl ?_))))))))
      have hI_20 := iw_0_12 (v := y_19) hI ⟨hy_19.1, hy_19.2⟩
      exact T100 _ hI_20 (fun a j hm => up_b (Decidable.or_iff_not_imp_left.mpr (fun h1 h2 => hm (Or.inl ⟨Decidable.not_not.mp h1, h2⟩))))
    · refine v_ic_gt_f (t := 14) rfl rfl ⟨ha1.1, (Int.not_lt.mp h_17), by first | exact rgm_h h_12.2 (by decide) | omega⟩ (q_iconst rfl (q_goto (t := 15) rfl rfl (v_zret rfl rfl (by decide) (bk_inl (v_cv rfl rfl rfl rfl (Nat.le_of_ble_eq_true rfl) ⟨⟨rfl, rfl⟩, Nat.le_of_ble_eq_true rfl, rfl⟩ (Nat.le_of_ble_eq_true rfl) (Nat.le_of_ble_eq_true rfl) (q_iload_n rfl rfl (v_if_ne_t (t := 25) rfl rfl (by decide) ?_)))))))
      refine q_vret rfl rfl (bk_inl (q_vret rfl rfl (bk_inl (q_aload_n rfl rfl (v_gr (t := 39) rfl rfl rfl (Nat.le_of_ble_eq_true rfl) rfl (q_aload_n rfl rfl (v_gr (t := 37) rfl rfl rfl (Nat.le_of_ble_eq_true rfl) rfl ?_)))))))
      refine v_cv rfl rfl rfl rfl (Nat.le_of_ble_eq_true rfl) ⟨⟨rfl, rfl⟩, Nat.le_of_ble_eq_true rfl, rfl⟩ (Nat.le_of_ble_eq_true rfl) (Nat.le_of_ble_eq_true rfl) (s_66 hI (fun c_21 hI_22 hF_23 => (bk_inl (q_iconst rfl (q_istore_n rfl (Nat.le_of_ble_eq_true rfl) (Wp_ls [(0, .ref 0), (1, vi a1), (2, vi 0)] (lsub_cons rfl (lsub_cons rfl (lsub_cons rfl lsub_nil))) ?_))))))
      exact (s_109_l (sc := sc) (d := d) hI ha1 T100 K 204) c_21 0 hI_22 (fun a j hm => hF_23 a j (fun h => hm (Or.inr (Or.inr (Or.inr h))))) ⟨by decide, by decide⟩ ⟨by first | exact q_720657ba9 h_13 | omega, by first | exact q_3a2e67ab0 h_12 h_17 | omega⟩ (by omega)

set_option maxRecDepth 100000 in
set_option maxHeartbeats 4000000 in
theorem s_110 {sc : List Int32} {d P Q : Nat} {c : ME} {a1 : Int} {a2 : Int} {a3 : Int} {Z : AR → Prop} (hI : Iv 0 (-1) P Q c) (ha1 : (-2147483648) ≤ a1 ∧ a1 ≤ 2147483647) (ha2 : (-2147483648) ≤ a2 ∧ a2 ≤ 2147483647) (ha3 : (-2147483648) ≤ a3 ∧ a3 ≤ 2147483647) (T100 : ∀ c2 : ME, Iv 0 (-1) P Q c2 → (∀ (a : Nat) (j : Int), ¬ ((a = 0 ∧ j = 12) ∨ (a = 0 ∧ j = 13) ∨ a = 40) → c2 a j = c a j) → Z (.inr 100, Wd P Q P P c2, 1, 6)) (T101 : ∀ c2 : ME, Iv 0 (-1) P Q c2 → (∀ (a : Nat) (j : Int), ¬ ((a = 0 ∧ j = 12) ∨ (a = 0 ∧ j = 13) ∨ a = 40) → c2 a j = c a j) → Z (.inr 101, Wd P Q P P c2, 1, 6)) (K : ∀ (c2 : ME) (y : Int), Iv 0 (-1) P Q c2 → (∀ (a : Nat) (j : Int), ¬ ((a = 0 ∧ j = 12) ∨ (a = 0 ∧ j = 13) ∨ a = 40) → c2 a j = c a j) → (-2147483648) ≤ y ∧ y ≤ 2147483647 → Z (.inl (some (vi y)), Wd P Q P P c2, 0, 0)) : Wp sc (d + 9) 110 0 [(0, .ref 0), (1, vi a1), (2, vi a2), (3, vi a3)] [] (Wd P Q P P c) 0 0 Z := by
  have hP := iv_P hI
  have hQ := iv_Q hI
  refine q_aload_n rfl rfl (q_iload_n rfl rfl (v_cv rfl rfl rfl rfl (Nat.le_of_ble_eq_true rfl) ⟨⟨rfl, rfl⟩, Nat.le_of_ble_eq_true rfl, rfl⟩ (Nat.le_of_ble_eq_true rfl) (Nat.le_of_ble_eq_true rfl) (q_aload_n rfl rfl (q_iload_n rfl rfl (q_iconst rfl (q_aload_n rfl rfl (v_gr (t := P) rfl rfl rfl (Nat.le_of_ble_eq_true rfl) rfl ?_)))))))
  have h_1 := ir_p0_1 hI hP
  refine v_gi (z := 1) (v := c P 1) rfl rfl (ck_p0 hP) (a68z hP) rfl rfl rfl (q_iconst rfl (v_isub (v := c P 1 - 1) rfl rfl (q_call rfl rfl rfl rfl (q_iload_n rfl rfl (q_iload_n rfl rfl ?_)))))
  by_cases h_2 : a1 < 0
  · refine v_ic_lt_t (t := 14) rfl rfl ⟨ha1.1, h_2, by decide⟩ (q_iconst rfl (v_zret rfl rfl (by decide) (bk_inl (v_cv rfl rfl rfl rfl (Nat.le_of_ble_eq_true rfl) ⟨⟨rfl, rfl⟩, Nat.le_of_ble_eq_true rfl, rfl⟩ (Nat.le_of_ble_eq_true rfl) (Nat.le_of_ble_eq_true rfl) (q_iload_n rfl rfl (v_if_ne_f (t := 25) rfl rfl (by decide) (q_aload_n rfl rfl ?_)))))))
    refine q_dup rfl rfl ?_
    have h_3 := ir_0_12 hI
    refine v_gi (z := 12) (v := c 0 12) rfl rfl rfl (Nat.le_of_ble_eq_true rfl) rfl rfl rfl (q_iconst rfl (v_iadd (v := c 0 12 + 1) rfl rfl (v_nrm (fun y_4 hy_4 => (v_pi (z := 12) rfl rfl rfl (Nat.le_of_ble_eq_true rfl) rfl rfl rfl (by decide) (v_new rfl rfl (by decide) (by omega) (Nat.le_of_ble_eq_true rfl) (by decide) rfl (bk_out rfl rfl (bk_out rfl rfl ?_))))))))
    have hI_5 := iw_0_12 (v := y_4) hI ⟨hy_4.1, hy_4.2⟩
    exact T100 _ hI_5 (fun a j hm => up_b (Decidable.or_iff_not_imp_left.mpr (fun h1 h2 => hm (Or.inl ⟨Decidable.not_not.mp h1, h2⟩))))
  · refine v_ic_lt_f (t := 14) rfl rfl ⟨by decide, (Int.not_lt.mp h_2), ha1.2⟩ (q_iload_n rfl rfl (q_iload_n rfl rfl ?_))
    by_cases h_6 : a1 > c P 1 - 1
    · refine v_ic_gt_t (t := 14) rfl rfl ⟨by first | exact rgm_l h_1.1 (by decide) | omega, h_6, ha1.2⟩ (q_iconst rfl (v_zret rfl rfl (by decide) (bk_inl (v_cv rfl rfl rfl rfl (Nat.le_of_ble_eq_true rfl) ⟨⟨rfl, rfl⟩, Nat.le_of_ble_eq_true rfl, rfl⟩ (Nat.le_of_ble_eq_true rfl) (Nat.le_of_ble_eq_true rfl) (q_iload_n rfl rfl (v_if_ne_f (t := 25) rfl rfl (by decide) (q_aload_n rfl rfl ?_)))))))
      refine q_dup rfl rfl ?_
      have h_7 := ir_0_12 hI
      refine v_gi (z := 12) (v := c 0 12) rfl rfl rfl (Nat.le_of_ble_eq_true rfl) rfl rfl rfl (q_iconst rfl (v_iadd (v := c 0 12 + 1) rfl rfl (v_nrm (fun y_8 hy_8 => (v_pi (z := 12) rfl rfl rfl (Nat.le_of_ble_eq_true rfl) rfl rfl rfl (by decide) (v_new rfl rfl (by decide) (by omega) (Nat.le_of_ble_eq_true rfl) (by decide) rfl (bk_out rfl rfl (bk_out rfl rfl ?_))))))))
      have hI_9 := iw_0_12 (v := y_8) hI ⟨hy_8.1, hy_8.2⟩
      exact T100 _ hI_9 (fun a j hm => up_b (Decidable.or_iff_not_imp_left.mpr (fun h1 h2 => hm (Or.inl ⟨Decidable.not_not.mp h1, h2⟩))))
    · refine v_ic_gt_f (t := 14) rfl rfl ⟨ha1.1, (Int.not_lt.mp h_6), by first | exact rgm_h h_1.2 (by decide) | omega⟩ (q_iconst rfl (q_goto (t := 15) rfl rfl (v_zret rfl rfl (by decide) (bk_inl (v_cv rfl rfl rfl rfl (Nat.le_of_ble_eq_true rfl) ⟨⟨rfl, rfl⟩, Nat.le_of_ble_eq_true rfl, rfl⟩ (Nat.le_of_ble_eq_true rfl) (Nat.le_of_ble_eq_true rfl) (q_iload_n rfl rfl (v_if_ne_t (t := 25) rfl rfl (by decide) ?_)))))))
      refine q_vret rfl rfl (bk_inl (q_vret rfl rfl (bk_inl (q_aload_n rfl rfl (q_iload_n rfl rfl (v_cv rfl rfl rfl rfl (Nat.le_of_ble_eq_true rfl) ⟨⟨rfl, rfl⟩, Nat.le_of_ble_eq_true rfl, rfl⟩ (Nat.le_of_ble_eq_true rfl) (Nat.le_of_ble_eq_true rfl) (q_aload_n rfl rfl ?_)))))))
      refine q_iload_n rfl rfl (q_iconst rfl (q_aload_n rfl rfl (v_gr (t := P) rfl rfl rfl (Nat.le_of_ble_eq_true rfl) rfl ?_)))
      have h_10 := ir_p0_0 hI hP
      refine v_gi (z := 0) (v := c P 0) rfl rfl (ck_p0 hP) (a68z hP) rfl rfl rfl (q_iconst rfl (v_isub (v := c P 0 - 1) rfl rfl (q_call rfl rfl rfl rfl (q_iload_n rfl rfl (q_iload_n rfl rfl ?_)))))
      by_cases h_11 : a2 < 0
      · refine v_ic_lt_t (t := 14) rfl rfl ⟨ha2.1, h_11, by decide⟩ (q_iconst rfl (v_zret rfl rfl (by decide) (bk_inl (v_cv rfl rfl rfl rfl (Nat.le_of_ble_eq_true rfl) ⟨⟨rfl, rfl⟩, Nat.le_of_ble_eq_true rfl, rfl⟩ (Nat.le_of_ble_eq_true rfl) (Nat.le_of_ble_eq_true rfl) (q_iload_n rfl rfl (v_if_ne_f (t := 25) rfl rfl (by decide) (q_aload_n rfl rfl ?_)))))))
        refine q_dup rfl rfl ?_
        have h_12 := ir_0_12 hI
        refine v_gi (z := 12) (v := c 0 12) rfl rfl rfl (Nat.le_of_ble_eq_true rfl) rfl rfl rfl (q_iconst rfl (v_iadd (v := c 0 12 + 1) rfl rfl (v_nrm (fun y_13 hy_13 => (v_pi (z := 12) rfl rfl rfl (Nat.le_of_ble_eq_true rfl) rfl rfl rfl (by decide) (v_new rfl rfl (by decide) (by omega) (Nat.le_of_ble_eq_true rfl) (by decide) rfl (bk_out rfl rfl (bk_out rfl rfl ?_))))))))
        have hI_14 := iw_0_12 (v := y_13) hI ⟨hy_13.1, hy_13.2⟩
        exact T100 _ hI_14 (fun a j hm => up_b (Decidable.or_iff_not_imp_left.mpr (fun h1 h2 => hm (Or.inl ⟨Decidable.not_not.mp h1, h2⟩))))
      · refine v_ic_lt_f (t := 14) rfl rfl ⟨by decide, (Int.not_lt.mp h_11), ha2.2⟩ (q_iload_n rfl rfl (q_iload_n rfl rfl ?_))
        by_cases h_15 : a2 > c P 0 - 1
        · refine v_ic_gt_t (t := 14) rfl rfl ⟨by first | exact rgm_l h_10.1 (by decide) | omega, h_15, ha2.2⟩ (q_iconst rfl (v_zret rfl rfl (by decide) (bk_inl (v_cv rfl rfl rfl rfl (Nat.le_of_ble_eq_true rfl) ⟨⟨rfl, rfl⟩, Nat.le_of_ble_eq_true rfl, rfl⟩ (Nat.le_of_ble_eq_true rfl) (Nat.le_of_ble_eq_true rfl) (q_iload_n rfl rfl (v_if_ne_f (t := 25) rfl rfl (by decide) (q_aload_n rfl rfl ?_)))))))
          refine q_dup rfl rfl ?_
          have h_16 := ir_0_12 hI
          refine v_gi (z := 12) (v := c 0 12) rfl rfl rfl (Nat.le_of_ble_eq_true rfl) rfl rfl rfl (q_iconst rfl (v_iadd (v := c 0 12 + 1) rfl rfl (v_nrm (fun y_17 hy_17 => (v_pi (z := 12) rfl rfl rfl (Nat.le_of_ble_eq_true rfl) rfl rfl rfl (by decide) (v_new rfl rfl (by decide) (by omega) (Nat.le_of_ble_eq_true rfl) (by decide) rfl (bk_out rfl rfl (bk_out rfl rfl ?_))))))))
          have hI_18 := iw_0_12 (v := y_17) hI ⟨hy_17.1, hy_17.2⟩
          exact T100 _ hI_18 (fun a j hm => up_b (Decidable.or_iff_not_imp_left.mpr (fun h1 h2 => hm (Or.inl ⟨Decidable.not_not.mp h1, h2⟩))))
        · refine v_ic_gt_f (t := 14) rfl rfl ⟨ha2.1, (Int.not_lt.mp h_15), by first | exact rgm_h h_10.2 (by decide) | omega⟩ (q_iconst rfl (q_goto (t := 15) rfl rfl (v_zret rfl rfl (by decide) (bk_inl (v_cv rfl rfl rfl rfl (Nat.le_of_ble_eq_true rfl) ⟨⟨rfl, rfl⟩, Nat.le_of_ble_eq_true rfl, rfl⟩ (Nat.le_of_ble_eq_true rfl) (Nat.le_of_ble_eq_true rfl) (q_iload_n rfl rfl (v_if_ne_t (t := 25) rfl rfl (by decide) ?_)))))))
          refine q_vret rfl rfl (bk_inl (q_vret rfl rfl (bk_inl (q_aload_n rfl rfl (q_iload_n rfl rfl (q_iconst rfl (q_iconst rfl ?_)))))))
          refine q_call rfl rfl rfl rfl (q_iload_n rfl rfl (q_iload_n rfl rfl ?_))
          by_cases h_19 : a3 < 0
          · refine v_ic_lt_t (t := 14) rfl rfl ⟨ha3.1, h_19, by decide⟩ (q_iconst rfl (v_zret rfl rfl (by decide) (bk_inl (v_cv rfl rfl rfl rfl (Nat.le_of_ble_eq_true rfl) ⟨⟨rfl, rfl⟩, Nat.le_of_ble_eq_true rfl, rfl⟩ (Nat.le_of_ble_eq_true rfl) (Nat.le_of_ble_eq_true rfl) (q_iload_n rfl rfl (v_if_ne_f (t := 25) rfl rfl (by decide) (q_aload_n rfl rfl ?_)))))))
            refine q_dup rfl rfl ?_
            have h_20 := ir_0_13 hI
            refine v_gi (z := 13) (v := c 0 13) rfl rfl rfl (Nat.le_of_ble_eq_true rfl) rfl rfl rfl (q_iconst rfl (v_iadd (v := c 0 13 + 1) rfl rfl (v_nrm (fun y_21 hy_21 => (v_pi (z := 13) rfl rfl rfl (Nat.le_of_ble_eq_true rfl) rfl rfl rfl (by decide) (v_new rfl rfl (by decide) (by omega) (Nat.le_of_ble_eq_true rfl) (by decide) rfl (bk_out rfl rfl ?_)))))))
            have hI_22 := iw_0_13 (v := y_21) hI ⟨hy_21.1, hy_21.2⟩
            exact T101 _ hI_22 (fun a j hm => up_b (Decidable.or_iff_not_imp_left.mpr (fun h1 h2 => hm (Or.inr (Or.inl ⟨Decidable.not_not.mp h1, h2⟩)))))
          · refine v_ic_lt_f (t := 14) rfl rfl ⟨by decide, (Int.not_lt.mp h_19), ha3.2⟩ (q_iload_n rfl rfl (q_iload_n rfl rfl ?_))
            by_cases h_23 : a3 > 4
            · refine v_ic_gt_t (t := 14) rfl rfl ⟨by decide, h_23, ha3.2⟩ (q_iconst rfl (v_zret rfl rfl (by decide) (bk_inl (v_cv rfl rfl rfl rfl (Nat.le_of_ble_eq_true rfl) ⟨⟨rfl, rfl⟩, Nat.le_of_ble_eq_true rfl, rfl⟩ (Nat.le_of_ble_eq_true rfl) (Nat.le_of_ble_eq_true rfl) (q_iload_n rfl rfl (v_if_ne_f (t := 25) rfl rfl (by decide) (q_aload_n rfl rfl ?_)))))))
              refine q_dup rfl rfl ?_
              have h_24 := ir_0_13 hI
              refine v_gi (z := 13) (v := c 0 13) rfl rfl rfl (Nat.le_of_ble_eq_true rfl) rfl rfl rfl (q_iconst rfl (v_iadd (v := c 0 13 + 1) rfl rfl (v_nrm (fun y_25 hy_25 => (v_pi (z := 13) rfl rfl rfl (Nat.le_of_ble_eq_true rfl) rfl rfl rfl (by decide) (v_new rfl rfl (by decide) (by omega) (Nat.le_of_ble_eq_true rfl) (by decide) rfl (bk_out rfl rfl ?_)))))))
              have hI_26 := iw_0_13 (v := y_25) hI ⟨hy_25.1, hy_25.2⟩
              exact T101 _ hI_26 (fun a j hm => up_b (Decidable.or_iff_not_imp_left.mpr (fun h1 h2 => hm (Or.inr (Or.inl ⟨Decidable.not_not.mp h1, h2⟩)))))
            · refine v_ic_gt_f (t := 14) rfl rfl ⟨ha3.1, (Int.not_lt.mp h_23), by decide⟩ (q_iconst rfl (q_goto (t := 15) rfl rfl (v_zret rfl rfl (by decide) (bk_inl (v_cv rfl rfl rfl rfl (Nat.le_of_ble_eq_true rfl) ⟨⟨rfl, rfl⟩, Nat.le_of_ble_eq_true rfl, rfl⟩ (Nat.le_of_ble_eq_true rfl) (Nat.le_of_ble_eq_true rfl) (q_iload_n rfl rfl (v_if_ne_t (t := 25) rfl rfl (by decide) ?_)))))))
              refine q_vret rfl rfl (bk_inl (q_aload_n rfl rfl (v_gr (t := 39) rfl rfl rfl (Nat.le_of_ble_eq_true rfl) rfl (q_aload_n rfl rfl (v_gr (t := 37) rfl rfl rfl (Nat.le_of_ble_eq_true rfl) rfl (v_cv rfl rfl rfl rfl (Nat.le_of_ble_eq_true rfl) ⟨⟨rfl, rfl⟩, Nat.le_of_ble_eq_true rfl, rfl⟩ (Nat.le_of_ble_eq_true rfl) (Nat.le_of_ble_eq_true rfl) (s_66 hI (fun c_27 hI_28 hF_29 => (bk_inl ?_)))))))))
              refine q_aload_n rfl rfl (v_gr (t := 39) rfl rfl rfl (Nat.le_of_ble_eq_true rfl) rfl (q_iload_n rfl rfl (q_iload_n rfl rfl (v_cv rfl rfl rfl rfl (Nat.le_of_ble_eq_true rfl) ⟨⟨rfl, rfl⟩, Nat.le_of_ble_eq_true rfl, rfl⟩ (Nat.le_of_ble_eq_true rfl) (Nat.le_of_ble_eq_true rfl) (s_44 (a1 := a1) (a2 := a2) hI_28 (.inr ⟨rfl, rfl⟩) (show 0 ≤ a1 ∧ a1 ≤ 3 from ⟨by first | exact q_720657ba9 h_2 | omega, by first | exact q_1b5e4f74b h_1 h_6 | omega⟩) (show 0 ≤ a2 ∧ a2 ≤ 5 from ⟨by first | exact q_720657ba9 h_11 | omega, by first | exact q_3a2e67ab0 h_10 h_15 | omega⟩) (fun c_30 y_33 hI_31 hF_32 hy_33 => (bk_inl (q_pop rfl rfl (q_iload_n rfl rfl ?_)))))))))
              refine q_iconst rfl ?_
              by_cases h_34 : a3 ≠ 4
              · refine v_ic_ne_t (t := 68) rfl rfl ⟨h_34, ⟨ha3.1, ha3.2⟩, by decide, by decide⟩ (q_aload_n rfl rfl (v_gr (t := 39) rfl rfl rfl (Nat.le_of_ble_eq_true rfl) rfl (q_iload_n rfl rfl (q_iload_n rfl rfl ?_))))
                have h_35 := ir_40_g hI_31 (j := 4 * a2 + a3) (by first | exact q_e0f71dbae h_10 h_15 h_23 h_34 | omega)
                refine v_cv rfl rfl rfl rfl (Nat.le_of_ble_eq_true rfl) ⟨⟨rfl, rfl⟩, Nat.le_of_ble_eq_true rfl, rfl⟩ (Nat.le_of_ble_eq_true rfl) (Nat.le_of_ble_eq_true rfl) (s_45 (v1 := c_30 40 (4 * a2 + a3)) (r := c_30 40 (4 * a2 + a3)) (a1 := a2) (a2 := a3) hI_31 (.inr ⟨rfl, rfl⟩) (show 0 ≤ a2 ∧ a2 ≤ 5 from ⟨by first | exact q_720657ba9 h_11 | (clear ha1 ha2 ha3 h_1 h_2 h_6 h_10 h_15 h_19 h_23 h_34; omega) | omega, by first | exact q_3a2e67ab0 h_10 h_15 | (clear ha1 ha2 ha3 h_1 h_2 h_6 h_11 h_19 h_23 h_34; omega) | omega⟩) (show 0 ≤ a3 ∧ a3 ≤ 3 from ⟨by first | exact q_720657ba9 h_19 | (clear ha1 ha2 ha3 h_1 h_2 h_6 h_10 h_11 h_15 h_23 h_34; omega) | omega, by first | exact q_adb162ac9 h_23 h_34 | (clear ha1 ha2 ha3 h_1 h_2 h_6 h_10 h_11 h_15 h_19; omega) | omega⟩) (rfl) (by omega) (bk_inl (q_iret rfl rfl ?_)))
                exact K c_30 (c_30 40 (4 * a2 + a3)) hI_31 (fun a j hm => (hF_32 a j (fun h => hm (Or.inr (Or.inr h)))).trans (hF_29 a j (fun h => hm (Or.inr (Or.inr h))))) ⟨(Int.le_trans (by decide) h_35.1), (Int.le_trans h_35.2 (by decide))⟩
              · refine v_ic_ne_f (t := 68) rfl rfl (Decidable.not_not.mp h_34) (q_aload_n rfl rfl (v_gr (t := 39) rfl rfl rfl (Nat.le_of_ble_eq_true rfl) rfl (v_gr (t := 40) rfl rfl rfl (Nat.le_of_ble_eq_true rfl) rfl (v_bip rfl (by decide) ?_))))
                have h_36 := ir_40 hI_31 32
                refine v_ia (v := c_30 40 32) rfl rfl (by decide) (by decide) (by decide) rfl (q_aload_n rfl rfl (v_gr (t := 37) rfl rfl rfl (Nat.le_of_ble_eq_true rfl) rfl (v_gr (t := 38) rfl rfl rfl (Nat.le_of_ble_eq_true rfl) rfl (v_bip rfl (by decide) ?_))))
                have h_37 := ir_38 hI 32
                have kn_38 : Hid (c_27 38 32 = c 38 32) := hF_29 38 32 (fun h => absurd h (nn rfl))
                have kn_39 : Hid (c_30 38 32 = c 38 32) := (hF_32 38 32 (fun h => absurd h (nn rfl))).trans (hid kn_38)
                refine v_ia (v := c 38 32) rfl rfl (by decide) (by decide) (by decide) (hid kn_39) (v_isub (v := c_30 40 32 - c 38 32) rfl (by first | (clear ha1 ha2 ha3 h_1 h_2 h_6 h_10 h_11 h_15 h_19 h_23 h_34 h_36 h_37; omega) | omega) (v_nrm (fun y_40 hy_40 => (q_iret rfl rfl ?_))))
                exact K c_30 y_40 hI_31 (fun a j hm => (hF_32 a j (fun h => hm (Or.inr (Or.inr h)))).trans (hF_29 a j (fun h => hm (Or.inr (Or.inr h))))) hy_40

set_option maxRecDepth 100000 in
set_option maxHeartbeats 4000000 in
theorem s_111 {sc : List Int32} {e : Int} {d u P Q : Nat} {c : ME} {a1 : Int} {a2 : Int} {a3 : Int} {Z : AR → Prop} (hI : Iv u e P Q c) (ha1 : (-2147483648) ≤ a1 ∧ a1 ≤ 2147483647) (ha2 : (-2147483648) ≤ a2 ∧ a2 ≤ 2147483647) (ha3 : (-2147483648) ≤ a3 ∧ a3 ≤ 2147483647) (T100 : ∀ c2 : ME, Iv u e P Q c2 → (∀ (a : Nat) (j : Int), ¬ ((a = 0 ∧ j = 12) ∨ (a = 0 ∧ j = 13)) → c2 a j = c a j) → Z (.inr 100, Wd P Q P P c2, 1, 6)) (T101 : ∀ c2 : ME, Iv u e P Q c2 → (∀ (a : Nat) (j : Int), ¬ ((a = 0 ∧ j = 12) ∨ (a = 0 ∧ j = 13)) → c2 a j = c a j) → Z (.inr 101, Wd P Q P P c2, 1, 6)) (K : ∀ (c2 : ME) (y : Int), Iv u e P Q c2 → (∀ (a : Nat) (j : Int), ¬ ((a = 0 ∧ j = 12) ∨ (a = 0 ∧ j = 13)) → c2 a j = c a j) → (-2147483648) ≤ y ∧ y ≤ 2147483647 → Z (.inl (some (vi y)), Wd P Q P P c2, 0, 0)) : Wp sc (d + 11) 111 0 [(0, .ref 0), (1, vi a1), (2, vi a2), (3, vi a3)] [] (Wd P Q P P c) 0 0 Z := by
  have hP := iv_P hI
  have hQ := iv_Q hI
  refine q_aload_n rfl rfl (q_iload_n rfl rfl (v_cv rfl rfl rfl rfl (Nat.le_of_ble_eq_true rfl) ⟨⟨rfl, rfl⟩, Nat.le_of_ble_eq_true rfl, rfl⟩ (Nat.le_of_ble_eq_true rfl) (Nat.le_of_ble_eq_true rfl) (q_aload_n rfl rfl (q_iload_n rfl rfl (q_iconst rfl (q_aload_n rfl rfl (v_gr (t := P) rfl rfl rfl (Nat.le_of_ble_eq_true rfl) rfl ?_)))))))
  have h_1 := ir_p0_2 hI hP
  refine v_gi (z := 2) (v := c P 2) rfl rfl (ck_p0 hP) (a68z hP) rfl rfl rfl (q_iconst rfl (v_isub (v := c P 2 - 1) rfl rfl (q_call rfl rfl rfl rfl (q_iload_n rfl rfl (q_iload_n rfl rfl ?_)))))
  by_cases h_2 : a1 < 0
  · refine v_ic_lt_t (t := 14) rfl rfl ⟨ha1.1, h_2, by decide⟩ (q_iconst rfl (v_zret rfl rfl (by decide) (bk_inl (v_cv rfl rfl rfl rfl (Nat.le_of_ble_eq_true rfl) ⟨⟨rfl, rfl⟩, Nat.le_of_ble_eq_true rfl, rfl⟩ (Nat.le_of_ble_eq_true rfl) (Nat.le_of_ble_eq_true rfl) (q_iload_n rfl rfl (v_if_ne_f (t := 25) rfl rfl (by decide) (q_aload_n rfl rfl ?_)))))))
    refine q_dup rfl rfl ?_
    have h_3 := ir_0_12 hI
    refine v_gi (z := 12) (v := c 0 12) rfl rfl rfl (Nat.le_of_ble_eq_true rfl) rfl rfl rfl (q_iconst rfl (v_iadd (v := c 0 12 + 1) rfl rfl (v_nrm (fun y_4 hy_4 => (v_pi (z := 12) rfl rfl rfl (Nat.le_of_ble_eq_true rfl) rfl rfl rfl (by decide) (v_new rfl rfl (by decide) (by omega) (Nat.le_of_ble_eq_true rfl) (by decide) rfl (bk_out rfl rfl (bk_out rfl rfl ?_))))))))
    have hI_5 := iw_0_12 (v := y_4) hI ⟨hy_4.1, hy_4.2⟩
    exact T100 _ hI_5 (fun a j hm => up_b (Decidable.or_iff_not_imp_left.mpr (fun h1 h2 => hm (Or.inl ⟨Decidable.not_not.mp h1, h2⟩))))
  · refine v_ic_lt_f (t := 14) rfl rfl ⟨by decide, (Int.not_lt.mp h_2), ha1.2⟩ (q_iload_n rfl rfl (q_iload_n rfl rfl ?_))
    by_cases h_6 : a1 > c P 2 - 1
    · refine v_ic_gt_t (t := 14) rfl rfl ⟨by first | exact rgm_l h_1.1 (by decide) | omega, h_6, ha1.2⟩ (q_iconst rfl (v_zret rfl rfl (by decide) (bk_inl (v_cv rfl rfl rfl rfl (Nat.le_of_ble_eq_true rfl) ⟨⟨rfl, rfl⟩, Nat.le_of_ble_eq_true rfl, rfl⟩ (Nat.le_of_ble_eq_true rfl) (Nat.le_of_ble_eq_true rfl) (q_iload_n rfl rfl (v_if_ne_f (t := 25) rfl rfl (by decide) (q_aload_n rfl rfl ?_)))))))
      refine q_dup rfl rfl ?_
      have h_7 := ir_0_12 hI
      refine v_gi (z := 12) (v := c 0 12) rfl rfl rfl (Nat.le_of_ble_eq_true rfl) rfl rfl rfl (q_iconst rfl (v_iadd (v := c 0 12 + 1) rfl rfl (v_nrm (fun y_8 hy_8 => (v_pi (z := 12) rfl rfl rfl (Nat.le_of_ble_eq_true rfl) rfl rfl rfl (by decide) (v_new rfl rfl (by decide) (by omega) (Nat.le_of_ble_eq_true rfl) (by decide) rfl (bk_out rfl rfl (bk_out rfl rfl ?_))))))))
      have hI_9 := iw_0_12 (v := y_8) hI ⟨hy_8.1, hy_8.2⟩
      exact T100 _ hI_9 (fun a j hm => up_b (Decidable.or_iff_not_imp_left.mpr (fun h1 h2 => hm (Or.inl ⟨Decidable.not_not.mp h1, h2⟩))))
    · refine v_ic_gt_f (t := 14) rfl rfl ⟨ha1.1, (Int.not_lt.mp h_6), by first | exact rgm_h h_1.2 (by decide) | omega⟩ (q_iconst rfl (q_goto (t := 15) rfl rfl (v_zret rfl rfl (by decide) (bk_inl (v_cv rfl rfl rfl rfl (Nat.le_of_ble_eq_true rfl) ⟨⟨rfl, rfl⟩, Nat.le_of_ble_eq_true rfl, rfl⟩ (Nat.le_of_ble_eq_true rfl) (Nat.le_of_ble_eq_true rfl) (q_iload_n rfl rfl (v_if_ne_t (t := 25) rfl rfl (by decide) ?_)))))))
      refine q_vret rfl rfl (bk_inl (q_vret rfl rfl (bk_inl (q_aload_n rfl rfl (q_iload_n rfl rfl (v_cv rfl rfl rfl rfl (Nat.le_of_ble_eq_true rfl) ⟨⟨rfl, rfl⟩, Nat.le_of_ble_eq_true rfl, rfl⟩ (Nat.le_of_ble_eq_true rfl) (Nat.le_of_ble_eq_true rfl) (q_aload_n rfl rfl ?_)))))))
      refine q_iload_n rfl rfl (q_iconst rfl (q_aload_n rfl rfl (v_gr (t := P) rfl rfl rfl (Nat.le_of_ble_eq_true rfl) rfl ?_)))
      have h_10 := ir_p0_0 hI hP
      refine v_gi (z := 0) (v := c P 0) rfl rfl (ck_p0 hP) (a68z hP) rfl rfl rfl (q_iconst rfl (v_isub (v := c P 0 - 1) rfl rfl (q_call rfl rfl rfl rfl (q_iload_n rfl rfl (q_iload_n rfl rfl ?_)))))
      by_cases h_11 : a2 < 0
      · refine v_ic_lt_t (t := 14) rfl rfl ⟨ha2.1, h_11, by decide⟩ (q_iconst rfl (v_zret rfl rfl (by decide) (bk_inl (v_cv rfl rfl rfl rfl (Nat.le_of_ble_eq_true rfl) ⟨⟨rfl, rfl⟩, Nat.le_of_ble_eq_true rfl, rfl⟩ (Nat.le_of_ble_eq_true rfl) (Nat.le_of_ble_eq_true rfl) (q_iload_n rfl rfl (v_if_ne_f (t := 25) rfl rfl (by decide) (q_aload_n rfl rfl ?_)))))))
        refine q_dup rfl rfl ?_
        have h_12 := ir_0_12 hI
        refine v_gi (z := 12) (v := c 0 12) rfl rfl rfl (Nat.le_of_ble_eq_true rfl) rfl rfl rfl (q_iconst rfl (v_iadd (v := c 0 12 + 1) rfl rfl (v_nrm (fun y_13 hy_13 => (v_pi (z := 12) rfl rfl rfl (Nat.le_of_ble_eq_true rfl) rfl rfl rfl (by decide) (v_new rfl rfl (by decide) (by omega) (Nat.le_of_ble_eq_true rfl) (by decide) rfl (bk_out rfl rfl (bk_out rfl rfl ?_))))))))
        have hI_14 := iw_0_12 (v := y_13) hI ⟨hy_13.1, hy_13.2⟩
        exact T100 _ hI_14 (fun a j hm => up_b (Decidable.or_iff_not_imp_left.mpr (fun h1 h2 => hm (Or.inl ⟨Decidable.not_not.mp h1, h2⟩))))
      · refine v_ic_lt_f (t := 14) rfl rfl ⟨by decide, (Int.not_lt.mp h_11), ha2.2⟩ (q_iload_n rfl rfl (q_iload_n rfl rfl ?_))
        by_cases h_15 : a2 > c P 0 - 1
        · refine v_ic_gt_t (t := 14) rfl rfl ⟨by first | exact rgm_l h_10.1 (by decide) | omega, h_15, ha2.2⟩ (q_iconst rfl (v_zret rfl rfl (by decide) (bk_inl (v_cv rfl rfl rfl rfl (Nat.le_of_ble_eq_true rfl) ⟨⟨rfl, rfl⟩, Nat.le_of_ble_eq_true rfl, rfl⟩ (Nat.le_of_ble_eq_true rfl) (Nat.le_of_ble_eq_true rfl) (q_iload_n rfl rfl (v_if_ne_f (t := 25) rfl rfl (by decide) (q_aload_n rfl rfl ?_)))))))
          refine q_dup rfl rfl ?_
          have h_16 := ir_0_12 hI
          refine v_gi (z := 12) (v := c 0 12) rfl rfl rfl (Nat.le_of_ble_eq_true rfl) rfl rfl rfl (q_iconst rfl (v_iadd (v := c 0 12 + 1) rfl rfl (v_nrm (fun y_17 hy_17 => (v_pi (z := 12) rfl rfl rfl (Nat.le_of_ble_eq_true rfl) rfl rfl rfl (by decide) (v_new rfl rfl (by decide) (by omega) (Nat.le_of_ble_eq_true rfl) (by decide) rfl (bk_out rfl rfl (bk_out rfl rfl ?_))))))))
          have hI_18 := iw_0_12 (v := y_17) hI ⟨hy_17.1, hy_17.2⟩
          exact T100 _ hI_18 (fun a j hm => up_b (Decidable.or_iff_not_imp_left.mpr (fun h1 h2 => hm (Or.inl ⟨Decidable.not_not.mp h1, h2⟩))))
        · refine v_ic_gt_f (t := 14) rfl rfl ⟨ha2.1, (Int.not_lt.mp h_15), by first | exact rgm_h h_10.2 (by decide) | omega⟩ (q_iconst rfl (q_goto (t := 15) rfl rfl (v_zret rfl rfl (by decide) (bk_inl (v_cv rfl rfl rfl rfl (Nat.le_of_ble_eq_true rfl) ⟨⟨rfl, rfl⟩, Nat.le_of_ble_eq_true rfl, rfl⟩ (Nat.le_of_ble_eq_true rfl) (Nat.le_of_ble_eq_true rfl) (q_iload_n rfl rfl (v_if_ne_t (t := 25) rfl rfl (by decide) ?_)))))))
          refine q_vret rfl rfl (bk_inl (q_vret rfl rfl (bk_inl (q_aload_n rfl rfl (q_iload_n rfl rfl (q_iconst rfl (q_iconst rfl ?_)))))))
          refine q_call rfl rfl rfl rfl (q_iload_n rfl rfl (q_iload_n rfl rfl ?_))
          by_cases h_19 : a3 < 0
          · refine v_ic_lt_t (t := 14) rfl rfl ⟨ha3.1, h_19, by decide⟩ (q_iconst rfl (v_zret rfl rfl (by decide) (bk_inl (v_cv rfl rfl rfl rfl (Nat.le_of_ble_eq_true rfl) ⟨⟨rfl, rfl⟩, Nat.le_of_ble_eq_true rfl, rfl⟩ (Nat.le_of_ble_eq_true rfl) (Nat.le_of_ble_eq_true rfl) (q_iload_n rfl rfl (v_if_ne_f (t := 25) rfl rfl (by decide) (q_aload_n rfl rfl ?_)))))))
            refine q_dup rfl rfl ?_
            have h_20 := ir_0_13 hI
            refine v_gi (z := 13) (v := c 0 13) rfl rfl rfl (Nat.le_of_ble_eq_true rfl) rfl rfl rfl (q_iconst rfl (v_iadd (v := c 0 13 + 1) rfl rfl (v_nrm (fun y_21 hy_21 => (v_pi (z := 13) rfl rfl rfl (Nat.le_of_ble_eq_true rfl) rfl rfl rfl (by decide) (v_new rfl rfl (by decide) (by omega) (Nat.le_of_ble_eq_true rfl) (by decide) rfl (bk_out rfl rfl ?_)))))))
            have hI_22 := iw_0_13 (v := y_21) hI ⟨hy_21.1, hy_21.2⟩
            exact T101 _ hI_22 (fun a j hm => up_b (Decidable.or_iff_not_imp_left.mpr (fun h1 h2 => hm (Or.inr ⟨Decidable.not_not.mp h1, h2⟩))))
          · refine v_ic_lt_f (t := 14) rfl rfl ⟨by decide, (Int.not_lt.mp h_19), ha3.2⟩ (q_iload_n rfl rfl (q_iload_n rfl rfl ?_))
            by_cases h_23 : a3 > 4
            · refine v_ic_gt_t (t := 14) rfl rfl ⟨by decide, h_23, ha3.2⟩ (q_iconst rfl (v_zret rfl rfl (by decide) (bk_inl (v_cv rfl rfl rfl rfl (Nat.le_of_ble_eq_true rfl) ⟨⟨rfl, rfl⟩, Nat.le_of_ble_eq_true rfl, rfl⟩ (Nat.le_of_ble_eq_true rfl) (Nat.le_of_ble_eq_true rfl) (q_iload_n rfl rfl (v_if_ne_f (t := 25) rfl rfl (by decide) (q_aload_n rfl rfl ?_)))))))
              refine q_dup rfl rfl ?_
              have h_24 := ir_0_13 hI
              refine v_gi (z := 13) (v := c 0 13) rfl rfl rfl (Nat.le_of_ble_eq_true rfl) rfl rfl rfl (q_iconst rfl (v_iadd (v := c 0 13 + 1) rfl rfl (v_nrm (fun y_25 hy_25 => (v_pi (z := 13) rfl rfl rfl (Nat.le_of_ble_eq_true rfl) rfl rfl rfl (by decide) (v_new rfl rfl (by decide) (by omega) (Nat.le_of_ble_eq_true rfl) (by decide) rfl (bk_out rfl rfl ?_)))))))
              have hI_26 := iw_0_13 (v := y_25) hI ⟨hy_25.1, hy_25.2⟩
              exact T101 _ hI_26 (fun a j hm => up_b (Decidable.or_iff_not_imp_left.mpr (fun h1 h2 => hm (Or.inr ⟨Decidable.not_not.mp h1, h2⟩))))
            · refine v_ic_gt_f (t := 14) rfl rfl ⟨ha3.1, (Int.not_lt.mp h_23), by decide⟩ (q_iconst rfl (q_goto (t := 15) rfl rfl (v_zret rfl rfl (by decide) (bk_inl (v_cv rfl rfl rfl rfl (Nat.le_of_ble_eq_true rfl) ⟨⟨rfl, rfl⟩, Nat.le_of_ble_eq_true rfl, rfl⟩ (Nat.le_of_ble_eq_true rfl) (Nat.le_of_ble_eq_true rfl) (q_iload_n rfl rfl (v_if_ne_t (t := 25) rfl rfl (by decide) ?_)))))))
              refine q_vret rfl rfl (bk_inl (q_iload_n rfl rfl (q_iconst rfl ?_)))
              by_cases h_27 : a3 ≠ 4
              · refine v_ic_ne_t (t := 37) rfl rfl ⟨h_27, ⟨ha3.1, ha3.2⟩, by decide, by decide⟩ (q_aload_n rfl rfl (v_gr (t := 37) rfl rfl rfl (Nat.le_of_ble_eq_true rfl) rfl (q_iload_n rfl rfl (q_iload_n rfl rfl (q_iload_n rfl rfl ?_)))))
                have h_28 := ir_p3 hI hP a1
                have h_29 := ir_38 hI 30
                have h_30 := ir_38_g hI (j := 4 * a2 + a3) (by first | exact q_e0f71dbae h_10 h_15 h_23 h_27 | (clear ha1 ha2 ha3 h_1 h_2 h_6 h_11 h_19 h_28 h_29; omega) | omega)
                have h_31 := fal_rng (m := c (P + 3) a1) (t := tb (c 38 30) a1) (g := a3) (x := c 38 (4 * a2 + a3)) (by omega)
                refine v_cv rfl rfl rfl rfl (Nat.le_of_ble_eq_true rfl) ⟨⟨rfl, rfl⟩, Nat.le_of_ble_eq_true rfl, rfl⟩ (Nat.le_of_ble_eq_true rfl) (Nat.le_of_ble_eq_true rfl) (s_48 (v1 := c (P + 3) a1) (v2 := c 38 30) (v3 := c 38 (4 * a2 + a3)) (r := (fal (c (P + 3) a1) (tb (c 38 30) a1) a3 (c 38 (4 * a2 + a3)))) (a1 := a1) (a2 := a2) (a3 := a3) hI (.inl ⟨rfl, rfl⟩) (show 0 ≤ a1 ∧ a1 ≤ 3 from ⟨by first | exact q_720657ba9 h_2 | (clear ha1 ha2 ha3 h_1 h_6 h_10 h_11 h_15 h_19 h_23 h_27; omega) | omega, by first | exact q_1b5e4f74b h_1 h_6 | (clear ha1 ha2 ha3 h_2 h_10 h_11 h_15 h_19 h_23 h_27; omega) | omega⟩) (show 0 ≤ a2 ∧ a2 ≤ 5 from ⟨by first | exact q_720657ba9 h_11 | (clear ha1 ha2 ha3 h_1 h_2 h_6 h_10 h_15 h_19 h_23 h_27; omega) | omega, by first | exact q_3a2e67ab0 h_10 h_15 | (clear ha1 ha2 ha3 h_1 h_2 h_6 h_11 h_19 h_23 h_27; omega) | omega⟩) (show 0 ≤ a3 ∧ a3 ≤ 3 from ⟨by first | exact q_720657ba9 h_19 | (clear ha1 ha2 ha3 h_1 h_2 h_6 h_10 h_11 h_15 h_23 h_27; omega) | omega, by first | exact q_adb162ac9 h_23 h_27 | (clear ha1 ha2 ha3 h_1 h_2 h_6 h_10 h_11 h_15 h_19; omega) | omega⟩) (rfl) (rfl) (rfl) rfl (bk_inl (q_iret rfl rfl ?_)))
                exact K c (fal (c (P + 3) a1) (tb (c 38 30) a1) a3 (c 38 (4 * a2 + a3))) hI (fun a j hm => rfl) ⟨by first | (clear ha1 ha2 ha3 h_1 h_2 h_6 h_10 h_11 h_15 h_19 h_23 h_28 h_29 h_30 h_27; omega) | omega, by first | (clear ha1 ha2 ha3 h_1 h_2 h_6 h_10 h_11 h_15 h_19 h_23 h_28 h_29 h_27; omega) | omega⟩
              · refine v_ic_ne_f (t := 37) rfl rfl (Decidable.not_not.mp h_27) (q_aload_n rfl rfl (v_gr (t := 37) rfl rfl rfl (Nat.le_of_ble_eq_true rfl) rfl (q_iload_n rfl rfl (q_iload_n rfl rfl ?_))))
                have h_32 := ir_p3 hI hP a1
                have h_33 := ir_38 hI 30
                have h_34 := ir_38_g hI (j := 4 * a2) (by first | exact q_b0d0e4535 h_10 h_15 | (clear ha1 ha2 ha3 h_1 h_2 h_6 h_11 h_19 h_23 h_27 h_32 h_33; omega) | omega)
                have h_35 := ir_38_g hI (j := 4 * a2 + 1) (by first | exact q_e3354e5e9 h_10 h_15 | (clear ha1 ha2 ha3 h_1 h_2 h_6 h_11 h_19 h_23 h_27 h_32 h_33 h_34; omega) | omega)
                have h_36 := ir_38_g hI (j := 4 * a2 + 2) (by first | exact q_0a5347bcd h_10 h_15 | (clear ha1 ha2 ha3 h_1 h_2 h_6 h_11 h_19 h_23 h_27 h_32 h_33 h_34 h_35; omega) | omega)
                have h_37 := ir_38_g hI (j := 4 * a2 + 3) (by first | exact q_9939b3b7f h_10 h_15 | (clear ha1 ha2 ha3 h_1 h_2 h_6 h_11 h_19 h_23 h_27 h_32 h_33 h_34 h_35 h_36; omega) | omega)
                have h_38 := fal_rng (m := c (P + 3) a1) (t := tb (c 38 30) a1) (g := 0) (x := c 38 (4 * a2)) (by omega)
                have h_39 := fal_rng (m := c (P + 3) a1) (t := tb (c 38 30) a1) (g := 1) (x := c 38 (4 * a2 + 1)) (by omega)
                have h_40 := fal_rng (m := c (P + 3) a1) (t := tb (c 38 30) a1) (g := 2) (x := c 38 (4 * a2 + 2)) (by omega)
                have h_41 := fal_rng (m := c (P + 3) a1) (t := tb (c 38 30) a1) (g := 3) (x := c 38 (4 * a2 + 3)) (by omega)
                refine v_cv rfl rfl rfl rfl (Nat.le_of_ble_eq_true rfl) ⟨⟨rfl, rfl⟩, Nat.le_of_ble_eq_true rfl, rfl⟩ (Nat.le_of_ble_eq_true rfl) (Nat.le_of_ble_eq_true rfl) (s_49 (v1 := c (P + 3) a1) (v2 := c 38 30) (v3 := c 38 (4 * a2)) (v4 := c 38 (4 * a2 + 1)) (v5 := c 38 (4 * a2 + 2)) (v6 := c 38 (4 * a2 + 3)) (r := (fal (c (P + 3) a1) (tb (c 38 30) a1) 0 (c 38 (4 * a2))) + (fal (c (P + 3) a1) (tb (c 38 30) a1) 1 (c 38 (4 * a2 + 1))) + (fal (c (P + 3) a1) (tb (c 38 30) a1) 2 (c 38 (4 * a2 + 2))) + (fal (c (P + 3) a1) (tb (c 38 30) a1) 3 (c 38 (4 * a2 + 3)))) (a1 := a1) (a2 := a2) hI (.inl ⟨rfl, rfl⟩) (show 0 ≤ a1 ∧ a1 ≤ 3 from ⟨by first | exact q_720657ba9 h_2 | omega, by first | exact q_1b5e4f74b h_1 h_6 | omega⟩) (show 0 ≤ a2 ∧ a2 ≤ 5 from ⟨by first | exact q_720657ba9 h_11 | omega, by first | exact q_3a2e67ab0 h_10 h_15 | omega⟩) (rfl) (rfl) (rfl) (rfl) (rfl) (rfl) rfl (bk_inl (q_goto (t := 47) rfl rfl (q_iret rfl rfl ?_))))
                exact K c ((fal (c (P + 3) a1) (tb (c 38 30) a1) 0 (c 38 (4 * a2))) + (fal (c (P + 3) a1) (tb (c 38 30) a1) 1 (c 38 (4 * a2 + 1))) + (fal (c (P + 3) a1) (tb (c 38 30) a1) 2 (c 38 (4 * a2 + 2))) + (fal (c (P + 3) a1) (tb (c 38 30) a1) 3 (c 38 (4 * a2 + 3)))) hI (fun a j hm => rfl) ⟨by first | (clear ha1 ha2 ha3 h_1 h_2 h_6 h_10 h_11 h_15 h_19 h_23 h_27 h_32 h_33 h_34 h_35 h_36 h_37; omega) | omega, by first | (clear ha1 ha2 ha3 h_1 h_2 h_6 h_10 h_11 h_15 h_19 h_23 h_27 h_32 h_33; omega) | omega⟩

set_option maxRecDepth 100000 in
set_option maxHeartbeats 4000000 in
theorem s_112_l {sc : List Int32} {d P Q : Nat} {c : ME} {a1 : Int} {a2 : Int} {a3 : Int} {Z : AR → Prop} (hI : Iv 0 (-1) P Q c) (ha1 : (-2147483648) ≤ a1 ∧ a1 ≤ 2147483647) (ha2 : (-2147483648) ≤ a2 ∧ a2 ≤ 2147483647) (ha3 : (-2147483648) ≤ a3 ∧ a3 ≤ 2147483647) (T100 : ∀ c2 : ME, Iv 0 (-1) P Q c2 → (∀ (a : Nat) (j : Int), ¬ ((a = 0 ∧ j = 12) ∨ (a = 0 ∧ j = 13) ∨ a = 40) → c2 a j = c a j) → Z (.inr 100, Wd P Q P P c2, 1, 6)) (T101 : ∀ c2 : ME, Iv 0 (-1) P Q c2 → (∀ (a : Nat) (j : Int), ¬ ((a = 0 ∧ j = 12) ∨ (a = 0 ∧ j = 13) ∨ a = 40) → c2 a j = c a j) → Z (.inr 101, Wd P Q P P c2, 1, 6)) (K : ∀ (c2 : ME) (y : Int), Iv 0 (-1) P Q c2 → (∀ (a : Nat) (j : Int), ¬ ((a = 0 ∧ j = 12) ∨ (a = 0 ∧ j = 13) ∨ a = 40) → c2 a j = c a j) → (-2147483648) ≤ y ∧ y ≤ 2147483647 → Z (.inl (some (vi y)), Wd P Q P P c2, 0, 0)) : ∀ n : Nat, (∀ (c2 : ME) (v4 : Int), Iv 0 (-1) P Q c2 → (∀ (a : Nat) (j : Int), ¬ ((a = 0 ∧ j = 12) ∨ (a = 0 ∧ j = 13) ∨ a = 40) → c2 a j = c a j) → 0 ≤ v4 ∧ v4 ≤ 100 → ((a1 ≥ 0 ∧ a1 ≤ 5)) → ((a2 ≥ 0 ∧ a2 ≤ 3)) → 201 - 2 * v4 < (n : Int) → Wp sc (d + 9) 112 49 [(0, .ref 0), (1, vi a1), (2, vi a2), (3, vi a3), (4, vi v4)] [] (Wd P Q P P c2) 0 0 Z)
  | 0 => by intro c2 v4 hI2 hF hv4 hx0 hx1 hm9; have hP := iv_P hI; have hQ := iv_Q hI; exfalso; omega
  | n + 1 => by
    have hP := iv_P hI
    have hQ := iv_Q hI
    have ih := s_112_l (sc := sc) (d := d) hI ha1 ha2 ha3 T100 T101 K n
    intro c2 v4 hI2 hF hv4 hx0 hx1 hm9
    refine q_iload rfl rfl (v_bip rfl (by decide) ?_)
    by_cases h_1 : v4 > 99
    · refine v_ic_gt_t (t := 87) rfl rfl ⟨by decide, h_1, (Int.le_trans hv4.2 (by decide))⟩ (q_iconst rfl (q_iret rfl rfl ?_))
      exact K c2 (-1) hI2 (fun a j hm => hF a j (fun q => q.elim (fun h => hm (Or.inl h)) (fun q => q.elim (fun h => hm (Or.inr (Or.inl h))) (fun h => hm (Or.inr (Or.inr h)))))) ⟨by decide, by decide⟩
    · refine v_ic_gt_f (t := 87) rfl rfl ⟨(Int.le_trans (by decide) hv4.1), (Int.not_lt.mp h_1), by decide⟩ (q_aload_n rfl rfl (v_gr (t := 39) rfl rfl rfl (Nat.le_of_ble_eq_true rfl) rfl (q_iload_n rfl rfl (v_cv rfl rfl rfl rfl (Nat.le_of_ble_eq_true rfl) ⟨⟨rfl, rfl⟩, Nat.le_of_ble_eq_true rfl, rfl⟩ (Nat.le_of_ble_eq_true rfl) (Nat.le_of_ble_eq_true rfl) (s_68 (a1 := a1) hI2 (.inr ⟨rfl, rfl⟩) (show 0 ≤ a1 ∧ a1 ≤ 5 from ⟨by omega, by omega⟩) (fun y_2 hy_2 => (bk_inl (q_iload_n rfl rfl ?_))))))))
      by_cases h_3 : y_2 < a3
      · refine v_ic_lt_t (t := 71) rfl rfl ⟨hy_2.1, h_3, ha3.2⟩ (q_aload_n rfl rfl (v_gr (t := 39) rfl rfl rfl (Nat.le_of_ble_eq_true rfl) rfl (q_iload_n rfl rfl (q_iload_n rfl rfl (v_cv rfl rfl rfl rfl (Nat.le_of_ble_eq_true rfl) ⟨⟨rfl, rfl⟩, Nat.le_of_ble_eq_true rfl, rfl⟩ (Nat.le_of_ble_eq_true rfl) (Nat.le_of_ble_eq_true rfl) (s_44 (a1 := a2) (a2 := a1) hI2 (.inr ⟨rfl, rfl⟩) (show 0 ≤ a2 ∧ a2 ≤ 3 from ⟨by omega, by omega⟩) (show 0 ≤ a1 ∧ a1 ≤ 5 from ⟨by omega, by omega⟩) (fun c_4 y_7 hI_5 hF_6 hy_7 => (bk_inl (q_pop rfl rfl ?_)))))))))
        refine v_iinc (v := v4 + 1) rfl rfl (Nat.le_of_ble_eq_true rfl) rfl (q_goto (t := 49) rfl rfl (Wp_ls [(0, .ref 0), (1, vi a1), (2, vi a2), (3, vi a3), (4, vi (v4 + 1))] (lsub_cons rfl (lsub_cons rfl (lsub_cons rfl (lsub_cons rfl (lsub_cons rfl lsub_nil))))) ?_))
        exact ih c_4 (v4 + 1) hI_5 (fun a j hm => (hF_6 a j (fun h => hm (Or.inr (Or.inr h)))).trans (hF a j (fun q => q.elim (fun h => hm (Or.inl h)) (fun q => q.elim (fun h => hm (Or.inr (Or.inl h))) (fun h => hm (Or.inr (Or.inr h))))))) ⟨by first | exact rgp_l hv4.1 (by decide) | omega, by first | exact q_1eecf77db h_1 | omega⟩ ⟨by omega, by omega⟩ ⟨by omega, by omega⟩ (by omega)
      · refine v_ic_lt_f (t := 71) rfl rfl ⟨ha3.1, (Int.not_lt.mp h_3), hy_2.2⟩ (q_iload rfl rfl (q_iret rfl rfl ?_))
        exact K c2 v4 hI2 (fun a j hm => hF a j (fun q => q.elim (fun h => hm (Or.inl h)) (fun q => q.elim (fun h => hm (Or.inr (Or.inl h))) (fun h => hm (Or.inr (Or.inr h)))))) ⟨(Int.le_trans (by decide) hv4.1), (Int.le_trans hv4.2 (by decide))⟩
set_option maxRecDepth 100000 in
set_option maxHeartbeats 4000000 in
theorem s_112 {sc : List Int32} {d P Q : Nat} {c : ME} {a1 : Int} {a2 : Int} {a3 : Int} {Z : AR → Prop} (hI : Iv 0 (-1) P Q c) (ha1 : (-2147483648) ≤ a1 ∧ a1 ≤ 2147483647) (ha2 : (-2147483648) ≤ a2 ∧ a2 ≤ 2147483647) (ha3 : (-2147483648) ≤ a3 ∧ a3 ≤ 2147483647) (T100 : ∀ c2 : ME, Iv 0 (-1) P Q c2 → (∀ (a : Nat) (j : Int), ¬ ((a = 0 ∧ j = 12) ∨ (a = 0 ∧ j = 13) ∨ a = 40) → c2 a j = c a j) → Z (.inr 100, Wd P Q P P c2, 1, 6)) (T101 : ∀ c2 : ME, Iv 0 (-1) P Q c2 → (∀ (a : Nat) (j : Int), ¬ ((a = 0 ∧ j = 12) ∨ (a = 0 ∧ j = 13) ∨ a = 40) → c2 a j = c a j) → Z (.inr 101, Wd P Q P P c2, 1, 6)) (K : ∀ (c2 : ME) (y : Int), Iv 0 (-1) P Q c2 → (∀ (a : Nat) (j : Int), ¬ ((a = 0 ∧ j = 12) ∨ (a = 0 ∧ j = 13) ∨ a = 40) → c2 a j = c a j) → (-2147483648) ≤ y ∧ y ≤ 2147483647 → Z (.inl (some (vi y)), Wd P Q P P c2, 0, 0)) : Wp sc (d + 9) 112 0 [(0, .ref 0), (1, vi a1), (2, vi a2), (3, vi a3)] [] (Wd P Q P P c) 0 0 Z := by
  have hP := iv_P hI
  have hQ := iv_Q hI
  refine q_aload_n rfl rfl (q_iload_n rfl rfl (v_cv rfl rfl rfl rfl (Nat.le_of_ble_eq_true rfl) ⟨⟨rfl, rfl⟩, Nat.le_of_ble_eq_true rfl, rfl⟩ (Nat.le_of_ble_eq_true rfl) (Nat.le_of_ble_eq_true rfl) (q_aload_n rfl rfl (q_iload_n rfl rfl (q_iconst rfl (q_aload_n rfl rfl (v_gr (t := P) rfl rfl rfl (Nat.le_of_ble_eq_true rfl) rfl ?_)))))))
  have h_8 := ir_p0_0 hI hP
  refine v_gi (z := 0) (v := c P 0) rfl rfl (ck_p0 hP) (a68z hP) rfl rfl rfl (q_iconst rfl (v_isub (v := c P 0 - 1) rfl rfl (q_call rfl rfl rfl rfl (q_iload_n rfl rfl (q_iload_n rfl rfl ?_)))))
  by_cases h_9 : a1 < 0
  · refine v_ic_lt_t (t := 14) rfl rfl ⟨ha1.1, h_9, by decide⟩ (q_iconst rfl (v_zret rfl rfl (by decide) (bk_inl (v_cv rfl rfl rfl rfl (Nat.le_of_ble_eq_true rfl) ⟨⟨rfl, rfl⟩, Nat.le_of_ble_eq_true rfl, rfl⟩ (Nat.le_of_ble_eq_true rfl) (Nat.le_of_ble_eq_true rfl) (q_iload_n rfl rfl (v_if_ne_f (t := 25) rfl rfl (by decide) (q_aload_n rfl rfl ?_)))))))
    refine q_dup rfl rfl ?_
    have h_10 := ir_0_12 hI
    refine v_gi (z := 12) (v := c 0 12) rfl rfl rfl (Nat.le_of_ble_eq_true rfl) rfl rfl rfl (q_iconst rfl (v_iadd (v := c 0 12 + 1) rfl rfl (v_nrm (fun y_11 hy_11 => (v_pi (z := 12) rfl rfl rfl (Nat.le_of_ble_eq_true rfl) rfl rfl rfl (by decide) (v_new rfl rfl (by decide) (by omega) (Nat.le_of_ble_eq_true rfl) (by decide) rfl (bk_out rfl rfl (bk_out rfl rfl ?_))))))))
    have hI_12 := iw_0_12 (v := y_11) hI ⟨hy_11.1, hy_11.2⟩
    exact T100 _ hI_12 (fun a j hm => up_b (Decidable.or_iff_not_imp_left.mpr (fun h1 h2 => hm (Or.inl ⟨Decidable.not_not.mp h1, h2⟩))))
  · refine v_ic_lt_f (t := 14) rfl rfl ⟨by decide, (Int.not_lt.mp h_9), ha1.2⟩ (q_iload_n rfl rfl (q_iload_n rfl rfl ?_))
    by_cases h_13 : a1 > c P 0 - 1
    · refine v_ic_gt_t (t := 14) rfl rfl ⟨by first | exact rgm_l h_8.1 (by decide) | omega, h_13, ha1.2⟩ (q_iconst rfl (v_zret rfl rfl (by decide) (bk_inl (v_cv rfl rfl rfl rfl (Nat.le_of_ble_eq_true rfl) ⟨⟨rfl, rfl⟩, Nat.le_of_ble_eq_true rfl, rfl⟩ (Nat.le_of_ble_eq_true rfl) (Nat.le_of_ble_eq_true rfl) (q_iload_n rfl rfl (v_if_ne_f (t := 25) rfl rfl (by decide) (q_aload_n rfl rfl ?_)))))))
      refine q_dup rfl rfl ?_
      have h_14 := ir_0_12 hI
      refine v_gi (z := 12) (v := c 0 12) rfl rfl rfl (Nat.le_of_ble_eq_true rfl) rfl rfl rfl (q_iconst rfl (v_iadd (v := c 0 12 + 1) rfl rfl (v_nrm (fun y_15 hy_15 => (v_pi (z := 12) rfl rfl rfl (Nat.le_of_ble_eq_true rfl) rfl rfl rfl (by decide) (v_new rfl rfl (by decide) (by omega) (Nat.le_of_ble_eq_true rfl) (by decide) rfl (bk_out rfl rfl (bk_out rfl rfl ?_))))))))
      have hI_16 := iw_0_12 (v := y_15) hI ⟨hy_15.1, hy_15.2⟩
      exact T100 _ hI_16 (fun a j hm => up_b (Decidable.or_iff_not_imp_left.mpr (fun h1 h2 => hm (Or.inl ⟨Decidable.not_not.mp h1, h2⟩))))
    · refine v_ic_gt_f (t := 14) rfl rfl ⟨ha1.1, (Int.not_lt.mp h_13), by first | exact rgm_h h_8.2 (by decide) | omega⟩ (q_iconst rfl (q_goto (t := 15) rfl rfl (v_zret rfl rfl (by decide) (bk_inl (v_cv rfl rfl rfl rfl (Nat.le_of_ble_eq_true rfl) ⟨⟨rfl, rfl⟩, Nat.le_of_ble_eq_true rfl, rfl⟩ (Nat.le_of_ble_eq_true rfl) (Nat.le_of_ble_eq_true rfl) (q_iload_n rfl rfl (v_if_ne_t (t := 25) rfl rfl (by decide) ?_)))))))
      refine q_vret rfl rfl (bk_inl (q_vret rfl rfl (bk_inl (q_aload_n rfl rfl (q_iload_n rfl rfl (v_cv rfl rfl rfl rfl (Nat.le_of_ble_eq_true rfl) ⟨⟨rfl, rfl⟩, Nat.le_of_ble_eq_true rfl, rfl⟩ (Nat.le_of_ble_eq_true rfl) (Nat.le_of_ble_eq_true rfl) (q_aload_n rfl rfl ?_)))))))
      refine q_iload_n rfl rfl (q_iconst rfl (q_aload_n rfl rfl (v_gr (t := P) rfl rfl rfl (Nat.le_of_ble_eq_true rfl) rfl ?_)))
      have h_17 := ir_p0_1 hI hP
      refine v_gi (z := 1) (v := c P 1) rfl rfl (ck_p0 hP) (a68z hP) rfl rfl rfl (q_iconst rfl (v_isub (v := c P 1 - 1) rfl rfl (q_call rfl rfl rfl rfl (q_iload_n rfl rfl (q_iload_n rfl rfl ?_)))))
      by_cases h_18 : a2 < 0
      · refine v_ic_lt_t (t := 14) rfl rfl ⟨ha2.1, h_18, by decide⟩ (q_iconst rfl (v_zret rfl rfl (by decide) (bk_inl (v_cv rfl rfl rfl rfl (Nat.le_of_ble_eq_true rfl) ⟨⟨rfl, rfl⟩, Nat.le_of_ble_eq_true rfl, rfl⟩ (Nat.le_of_ble_eq_true rfl) (Nat.le_of_ble_eq_true rfl) (q_iload_n rfl rfl (v_if_ne_f (t := 25) rfl rfl (by decide) (q_aload_n rfl rfl ?_)))))))
        refine q_dup rfl rfl ?_
        have h_19 := ir_0_12 hI
        refine v_gi (z := 12) (v := c 0 12) rfl rfl rfl (Nat.le_of_ble_eq_true rfl) rfl rfl rfl (q_iconst rfl (v_iadd (v := c 0 12 + 1) rfl rfl (v_nrm (fun y_20 hy_20 => (v_pi (z := 12) rfl rfl rfl (Nat.le_of_ble_eq_true rfl) rfl rfl rfl (by decide) (v_new rfl rfl (by decide) (by omega) (Nat.le_of_ble_eq_true rfl) (by decide) rfl (bk_out rfl rfl (bk_out rfl rfl ?_))))))))
        have hI_21 := iw_0_12 (v := y_20) hI ⟨hy_20.1, hy_20.2⟩
        exact T100 _ hI_21 (fun a j hm => up_b (Decidable.or_iff_not_imp_left.mpr (fun h1 h2 => hm (Or.inl ⟨Decidable.not_not.mp h1, h2⟩))))
      · refine v_ic_lt_f (t := 14) rfl rfl ⟨by decide, (Int.not_lt.mp h_18), ha2.2⟩ (q_iload_n rfl rfl (q_iload_n rfl rfl ?_))
        by_cases h_22 : a2 > c P 1 - 1
        · refine v_ic_gt_t (t := 14) rfl rfl ⟨by first | exact rgm_l h_17.1 (by decide) | omega, h_22, ha2.2⟩ (q_iconst rfl (v_zret rfl rfl (by decide) (bk_inl (v_cv rfl rfl rfl rfl (Nat.le_of_ble_eq_true rfl) ⟨⟨rfl, rfl⟩, Nat.le_of_ble_eq_true rfl, rfl⟩ (Nat.le_of_ble_eq_true rfl) (Nat.le_of_ble_eq_true rfl) (q_iload_n rfl rfl (v_if_ne_f (t := 25) rfl rfl (by decide) (q_aload_n rfl rfl ?_)))))))
          refine q_dup rfl rfl ?_
          have h_23 := ir_0_12 hI
          refine v_gi (z := 12) (v := c 0 12) rfl rfl rfl (Nat.le_of_ble_eq_true rfl) rfl rfl rfl (q_iconst rfl (v_iadd (v := c 0 12 + 1) rfl rfl (v_nrm (fun y_24 hy_24 => (v_pi (z := 12) rfl rfl rfl (Nat.le_of_ble_eq_true rfl) rfl rfl rfl (by decide) (v_new rfl rfl (by decide) (by omega) (Nat.le_of_ble_eq_true rfl) (by decide) rfl (bk_out rfl rfl (bk_out rfl rfl ?_))))))))
          have hI_25 := iw_0_12 (v := y_24) hI ⟨hy_24.1, hy_24.2⟩
          exact T100 _ hI_25 (fun a j hm => up_b (Decidable.or_iff_not_imp_left.mpr (fun h1 h2 => hm (Or.inl ⟨Decidable.not_not.mp h1, h2⟩))))
        · refine v_ic_gt_f (t := 14) rfl rfl ⟨ha2.1, (Int.not_lt.mp h_22), by first | exact rgm_h h_17.2 (by decide) | omega⟩ (q_iconst rfl (q_goto (t := 15) rfl rfl (v_zret rfl rfl (by decide) (bk_inl (v_cv rfl rfl rfl rfl (Nat.le_of_ble_eq_true rfl) ⟨⟨rfl, rfl⟩, Nat.le_of_ble_eq_true rfl, rfl⟩ (Nat.le_of_ble_eq_true rfl) (Nat.le_of_ble_eq_true rfl) (q_iload_n rfl rfl (v_if_ne_t (t := 25) rfl rfl (by decide) ?_)))))))
          refine q_vret rfl rfl (bk_inl (q_vret rfl rfl (bk_inl (q_aload_n rfl rfl (q_iload_n rfl rfl (q_iconst rfl (v_sip rfl (by decide) ?_)))))))
          refine q_call rfl rfl rfl rfl (q_iload_n rfl rfl (q_iload_n rfl rfl ?_))
          by_cases h_26 : a3 < 0
          · refine v_ic_lt_t (t := 14) rfl rfl ⟨ha3.1, h_26, by decide⟩ (q_iconst rfl (v_zret rfl rfl (by decide) (bk_inl (v_cv rfl rfl rfl rfl (Nat.le_of_ble_eq_true rfl) ⟨⟨rfl, rfl⟩, Nat.le_of_ble_eq_true rfl, rfl⟩ (Nat.le_of_ble_eq_true rfl) (Nat.le_of_ble_eq_true rfl) (q_iload_n rfl rfl (v_if_ne_f (t := 25) rfl rfl (by decide) (q_aload_n rfl rfl ?_)))))))
            refine q_dup rfl rfl ?_
            have h_27 := ir_0_13 hI
            refine v_gi (z := 13) (v := c 0 13) rfl rfl rfl (Nat.le_of_ble_eq_true rfl) rfl rfl rfl (q_iconst rfl (v_iadd (v := c 0 13 + 1) rfl rfl (v_nrm (fun y_28 hy_28 => (v_pi (z := 13) rfl rfl rfl (Nat.le_of_ble_eq_true rfl) rfl rfl rfl (by decide) (v_new rfl rfl (by decide) (by omega) (Nat.le_of_ble_eq_true rfl) (by decide) rfl (bk_out rfl rfl ?_)))))))
            have hI_29 := iw_0_13 (v := y_28) hI ⟨hy_28.1, hy_28.2⟩
            exact T101 _ hI_29 (fun a j hm => up_b (Decidable.or_iff_not_imp_left.mpr (fun h1 h2 => hm (Or.inr (Or.inl ⟨Decidable.not_not.mp h1, h2⟩)))))
          · refine v_ic_lt_f (t := 14) rfl rfl ⟨by decide, (Int.not_lt.mp h_26), ha3.2⟩ (q_iload_n rfl rfl (q_iload_n rfl rfl ?_))
            by_cases h_30 : a3 > 1000
            · refine v_ic_gt_t (t := 14) rfl rfl ⟨by decide, h_30, ha3.2⟩ (q_iconst rfl (v_zret rfl rfl (by decide) (bk_inl (v_cv rfl rfl rfl rfl (Nat.le_of_ble_eq_true rfl) ⟨⟨rfl, rfl⟩, Nat.le_of_ble_eq_true rfl, rfl⟩ (Nat.le_of_ble_eq_true rfl) (Nat.le_of_ble_eq_true rfl) (q_iload_n rfl rfl (v_if_ne_f (t := 25) rfl rfl (by decide) (q_aload_n rfl rfl ?_)))))))
              refine q_dup rfl rfl ?_
              have h_31 := ir_0_13 hI
              refine v_gi (z := 13) (v := c 0 13) rfl rfl rfl (Nat.le_of_ble_eq_true rfl) rfl rfl rfl (q_iconst rfl (v_iadd (v := c 0 13 + 1) rfl rfl (v_nrm (fun y_32 hy_32 => (v_pi (z := 13) rfl rfl rfl (Nat.le_of_ble_eq_true rfl) rfl rfl rfl (by decide) (v_new rfl rfl (by decide) (by omega) (Nat.le_of_ble_eq_true rfl) (by decide) rfl (bk_out rfl rfl ?_)))))))
              have hI_33 := iw_0_13 (v := y_32) hI ⟨hy_32.1, hy_32.2⟩
              exact T101 _ hI_33 (fun a j hm => up_b (Decidable.or_iff_not_imp_left.mpr (fun h1 h2 => hm (Or.inr (Or.inl ⟨Decidable.not_not.mp h1, h2⟩)))))
            · refine v_ic_gt_f (t := 14) rfl rfl ⟨ha3.1, (Int.not_lt.mp h_30), by decide⟩ (q_iconst rfl (q_goto (t := 15) rfl rfl (v_zret rfl rfl (by decide) (bk_inl (v_cv rfl rfl rfl rfl (Nat.le_of_ble_eq_true rfl) ⟨⟨rfl, rfl⟩, Nat.le_of_ble_eq_true rfl, rfl⟩ (Nat.le_of_ble_eq_true rfl) (Nat.le_of_ble_eq_true rfl) (q_iload_n rfl rfl (v_if_ne_t (t := 25) rfl rfl (by decide) ?_)))))))
              refine q_vret rfl rfl (bk_inl (q_aload_n rfl rfl (v_gr (t := 37) rfl rfl rfl (Nat.le_of_ble_eq_true rfl) rfl (q_iload_n rfl rfl ?_))))
              have h_34 := ir_38_g hI (j := 4 * a1) (by first | exact q_39694b04c h_13 h_8 | omega)
              have h_35 := ir_38_g hI (j := 4 * a1 + 1) (by first | exact q_daba94bfb h_13 h_8 | omega)
              have h_36 := ir_38_g hI (j := 4 * a1 + 2) (by first | exact q_c56a483ea h_13 h_8 | omega)
              have h_37 := ir_38_g hI (j := 4 * a1 + 3) (by first | exact q_bd71cc491 h_13 h_8 | (clear ha1 ha2 ha3 h_9 h_17 h_18 h_22 h_26 h_30 h_34 h_35 h_36; omega) | omega)
              refine v_cv rfl rfl rfl rfl (Nat.le_of_ble_eq_true rfl) ⟨⟨rfl, rfl⟩, Nat.le_of_ble_eq_true rfl, rfl⟩ (Nat.le_of_ble_eq_true rfl) (Nat.le_of_ble_eq_true rfl) (s_43 (v1 := c 38 (4 * a1)) (v2 := c 38 (4 * a1 + 1)) (v3 := c 38 (4 * a1 + 2)) (v4 := c 38 (4 * a1 + 3)) (r := c 38 (4 * a1 + 1) + c 38 (4 * a1 + 2) + c 38 (4 * a1 + 3) + c 38 (4 * a1)) (a1 := a1) hI (.inl ⟨rfl, rfl⟩) (show 0 ≤ a1 ∧ a1 ≤ 5 from ⟨by first | exact q_720657ba9 h_9 | omega, by first | exact q_2aee6eea3 h_13 h_8 | omega⟩) (rfl) (rfl) (rfl) (rfl) (by omega) (bk_inl ?_))
              by_cases h_38 : c 38 (4 * a1 + 1) + c 38 (4 * a1 + 2) + c 38 (4 * a1 + 3) + c 38 (4 * a1) ≠ 0
              · refine v_if_ne_t (t := 35) rfl rfl ⟨h_38, ⟨by first | exact q_e052ef40e h_34 h_35 h_36 h_37 | (clear ha1 ha2 ha3 h_8 h_9 h_13 h_17 h_18 h_22 h_26 h_30; omega) | omega, by first | exact q_db9ef1f4a h_34 h_35 h_36 h_37 | (clear ha1 ha2 ha3 h_8 h_9 h_13 h_17 h_18 h_22 h_26 h_30; omega) | omega⟩, by decide, by decide⟩ (q_aload_n rfl rfl (v_gr (t := 39) rfl rfl rfl (Nat.le_of_ble_eq_true rfl) rfl (q_aload_n rfl rfl (v_gr (t := 37) rfl rfl rfl (Nat.le_of_ble_eq_true rfl) rfl (v_cv rfl rfl rfl rfl (Nat.le_of_ble_eq_true rfl) ⟨⟨rfl, rfl⟩, Nat.le_of_ble_eq_true rfl, rfl⟩ (Nat.le_of_ble_eq_true rfl) (Nat.le_of_ble_eq_true rfl) (s_66 hI (fun c_39 hI_40 hF_41 => (bk_inl (q_iconst rfl ?_)))))))))
                refine q_istore rfl (Nat.le_of_ble_eq_true rfl) (Wp_ls [(0, .ref 0), (1, vi a1), (2, vi a2), (3, vi a3), (4, vi 0)] (lsub_cons rfl (lsub_cons rfl (lsub_cons rfl (lsub_cons rfl (lsub_cons rfl lsub_nil))))) ?_)
                exact (s_112_l (sc := sc) (d := d) hI ha1 ha2 ha3 T100 T101 K 204) c_39 0 hI_40 (fun a j hm => hF_41 a j (fun h => hm (Or.inr (Or.inr h)))) ⟨by decide, by decide⟩ ⟨by first | exact q_720657ba9 h_9 | (clear ha1 ha2 ha3 h_8 h_13 h_17 h_18 h_22 h_26 h_30 h_34 h_35 h_36 h_37 h_38; omega) | omega, by first | exact q_2aee6eea3 h_13 h_8 | (clear ha1 ha2 ha3 h_9 h_17 h_18 h_22 h_26 h_30 h_34 h_35 h_36 h_37 h_38; omega) | omega⟩ ⟨by first | exact q_720657ba9 h_18 | (clear ha1 ha2 ha3 h_8 h_9 h_13 h_17 h_22 h_26 h_30 h_34 h_35 h_36 h_37 h_38; omega) | omega, by first | exact q_1b5e4f74b h_17 h_22 | (clear ha1 ha2 ha3 h_8 h_9 h_13 h_18 h_26 h_30 h_34 h_35 h_36 h_37 h_38; omega) | omega⟩ (by omega)
              · refine v_if_ne_f (t := 35) rfl rfl (Decidable.not_not.mp h_38) (q_iconst rfl (q_iret rfl rfl ?_))
                exact K c (-1) hI (fun a j hm => rfl) ⟨by decide, by decide⟩

set_option maxRecDepth 100000 in
set_option maxHeartbeats 4000000 in
theorem s_113_l {sc : List Int32} {e : Int} {d u P Q : Nat} {c : ME} {a1 : Int} {Z : AR → Prop} (hI : Iv u e P Q c) (ha1 : 0 ≤ a1 ∧ a1 ≤ 3) (K : ∀ (c2 : ME) (y : Int), Iv u e P Q c2 → (∀ (a : Nat) (j : Int), ¬ (a = 12) → c2 a j = c a j) → (-2147483648) ≤ y ∧ y ≤ 2147483647 → Z (.inl (some (vi y)), Wd P Q P P c2, 0, 0)) : ∀ n : Nat, (∀ (c2 : ME) (v2 : Int) (v3 : Int), Iv u e P Q c2 → (∀ (a : Nat) (j : Int), ¬ (a = 12) → c2 a j = c a j) → (-2147483648) ≤ v2 ∧ v2 ≤ 2147483647 → 0 ≤ v3 ∧ v3 ≤ 4 → 9 - 2 * v3 < (n : Int) → Wp sc (d + 9) 113 4 [(0, .ref 0), (1, vi a1), (2, vi v2), (3, vi v3)] [] (Wd P Q P P c2) 0 0 Z)
  | 0 => by intro c2 v2 v3 hI2 hF hv2 hv3 hm9; have hP := iv_P hI; have hQ := iv_Q hI; exfalso; omega
  | n + 1 => by
    have hP := iv_P hI
    have hQ := iv_Q hI
    have ih := s_113_l (sc := sc) (d := d) hI ha1 K n
    intro c2 v2 v3 hI2 hF hv2 hv3 hm9
    refine q_iload_n rfl rfl (q_iconst rfl ?_)
    by_cases h_1 : v3 ≥ 4
    · refine v_ic_ge_t (t := 45) rfl rfl ⟨by decide, h_1, (Int.le_trans hv3.2 (by decide))⟩ (q_iload_n rfl rfl (q_iret rfl rfl ?_))
      exact K c2 v2 hI2 (fun a j hm => hF a j (fun h => hm h)) hv2
    · refine v_ic_ge_f (t := 45) rfl rfl ⟨(Int.le_trans (by decide) hv3.1), (Int.not_le.mp h_1), by decide⟩ (q_aload_n rfl rfl (v_gr (t := 12) rfl rfl rfl (Nat.le_of_ble_eq_true rfl) rfl (q_iload_n rfl rfl (q_aload_n rfl rfl (v_gr (t := 37) rfl rfl rfl (Nat.le_of_ble_eq_true rfl) rfl (q_iload_n rfl rfl (q_iload_n rfl rfl ?_)))))))
      refine q_aload_n rfl rfl (v_gr (t := 12) rfl rfl rfl (Nat.le_of_ble_eq_true rfl) rfl (q_iload_n rfl rfl ?_))
      have h_2 := ir_12 hI2 v3
      refine v_ia (v := c2 12 v3) rfl rfl (by decide) (by decide) ⟨hv3.1, by first | exact q_2e808647e h_1 | omega⟩ rfl ?_
      have h_3 := ir_p3 hI hP a1
      have kn_4 : Hid (c2 (P + 3) a1 = c (P + 3) a1) := hF (P + 3) a1 (fun h => absurd h (np hP rfl rfl))
      have h_5 := ir_38 hI 30
      have kn_6 : Hid (c2 38 30 = c 38 30) := hF 38 30 (fun h => absurd h (nn rfl))
      have h_7 := fal_rng (m := c (P + 3) a1) (t := tb (c 38 30) a1) (g := v3) (x := c2 12 v3) (by omega)
      refine v_cv rfl rfl rfl rfl (Nat.le_of_ble_eq_true rfl) ⟨⟨rfl, rfl⟩, Nat.le_of_ble_eq_true rfl, rfl⟩ (Nat.le_of_ble_eq_true rfl) (Nat.le_of_ble_eq_true rfl) (s_47 (v1 := c (P + 3) a1) (v2 := c 38 30) (r := (fal (c (P + 3) a1) (tb (c 38 30) a1) v3 (c2 12 v3))) (a1 := a1) (a2 := v3) (a3 := c2 12 v3) hI2 (.inl ⟨rfl, rfl⟩) (show 0 ≤ a1 ∧ a1 ≤ 3 from ha1) (show 0 ≤ v3 ∧ v3 ≤ 3 from ⟨hv3.1, by first | exact q_482ef8d41 h_1 | omega⟩) (show 0 ≤ c2 12 v3 ∧ c2 12 v3 ≤ 9999 from h_2) ((hid kn_4)) ((hid kn_6)) rfl (bk_inl (v_is rfl rfl (by decide) (by decide) ⟨hv3.1, by first | exact q_2e808647e h_1 | omega⟩ (q_iload_n rfl rfl (q_aload_n rfl rfl (v_gr (t := 12) rfl rfl rfl (Nat.le_of_ble_eq_true rfl) rfl (q_iload_n rfl rfl (v_ia (v := (fal (c (P + 3) a1) (tb (c 38 30) a1) v3 (c2 12 v3))) rfl rfl (by decide) (by decide) ⟨hv3.1, by first | exact q_2e808647e h_1 | omega⟩ (up_e rfl) ?_))))))))
      refine v_iadd (v := (fal (c (P + 3) a1) (tb (c 38 30) a1) v3 (c2 12 v3)) + v2) rfl (by omega) (v_nrm (fun y_8 hy_8 => (q_istore_n rfl (Nat.le_of_ble_eq_true rfl) (v_iinc (v := v3 + 1) rfl rfl (Nat.le_of_ble_eq_true rfl) rfl (q_goto (t := 4) rfl rfl ?_)))))
      have hI_9 := iw_12 (j := v3) (v := (fal (c (P + 3) a1) (tb (c 38 30) a1) v3 (c2 12 v3))) hI2 ⟨by omega, by omega⟩
      refine Wp_ls [(0, .ref 0), (1, vi a1), (2, vi y_8), (3, vi (v3 + 1))] (lsub_cons rfl (lsub_cons rfl (lsub_cons rfl (lsub_cons rfl lsub_nil)))) ?_
      exact ih (up c2 12 v3 (fal (c (P + 3) a1) (tb (c 38 30) a1) v3 (c2 12 v3))) y_8 (v3 + 1) hI_9 (fun a j hm => (up_b (Decidable.or_iff_not_imp_left.mpr (fun h1 h2 => hm (Decidable.not_not.mp h1)))).trans (hF a j (fun h => hm h))) hy_8 ⟨by first | exact rgp_l hv3.1 (by decide) | omega, by first | exact q_121241f94 h_1 | omega⟩ (by omega)
set_option maxRecDepth 100000 in
set_option maxHeartbeats 4000000 in
theorem s_113 {sc : List Int32} {e : Int} {d u P Q : Nat} {c : ME} {a1 : Int} {Z : AR → Prop} (hI : Iv u e P Q c) (ha1 : 0 ≤ a1 ∧ a1 ≤ 3) (K : ∀ (c2 : ME) (y : Int), Iv u e P Q c2 → (∀ (a : Nat) (j : Int), ¬ (a = 12) → c2 a j = c a j) → (-2147483648) ≤ y ∧ y ≤ 2147483647 → Z (.inl (some (vi y)), Wd P Q P P c2, 0, 0)) : Wp sc (d + 9) 113 0 [(0, .ref 0), (1, vi a1)] [] (Wd P Q P P c) 0 0 Z := by
  have hP := iv_P hI
  have hQ := iv_Q hI
  refine q_iconst rfl (q_istore_n rfl (Nat.le_of_ble_eq_true rfl) (q_iconst rfl (q_istore_n rfl (Nat.le_of_ble_eq_true rfl) (Wp_ls [(0, .ref 0), (1, vi a1), (2, vi 0), (3, vi 0)] (lsub_cons rfl (lsub_cons rfl (lsub_cons rfl (lsub_cons rfl lsub_nil)))) ?_))))
  exact (s_113_l (sc := sc) (d := d) hI ha1 K 12) c 0 0 hI (fun a j hm => rfl) ⟨by decide, by decide⟩ ⟨by decide, by decide⟩ (by omega)

