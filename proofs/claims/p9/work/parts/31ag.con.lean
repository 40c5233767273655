/-! ===== contracts 6 ===== -/
theorem q_aa51b186e {x0 x1 : Int} (f0 : 0 ≤ x0 ∧ x0 ≤ 6) (f1 : ¬ (x1 ≥ x0)) : 4 * x1 < 24 := by omega
theorem q_57851f9de {x0 x1 : Int} (f0 : 0 ≤ x0 ∧ x0 ≤ 6) (f1 : ¬ (x1 ≥ x0)) : 4 * x1 + 1 < 24 := by omega
theorem q_7296e74e6 {x0 x1 : Int} (f0 : 0 ≤ x0 ∧ x0 ≤ 6) (f1 : ¬ (x1 ≥ x0)) : 4 * x1 + 2 < 24 := by omega
theorem q_b15525c4c {x0 x1 : Int} (f0 : 0 ≤ x0 ∧ x0 ≤ 6) (f1 : ¬ (x1 ≥ x0)) : 4 * x1 + 3 < 24 := by omega
theorem q_d63a8538e {x0 x1 : Int} (f0 : 0 ≤ x0 ∧ x0 ≤ 6) (f1 : ¬ (x1 ≥ x0)) : x1 ≤ 5 := by omega
theorem q_94559468f {x0 x1 x2 x3 : Int} (f0 : 0 ≤ x0 ∧ x0 ≤ 9999) (f1 : 0 ≤ x1 ∧ x1 ≤ 9999) (f2 : 0 ≤ x2 ∧ x2 ≤ 9999) (f3 : 0 ≤ x3 ∧ x3 ≤ 9999) : (-2147483648) ≤ x2 + x3 + x0 + x1 := by omega
theorem q_4a76cd9c7 {x0 x1 : Int} (f0 : 0 ≤ x0 ∧ x0 ≤ 6) (f1 : ¬ (x1 ≥ x0)) : x1 + 1 ≤ 6 := by omega
theorem q_f81653045 {x0 x1 x2 x3 : Int} (f0 : 0 ≤ x0 ∧ x0 ≤ 9999) (f1 : 0 ≤ x1 ∧ x1 ≤ 9999) (f2 : 0 ≤ x2 ∧ x2 ≤ 9999) (f3 : 0 ≤ x3 ∧ x3 ≤ 9999) : x2 + x3 + x0 + x1 ≤ 2147483647 := by omega
theorem q_fbbb1c60d {x0 : Int} (f0 : 0 ≤ x0 ∧ x0 ≤ 6) : x0 + 24 < 34 := by omega
set_option maxRecDepth 100000 in
set_option maxHeartbeats 4000000 in
theorem s_58 {sc : List Int32} {d P Q sh s : Nat} {c : ME} {a1 : Int} {Z : AR → Prop} (hI : Iv 0 (-1) P Q c) (hs : (sh = 37 ∧ s = 38) ∨ (sh = 39 ∧ s = 40)) (ha1 : 0 ≤ a1 ∧ a1 ≤ 5) (K : ∀ (c2 : ME) (y : Int), Iv 0 (-1) P Q c2 → (∀ (a : Nat) (j : Int), ¬ (a = s ∨ a = (P + 10) ∨ a = (P + 11)) → c2 a j = c a j) → 0 ≤ y ∧ y ≤ 1 → Z (.inl (some (vi y)), Wd P Q P P c2, 0, 0)) : Wp sc (d + 11) 58 0 [(0, .ref sh), (1, vi a1)] [] (Wd P Q P P c) 0 0 Z := by
  have hP := iv_P hI
  have hQ := iv_Q hI
  have hIo : Iv s (-1) P Q c := iv_open hI
  have hsum_1 := ir_s_r hI hs (by omega) (j := a1) (by omega)
  have h_2 := ir_s_g hI hs (j := 4 * a1) (by first | exact q_9f1d5ffdc ha1 | omega)
  have h_3 := ir_s_g hI hs (j := 4 * a1 + 1) (by first | exact q_0a2ee6f8f ha1 | omega)
  have h_4 := ir_s_g hI hs (j := 4 * a1 + 2) (by first | exact q_e07a293a2 ha1 | omega)
  have h_5 := ir_s_g hI hs (j := 4 * a1 + 3) (by first | exact q_d09cb0b73 ha1 | omega)
  refine q_aload_n rfl rfl (q_iload_n rfl rfl (v_cv rfl rfl rfl (ck_sh hs) (by omega) ⟨⟨rfl, rfl⟩, by decide, rfl⟩ (Nat.le_of_ble_eq_true rfl) (Nat.le_of_ble_eq_true rfl) (s_57 (a1 := a1) hIo hs (show 0 ≤ a1 ∧ a1 ≤ 5 from ha1) (fun c_6 y_9 hI_7 hF_8 hy_9 => (bk_inl ?_)))))
  by_cases h_10 : y_9 ≠ 0
  · refine v_if_ne_t (t := 10) rfl rfl ⟨h_10, ⟨(Int.le_trans (by decide) hy_9.1), (Int.le_trans hy_9.2 (by decide))⟩, by decide, by decide⟩ (q_aload_n rfl rfl (v_gr (t := s) rfl rfl (ck_sh hs) (by omega) rfl (v_bip rfl (by decide) (q_dup2 rfl ⟨rfl, rfl⟩ ?_))))
    have h_11 := ir_s hI hs 33
    have kn_12 : Hid (c_6 s 33 = c s 33) := hF_8 s 33 (by omega)
    refine v_ia (v := c s 33) rfl (ck_s hs) (by omega) (by decide) (by decide) (hid kn_12) (q_aload_n rfl rfl (q_iload_n rfl rfl ?_))
    have kn_13 : Hid (c_6 s (4 * a1) = c s (4 * a1)) := hF_8 s (4 * a1) (by omega)
    have kn_14 : Hid (c_6 s (4 * a1 + 1) = c s (4 * a1 + 1)) := hF_8 s (4 * a1 + 1) (by omega)
    have kn_15 : Hid (c_6 s (4 * a1 + 2) = c s (4 * a1 + 2)) := hF_8 s (4 * a1 + 2) (by omega)
    have kn_16 : Hid (c_6 s (4 * a1 + 3) = c s (4 * a1 + 3)) := hF_8 s (4 * a1 + 3) (by omega)
    refine v_cv rfl rfl rfl (ck_sh hs) (by omega) ⟨⟨rfl, rfl⟩, by decide, rfl⟩ (Nat.le_of_ble_eq_true rfl) (Nat.le_of_ble_eq_true rfl) (s_43 (v1 := c s (4 * a1)) (v2 := c s (4 * a1 + 1)) (v3 := c s (4 * a1 + 2)) (v4 := c s (4 * a1 + 3)) (r := c s (4 * a1 + 1) + c s (4 * a1 + 2) + c s (4 * a1 + 3) + c s (4 * a1)) (a1 := a1) hI_7 hs (show 0 ≤ a1 ∧ a1 ≤ 5 from ha1) ((hid kn_13)) ((hid kn_14)) ((hid kn_15)) ((hid kn_16)) (by omega) (bk_inl (v_bip rfl (by decide) (v_idiv (v := ((c s (4 * a1 + 1) + c s (4 * a1 + 2) + c s (4 * a1 + 3) + c s (4 * a1)) / 10)) rfl (by omega) rfl (v_iadd (v := ((c s (4 * a1 + 1) + c s (4 * a1 + 2) + c s (4 * a1 + 3) + c s (4 * a1)) / 10) + c s 33) rfl (by first | (clear ha1 h_2 h_3 h_4 h_5 h_11 h_10; omega) | omega) (v_nrm (fun y_17 hy_17 => (v_is rfl (ck_s hs) (by omega) (by decide) (by decide) (q_iconst rfl ?_)))))))))
    refine q_istore_n rfl (Nat.le_of_ble_eq_true rfl) (q_iload_n rfl rfl (q_iconst rfl (v_ic_ge_f (t := 52) rfl rfl (by decide) (q_aload_n rfl rfl (v_gr (t := s) rfl rfl (ck_sh hs) (by omega) rfl (q_iload_n rfl rfl (q_iconst rfl ?_)))))))
    refine v_imul (v := 4 * a1) rfl (by first | (clear ha1 h_2 h_3 h_4 h_5 h_11 h_10; omega) | omega) (q_iload_n rfl rfl (v_iadd (v := 4 * a1) rfl (by first | (clear ha1 h_2 h_3 h_4 h_5 h_11 h_10; omega) | omega) (q_iconst rfl (v_is rfl (ck_s hs) (by omega) (by decide) ⟨by first | exact q_c065257af ha1 | (clear h_2 h_3 h_4 h_5 h_11 h_10; omega) | omega, by first | exact q_b7e642788 ha1 | (clear h_2 h_3 h_4 h_5 h_11 h_10; omega) | omega⟩ (v_iinc (v := 1) rfl rfl (Nat.le_of_ble_eq_true rfl) (by decide) (q_goto (t := 30) rfl rfl (q_iload_n rfl rfl ?_)))))))
    refine q_iconst rfl (v_ic_ge_f (t := 52) rfl rfl (by decide) (q_aload_n rfl rfl (v_gr (t := s) rfl rfl (ck_sh hs) (by omega) rfl (q_iload_n rfl rfl (q_iconst rfl (v_imul (v := 4 * a1) rfl (by first | (clear ha1 h_2 h_3 h_4 h_5 h_11 h_10; omega) | omega) (q_iload_n rfl rfl ?_)))))))
    refine v_iadd (v := 4 * a1 + 1) rfl rfl (q_iconst rfl (v_is rfl (ck_s hs) (by omega) (by decide) ⟨by first | exact q_83fdbd35d ha1 | (clear h_2 h_3 h_4 h_5 h_11 h_10; omega) | omega, by first | exact q_ee7209ea0 ha1 | (clear h_2 h_3 h_4 h_5 h_11 h_10; omega) | omega⟩ (v_iinc (v := 2) rfl rfl (Nat.le_of_ble_eq_true rfl) (by decide) (q_goto (t := 30) rfl rfl (q_iload_n rfl rfl (q_iconst rfl (v_ic_ge_f (t := 52) rfl rfl (by decide) ?_)))))))
    refine q_aload_n rfl rfl (v_gr (t := s) rfl rfl (ck_sh hs) (by omega) rfl (q_iload_n rfl rfl (q_iconst rfl (v_imul (v := 4 * a1) rfl (by first | (clear ha1 h_2 h_3 h_4 h_5 h_11 h_10; omega) | omega) (q_iload_n rfl rfl (v_iadd (v := 4 * a1 + 2) rfl rfl (q_iconst rfl ?_)))))))
    refine v_is rfl (ck_s hs) (by omega) (by decide) ⟨by first | exact q_0f37a0c6e ha1 | (clear h_2 h_3 h_4 h_5 h_11 h_10; omega) | omega, by first | exact q_d136047ff ha1 | (clear h_2 h_3 h_4 h_5 h_11 h_10; omega) | omega⟩ (v_iinc (v := 3) rfl rfl (Nat.le_of_ble_eq_true rfl) (by decide) (q_goto (t := 30) rfl rfl (q_iload_n rfl rfl (q_iconst rfl (v_ic_ge_f (t := 52) rfl rfl (by decide) (q_aload_n rfl rfl (v_gr (t := s) rfl rfl (ck_sh hs) (by omega) rfl ?_)))))))
    refine q_iload_n rfl rfl (q_iconst rfl (v_imul (v := 4 * a1) rfl (by first | (clear ha1 h_2 h_3 h_4 h_5 h_11 h_10; omega) | omega) (q_iload_n rfl rfl (v_iadd (v := 4 * a1 + 3) rfl rfl (q_iconst rfl (v_is rfl (ck_s hs) (by omega) (by decide) ⟨by first | exact q_f6be69137 ha1 | (clear h_2 h_3 h_4 h_5 h_11 h_10; omega) | omega, by first | exact q_c79de31f2 ha1 | (clear h_2 h_3 h_4 h_5 h_11 h_10; omega) | omega⟩ (v_iinc (v := 4) rfl rfl (Nat.le_of_ble_eq_true rfl) (by decide) ?_)))))))
    refine Wp_ls [(2, vi 4), (0, .ref sh), (1, vi a1)] (lsub_cons rfl (lsub_cons rfl (lsub_cons rfl lsub_nil))) (q_goto (t := 30) rfl rfl (q_iload_n rfl rfl (q_iconst rfl (v_ic_ge_t (t := 52) rfl rfl (by decide) (q_aload_n rfl rfl (v_gr (t := s) rfl rfl (ck_sh hs) (by omega) rfl (v_bip rfl (by decide) ?_)))))))
    refine q_iload_n rfl rfl (v_iadd (v := a1 + 24) rfl (by first | (clear ha1 h_2 h_3 h_4 h_5 h_11 h_10; omega) | omega) (q_iconst rfl (v_is rfl (ck_s hs) (by omega) (by decide) ⟨by first | exact rgp_l ha1.1 (by decide) | omega, by first | exact q_99d6360e7 ha1 | (clear h_2 h_3 h_4 h_5 h_11 h_10; omega) | omega⟩ (q_iconst rfl (v_zret rfl rfl (by decide) ?_)))))
    have hI_18 := iw_row (a := s) (j := 33) (v := y_17) hI_7 (by omega) (Or.inr (by omega)) ⟨by omega, by omega, by omega⟩
    have hI_19 := iw_row (a := s) (j := 4 * a1) (v := 0) hI_18 (by omega) (Or.inl rfl) ⟨by omega, by omega, by omega⟩
    have hI_20 := iw_row (a := s) (j := 4 * a1 + 1) (v := 0) hI_19 (by omega) (Or.inl rfl) ⟨by omega, by omega, by omega⟩
    have hI_21 := iw_row (a := s) (j := 4 * a1 + 2) (v := 0) hI_20 (by omega) (Or.inl rfl) ⟨by omega, by omega, by omega⟩
    have hI_22 := iw_row (a := s) (j := 4 * a1 + 3) (v := 0) hI_21 (by omega) (Or.inl rfl) ⟨by omega, by omega, by omega⟩
    have hI_23 := iw_row (a := s) (j := a1 + 24) (v := 0) hI_22 (by omega) (Or.inl rfl) ⟨by omega, by omega, by omega⟩
    have hr_24 : ∀ j : Int, rs s j → (up (up (up (up (up (up c_6 s 33 y_17) s (4 * a1) 0) s (4 * a1 + 1) 0) s (4 * a1 + 2) 0) s (4 * a1 + 3) 0) s (a1 + 24) 0) s j + (up (up (up (up (up (up c_6 s 33 y_17) s (4 * a1) 0) s (4 * a1 + 1) 0) s (4 * a1 + 2) 0) s (4 * a1 + 3) 0) s (a1 + 24) 0) s (j + 1) + (up (up (up (up (up (up c_6 s 33 y_17) s (4 * a1) 0) s (4 * a1 + 1) 0) s (4 * a1 + 2) 0) s (4 * a1 + 3) 0) s (a1 + 24) 0) s (j + 2) + (up (up (up (up (up (up c_6 s 33 y_17) s (4 * a1) 0) s (4 * a1 + 1) 0) s (4 * a1 + 2) 0) s (4 * a1 + 3) 0) s (a1 + 24) 0) s (j + 3) ≤ 9999 := by
      intro j9 hj9
      obtain ⟨k9, rfl, hk9⟩ := rs_s hs hj9
      by_cases e_25 : k9 = a1
      · skip
        have h_26 : (up (up (up (up (up (up c_6 s 33 y_17) s (4 * a1) 0) s (4 * a1 + 1) 0) s (4 * a1 + 2) 0) s (4 * a1 + 3) 0) s (a1 + 24) 0) s (4 * k9) = 0 := (congrArg ((up (up (up (up (up (up c_6 s 33 y_17) s (4 * a1) 0) s (4 * a1 + 1) 0) s (4 * a1 + 2) 0) s (4 * a1 + 3) 0) s (a1 + 24) 0) s) (show 4 * k9 = 4 * a1 from by first | assumption | exact Int.le_antisymm (by omega) (by omega))).trans ((up_n (by omega)).trans ((up_n (by first | exact ne_0a (by decide) | omega)).trans ((up_n (by first | exact ne_0a (by decide) | omega)).trans ((up_n (by first | exact ne_0a (by decide) | omega)).trans (up_e rfl)))))
        have h_27 : (up (up (up (up (up (up c_6 s 33 y_17) s (4 * a1) 0) s (4 * a1 + 1) 0) s (4 * a1 + 2) 0) s (4 * a1 + 3) 0) s (a1 + 24) 0) s (4 * k9 + 1) = 0 := (congrArg ((up (up (up (up (up (up c_6 s 33 y_17) s (4 * a1) 0) s (4 * a1 + 1) 0) s (4 * a1 + 2) 0) s (4 * a1 + 3) 0) s (a1 + 24) 0) s) (show 4 * k9 + 1 = 4 * a1 + 1 from by first | assumption | exact Int.le_antisymm (by omega) (by omega))).trans ((up_n (by omega)).trans ((up_n (by first | exact ne_aa (by decide) | omega)).trans ((up_n (by first | exact ne_aa (by decide) | omega)).trans (up_e rfl))))
        have h_28 : (up (up (up (up (up (up c_6 s 33 y_17) s (4 * a1) 0) s (4 * a1 + 1) 0) s (4 * a1 + 2) 0) s (4 * a1 + 3) 0) s (a1 + 24) 0) s (4 * k9 + 2) = 0 := (congrArg ((up (up (up (up (up (up c_6 s 33 y_17) s (4 * a1) 0) s (4 * a1 + 1) 0) s (4 * a1 + 2) 0) s (4 * a1 + 3) 0) s (a1 + 24) 0) s) (show 4 * k9 + 2 = 4 * a1 + 2 from by first | assumption | exact Int.le_antisymm (by omega) (by omega))).trans ((up_n (by omega)).trans ((up_n (by first | exact ne_aa (by decide) | omega)).trans (up_e rfl)))
        have h_29 : (up (up (up (up (up (up c_6 s 33 y_17) s (4 * a1) 0) s (4 * a1 + 1) 0) s (4 * a1 + 2) 0) s (4 * a1 + 3) 0) s (a1 + 24) 0) s (4 * k9 + 3) = 0 := (congrArg ((up (up (up (up (up (up c_6 s 33 y_17) s (4 * a1) 0) s (4 * a1 + 1) 0) s (4 * a1 + 2) 0) s (4 * a1 + 3) 0) s (a1 + 24) 0) s) (show 4 * k9 + 3 = 4 * a1 + 3 from by first | assumption | exact Int.le_antisymm (by omega) (by omega))).trans ((up_n (by omega)).trans (up_e rfl))
        omega
      have h_30 := iv_r hI s (4 * k9) hj9 (by omega)
      have h_31 := ir_s_g hI hs (j := 4 * k9) (by first | (clear ha1 h_2 h_3 h_4 h_5 h_11 h_10; omega) | omega)
      have kn_32 : Hid (c_6 s (4 * k9) = c s (4 * k9)) := hF_8 s (4 * k9) (by omega)
      have h_33 : (up (up (up (up (up (up c_6 s 33 y_17) s (4 * a1) 0) s (4 * a1 + 1) 0) s (4 * a1 + 2) 0) s (4 * a1 + 3) 0) s (a1 + 24) 0) s (4 * k9) = c s (4 * k9) := ((up_n (by omega)).trans ((up_n (by omega)).trans ((up_n (by omega)).trans ((up_n (by omega)).trans ((up_n (by omega)).trans ((up_n (by omega)).trans (hid kn_32)))))))
      have h_34 := ir_s_g hI hs (j := 4 * k9 + 1) (by first | (clear ha1 h_2 h_3 h_4 h_5 h_11 h_31 h_10; omega) | omega)
      have kn_35 : Hid (c_6 s (4 * k9 + 1) = c s (4 * k9 + 1)) := hF_8 s (4 * k9 + 1) (by omega)
      have h_36 : (up (up (up (up (up (up c_6 s 33 y_17) s (4 * a1) 0) s (4 * a1 + 1) 0) s (4 * a1 + 2) 0) s (4 * a1 + 3) 0) s (a1 + 24) 0) s (4 * k9 + 1) = c s (4 * k9 + 1) := ((up_n (by omega)).trans ((up_n (by omega)).trans ((up_n (by omega)).trans ((up_n (by omega)).trans ((up_n (by omega)).trans ((up_n (by omega)).trans (hid kn_35)))))))
      have h_37 := ir_s_g hI hs (j := 4 * k9 + 2) (by first | (clear ha1 h_2 h_3 h_4 h_5 h_11 h_31 h_34 h_10; omega) | omega)
      have kn_38 : Hid (c_6 s (4 * k9 + 2) = c s (4 * k9 + 2)) := hF_8 s (4 * k9 + 2) (by omega)
      have h_39 : (up (up (up (up (up (up c_6 s 33 y_17) s (4 * a1) 0) s (4 * a1 + 1) 0) s (4 * a1 + 2) 0) s (4 * a1 + 3) 0) s (a1 + 24) 0) s (4 * k9 + 2) = c s (4 * k9 + 2) := ((up_n (by omega)).trans ((up_n (by omega)).trans ((up_n (by omega)).trans ((up_n (by omega)).trans ((up_n (by omega)).trans ((up_n (by omega)).trans (hid kn_38)))))))
      have h_40 := ir_s_g hI hs (j := 4 * k9 + 3) (by first | (clear ha1 h_2 h_3 h_4 h_5 h_11 h_31 h_34 h_37 h_10; omega) | omega)
      have kn_41 : Hid (c_6 s (4 * k9 + 3) = c s (4 * k9 + 3)) := hF_8 s (4 * k9 + 3) (by omega)
      have h_42 : (up (up (up (up (up (up c_6 s 33 y_17) s (4 * a1) 0) s (4 * a1 + 1) 0) s (4 * a1 + 2) 0) s (4 * a1 + 3) 0) s (a1 + 24) 0) s (4 * k9 + 3) = c s (4 * k9 + 3) := ((up_n (by omega)).trans ((up_n (by omega)).trans ((up_n (by omega)).trans ((up_n (by omega)).trans ((up_n (by omega)).trans ((up_n (by omega)).trans (hid kn_41)))))))
      omega
    have hI_43 := iv_close hI_23 hr_24
    exact K (up (up (up (up (up (up c_6 s 33 y_17) s (4 * a1) 0) s (4 * a1 + 1) 0) s (4 * a1 + 2) 0) s (4 * a1 + 3) 0) s (a1 + 24) 0) 1 hI_43 (fun a j hm => (up_b (Decidable.or_iff_not_imp_left.mpr (fun h1 h2 => hm (Or.inl (Decidable.not_not.mp h1))))).trans ((up_b (Decidable.or_iff_not_imp_left.mpr (fun h1 h2 => hm (Or.inl (Decidable.not_not.mp h1))))).trans ((up_b (Decidable.or_iff_not_imp_left.mpr (fun h1 h2 => hm (Or.inl (Decidable.not_not.mp h1))))).trans ((up_b (Decidable.or_iff_not_imp_left.mpr (fun h1 h2 => hm (Or.inl (Decidable.not_not.mp h1))))).trans ((up_b (Decidable.or_iff_not_imp_left.mpr (fun h1 h2 => hm (Or.inl (Decidable.not_not.mp h1))))).trans ((up_b (Decidable.or_iff_not_imp_left.mpr (fun h1 h2 => hm (Or.inl (Decidable.not_not.mp h1))))).trans (hF_8 a j (fun q => q.elim (fun h => hm (Or.inr (Or.inl h))) (fun h => hm (Or.inr (Or.inr h))))))))))) ⟨by decide, by decide⟩
  · refine v_if_ne_f (t := 10) rfl rfl (Decidable.not_not.mp h_10) (q_iconst rfl (v_zret rfl rfl (by decide) ?_))
    have hr_44 : ∀ j : Int, rs s j → c_6 s j + c_6 s (j + 1) + c_6 s (j + 2) + c_6 s (j + 3) ≤ 9999 := by
      intro j9 hj9
      obtain ⟨k9, rfl, hk9⟩ := rs_s hs hj9
      by_cases e_45 : k9 = a1
      · skip
        have kn_46 : Hid (c_6 s (4 * a1) = c s (4 * a1)) := hF_8 s (4 * a1) (by omega)
        have h_47 : c_6 s (4 * k9) = c s (4 * a1) := (congrArg (c_6 s) (show 4 * k9 = 4 * a1 from by omega)).trans (hid kn_46)
        have kn_48 : Hid (c_6 s (4 * a1 + 1) = c s (4 * a1 + 1)) := hF_8 s (4 * a1 + 1) (by omega)
        have h_49 : c_6 s (4 * k9 + 1) = c s (4 * a1 + 1) := (congrArg (c_6 s) (show 4 * k9 + 1 = 4 * a1 + 1 from by omega)).trans (hid kn_48)
        have kn_50 : Hid (c_6 s (4 * a1 + 2) = c s (4 * a1 + 2)) := hF_8 s (4 * a1 + 2) (by omega)
        have h_51 : c_6 s (4 * k9 + 2) = c s (4 * a1 + 2) := (congrArg (c_6 s) (show 4 * k9 + 2 = 4 * a1 + 2 from by omega)).trans (hid kn_50)
        have kn_52 : Hid (c_6 s (4 * a1 + 3) = c s (4 * a1 + 3)) := hF_8 s (4 * a1 + 3) (by omega)
        have h_53 : c_6 s (4 * k9 + 3) = c s (4 * a1 + 3) := (congrArg (c_6 s) (show 4 * k9 + 3 = 4 * a1 + 3 from by omega)).trans (hid kn_52)
        omega
      have h_54 := iv_r hI s (4 * k9) hj9 (by omega)
      have h_55 := ir_s_g hI hs (j := 4 * k9) (by omega)
      have kn_56 : Hid (c_6 s (4 * k9) = c s (4 * k9)) := hF_8 s (4 * k9) (by omega)
      have h_57 : c_6 s (4 * k9) = c s (4 * k9) := (hid kn_56)
      have h_58 := ir_s_g hI hs (j := 4 * k9 + 1) (by omega)
      have kn_59 : Hid (c_6 s (4 * k9 + 1) = c s (4 * k9 + 1)) := hF_8 s (4 * k9 + 1) (by omega)
      have h_60 : c_6 s (4 * k9 + 1) = c s (4 * k9 + 1) := (hid kn_59)
      have h_61 := ir_s_g hI hs (j := 4 * k9 + 2) (by omega)
      have kn_62 : Hid (c_6 s (4 * k9 + 2) = c s (4 * k9 + 2)) := hF_8 s (4 * k9 + 2) (by omega)
      have h_63 : c_6 s (4 * k9 + 2) = c s (4 * k9 + 2) := (hid kn_62)
      have h_64 := ir_s_g hI hs (j := 4 * k9 + 3) (by omega)
      have kn_65 : Hid (c_6 s (4 * k9 + 3) = c s (4 * k9 + 3)) := hF_8 s (4 * k9 + 3) (by omega)
      have h_66 : c_6 s (4 * k9 + 3) = c s (4 * k9 + 3) := (hid kn_65)
      omega
    have hI_67 := iv_close hI_7 hr_44
    exact K c_6 0 hI_67 (fun a j hm => hF_8 a j (fun q => q.elim (fun h => hm (Or.inr (Or.inl h))) (fun h => hm (Or.inr (Or.inr h))))) ⟨by decide, by decide⟩

set_option maxRecDepth 100000 in
set_option maxHeartbeats 4000000 in
theorem s_59_l {sc : List Int32} {e : Int} {d u P Q sh s : Nat} {c : ME} {Z : AR → Prop} (hI : Iv u e P Q c) (hs : (sh = 37 ∧ s = 38) ∨ (sh = 39 ∧ s = 40)) (K : ∀ (c2 : ME), Iv u e P Q c2 → (∀ (a : Nat) (j : Int), ¬ (a = s) → c2 a j = c a j) → Z (.inl (none), Wd P Q P P c2, 0, 0)) : ∀ n : Nat, (∀ (c2 : ME) (v1 : Int), Iv u e P Q c2 → (∀ (a : Nat) (j : Int), ¬ (a = s) → c2 a j = c a j) → 0 ≤ v1 ∧ v1 ≤ 6 → 13 - 2 * v1 < (n : Int) → Wp sc (d + 8) 59 2 [(0, .ref sh), (1, vi v1)] [] (Wd P Q P P c2) 0 0 Z)
  | 0 => by intro c2 v1 hI2 hF hv1 hm9; have hP := iv_P hI; have hQ := iv_Q hI; exfalso; omega
  | n + 1 => by
    have hP := iv_P hI
    have hQ := iv_Q hI
    have ih := s_59_l (sc := sc) (d := d) hI hs K n
    intro c2 v1 hI2 hF hv1 hm9
    refine q_iload_n rfl rfl (q_aload_n rfl rfl (v_gr (t := P) rfl rfl (ck_sh hs) (by omega) rfl ?_))
    have h_1 := ir_p0_0 hI hP
    have kn_2 : Hid (c2 P 0 = c P 0) := hF P 0 (by omega)
    refine v_gi (z := 0) (v := c P 0) rfl rfl (ck_p0 hP) (a68z hP) rfl rfl (hid kn_2) ?_
    by_cases h_3 : v1 ≥ c P 0
    · refine v_ic_ge_t (t := 40) rfl rfl ⟨by first | exact q_730ab5169 h_1 | omega, h_3, (Int.le_trans hv1.2 (by decide))⟩ (q_aload_n rfl rfl (v_gr (t := s) rfl rfl (ck_sh hs) (by omega) rfl (v_bip rfl (by decide) (q_dup2 rfl ⟨rfl, rfl⟩ ?_))))
      have h_4 := ir_s hI2 hs 31
      refine v_ia (v := c2 s 31) rfl (ck_s hs) (by omega) (by decide) (by decide) rfl (q_iconst rfl (v_iadd (v := c2 s 31 + 1) rfl rfl (v_nrm (fun y_5 hy_5 => (v_is rfl (ck_s hs) (by omega) (by decide) (by decide) (q_vret rfl rfl ?_))))))
      have hI_6 := iw_row (a := s) (j := 31) (v := y_5) hI2 (by omega) (Or.inr (by omega)) ⟨by omega, by omega, by omega⟩
      exact K (up c2 s 31 y_5) hI_6 (fun a j hm => (up_b (Decidable.or_iff_not_imp_left.mpr (fun h1 h2 => hm (Decidable.not_not.mp h1)))).trans (hF a j (fun h => hm h)))
    · refine v_ic_ge_f (t := 40) rfl rfl ⟨(Int.le_trans (by decide) hv1.1), (Int.not_le.mp h_3), by first | exact q_b289b7db2 h_1 | omega⟩ (q_aload_n rfl rfl (q_iload_n rfl rfl ?_))
      have h_7 := ir_s_g hI2 hs (j := 4 * v1) (by first | exact q_aa51b186e h_1 h_3 | omega)
      have h_8 := ir_s_g hI2 hs (j := 4 * v1 + 1) (by first | exact q_57851f9de h_1 h_3 | omega)
      have h_9 := ir_s_g hI2 hs (j := 4 * v1 + 2) (by first | exact q_7296e74e6 h_1 h_3 | omega)
      have h_10 := ir_s_g hI2 hs (j := 4 * v1 + 3) (by first | exact q_b15525c4c h_1 h_3 | omega)
      refine v_cv rfl rfl rfl (ck_sh hs) (by omega) ⟨⟨rfl, rfl⟩, by decide, rfl⟩ (Nat.le_of_ble_eq_true rfl) (Nat.le_of_ble_eq_true rfl) (s_43 (v1 := c2 s (4 * v1)) (v2 := c2 s (4 * v1 + 1)) (v3 := c2 s (4 * v1 + 2)) (v4 := c2 s (4 * v1 + 3)) (r := c2 s (4 * v1 + 1) + c2 s (4 * v1 + 2) + c2 s (4 * v1 + 3) + c2 s (4 * v1)) (a1 := v1) hI2 hs (show 0 ≤ v1 ∧ v1 ≤ 5 from ⟨hv1.1, by first | exact q_d63a8538e h_1 h_3 | omega⟩) (rfl) (rfl) (rfl) (rfl) (by omega) (bk_inl ?_))
      by_cases h_11 : c2 s (4 * v1 + 1) + c2 s (4 * v1 + 2) + c2 s (4 * v1 + 3) + c2 s (4 * v1) ≤ 0
      · refine v_if_le_t (t := 34) rfl rfl ⟨by first | exact q_94559468f h_10 h_7 h_8 h_9 | omega, h_11, by decide⟩ (v_iinc (v := v1 + 1) rfl rfl (Nat.le_of_ble_eq_true rfl) rfl (q_goto (t := 2) rfl rfl (Wp_ls [(0, .ref sh), (1, vi (v1 + 1))] (lsub_cons rfl (lsub_cons rfl lsub_nil)) ?_)))
        exact ih c2 (v1 + 1) hI2 (fun a j hm => hF a j (fun h => hm h)) ⟨by first | exact rgp_l hv1.1 (by decide) | omega, by first | exact q_4a76cd9c7 h_1 h_3 | omega⟩ (by omega)
      · refine v_if_le_f (t := 34) rfl rfl ⟨by decide, (Int.not_le.mp h_11), by first | exact q_f81653045 h_10 h_7 h_8 h_9 | omega⟩ (q_aload_n rfl rfl (v_gr (t := s) rfl rfl (ck_sh hs) (by omega) rfl (v_bip rfl (by decide) (q_iload_n rfl rfl (v_iadd (v := v1 + 24) rfl (by omega) (q_dup2 rfl ⟨rfl, rfl⟩ ?_))))))
        have h_12 := ir_s hI2 hs (v1 + 24)
        refine v_ia (v := c2 s (v1 + 24)) rfl (ck_s hs) (by omega) (by decide) ⟨by first | exact rgp_l hv1.1 (by decide) | omega, by first | exact q_fbbb1c60d hv1 | omega⟩ rfl (q_iconst rfl (v_iadd (v := c2 s (v1 + 24) + 1) rfl rfl (v_nrm (fun y_13 hy_13 => (v_is rfl (ck_s hs) (by omega) (by decide) ⟨by first | exact rgp_l hv1.1 (by decide) | omega, by first | exact q_fbbb1c60d hv1 | omega⟩ (v_iinc (v := v1 + 1) rfl rfl (Nat.le_of_ble_eq_true rfl) rfl (q_goto (t := 2) rfl rfl ?_)))))))
        have hI_14 := iw_row (a := s) (j := v1 + 24) (v := y_13) hI2 (by omega) (Or.inr (by omega)) ⟨by omega, by omega, by omega⟩
        refine Wp_ls [(0, .ref sh), (1, vi (v1 + 1))] (lsub_cons rfl (lsub_cons rfl lsub_nil)) ?_
        exact ih (up c2 s (v1 + 24) y_13) (v1 + 1) hI_14 (fun a j hm => (up_b (Decidable.or_iff_not_imp_left.mpr (fun h1 h2 => hm (Decidable.not_not.mp h1)))).trans (hF a j (fun h => hm h))) ⟨by first | exact rgp_l hv1.1 (by decide) | omega, by first | exact q_4a76cd9c7 h_1 h_3 | omega⟩ (by omega)
set_option maxRecDepth 100000 in
set_option maxHeartbeats 4000000 in
theorem s_59 {sc : List Int32} {e : Int} {d u P Q sh s : Nat} {c : ME} {Z : AR → Prop} (hI : Iv u e P Q c) (hs : (sh = 37 ∧ s = 38) ∨ (sh = 39 ∧ s = 40)) (K : ∀ (c2 : ME), Iv u e P Q c2 → (∀ (a : Nat) (j : Int), ¬ (a = s) → c2 a j = c a j) → Z (.inl (none), Wd P Q P P c2, 0, 0)) : Wp sc (d + 8) 59 0 [(0, .ref sh)] [] (Wd P Q P P c) 0 0 Z := by
  have hP := iv_P hI
  have hQ := iv_Q hI
  refine q_iconst rfl (q_istore_n rfl (Nat.le_of_ble_eq_true rfl) (Wp_ls [(0, .ref sh), (1, vi 0)] (lsub_cons rfl (lsub_cons rfl lsub_nil)) ?_))
  exact (s_59_l (sc := sc) (d := d) hI hs K 16) c 0 hI (fun a j hm => rfl) ⟨by decide, by decide⟩ (by omega)

set_option maxRecDepth 100000 in
set_option maxHeartbeats 4000000 in
theorem s_60 {sc : List Int32} {e : Int} {d u P Q sh s : Nat} {c : ME} {Z : AR → Prop} (hI : Iv u e P Q c) (hs : (sh = 37 ∧ s = 38) ∨ (sh = 39 ∧ s = 40)) (K : ∀ (c2 : ME) (y : Int), Iv u e P Q c2 → (∀ (a : Nat) (j : Int), ¬ (a = s) → c2 a j = c a j) → 0 ≤ y ∧ y ≤ 1 → Z (.inl (some (vi y)), Wd P Q P P c2, 0, 0)) : Wp sc (d + 9) 60 0 [(0, .ref sh)] [] (Wd P Q P P c) 0 0 Z := by
  have hP := iv_P hI
  have hQ := iv_Q hI
  refine q_aload_n rfl rfl (v_gr (t := s) rfl rfl (ck_sh hs) (by omega) rfl (v_bip rfl (by decide) ?_))
  have h_1 := ir_s hI hs 31
  refine v_ia (v := c s 31) rfl (ck_s hs) (by omega) (by decide) (by decide) rfl (v_sip rfl (by decide) ?_)
  by_cases h_2 : c s 31 < 400
  · refine v_ic_lt_t (t := 15) rfl rfl ⟨h_1.1, h_2, by decide⟩ (q_aload_n rfl rfl (v_cv rfl rfl rfl (ck_sh hs) (by omega) ⟨⟨rfl, rfl⟩, by decide, rfl⟩ (Nat.le_of_ble_eq_true rfl) (Nat.le_of_ble_eq_true rfl) (s_59 hI hs (fun c_3 hI_4 hF_5 => (bk_inl (q_iconst rfl (v_zret rfl rfl (by decide) ?_)))))))
    exact K c_3 1 hI_4 (fun a j hm => hF_5 a j (fun h => hm h)) ⟨by decide, by decide⟩
  · refine v_ic_lt_f (t := 15) rfl rfl ⟨by decide, (Int.not_lt.mp h_2), h_1.2⟩ (q_iconst rfl (v_zret rfl rfl (by decide) ?_))
    exact K c 0 hI (fun a j hm => rfl) ⟨by decide, by decide⟩

set_option maxRecDepth 100000 in
set_option maxHeartbeats 4000000 in
theorem s_61 {sc : List Int32} {e : Int} {d u P Q sh s : Nat} {c : ME} {a1 : Int} {Z : AR → Prop} (hI : Iv u e P Q c) (hs : (sh = 37 ∧ s = 38) ∨ (sh = 39 ∧ s = 40)) (ha1 : (-2147483648) ≤ a1 ∧ a1 ≤ 2147483647) (K : ∀ (c2 : ME), Iv u e P Q c2 → (∀ (a : Nat) (j : Int), ¬ (a = s) → c2 a j = c a j) → Z (.inl (none), Wd P Q P P c2, 0, 0)) : Wp sc (d + 7) 61 0 [(0, .ref sh), (1, vi a1)] [] (Wd P Q P P c) 0 0 Z := by
  have hP := iv_P hI
  have hQ := iv_Q hI
  refine q_aload_n rfl rfl (v_gr (t := s) rfl rfl (ck_sh hs) (by omega) rfl (v_bip rfl (by decide) (q_dup2 rfl ⟨rfl, rfl⟩ ?_)))
  have h_1 := ir_s hI hs 30
  refine v_ia (v := c s 30) rfl (ck_s hs) (by omega) (by decide) (by decide) rfl (q_iconst rfl (q_iload_n rfl rfl (v_ishlx rfl (fun y_2 hy_2 => (v_ixorx rfl (fun y_3 hy_3 => (v_is rfl (ck_s hs) (by omega) (by decide) (by decide) (q_vret rfl rfl ?_))))))))
  have hI_4 := iw_row (a := s) (j := 30) (v := y_3) hI (by omega) (Or.inr (by omega)) ⟨by omega, by omega, by omega⟩
  exact K (up c s 30 y_3) hI_4 (fun a j hm => up_b (Decidable.or_iff_not_imp_left.mpr (fun h1 h2 => hm (Decidable.not_not.mp h1))))

set_option maxRecDepth 100000 in
set_option maxHeartbeats 4000000 in
theorem s_62 {sc : List Int32} {d P Q : Nat} {c : ME} {t : Int} {Z : AR → Prop} (hI : Iv 0 (-1) P Q c) (ht : 0 ≤ t ∧ t ≤ 37) (K : ∀ (c2 : ME) (y : Int), Iv 0 (-1) P Q c2 → (∀ (a : Nat) (j : Int), ¬ (a = 38 ∨ a = (P + 10) ∨ a = (P + 11)) → c2 a j = c a j) → 0 ≤ y ∧ y ≤ 1 → Z (.inl (some (vi y)), Wd P Q P P c2, 0, 0)) : Wp sc (d + 12) 62 0 [(0, .ref 7), (1, .ref 37), (2, vi (5 * t))] [] (Wd P Q P P c) 0 0 Z := by
  have hP := iv_P hI
  have hQ := iv_Q hI
  have h_1 := ir_8 hI (5 * t)
  have h_2 := ir_8 hI (5 * t + 1)
  have h_3 := ir_8 hI (5 * t + 2)
  have h_4 := ir_8_2 hI (j := 5 * t + 2) (by omega)
  have h_5 := ir_8 hI (5 * t + 3)
  have h_6 := ir_8 hI (5 * t + 4)
  have hso := ir_so (a := 8) hI (by unfold Sg; omega) (t := t) (by omega) (by omega)
  refine q_aload_n rfl rfl (v_gr (t := 8) rfl rfl rfl (Nat.le_of_ble_eq_true rfl) rfl (q_iload_n rfl rfl (q_iconst rfl (v_iadd (v := 5 * t + 1) rfl rfl (v_ia (v := c 8 (5 * t + 1)) rfl rfl (by decide) (by decide) ⟨by first | exact q_1416f500c ht | omega, by first | exact q_6719517c6 ht | omega⟩ rfl (q_istore_n rfl (Nat.le_of_ble_eq_true rfl) (q_aload_n rfl rfl ?_)))))))
  refine v_gr (t := 8) rfl rfl rfl (Nat.le_of_ble_eq_true rfl) rfl (q_iload_n rfl rfl (q_iconst rfl (v_iadd (v := 5 * t + 2) rfl rfl (v_ia (v := c 8 (5 * t + 2)) rfl rfl (by decide) (by decide) ⟨by first | exact q_ffaf02070 ht | omega, by first | exact q_311969902 ht | omega⟩ rfl (q_istore rfl (Nat.le_of_ble_eq_true rfl) (q_aload_n rfl rfl (v_gr (t := 8) rfl rfl rfl (Nat.le_of_ble_eq_true rfl) rfl ?_)))))))
  refine q_iload_n rfl rfl (q_iconst rfl (v_iadd (v := 5 * t + 3) rfl rfl (v_ia (v := c 8 (5 * t + 3)) rfl rfl (by decide) (by decide) ⟨by first | exact q_a57922852 ht | omega, by first | exact q_be1adda5a ht | omega⟩ rfl (q_istore rfl (Nat.le_of_ble_eq_true rfl) (q_aload_n rfl rfl (v_gr (t := 8) rfl rfl rfl (Nat.le_of_ble_eq_true rfl) rfl (q_iload_n rfl rfl ?_)))))))
  refine v_ia (v := c 8 (5 * t)) rfl rfl (by decide) (by decide) ⟨by first | exact q_455052922 ht | omega, by first | exact q_7c821fbfb ht | omega⟩ rfl ?_
  by_cases h_7 : c 8 (5 * t) = 0
  · skip
    refine v_tsw_i (t := 76) 0 rfl (by omega) (by decide) rfl (by decide) (q_aload_n rfl rfl (q_iload_n rfl rfl (q_iload rfl rfl (v_cv rfl rfl rfl rfl (Nat.le_of_ble_eq_true rfl) ⟨⟨rfl, rfl⟩, Nat.le_of_ble_eq_true rfl, rfl⟩ (Nat.le_of_ble_eq_true rfl) (Nat.le_of_ble_eq_true rfl) (s_44 (a1 := c 8 (5 * t + 1)) (a2 := c 8 (5 * t + 2)) hI (.inl ⟨rfl, rfl⟩) (show 0 ≤ c 8 (5 * t + 1) ∧ c 8 (5 * t + 1) ≤ 3 from ⟨h_2.1, by omega⟩) (show 0 ≤ c 8 (5 * t + 2) ∧ c 8 (5 * t + 2) ≤ 5 from ⟨h_3.1, by omega⟩) (fun c_8 y_11 hI_9 hF_10 hy_11 => (bk_inl (v_zret rfl rfl (by omega) ?_))))))))
    exact K c_8 y_11 hI_9 (fun a j hm => hF_10 a j (fun h => hm (Or.inl h))) hy_11
  by_cases h_12 : c 8 (5 * t) = 1
  · skip
    refine v_tsw_i (t := 84) 1 rfl (by omega) (by decide) rfl (by decide) (q_aload_n rfl rfl (q_iload_n rfl rfl (q_iload rfl rfl (q_iload rfl rfl (q_aload_n rfl rfl (v_gr (t := 8) rfl rfl rfl (Nat.le_of_ble_eq_true rfl) rfl (q_iload_n rfl rfl ?_)))))))
    refine q_iconst rfl (v_iadd (v := 5 * t + 4) rfl rfl (v_ia (v := c 8 (5 * t + 4)) rfl rfl (by decide) (by decide) ⟨by first | exact q_30157bdbc ht | (clear h_1 h_2 h_3 h_4 h_5 h_6 h_12 h_7; omega) | omega, by first | exact q_481aa6703 ht | (clear h_1 h_2 h_3 h_4 h_5 h_6 h_12 h_7; omega) | omega⟩ rfl (v_cv rfl rfl rfl rfl (Nat.le_of_ble_eq_true rfl) ⟨⟨rfl, rfl⟩, Nat.le_of_ble_eq_true rfl, rfl⟩ (Nat.le_of_ble_eq_true rfl) (Nat.le_of_ble_eq_true rfl) (s_53 (a1 := c 8 (5 * t + 1)) (a2 := c 8 (5 * t + 2)) (a3 := c 8 (5 * t + 3)) (a4 := c 8 (5 * t + 4)) hI (.inl ⟨rfl, rfl⟩) (show 0 ≤ c 8 (5 * t + 1) ∧ c 8 (5 * t + 1) ≤ 3 from ⟨h_2.1, by first | (clear ht h_1 h_2 h_3 h_4 h_5 h_6 h_7; omega) | omega⟩) (show 0 ≤ c 8 (5 * t + 2) ∧ c 8 (5 * t + 2) ≤ 5 from ⟨h_3.1, by first | (clear ht h_1 h_2 h_3 h_4 h_5 h_6 h_7; omega) | omega⟩) (show 0 ≤ c 8 (5 * t + 3) ∧ c 8 (5 * t + 3) ≤ 5 from ⟨h_5.1, by first | (clear ht h_1 h_2 h_3 h_4 h_5 h_6 h_7; omega) | omega⟩) (show 0 ≤ c 8 (5 * t + 4) ∧ c 8 (5 * t + 4) ≤ 5 from ⟨h_6.1, by first | (clear ht h_1 h_2 h_3 h_4 h_5 h_6 h_7; omega) | omega⟩) (fun c_13 y_16 hI_14 hF_15 hy_16 => (bk_inl (v_zret rfl rfl (by omega) ?_)))))))
    exact K c_13 y_16 hI_14 (fun a j hm => hF_15 a j (fun h => hm (Or.inl h))) hy_16
  by_cases h_17 : c 8 (5 * t) = 2
  · skip
    refine v_tsw_i (t := 102) 2 rfl (by omega) (by decide) rfl (by decide) (q_aload_n rfl rfl (q_iload_n rfl rfl (q_iload rfl rfl (v_cv rfl rfl rfl rfl (Nat.le_of_ble_eq_true rfl) ⟨⟨rfl, rfl⟩, Nat.le_of_ble_eq_true rfl, rfl⟩ (Nat.le_of_ble_eq_true rfl) (Nat.le_of_ble_eq_true rfl) (s_55 (a1 := c 8 (5 * t + 1)) (a2 := c 8 (5 * t + 2)) hI (.inl ⟨rfl, rfl⟩) (show 0 ≤ c 8 (5 * t + 1) ∧ c 8 (5 * t + 1) ≤ 5 from ⟨h_2.1, by first | (clear ht h_1 h_2 h_3 h_4 h_5 h_6 h_7 h_12; omega) | omega⟩) (show 0 ≤ c 8 (5 * t + 2) ∧ c 8 (5 * t + 2) ≤ 5 from ⟨h_3.1, by first | (clear ht h_1 h_2 h_3 h_4 h_5 h_6 h_7 h_12; omega) | omega⟩) (fun c_18 y_21 hI_19 hF_20 hy_21 => (bk_inl (v_zret rfl rfl (by omega) ?_))))))))
    exact K c_18 y_21 hI_19 (fun a j hm => hF_20 a j (fun h => hm (Or.inl h))) hy_21
  by_cases h_22 : c 8 (5 * t) = 3
  · skip
    refine v_tsw_i (t := 110) 3 rfl (by omega) (by decide) rfl (by decide) (q_aload_n rfl rfl (q_iload_n rfl rfl (q_iload rfl rfl (q_iload rfl rfl (v_cv rfl rfl rfl rfl (Nat.le_of_ble_eq_true rfl) ⟨⟨rfl, rfl⟩, Nat.le_of_ble_eq_true rfl, rfl⟩ (Nat.le_of_ble_eq_true rfl) (Nat.le_of_ble_eq_true rfl) (s_54 (a1 := c 8 (5 * t + 1)) (a2 := c 8 (5 * t + 2)) (a3 := c 8 (5 * t + 3)) hI (.inl ⟨rfl, rfl⟩) (show 0 ≤ c 8 (5 * t + 1) ∧ c 8 (5 * t + 1) ≤ 5 from ⟨h_2.1, by first | (clear ht h_1 h_2 h_3 h_4 h_5 h_6 h_7 h_12 h_17; omega) | omega⟩) (show 0 ≤ c 8 (5 * t + 2) ∧ c 8 (5 * t + 2) ≤ 5 from ⟨h_3.1, by first | (clear ht h_1 h_2 h_3 h_4 h_5 h_6 h_7 h_12 h_17; omega) | omega⟩) (show 0 ≤ c 8 (5 * t + 3) ∧ c 8 (5 * t + 3) ≤ 99999 from h_5) (fun c_23 y_26 hI_24 hF_25 hy_26 => (bk_inl (v_zret rfl rfl (by omega) ?_)))))))))
    exact K c_23 y_26 hI_24 (fun a j hm => hF_25 a j (fun h => hm (Or.inl h))) hy_26
  by_cases h_27 : c 8 (5 * t) = 4
  · skip
    refine v_tsw_i (t := 131) 4 rfl (by omega) (by decide) rfl (by decide) (q_aload_n rfl rfl (q_iload_n rfl rfl (v_cv rfl rfl rfl rfl (Nat.le_of_ble_eq_true rfl) ⟨⟨rfl, rfl⟩, Nat.le_of_ble_eq_true rfl, rfl⟩ (Nat.le_of_ble_eq_true rfl) (Nat.le_of_ble_eq_true rfl) (s_61 (a1 := c 8 (5 * t + 1)) hI (.inl ⟨rfl, rfl⟩) (show (-2147483648) ≤ c 8 (5 * t + 1) ∧ c 8 (5 * t + 1) ≤ 2147483647 from ⟨(Int.le_trans (by decide) h_2.1), (Int.le_trans h_2.2 (by decide))⟩) (fun c_28 hI_29 hF_30 => (bk_inl (q_iconst rfl (v_zret rfl rfl (by decide) ?_))))))))
    exact K c_28 1 hI_29 (fun a j hm => hF_30 a j (fun h => hm (Or.inl h))) ⟨by decide, by decide⟩
  by_cases h_31 : c 8 (5 * t) = 5
  · skip
    refine v_tsw_i (t := 120) 5 rfl (by omega) (by decide) rfl (by decide) (q_aload_n rfl rfl (q_iload_n rfl rfl (v_cv rfl rfl rfl rfl (Nat.le_of_ble_eq_true rfl) ⟨⟨rfl, rfl⟩, Nat.le_of_ble_eq_true rfl, rfl⟩ (Nat.le_of_ble_eq_true rfl) (Nat.le_of_ble_eq_true rfl) (s_58 (a1 := c 8 (5 * t + 1)) hI (.inl ⟨rfl, rfl⟩) (show 0 ≤ c 8 (5 * t + 1) ∧ c 8 (5 * t + 1) ≤ 5 from ⟨h_2.1, by first | (clear ht h_1 h_2 h_3 h_4 h_5 h_6 h_7 h_12 h_17 h_22 h_27; omega) | omega⟩) (fun c_32 y_35 hI_33 hF_34 hy_35 => (bk_inl (v_zret rfl rfl (by omega) ?_)))))))
    exact K c_32 y_35 hI_33 (fun a j hm => hF_34 a j (fun q => q.elim (fun h => hm (Or.inl h)) (fun q => q.elim (fun h => hm (Or.inr (Or.inl h))) (fun h => hm (Or.inr (Or.inr h)))))) hy_35
  by_cases h_36 : c 8 (5 * t) = 6
  · skip
    refine v_tsw_i (t := 126) 6 rfl (by omega) (by decide) rfl (by decide) (q_aload_n rfl rfl (v_cv rfl rfl rfl rfl (Nat.le_of_ble_eq_true rfl) ⟨⟨rfl, rfl⟩, Nat.le_of_ble_eq_true rfl, rfl⟩ (Nat.le_of_ble_eq_true rfl) (Nat.le_of_ble_eq_true rfl) (s_60 hI (.inl ⟨rfl, rfl⟩) (fun c_37 y_40 hI_38 hF_39 hy_40 => (bk_inl (v_zret rfl rfl (by omega) ?_))))))
    exact K c_37 y_40 hI_38 (fun a j hm => hF_39 a j (fun h => hm (Or.inl h))) hy_40
  refine v_tsw_o (t := 131) rfl (by omega) (by decide) (q_aload_n rfl rfl (q_iload_n rfl rfl (v_cv rfl rfl rfl rfl (Nat.le_of_ble_eq_true rfl) ⟨⟨rfl, rfl⟩, Nat.le_of_ble_eq_true rfl, rfl⟩ (Nat.le_of_ble_eq_true rfl) (Nat.le_of_ble_eq_true rfl) (s_61 (a1 := c 8 (5 * t + 1)) hI (.inl ⟨rfl, rfl⟩) (show (-2147483648) ≤ c 8 (5 * t + 1) ∧ c 8 (5 * t + 1) ≤ 2147483647 from ⟨(Int.le_trans (by decide) h_2.1), (Int.le_trans h_2.2 (by decide))⟩) (fun c_41 hI_42 hF_43 => (bk_inl (q_iconst rfl (v_zret rfl rfl (by decide) ?_))))))))
  exact K c_41 1 hI_42 (fun a j hm => hF_43 a j (fun h => hm (Or.inl h))) ⟨by decide, by decide⟩
