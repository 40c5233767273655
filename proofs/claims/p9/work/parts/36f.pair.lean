/-! ===== class and reference side by side, on ===== -/
set_option maxRecDepth 100000 in
set_option maxHeartbeats 4000000 in
theorem L_86t {sc : List Int32} {d dh P Q P2 Q2 : Nat} {c m m9 : ME} {a1 yg t9 wk n0 n1 n2 : Int} {F H : Int → Int} {Z : AR → Prop} (hI : Iv 0 (-1) P2 Q2 c) (hJ : Iv 0 (-1) P Q m) (hJ9 : Iv 0 (-1) P Q m9) (ha1 : (-2147483648) ≤ a1 ∧ a1 ≤ 2147483647) (hyg : (-2147483648) ≤ yg ∧ yg ≤ 2147483647) (hq0 : (a1 ≥ 0 ∧ a1 ≤ t9 ∧ a1 ≤ 150)) (hg_t9 : m 1 3 = t9) (hr_t9 : c 41 2 = t9) (hg_wk : m 3 3 = wk) (hr_wk : c 41 35 = wk) (hg_n0 : m P 0 = n0) (hr_n0 : c 41 20 = n0) (hg_n1 : m P 1 = n1) (hr_n1 : c 41 21 = n1) (hg_n2 : m P 2 = n2) (hr_n2 : c 41 22 = n2) (hF : ∀ j : Int, m 2 j = F j) (hH : ∀ j : Int, c 43 j = H j) (hU : Ub F H) (hG : Wp sc (dh + 50) 86 0 [(0, .ref 0), (1, vi a1)] [] (Wd P Q P P m) 0 0 (fun q => q = (.inl (some (vi yg)), Wd P Q P P m9, 0, 0))) (K : ∀ (c2 : ME) (y : Int), Iv 0 (-1) P2 Q2 c2 → (∀ (a : Nat) (j : Int), ¬ ((a = 41 ∧ j = 0) ∨ a = 42 ∨ (a = 41 ∧ j = 2) ∨ (a = 41 ∧ j = 3) ∨ (a = 41 ∧ j = 4) ∨ (a = 41 ∧ j = 5) ∨ (a = 41 ∧ j = 6) ∨ (a = 41 ∧ j = 7) ∨ (a = 41 ∧ j = 8) ∨ (a = 41 ∧ j = 34) ∨ a = 56 ∨ a = 57 ∨ a = 60 ∨ (a = 41 ∧ j = 35) ∨ (a = 41 ∧ j = 36) ∨ (a = 41 ∧ j = 37) ∨ (a = 41 ∧ j = 38) ∨ (a = 41 ∧ j = 39) ∨ a = 58 ∨ a = 59 ∨ a = 54 ∨ a = 55) → c2 a j = c a j) → (-2147483648) ≤ y ∧ y ≤ 2147483647 → ((c2 41 2 = 0)) → ((c2 41 8 = m9 1 5)) → ((c2 41 0 = 0)) → ((m9 3 3 = c2 41 35)) → Z (.inl (some (vi y)), Wd P2 Q2 P2 P2 c2, 0, 0)) : Wp sc (d + 44) 202 0 [(0, .ref 41), (1, vi a1)] [] (Wd P2 Q2 P2 P2 c) 0 0 Z := by
  have hP := iv_P hJ
  have hQ := iv_Q hJ
  have h_1 := ir_1_3 hJ
  have h_2 := ir_41_2 hI
  have h_3 := ir_3_3 hJ
  have h_4 := ir_41_35 hI
  have h_5 := ir_p0_0 hJ hP
  have h_6 := ir_41_20 hI
  have h_7 := ir_p0_1 hJ hP
  have h_8 := ir_41_21 hI
  have h_9 := ir_p0_2 hJ hP
  have h_10 := ir_41_22 hI
  refine gh hG ?_
  refine q_aload_n rfl rfl ?_
  refine q_iload_n rfl rfl ?_
  refine v_sip rfl (by decide) ?_
  refine v_cv rfl rfl rfl rfl (by decide) ⟨⟨rfl, rfl⟩, by decide, rfl⟩ (Nat.le_of_ble_eq_true rfl) (Nat.le_of_ble_eq_true rfl) ?_
  refine q_aload_n rfl rfl ?_
  refine q_iload_n rfl rfl ?_
  refine q_iconst rfl ?_
  refine q_iload_n rfl rfl ?_
  refine q_aload_n rfl rfl ?_
  refine v_gr (t := 1) rfl rfl rfl (by decide) rfl ?_
  refine v_gi (z := 3) (v := t9) rfl rfl rfl (by decide) rfl rfl (hg_t9) ?_
  refine v_minx rfl rfl (by omega) (Nat.le_of_ble_eq_true rfl) ⟨by omega, by omega, by omega, by omega⟩ (fun y_11 hy_11 => ?_)
  refine q_call rfl rfl rfl rfl ?_
  refine q_iload_n rfl rfl ?_
  refine q_iload_n rfl rfl ?_
  refine v_ic_lt_f (t := 14) rfl (by decide) ⟨by decide, by omega, ha1.2⟩ ?_
  refine q_iload_n rfl rfl ?_
  refine q_iload_n rfl rfl ?_
  refine v_ic_gt_f (t := 14) rfl (by decide) (by omega) ?_
  refine q_iconst rfl ?_
  refine q_goto (t := 15) rfl (by decide) ?_
  refine v_zret rfl rfl (by decide) ?_
  refine bk_inl ?_
  refine v_cv rfl rfl rfl rfl (by decide) ⟨⟨rfl, rfl⟩, by decide, rfl⟩ (Nat.le_of_ble_eq_true rfl) (Nat.le_of_ble_eq_true rfl) ?_
  refine q_iload_n rfl rfl ?_
  refine v_if_ne_t (t := 25) rfl (by decide) (by decide) ?_
  refine q_vret rfl rfl ?_
  refine bk_inl ?_
  refine q_aload_n rfl rfl ?_
  refine v_gr (t := 1) rfl rfl rfl (by decide) rfl ?_
  refine q_iload_n rfl rfl ?_
  refine v_cv rfl rfl rfl rfl (by decide) ⟨⟨rfl, rfl⟩, by decide, rfl⟩ (Nat.le_of_ble_eq_true rfl) (Nat.le_of_ble_eq_true rfl) ?_
  refine q_aload_n rfl rfl ?_
  refine q_iload_n rfl rfl ?_
  refine q_aload_n rfl rfl ?_
  refine v_gi (z := 3) (v := t9) rfl rfl rfl (by decide) rfl rfl (hg_t9) ?_
  refine v_minx rfl rfl (by omega) (Nat.le_of_ble_eq_true rfl) ⟨by omega, by omega, by omega, by omega⟩ (fun y_12 hy_12 => ?_)
  refine v_pi (z := 1) rfl rfl rfl (by decide) rfl rfl rfl (by decide) ?_
  refine q_aload_n rfl rfl ?_
  refine q_iconst rfl ?_
  refine v_pi (z := 2) rfl rfl rfl (by decide) rfl rfl rfl (by decide) ?_
  refine q_aload_n rfl rfl ?_
  refine q_iconst rfl ?_
  refine v_pi (z := 3) rfl rfl rfl (by decide) rfl rfl rfl (by decide) ?_
  refine q_aload_n rfl rfl ?_
  refine q_iconst rfl ?_
  refine v_pi (z := 4) rfl rfl rfl (by decide) rfl rfl rfl (by decide) ?_
  refine q_aload_n rfl rfl ?_
  refine q_iconst rfl ?_
  refine v_pi (z := 5) rfl rfl rfl (by decide) rfl rfl rfl (by decide) ?_
  refine q_vret rfl rfl ?_
  refine bk_inl ?_
  refine q_vret rfl rfl ?_
  refine bk_inl ?_
  refine q_aload_n rfl rfl ?_
  refine v_gr (t := 3) rfl rfl rfl (by decide) rfl ?_
  refine v_cv rfl rfl rfl rfl (by decide) ⟨⟨rfl, rfl⟩, by decide, rfl⟩ (Nat.le_of_ble_eq_true rfl) (Nat.le_of_ble_eq_true rfl) ?_
  refine q_aload_n rfl rfl ?_
  refine v_gi (z := 3) (v := wk) rfl rfl rfl (by decide) rfl rfl ((up_c (nn rfl)).trans ((up_c (nn rfl)).trans ((up_c (nn rfl)).trans ((up_c (nn rfl)).trans ((up_c (nn rfl)).trans (hg_wk)))))) ?_
  refine v_bip rfl (by decide) ?_
  by_cases h_13 : wk < 16
  · refine v_ic_lt_t (t := 13) rfl (by decide) ⟨by omega, h_13, by decide⟩ ?_
    refine q_iconst rfl ?_
    refine v_zret rfl rfl (by decide) ?_
    refine bk_inl ?_
    refine v_if_eq_t (t := 21) rfl (by decide) (by decide) ?_
    refine q_aload_n rfl rfl ?_
    refine v_gr (t := 7) rfl rfl rfl (by decide) rfl ?_
    refine q_aload_n rfl rfl ?_
    refine v_gr (t := 1) rfl rfl rfl (by decide) rfl ?_
    refine q_aload_n rfl rfl ?_
    refine v_gr (t := P) rfl rfl rfl (by decide) rfl ?_
    refine v_cv rfl rfl rfl rfl (by decide) ⟨⟨rfl, rfl⟩, by decide, rfl⟩ (Nat.le_of_ble_eq_true rfl) (Nat.le_of_ble_eq_true rfl) ?_
    refine q_aload_n rfl rfl ?_
    refine q_iconst rfl ?_
    refine v_pi (z := 1) rfl rfl rfl (by decide) rfl rfl rfl (by decide) ?_
    refine q_aload_n rfl rfl ?_
    refine q_iconst rfl ?_
    refine v_pi (z := 2) rfl rfl rfl (by decide) rfl rfl rfl (by decide) ?_
    refine q_aload_n rfl rfl ?_
    refine q_iconst rfl ?_
    refine v_pi (z := 3) rfl rfl rfl (by decide) rfl rfl rfl (by decide) ?_
    refine q_aload_n rfl rfl ?_
    refine q_iconst rfl ?_
    refine v_pi (z := 4) rfl rfl rfl (by decide) rfl rfl rfl (by decide) ?_
    refine q_aload_n rfl rfl ?_
    refine q_aload_n rfl rfl ?_
    refine q_aload_n rfl rfl ?_
    refine q_iconst rfl ?_
    have hI_14 := iw_1_1 (v := y_12) hJ ⟨by omega, by omega⟩
    have hI_15 := iw_1_2 (v := 0) hI_14 ⟨by decide, by decide⟩
    have hI_16 := iw_1_3 (v := 0) hI_15 ⟨by decide, by decide⟩
    have hI_17 := iw_1_4 (v := 0) hI_16 ⟨by decide, by decide⟩
    have hI_18 := iw_1_5 (v := (-1)) hI_17 ⟨by decide, by decide⟩
    have hI_19 := iw_7_1 (v := 0) hI_18 ⟨by decide, by decide⟩
    have hI_20 := iw_7_2 (v := 0) hI_19 ⟨by decide, by decide⟩
    have hI_21 := iw_7_3 (v := 0) hI_20 ⟨by decide, by decide⟩
    have hI_22 := iw_7_4 (v := 0) hI_21 ⟨by decide, by decide⟩
    have h_23 : (up (up (up (up (up (up (up (up (up m 1 1 y_12) 1 2 0) 1 3 0) 1 4 0) 1 5 (-1)) 7 1 0) 7 2 0) 7 3 0) 7 4 0) 7 2 = 0 := ((up_n (by decide)).trans ((up_n (by decide)).trans (up_e rfl)))
    have h_24 : (up (up (up (up (up (up (up (up (up m 1 1 y_12) 1 2 0) 1 3 0) 1 4 0) 1 5 (-1)) 7 1 0) 7 2 0) 7 3 0) 7 4 0) 7 2 = 0 := ((up_n (by decide)).trans ((up_n (by decide)).trans (up_e rfl)))
    refine v_cv rfl rfl rfl rfl (by decide) ⟨⟨rfl, rfl⟩, by decide, rfl⟩ (Nat.le_of_ble_eq_true rfl) (Nat.le_of_ble_eq_true rfl) (fn_of (r_41 (a4 := 0) hI_22 (show 0 ≤ 0 ∧ 0 ≤ 6 from ⟨by decide, by decide⟩) (fun c_25 hI_26 hF_27 h_28 => ?_)))
    intro hG_30
    refine bk_inl ?_
    have h_29 := ir_7_2 hI_26
    refine q_vret rfl rfl ?_
    refine bk_inl ?_
    refine q_aload_n rfl rfl ?_
    refine v_gr (t := 1) rfl rfl rfl (by decide) rfl ?_
    refine v_cv rfl rfl rfl rfl (by decide) ⟨⟨rfl, rfl⟩, by decide, rfl⟩ (Nat.le_of_ble_eq_true rfl) (Nat.le_of_ble_eq_true rfl) ?_
    refine q_aload_n rfl rfl ?_
    have h_31 := ir_1_4 hI_26
    refine v_gi (z := 4) (v := c_25 1 4) rfl rfl rfl (by decide) rfl rfl rfl ?_
    by_cases h_32 : c_25 1 4 ≠ 0
    · refine v_if_ne_t (t := 11) rfl (by decide) ⟨h_32, ⟨(Int.le_trans (by decide) h_31.1), (Int.le_trans h_31.2 (by decide))⟩, by decide, by decide⟩ ?_
      refine q_iconst rfl ?_
      refine v_zret rfl rfl (by decide) ?_
      refine bk_inl ?_
      refine v_if_eq_t (t := 88) rfl (by decide) (by decide) ?_
      refine q_aload_n rfl rfl ?_
      refine q_aload_n rfl rfl ?_
      refine v_gr (t := 7) rfl rfl rfl (by decide) rfl ?_
      have kn_33 : Hid (c_25 7 3 = 0) := (hF_27 7 3 (fun q => q.elim (fun h => absurd h.1 (nn rfl)) (fun q => q.elim (fun h => absurd h.1 (nn rfl)) (fun q => q.elim (fun h => absurd h.1 (nn rfl)) (fun q => q.elim (fun h => absurd h.2 (ni rfl)) (fun h => absurd h.1 (nn rfl))))))).trans ((up_n (by decide)).trans (up_e rfl))
      refine v_gi (z := 3) (v := 0) rfl rfl rfl (by decide) rfl rfl (hid kn_33) ?_
      refine v_cv rfl rfl rfl rfl (by decide) ⟨⟨rfl, rfl⟩, by decide, rfl⟩ (Nat.le_of_ble_eq_true rfl) (Nat.le_of_ble_eq_true rfl) ?_
      refine q_aload_n rfl rfl ?_
      refine v_gr (t := 1) rfl rfl rfl (by decide) rfl ?_
      refine v_cv rfl rfl rfl rfl (by decide) ⟨⟨rfl, rfl⟩, by decide, rfl⟩ (Nat.le_of_ble_eq_true rfl) (Nat.le_of_ble_eq_true rfl) ?_
      refine q_aload_n rfl rfl ?_
      refine v_gi (z := 4) (v := c_25 1 4) rfl rfl rfl (by decide) rfl rfl rfl ?_
      refine v_if_ne_t (t := 11) rfl (by decide) ⟨by first | (clear h_1 h_2 h_3 h_4 h_5 h_6 h_7 h_8 h_9 h_10 h_13 h_29 h_28; omega) | omega, ⟨(Int.le_trans (by decide) h_31.1), (Int.le_trans h_31.2 (by decide))⟩, by decide, by decide⟩ ?_
      refine q_iconst rfl ?_
      refine v_zret rfl rfl (by decide) ?_
      refine bk_inl ?_
      refine v_if_eq_t (t := 14) rfl (by decide) (by decide) ?_
      refine q_aload_n rfl rfl ?_
      refine v_gr (t := 1) rfl rfl rfl (by decide) rfl ?_
      refine v_gi (z := 4) (v := c_25 1 4) rfl rfl rfl (by decide) rfl rfl rfl ?_
      refine v_bip rfl (by decide) ?_
      refine v_isub (v := c_25 1 4 - 10) rfl rfl ?_
      refine q_iret rfl rfl ?_
      refine bk_inl ?_
      refine q_iret rfl rfl ?_
      intro hE_34
      have h_35 : yg = c_25 1 4 - 10 := (vi_inj ⟨by omega, by omega⟩ ⟨by omega, by omega⟩ (Option.some.inj (Sum.inl.inj (Prod.mk.inj hE_34).1))).symm
      have hW : Wd P Q P P c_25 = Wd P Q P P m9 := (Prod.mk.inj (Prod.mk.inj hE_34).2).1
      have h_36 := ir_1_5 hI_26
      have h_37 := ir_1_5 hJ9
      have h_38 : m9 1 5 = c_25 1 5 := wd_fv (z := 5) 5 rfl hW rfl rfl rfl rfl (by decide) rfl ⟨(Int.le_trans (by decide) h_36.1), (Int.le_trans h_36.2 (by decide))⟩ ⟨(Int.le_trans (by decide) h_37.1), (Int.le_trans h_37.2 (by decide))⟩
      have kn_39 : Hid (c_25 3 3 = wk) := (hF_27 3 3 (fun q => q.elim (fun h => absurd h.1 (nn rfl)) (fun q => q.elim (fun h => absurd h.1 (nn rfl)) (fun q => q.elim (fun h => absurd h.1 (nn rfl)) (fun q => q.elim (fun h => absurd h.1 (nn rfl)) (fun h => absurd h.1 (nn rfl))))))).trans ((up_c (nn rfl)).trans ((up_c (nn rfl)).trans ((up_c (nn rfl)).trans ((up_c (nn rfl)).trans ((up_c (nn rfl)).trans ((up_c (nn rfl)).trans ((up_c (nn rfl)).trans ((up_c (nn rfl)).trans ((up_c (nn rfl)).trans (hg_wk))))))))))
      have h_40 := ir_3_3 hJ9
      have h_41 : m9 3 3 = wk := wd_fv (z := 3) 3 rfl hW rfl rfl rfl rfl (by decide) (hid kn_39) ⟨by first | (clear h_1 h_2 h_5 h_6 h_7 h_8 h_9 h_10 h_29 h_28 h_31 h_35 h_36 h_37 h_38 h_40 h_32; omega) | omega, by first | (clear h_1 h_2 h_5 h_6 h_7 h_8 h_9 h_10 h_29 h_28 h_31 h_35 h_36 h_37 h_38 h_40 h_32; omega) | omega⟩ ⟨(Int.le_trans (by decide) h_40.1), (Int.le_trans h_40.2 (by decide))⟩
      refine q_aload_n rfl rfl ?_
      refine q_iconst rfl ?_
      refine v_pi (z := 0) rfl rfl rfl (by decide) rfl rfl rfl (by decide) ?_
      refine q_aload_n rfl rfl ?_
      refine q_iload_n rfl rfl ?_
      refine v_if_lt_f (t := 29) rfl (by decide) ⟨by decide, by first | (clear h_1 h_2 h_3 h_4 h_5 h_6 h_7 h_8 h_9 h_10 h_13 h_29 h_28 h_31 h_35 h_36 h_37 h_38 h_40 h_41 h_32; omega) | omega, ha1.2⟩ ?_
      refine q_iload_n rfl rfl ?_
      refine q_aload_n rfl rfl ?_
      refine v_gi (z := 2) (v := t9) rfl rfl rfl (by decide) rfl rfl ((up_n (by decide)).trans (hr_t9)) ?_
      refine v_ic_gt_f (t := 29) rfl (by decide) ⟨ha1.1, by first | (clear h_1 h_2 h_3 h_4 h_5 h_6 h_7 h_8 h_9 h_10 h_13 h_29 h_28 h_31 h_35 h_36 h_37 h_38 h_40 h_41 h_32; omega) | omega, by first | (clear h_3 h_4 h_5 h_6 h_7 h_8 h_9 h_10 h_13 h_29 h_28 h_31 h_35 h_36 h_37 h_38 h_40 h_41 h_32; omega) | omega⟩ ?_
      refine q_iload_n rfl rfl ?_
      refine v_sip rfl (by decide) ?_
      refine v_ic_gt_f (t := 29) rfl (by decide) ⟨ha1.1, by first | (clear h_1 h_2 h_3 h_4 h_5 h_6 h_7 h_8 h_9 h_10 h_13 h_29 h_28 h_31 h_35 h_36 h_37 h_38 h_40 h_41 h_32; omega) | omega, by decide⟩ ?_
      refine q_iconst rfl ?_
      refine q_goto (t := 30) rfl (by decide) ?_
      refine q_iconst rfl ?_
      refine q_iconst rfl ?_
      refine v_cv rfl rfl rfl rfl (by decide) ⟨⟨rfl, rfl⟩, by decide, rfl⟩ (Nat.le_of_ble_eq_true rfl) (Nat.le_of_ble_eq_true rfl) ?_
      refine q_iload_n rfl rfl ?_
      refine v_if_ne_t (t := 26) rfl (by decide) (by decide) ?_
      refine q_aload_n rfl rfl ?_
      refine v_gi (z := 0) (v := 0) rfl rfl rfl (by decide) rfl rfl (up_e rfl) ?_
      refine v_if_ne_f (t := 37) rfl (by decide) (by decide) ?_
      refine q_iconst rfl ?_
      refine q_goto (t := 38) rfl (by decide) ?_
      refine v_zret rfl rfl (by decide) ?_
      refine bk_inl ?_
      refine v_if_ne_t (t := 40) rfl (by decide) (by decide) ?_
      refine q_aload_n rfl rfl ?_
      refine q_iload_n rfl rfl ?_
      have hI_42 := iw_41_0 (v := 0) hI ⟨by decide, by decide⟩
      refine v_cv rfl rfl rfl rfl (by decide) ⟨⟨rfl, rfl⟩, by decide, rfl⟩ (Nat.le_of_ble_eq_true rfl) (Nat.le_of_ble_eq_true rfl) (s_163 (a1 := a1) hI_42 (show 0 ≤ a1 ∧ a1 ≤ 600 from ⟨by first | (clear h_1 h_2 h_3 h_4 h_5 h_6 h_7 h_8 h_9 h_10 h_13 h_29 h_28 h_31 h_35 h_36 h_37 h_38 h_40 h_41 h_32; omega) | omega, by first | (clear h_1 h_2 h_3 h_4 h_5 h_6 h_7 h_8 h_9 h_10 h_13 h_29 h_28 h_31 h_35 h_36 h_37 h_38 h_40 h_41 h_32; omega) | omega⟩) (fun c_43 hI_44 hF_45 h_46 => ?_))
      refine bk_inl ?_
      have h_47 := ir_41_2 hI_44
      have h_48 := ir_41_3 hI_44
      have h_49 := ir_41_4 hI_44
      have h_50 := ir_41_5 hI_44
      have h_51 := ir_41_7 hI_44
      refine q_aload_n rfl rfl ?_
      have kn_52 : Hid (c_43 41 35 = wk) := (hF_45 41 35 (fun q => q.elim (fun h => absurd h.2 (ni rfl)) (fun q => q.elim (fun h => absurd h.2 (ni rfl)) (fun q => q.elim (fun h => absurd h.2 (ni rfl)) (fun q => q.elim (fun h => absurd h.2 (ni rfl)) (fun q => q.elim (fun h => absurd h.2 (ni rfl)) (fun h => absurd h.2 (ni rfl)))))))).trans ((up_n (by decide)).trans (hr_wk))
      refine v_gi (z := 35) (v := wk) rfl rfl rfl (by decide) rfl rfl (hid kn_52) ?_
      refine v_bip rfl (by decide) ?_
      refine v_ic_ne_t (t := 63) rfl (by decide) ⟨by first | (clear h_1 h_2 h_5 h_6 h_7 h_8 h_9 h_10 h_29 h_28 h_31 h_35 h_36 h_37 h_38 h_40 h_47 h_48 h_49 h_50 h_51 h_46 h_32; omega) | omega, ⟨by first | (clear h_1 h_2 h_5 h_6 h_7 h_8 h_9 h_10 h_29 h_28 h_31 h_35 h_36 h_37 h_38 h_40 h_47 h_48 h_49 h_50 h_51 h_46 h_32; omega) | omega, by first | (clear h_1 h_2 h_5 h_6 h_7 h_8 h_9 h_10 h_29 h_28 h_31 h_35 h_36 h_37 h_38 h_40 h_47 h_48 h_49 h_50 h_51 h_46 h_32; omega) | omega⟩, by decide, by decide⟩ ?_
      refine q_aload_n rfl rfl ?_
      refine q_iconst rfl ?_
      refine v_pi (z := 34) rfl rfl rfl (by decide) rfl rfl rfl (by decide) ?_
      refine Wp_ls [(0, .ref 41), (1, vi a1)] (lsub_cons rfl (lsub_cons rfl lsub_nil)) ?_
      have hI_53 := iw_41_34 (v := 0) hI_44 ⟨by decide, by decide⟩
      have kn_54 : Hid (c_43 41 20 = n0) := (hF_45 41 20 (fun q => q.elim (fun h => absurd h.2 (ni rfl)) (fun q => q.elim (fun h => absurd h.2 (ni rfl)) (fun q => q.elim (fun h => absurd h.2 (ni rfl)) (fun q => q.elim (fun h => absurd h.2 (ni rfl)) (fun q => q.elim (fun h => absurd h.2 (ni rfl)) (fun h => absurd h.2 (ni rfl)))))))).trans ((up_n (by decide)).trans (hr_n0))
      have kn_55 : Hid (c_43 41 21 = n1) := (hF_45 41 21 (fun q => q.elim (fun h => absurd h.2 (ni rfl)) (fun q => q.elim (fun h => absurd h.2 (ni rfl)) (fun q => q.elim (fun h => absurd h.2 (ni rfl)) (fun q => q.elim (fun h => absurd h.2 (ni rfl)) (fun q => q.elim (fun h => absurd h.2 (ni rfl)) (fun h => absurd h.2 (ni rfl)))))))).trans ((up_n (by decide)).trans (hr_n1))
      have kn_56 : Hid (c_43 41 22 = n2) := (hF_45 41 22 (fun q => q.elim (fun h => absurd h.2 (ni rfl)) (fun q => q.elim (fun h => absurd h.2 (ni rfl)) (fun q => q.elim (fun h => absurd h.2 (ni rfl)) (fun q => q.elim (fun h => absurd h.2 (ni rfl)) (fun q => q.elim (fun h => absurd h.2 (ni rfl)) (fun h => absurd h.2 (ni rfl)))))))).trans ((up_n (by decide)).trans (hr_n2))
      have h_57 : (up (up (up (up (up (up (up (up (up m 1 1 y_12) 1 2 0) 1 3 0) 1 4 0) 1 5 (-1)) 7 1 0) 7 2 0) 7 3 0) 7 4 0) 1 4 = 0 := ((up_c (nn rfl)).trans ((up_c (nn rfl)).trans ((up_c (nn rfl)).trans ((up_c (nn rfl)).trans ((up_n (by decide)).trans (up_e rfl))))))
      have h_58 : (up (up (up (up (up (up (up (up (up m 1 1 y_12) 1 2 0) 1 3 0) 1 4 0) 1 5 (-1)) 7 1 0) 7 2 0) 7 3 0) 7 4 0) 1 2 = 0 := ((up_c (nn rfl)).trans ((up_c (nn rfl)).trans ((up_c (nn rfl)).trans ((up_c (nn rfl)).trans ((up_n (by decide)).trans ((up_n (by decide)).trans ((up_n (by decide)).trans (up_e rfl))))))))
      have h_59 : (up (up (up (up (up (up (up (up (up m 1 1 y_12) 1 2 0) 1 3 0) 1 4 0) 1 5 (-1)) 7 1 0) 7 2 0) 7 3 0) 7 4 0) 1 5 = (-1) := ((up_c (nn rfl)).trans ((up_c (nn rfl)).trans ((up_c (nn rfl)).trans ((up_c (nn rfl)).trans (up_e rfl)))))
      have h_60 : (up c_43 41 34 0) 41 5 = c_43 41 5 := (up_n (by decide))
      have h_61 : (up c_43 41 34 0) 41 4 = c_43 41 4 := (up_n (by decide))
      have h_62 := ir_41_6 hI
      have kn_63 : Hid (c_43 41 6 = c 41 6) := (hF_45 41 6 (fun q => q.elim (fun h => absurd h.2 (ni rfl)) (fun q => q.elim (fun h => absurd h.2 (ni rfl)) (fun q => q.elim (fun h => absurd h.2 (ni rfl)) (fun q => q.elim (fun h => absurd h.2 (ni rfl)) (fun q => q.elim (fun h => absurd h.2 (ni rfl)) (fun h => absurd h.2 (ni rfl)))))))).trans (up_n (by decide))
      have h_64 : (up c_43 41 34 0) 41 6 = c 41 6 := ((up_n (by decide)).trans (hid kn_63))
      refine L_41t (m := up (up (up (up (up (up (up (up (up m 1 1 y_12) 1 2 0) 1 3 0) 1 4 0) 1 5 (-1)) 7 1 0) 7 2 0) 7 3 0) 7 4 0) (a1 := a1) (e1 := y_12) (f0 := 0) (g0 := (-1)) (p0 := 0) (n0 := n0) (n1 := n1) (n2 := n2) (ns0 := 0) (r0 := 0) (o0 := c_43 41 7) (F := F) (H := H) hI_53 hI_22 hI_26 (show (-2147483648) ≤ a1 ∧ a1 ≤ 2147483647 from ha1) (by first | (clear h_1 h_2 h_3 h_4 h_5 h_6 h_7 h_8 h_9 h_10 h_13 h_29 h_28 h_31 h_35 h_36 h_37 h_38 h_40 h_41 h_47 h_48 h_49 h_50 h_51 h_46 h_32; omega) | omega) (by first | (clear h_1 h_2 h_3 h_4 h_5 h_6 h_7 h_8 h_9 h_10 h_13 h_29 h_28 h_31 h_35 h_36 h_37 h_38 h_40 h_41 h_47 h_48 h_49 h_50 h_51 h_46 h_32; omega) | omega) (by first | (clear h_1 h_2 h_3 h_4 h_5 h_6 h_7 h_8 h_9 h_10 h_13 h_29 h_28 h_31 h_35 h_36 h_37 h_38 h_40 h_41 h_47 h_48 h_49 h_50 h_51 h_46 h_32; omega) | omega) (by first | (clear h_1 h_2 h_3 h_4 h_5 h_6 h_7 h_8 h_9 h_10 h_13 h_29 h_28 h_31 h_35 h_36 h_37 h_38 h_40 h_41 h_47 h_48 h_49 h_50 h_51 h_46 h_32; omega) | omega) (by first | (clear h_1 h_2 h_3 h_4 h_5 h_6 h_7 h_8 h_9 h_10 h_13 h_29 h_28 h_31 h_35 h_36 h_37 h_38 h_40 h_41 h_47 h_48 h_49 h_50 h_51 h_46 h_32; omega) | omega) (by first | (clear h_1 h_2 h_3 h_4 h_5 h_6 h_7 h_8 h_9 h_10 h_13 h_29 h_28 h_31 h_35 h_36 h_37 h_38 h_40 h_41 h_47 h_48 h_49 h_50 h_51 h_46 h_32; omega) | omega) (by first | (clear h_1 h_2 h_3 h_4 h_5 h_6 h_7 h_8 h_9 h_10 h_13 h_29 h_28 h_31 h_35 h_36 h_37 h_38 h_40 h_41 h_47 h_48 h_49 h_50 h_32; omega) | omega) (((up_c (nn rfl)).trans ((up_c (nn rfl)).trans ((up_c (nn rfl)).trans ((up_c (nn rfl)).trans ((up_n (by decide)).trans ((up_n (by decide)).trans ((up_n (by decide)).trans ((up_n (by decide)).trans (up_e rfl)))))))))) (((show _ = c_43 41 3 from (up_n (by decide))).trans (by omega))) (((up_c (nn rfl)).trans ((up_c (nn rfl)).trans ((up_c (nn rfl)).trans ((up_c (nn rfl)).trans ((up_n (by decide)).trans (up_e rfl))))))) (((up_c (nn rfl)).trans ((up_c (nn rfl)).trans ((up_c (nn rfl)).trans ((up_c (nn rfl)).trans (up_e rfl)))))) (((up_c (nn rfl)).trans ((up_c (nn rfl)).trans ((up_c (nn rfl)).trans ((up_c (nn rfl)).trans ((up_n (by decide)).trans ((up_n (by decide)).trans ((up_n (by decide)).trans (up_e rfl))))))))) (((up_c (np0 hP rfl)).trans ((up_c (np0 hP rfl)).trans ((up_c (np0 hP rfl)).trans ((up_c (np0 hP rfl)).trans ((up_c (np0 hP rfl)).trans ((up_c (np0 hP rfl)).trans ((up_c (np0 hP rfl)).trans ((up_c (np0 hP rfl)).trans ((up_c (np0 hP rfl)).trans (hg_n0))))))))))) (((up_n (by decide)).trans (hid kn_54))) (((up_c (np0 hP rfl)).trans ((up_c (np0 hP rfl)).trans ((up_c (np0 hP rfl)).trans ((up_c (np0 hP rfl)).trans ((up_c (np0 hP rfl)).trans ((up_c (np0 hP rfl)).trans ((up_c (np0 hP rfl)).trans ((up_c (np0 hP rfl)).trans ((up_c (np0 hP rfl)).trans (hg_n1))))))))))) (((up_n (by decide)).trans (hid kn_55))) (((up_c (np0 hP rfl)).trans ((up_c (np0 hP rfl)).trans ((up_c (np0 hP rfl)).trans ((up_c (np0 hP rfl)).trans ((up_c (np0 hP rfl)).trans ((up_c (np0 hP rfl)).trans ((up_c (np0 hP rfl)).trans ((up_c (np0 hP rfl)).trans ((up_c (np0 hP rfl)).trans (hg_n2))))))))))) (((up_n (by decide)).trans (hid kn_56))) (((up_n (by decide)).trans ((up_n (by decide)).trans (up_e rfl)))) ((up_e rfl)) ((up_n (by decide))) (fun j => ((up_c (nn rfl)).trans ((up_c (nn rfl)).trans ((up_c (nn rfl)).trans ((up_c (nn rfl)).trans ((up_c (nn rfl)).trans ((up_c (nn rfl)).trans ((up_c (nn rfl)).trans ((up_c (nn rfl)).trans (up_c (nn rfl)))))))))).trans (hF j)) (fun j => ((up_c (nn rfl)).trans ((hF_45 43 j (fun q => q.elim (fun h => absurd h.1 (nn rfl)) (fun q => q.elim (fun h => absurd h.1 (nn rfl)) (fun q => q.elim (fun h => absurd h.1 (nn rfl)) (fun q => q.elim (fun h => absurd h.1 (nn rfl)) (fun q => q.elim (fun h => absurd h.1 (nn rfl)) (fun h => absurd h.1 (nn rfl)))))))).trans (up_c (nn rfl)))).trans (hH j)) hU (rt_i1 ⟨by first | (clear h_1 h_2 h_3 h_4 h_5 h_6 h_7 h_8 h_9 h_10 h_13 h_29 h_28 h_31 h_35 h_36 h_37 h_38 h_40 h_41 h_47 h_48 h_49 h_50 h_51 h_46 h_62 h_32; omega) | omega, by first | (clear h_1 h_2 h_3 h_4 h_5 h_6 h_7 h_8 h_9 h_10 h_13 h_29 h_28 h_31 h_35 h_36 h_37 h_38 h_40 h_41 h_47 h_48 h_49 h_51 h_62 h_32; omega) | omega, by first | (clear h_1 h_2 h_3 h_4 h_5 h_6 h_7 h_8 h_9 h_10 h_13 h_29 h_28 h_31 h_35 h_36 h_37 h_38 h_40 h_41 h_47 h_48 h_50 h_51 h_62 h_32; omega) | omega, by first | (clear h_1 h_2 h_3 h_4 h_5 h_6 h_7 h_8 h_9 h_10 h_13 h_29 h_28 h_31 h_35 h_36 h_37 h_38 h_40 h_41 h_47 h_48 h_49 h_50 h_51 h_46 h_62 h_32; omega) | omega⟩) hG_30 (fun c_65 hI_66 hF_67 hR_69 h_70 h_71 hA_72 => ?_)
      have h_73 : (up c_43 41 34 0) 41 34 = 0 := (up_e rfl)
      have h_74 := ir_41_34 hI_66
      have h_75 := ir_1_2 hI_26
      have h_76 := ir_41_7 hI_66
      refine q_aload_n rfl rfl ?_
      refine q_iconst rfl ?_
      refine v_cv rfl rfl rfl rfl (by decide) ⟨⟨rfl, rfl⟩, by decide, rfl⟩ (Nat.le_of_ble_eq_true rfl) (Nat.le_of_ble_eq_true rfl) ?_
      refine q_aload_n rfl rfl ?_
      refine q_aload_n rfl rfl ?_
      have h_77 := ir_41_5 hI_66
      have h_78 := ir_41_4 hI_66
      have h_79 := ir_41_6 hI_66
      have h_80 := rt_bad hR_69 (by omega)
      have hrb_hR_69 := rt_bad hR_69 (by omega)
      refine v_gi (z := 5) (v := c_25 1 5) rfl rfl rfl (by decide) rfl rfl hrb_hR_69.2.1 ?_
      refine v_pi (z := 8) rfl rfl rfl (by decide) rfl rfl rfl (by decide) ?_
      refine q_aload_n rfl rfl ?_
      refine v_cv rfl rfl rfl rfl (by decide) ⟨⟨rfl, rfl⟩, by decide, rfl⟩ (Nat.le_of_ble_eq_true rfl) (Nat.le_of_ble_eq_true rfl) ?_
      refine q_aload_n rfl rfl ?_
      refine v_gi (z := 5) (v := c_25 1 5) rfl rfl rfl (by decide) rfl rfl (((up_n (by decide))).trans (hrb_hR_69.2.1)) ?_
      refine q_iconst rfl ?_
      refine v_ic_ne_t (t := 12) rfl (by decide) ⟨by first | (clear h_1 h_2 h_3 h_4 h_5 h_6 h_7 h_8 h_9 h_10 h_13 h_29 h_28 h_31 h_35 h_37 h_40 h_41 h_47 h_48 h_49 h_50 h_51 h_46 h_62 h_74 h_75 h_76 h_71 h_77 h_78 h_79 h_32 h_70; omega) | omega, ⟨(Int.le_trans (by decide) h_36.1), (Int.le_trans h_36.2 (by decide))⟩, by decide, by decide⟩ ?_
      refine q_iconst rfl ?_
      refine v_zret rfl rfl (by decide) ?_
      refine bk_inl ?_
      refine v_if_eq_t (t := 19) rfl (by decide) (by decide) ?_
      refine q_aload_n rfl rfl ?_
      refine v_gi (z := 6) (v := c_25 1 4) rfl rfl rfl (by decide) rfl rfl (((up_n (by decide))).trans (hrb_hR_69.2.2.2)) ?_
      refine v_bip rfl (by decide) ?_
      refine v_isub (v := c_25 1 4 - 10) rfl rfl ?_
      refine q_iret rfl rfl ?_
      refine bk_inl ?_
      refine q_istore_n rfl (by decide) ?_
      refine q_aload_n rfl rfl ?_
      refine v_gi (z := 5) (v := c_25 1 5) rfl rfl rfl (by decide) rfl rfl (((up_n (by decide))).trans (hrb_hR_69.2.1)) ?_
      refine q_iconst rfl ?_
      refine v_ic_eq_f (t := 105) rfl (by decide) ⟨by first | (clear h_1 h_2 h_3 h_4 h_5 h_6 h_7 h_8 h_9 h_10 h_13 h_29 h_28 h_31 h_35 h_37 h_40 h_41 h_47 h_48 h_49 h_50 h_51 h_46 h_62 h_74 h_75 h_76 h_71 h_77 h_78 h_79 h_32 h_70; omega) | omega, ⟨(Int.le_trans (by decide) h_36.1), (Int.le_trans h_36.2 (by decide))⟩, by decide, by decide⟩ ?_
      refine q_iload_n rfl rfl ?_
      refine q_iret rfl rfl ?_
      have hI_81 := iw_41_8 (v := c_25 1 5) hI_66 ⟨h_36.1, (Int.le_trans h_36.2 (by decide))⟩
      have kn_82 : Hid (c_65 41 2 = c_43 41 2) := (hF_67 41 2 (fun q => q.elim (fun h => absurd h.2 (ni rfl)) (fun q => q.elim (fun h => absurd h.2 (ni rfl)) (fun q => q.elim (fun h => absurd h.2 (ni rfl)) (fun q => q.elim (fun h => absurd h.2 (ni rfl)) (fun q => q.elim (fun h => absurd h.2 (ni rfl)) (fun h => absurd h.1 (nn rfl)))))))).trans (up_n (by decide))
      have h_83 : (up c_65 41 8 (c_25 1 5)) 41 2 = c_43 41 2 := ((up_n (by decide)).trans (hid kn_82))
      have h_84 : (up c_65 41 8 (c_25 1 5)) 41 8 = c_25 1 5 := (up_e rfl)
      have kn_85 : Hid (c_43 41 0 = 0) := (hF_45 41 0 (fun q => q.elim (fun h => absurd h.2 (ni rfl)) (fun q => q.elim (fun h => absurd h.2 (ni rfl)) (fun q => q.elim (fun h => absurd h.2 (ni rfl)) (fun q => q.elim (fun h => absurd h.2 (ni rfl)) (fun q => q.elim (fun h => absurd h.2 (ni rfl)) (fun h => absurd h.2 (ni rfl)))))))).trans (up_e rfl)
      have kn_86 : Hid (c_65 41 0 = 0) := (hF_67 41 0 (fun q => q.elim (fun h => absurd h.2 (ni rfl)) (fun q => q.elim (fun h => absurd h.2 (ni rfl)) (fun q => q.elim (fun h => absurd h.2 (ni rfl)) (fun q => q.elim (fun h => absurd h.2 (ni rfl)) (fun q => q.elim (fun h => absurd h.2 (ni rfl)) (fun h => absurd h.1 (nn rfl)))))))).trans ((up_n (by decide)).trans (hid kn_85))
      have h_87 : (up c_65 41 8 (c_25 1 5)) 41 0 = 0 := ((up_n (by decide)).trans (hid kn_86))
      have kn_88 : Hid (c_65 41 35 = wk) := (hF_67 41 35 (fun q => q.elim (fun h => absurd h.2 (ni rfl)) (fun q => q.elim (fun h => absurd h.2 (ni rfl)) (fun q => q.elim (fun h => absurd h.2 (ni rfl)) (fun q => q.elim (fun h => absurd h.2 (ni rfl)) (fun q => q.elim (fun h => absurd h.2 (ni rfl)) (fun h => absurd h.1 (nn rfl)))))))).trans ((up_n (by decide)).trans (hid kn_52))
      have h_89 : (up c_65 41 8 (c_25 1 5)) 41 35 = wk := ((up_n (by decide)).trans (hid kn_88))
      exact K (up c_65 41 8 (c_25 1 5)) (c_25 1 4 - 10) hI_81 (fun a j hm => (up_b (Decidable.or_iff_not_imp_left.mpr (fun h1 h2 => hm (Or.inr (Or.inr (Or.inr (Or.inr (Or.inr (Or.inr (Or.inr (Or.inr (Or.inl ⟨Decidable.not_not.mp h1, h2⟩)))))))))))).trans ((hF_67 a j (fun q => q.elim (fun h => hm (Or.inr (Or.inr (Or.inr (Or.inr (Or.inl h)))))) (fun q => q.elim (fun h => hm (Or.inr (Or.inr (Or.inr (Or.inr (Or.inr (Or.inl h))))))) (fun q => q.elim (fun h => hm (Or.inr (Or.inr (Or.inr (Or.inr (Or.inr (Or.inr (Or.inl h)))))))) (fun q => q.elim (fun h => hm (Or.inr (Or.inr (Or.inr (Or.inr (Or.inr (Or.inr (Or.inr (Or.inl h))))))))) (fun q => q.elim (fun h => hm (Or.inr (Or.inr (Or.inr (Or.inr (Or.inr (Or.inr (Or.inr (Or.inr (Or.inr (Or.inl h))))))))))) (fun h => hm (Or.inr (Or.inr (Or.inr (Or.inr (Or.inr (Or.inr (Or.inr (Or.inr (Or.inr (Or.inr (Or.inl h.1)))))))))))))))))).trans ((up_b (Decidable.or_iff_not_imp_left.mpr (fun h1 h2 => hm (Or.inr (Or.inr (Or.inr (Or.inr (Or.inr (Or.inr (Or.inr (Or.inr (Or.inr (Or.inl ⟨Decidable.not_not.mp h1, h2⟩))))))))))))).trans ((hF_45 a j (fun q => q.elim (fun h => hm (Or.inr (Or.inr (Or.inl h)))) (fun q => q.elim (fun h => hm (Or.inr (Or.inr (Or.inr (Or.inl h))))) (fun q => q.elim (fun h => hm (Or.inr (Or.inr (Or.inr (Or.inr (Or.inl h)))))) (fun q => q.elim (fun h => hm (Or.inr (Or.inr (Or.inr (Or.inr (Or.inr (Or.inl h))))))) (fun q => q.elim (fun h => hm (Or.inr (Or.inr (Or.inr (Or.inr (Or.inr (Or.inr (Or.inr (Or.inl h))))))))) (fun h => hm (Or.inr (Or.inr (Or.inr (Or.inr (Or.inr (Or.inr (Or.inr (Or.inr (Or.inl h)))))))))))))))).trans (up_b (Decidable.or_iff_not_imp_left.mpr (fun h1 h2 => hm (Or.inl ⟨Decidable.not_not.mp h1, h2⟩)))))))) ⟨by omega, by omega⟩ (by first | (clear h_1 h_2 h_3 h_4 h_5 h_6 h_7 h_8 h_9 h_10 h_13 h_29 h_28 h_31 h_35 h_36 h_37 h_38 h_40 h_41 h_48 h_49 h_50 h_51 h_62 h_74 h_75 h_76 h_71 h_77 h_78 h_79 h_80 h_32 h_70; omega) | omega) (by first | (clear h_1 h_2 h_3 h_4 h_5 h_6 h_7 h_8 h_9 h_10 h_13 h_29 h_28 h_31 h_35 h_40 h_41 h_47 h_48 h_49 h_50 h_51 h_46 h_62 h_74 h_75 h_76 h_71 h_77 h_78 h_79 h_32 h_70; omega) | omega) (by first | (clear h_1 h_2 h_3 h_4 h_5 h_6 h_7 h_8 h_9 h_10 h_13 h_29 h_28 h_31 h_35 h_36 h_37 h_38 h_40 h_41 h_47 h_48 h_49 h_50 h_51 h_46 h_62 h_74 h_75 h_76 h_71 h_77 h_78 h_79 h_80 h_32 h_70; omega) | omega) (by first | (clear h_1 h_2 h_5 h_6 h_7 h_8 h_9 h_10 h_29 h_28 h_31 h_35 h_36 h_37 h_38 h_47 h_48 h_49 h_50 h_51 h_46 h_62 h_74 h_75 h_76 h_71 h_77 h_78 h_79 h_80 h_32 h_70; omega) | omega)
    · refine v_if_ne_f (t := 11) rfl (by decide) (Decidable.not_not.mp h_32) ?_
      refine q_iconst rfl ?_
      refine q_goto (t := 12) rfl (by decide) ?_
      refine v_zret rfl rfl (by decide) ?_
      refine bk_inl ?_
      refine v_if_eq_f (t := 88) rfl (by decide) (by decide) ?_
      refine q_aload_n rfl rfl ?_
      refine v_gr (t := 3) rfl rfl rfl (by decide) rfl ?_
      refine q_aload_n rfl rfl ?_
      refine v_gr (t := 37) rfl rfl rfl (by decide) rfl ?_
      have kn_90 : Hid (c_25 3 3 = wk) := (hF_27 3 3 (fun q => q.elim (fun h => absurd h.1 (nn rfl)) (fun q => q.elim (fun h => absurd h.1 (nn rfl)) (fun q => q.elim (fun h => absurd h.1 (nn rfl)) (fun q => q.elim (fun h => absurd h.1 (nn rfl)) (fun h => absurd h.1 (nn rfl))))))).trans ((up_c (nn rfl)).trans ((up_c (nn rfl)).trans ((up_c (nn rfl)).trans ((up_c (nn rfl)).trans ((up_c (nn rfl)).trans ((up_c (nn rfl)).trans ((up_c (nn rfl)).trans ((up_c (nn rfl)).trans ((up_c (nn rfl)).trans (hg_wk))))))))))
      have h_91 : c_25 3 3 = wk := (hid kn_90)
      refine v_cv rfl rfl rfl rfl (by decide) ⟨⟨rfl, rfl⟩, by decide, rfl⟩ (Nat.le_of_ble_eq_true rfl) (Nat.le_of_ble_eq_true rfl) (s_24 hI_26 (fun c_92 hI_93 hF_94 h_95 => ?_))
      refine bk_inl ?_
      have h_96 := ir_3_3 hI_93
      refine q_aload_n rfl rfl ?_
      refine v_gr (t := 7) rfl rfl rfl (by decide) rfl ?_
      refine q_aload_n rfl rfl ?_
      refine v_gr (t := 37) rfl rfl rfl (by decide) rfl ?_
      refine q_iconst rfl ?_
      refine q_aload_n rfl rfl ?_
      refine v_gr (t := 7) rfl rfl rfl (by decide) rfl ?_
      have kn_97 : Hid (c_92 7 2 = c_25 7 2) := hF_94 7 2 (fun q => q.elim (fun h => absurd h.1 (nn rfl)) (fun h => absurd h (nn rfl)))
      refine v_gi (z := 2) (v := c_25 7 2) rfl rfl rfl (by decide) rfl rfl (hid kn_97) ?_
      refine q_iconst rfl ?_
      have kn_98 : Hid (c_25 7 1 = 0) := (hF_27 7 1 (fun q => q.elim (fun h => absurd h.1 (nn rfl)) (fun q => q.elim (fun h => absurd h.1 (nn rfl)) (fun q => q.elim (fun h => absurd h.1 (nn rfl)) (fun q => q.elim (fun h => absurd h.2 (ni rfl)) (fun h => absurd h.1 (nn rfl))))))).trans ((up_n (by decide)).trans ((up_n (by decide)).trans ((up_n (by decide)).trans (up_e rfl))))
      have kn_99 : Hid (c_92 7 1 = 0) := (hF_94 7 1 (fun q => q.elim (fun h => absurd h.1 (nn rfl)) (fun h => absurd h (nn rfl)))).trans (hid kn_98)
      have h_100 : c_92 7 1 = 0 := (hid kn_99)
      refine v_cv rfl rfl rfl rfl (by decide) ⟨⟨rfl, rfl⟩, by decide, rfl⟩ (Nat.le_of_ble_eq_true rfl) (Nat.le_of_ble_eq_true rfl) (r_63 (a2 := 0) (a3 := c_25 7 2) (a4 := 0) hI_93 (show 0 ≤ 0 ∧ 0 ≤ 38 from ⟨by decide, by decide⟩) (show 0 ≤ c_25 7 2 ∧ c_25 7 2 ≤ 38 from h_29) (show 0 ≤ 0 ∧ 0 ≤ 7 from ⟨by decide, by decide⟩) (fun c_101 hI_102 hF_103 h_104 => ?_))
      refine bk_inl ?_
      have h_105 := ir_7_1 hI_102
      refine q_aload_n rfl rfl ?_
      refine q_aload_n rfl rfl ?_
      refine v_gr (t := 7) rfl rfl rfl (by decide) rfl ?_
      have h_106 := ir_7_4 hI_102
      refine v_gi (z := 4) (v := c_101 7 4) rfl rfl rfl (by decide) rfl rfl rfl ?_
      refine v_pi (z := 11) rfl rfl rfl (by decide) rfl rfl rfl (by decide) ?_
      refine q_aload_n rfl rfl ?_
      refine q_aload_n rfl rfl ?_
      refine v_gr (t := 7) rfl rfl rfl (by decide) rfl ?_
      have h_107 := ir_7_3 hI_102
      refine v_gi (z := 3) (v := c_101 7 3) rfl rfl rfl (by decide) rfl rfl (up_c (nn rfl)) ?_
      refine v_cv rfl rfl rfl rfl (by decide) ⟨⟨rfl, rfl⟩, by decide, rfl⟩ (Nat.le_of_ble_eq_true rfl) (Nat.le_of_ble_eq_true rfl) ?_
      refine q_aload_n rfl rfl ?_
      refine v_gr (t := 1) rfl rfl rfl (by decide) rfl ?_
      refine v_cv rfl rfl rfl rfl (by decide) ⟨⟨rfl, rfl⟩, by decide, rfl⟩ (Nat.le_of_ble_eq_true rfl) (Nat.le_of_ble_eq_true rfl) ?_
      refine q_aload_n rfl rfl ?_
      have kn_108 : Hid (c_92 1 4 = c_25 1 4) := hF_94 1 4 (fun q => q.elim (fun h => absurd h.1 (nn rfl)) (fun h => absurd h (nn rfl)))
      have kn_109 : Hid (c_101 1 4 = c_25 1 4) := (hF_103 1 4 (fun q => q.elim (fun h => absurd h.1 (nn rfl)) (fun q => q.elim (fun h => absurd h.1 (nn rfl)) (fun q => q.elim (fun h => absurd h.1 (nn rfl)) (fun q => q.elim (fun h => absurd h (nn rfl)) (fun q => q.elim (fun h => absurd h (pn hP rfl rfl)) (fun h => absurd h (pn hP rfl rfl)))))))).trans (hid kn_108)
      refine v_gi (z := 4) (v := c_25 1 4) rfl rfl rfl (by decide) rfl rfl ((up_c (nn rfl)).trans (hid kn_109)) ?_
      refine v_if_ne_f (t := 11) rfl (by decide) (by first | (clear h_1 h_2 h_3 h_4 h_5 h_6 h_7 h_8 h_9 h_10 h_13 h_29 h_28 h_31 h_96 h_105 h_104 h_106 h_107 h_95; omega) | omega) ?_
      refine q_iconst rfl ?_
      refine q_goto (t := 12) rfl (by decide) ?_
      refine v_zret rfl rfl (by decide) ?_
      refine bk_inl ?_
      refine v_if_eq_f (t := 14) rfl (by decide) (by decide) ?_
      refine q_iload_n rfl rfl ?_
      refine q_goto (t := 24) rfl (by decide) ?_
      refine q_iret rfl rfl ?_
      refine bk_inl ?_
      refine q_iret rfl rfl ?_
      have hI_110 := iw_0_11 (v := c_101 7 4) hI_102 ⟨h_106.1, h_106.2⟩
      intro hE_111
      have h_112 : yg = c_101 7 3 := (vi_inj ⟨by omega, by omega⟩ ⟨by omega, by omega⟩ (Option.some.inj (Sum.inl.inj (Prod.mk.inj hE_111).1))).symm
      have hW : Wd P Q P P (up c_101 0 11 (c_101 7 4)) = Wd P Q P P m9 := (Prod.mk.inj (Prod.mk.inj hE_111).2).1
      have h_113 := ir_1_5 hI_26
      have kn_114 : Hid (c_92 1 5 = c_25 1 5) := hF_94 1 5 (fun q => q.elim (fun h => absurd h.1 (nn rfl)) (fun h => absurd h (nn rfl)))
      have kn_115 : Hid (c_101 1 5 = c_25 1 5) := (hF_103 1 5 (fun q => q.elim (fun h => absurd h.1 (nn rfl)) (fun q => q.elim (fun h => absurd h.1 (nn rfl)) (fun q => q.elim (fun h => absurd h.1 (nn rfl)) (fun q => q.elim (fun h => absurd h (nn rfl)) (fun q => q.elim (fun h => absurd h (pn hP rfl rfl)) (fun h => absurd h (pn hP rfl rfl)))))))).trans (hid kn_114)
      have h_116 := ir_1_5 hJ9
      have h_117 : m9 1 5 = c_25 1 5 := wd_fv (z := 5) 5 rfl hW rfl rfl rfl rfl (by decide) ((up_c (nn rfl)).trans (hid kn_115)) ⟨by first | (clear h_1 h_2 h_3 h_4 h_5 h_6 h_7 h_8 h_9 h_10 h_13 h_29 h_28 h_31 h_96 h_105 h_104 h_106 h_107 h_112 h_116 h_95; omega) | omega, by first | (clear h_1 h_2 h_3 h_4 h_5 h_6 h_7 h_8 h_9 h_10 h_13 h_29 h_28 h_31 h_96 h_105 h_104 h_106 h_107 h_112 h_116 h_95; omega) | omega⟩ ⟨(Int.le_trans (by decide) h_116.1), (Int.le_trans h_116.2 (by decide))⟩
      have kn_118 : Hid (c_101 3 3 = c_92 3 3) := hF_103 3 3 (fun q => q.elim (fun h => absurd h.1 (nn rfl)) (fun q => q.elim (fun h => absurd h.1 (nn rfl)) (fun q => q.elim (fun h => absurd h.1 (nn rfl)) (fun q => q.elim (fun h => absurd h (nn rfl)) (fun q => q.elim (fun h => absurd h (pn hP rfl rfl)) (fun h => absurd h (pn hP rfl rfl)))))))
      have h_119 := ir_3_3 hJ9
      have h_120 : m9 3 3 = c_92 3 3 := wd_fv (z := 3) 3 rfl hW rfl rfl rfl rfl (by decide) ((up_c (nn rfl)).trans (hid kn_118)) ⟨(Int.le_trans (by decide) h_96.1), (Int.le_trans h_96.2 (by decide))⟩ ⟨(Int.le_trans (by decide) h_119.1), (Int.le_trans h_119.2 (by decide))⟩
      refine q_aload_n rfl rfl ?_
      refine q_iconst rfl ?_
      refine v_pi (z := 0) rfl rfl rfl (by decide) rfl rfl rfl (by decide) ?_
      refine q_aload_n rfl rfl ?_
      refine q_iload_n rfl rfl ?_
      refine v_if_lt_f (t := 29) rfl (by decide) ⟨by decide, by first | (clear h_1 h_2 h_3 h_4 h_5 h_6 h_7 h_8 h_9 h_10 h_13 h_29 h_28 h_31 h_96 h_105 h_104 h_106 h_107 h_112 h_113 h_116 h_117 h_119 h_120 h_95; omega) | omega, ha1.2⟩ ?_
      refine q_iload_n rfl rfl ?_
      refine q_aload_n rfl rfl ?_
      refine v_gi (z := 2) (v := t9) rfl rfl rfl (by decide) rfl rfl ((up_n (by decide)).trans (hr_t9)) ?_
      refine v_ic_gt_f (t := 29) rfl (by decide) ⟨ha1.1, by first | (clear h_1 h_2 h_3 h_4 h_5 h_6 h_7 h_8 h_9 h_10 h_13 h_29 h_28 h_31 h_96 h_105 h_104 h_106 h_107 h_112 h_113 h_116 h_117 h_119 h_120 h_95; omega) | omega, by first | (clear h_3 h_4 h_5 h_6 h_7 h_8 h_9 h_10 h_13 h_29 h_28 h_31 h_96 h_105 h_104 h_106 h_107 h_112 h_113 h_116 h_117 h_119 h_120 h_95; omega) | omega⟩ ?_
      refine q_iload_n rfl rfl ?_
      refine v_sip rfl (by decide) ?_
      refine v_ic_gt_f (t := 29) rfl (by decide) ⟨ha1.1, by first | (clear h_1 h_2 h_3 h_4 h_5 h_6 h_7 h_8 h_9 h_10 h_13 h_29 h_28 h_31 h_96 h_105 h_104 h_106 h_107 h_112 h_113 h_116 h_117 h_119 h_120 h_95; omega) | omega, by decide⟩ ?_
      refine q_iconst rfl ?_
      refine q_goto (t := 30) rfl (by decide) ?_
      refine q_iconst rfl ?_
      refine q_iconst rfl ?_
      refine v_cv rfl rfl rfl rfl (by decide) ⟨⟨rfl, rfl⟩, by decide, rfl⟩ (Nat.le_of_ble_eq_true rfl) (Nat.le_of_ble_eq_true rfl) ?_
      refine q_iload_n rfl rfl ?_
      refine v_if_ne_t (t := 26) rfl (by decide) (by decide) ?_
      refine q_aload_n rfl rfl ?_
      refine v_gi (z := 0) (v := 0) rfl rfl rfl (by decide) rfl rfl (up_e rfl) ?_
      refine v_if_ne_f (t := 37) rfl (by decide) (by decide) ?_
      refine q_iconst rfl ?_
      refine q_goto (t := 38) rfl (by decide) ?_
      refine v_zret rfl rfl (by decide) ?_
      refine bk_inl ?_
      refine v_if_ne_t (t := 40) rfl (by decide) (by decide) ?_
      refine q_aload_n rfl rfl ?_
      refine q_iload_n rfl rfl ?_
      have hI_121 := iw_41_0 (v := 0) hI ⟨by decide, by decide⟩
      refine v_cv rfl rfl rfl rfl (by decide) ⟨⟨rfl, rfl⟩, by decide, rfl⟩ (Nat.le_of_ble_eq_true rfl) (Nat.le_of_ble_eq_true rfl) (s_163 (a1 := a1) hI_121 (show 0 ≤ a1 ∧ a1 ≤ 600 from ⟨by first | (clear h_1 h_2 h_3 h_4 h_5 h_6 h_7 h_8 h_9 h_10 h_13 h_29 h_28 h_31 h_96 h_105 h_104 h_106 h_107 h_112 h_113 h_116 h_117 h_119 h_120 h_95; omega) | omega, by first | (clear h_1 h_2 h_3 h_4 h_5 h_6 h_7 h_8 h_9 h_10 h_13 h_29 h_28 h_31 h_96 h_105 h_104 h_106 h_107 h_112 h_113 h_116 h_117 h_119 h_120 h_95; omega) | omega⟩) (fun c_122 hI_123 hF_124 h_125 => ?_))
      refine bk_inl ?_
      have h_126 := ir_41_2 hI_123
      have h_127 := ir_41_3 hI_123
      have h_128 := ir_41_4 hI_123
      have h_129 := ir_41_5 hI_123
      have h_130 := ir_41_7 hI_123
      refine q_aload_n rfl rfl ?_
      have kn_131 : Hid (c_122 41 35 = wk) := (hF_124 41 35 (fun q => q.elim (fun h => absurd h.2 (ni rfl)) (fun q => q.elim (fun h => absurd h.2 (ni rfl)) (fun q => q.elim (fun h => absurd h.2 (ni rfl)) (fun q => q.elim (fun h => absurd h.2 (ni rfl)) (fun q => q.elim (fun h => absurd h.2 (ni rfl)) (fun h => absurd h.2 (ni rfl)))))))).trans ((up_n (by decide)).trans (hr_wk))
      refine v_gi (z := 35) (v := wk) rfl rfl rfl (by decide) rfl rfl (hid kn_131) ?_
      refine v_bip rfl (by decide) ?_
      refine v_ic_ne_t (t := 63) rfl (by decide) ⟨by first | (clear h_1 h_2 h_5 h_6 h_7 h_8 h_9 h_10 h_29 h_28 h_31 h_96 h_105 h_104 h_106 h_107 h_112 h_113 h_116 h_117 h_119 h_120 h_126 h_127 h_128 h_129 h_130 h_125; omega) | omega, ⟨by first | (clear h_1 h_2 h_5 h_6 h_7 h_8 h_9 h_10 h_29 h_28 h_31 h_96 h_105 h_104 h_106 h_107 h_112 h_113 h_116 h_117 h_119 h_120 h_126 h_127 h_128 h_129 h_130 h_125; omega) | omega, by first | (clear h_1 h_2 h_5 h_6 h_7 h_8 h_9 h_10 h_29 h_28 h_31 h_96 h_105 h_104 h_106 h_107 h_112 h_113 h_116 h_117 h_119 h_120 h_126 h_127 h_128 h_129 h_130 h_125; omega) | omega⟩, by decide, by decide⟩ ?_
      refine q_aload_n rfl rfl ?_
      refine q_iconst rfl ?_
      refine v_pi (z := 34) rfl rfl rfl (by decide) rfl rfl rfl (by decide) ?_
      refine Wp_ls [(0, .ref 41), (1, vi a1)] (lsub_cons rfl (lsub_cons rfl lsub_nil)) ?_
      have hI_132 := iw_41_34 (v := 0) hI_123 ⟨by decide, by decide⟩
      have kn_133 : Hid (c_122 41 20 = n0) := (hF_124 41 20 (fun q => q.elim (fun h => absurd h.2 (ni rfl)) (fun q => q.elim (fun h => absurd h.2 (ni rfl)) (fun q => q.elim (fun h => absurd h.2 (ni rfl)) (fun q => q.elim (fun h => absurd h.2 (ni rfl)) (fun q => q.elim (fun h => absurd h.2 (ni rfl)) (fun h => absurd h.2 (ni rfl)))))))).trans ((up_n (by decide)).trans (hr_n0))
      have kn_134 : Hid (c_122 41 21 = n1) := (hF_124 41 21 (fun q => q.elim (fun h => absurd h.2 (ni rfl)) (fun q => q.elim (fun h => absurd h.2 (ni rfl)) (fun q => q.elim (fun h => absurd h.2 (ni rfl)) (fun q => q.elim (fun h => absurd h.2 (ni rfl)) (fun q => q.elim (fun h => absurd h.2 (ni rfl)) (fun h => absurd h.2 (ni rfl)))))))).trans ((up_n (by decide)).trans (hr_n1))
      have kn_135 : Hid (c_122 41 22 = n2) := (hF_124 41 22 (fun q => q.elim (fun h => absurd h.2 (ni rfl)) (fun q => q.elim (fun h => absurd h.2 (ni rfl)) (fun q => q.elim (fun h => absurd h.2 (ni rfl)) (fun q => q.elim (fun h => absurd h.2 (ni rfl)) (fun q => q.elim (fun h => absurd h.2 (ni rfl)) (fun h => absurd h.2 (ni rfl)))))))).trans ((up_n (by decide)).trans (hr_n2))
      have h_136 : (up (up (up (up (up (up (up (up (up m 1 1 y_12) 1 2 0) 1 3 0) 1 4 0) 1 5 (-1)) 7 1 0) 7 2 0) 7 3 0) 7 4 0) 1 4 = 0 := ((up_c (nn rfl)).trans ((up_c (nn rfl)).trans ((up_c (nn rfl)).trans ((up_c (nn rfl)).trans ((up_n (by decide)).trans (up_e rfl))))))
      have h_137 : (up (up (up (up (up (up (up (up (up m 1 1 y_12) 1 2 0) 1 3 0) 1 4 0) 1 5 (-1)) 7 1 0) 7 2 0) 7 3 0) 7 4 0) 1 2 = 0 := ((up_c (nn rfl)).trans ((up_c (nn rfl)).trans ((up_c (nn rfl)).trans ((up_c (nn rfl)).trans ((up_n (by decide)).trans ((up_n (by decide)).trans ((up_n (by decide)).trans (up_e rfl))))))))
      have h_138 : (up (up (up (up (up (up (up (up (up m 1 1 y_12) 1 2 0) 1 3 0) 1 4 0) 1 5 (-1)) 7 1 0) 7 2 0) 7 3 0) 7 4 0) 1 5 = (-1) := ((up_c (nn rfl)).trans ((up_c (nn rfl)).trans ((up_c (nn rfl)).trans ((up_c (nn rfl)).trans (up_e rfl)))))
      have h_139 : (up c_122 41 34 0) 41 5 = c_122 41 5 := (up_n (by decide))
      have h_140 : (up c_122 41 34 0) 41 4 = c_122 41 4 := (up_n (by decide))
      have h_141 := ir_41_6 hI
      have kn_142 : Hid (c_122 41 6 = c 41 6) := (hF_124 41 6 (fun q => q.elim (fun h => absurd h.2 (ni rfl)) (fun q => q.elim (fun h => absurd h.2 (ni rfl)) (fun q => q.elim (fun h => absurd h.2 (ni rfl)) (fun q => q.elim (fun h => absurd h.2 (ni rfl)) (fun q => q.elim (fun h => absurd h.2 (ni rfl)) (fun h => absurd h.2 (ni rfl)))))))).trans (up_n (by decide))
      have h_143 : (up c_122 41 34 0) 41 6 = c 41 6 := ((up_n (by decide)).trans (hid kn_142))
      refine L_41t (m := up (up (up (up (up (up (up (up (up m 1 1 y_12) 1 2 0) 1 3 0) 1 4 0) 1 5 (-1)) 7 1 0) 7 2 0) 7 3 0) 7 4 0) (a1 := a1) (e1 := y_12) (f0 := 0) (g0 := (-1)) (p0 := 0) (n0 := n0) (n1 := n1) (n2 := n2) (ns0 := 0) (r0 := 0) (o0 := c_122 41 7) (F := F) (H := H) hI_132 hI_22 hI_26 (show (-2147483648) ≤ a1 ∧ a1 ≤ 2147483647 from ha1) (by first | (clear h_1 h_2 h_3 h_4 h_5 h_6 h_7 h_8 h_9 h_10 h_13 h_29 h_28 h_31 h_96 h_105 h_104 h_106 h_107 h_112 h_113 h_116 h_117 h_119 h_120 h_126 h_127 h_128 h_129 h_130 h_125 h_95; omega) | omega) (by first | (clear h_1 h_2 h_3 h_4 h_5 h_6 h_7 h_8 h_9 h_10 h_13 h_29 h_28 h_31 h_96 h_105 h_104 h_106 h_107 h_112 h_113 h_116 h_117 h_119 h_120 h_126 h_127 h_128 h_129 h_130 h_125 h_95; omega) | omega) (by first | (clear h_1 h_2 h_3 h_4 h_5 h_6 h_7 h_8 h_9 h_10 h_13 h_29 h_28 h_31 h_96 h_105 h_104 h_106 h_107 h_112 h_113 h_116 h_117 h_119 h_120 h_126 h_127 h_128 h_129 h_130 h_125 h_95; omega) | omega) (by first | (clear h_1 h_2 h_3 h_4 h_5 h_6 h_7 h_8 h_9 h_10 h_13 h_29 h_28 h_31 h_96 h_105 h_104 h_106 h_107 h_112 h_113 h_116 h_117 h_119 h_120 h_126 h_127 h_128 h_129 h_130 h_125 h_95; omega) | omega) (by first | (clear h_1 h_2 h_3 h_4 h_5 h_6 h_7 h_8 h_9 h_10 h_13 h_29 h_28 h_31 h_96 h_105 h_104 h_106 h_107 h_112 h_113 h_116 h_117 h_119 h_120 h_126 h_127 h_128 h_129 h_130 h_125 h_95; omega) | omega) (by first | (clear h_1 h_2 h_3 h_4 h_5 h_6 h_7 h_8 h_9 h_10 h_13 h_29 h_28 h_31 h_96 h_105 h_104 h_106 h_107 h_112 h_113 h_116 h_117 h_119 h_120 h_126 h_127 h_128 h_129 h_130 h_125 h_95; omega) | omega) (by first | (clear h_1 h_2 h_3 h_4 h_5 h_6 h_7 h_8 h_9 h_10 h_13 h_29 h_28 h_31 h_96 h_105 h_104 h_106 h_107 h_112 h_113 h_116 h_117 h_119 h_120 h_126 h_127 h_128 h_129 h_95; omega) | omega) (((up_c (nn rfl)).trans ((up_c (nn rfl)).trans ((up_c (nn rfl)).trans ((up_c (nn rfl)).trans ((up_n (by decide)).trans ((up_n (by decide)).trans ((up_n (by decide)).trans ((up_n (by decide)).trans (up_e rfl)))))))))) (((show _ = c_122 41 3 from (up_n (by decide))).trans (by omega))) (((up_c (nn rfl)).trans ((up_c (nn rfl)).trans ((up_c (nn rfl)).trans ((up_c (nn rfl)).trans ((up_n (by decide)).trans (up_e rfl))))))) (((up_c (nn rfl)).trans ((up_c (nn rfl)).trans ((up_c (nn rfl)).trans ((up_c (nn rfl)).trans (up_e rfl)))))) (((up_c (nn rfl)).trans ((up_c (nn rfl)).trans ((up_c (nn rfl)).trans ((up_c (nn rfl)).trans ((up_n (by decide)).trans ((up_n (by decide)).trans ((up_n (by decide)).trans (up_e rfl))))))))) (((up_c (np0 hP rfl)).trans ((up_c (np0 hP rfl)).trans ((up_c (np0 hP rfl)).trans ((up_c (np0 hP rfl)).trans ((up_c (np0 hP rfl)).trans ((up_c (np0 hP rfl)).trans ((up_c (np0 hP rfl)).trans ((up_c (np0 hP rfl)).trans ((up_c (np0 hP rfl)).trans (hg_n0))))))))))) (((up_n (by decide)).trans (hid kn_133))) (((up_c (np0 hP rfl)).trans ((up_c (np0 hP rfl)).trans ((up_c (np0 hP rfl)).trans ((up_c (np0 hP rfl)).trans ((up_c (np0 hP rfl)).trans ((up_c (np0 hP rfl)).trans ((up_c (np0 hP rfl)).trans ((up_c (np0 hP rfl)).trans ((up_c (np0 hP rfl)).trans (hg_n1))))))))))) (((up_n (by decide)).trans (hid kn_134))) (((up_c (np0 hP rfl)).trans ((up_c (np0 hP rfl)).trans ((up_c (np0 hP rfl)).trans ((up_c (np0 hP rfl)).trans ((up_c (np0 hP rfl)).trans ((up_c (np0 hP rfl)).trans ((up_c (np0 hP rfl)).trans ((up_c (np0 hP rfl)).trans ((up_c (np0 hP rfl)).trans (hg_n2))))))))))) (((up_n (by decide)).trans (hid kn_135))) (((up_n (by decide)).trans ((up_n (by decide)).trans (up_e rfl)))) ((up_e rfl)) ((up_n (by decide))) (fun j => ((up_c (nn rfl)).trans ((up_c (nn rfl)).trans ((up_c (nn rfl)).trans ((up_c (nn rfl)).trans ((up_c (nn rfl)).trans ((up_c (nn rfl)).trans ((up_c (nn rfl)).trans ((up_c (nn rfl)).trans (up_c (nn rfl)))))))))).trans (hF j)) (fun j => ((up_c (nn rfl)).trans ((hF_124 43 j (fun q => q.elim (fun h => absurd h.1 (nn rfl)) (fun q => q.elim (fun h => absurd h.1 (nn rfl)) (fun q => q.elim (fun h => absurd h.1 (nn rfl)) (fun q => q.elim (fun h => absurd h.1 (nn rfl)) (fun q => q.elim (fun h => absurd h.1 (nn rfl)) (fun h => absurd h.1 (nn rfl)))))))).trans (up_c (nn rfl)))).trans (hH j)) hU (rt_i1 ⟨by first | (clear h_1 h_2 h_3 h_4 h_5 h_6 h_7 h_8 h_9 h_10 h_13 h_29 h_28 h_31 h_96 h_105 h_104 h_106 h_107 h_112 h_113 h_116 h_117 h_119 h_120 h_126 h_127 h_128 h_129 h_130 h_125 h_141 h_95; omega) | omega, by first | (clear h_1 h_2 h_3 h_4 h_5 h_6 h_7 h_8 h_9 h_10 h_13 h_29 h_28 h_31 h_96 h_105 h_104 h_106 h_107 h_112 h_113 h_116 h_117 h_119 h_120 h_126 h_127 h_128 h_130 h_141 h_95; omega) | omega, by first | (clear h_1 h_2 h_3 h_4 h_5 h_6 h_7 h_8 h_9 h_10 h_13 h_29 h_28 h_31 h_96 h_105 h_104 h_106 h_107 h_112 h_113 h_116 h_117 h_119 h_120 h_126 h_127 h_129 h_130 h_141 h_95; omega) | omega, by first | (clear h_1 h_2 h_3 h_4 h_5 h_6 h_7 h_8 h_9 h_10 h_13 h_29 h_28 h_31 h_96 h_105 h_104 h_106 h_107 h_112 h_113 h_116 h_117 h_119 h_120 h_126 h_127 h_128 h_129 h_130 h_125 h_141 h_95; omega) | omega⟩) hG_30 (fun c_144 hI_145 hF_146 hR_148 h_149 h_150 hA_151 => ?_)
      have h_152 : (up c_122 41 34 0) 41 34 = 0 := (up_e rfl)
      have h_153 := ir_41_34 hI_145
      have h_154 := ir_1_2 hI_26
      have h_155 := ir_41_7 hI_145
      refine q_aload_n rfl rfl ?_
      refine q_iconst rfl ?_
      refine v_cv rfl rfl rfl rfl (by decide) ⟨⟨rfl, rfl⟩, by decide, rfl⟩ (Nat.le_of_ble_eq_true rfl) (Nat.le_of_ble_eq_true rfl) ?_
      refine q_aload_n rfl rfl ?_
      refine q_aload_n rfl rfl ?_
      have h_156 := ir_41_5 hI_145
      have h_157 := ir_41_4 hI_145
      have h_158 := ir_41_6 hI_145
      have h_159 := rt_ok hR_148 (by omega)
      have hro_hR_148 := rt_ok hR_148 (by omega)
      refine v_gi (z := 5) (v := (-1)) rfl rfl rfl (by decide) rfl rfl hro_hR_148.2.1 ?_
      refine v_pi (z := 8) rfl rfl rfl (by decide) rfl rfl rfl (by decide) ?_
      refine q_aload_n rfl rfl ?_
      refine v_cv rfl rfl rfl rfl (by decide) ⟨⟨rfl, rfl⟩, by decide, rfl⟩ (Nat.le_of_ble_eq_true rfl) (Nat.le_of_ble_eq_true rfl) ?_
      refine q_aload_n rfl rfl ?_
      refine v_gi (z := 5) (v := (-1)) rfl rfl rfl (by decide) rfl rfl (((up_n (by decide))).trans (hro_hR_148.2.1)) ?_
      refine q_iconst rfl ?_
      refine v_ic_ne_f (t := 12) rfl (by decide) (by decide) ?_
      refine q_iconst rfl ?_
      refine q_goto (t := 13) rfl (by decide) ?_
      refine v_zret rfl rfl (by decide) ?_
      refine bk_inl ?_
      refine v_if_eq_f (t := 19) rfl (by decide) (by decide) ?_
      refine q_iload_n rfl rfl ?_
      refine q_goto (t := 26) rfl (by decide) ?_
      refine q_iret rfl rfl ?_
      refine bk_inl ?_
      refine q_istore_n rfl (by decide) ?_
      refine q_aload_n rfl rfl ?_
      refine v_gi (z := 5) (v := (-1)) rfl rfl rfl (by decide) rfl rfl (((up_n (by decide))).trans (hro_hR_148.2.1)) ?_
      refine q_iconst rfl ?_
      refine v_ic_eq_t (t := 105) rfl (by decide) (by decide) ?_
      refine q_aload_n rfl rfl ?_
      refine q_aload_n rfl rfl ?_
      refine v_gr (t := 56) rfl rfl rfl (by decide) rfl ?_
      refine q_aload_n rfl rfl ?_
      refine v_gr (t := 57) rfl rfl rfl (by decide) rfl ?_
      refine q_aload_n rfl rfl ?_
      refine v_gi (z := 34) (v := c_144 41 34) rfl rfl rfl (by decide) rfl rfl (up_n (by decide)) ?_
      refine v_cv rfl rfl rfl rfl (by decide) ⟨⟨rfl, rfl⟩, by decide, rfl⟩ (Nat.le_of_ble_eq_true rfl) (Nat.le_of_ble_eq_true rfl) (s_148 (f := 56) (t := 57) (nf := 250) (nt := 250) (n := c_144 41 34) rfl rfl (by decide) (by decide) (by decide) (by decide) (by decide) (by omega) ?_)
      refine bk_inl ?_
      have hI_160 := iw_41_8 (v := (-1)) hI_145 ⟨by decide, by decide⟩
      have hA_162 : St n2 0 (c_25 7 2) ((up c_101 0 11 (c_101 7 4)) 8) ((up c_144 41 8 (-1)) 56) := st_fr (hA_151 (by omega)) (fun j h1 h2 => (up_c (nn rfl)).trans ((hF_103 8 j (by omega)).trans (hF_94 8 j (by omega)))) (fun j h1 h2 => up_c (nn rfl))
      have hI_161 := cp_56_57 (n := c_144 41 34) hI_160 (by omega) (st_ap hA_162 (by omega))
      have kn_163 : Hid (c_144 41 35 = wk) := (hF_146 41 35 (fun q => q.elim (fun h => absurd h.2 (ni rfl)) (fun q => q.elim (fun h => absurd h.2 (ni rfl)) (fun q => q.elim (fun h => absurd h.2 (ni rfl)) (fun q => q.elim (fun h => absurd h.2 (ni rfl)) (fun q => q.elim (fun h => absurd h.2 (ni rfl)) (fun h => absurd h.1 (nn rfl)))))))).trans ((up_n (by decide)).trans (hid kn_131))
      have hw35 : (upc (up c_144 41 8 (-1)) 56 0 57 0 (c_144 41 34)) 41 35 = wk := ((upc_c (by omega)).trans ((up_n (by decide)).trans (hid kn_163)))
      have hw34 : (upc (up c_144 41 8 (-1)) 56 0 57 0 (c_144 41 34)) 41 34 = c_144 41 34 := ((upc_c (by omega)).trans (up_n (by decide)))
      refine Wp_ls [(0, .ref 41)] (lsub_cons rfl lsub_nil) ?_
      refine s_202bx (iv_open hI_161) (by omega) (by omega) (by omega) (fun j hj => iv_r hI_161 60 j hj (by omega)) (fun c_164 y_165 hI_166 hF_167 hy_168 h_169 => ?_)
      have h_170 := ir_41_35 hI_166
      have kn_171 : Hid (c_144 41 2 = c_122 41 2) := (hF_146 41 2 (fun q => q.elim (fun h => absurd h.2 (ni rfl)) (fun q => q.elim (fun h => absurd h.2 (ni rfl)) (fun q => q.elim (fun h => absurd h.2 (ni rfl)) (fun q => q.elim (fun h => absurd h.2 (ni rfl)) (fun q => q.elim (fun h => absurd h.2 (ni rfl)) (fun h => absurd h.1 (nn rfl)))))))).trans (up_n (by decide))
      have kn_172 : Hid (c_164 41 2 = c_122 41 2) := (hF_167 41 2 (fun q => q.elim (fun h => absurd h.2 (ni rfl)) (fun q => q.elim (fun h => absurd h.2 (ni rfl)) (fun q => q.elim (fun h => absurd h.2 (ni rfl)) (fun q => q.elim (fun h => absurd h.2 (ni rfl)) (fun q => q.elim (fun h => absurd h.2 (ni rfl)) (fun q => q.elim (fun h => absurd h (nn rfl)) (fun q => q.elim (fun h => absurd h (nn rfl)) (fun q => q.elim (fun h => absurd h (nn rfl)) (fun q => q.elim (fun h => absurd h (nn rfl)) (fun h => absurd h (nn rfl)))))))))))).trans ((upc_c (by omega)).trans ((up_n (by decide)).trans (hid kn_171)))
      have h_173 : c_164 41 2 = c_122 41 2 := (hid kn_172)
      have kn_174 : Hid (c_164 41 8 = (-1)) := (hF_167 41 8 (fun q => q.elim (fun h => absurd h.2 (ni rfl)) (fun q => q.elim (fun h => absurd h.2 (ni rfl)) (fun q => q.elim (fun h => absurd h.2 (ni rfl)) (fun q => q.elim (fun h => absurd h.2 (ni rfl)) (fun q => q.elim (fun h => absurd h.2 (ni rfl)) (fun q => q.elim (fun h => absurd h (nn rfl)) (fun q => q.elim (fun h => absurd h (nn rfl)) (fun q => q.elim (fun h => absurd h (nn rfl)) (fun q => q.elim (fun h => absurd h (nn rfl)) (fun h => absurd h (nn rfl)))))))))))).trans ((upc_c (by omega)).trans (up_e rfl))
      have h_175 : c_164 41 8 = (-1) := (hid kn_174)
      have kn_176 : Hid (c_122 41 0 = 0) := (hF_124 41 0 (fun q => q.elim (fun h => absurd h.2 (ni rfl)) (fun q => q.elim (fun h => absurd h.2 (ni rfl)) (fun q => q.elim (fun h => absurd h.2 (ni rfl)) (fun q => q.elim (fun h => absurd h.2 (ni rfl)) (fun q => q.elim (fun h => absurd h.2 (ni rfl)) (fun h => absurd h.2 (ni rfl)))))))).trans (up_e rfl)
      have kn_177 : Hid (c_144 41 0 = 0) := (hF_146 41 0 (fun q => q.elim (fun h => absurd h.2 (ni rfl)) (fun q => q.elim (fun h => absurd h.2 (ni rfl)) (fun q => q.elim (fun h => absurd h.2 (ni rfl)) (fun q => q.elim (fun h => absurd h.2 (ni rfl)) (fun q => q.elim (fun h => absurd h.2 (ni rfl)) (fun h => absurd h.1 (nn rfl)))))))).trans ((up_n (by decide)).trans (hid kn_176))
      have kn_178 : Hid (c_164 41 0 = 0) := (hF_167 41 0 (fun q => q.elim (fun h => absurd h.2 (ni rfl)) (fun q => q.elim (fun h => absurd h.2 (ni rfl)) (fun q => q.elim (fun h => absurd h.2 (ni rfl)) (fun q => q.elim (fun h => absurd h.2 (ni rfl)) (fun q => q.elim (fun h => absurd h.2 (ni rfl)) (fun q => q.elim (fun h => absurd h (nn rfl)) (fun q => q.elim (fun h => absurd h (nn rfl)) (fun q => q.elim (fun h => absurd h (nn rfl)) (fun q => q.elim (fun h => absurd h (nn rfl)) (fun h => absurd h (nn rfl)))))))))))).trans ((upc_c (by omega)).trans ((up_n (by decide)).trans (hid kn_177)))
      have h_179 : c_164 41 0 = 0 := (hid kn_178)
      exact K c_164 y_165 hI_166 (fun a j hm => (hF_167 a j (fun q => q.elim (fun h => hm (Or.inr (Or.inr (Or.inr (Or.inr (Or.inr (Or.inr (Or.inr (Or.inr (Or.inr (Or.inr (Or.inr (Or.inr (Or.inr (Or.inl h))))))))))))))) (fun q => q.elim (fun h => hm (Or.inr (Or.inr (Or.inr (Or.inr (Or.inr (Or.inr (Or.inr (Or.inr (Or.inr (Or.inr (Or.inr (Or.inr (Or.inr (Or.inr (Or.inl h)))))))))))))))) (fun q => q.elim (fun h => hm (Or.inr (Or.inr (Or.inr (Or.inr (Or.inr (Or.inr (Or.inr (Or.inr (Or.inr (Or.inr (Or.inr (Or.inr (Or.inr (Or.inr (Or.inr (Or.inl h))))))))))))))))) (fun q => q.elim (fun h => hm (Or.inr (Or.inr (Or.inr (Or.inr (Or.inr (Or.inr (Or.inr (Or.inr (Or.inr (Or.inr (Or.inr (Or.inr (Or.inr (Or.inr (Or.inr (Or.inr (Or.inl h)))))))))))))))))) (fun q => q.elim (fun h => hm (Or.inr (Or.inr (Or.inr (Or.inr (Or.inr (Or.inr (Or.inr (Or.inr (Or.inr (Or.inr (Or.inr (Or.inr (Or.inr (Or.inr (Or.inr (Or.inr (Or.inr (Or.inl h))))))))))))))))))) (fun q => q.elim (fun h => hm (Or.inr (Or.inr (Or.inr (Or.inr (Or.inr (Or.inr (Or.inr (Or.inr (Or.inr (Or.inr (Or.inr (Or.inr (Or.inr (Or.inr (Or.inr (Or.inr (Or.inr (Or.inr (Or.inl h)))))))))))))))))))) (fun q => q.elim (fun h => hm (Or.inr (Or.inr (Or.inr (Or.inr (Or.inr (Or.inr (Or.inr (Or.inr (Or.inr (Or.inr (Or.inr (Or.inr (Or.inr (Or.inr (Or.inr (Or.inr (Or.inr (Or.inr (Or.inr (Or.inl h))))))))))))))))))))) (fun q => q.elim (fun h => hm (Or.inr (Or.inr (Or.inr (Or.inr (Or.inr (Or.inr (Or.inr (Or.inr (Or.inr (Or.inr (Or.inr (Or.inr (Or.inr (Or.inr (Or.inr (Or.inr (Or.inr (Or.inr (Or.inr (Or.inr (Or.inl h)))))))))))))))))))))) (fun q => q.elim (fun h => hm (Or.inr (Or.inr (Or.inr (Or.inr (Or.inr (Or.inr (Or.inr (Or.inr (Or.inr (Or.inr (Or.inr (Or.inr (Or.inr (Or.inr (Or.inr (Or.inr (Or.inr (Or.inr (Or.inr (Or.inr (Or.inr h)))))))))))))))))))))) (fun h => hm (Or.inr (Or.inr (Or.inr (Or.inr (Or.inr (Or.inr (Or.inr (Or.inr (Or.inr (Or.inr (Or.inr (Or.inr (Or.inl h)))))))))))))))))))))))).trans ((upc_c (fun h => hm (Or.inr (Or.inr (Or.inr (Or.inr (Or.inr (Or.inr (Or.inr (Or.inr (Or.inr (Or.inr (Or.inr (Or.inl h)))))))))))))).trans ((up_b (Decidable.or_iff_not_imp_left.mpr (fun h1 h2 => hm (Or.inr (Or.inr (Or.inr (Or.inr (Or.inr (Or.inr (Or.inr (Or.inr (Or.inl ⟨Decidable.not_not.mp h1, h2⟩)))))))))))).trans ((hF_146 a j (fun q => q.elim (fun h => hm (Or.inr (Or.inr (Or.inr (Or.inr (Or.inl h)))))) (fun q => q.elim (fun h => hm (Or.inr (Or.inr (Or.inr (Or.inr (Or.inr (Or.inl h))))))) (fun q => q.elim (fun h => hm (Or.inr (Or.inr (Or.inr (Or.inr (Or.inr (Or.inr (Or.inl h)))))))) (fun q => q.elim (fun h => hm (Or.inr (Or.inr (Or.inr (Or.inr (Or.inr (Or.inr (Or.inr (Or.inl h))))))))) (fun q => q.elim (fun h => hm (Or.inr (Or.inr (Or.inr (Or.inr (Or.inr (Or.inr (Or.inr (Or.inr (Or.inr (Or.inl h))))))))))) (fun h => hm (Or.inr (Or.inr (Or.inr (Or.inr (Or.inr (Or.inr (Or.inr (Or.inr (Or.inr (Or.inr (Or.inl h.1)))))))))))))))))).trans ((up_b (Decidable.or_iff_not_imp_left.mpr (fun h1 h2 => hm (Or.inr (Or.inr (Or.inr (Or.inr (Or.inr (Or.inr (Or.inr (Or.inr (Or.inr (Or.inl ⟨Decidable.not_not.mp h1, h2⟩))))))))))))).trans ((hF_124 a j (fun q => q.elim (fun h => hm (Or.inr (Or.inr (Or.inl h)))) (fun q => q.elim (fun h => hm (Or.inr (Or.inr (Or.inr (Or.inl h))))) (fun q => q.elim (fun h => hm (Or.inr (Or.inr (Or.inr (Or.inr (Or.inl h)))))) (fun q => q.elim (fun h => hm (Or.inr (Or.inr (Or.inr (Or.inr (Or.inr (Or.inl h))))))) (fun q => q.elim (fun h => hm (Or.inr (Or.inr (Or.inr (Or.inr (Or.inr (Or.inr (Or.inr (Or.inl h))))))))) (fun h => hm (Or.inr (Or.inr (Or.inr (Or.inr (Or.inr (Or.inr (Or.inr (Or.inr (Or.inl h)))))))))))))))).trans (up_b (Decidable.or_iff_not_imp_left.mpr (fun h1 h2 => hm (Or.inl ⟨Decidable.not_not.mp h1, h2⟩)))))))))) ⟨by omega, by omega⟩ (by first | (clear h_1 h_2 h_3 h_4 h_5 h_6 h_7 h_8 h_9 h_10 h_13 h_29 h_28 h_31 h_96 h_105 h_104 h_106 h_107 h_112 h_113 h_116 h_117 h_119 h_120 h_127 h_128 h_129 h_130 h_141 h_153 h_154 h_155 h_150 h_156 h_157 h_158 h_159 h_170 h_95 h_149; omega) | omega) (by first | (clear h_1 h_2 h_3 h_4 h_5 h_6 h_7 h_8 h_9 h_10 h_13 h_29 h_28 h_31 h_96 h_105 h_104 h_106 h_107 h_112 h_119 h_120 h_126 h_127 h_128 h_129 h_130 h_125 h_141 h_153 h_154 h_155 h_150 h_156 h_157 h_158 h_170 h_95 h_149; omega) | omega) (by first | (clear h_1 h_2 h_3 h_4 h_5 h_6 h_7 h_8 h_9 h_10 h_13 h_29 h_28 h_31 h_96 h_105 h_104 h_106 h_107 h_112 h_113 h_116 h_117 h_119 h_120 h_126 h_127 h_128 h_129 h_130 h_125 h_141 h_153 h_154 h_155 h_150 h_156 h_157 h_158 h_159 h_170 h_95 h_149; omega) | omega) (by first | (clear h_1 h_2 h_5 h_6 h_7 h_8 h_9 h_10 h_29 h_28 h_31 h_105 h_104 h_106 h_107 h_112 h_113 h_116 h_117 h_126 h_127 h_128 h_129 h_130 h_125 h_141 h_153 h_154 h_155 h_150 h_156 h_157 h_158 h_159 h_149; omega) | omega)
  · refine v_ic_lt_f (t := 13) rfl (by decide) ⟨by decide, (Int.not_lt.mp h_13), by omega⟩ ?_
    refine q_iconst rfl ?_
    refine q_goto (t := 14) rfl (by decide) ?_
    refine v_zret rfl rfl (by decide) ?_
    refine bk_inl ?_
    refine v_if_eq_f (t := 21) rfl (by decide) (by decide) ?_
    refine v_bip rfl (by decide) ?_
    refine q_iret rfl rfl ?_
    have hI_180 := iw_1_1 (v := y_12) hJ ⟨by omega, by omega⟩
    have hI_181 := iw_1_2 (v := 0) hI_180 ⟨by decide, by decide⟩
    have hI_182 := iw_1_3 (v := 0) hI_181 ⟨by decide, by decide⟩
    have hI_183 := iw_1_4 (v := 0) hI_182 ⟨by decide, by decide⟩
    have hI_184 := iw_1_5 (v := (-1)) hI_183 ⟨by decide, by decide⟩
    intro hE_185
    have h_186 : yg = (-20) := (vi_inj ⟨by omega, by omega⟩ ⟨by omega, by omega⟩ (Option.some.inj (Sum.inl.inj (Prod.mk.inj hE_185).1))).symm
    have hW : Wd P Q P P (up (up (up (up (up m 1 1 y_12) 1 2 0) 1 3 0) 1 4 0) 1 5 (-1)) = Wd P Q P P m9 := (Prod.mk.inj (Prod.mk.inj hE_185).2).1
    have h_187 := ir_1_5 hJ9
    have h_188 : m9 1 5 = (-1) := wd_fv (z := 5) 5 rfl hW rfl rfl rfl rfl (by decide) (up_e rfl) ⟨by decide, by decide⟩ ⟨(Int.le_trans (by decide) h_187.1), (Int.le_trans h_187.2 (by decide))⟩
    have h_189 := ir_3_3 hJ9
    have h_190 : m9 3 3 = wk := wd_fv (z := 3) 3 rfl hW rfl rfl rfl rfl (by decide) ((up_c (nn rfl)).trans ((up_c (nn rfl)).trans ((up_c (nn rfl)).trans ((up_c (nn rfl)).trans ((up_c (nn rfl)).trans (hg_wk)))))) ⟨by first | (clear h_1 h_2 h_3 h_4 h_5 h_6 h_7 h_8 h_9 h_10 h_186 h_187 h_188 h_189; omega) | omega, by first | (clear h_1 h_2 h_5 h_6 h_7 h_8 h_9 h_10 h_186 h_187 h_188 h_189; omega) | omega⟩ ⟨(Int.le_trans (by decide) h_189.1), (Int.le_trans h_189.2 (by decide))⟩
    refine q_aload_n rfl rfl ?_
    refine q_iconst rfl ?_
    refine v_pi (z := 0) rfl rfl rfl (by decide) rfl rfl rfl (by decide) ?_
    refine q_aload_n rfl rfl ?_
    refine q_iload_n rfl rfl ?_
    refine v_if_lt_f (t := 29) rfl (by decide) ⟨by decide, by first | (clear h_1 h_2 h_3 h_4 h_5 h_6 h_7 h_8 h_9 h_10 h_186 h_187 h_188 h_189 h_190; omega) | omega, ha1.2⟩ ?_
    refine q_iload_n rfl rfl ?_
    refine q_aload_n rfl rfl ?_
    refine v_gi (z := 2) (v := t9) rfl rfl rfl (by decide) rfl rfl ((up_n (by decide)).trans (hr_t9)) ?_
    refine v_ic_gt_f (t := 29) rfl (by decide) ⟨ha1.1, by first | (clear h_1 h_2 h_3 h_4 h_5 h_6 h_7 h_8 h_9 h_10 h_186 h_187 h_188 h_189 h_190; omega) | omega, by first | (clear h_3 h_4 h_5 h_6 h_7 h_8 h_9 h_10 h_186 h_187 h_188 h_189 h_190; omega) | omega⟩ ?_
    refine q_iload_n rfl rfl ?_
    refine v_sip rfl (by decide) ?_
    refine v_ic_gt_f (t := 29) rfl (by decide) ⟨ha1.1, by first | (clear h_1 h_2 h_3 h_4 h_5 h_6 h_7 h_8 h_9 h_10 h_186 h_187 h_188 h_189 h_190; omega) | omega, by decide⟩ ?_
    refine q_iconst rfl ?_
    refine q_goto (t := 30) rfl (by decide) ?_
    refine q_iconst rfl ?_
    refine q_iconst rfl ?_
    refine v_cv rfl rfl rfl rfl (by decide) ⟨⟨rfl, rfl⟩, by decide, rfl⟩ (Nat.le_of_ble_eq_true rfl) (Nat.le_of_ble_eq_true rfl) ?_
    refine q_iload_n rfl rfl ?_
    refine v_if_ne_t (t := 26) rfl (by decide) (by decide) ?_
    refine q_aload_n rfl rfl ?_
    refine v_gi (z := 0) (v := 0) rfl rfl rfl (by decide) rfl rfl (up_e rfl) ?_
    refine v_if_ne_f (t := 37) rfl (by decide) (by decide) ?_
    refine q_iconst rfl ?_
    refine q_goto (t := 38) rfl (by decide) ?_
    refine v_zret rfl rfl (by decide) ?_
    refine bk_inl ?_
    refine v_if_ne_t (t := 40) rfl (by decide) (by decide) ?_
    refine q_aload_n rfl rfl ?_
    refine q_iload_n rfl rfl ?_
    have hI_191 := iw_41_0 (v := 0) hI ⟨by decide, by decide⟩
    refine v_cv rfl rfl rfl rfl (by decide) ⟨⟨rfl, rfl⟩, by decide, rfl⟩ (Nat.le_of_ble_eq_true rfl) (Nat.le_of_ble_eq_true rfl) (s_163 (a1 := a1) hI_191 (show 0 ≤ a1 ∧ a1 ≤ 600 from ⟨by first | (clear h_1 h_2 h_3 h_4 h_5 h_6 h_7 h_8 h_9 h_10 h_186 h_187 h_188 h_189 h_190; omega) | omega, by first | (clear h_1 h_2 h_3 h_4 h_5 h_6 h_7 h_8 h_9 h_10 h_186 h_187 h_188 h_189 h_190; omega) | omega⟩) (fun c_192 hI_193 hF_194 h_195 => ?_))
    refine bk_inl ?_
    have h_196 := ir_41_2 hI_193
    have h_197 := ir_41_3 hI_193
    have h_198 := ir_41_4 hI_193
    have h_199 := ir_41_5 hI_193
    have h_200 := ir_41_7 hI_193
    refine q_aload_n rfl rfl ?_
    have kn_201 : Hid (c_192 41 35 = wk) := (hF_194 41 35 (fun q => q.elim (fun h => absurd h.2 (ni rfl)) (fun q => q.elim (fun h => absurd h.2 (ni rfl)) (fun q => q.elim (fun h => absurd h.2 (ni rfl)) (fun q => q.elim (fun h => absurd h.2 (ni rfl)) (fun q => q.elim (fun h => absurd h.2 (ni rfl)) (fun h => absurd h.2 (ni rfl)))))))).trans ((up_n (by decide)).trans (hr_wk))
    refine v_gi (z := 35) (v := wk) rfl rfl rfl (by decide) rfl rfl (hid kn_201) ?_
    refine v_bip rfl (by decide) ?_
    refine v_ic_ne_f (t := 63) rfl (by decide) (by first | (clear h_1 h_2 h_5 h_6 h_7 h_8 h_9 h_10 h_186 h_187 h_188 h_189 h_196 h_197 h_198 h_199 h_200 h_195; omega) | omega) ?_
    refine q_aload_n rfl rfl ?_
    refine q_iconst rfl ?_
    refine v_cv rfl rfl rfl rfl (by decide) ⟨⟨rfl, rfl⟩, by decide, rfl⟩ (Nat.le_of_ble_eq_true rfl) (Nat.le_of_ble_eq_true rfl) ?_
    refine q_aload_n rfl rfl ?_
    refine q_aload_n rfl rfl ?_
    refine v_gi (z := 5) (v := c_192 41 5) rfl rfl rfl (by decide) rfl rfl rfl ?_
    refine v_pi (z := 8) rfl rfl rfl (by decide) rfl rfl rfl (by decide) ?_
    refine q_aload_n rfl rfl ?_
    refine v_cv rfl rfl rfl rfl (by decide) ⟨⟨rfl, rfl⟩, by decide, rfl⟩ (Nat.le_of_ble_eq_true rfl) (Nat.le_of_ble_eq_true rfl) ?_
    refine q_aload_n rfl rfl ?_
    refine v_gi (z := 5) (v := c_192 41 5) rfl rfl rfl (by decide) rfl rfl (up_n (by decide)) ?_
    refine q_iconst rfl ?_
    refine v_ic_ne_f (t := 12) rfl (by decide) (by first | (clear h_1 h_2 h_3 h_4 h_5 h_6 h_7 h_8 h_9 h_10 h_186 h_187 h_188 h_189 h_190 h_196 h_197 h_198 h_200; omega) | omega) ?_
    refine q_iconst rfl ?_
    refine q_goto (t := 13) rfl (by decide) ?_
    refine v_zret rfl rfl (by decide) ?_
    refine bk_inl ?_
    refine v_if_eq_f (t := 19) rfl (by decide) (by decide) ?_
    refine q_iload_n rfl rfl ?_
    refine q_goto (t := 26) rfl (by decide) ?_
    refine q_iret rfl rfl ?_
    refine bk_inl ?_
    refine q_pop rfl rfl ?_
    refine v_bip rfl (by decide) ?_
    refine q_iret rfl rfl ?_
    have hI_202 := iw_41_8 (v := c_192 41 5) hI_193 ⟨h_199.1, h_199.2⟩
    have h_203 : (up c_192 41 8 (c_192 41 5)) 41 2 = c_192 41 2 := (up_n (by decide))
    have h_204 : (up c_192 41 8 (c_192 41 5)) 41 8 = c_192 41 5 := (up_e rfl)
    have kn_205 : Hid (c_192 41 0 = 0) := (hF_194 41 0 (fun q => q.elim (fun h => absurd h.2 (ni rfl)) (fun q => q.elim (fun h => absurd h.2 (ni rfl)) (fun q => q.elim (fun h => absurd h.2 (ni rfl)) (fun q => q.elim (fun h => absurd h.2 (ni rfl)) (fun q => q.elim (fun h => absurd h.2 (ni rfl)) (fun h => absurd h.2 (ni rfl)))))))).trans (up_e rfl)
    have h_206 : (up c_192 41 8 (c_192 41 5)) 41 0 = 0 := ((up_n (by decide)).trans (hid kn_205))
    have h_207 : (up c_192 41 8 (c_192 41 5)) 41 35 = wk := ((up_n (by decide)).trans (hid kn_201))
    exact K (up c_192 41 8 (c_192 41 5)) (-20) hI_202 (fun a j hm => (up_b (Decidable.or_iff_not_imp_left.mpr (fun h1 h2 => hm (Or.inr (Or.inr (Or.inr (Or.inr (Or.inr (Or.inr (Or.inr (Or.inr (Or.inl ⟨Decidable.not_not.mp h1, h2⟩)))))))))))).trans ((hF_194 a j (fun q => q.elim (fun h => hm (Or.inr (Or.inr (Or.inl h)))) (fun q => q.elim (fun h => hm (Or.inr (Or.inr (Or.inr (Or.inl h))))) (fun q => q.elim (fun h => hm (Or.inr (Or.inr (Or.inr (Or.inr (Or.inl h)))))) (fun q => q.elim (fun h => hm (Or.inr (Or.inr (Or.inr (Or.inr (Or.inr (Or.inl h))))))) (fun q => q.elim (fun h => hm (Or.inr (Or.inr (Or.inr (Or.inr (Or.inr (Or.inr (Or.inr (Or.inl h))))))))) (fun h => hm (Or.inr (Or.inr (Or.inr (Or.inr (Or.inr (Or.inr (Or.inr (Or.inr (Or.inl h)))))))))))))))).trans (up_b (Decidable.or_iff_not_imp_left.mpr (fun h1 h2 => hm (Or.inl ⟨Decidable.not_not.mp h1, h2⟩)))))) ⟨by omega, by omega⟩ (by first | (clear h_1 h_2 h_3 h_4 h_5 h_6 h_7 h_8 h_9 h_10 h_186 h_187 h_188 h_189 h_190 h_197 h_198 h_199 h_200; omega) | omega) (by first | (clear h_1 h_2 h_3 h_4 h_5 h_6 h_7 h_8 h_9 h_10 h_186 h_189 h_190 h_196 h_197 h_198 h_200; omega) | omega) (by first | (clear h_1 h_2 h_3 h_4 h_5 h_6 h_7 h_8 h_9 h_10 h_186 h_187 h_188 h_189 h_190 h_196 h_197 h_198 h_199 h_200 h_195; omega) | omega) (by first | (clear h_1 h_2 h_5 h_6 h_7 h_8 h_9 h_10 h_186 h_187 h_188 h_196 h_197 h_198 h_199 h_200 h_195; omega) | omega)

