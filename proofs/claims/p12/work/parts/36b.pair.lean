/-! ===== class and reference side by side 3 ===== -/
set_option maxRecDepth 100000 in
set_option maxHeartbeats 4000000 in
theorem L_84s {sc : List Int32} {d dh P Q P2 Q2 P9 Q9 : Nat} {c m m9 : ME} {a1 yg t9 n0 n1 n2 n3 : Int} {F H : Int → Int} {Z : AR → Prop} (hI : Iv 0 (-1) P2 Q2 c) (hJ : Iv 0 (-1) P Q m) (hJ9 : Iv 0 (-1) P9 Q9 m9) (ha1 : (-2147483648) ≤ a1 ∧ a1 ≤ 2147483647) (hyg : (-2147483648) ≤ yg ∧ yg ≤ 2147483647) (hq0 : (a1 ≥ 0 ∧ a1 ≤ t9 ∧ a1 ≤ 600)) (hg_t9 : m 1 3 = t9) (hr_t9 : c 41 2 = t9) (hg_n0 : m P 0 = n0) (hr_n0 : c 41 20 = n0) (hg_n1 : m P 1 = n1) (hr_n1 : c 41 21 = n1) (hg_n2 : m P 2 = n2) (hr_n2 : c 41 22 = n2) (hg_n3 : m P 3 = n3) (hr_n3 : c 41 23 = n3) (hF : ∀ j : Int, m 2 j = F j) (hH : ∀ j : Int, c 43 j = H j) (hU : Ub F H) (hr0 : Ae (3 * n1) (m (P + 2)) (c 48)) (hr1 : Ae n2 (m (P + 3)) (c 49)) (hG : Wp sc (dh + 50) 84 0 [(0, .ref 0), (1, vi a1)] [] (Wd P Q P P m) 0 0 (fun q => q = (.inl (some (vi yg)), Wd P9 Q9 P9 P9 m9, 0, 0))) (K : ∀ (c2 : ME) (y : Int), Iv 0 (-1) P2 Q2 c2 → (∀ (a : Nat) (j : Int), ¬ ((a = 41 ∧ j = 0) ∨ a = 42 ∨ (a = 41 ∧ j = 2) ∨ (a = 41 ∧ j = 3) ∨ (a = 41 ∧ j = 4) ∨ (a = 41 ∧ j = 5) ∨ (a = 41 ∧ j = 6) ∨ (a = 41 ∧ j = 7) ∨ (a = 41 ∧ j = 8) ∨ (a = 41 ∧ j = 16) ∨ (a = 41 ∧ j = 17) ∨ (a = 41 ∧ j = 18) ∨ (a = 41 ∧ j = 19) ∨ a = 44 ∨ a = 45 ∨ a = 46 ∨ (a = 41 ∧ j = 20) ∨ (a = 41 ∧ j = 21) ∨ (a = 41 ∧ j = 22) ∨ (a = 41 ∧ j = 23) ∨ (a = 41 ∧ j = 30) ∨ (a = 41 ∧ j = 35) ∨ (a = 41 ∧ j = 36) ∨ (a = 41 ∧ j = 47) ∨ (a = 41 ∧ j = 48) ∨ (a = 41 ∧ j = 52) ∨ a = 47 ∨ a = 48 ∨ a = 49 ∨ a = 58 ∨ a = 64) → c2 a j = c a j) → (-2147483648) ≤ y ∧ y ≤ 2147483647 → ((y = yg)) → ((c2 41 2 = 0)) → ((c2 41 8 = m9 1 5)) → ((c2 41 0 = 0)) → ((m9 P9 0 = c2 41 20)) → ((m9 P9 1 = c2 41 21)) → ((m9 P9 2 = c2 41 22)) → ((m9 P9 3 = c2 41 23)) → (Ae (3 * c2 41 21) (m9 (P9 + 2)) (c2 48)) → (Ae (c2 41 22) (m9 (P9 + 3)) (c2 49)) → Z (.inl (some (vi y)), Wd P2 Q2 P2 P2 c2, 0, 0)) : Wp sc (d + 40) 169 0 [(0, .ref 41), (1, vi a1)] [] (Wd P2 Q2 P2 P2 c) 0 0 Z := by
  have hP := iv_P hJ
  have hQ := iv_Q hJ
  have h_1 := ir_1_3 hJ
  have h_2 := ir_41_2 hI
  have h_3 := ir_p0_0 hJ hP
  have h_4 := ir_41_20 hI
  have h_5 := ir_p0_1 hJ hP
  have h_6 := ir_41_21 hI
  have h_7 := ir_p0_2 hJ hP
  have h_8 := ir_41_22 hI
  have h_9 := ir_p0_3 hJ hP
  have h_10 := ir_41_23 hI
  have hpq := iv_pq hJ
  unfold Pq at hpq
  refine gh hG ?_
  refine q_aload_n rfl rfl ?_
  refine q_iload_n rfl rfl ?_
  refine v_sip rfl (by decide) ?_
  refine v_cv rfl rfl rfl rfl (by decide) ⟨⟨rfl, rfl⟩, by decide, rfl⟩ (Nat.le_of_ble_eq_true rfl) (Nat.le_of_ble_eq_true rfl) ?_
  refine q_aload_n rfl rfl ?_
  refine q_iload_n rfl rfl ?_
  refine q_iconst rfl ?_
  refine q_iload_n rfl rfl ?_
  refine q_aload_n rfl rfl ?_
  refine v_gr (t := 1) rfl rfl rfl (by decide) rfl ?_
  refine v_gi (z := 3) (v := t9) rfl rfl rfl (by decide) rfl rfl (hg_t9) ?_
  refine v_min_g rfl rfl (by omega) (Nat.le_of_ble_eq_true rfl) (by omega) ?_
  refine q_call rfl rfl rfl rfl ?_
  refine q_iload_n rfl rfl ?_
  refine q_iload_n rfl rfl ?_
  refine v_ic_lt_f (t := 14) rfl (by decide) ⟨by decide, by omega, ha1.2⟩ ?_
  refine q_iload_n rfl rfl ?_
  refine q_iload_n rfl rfl ?_
  refine v_ic_gt_f (t := 14) rfl (by decide) ⟨ha1.1, by omega, (Int.le_trans (rg_eq hg_t9 h_1).2 (by decide))⟩ ?_
  refine q_iconst rfl ?_
  refine q_goto (t := 15) rfl (by decide) ?_
  refine v_zret rfl rfl (by decide) ?_
  refine bk_inl ?_
  refine v_cv rfl rfl rfl rfl (by decide) ⟨⟨rfl, rfl⟩, by decide, rfl⟩ (Nat.le_of_ble_eq_true rfl) (Nat.le_of_ble_eq_true rfl) ?_
  refine q_iload_n rfl rfl ?_
  refine v_if_ne_t (t := 25) rfl (by decide) (by decide) ?_
  refine q_vret rfl rfl ?_
  refine bk_inl ?_
  refine q_aload_n rfl rfl ?_
  refine v_gr (t := 1) rfl rfl rfl (by decide) rfl ?_
  refine q_iload_n rfl rfl ?_
  refine v_cv rfl rfl rfl rfl (by decide) ⟨⟨rfl, rfl⟩, by decide, rfl⟩ (Nat.le_of_ble_eq_true rfl) (Nat.le_of_ble_eq_true rfl) ?_
  refine q_aload_n rfl rfl ?_
  refine q_iload_n rfl rfl ?_
  refine q_aload_n rfl rfl ?_
  refine v_gi (z := 3) (v := t9) rfl rfl rfl (by decide) rfl rfl (hg_t9) ?_
  refine v_minx rfl rfl (by omega) (Nat.le_of_ble_eq_true rfl) ⟨by omega, by omega, by omega, by omega⟩ (fun y_11 hy_11 => ?_)
  refine v_pi (z := 1) rfl rfl rfl (by decide) rfl rfl rfl (by decide) ?_
  refine q_aload_n rfl rfl ?_
  refine q_iconst rfl ?_
  refine v_pi (z := 2) rfl rfl rfl (by decide) rfl rfl rfl (by decide) ?_
  refine q_aload_n rfl rfl ?_
  refine q_iconst rfl ?_
  refine v_pi (z := 3) rfl rfl rfl (by decide) rfl rfl rfl (by decide) ?_
  refine q_aload_n rfl rfl ?_
  refine q_iconst rfl ?_
  refine v_pi (z := 4) rfl rfl rfl (by decide) rfl rfl rfl (by decide) ?_
  refine q_aload_n rfl rfl ?_
  refine q_iconst rfl ?_
  refine v_pi (z := 5) rfl rfl rfl (by decide) rfl rfl rfl (by decide) ?_
  refine q_vret rfl rfl ?_
  refine bk_inl ?_
  refine q_vret rfl rfl ?_
  refine bk_inl ?_
  refine q_aload_n rfl rfl ?_
  refine v_gr (t := Q) rfl rfl rfl (by decide) rfl ?_
  refine q_aload_n rfl rfl ?_
  refine v_gr (t := 1) rfl rfl rfl (by decide) rfl ?_
  have hI_12 := iw_1_1 (v := y_11) hJ ⟨by omega, by omega⟩
  have hI_13 := iw_1_2 (v := 0) hI_12 ⟨by decide, by decide⟩
  have hI_14 := iw_1_3 (v := 0) hI_13 ⟨by decide, by decide⟩
  have hI_15 := iw_1_4 (v := 0) hI_14 ⟨by decide, by decide⟩
  have hI_16 := iw_1_5 (v := (-1)) hI_15 ⟨by decide, by decide⟩
  refine v_cv rfl rfl rfl (ck_p0 hQ) (by omega) ⟨⟨rfl, rfl⟩, by decide, rfl⟩ (Nat.le_of_ble_eq_true rfl) (Nat.le_of_ble_eq_true rfl) (fn_of (s_34 hI_16 hQ (fun c_17 hI_18 hF_19 => ?_)))
  intro hG_20
  refine bk_inl ?_
  refine q_aload_n rfl rfl ?_
  refine v_gr (t := 1) rfl rfl rfl (by decide) rfl ?_
  refine v_cv rfl rfl rfl rfl (by decide) ⟨⟨rfl, rfl⟩, by decide, rfl⟩ (Nat.le_of_ble_eq_true rfl) (Nat.le_of_ble_eq_true rfl) ?_
  refine q_aload_n rfl rfl ?_
  have h_21 := ir_1_4 hI_18
  refine v_gi (z := 4) (v := c_17 1 4) rfl rfl rfl (by decide) rfl rfl rfl ?_
  by_cases h_22 : c_17 1 4 ≠ 0
  · refine v_if_ne_t (t := 11) rfl (by decide) ⟨h_22, ⟨(Int.le_trans (by decide) h_21.1), (Int.le_trans h_21.2 (by decide))⟩, by decide, by decide⟩ ?_
    refine q_iconst rfl ?_
    refine v_zret rfl rfl (by decide) ?_
    refine bk_inl ?_
    refine v_if_eq_t (t := 81) rfl (by decide) (by decide) ?_
    refine q_aload_n rfl rfl ?_
    refine q_aload_n rfl rfl ?_
    refine v_gr (t := P) rfl rfl rfl (by decide) rfl ?_
    have kn_23 : Hid (c_17 P 0 = n0) := (hF_19 P 0 (by omega)).trans ((up_c (np0 hP rfl)).trans ((up_c (np0 hP rfl)).trans ((up_c (np0 hP rfl)).trans ((up_c (np0 hP rfl)).trans ((up_c (np0 hP rfl)).trans (hg_n0))))))
    refine v_gi (z := 0) (v := n0) rfl rfl (ck_p0 hP) (by omega) rfl rfl (hid kn_23) ?_
    refine v_cv rfl rfl rfl rfl (by decide) ⟨⟨rfl, rfl⟩, by decide, rfl⟩ (Nat.le_of_ble_eq_true rfl) (Nat.le_of_ble_eq_true rfl) ?_
    refine q_aload_n rfl rfl ?_
    refine v_gr (t := 1) rfl rfl rfl (by decide) rfl ?_
    refine v_cv rfl rfl rfl rfl (by decide) ⟨⟨rfl, rfl⟩, by decide, rfl⟩ (Nat.le_of_ble_eq_true rfl) (Nat.le_of_ble_eq_true rfl) ?_
    refine q_aload_n rfl rfl ?_
    refine v_gi (z := 4) (v := c_17 1 4) rfl rfl rfl (by decide) rfl rfl rfl ?_
    refine v_if_ne_t (t := 11) rfl (by decide) ⟨by omega, ⟨(Int.le_trans (by decide) h_21.1), (Int.le_trans h_21.2 (by decide))⟩, by decide, by decide⟩ ?_
    refine q_iconst rfl ?_
    refine v_zret rfl rfl (by decide) ?_
    refine bk_inl ?_
    refine v_if_eq_t (t := 14) rfl (by decide) (by decide) ?_
    refine q_aload_n rfl rfl ?_
    refine v_gr (t := 1) rfl rfl rfl (by decide) rfl ?_
    refine v_gi (z := 4) (v := c_17 1 4) rfl rfl rfl (by decide) rfl rfl rfl ?_
    refine v_bip rfl (by decide) ?_
    refine v_isub (v := c_17 1 4 - 10) rfl rfl ?_
    refine q_iret rfl rfl ?_
    refine bk_inl ?_
    refine q_iret rfl rfl ?_
    intro hE_24
    have h_25 : yg = c_17 1 4 - 10 := (vi_inj ⟨by omega, by omega⟩ ⟨by omega, by omega⟩ (Option.some.inj (Sum.inl.inj (Prod.mk.inj hE_24).1))).symm
    have hW : Wd P Q P P c_17 = Wd P9 Q9 P9 P9 m9 := (Prod.mk.inj (Prod.mk.inj hE_24).2).1
    obtain ⟨hp9, hq9⟩ := wd_pq hW
    subst hp9
    subst hq9
    have h_26 := ir_1_5 hI_18
    have h_27 := ir_1_5 hJ9
    have h_28 : m9 1 5 = c_17 1 5 := wd_fv (z := 5) 5 rfl hW rfl rfl rfl rfl (by decide) rfl ⟨(Int.le_trans (by decide) h_26.1), (Int.le_trans h_26.2 (by decide))⟩ ⟨(Int.le_trans (by decide) h_27.1), (Int.le_trans h_27.2 (by decide))⟩
    have h_29 := ir_p0_0 hJ9 hP
    have h_30 : m9 P 0 = n0 := wd_fv (z := 0) 0 rfl hW (ck_A hP) (ck_A hP) rfl rfl (by omega) (hid kn_23) ⟨by omega, by omega⟩ ⟨by omega, by omega⟩
    have kn_31 : Hid (c_17 P 1 = n1) := (hF_19 P 1 (by omega)).trans ((up_c (np0 hP rfl)).trans ((up_c (np0 hP rfl)).trans ((up_c (np0 hP rfl)).trans ((up_c (np0 hP rfl)).trans ((up_c (np0 hP rfl)).trans (hg_n1))))))
    have h_32 := ir_p0_1 hJ9 hP
    have h_33 : m9 P 1 = n1 := wd_fv (z := 1) 1 rfl hW (ck_A hP) (ck_A hP) rfl rfl (by omega) (hid kn_31) ⟨by omega, by omega⟩ ⟨by omega, by omega⟩
    have kn_34 : Hid (c_17 P 2 = n2) := (hF_19 P 2 (by omega)).trans ((up_c (np0 hP rfl)).trans ((up_c (np0 hP rfl)).trans ((up_c (np0 hP rfl)).trans ((up_c (np0 hP rfl)).trans ((up_c (np0 hP rfl)).trans (hg_n2))))))
    have h_35 := ir_p0_2 hJ9 hP
    have h_36 : m9 P 2 = n2 := wd_fv (z := 2) 2 rfl hW (ck_A hP) (ck_A hP) rfl rfl (by omega) (hid kn_34) ⟨by omega, by omega⟩ ⟨by omega, by omega⟩
    have kn_37 : Hid (c_17 P 3 = n3) := (hF_19 P 3 (by omega)).trans ((up_c (np0 hP rfl)).trans ((up_c (np0 hP rfl)).trans ((up_c (np0 hP rfl)).trans ((up_c (np0 hP rfl)).trans ((up_c (np0 hP rfl)).trans (hg_n3))))))
    have h_38 := ir_p0_3 hJ9 hP
    have h_39 : m9 P 3 = n3 := wd_fv (z := 3) 3 rfl hW (ck_A hP) (ck_A hP) rfl rfl (by omega) (hid kn_37) ⟨by omega, by omega⟩ ⟨by omega, by omega⟩
    refine q_aload_n rfl rfl ?_
    refine q_iconst rfl ?_
    refine v_pi (z := 0) rfl rfl rfl (by decide) rfl rfl rfl (by decide) ?_
    refine q_aload_n rfl rfl ?_
    refine q_iload_n rfl rfl ?_
    refine v_if_lt_f (t := 22) rfl (by decide) ⟨by decide, by first | (clear h_1 h_2 h_3 h_4 h_5 h_6 h_7 h_8 h_9 h_10 h_21 h_25 h_26 h_27 h_28 h_29 h_30 h_32 h_33 h_35 h_36 h_38 h_39 h_22; omega) | omega, ha1.2⟩ ?_
    refine q_iload_n rfl rfl ?_
    refine q_aload_n rfl rfl ?_
    refine v_gi (z := 2) (v := t9) rfl rfl rfl (by decide) rfl rfl ((up_n (by decide)).trans (hr_t9)) ?_
    refine v_ic_gt_f (t := 22) rfl (by decide) ⟨ha1.1, by first | (clear h_1 h_2 h_3 h_4 h_5 h_6 h_7 h_8 h_9 h_10 h_21 h_25 h_26 h_27 h_28 h_29 h_30 h_32 h_33 h_35 h_36 h_38 h_39 h_22; omega) | omega, (Int.le_trans (rg_eq hg_t9 h_1).2 (by decide))⟩ ?_
    refine q_iconst rfl ?_
    refine q_goto (t := 23) rfl (by decide) ?_
    refine q_iconst rfl ?_
    refine q_iconst rfl ?_
    refine v_cv rfl rfl rfl rfl (by decide) ⟨⟨rfl, rfl⟩, by decide, rfl⟩ (Nat.le_of_ble_eq_true rfl) (Nat.le_of_ble_eq_true rfl) ?_
    refine q_iload_n rfl rfl ?_
    refine v_if_ne_t (t := 26) rfl (by decide) (by decide) ?_
    refine q_aload_n rfl rfl ?_
    refine v_gi (z := 0) (v := 0) rfl rfl rfl (by decide) rfl rfl (up_e rfl) ?_
    refine v_if_ne_f (t := 37) rfl (by decide) (by decide) ?_
    refine q_iconst rfl ?_
    refine q_goto (t := 38) rfl (by decide) ?_
    refine v_zret rfl rfl (by decide) ?_
    refine bk_inl ?_
    refine v_if_ne_t (t := 33) rfl (by decide) (by decide) ?_
    refine q_aload_n rfl rfl ?_
    refine q_iload_n rfl rfl ?_
    have hI_40 := iw_41_0 (v := 0) hI ⟨by decide, by decide⟩
    refine v_cv rfl rfl rfl rfl (by decide) ⟨⟨rfl, rfl⟩, by decide, rfl⟩ (Nat.le_of_ble_eq_true rfl) (Nat.le_of_ble_eq_true rfl) (s_163 (a1 := a1) hI_40 (show 0 ≤ a1 ∧ a1 ≤ 600 from ⟨by first | (clear h_1 h_2 h_3 h_4 h_5 h_6 h_7 h_8 h_9 h_10 h_21 h_25 h_26 h_27 h_28 h_29 h_30 h_32 h_33 h_35 h_36 h_38 h_39 h_22; omega) | omega, by first | (clear h_1 h_2 h_3 h_4 h_5 h_6 h_7 h_8 h_9 h_10 h_21 h_25 h_26 h_27 h_28 h_29 h_30 h_32 h_33 h_35 h_36 h_38 h_39 h_22; omega) | omega⟩) (fun c_41 hI_42 hF_43 h_44 => ?_))
    refine bk_inl ?_
    have h_45 := ir_41_2 hI_42
    have h_46 := ir_41_3 hI_42
    have h_47 := ir_41_4 hI_42
    have h_48 := ir_41_5 hI_42
    have h_49 := ir_41_7 hI_42
    refine q_aload_n rfl rfl ?_
    refine v_cv rfl rfl rfl rfl (by decide) ⟨⟨rfl, rfl⟩, by decide, rfl⟩ (Nat.le_of_ble_eq_true rfl) (Nat.le_of_ble_eq_true rfl) (s_147 hI_42 (fun c_50 hI_51 hF_52 h_53 => ?_))
    refine bk_inl ?_
    have h_54 := ir_41_16 hI_51
    have h_55 := ir_41_17 hI_51
    have h_56 := ir_41_18 hI_51
    have h_57 := ir_41_19 hI_51
    refine q_iconst rfl ?_
    refine q_istore_n rfl (by decide) ?_
    refine Wp_ls [(0, .ref 41), (1, vi a1), (2, vi 0)] (lsub_cons rfl (lsub_cons rfl (lsub_cons rfl lsub_nil))) ?_
    have kn_58 : Hid (c_50 41 3 = c_41 41 3) := hF_52 41 3 (fun q => q.elim (fun h => absurd h.2 (ni rfl)) (fun q => q.elim (fun h => absurd h.2 (ni rfl)) (fun q => q.elim (fun h => absurd h.2 (ni rfl)) (fun h => absurd h.2 (ni rfl)))))
    have h_59 : (up (up (up (up (up m 1 1 y_11) 1 2 0) 1 3 0) 1 4 0) 1 5 (-1)) 1 4 = 0 := ((up_n (by decide)).trans (up_e rfl))
    have h_60 : (up (up (up (up (up m 1 1 y_11) 1 2 0) 1 3 0) 1 4 0) 1 5 (-1)) 1 2 = 0 := ((up_n (by decide)).trans ((up_n (by decide)).trans ((up_n (by decide)).trans (up_e rfl))))
    have h_61 : (up (up (up (up (up m 1 1 y_11) 1 2 0) 1 3 0) 1 4 0) 1 5 (-1)) 1 5 = (-1) := (up_e rfl)
    have kn_62 : Hid (c_50 41 5 = c_41 41 5) := hF_52 41 5 (fun q => q.elim (fun h => absurd h.2 (ni rfl)) (fun q => q.elim (fun h => absurd h.2 (ni rfl)) (fun q => q.elim (fun h => absurd h.2 (ni rfl)) (fun h => absurd h.2 (ni rfl)))))
    have h_63 : c_50 41 5 = c_41 41 5 := (hid kn_62)
    have kn_64 : Hid (c_50 41 4 = c_41 41 4) := hF_52 41 4 (fun q => q.elim (fun h => absurd h.2 (ni rfl)) (fun q => q.elim (fun h => absurd h.2 (ni rfl)) (fun q => q.elim (fun h => absurd h.2 (ni rfl)) (fun h => absurd h.2 (ni rfl)))))
    have h_65 : c_50 41 4 = c_41 41 4 := (hid kn_64)
    have h_66 := ir_41_6 hI
    have kn_67 : Hid (c_41 41 6 = c 41 6) := (hF_43 41 6 (fun q => q.elim (fun h => absurd h.2 (ni rfl)) (fun q => q.elim (fun h => absurd h.2 (ni rfl)) (fun q => q.elim (fun h => absurd h.2 (ni rfl)) (fun q => q.elim (fun h => absurd h.2 (ni rfl)) (fun q => q.elim (fun h => absurd h.2 (ni rfl)) (fun h => absurd h.2 (ni rfl)))))))).trans (up_n (by decide))
    have kn_68 : Hid (c_50 41 6 = c 41 6) := (hF_52 41 6 (fun q => q.elim (fun h => absurd h.2 (ni rfl)) (fun q => q.elim (fun h => absurd h.2 (ni rfl)) (fun q => q.elim (fun h => absurd h.2 (ni rfl)) (fun h => absurd h.2 (ni rfl)))))).trans (hid kn_67)
    have h_69 : c_50 41 6 = c 41 6 := (hid kn_68)
    refine L_34a (m := up (up (up (up (up m 1 1 y_11) 1 2 0) 1 3 0) 1 4 0) 1 5 (-1)) (a1 := a1) (e1 := y_11) (f0 := 0) (g0 := (-1)) (z0 := c_50 41 16) (z1 := c_50 41 17) (z2 := c_50 41 18) (z3 := c_50 41 19) (F := F) (H := H) hI_51 hI_16 hI_18 hQ (show (-2147483648) ≤ a1 ∧ a1 ≤ 2147483647 from ha1) (by first | (clear h_1 h_2 h_3 h_4 h_5 h_6 h_7 h_8 h_9 h_10 h_21 h_25 h_26 h_27 h_28 h_29 h_30 h_32 h_33 h_35 h_36 h_38 h_39 h_45 h_46 h_47 h_48 h_49 h_44 h_54 h_55 h_56 h_57 h_53 h_22; omega) | omega) (by first | (clear h_1 h_2 h_3 h_4 h_5 h_6 h_7 h_8 h_9 h_10 h_21 h_25 h_26 h_27 h_28 h_29 h_30 h_32 h_33 h_35 h_36 h_38 h_39 h_45 h_46 h_47 h_48 h_49 h_44 h_54 h_55 h_56 h_57 h_53 h_22; omega) | omega) (by first | (clear h_1 h_2 h_3 h_4 h_5 h_6 h_7 h_8 h_9 h_10 h_21 h_25 h_26 h_27 h_28 h_29 h_30 h_32 h_33 h_35 h_36 h_38 h_39 h_45 h_46 h_47 h_48 h_49 h_44 h_55 h_56 h_57 h_22; omega) | omega) (by first | (clear h_1 h_2 h_3 h_4 h_5 h_6 h_7 h_8 h_9 h_10 h_21 h_25 h_26 h_27 h_28 h_29 h_30 h_32 h_33 h_35 h_36 h_38 h_39 h_45 h_46 h_47 h_48 h_49 h_44 h_54 h_56 h_57 h_22; omega) | omega) (by first | (clear h_1 h_2 h_3 h_4 h_5 h_6 h_7 h_8 h_9 h_10 h_21 h_25 h_26 h_27 h_28 h_29 h_30 h_32 h_33 h_35 h_36 h_38 h_39 h_45 h_46 h_47 h_48 h_49 h_44 h_54 h_55 h_57 h_22; omega) | omega) (by first | (clear h_1 h_2 h_3 h_4 h_5 h_6 h_7 h_8 h_9 h_10 h_21 h_25 h_26 h_27 h_28 h_29 h_30 h_32 h_33 h_35 h_36 h_38 h_39 h_45 h_46 h_47 h_48 h_49 h_44 h_54 h_55 h_56 h_22; omega) | omega) (((up_n (by decide)).trans ((up_n (by decide)).trans ((up_n (by decide)).trans ((up_n (by decide)).trans (up_e rfl)))))) (((show _ = c_41 41 3 from (hid kn_58)).trans (by omega))) (((up_n (by decide)).trans (up_e rfl))) ((up_e rfl)) (rfl) (rfl) (rfl) (rfl) (fun j => ((up_c (nn rfl)).trans ((up_c (nn rfl)).trans ((up_c (nn rfl)).trans ((up_c (nn rfl)).trans (up_c (nn rfl)))))).trans (hF j)) (fun j => ((hF_52 43 j (fun q => q.elim (fun h => absurd h.1 (nn rfl)) (fun q => q.elim (fun h => absurd h.1 (nn rfl)) (fun q => q.elim (fun h => absurd h.1 (nn rfl)) (fun h => absurd h.1 (nn rfl)))))).trans ((hF_43 43 j (fun q => q.elim (fun h => absurd h.1 (nn rfl)) (fun q => q.elim (fun h => absurd h.1 (nn rfl)) (fun q => q.elim (fun h => absurd h.1 (nn rfl)) (fun q => q.elim (fun h => absurd h.1 (nn rfl)) (fun q => q.elim (fun h => absurd h.1 (nn rfl)) (fun h => absurd h.1 (nn rfl)))))))).trans (up_c (nn rfl)))).trans (hH j)) hU (rt_i1 ⟨by first | (clear h_1 h_2 h_3 h_4 h_5 h_6 h_7 h_8 h_9 h_10 h_21 h_25 h_26 h_27 h_28 h_29 h_30 h_32 h_33 h_35 h_36 h_38 h_39 h_45 h_46 h_47 h_48 h_49 h_44 h_54 h_55 h_56 h_57 h_53 h_66 h_22; omega) | omega, by first | (clear h_1 h_2 h_3 h_4 h_5 h_6 h_7 h_8 h_9 h_10 h_21 h_25 h_26 h_27 h_28 h_29 h_30 h_32 h_33 h_35 h_36 h_38 h_39 h_45 h_46 h_47 h_49 h_54 h_55 h_56 h_57 h_53 h_66 h_22; omega) | omega, by first | (clear h_1 h_2 h_3 h_4 h_5 h_6 h_7 h_8 h_9 h_10 h_21 h_25 h_26 h_27 h_28 h_29 h_30 h_32 h_33 h_35 h_36 h_38 h_39 h_45 h_46 h_48 h_49 h_54 h_55 h_56 h_57 h_53 h_66 h_22; omega) | omega, by first | (clear h_1 h_2 h_3 h_4 h_5 h_6 h_7 h_8 h_9 h_10 h_21 h_25 h_26 h_27 h_28 h_29 h_30 h_32 h_33 h_35 h_36 h_38 h_39 h_45 h_46 h_47 h_48 h_49 h_44 h_54 h_55 h_56 h_57 h_53 h_66 h_22; omega) | omega⟩) hG_20 (fun c_70 hI_71 hF_72 hR_74 h_75 hA_76 hA_77 hA_78 => ?_)
    have h_79 := ir_41_16 hI_71
    have h_80 := ir_41_17 hI_71
    have h_81 := ir_41_18 hI_71
    have h_82 := ir_41_19 hI_71
    have h_83 := ir_p0_0 hI_18 hQ
    have h_84 := ir_p0_1 hI_18 hQ
    have h_85 := ir_p0_2 hI_18 hQ
    have h_86 := ir_p0_3 hI_18 hQ
    refine q_aload_n rfl rfl ?_
    refine q_aload_n rfl rfl ?_
    refine v_gi (z := 16) (v := c_70 41 16) rfl rfl rfl (by decide) rfl rfl rfl ?_
    refine v_cv rfl rfl rfl rfl (by decide) ⟨⟨rfl, rfl⟩, by decide, rfl⟩ (Nat.le_of_ble_eq_true rfl) (Nat.le_of_ble_eq_true rfl) ?_
    refine q_aload_n rfl rfl ?_
    refine q_aload_n rfl rfl ?_
    have h_87 := ir_41_5 hI_71
    have h_88 := ir_1_2 hI_18
    have h_89 := ir_41_4 hI_71
    have h_90 := ir_41_6 hI_71
    have h_91 := rt_bad hR_74 (by omega)
    have hrb_hR_74 := rt_bad hR_74 (by omega)
    refine v_gi (z := 5) (v := c_17 1 5) rfl rfl rfl (by decide) rfl rfl hrb_hR_74.2.1 ?_
    refine v_pi (z := 8) rfl rfl rfl (by decide) rfl rfl rfl (by decide) ?_
    refine q_aload_n rfl rfl ?_
    refine v_cv rfl rfl rfl rfl (by decide) ⟨⟨rfl, rfl⟩, by decide, rfl⟩ (Nat.le_of_ble_eq_true rfl) (Nat.le_of_ble_eq_true rfl) ?_
    refine q_aload_n rfl rfl ?_
    refine v_gi (z := 5) (v := c_17 1 5) rfl rfl rfl (by decide) rfl rfl (((up_n (by decide))).trans (hrb_hR_74.2.1)) ?_
    refine q_iconst rfl ?_
    refine v_ic_ne_t (t := 12) rfl (by decide) ⟨by first | (clear h_1 h_2 h_3 h_4 h_5 h_6 h_7 h_8 h_9 h_10 h_21 h_25 h_27 h_29 h_30 h_32 h_33 h_35 h_36 h_38 h_39 h_45 h_46 h_47 h_48 h_49 h_44 h_54 h_55 h_56 h_57 h_53 h_66 h_79 h_80 h_81 h_82 h_83 h_84 h_85 h_86 h_87 h_88 h_89 h_90 h_22 h_75; omega) | omega, ⟨(Int.le_trans (by decide) h_26.1), (Int.le_trans h_26.2 (by decide))⟩, by decide, by decide⟩ ?_
    refine q_iconst rfl ?_
    refine v_zret rfl rfl (by decide) ?_
    refine bk_inl ?_
    refine v_if_eq_t (t := 19) rfl (by decide) (by decide) ?_
    refine q_aload_n rfl rfl ?_
    refine v_gi (z := 6) (v := c_17 1 4) rfl rfl rfl (by decide) rfl rfl (((up_n (by decide))).trans (hrb_hR_74.2.2.2)) ?_
    refine v_bip rfl (by decide) ?_
    refine v_isub (v := c_17 1 4 - 10) rfl rfl ?_
    refine q_iret rfl rfl ?_
    refine bk_inl ?_
    refine q_istore_n rfl (by decide) ?_
    refine q_aload_n rfl rfl ?_
    refine v_gi (z := 5) (v := c_17 1 5) rfl rfl rfl (by decide) rfl rfl (((up_n (by decide))).trans (hrb_hR_74.2.1)) ?_
    refine q_iconst rfl ?_
    refine v_ic_ne_t (t := 157) rfl (by decide) ⟨by first | (clear h_1 h_2 h_3 h_4 h_5 h_6 h_7 h_8 h_9 h_10 h_21 h_25 h_27 h_29 h_30 h_32 h_33 h_35 h_36 h_38 h_39 h_45 h_46 h_47 h_48 h_49 h_44 h_54 h_55 h_56 h_57 h_53 h_66 h_79 h_80 h_81 h_82 h_83 h_84 h_85 h_86 h_87 h_88 h_89 h_90 h_22 h_75; omega) | omega, ⟨(Int.le_trans (by decide) h_26.1), (Int.le_trans h_26.2 (by decide))⟩, by decide, by decide⟩ ?_
    refine q_iload_n rfl rfl ?_
    refine q_iret rfl rfl ?_
    have hI_92 := iw_41_8 (v := c_17 1 5) hI_71 ⟨h_26.1, (Int.le_trans h_26.2 (by decide))⟩
    have kn_93 : Hid (c_50 41 2 = c_41 41 2) := hF_52 41 2 (fun q => q.elim (fun h => absurd h.2 (ni rfl)) (fun q => q.elim (fun h => absurd h.2 (ni rfl)) (fun q => q.elim (fun h => absurd h.2 (ni rfl)) (fun h => absurd h.2 (ni rfl)))))
    have kn_94 : Hid (c_70 41 2 = c_41 41 2) := (hF_72 41 2 (fun q => q.elim (fun h => absurd h.2 (ni rfl)) (fun q => q.elim (fun h => absurd h.2 (ni rfl)) (fun q => q.elim (fun h => absurd h.2 (ni rfl)) (fun q => q.elim (fun h => absurd h.2 (ni rfl)) (fun q => q.elim (fun h => absurd h.2 (ni rfl)) (fun q => q.elim (fun h => absurd h.2 (ni rfl)) (fun q => q.elim (fun h => absurd h.2 (ni rfl)) (fun q => q.elim (fun h => absurd h (nn rfl)) (fun q => q.elim (fun h => absurd h (nn rfl)) (fun h => absurd h (nn rfl)))))))))))).trans (hid kn_93)
    have h_95 : (up c_70 41 8 (c_17 1 5)) 41 2 = c_41 41 2 := ((up_n (by decide)).trans (hid kn_94))
    have h_96 : (up c_70 41 8 (c_17 1 5)) 41 8 = c_17 1 5 := (up_e rfl)
    have kn_97 : Hid (c_41 41 0 = 0) := (hF_43 41 0 (fun q => q.elim (fun h => absurd h.2 (ni rfl)) (fun q => q.elim (fun h => absurd h.2 (ni rfl)) (fun q => q.elim (fun h => absurd h.2 (ni rfl)) (fun q => q.elim (fun h => absurd h.2 (ni rfl)) (fun q => q.elim (fun h => absurd h.2 (ni rfl)) (fun h => absurd h.2 (ni rfl)))))))).trans (up_e rfl)
    have kn_98 : Hid (c_50 41 0 = 0) := (hF_52 41 0 (fun q => q.elim (fun h => absurd h.2 (ni rfl)) (fun q => q.elim (fun h => absurd h.2 (ni rfl)) (fun q => q.elim (fun h => absurd h.2 (ni rfl)) (fun h => absurd h.2 (ni rfl)))))).trans (hid kn_97)
    have kn_99 : Hid (c_70 41 0 = 0) := (hF_72 41 0 (fun q => q.elim (fun h => absurd h.2 (ni rfl)) (fun q => q.elim (fun h => absurd h.2 (ni rfl)) (fun q => q.elim (fun h => absurd h.2 (ni rfl)) (fun q => q.elim (fun h => absurd h.2 (ni rfl)) (fun q => q.elim (fun h => absurd h.2 (ni rfl)) (fun q => q.elim (fun h => absurd h.2 (ni rfl)) (fun q => q.elim (fun h => absurd h.2 (ni rfl)) (fun q => q.elim (fun h => absurd h (nn rfl)) (fun q => q.elim (fun h => absurd h (nn rfl)) (fun h => absurd h (nn rfl)))))))))))).trans (hid kn_98)
    have h_100 : (up c_70 41 8 (c_17 1 5)) 41 0 = 0 := ((up_n (by decide)).trans (hid kn_99))
    have kn_101 : Hid (c_41 41 20 = n0) := (hF_43 41 20 (fun q => q.elim (fun h => absurd h.2 (ni rfl)) (fun q => q.elim (fun h => absurd h.2 (ni rfl)) (fun q => q.elim (fun h => absurd h.2 (ni rfl)) (fun q => q.elim (fun h => absurd h.2 (ni rfl)) (fun q => q.elim (fun h => absurd h.2 (ni rfl)) (fun h => absurd h.2 (ni rfl)))))))).trans ((up_n (by decide)).trans (hr_n0))
    have kn_102 : Hid (c_50 41 20 = n0) := (hF_52 41 20 (fun q => q.elim (fun h => absurd h.2 (ni rfl)) (fun q => q.elim (fun h => absurd h.2 (ni rfl)) (fun q => q.elim (fun h => absurd h.2 (ni rfl)) (fun h => absurd h.2 (ni rfl)))))).trans (hid kn_101)
    have kn_103 : Hid (c_70 41 20 = n0) := (hF_72 41 20 (fun q => q.elim (fun h => absurd h.2 (ni rfl)) (fun q => q.elim (fun h => absurd h.2 (ni rfl)) (fun q => q.elim (fun h => absurd h.2 (ni rfl)) (fun q => q.elim (fun h => absurd h.2 (ni rfl)) (fun q => q.elim (fun h => absurd h.2 (ni rfl)) (fun q => q.elim (fun h => absurd h.2 (ni rfl)) (fun q => q.elim (fun h => absurd h.2 (ni rfl)) (fun q => q.elim (fun h => absurd h (nn rfl)) (fun q => q.elim (fun h => absurd h (nn rfl)) (fun h => absurd h (nn rfl)))))))))))).trans (hid kn_102)
    have h_104 : (up c_70 41 8 (c_17 1 5)) 41 20 = n0 := ((up_n (by decide)).trans (hid kn_103))
    have kn_105 : Hid (c_41 41 21 = n1) := (hF_43 41 21 (fun q => q.elim (fun h => absurd h.2 (ni rfl)) (fun q => q.elim (fun h => absurd h.2 (ni rfl)) (fun q => q.elim (fun h => absurd h.2 (ni rfl)) (fun q => q.elim (fun h => absurd h.2 (ni rfl)) (fun q => q.elim (fun h => absurd h.2 (ni rfl)) (fun h => absurd h.2 (ni rfl)))))))).trans ((up_n (by decide)).trans (hr_n1))
    have kn_106 : Hid (c_50 41 21 = n1) := (hF_52 41 21 (fun q => q.elim (fun h => absurd h.2 (ni rfl)) (fun q => q.elim (fun h => absurd h.2 (ni rfl)) (fun q => q.elim (fun h => absurd h.2 (ni rfl)) (fun h => absurd h.2 (ni rfl)))))).trans (hid kn_105)
    have kn_107 : Hid (c_70 41 21 = n1) := (hF_72 41 21 (fun q => q.elim (fun h => absurd h.2 (ni rfl)) (fun q => q.elim (fun h => absurd h.2 (ni rfl)) (fun q => q.elim (fun h => absurd h.2 (ni rfl)) (fun q => q.elim (fun h => absurd h.2 (ni rfl)) (fun q => q.elim (fun h => absurd h.2 (ni rfl)) (fun q => q.elim (fun h => absurd h.2 (ni rfl)) (fun q => q.elim (fun h => absurd h.2 (ni rfl)) (fun q => q.elim (fun h => absurd h (nn rfl)) (fun q => q.elim (fun h => absurd h (nn rfl)) (fun h => absurd h (nn rfl)))))))))))).trans (hid kn_106)
    have h_108 : (up c_70 41 8 (c_17 1 5)) 41 21 = n1 := ((up_n (by decide)).trans (hid kn_107))
    have kn_109 : Hid (c_41 41 22 = n2) := (hF_43 41 22 (fun q => q.elim (fun h => absurd h.2 (ni rfl)) (fun q => q.elim (fun h => absurd h.2 (ni rfl)) (fun q => q.elim (fun h => absurd h.2 (ni rfl)) (fun q => q.elim (fun h => absurd h.2 (ni rfl)) (fun q => q.elim (fun h => absurd h.2 (ni rfl)) (fun h => absurd h.2 (ni rfl)))))))).trans ((up_n (by decide)).trans (hr_n2))
    have kn_110 : Hid (c_50 41 22 = n2) := (hF_52 41 22 (fun q => q.elim (fun h => absurd h.2 (ni rfl)) (fun q => q.elim (fun h => absurd h.2 (ni rfl)) (fun q => q.elim (fun h => absurd h.2 (ni rfl)) (fun h => absurd h.2 (ni rfl)))))).trans (hid kn_109)
    have kn_111 : Hid (c_70 41 22 = n2) := (hF_72 41 22 (fun q => q.elim (fun h => absurd h.2 (ni rfl)) (fun q => q.elim (fun h => absurd h.2 (ni rfl)) (fun q => q.elim (fun h => absurd h.2 (ni rfl)) (fun q => q.elim (fun h => absurd h.2 (ni rfl)) (fun q => q.elim (fun h => absurd h.2 (ni rfl)) (fun q => q.elim (fun h => absurd h.2 (ni rfl)) (fun q => q.elim (fun h => absurd h.2 (ni rfl)) (fun q => q.elim (fun h => absurd h (nn rfl)) (fun q => q.elim (fun h => absurd h (nn rfl)) (fun h => absurd h (nn rfl)))))))))))).trans (hid kn_110)
    have h_112 : (up c_70 41 8 (c_17 1 5)) 41 22 = n2 := ((up_n (by decide)).trans (hid kn_111))
    have kn_113 : Hid (c_41 41 23 = n3) := (hF_43 41 23 (fun q => q.elim (fun h => absurd h.2 (ni rfl)) (fun q => q.elim (fun h => absurd h.2 (ni rfl)) (fun q => q.elim (fun h => absurd h.2 (ni rfl)) (fun q => q.elim (fun h => absurd h.2 (ni rfl)) (fun q => q.elim (fun h => absurd h.2 (ni rfl)) (fun h => absurd h.2 (ni rfl)))))))).trans ((up_n (by decide)).trans (hr_n3))
    have kn_114 : Hid (c_50 41 23 = n3) := (hF_52 41 23 (fun q => q.elim (fun h => absurd h.2 (ni rfl)) (fun q => q.elim (fun h => absurd h.2 (ni rfl)) (fun q => q.elim (fun h => absurd h.2 (ni rfl)) (fun h => absurd h.2 (ni rfl)))))).trans (hid kn_113)
    have kn_115 : Hid (c_70 41 23 = n3) := (hF_72 41 23 (fun q => q.elim (fun h => absurd h.2 (ni rfl)) (fun q => q.elim (fun h => absurd h.2 (ni rfl)) (fun q => q.elim (fun h => absurd h.2 (ni rfl)) (fun q => q.elim (fun h => absurd h.2 (ni rfl)) (fun q => q.elim (fun h => absurd h.2 (ni rfl)) (fun q => q.elim (fun h => absurd h.2 (ni rfl)) (fun q => q.elim (fun h => absurd h.2 (ni rfl)) (fun q => q.elim (fun h => absurd h (nn rfl)) (fun q => q.elim (fun h => absurd h (nn rfl)) (fun h => absurd h (nn rfl)))))))))))).trans (hid kn_114)
    have h_116 : (up c_70 41 8 (c_17 1 5)) 41 23 = n3 := ((up_n (by decide)).trans (hid kn_115))
    have h_117 : (up c_70 41 8 (c_17 1 5)) 41 21 = n1 := ((up_n (by decide)).trans (hid kn_107))
    have hA_118 : Ae (3 * n1) (c_17 (P + 2)) ((up c_70 41 8 (c_17 1 5)) 48) := ae_fr hr0 (fun j => (hF_19 (P + 2) j (by omega)).trans ((up_c (np hP rfl rfl)).trans ((up_c (np hP rfl rfl)).trans ((up_c (np hP rfl rfl)).trans ((up_c (np hP rfl rfl)).trans (up_c (np hP rfl rfl))))))) (fun j => (up_c (nn rfl)).trans ((hF_72 48 j (fun q => q.elim (fun h => absurd h.1 (nn rfl)) (fun q => q.elim (fun h => absurd h.1 (nn rfl)) (fun q => q.elim (fun h => absurd h.1 (nn rfl)) (fun q => q.elim (fun h => absurd h.1 (nn rfl)) (fun q => q.elim (fun h => absurd h.1 (nn rfl)) (fun q => q.elim (fun h => absurd h.1 (nn rfl)) (fun q => q.elim (fun h => absurd h.1 (nn rfl)) (fun q => q.elim (fun h => absurd h (nn rfl)) (fun q => q.elim (fun h => absurd h (nn rfl)) (fun h => absurd h (nn rfl)))))))))))).trans ((hF_52 48 j (fun q => q.elim (fun h => absurd h.1 (nn rfl)) (fun q => q.elim (fun h => absurd h.1 (nn rfl)) (fun q => q.elim (fun h => absurd h.1 (nn rfl)) (fun h => absurd h.1 (nn rfl)))))).trans ((hF_43 48 j (fun q => q.elim (fun h => absurd h.1 (nn rfl)) (fun q => q.elim (fun h => absurd h.1 (nn rfl)) (fun q => q.elim (fun h => absurd h.1 (nn rfl)) (fun q => q.elim (fun h => absurd h.1 (nn rfl)) (fun q => q.elim (fun h => absurd h.1 (nn rfl)) (fun h => absurd h.1 (nn rfl)))))))).trans (up_c (nn rfl))))))
    have hA_119 : Ae (3 * n1) (m9 (P + 2)) ((up c_70 41 8 (c_17 1 5)) 48) := ae_l hA_118 (fun j h1 h2 => wd_av hW (ck_p2 hP) (ck_p2 hP) (by decide) (by omega) ⟨h1, by omega⟩ rfl (wide (ir_p2 hI_18 hP j) (by decide) (by decide)) (wide (ir_p2 hJ9 hP j) (by decide) (by decide)))
    have h_120 : (up c_70 41 8 (c_17 1 5)) 41 22 = n2 := ((up_n (by decide)).trans (hid kn_111))
    have hA_121 : Ae n2 (c_17 (P + 3)) ((up c_70 41 8 (c_17 1 5)) 49) := ae_fr hr1 (fun j => (hF_19 (P + 3) j (by omega)).trans ((up_c (np hP rfl rfl)).trans ((up_c (np hP rfl rfl)).trans ((up_c (np hP rfl rfl)).trans ((up_c (np hP rfl rfl)).trans (up_c (np hP rfl rfl))))))) (fun j => (up_c (nn rfl)).trans ((hF_72 49 j (fun q => q.elim (fun h => absurd h.1 (nn rfl)) (fun q => q.elim (fun h => absurd h.1 (nn rfl)) (fun q => q.elim (fun h => absurd h.1 (nn rfl)) (fun q => q.elim (fun h => absurd h.1 (nn rfl)) (fun q => q.elim (fun h => absurd h.1 (nn rfl)) (fun q => q.elim (fun h => absurd h.1 (nn rfl)) (fun q => q.elim (fun h => absurd h.1 (nn rfl)) (fun q => q.elim (fun h => absurd h (nn rfl)) (fun q => q.elim (fun h => absurd h (nn rfl)) (fun h => absurd h (nn rfl)))))))))))).trans ((hF_52 49 j (fun q => q.elim (fun h => absurd h.1 (nn rfl)) (fun q => q.elim (fun h => absurd h.1 (nn rfl)) (fun q => q.elim (fun h => absurd h.1 (nn rfl)) (fun h => absurd h.1 (nn rfl)))))).trans ((hF_43 49 j (fun q => q.elim (fun h => absurd h.1 (nn rfl)) (fun q => q.elim (fun h => absurd h.1 (nn rfl)) (fun q => q.elim (fun h => absurd h.1 (nn rfl)) (fun q => q.elim (fun h => absurd h.1 (nn rfl)) (fun q => q.elim (fun h => absurd h.1 (nn rfl)) (fun h => absurd h.1 (nn rfl)))))))).trans (up_c (nn rfl))))))
    have hA_122 : Ae n2 (m9 (P + 3)) ((up c_70 41 8 (c_17 1 5)) 49) := ae_l hA_121 (fun j h1 h2 => wd_av hW (ck_p3 hP) (ck_p3 hP) (by decide) (by omega) ⟨h1, by omega⟩ rfl (wide (ir_p3 hI_18 hP j) (by decide) (by decide)) (wide (ir_p3 hJ9 hP j) (by decide) (by decide)))
    exact K (up c_70 41 8 (c_17 1 5)) (c_17 1 4 - 10) hI_92 (fun a j hm => (up_b (Decidable.or_iff_not_imp_left.mpr (fun h1 h2 => hm (Or.inr (Or.inr (Or.inr (Or.inr (Or.inr (Or.inr (Or.inr (Or.inr (Or.inl ⟨Decidable.not_not.mp h1, h2⟩)))))))))))).trans ((hF_72 a j (fun q => q.elim (fun h => hm (Or.inr (Or.inr (Or.inr (Or.inr (Or.inl h)))))) (fun q => q.elim (fun h => hm (Or.inr (Or.inr (Or.inr (Or.inr (Or.inr (Or.inl h))))))) (fun q => q.elim (fun h => hm (Or.inr (Or.inr (Or.inr (Or.inr (Or.inr (Or.inr (Or.inl h)))))))) (fun q => q.elim (fun h => hm (Or.inr (Or.inr (Or.inr (Or.inr (Or.inr (Or.inr (Or.inr (Or.inr (Or.inr (Or.inl h))))))))))) (fun q => q.elim (fun h => hm (Or.inr (Or.inr (Or.inr (Or.inr (Or.inr (Or.inr (Or.inr (Or.inr (Or.inr (Or.inr (Or.inl h)))))))))))) (fun q => q.elim (fun h => hm (Or.inr (Or.inr (Or.inr (Or.inr (Or.inr (Or.inr (Or.inr (Or.inr (Or.inr (Or.inr (Or.inr (Or.inl h))))))))))))) (fun q => q.elim (fun h => hm (Or.inr (Or.inr (Or.inr (Or.inr (Or.inr (Or.inr (Or.inr (Or.inr (Or.inr (Or.inr (Or.inr (Or.inr (Or.inl h)))))))))))))) (fun q => q.elim (fun h => hm (Or.inr (Or.inr (Or.inr (Or.inr (Or.inr (Or.inr (Or.inr (Or.inr (Or.inr (Or.inr (Or.inr (Or.inr (Or.inr (Or.inl h))))))))))))))) (fun q => q.elim (fun h => hm (Or.inr (Or.inr (Or.inr (Or.inr (Or.inr (Or.inr (Or.inr (Or.inr (Or.inr (Or.inr (Or.inr (Or.inr (Or.inr (Or.inr (Or.inl h)))))))))))))))) (fun h => hm (Or.inr (Or.inr (Or.inr (Or.inr (Or.inr (Or.inr (Or.inr (Or.inr (Or.inr (Or.inr (Or.inr (Or.inr (Or.inr (Or.inr (Or.inr (Or.inl h))))))))))))))))))))))))))).trans ((hF_52 a j (fun q => q.elim (fun h => hm (Or.inr (Or.inr (Or.inr (Or.inr (Or.inr (Or.inr (Or.inr (Or.inr (Or.inr (Or.inl h))))))))))) (fun q => q.elim (fun h => hm (Or.inr (Or.inr (Or.inr (Or.inr (Or.inr (Or.inr (Or.inr (Or.inr (Or.inr (Or.inr (Or.inl h)))))))))))) (fun q => q.elim (fun h => hm (Or.inr (Or.inr (Or.inr (Or.inr (Or.inr (Or.inr (Or.inr (Or.inr (Or.inr (Or.inr (Or.inr (Or.inl h))))))))))))) (fun h => hm (Or.inr (Or.inr (Or.inr (Or.inr (Or.inr (Or.inr (Or.inr (Or.inr (Or.inr (Or.inr (Or.inr (Or.inr (Or.inl h)))))))))))))))))).trans ((hF_43 a j (fun q => q.elim (fun h => hm (Or.inr (Or.inr (Or.inl h)))) (fun q => q.elim (fun h => hm (Or.inr (Or.inr (Or.inr (Or.inl h))))) (fun q => q.elim (fun h => hm (Or.inr (Or.inr (Or.inr (Or.inr (Or.inl h)))))) (fun q => q.elim (fun h => hm (Or.inr (Or.inr (Or.inr (Or.inr (Or.inr (Or.inl h))))))) (fun q => q.elim (fun h => hm (Or.inr (Or.inr (Or.inr (Or.inr (Or.inr (Or.inr (Or.inr (Or.inl h))))))))) (fun h => hm (Or.inr (Or.inr (Or.inr (Or.inr (Or.inr (Or.inr (Or.inr (Or.inr (Or.inl h)))))))))))))))).trans (up_b (Decidable.or_iff_not_imp_left.mpr (fun h1 h2 => hm (Or.inl ⟨Decidable.not_not.mp h1, h2⟩)))))))) ⟨by omega, by omega⟩ (by first | (clear h_1 h_2 h_3 h_4 h_5 h_6 h_7 h_8 h_9 h_10 h_26 h_27 h_28 h_29 h_30 h_32 h_33 h_35 h_36 h_38 h_39 h_45 h_46 h_47 h_48 h_49 h_44 h_54 h_55 h_56 h_57 h_53 h_66 h_79 h_80 h_81 h_82 h_83 h_84 h_85 h_86 h_87 h_88 h_89 h_90; omega) | omega) (by first | (clear h_1 h_2 h_3 h_4 h_5 h_6 h_7 h_8 h_9 h_10 h_21 h_25 h_26 h_27 h_28 h_29 h_30 h_32 h_33 h_35 h_36 h_38 h_39 h_46 h_47 h_48 h_49 h_54 h_55 h_56 h_57 h_53 h_66 h_79 h_80 h_81 h_82 h_83 h_84 h_85 h_86 h_87 h_88 h_89 h_90 h_91 h_22 h_75; omega) | omega) (by first | (clear h_1 h_2 h_3 h_4 h_5 h_6 h_7 h_8 h_9 h_10 h_21 h_25 h_29 h_30 h_32 h_33 h_35 h_36 h_38 h_39 h_45 h_46 h_47 h_48 h_49 h_44 h_54 h_55 h_56 h_57 h_53 h_66 h_79 h_80 h_81 h_82 h_83 h_84 h_85 h_86 h_87 h_88 h_89 h_90 h_22 h_75; omega) | omega) (by first | (clear h_1 h_2 h_3 h_4 h_5 h_6 h_7 h_8 h_9 h_10 h_21 h_25 h_26 h_27 h_28 h_29 h_30 h_32 h_33 h_35 h_36 h_38 h_39 h_45 h_46 h_47 h_48 h_49 h_44 h_54 h_55 h_56 h_57 h_53 h_66 h_79 h_80 h_81 h_82 h_83 h_84 h_85 h_86 h_87 h_88 h_89 h_90 h_91 h_22 h_75; omega) | omega) (by first | (clear h_1 h_2 h_5 h_6 h_7 h_8 h_9 h_10 h_21 h_25 h_26 h_27 h_28 h_32 h_33 h_35 h_36 h_38 h_39 h_45 h_46 h_47 h_48 h_49 h_44 h_54 h_55 h_56 h_57 h_53 h_66 h_79 h_80 h_81 h_82 h_83 h_84 h_85 h_86 h_87 h_88 h_89 h_90 h_91 h_22 h_75; omega) | omega) (by first | (clear h_1 h_2 h_3 h_4 h_7 h_8 h_9 h_10 h_21 h_25 h_26 h_27 h_28 h_29 h_30 h_35 h_36 h_38 h_39 h_45 h_46 h_47 h_48 h_49 h_44 h_54 h_55 h_56 h_57 h_53 h_66 h_79 h_80 h_81 h_82 h_83 h_84 h_85 h_86 h_87 h_88 h_89 h_90 h_91 h_22 h_75; omega) | omega) (by first | (clear h_1 h_2 h_3 h_4 h_5 h_6 h_9 h_10 h_21 h_25 h_26 h_27 h_28 h_29 h_30 h_32 h_33 h_38 h_39 h_45 h_46 h_47 h_48 h_49 h_44 h_54 h_55 h_56 h_57 h_53 h_66 h_79 h_80 h_81 h_82 h_83 h_84 h_85 h_86 h_87 h_88 h_89 h_90 h_91 h_22 h_75; omega) | omega) (by first | (clear h_1 h_2 h_3 h_4 h_5 h_6 h_7 h_8 h_21 h_25 h_26 h_27 h_28 h_29 h_30 h_32 h_33 h_35 h_36 h_45 h_46 h_47 h_48 h_49 h_44 h_54 h_55 h_56 h_57 h_53 h_66 h_79 h_80 h_81 h_82 h_83 h_84 h_85 h_86 h_87 h_88 h_89 h_90 h_91 h_22 h_75; omega) | omega) (ae_le hA_119 (by omega)) (ae_le hA_122 (by omega))
  · refine v_if_ne_f (t := 11) rfl (by decide) (Decidable.not_not.mp h_22) ?_
    refine q_iconst rfl ?_
    refine q_goto (t := 12) rfl (by decide) ?_
    refine v_zret rfl rfl (by decide) ?_
    refine bk_inl ?_
    refine v_if_eq_f (t := 81) rfl (by decide) (by decide) ?_
    refine q_aload_n rfl rfl ?_
    refine v_gr (t := P) rfl rfl rfl (by decide) rfl ?_
    refine q_astore_n rfl (by decide) ?_
    refine q_aload_n rfl rfl ?_
    refine q_aload_n rfl rfl ?_
    refine v_gr (t := Q) rfl rfl rfl (by decide) rfl ?_
    refine v_pr (P' := Q) (Q' := Q) (N' := P) (T' := P) rfl rfl rfl rfl (by decide) (Nat.lt_of_succ_le (Nat.le_of_ble_eq_true rfl)) (fun c => rfl) rfl (by decide) (fun b hb => ck_x0 hb) ?_
    refine q_aload_n rfl rfl ?_
    refine q_aload_n rfl rfl ?_
    refine v_pr (P' := Q) (Q' := P) (N' := P) (T' := P) rfl rfl rfl rfl (by decide) (Nat.lt_of_succ_le (Nat.le_of_ble_eq_true rfl)) (fun c => rfl) rfl (by decide) (fun b hb => ck_x0 hb) ?_
    refine Wp_ls [(0, .ref 0)] (lsub_cons rfl lsub_nil) ?_
    have h_123 := ir_p0_0 hI_18 hQ
    refine s_84u (P := Q) (Q := P) (iv_swap hI_18) (fun c_124 y_125 hI_126 hF_127 hy_128 h_129 h_130 => ?_)
    have h_131 := ir_3_3 hI_126
    have h_132 := ir_3_4 hI_126
    have h_133 := ir_0_11 hI_126
    intro hE_134
    have h_135 : yg = y_125 := (vi_inj ⟨by omega, by omega⟩ ⟨by omega, by omega⟩ (Option.some.inj (Sum.inl.inj (Prod.mk.inj hE_134).1))).symm
    have hW : Wd Q P Q Q c_124 = Wd P9 Q9 P9 P9 m9 := (Prod.mk.inj (Prod.mk.inj hE_134).2).1
    obtain ⟨hp9, hq9⟩ := wd_pq hW
    subst hp9
    subst hq9
    have h_136 := ir_1_5 hI_18
    have kn_137 : Hid (c_124 1 5 = c_17 1 5) := hF_127 1 5 (fun q => q.elim (fun h => absurd h (nn rfl)) (fun q => q.elim (fun h => absurd h (nn rfl)) (fun q => q.elim (fun h => absurd h.1 (nn rfl)) (fun q => q.elim (fun h => absurd h.1 (nn rfl)) (fun h => absurd h.1 (nn rfl))))))
    have h_138 := ir_1_5 hJ9
    have h_139 : m9 1 5 = c_17 1 5 := wd_fv (z := 5) 5 rfl hW rfl rfl rfl rfl (by decide) (hid kn_137) ⟨by first | (clear h_1 h_2 h_3 h_4 h_5 h_6 h_7 h_8 h_9 h_10 h_21 h_123 h_131 h_132 h_133 h_135 h_138; omega) | omega, by first | (clear h_1 h_2 h_3 h_4 h_5 h_6 h_7 h_8 h_9 h_10 h_21 h_123 h_131 h_132 h_133 h_135 h_138; omega) | omega⟩ ⟨(Int.le_trans (by decide) h_138.1), (Int.le_trans h_138.2 (by decide))⟩
    have kn_140 : Hid (c_124 Q 0 = c_17 Q 0) := hF_127 Q 0 (fun q => q.elim (fun h => absurd h (np0 hQ rfl)) (fun q => q.elim (fun h => absurd h (np0 hQ rfl)) (fun q => q.elim (fun h => absurd h.1 (np0 hQ rfl)) (fun q => q.elim (fun h => absurd h.1 (np0 hQ rfl)) (fun h => absurd h.1 (np0 hQ rfl))))))
    have h_141 := ir_p0_0 hJ9 hQ
    have h_142 : m9 Q 0 = c_17 Q 0 := wd_fv (z := 0) 0 rfl hW (ck_A hQ) (ck_A hQ) rfl rfl (by omega) (hid kn_140) ⟨by omega, by omega⟩ ⟨by omega, by omega⟩
    have h_143 := ir_p0_1 hI_18 hQ
    have kn_144 : Hid (c_124 Q 1 = c_17 Q 1) := hF_127 Q 1 (fun q => q.elim (fun h => absurd h (np0 hQ rfl)) (fun q => q.elim (fun h => absurd h (np0 hQ rfl)) (fun q => q.elim (fun h => absurd h.1 (np0 hQ rfl)) (fun q => q.elim (fun h => absurd h.1 (np0 hQ rfl)) (fun h => absurd h.1 (np0 hQ rfl))))))
    have h_145 := ir_p0_1 hJ9 hQ
    have h_146 : m9 Q 1 = c_17 Q 1 := wd_fv (z := 1) 1 rfl hW (ck_A hQ) (ck_A hQ) rfl rfl (by omega) (hid kn_144) ⟨by omega, by omega⟩ ⟨by omega, by omega⟩
    have h_147 := ir_p0_2 hI_18 hQ
    have kn_148 : Hid (c_124 Q 2 = c_17 Q 2) := hF_127 Q 2 (fun q => q.elim (fun h => absurd h (np0 hQ rfl)) (fun q => q.elim (fun h => absurd h (np0 hQ rfl)) (fun q => q.elim (fun h => absurd h.1 (np0 hQ rfl)) (fun q => q.elim (fun h => absurd h.1 (np0 hQ rfl)) (fun h => absurd h.1 (np0 hQ rfl))))))
    have h_149 := ir_p0_2 hJ9 hQ
    have h_150 : m9 Q 2 = c_17 Q 2 := wd_fv (z := 2) 2 rfl hW (ck_A hQ) (ck_A hQ) rfl rfl (by omega) (hid kn_148) ⟨by omega, by omega⟩ ⟨by omega, by omega⟩
    have h_151 := ir_p0_3 hI_18 hQ
    have kn_152 : Hid (c_124 Q 3 = c_17 Q 3) := hF_127 Q 3 (fun q => q.elim (fun h => absurd h (np0 hQ rfl)) (fun q => q.elim (fun h => absurd h (np0 hQ rfl)) (fun q => q.elim (fun h => absurd h.1 (np0 hQ rfl)) (fun q => q.elim (fun h => absurd h.1 (np0 hQ rfl)) (fun h => absurd h.1 (np0 hQ rfl))))))
    have h_153 := ir_p0_3 hJ9 hQ
    have h_154 : m9 Q 3 = c_17 Q 3 := wd_fv (z := 3) 3 rfl hW (ck_A hQ) (ck_A hQ) rfl rfl (by omega) (hid kn_152) ⟨by omega, by omega⟩ ⟨by omega, by omega⟩
    refine q_aload_n rfl rfl ?_
    refine q_iconst rfl ?_
    refine v_pi (z := 0) rfl rfl rfl (by decide) rfl rfl rfl (by decide) ?_
    refine q_aload_n rfl rfl ?_
    refine q_iload_n rfl rfl ?_
    refine v_if_lt_f (t := 22) rfl (by decide) ⟨by decide, by first | (clear h_1 h_2 h_3 h_4 h_5 h_6 h_7 h_8 h_9 h_10 h_21 h_123 h_131 h_132 h_133 h_135 h_136 h_138 h_139 h_141 h_142 h_143 h_145 h_146 h_147 h_149 h_150 h_151 h_153 h_154; omega) | omega, ha1.2⟩ ?_
    refine q_iload_n rfl rfl ?_
    refine q_aload_n rfl rfl ?_
    refine v_gi (z := 2) (v := t9) rfl rfl rfl (by decide) rfl rfl ((up_n (by decide)).trans (hr_t9)) ?_
    refine v_ic_gt_f (t := 22) rfl (by decide) ⟨ha1.1, by first | (clear h_1 h_2 h_3 h_4 h_5 h_6 h_7 h_8 h_9 h_10 h_21 h_123 h_131 h_132 h_133 h_135 h_136 h_138 h_139 h_141 h_142 h_143 h_145 h_146 h_147 h_149 h_150 h_151 h_153 h_154; omega) | omega, (Int.le_trans (rg_eq hg_t9 h_1).2 (by decide))⟩ ?_
    refine q_iconst rfl ?_
    refine q_goto (t := 23) rfl (by decide) ?_
    refine q_iconst rfl ?_
    refine q_iconst rfl ?_
    refine v_cv rfl rfl rfl rfl (by decide) ⟨⟨rfl, rfl⟩, by decide, rfl⟩ (Nat.le_of_ble_eq_true rfl) (Nat.le_of_ble_eq_true rfl) ?_
    refine q_iload_n rfl rfl ?_
    refine v_if_ne_t (t := 26) rfl (by decide) (by decide) ?_
    refine q_aload_n rfl rfl ?_
    refine v_gi (z := 0) (v := 0) rfl rfl rfl (by decide) rfl rfl (up_e rfl) ?_
    refine v_if_ne_f (t := 37) rfl (by decide) (by decide) ?_
    refine q_iconst rfl ?_
    refine q_goto (t := 38) rfl (by decide) ?_
    refine v_zret rfl rfl (by decide) ?_
    refine bk_inl ?_
    refine v_if_ne_t (t := 33) rfl (by decide) (by decide) ?_
    refine q_aload_n rfl rfl ?_
    refine q_iload_n rfl rfl ?_
    have hI_155 := iw_41_0 (v := 0) hI ⟨by decide, by decide⟩
    refine v_cv rfl rfl rfl rfl (by decide) ⟨⟨rfl, rfl⟩, by decide, rfl⟩ (Nat.le_of_ble_eq_true rfl) (Nat.le_of_ble_eq_true rfl) (s_163 (a1 := a1) hI_155 (show 0 ≤ a1 ∧ a1 ≤ 600 from ⟨by first | (clear h_1 h_2 h_3 h_4 h_5 h_6 h_7 h_8 h_9 h_10 h_21 h_123 h_131 h_132 h_133 h_135 h_136 h_138 h_139 h_141 h_142 h_143 h_145 h_146 h_147 h_149 h_150 h_151 h_153 h_154; omega) | omega, by first | (clear h_1 h_2 h_3 h_4 h_5 h_6 h_7 h_8 h_9 h_10 h_21 h_123 h_131 h_132 h_133 h_135 h_136 h_138 h_139 h_141 h_142 h_143 h_145 h_146 h_147 h_149 h_150 h_151 h_153 h_154; omega) | omega⟩) (fun c_156 hI_157 hF_158 h_159 => ?_))
    refine bk_inl ?_
    have h_160 := ir_41_2 hI_157
    have h_161 := ir_41_3 hI_157
    have h_162 := ir_41_4 hI_157
    have h_163 := ir_41_5 hI_157
    have h_164 := ir_41_7 hI_157
    refine q_aload_n rfl rfl ?_
    refine v_cv rfl rfl rfl rfl (by decide) ⟨⟨rfl, rfl⟩, by decide, rfl⟩ (Nat.le_of_ble_eq_true rfl) (Nat.le_of_ble_eq_true rfl) (s_147 hI_157 (fun c_165 hI_166 hF_167 h_168 => ?_))
    refine bk_inl ?_
    have h_169 := ir_41_16 hI_166
    have h_170 := ir_41_17 hI_166
    have h_171 := ir_41_18 hI_166
    have h_172 := ir_41_19 hI_166
    refine q_iconst rfl ?_
    refine q_istore_n rfl (by decide) ?_
    refine Wp_ls [(0, .ref 41), (1, vi a1), (2, vi 0)] (lsub_cons rfl (lsub_cons rfl (lsub_cons rfl lsub_nil))) ?_
    have kn_173 : Hid (c_165 41 3 = c_156 41 3) := hF_167 41 3 (fun q => q.elim (fun h => absurd h.2 (ni rfl)) (fun q => q.elim (fun h => absurd h.2 (ni rfl)) (fun q => q.elim (fun h => absurd h.2 (ni rfl)) (fun h => absurd h.2 (ni rfl)))))
    have h_174 : (up (up (up (up (up m 1 1 y_11) 1 2 0) 1 3 0) 1 4 0) 1 5 (-1)) 1 4 = 0 := ((up_n (by decide)).trans (up_e rfl))
    have h_175 : (up (up (up (up (up m 1 1 y_11) 1 2 0) 1 3 0) 1 4 0) 1 5 (-1)) 1 2 = 0 := ((up_n (by decide)).trans ((up_n (by decide)).trans ((up_n (by decide)).trans (up_e rfl))))
    have h_176 : (up (up (up (up (up m 1 1 y_11) 1 2 0) 1 3 0) 1 4 0) 1 5 (-1)) 1 5 = (-1) := (up_e rfl)
    have kn_177 : Hid (c_165 41 5 = c_156 41 5) := hF_167 41 5 (fun q => q.elim (fun h => absurd h.2 (ni rfl)) (fun q => q.elim (fun h => absurd h.2 (ni rfl)) (fun q => q.elim (fun h => absurd h.2 (ni rfl)) (fun h => absurd h.2 (ni rfl)))))
    have h_178 : c_165 41 5 = c_156 41 5 := (hid kn_177)
    have kn_179 : Hid (c_165 41 4 = c_156 41 4) := hF_167 41 4 (fun q => q.elim (fun h => absurd h.2 (ni rfl)) (fun q => q.elim (fun h => absurd h.2 (ni rfl)) (fun q => q.elim (fun h => absurd h.2 (ni rfl)) (fun h => absurd h.2 (ni rfl)))))
    have h_180 : c_165 41 4 = c_156 41 4 := (hid kn_179)
    have h_181 := ir_41_6 hI
    have kn_182 : Hid (c_156 41 6 = c 41 6) := (hF_158 41 6 (fun q => q.elim (fun h => absurd h.2 (ni rfl)) (fun q => q.elim (fun h => absurd h.2 (ni rfl)) (fun q => q.elim (fun h => absurd h.2 (ni rfl)) (fun q => q.elim (fun h => absurd h.2 (ni rfl)) (fun q => q.elim (fun h => absurd h.2 (ni rfl)) (fun h => absurd h.2 (ni rfl)))))))).trans (up_n (by decide))
    have kn_183 : Hid (c_165 41 6 = c 41 6) := (hF_167 41 6 (fun q => q.elim (fun h => absurd h.2 (ni rfl)) (fun q => q.elim (fun h => absurd h.2 (ni rfl)) (fun q => q.elim (fun h => absurd h.2 (ni rfl)) (fun h => absurd h.2 (ni rfl)))))).trans (hid kn_182)
    have h_184 : c_165 41 6 = c 41 6 := (hid kn_183)
    refine L_34a (m := up (up (up (up (up m 1 1 y_11) 1 2 0) 1 3 0) 1 4 0) 1 5 (-1)) (a1 := a1) (e1 := y_11) (f0 := 0) (g0 := (-1)) (z0 := c_165 41 16) (z1 := c_165 41 17) (z2 := c_165 41 18) (z3 := c_165 41 19) (F := F) (H := H) hI_166 hI_16 hI_18 hQ (show (-2147483648) ≤ a1 ∧ a1 ≤ 2147483647 from ha1) (by first | (clear h_1 h_2 h_3 h_4 h_5 h_6 h_7 h_8 h_9 h_10 h_21 h_123 h_131 h_132 h_133 h_135 h_136 h_138 h_139 h_141 h_142 h_143 h_145 h_146 h_147 h_149 h_150 h_151 h_153 h_154 h_160 h_161 h_162 h_163 h_164 h_159 h_169 h_170 h_171 h_172 h_168; omega) | omega) (by first | (clear h_1 h_2 h_3 h_4 h_5 h_6 h_7 h_8 h_9 h_10 h_21 h_123 h_131 h_132 h_133 h_135 h_136 h_138 h_139 h_141 h_142 h_143 h_145 h_146 h_147 h_149 h_150 h_151 h_153 h_154 h_160 h_161 h_162 h_163 h_164 h_159 h_169 h_170 h_171 h_172 h_168; omega) | omega) (by first | (clear h_1 h_2 h_3 h_4 h_5 h_6 h_7 h_8 h_9 h_10 h_21 h_123 h_131 h_132 h_133 h_135 h_136 h_138 h_139 h_141 h_142 h_143 h_145 h_146 h_147 h_149 h_150 h_151 h_153 h_154 h_160 h_161 h_162 h_163 h_164 h_159 h_170 h_171 h_172; omega) | omega) (by first | (clear h_1 h_2 h_3 h_4 h_5 h_6 h_7 h_8 h_9 h_10 h_21 h_123 h_131 h_132 h_133 h_135 h_136 h_138 h_139 h_141 h_142 h_143 h_145 h_146 h_147 h_149 h_150 h_151 h_153 h_154 h_160 h_161 h_162 h_163 h_164 h_159 h_169 h_171 h_172; omega) | omega) (by first | (clear h_1 h_2 h_3 h_4 h_5 h_6 h_7 h_8 h_9 h_10 h_21 h_123 h_131 h_132 h_133 h_135 h_136 h_138 h_139 h_141 h_142 h_143 h_145 h_146 h_147 h_149 h_150 h_151 h_153 h_154 h_160 h_161 h_162 h_163 h_164 h_159 h_169 h_170 h_172; omega) | omega) (by first | (clear h_1 h_2 h_3 h_4 h_5 h_6 h_7 h_8 h_9 h_10 h_21 h_123 h_131 h_132 h_133 h_135 h_136 h_138 h_139 h_141 h_142 h_143 h_145 h_146 h_147 h_149 h_150 h_151 h_153 h_154 h_160 h_161 h_162 h_163 h_164 h_159 h_169 h_170 h_171; omega) | omega) (((up_n (by decide)).trans ((up_n (by decide)).trans ((up_n (by decide)).trans ((up_n (by decide)).trans (up_e rfl)))))) (((show _ = c_156 41 3 from (hid kn_173)).trans (by omega))) (((up_n (by decide)).trans (up_e rfl))) ((up_e rfl)) (rfl) (rfl) (rfl) (rfl) (fun j => ((up_c (nn rfl)).trans ((up_c (nn rfl)).trans ((up_c (nn rfl)).trans ((up_c (nn rfl)).trans (up_c (nn rfl)))))).trans (hF j)) (fun j => ((hF_167 43 j (fun q => q.elim (fun h => absurd h.1 (nn rfl)) (fun q => q.elim (fun h => absurd h.1 (nn rfl)) (fun q => q.elim (fun h => absurd h.1 (nn rfl)) (fun h => absurd h.1 (nn rfl)))))).trans ((hF_158 43 j (fun q => q.elim (fun h => absurd h.1 (nn rfl)) (fun q => q.elim (fun h => absurd h.1 (nn rfl)) (fun q => q.elim (fun h => absurd h.1 (nn rfl)) (fun q => q.elim (fun h => absurd h.1 (nn rfl)) (fun q => q.elim (fun h => absurd h.1 (nn rfl)) (fun h => absurd h.1 (nn rfl)))))))).trans (up_c (nn rfl)))).trans (hH j)) hU (rt_i1 ⟨by first | (clear h_1 h_2 h_3 h_4 h_5 h_6 h_7 h_8 h_9 h_10 h_21 h_123 h_131 h_132 h_133 h_135 h_136 h_138 h_139 h_141 h_142 h_143 h_145 h_146 h_147 h_149 h_150 h_151 h_153 h_154 h_160 h_161 h_162 h_163 h_164 h_159 h_169 h_170 h_171 h_172 h_168 h_181; omega) | omega, by first | (clear h_1 h_2 h_3 h_4 h_5 h_6 h_7 h_8 h_9 h_10 h_21 h_123 h_131 h_132 h_133 h_135 h_136 h_138 h_139 h_141 h_142 h_143 h_145 h_146 h_147 h_149 h_150 h_151 h_153 h_154 h_160 h_161 h_162 h_164 h_169 h_170 h_171 h_172 h_168 h_181; omega) | omega, by first | (clear h_1 h_2 h_3 h_4 h_5 h_6 h_7 h_8 h_9 h_10 h_21 h_123 h_131 h_132 h_133 h_135 h_136 h_138 h_139 h_141 h_142 h_143 h_145 h_146 h_147 h_149 h_150 h_151 h_153 h_154 h_160 h_161 h_163 h_164 h_169 h_170 h_171 h_172 h_168 h_181; omega) | omega, by first | (clear h_1 h_2 h_3 h_4 h_5 h_6 h_7 h_8 h_9 h_10 h_21 h_123 h_131 h_132 h_133 h_135 h_136 h_138 h_139 h_141 h_142 h_143 h_145 h_146 h_147 h_149 h_150 h_151 h_153 h_154 h_160 h_161 h_162 h_163 h_164 h_159 h_169 h_170 h_171 h_172 h_168 h_181; omega) | omega⟩) hG_20 (fun c_185 hI_186 hF_187 hR_189 h_190 hA_191 hA_192 hA_193 => ?_)
    have h_194 := ir_41_16 hI_186
    have h_195 := ir_41_17 hI_186
    have h_196 := ir_41_18 hI_186
    have h_197 := ir_41_19 hI_186
    refine q_aload_n rfl rfl ?_
    refine q_aload_n rfl rfl ?_
    refine v_gi (z := 16) (v := c_185 41 16) rfl rfl rfl (by decide) rfl rfl rfl ?_
    refine v_cv rfl rfl rfl rfl (by decide) ⟨⟨rfl, rfl⟩, by decide, rfl⟩ (Nat.le_of_ble_eq_true rfl) (Nat.le_of_ble_eq_true rfl) ?_
    refine q_aload_n rfl rfl ?_
    refine q_aload_n rfl rfl ?_
    have h_198 := ir_41_5 hI_186
    have h_199 := ir_1_2 hI_18
    have h_200 := ir_41_4 hI_186
    have h_201 := ir_41_6 hI_186
    have h_202 := rt_ok hR_189 (by omega)
    have hro_hR_189 := rt_ok hR_189 (by omega)
    refine v_gi (z := 5) (v := (-1)) rfl rfl rfl (by decide) rfl rfl hro_hR_189.2.1 ?_
    refine v_pi (z := 8) rfl rfl rfl (by decide) rfl rfl rfl (by decide) ?_
    refine q_aload_n rfl rfl ?_
    refine v_cv rfl rfl rfl rfl (by decide) ⟨⟨rfl, rfl⟩, by decide, rfl⟩ (Nat.le_of_ble_eq_true rfl) (Nat.le_of_ble_eq_true rfl) ?_
    refine q_aload_n rfl rfl ?_
    refine v_gi (z := 5) (v := (-1)) rfl rfl rfl (by decide) rfl rfl (((up_n (by decide))).trans (hro_hR_189.2.1)) ?_
    refine q_iconst rfl ?_
    refine v_ic_ne_f (t := 12) rfl (by decide) (by decide) ?_
    refine q_iconst rfl ?_
    refine q_goto (t := 13) rfl (by decide) ?_
    refine v_zret rfl rfl (by decide) ?_
    refine bk_inl ?_
    refine v_if_eq_f (t := 19) rfl (by decide) (by decide) ?_
    refine q_iload_n rfl rfl ?_
    refine q_goto (t := 26) rfl (by decide) ?_
    refine q_iret rfl rfl ?_
    refine bk_inl ?_
    refine q_istore_n rfl (by decide) ?_
    refine q_aload_n rfl rfl ?_
    refine v_gi (z := 5) (v := (-1)) rfl rfl rfl (by decide) rfl rfl (((up_n (by decide))).trans (hro_hR_189.2.1)) ?_
    refine q_iconst rfl ?_
    refine v_ic_ne_f (t := 157) rfl (by decide) (by decide) ?_
    refine q_aload_n rfl rfl ?_
    have hI_203 := iw_41_8 (v := (-1)) hI_186 ⟨by decide, by decide⟩
    have h_204 : (up c_185 41 8 (-1)) 41 16 = c_185 41 16 := (up_n (by decide))
    have h_205 : (up c_185 41 8 (-1)) 41 17 = c_185 41 17 := (up_n (by decide))
    have h_206 : (up c_185 41 8 (-1)) 41 18 = c_185 41 18 := (up_n (by decide))
    have h_207 : (up c_185 41 8 (-1)) 41 19 = c_185 41 19 := (up_n (by decide))
    refine v_cv rfl rfl rfl rfl (by decide) ⟨⟨rfl, rfl⟩, by decide, rfl⟩ (Nat.le_of_ble_eq_true rfl) (Nat.le_of_ble_eq_true rfl) (s_149x (iv_open hI_203) (fun c_208 hI_209 hF_210 h_211 h_212 h_213 h_214 => ?_))
    refine bk_inl ?_
    have h_215 := ir_41_20 hI_209
    have h_216 := ir_41_21 hI_209
    have h_217 := ir_41_22 hI_209
    have h_218 := ir_41_23 hI_209
    have h_219 := ir_41_30 hI_209
    have h_220 := ir_41_35 hI_209
    have h_221 := ir_41_36 hI_209
    have h_222 := ir_41_47 hI_209
    have h_223 := ir_41_48 hI_209
    have h_224 := ir_41_52 hI_209
    refine q_iload_n rfl rfl ?_
    refine q_iret rfl rfl ?_
    have kn_225 : Hid (c_165 41 2 = c_156 41 2) := hF_167 41 2 (fun q => q.elim (fun h => absurd h.2 (ni rfl)) (fun q => q.elim (fun h => absurd h.2 (ni rfl)) (fun q => q.elim (fun h => absurd h.2 (ni rfl)) (fun h => absurd h.2 (ni rfl)))))
    have kn_226 : Hid (c_185 41 2 = c_156 41 2) := (hF_187 41 2 (fun q => q.elim (fun h => absurd h.2 (ni rfl)) (fun q => q.elim (fun h => absurd h.2 (ni rfl)) (fun q => q.elim (fun h => absurd h.2 (ni rfl)) (fun q => q.elim (fun h => absurd h.2 (ni rfl)) (fun q => q.elim (fun h => absurd h.2 (ni rfl)) (fun q => q.elim (fun h => absurd h.2 (ni rfl)) (fun q => q.elim (fun h => absurd h.2 (ni rfl)) (fun q => q.elim (fun h => absurd h (nn rfl)) (fun q => q.elim (fun h => absurd h (nn rfl)) (fun h => absurd h (nn rfl)))))))))))).trans (hid kn_225)
    have kn_227 : Hid (c_208 41 2 = c_156 41 2) := (hF_210 41 2 (fun q => q.elim (fun h => absurd h.2 (ni rfl)) (fun q => q.elim (fun h => absurd h.2 (ni rfl)) (fun q => q.elim (fun h => absurd h.2 (ni rfl)) (fun q => q.elim (fun h => absurd h.2 (ni rfl)) (fun q => q.elim (fun h => absurd h.2 (ni rfl)) (fun q => q.elim (fun h => absurd h.2 (ni rfl)) (fun q => q.elim (fun h => absurd h.2 (ni rfl)) (fun q => q.elim (fun h => absurd h.2 (ni rfl)) (fun q => q.elim (fun h => absurd h.2 (ni rfl)) (fun q => q.elim (fun h => absurd h.2 (ni rfl)) (fun q => q.elim (fun h => absurd h (nn rfl)) (fun q => q.elim (fun h => absurd h (nn rfl)) (fun q => q.elim (fun h => absurd h (nn rfl)) (fun q => q.elim (fun h => absurd h (nn rfl)) (fun h => absurd h (nn rfl))))))))))))))))).trans ((up_n (by decide)).trans (hid kn_226))
    have h_228 : c_208 41 2 = c_156 41 2 := (hid kn_227)
    have kn_229 : Hid (c_208 41 8 = (-1)) := (hF_210 41 8 (fun q => q.elim (fun h => absurd h.2 (ni rfl)) (fun q => q.elim (fun h => absurd h.2 (ni rfl)) (fun q => q.elim (fun h => absurd h.2 (ni rfl)) (fun q => q.elim (fun h => absurd h.2 (ni rfl)) (fun q => q.elim (fun h => absurd h.2 (ni rfl)) (fun q => q.elim (fun h => absurd h.2 (ni rfl)) (fun q => q.elim (fun h => absurd h.2 (ni rfl)) (fun q => q.elim (fun h => absurd h.2 (ni rfl)) (fun q => q.elim (fun h => absurd h.2 (ni rfl)) (fun q => q.elim (fun h => absurd h.2 (ni rfl)) (fun q => q.elim (fun h => absurd h (nn rfl)) (fun q => q.elim (fun h => absurd h (nn rfl)) (fun q => q.elim (fun h => absurd h (nn rfl)) (fun q => q.elim (fun h => absurd h (nn rfl)) (fun h => absurd h (nn rfl))))))))))))))))).trans (up_e rfl)
    have h_230 : c_208 41 8 = (-1) := (hid kn_229)
    have kn_231 : Hid (c_156 41 0 = 0) := (hF_158 41 0 (fun q => q.elim (fun h => absurd h.2 (ni rfl)) (fun q => q.elim (fun h => absurd h.2 (ni rfl)) (fun q => q.elim (fun h => absurd h.2 (ni rfl)) (fun q => q.elim (fun h => absurd h.2 (ni rfl)) (fun q => q.elim (fun h => absurd h.2 (ni rfl)) (fun h => absurd h.2 (ni rfl)))))))).trans (up_e rfl)
    have kn_232 : Hid (c_165 41 0 = 0) := (hF_167 41 0 (fun q => q.elim (fun h => absurd h.2 (ni rfl)) (fun q => q.elim (fun h => absurd h.2 (ni rfl)) (fun q => q.elim (fun h => absurd h.2 (ni rfl)) (fun h => absurd h.2 (ni rfl)))))).trans (hid kn_231)
    have kn_233 : Hid (c_185 41 0 = 0) := (hF_187 41 0 (fun q => q.elim (fun h => absurd h.2 (ni rfl)) (fun q => q.elim (fun h => absurd h.2 (ni rfl)) (fun q => q.elim (fun h => absurd h.2 (ni rfl)) (fun q => q.elim (fun h => absurd h.2 (ni rfl)) (fun q => q.elim (fun h => absurd h.2 (ni rfl)) (fun q => q.elim (fun h => absurd h.2 (ni rfl)) (fun q => q.elim (fun h => absurd h.2 (ni rfl)) (fun q => q.elim (fun h => absurd h (nn rfl)) (fun q => q.elim (fun h => absurd h (nn rfl)) (fun h => absurd h (nn rfl)))))))))))).trans (hid kn_232)
    have kn_234 : Hid (c_208 41 0 = 0) := (hF_210 41 0 (fun q => q.elim (fun h => absurd h.2 (ni rfl)) (fun q => q.elim (fun h => absurd h.2 (ni rfl)) (fun q => q.elim (fun h => absurd h.2 (ni rfl)) (fun q => q.elim (fun h => absurd h.2 (ni rfl)) (fun q => q.elim (fun h => absurd h.2 (ni rfl)) (fun q => q.elim (fun h => absurd h.2 (ni rfl)) (fun q => q.elim (fun h => absurd h.2 (ni rfl)) (fun q => q.elim (fun h => absurd h.2 (ni rfl)) (fun q => q.elim (fun h => absurd h.2 (ni rfl)) (fun q => q.elim (fun h => absurd h.2 (ni rfl)) (fun q => q.elim (fun h => absurd h (nn rfl)) (fun q => q.elim (fun h => absurd h (nn rfl)) (fun q => q.elim (fun h => absurd h (nn rfl)) (fun q => q.elim (fun h => absurd h (nn rfl)) (fun h => absurd h (nn rfl))))))))))))))))).trans ((up_n (by decide)).trans (hid kn_233))
    have h_235 : c_208 41 0 = 0 := (hid kn_234)
    have hA_236 : Ae (3 * c_185 41 17) (c_124 (Q + 2)) ((up c_185 41 8 (-1)) 45) := ae_fr (hA_192 (by omega)) (fun j => hF_127 (Q + 2) j (fun q => q.elim (fun h => absurd h (np hQ rfl rfl)) (fun q => q.elim (fun h => absurd h (np hQ rfl rfl)) (fun q => q.elim (fun h => absurd h.1 (np hQ rfl rfl)) (fun q => q.elim (fun h => absurd h.1 (np hQ rfl rfl)) (fun h => absurd h.1 (np hQ rfl rfl))))))) (fun j => up_c (nn rfl))
    have hA_237 : Ae (3 * c_208 41 21) (c_124 (Q + 2)) ((up c_185 41 8 (-1)) 45) := ae_le hA_236 (by omega)
    have hA_238 : Ae (3 * c_208 41 21) (c_124 (Q + 2)) (c_208 48) := ae_cp hA_237 (fun j h1 h2 => h_213 j (by omega) (by omega))
    have hA_239 : Ae (3 * c_208 41 21) (m9 (Q + 2)) (c_208 48) := ae_l hA_238 (fun j h1 h2 => wd_av hW (ck_p2 hQ) (ck_p2 hQ) (by decide) (by omega) ⟨h1, by omega⟩ rfl (wide (ir_p2 hI_126 hQ j) (by decide) (by decide)) (wide (ir_p2 hJ9 hQ j) (by decide) (by decide)))
    have hA_240 : Ae (c_185 41 18) (c_124 (Q + 3)) ((up c_185 41 8 (-1)) 46) := ae_fr (hA_193 (by omega)) (fun j => hF_127 (Q + 3) j (fun q => q.elim (fun h => absurd h (np hQ rfl rfl)) (fun q => q.elim (fun h => absurd h (np hQ rfl rfl)) (fun q => q.elim (fun h => absurd h.1 (np hQ rfl rfl)) (fun q => q.elim (fun h => absurd h.1 (np hQ rfl rfl)) (fun h => absurd h.1 (np hQ rfl rfl))))))) (fun j => up_c (nn rfl))
    have hA_241 : Ae (c_208 41 22) (c_124 (Q + 3)) ((up c_185 41 8 (-1)) 46) := ae_le hA_240 (by omega)
    have hA_242 : Ae (c_208 41 22) (c_124 (Q + 3)) (c_208 49) := ae_cp hA_241 (fun j h1 h2 => h_214 j (by omega) (by omega))
    have hA_243 : Ae (c_208 41 22) (m9 (Q + 3)) (c_208 49) := ae_l hA_242 (fun j h1 h2 => wd_av hW (ck_p3 hQ) (ck_p3 hQ) (by decide) (by omega) ⟨h1, by omega⟩ rfl (wide (ir_p3 hI_126 hQ j) (by decide) (by decide)) (wide (ir_p3 hJ9 hQ j) (by decide) (by decide)))
    exact K c_208 (c_185 41 16) hI_209 (fun a j hm => (hF_210 a j (fun q => q.elim (fun h => hm (Or.inr (Or.inr (Or.inr (Or.inr (Or.inr (Or.inr (Or.inr (Or.inr (Or.inr (Or.inr (Or.inr (Or.inr (Or.inr (Or.inr (Or.inr (Or.inr (Or.inl h)))))))))))))))))) (fun q => q.elim (fun h => hm (Or.inr (Or.inr (Or.inr (Or.inr (Or.inr (Or.inr (Or.inr (Or.inr (Or.inr (Or.inr (Or.inr (Or.inr (Or.inr (Or.inr (Or.inr (Or.inr (Or.inr (Or.inl h))))))))))))))))))) (fun q => q.elim (fun h => hm (Or.inr (Or.inr (Or.inr (Or.inr (Or.inr (Or.inr (Or.inr (Or.inr (Or.inr (Or.inr (Or.inr (Or.inr (Or.inr (Or.inr (Or.inr (Or.inr (Or.inr (Or.inr (Or.inl h)))))))))))))))))))) (fun q => q.elim (fun h => hm (Or.inr (Or.inr (Or.inr (Or.inr (Or.inr (Or.inr (Or.inr (Or.inr (Or.inr (Or.inr (Or.inr (Or.inr (Or.inr (Or.inr (Or.inr (Or.inr (Or.inr (Or.inr (Or.inr (Or.inl h))))))))))))))))))))) (fun q => q.elim (fun h => hm (Or.inr (Or.inr (Or.inr (Or.inr (Or.inr (Or.inr (Or.inr (Or.inr (Or.inr (Or.inr (Or.inr (Or.inr (Or.inr (Or.inr (Or.inr (Or.inr (Or.inr (Or.inr (Or.inr (Or.inr (Or.inl h)))))))))))))))))))))) (fun q => q.elim (fun h => hm (Or.inr (Or.inr (Or.inr (Or.inr (Or.inr (Or.inr (Or.inr (Or.inr (Or.inr (Or.inr (Or.inr (Or.inr (Or.inr (Or.inr (Or.inr (Or.inr (Or.inr (Or.inr (Or.inr (Or.inr (Or.inr (Or.inl h))))))))))))))))))))))) (fun q => q.elim (fun h => hm (Or.inr (Or.inr (Or.inr (Or.inr (Or.inr (Or.inr (Or.inr (Or.inr (Or.inr (Or.inr (Or.inr (Or.inr (Or.inr (Or.inr (Or.inr (Or.inr (Or.inr (Or.inr (Or.inr (Or.inr (Or.inr (Or.inr (Or.inl h)))))))))))))))))))))))) (fun q => q.elim (fun h => hm (Or.inr (Or.inr (Or.inr (Or.inr (Or.inr (Or.inr (Or.inr (Or.inr (Or.inr (Or.inr (Or.inr (Or.inr (Or.inr (Or.inr (Or.inr (Or.inr (Or.inr (Or.inr (Or.inr (Or.inr (Or.inr (Or.inr (Or.inr (Or.inl h))))))))))))))))))))))))) (fun q => q.elim (fun h => hm (Or.inr (Or.inr (Or.inr (Or.inr (Or.inr (Or.inr (Or.inr (Or.inr (Or.inr (Or.inr (Or.inr (Or.inr (Or.inr (Or.inr (Or.inr (Or.inr (Or.inr (Or.inr (Or.inr (Or.inr (Or.inr (Or.inr (Or.inr (Or.inr (Or.inl h)))))))))))))))))))))))))) (fun q => q.elim (fun h => hm (Or.inr (Or.inr (Or.inr (Or.inr (Or.inr (Or.inr (Or.inr (Or.inr (Or.inr (Or.inr (Or.inr (Or.inr (Or.inr (Or.inr (Or.inr (Or.inr (Or.inr (Or.inr (Or.inr (Or.inr (Or.inr (Or.inr (Or.inr (Or.inr (Or.inr (Or.inl h))))))))))))))))))))))))))) (fun q => q.elim (fun h => hm (Or.inr (Or.inr (Or.inr (Or.inr (Or.inr (Or.inr (Or.inr (Or.inr (Or.inr (Or.inr (Or.inr (Or.inr (Or.inr (Or.inr (Or.inr (Or.inr (Or.inr (Or.inr (Or.inr (Or.inr (Or.inr (Or.inr (Or.inr (Or.inr (Or.inr (Or.inr (Or.inl h)))))))))))))))))))))))))))) (fun q => q.elim (fun h => hm (Or.inr (Or.inr (Or.inr (Or.inr (Or.inr (Or.inr (Or.inr (Or.inr (Or.inr (Or.inr (Or.inr (Or.inr (Or.inr (Or.inr (Or.inr (Or.inr (Or.inr (Or.inr (Or.inr (Or.inr (Or.inr (Or.inr (Or.inr (Or.inr (Or.inr (Or.inr (Or.inr (Or.inl h))))))))))))))))))))))))))))) (fun q => q.elim (fun h => hm (Or.inr (Or.inr (Or.inr (Or.inr (Or.inr (Or.inr (Or.inr (Or.inr (Or.inr (Or.inr (Or.inr (Or.inr (Or.inr (Or.inr (Or.inr (Or.inr (Or.inr (Or.inr (Or.inr (Or.inr (Or.inr (Or.inr (Or.inr (Or.inr (Or.inr (Or.inr (Or.inr (Or.inr (Or.inl h)))))))))))))))))))))))))))))) (fun q => q.elim (fun h => hm (Or.inr (Or.inr (Or.inr (Or.inr (Or.inr (Or.inr (Or.inr (Or.inr (Or.inr (Or.inr (Or.inr (Or.inr (Or.inr (Or.inr (Or.inr (Or.inr (Or.inr (Or.inr (Or.inr (Or.inr (Or.inr (Or.inr (Or.inr (Or.inr (Or.inr (Or.inr (Or.inr (Or.inr (Or.inr (Or.inl h))))))))))))))))))))))))))))))) (fun h => hm (Or.inr (Or.inr (Or.inr (Or.inr (Or.inr (Or.inr (Or.inr (Or.inr (Or.inr (Or.inr (Or.inr (Or.inr (Or.inr (Or.inr (Or.inr (Or.inr (Or.inr (Or.inr (Or.inr (Or.inr (Or.inr (Or.inr (Or.inr (Or.inr (Or.inr (Or.inr (Or.inr (Or.inr (Or.inr (Or.inr h)))))))))))))))))))))))))))))))))))))))))))))).trans ((up_b (Decidable.or_iff_not_imp_left.mpr (fun h1 h2 => hm (Or.inr (Or.inr (Or.inr (Or.inr (Or.inr (Or.inr (Or.inr (Or.inr (Or.inl ⟨Decidable.not_not.mp h1, h2⟩)))))))))))).trans ((hF_187 a j (fun q => q.elim (fun h => hm (Or.inr (Or.inr (Or.inr (Or.inr (Or.inl h)))))) (fun q => q.elim (fun h => hm (Or.inr (Or.inr (Or.inr (Or.inr (Or.inr (Or.inl h))))))) (fun q => q.elim (fun h => hm (Or.inr (Or.inr (Or.inr (Or.inr (Or.inr (Or.inr (Or.inl h)))))))) (fun q => q.elim (fun h => hm (Or.inr (Or.inr (Or.inr (Or.inr (Or.inr (Or.inr (Or.inr (Or.inr (Or.inr (Or.inl h))))))))))) (fun q => q.elim (fun h => hm (Or.inr (Or.inr (Or.inr (Or.inr (Or.inr (Or.inr (Or.inr (Or.inr (Or.inr (Or.inr (Or.inl h)))))))))))) (fun q => q.elim (fun h => hm (Or.inr (Or.inr (Or.inr (Or.inr (Or.inr (Or.inr (Or.inr (Or.inr (Or.inr (Or.inr (Or.inr (Or.inl h))))))))))))) (fun q => q.elim (fun h => hm (Or.inr (Or.inr (Or.inr (Or.inr (Or.inr (Or.inr (Or.inr (Or.inr (Or.inr (Or.inr (Or.inr (Or.inr (Or.inl h)))))))))))))) (fun q => q.elim (fun h => hm (Or.inr (Or.inr (Or.inr (Or.inr (Or.inr (Or.inr (Or.inr (Or.inr (Or.inr (Or.inr (Or.inr (Or.inr (Or.inr (Or.inl h))))))))))))))) (fun q => q.elim (fun h => hm (Or.inr (Or.inr (Or.inr (Or.inr (Or.inr (Or.inr (Or.inr (Or.inr (Or.inr (Or.inr (Or.inr (Or.inr (Or.inr (Or.inr (Or.inl h)))))))))))))))) (fun h => hm (Or.inr (Or.inr (Or.inr (Or.inr (Or.inr (Or.inr (Or.inr (Or.inr (Or.inr (Or.inr (Or.inr (Or.inr (Or.inr (Or.inr (Or.inr (Or.inl h))))))))))))))))))))))))))).trans ((hF_167 a j (fun q => q.elim (fun h => hm (Or.inr (Or.inr (Or.inr (Or.inr (Or.inr (Or.inr (Or.inr (Or.inr (Or.inr (Or.inl h))))))))))) (fun q => q.elim (fun h => hm (Or.inr (Or.inr (Or.inr (Or.inr (Or.inr (Or.inr (Or.inr (Or.inr (Or.inr (Or.inr (Or.inl h)))))))))))) (fun q => q.elim (fun h => hm (Or.inr (Or.inr (Or.inr (Or.inr (Or.inr (Or.inr (Or.inr (Or.inr (Or.inr (Or.inr (Or.inr (Or.inl h))))))))))))) (fun h => hm (Or.inr (Or.inr (Or.inr (Or.inr (Or.inr (Or.inr (Or.inr (Or.inr (Or.inr (Or.inr (Or.inr (Or.inr (Or.inl h)))))))))))))))))).trans ((hF_158 a j (fun q => q.elim (fun h => hm (Or.inr (Or.inr (Or.inl h)))) (fun q => q.elim (fun h => hm (Or.inr (Or.inr (Or.inr (Or.inl h))))) (fun q => q.elim (fun h => hm (Or.inr (Or.inr (Or.inr (Or.inr (Or.inl h)))))) (fun q => q.elim (fun h => hm (Or.inr (Or.inr (Or.inr (Or.inr (Or.inr (Or.inl h))))))) (fun q => q.elim (fun h => hm (Or.inr (Or.inr (Or.inr (Or.inr (Or.inr (Or.inr (Or.inr (Or.inl h))))))))) (fun h => hm (Or.inr (Or.inr (Or.inr (Or.inr (Or.inr (Or.inr (Or.inr (Or.inr (Or.inl h)))))))))))))))).trans (up_b (Decidable.or_iff_not_imp_left.mpr (fun h1 h2 => hm (Or.inl ⟨Decidable.not_not.mp h1, h2⟩))))))))) ⟨by omega, by omega⟩ (by first | (clear h_1 h_2 h_3 h_4 h_5 h_6 h_7 h_8 h_9 h_10 h_21 h_123 h_131 h_132 h_133 h_136 h_138 h_139 h_141 h_142 h_143 h_145 h_146 h_147 h_149 h_150 h_151 h_153 h_154 h_160 h_161 h_162 h_163 h_164 h_159 h_169 h_170 h_171 h_172 h_168 h_181 h_195 h_196 h_197 h_198 h_199 h_200 h_201 h_202 h_215 h_216 h_217 h_218 h_219 h_220 h_221 h_222 h_223 h_224; omega) | omega) (by first | (clear h_1 h_2 h_3 h_4 h_5 h_6 h_7 h_8 h_9 h_10 h_21 h_123 h_131 h_132 h_133 h_135 h_136 h_138 h_139 h_141 h_142 h_143 h_145 h_146 h_147 h_149 h_150 h_151 h_153 h_154 h_161 h_162 h_163 h_164 h_169 h_170 h_171 h_172 h_168 h_181 h_194 h_195 h_196 h_197 h_198 h_199 h_200 h_201 h_202 h_215 h_216 h_217 h_218 h_219 h_220 h_221 h_222 h_223 h_224 h_211 h_190; omega) | omega) (by first | (clear h_1 h_2 h_3 h_4 h_5 h_6 h_7 h_8 h_9 h_10 h_21 h_123 h_131 h_132 h_133 h_135 h_141 h_142 h_143 h_145 h_146 h_147 h_149 h_150 h_151 h_153 h_154 h_160 h_161 h_162 h_163 h_164 h_159 h_169 h_170 h_171 h_172 h_168 h_181 h_194 h_195 h_196 h_197 h_198 h_199 h_200 h_201 h_215 h_216 h_217 h_218 h_219 h_220 h_221 h_222 h_223 h_224 h_211 h_190; omega) | omega) (by first | (clear h_1 h_2 h_3 h_4 h_5 h_6 h_7 h_8 h_9 h_10 h_21 h_123 h_131 h_132 h_133 h_135 h_136 h_138 h_139 h_141 h_142 h_143 h_145 h_146 h_147 h_149 h_150 h_151 h_153 h_154 h_160 h_161 h_162 h_163 h_164 h_159 h_169 h_170 h_171 h_172 h_168 h_181 h_194 h_195 h_196 h_197 h_198 h_199 h_200 h_201 h_202 h_215 h_216 h_217 h_218 h_219 h_220 h_221 h_222 h_223 h_224 h_211 h_190; omega) | omega) (by first | (clear h_1 h_2 h_3 h_4 h_5 h_6 h_7 h_8 h_9 h_10 h_21 h_131 h_132 h_133 h_135 h_136 h_138 h_139 h_143 h_145 h_146 h_147 h_149 h_150 h_151 h_153 h_154 h_160 h_161 h_162 h_163 h_164 h_159 h_169 h_170 h_171 h_172 h_168 h_181 h_198 h_199 h_200 h_201 h_202; omega) | omega) (by first | (clear h_1 h_2 h_3 h_4 h_5 h_6 h_7 h_8 h_9 h_10 h_21 h_123 h_131 h_132 h_133 h_135 h_136 h_138 h_139 h_141 h_142 h_147 h_149 h_150 h_151 h_153 h_154 h_160 h_161 h_162 h_163 h_164 h_159 h_169 h_170 h_171 h_172 h_168 h_181 h_198 h_199 h_200 h_201 h_202; omega) | omega) (by first | (clear h_1 h_2 h_3 h_4 h_5 h_6 h_7 h_8 h_9 h_10 h_21 h_123 h_131 h_132 h_133 h_135 h_136 h_138 h_139 h_141 h_142 h_143 h_145 h_146 h_151 h_153 h_154 h_160 h_161 h_162 h_163 h_164 h_159 h_169 h_170 h_171 h_172 h_168 h_181 h_198 h_199 h_200 h_201 h_202; omega) | omega) (by first | (clear h_1 h_2 h_3 h_4 h_5 h_6 h_7 h_8 h_9 h_10 h_21 h_123 h_131 h_132 h_133 h_135 h_136 h_138 h_139 h_141 h_142 h_143 h_145 h_146 h_147 h_149 h_150 h_160 h_161 h_162 h_163 h_164 h_159 h_169 h_170 h_171 h_172 h_168 h_181 h_198 h_199 h_200 h_201 h_202; omega) | omega) (ae_le hA_239 (by omega)) (ae_le hA_243 (by omega))

