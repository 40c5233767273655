/-! ===== class and reference side by side 1 ===== -/
set_option maxRecDepth 100000 in
set_option maxHeartbeats 4000000 in
theorem s_84u {sc : List Int32} {d P Q : Nat} {c : ME} {Z : AR → Prop} (hI : Iv 0 (-1) P Q c)  (K : ∀ (c2 : ME) (y : Int), Iv 0 (-1) P Q c2 → (∀ (a : Nat) (j : Int), ¬ (a = 38 ∨ a = 40 ∨ (a = 3 ∧ j = 3) ∨ (a = 3 ∧ j = 4) ∨ (a = 0 ∧ j = 11)) → c2 a j = c a j) → (-2147483648) ≤ y ∧ y ≤ 2147483647 → ((c 1 4 < 0) ∨ (c 1 4 > 0) ∨ (y = c P 0)) → ((c2 3 3 = 0 ∧ c2 3 4 = 0 ∧ c2 0 11 = 0)) → Z (.inl (some (vi y)), Wd P Q P P c2, 0, 0)) : Wp sc (d + 13) 84 47 [(0, .ref 0)] [] (Wd P Q Q Q c) 0 0 Z := by
  have hP := iv_P hI
  have hQ := iv_Q hI
  refine q_aload_n rfl rfl ?_
  refine v_gr (t := 37) rfl rfl rfl (by decide) rfl ?_
  refine q_aload_n rfl rfl ?_
  refine v_gr (t := P) rfl rfl rfl (by decide) rfl ?_
  refine v_cv rfl rfl rfl rfl (by decide) ⟨⟨rfl, rfl⟩, by decide, rfl⟩ (Nat.le_of_ble_eq_true rfl) (Nat.le_of_ble_eq_true rfl) (s_65a hI (fun c_1 hI_2 hF_3 => ?_))
  refine bk_inl ?_
  refine q_aload_n rfl rfl ?_
  refine v_gr (t := 39) rfl rfl rfl (by decide) rfl ?_
  refine q_aload_n rfl rfl ?_
  refine v_gr (t := P) rfl rfl rfl (by decide) rfl ?_
  refine v_cv rfl rfl rfl rfl (by decide) ⟨⟨rfl, rfl⟩, by decide, rfl⟩ (Nat.le_of_ble_eq_true rfl) (Nat.le_of_ble_eq_true rfl) (s_65b hI_2 (fun c_4 hI_5 hF_6 => ?_))
  refine bk_inl ?_
  refine q_aload_n rfl rfl ?_
  refine v_gr (t := 3) rfl rfl rfl (by decide) rfl ?_
  refine v_cv rfl rfl rfl rfl (by decide) ⟨⟨rfl, rfl⟩, by decide, rfl⟩ (Nat.le_of_ble_eq_true rfl) (Nat.le_of_ble_eq_true rfl) (s_22 hI_5 (fun c_7 hI_8 hF_9 h_10 => ?_))
  refine bk_inl ?_
  have h_11 := ir_3_3 hI_8
  have h_12 := ir_3_4 hI_8
  refine q_aload_n rfl rfl ?_
  refine q_iconst rfl ?_
  refine v_pi (z := 11) rfl rfl rfl (by decide) rfl rfl rfl (by decide) ?_
  refine q_aload_n rfl rfl ?_
  refine q_aload_n rfl rfl ?_
  refine v_gr (t := P) rfl rfl rfl (by decide) rfl ?_
  have h_13 := ir_p0_0 hI hP
  have kn_14 : Hid (c_1 P 0 = c P 0) := hF_3 P 0 (fun h => absurd h (np0 hP rfl))
  have kn_15 : Hid (c_4 P 0 = c P 0) := (hF_6 P 0 (fun h => absurd h (np0 hP rfl))).trans (hid kn_14)
  have kn_16 : Hid (c_7 P 0 = c P 0) := (hF_9 P 0 (fun q => q.elim (fun h => absurd h.1 (np0 hP rfl)) (fun h => absurd h.1 (np0 hP rfl)))).trans (hid kn_15)
  refine v_gi (z := 0) (v := c P 0) rfl rfl (ck_p0 hP) (a68z hP) rfl rfl ((up_c (np0 hP rfl)).trans (hid kn_16)) ?_
  refine v_cv rfl rfl rfl rfl (by decide) ⟨⟨rfl, rfl⟩, by decide, rfl⟩ (Nat.le_of_ble_eq_true rfl) (Nat.le_of_ble_eq_true rfl) ?_
  refine q_aload_n rfl rfl ?_
  refine v_gr (t := 1) rfl rfl rfl (by decide) rfl ?_
  refine v_cv rfl rfl rfl rfl (by decide) ⟨⟨rfl, rfl⟩, by decide, rfl⟩ (Nat.le_of_ble_eq_true rfl) (Nat.le_of_ble_eq_true rfl) ?_
  refine q_aload_n rfl rfl ?_
  have h_17 := ir_1_4 hI
  have kn_18 : Hid (c_1 1 4 = c 1 4) := hF_3 1 4 (fun h => absurd h (nn rfl))
  have kn_19 : Hid (c_4 1 4 = c 1 4) := (hF_6 1 4 (fun h => absurd h (nn rfl))).trans (hid kn_18)
  have kn_20 : Hid (c_7 1 4 = c 1 4) := (hF_9 1 4 (fun q => q.elim (fun h => absurd h.1 (nn rfl)) (fun h => absurd h.1 (nn rfl)))).trans (hid kn_19)
  refine v_gi (z := 4) (v := c 1 4) rfl rfl rfl (by decide) rfl rfl ((up_c (nn rfl)).trans (hid kn_20)) ?_
  by_cases h_21 : c 1 4 ≠ 0
  · refine v_if_ne_t (t := 11) rfl (by decide) ⟨h_21, ⟨by omega, by omega⟩, by decide, by decide⟩ ?_
    refine q_iconst rfl ?_
    refine v_zret rfl rfl (by decide) ?_
    refine bk_inl ?_
    refine v_if_eq_t (t := 14) rfl (by decide) (by decide) ?_
    refine q_aload_n rfl rfl ?_
    refine v_gr (t := 1) rfl rfl rfl (by decide) rfl ?_
    refine v_gi (z := 4) (v := c 1 4) rfl rfl rfl (by decide) rfl rfl ((up_c (nn rfl)).trans (hid kn_20)) ?_
    refine v_bip rfl (by decide) ?_
    refine v_isub (v := c 1 4 - 10) rfl rfl ?_
    refine q_iret rfl rfl ?_
    refine bk_inl ?_
    refine q_iret rfl rfl ?_
    have hI_22 := iw_0_11 (v := 0) hI_8 ⟨by decide, by decide⟩
    have h_23 : (up c_7 0 11 0) 0 11 = 0 := (up_e rfl)
    have h_24 : (up c_7 0 11 0) 3 3 = c_7 3 3 := (up_c (nn rfl))
    have h_25 : (up c_7 0 11 0) 3 4 = c_7 3 4 := (up_c (nn rfl))
    exact K (up c_7 0 11 0) (c 1 4 - 10) hI_22 (fun a j hm => (up_b (Decidable.or_iff_not_imp_left.mpr (fun h1 h2 => hm (Or.inr (Or.inr (Or.inr (Or.inr ⟨Decidable.not_not.mp h1, h2⟩))))))).trans ((hF_9 a j (fun q => q.elim (fun h => hm (Or.inr (Or.inr (Or.inl h)))) (fun h => hm (Or.inr (Or.inr (Or.inr (Or.inl h))))))).trans ((hF_6 a j (fun h => hm (Or.inr (Or.inl h)))).trans (hF_3 a j (fun h => hm (Or.inl h)))))) ⟨by omega, by omega⟩ (Or.inr (Or.inl (by omega))) ⟨by omega, by omega, by omega⟩
  · refine v_if_ne_f (t := 11) rfl (by decide) (Decidable.not_not.mp h_21) ?_
    refine q_iconst rfl ?_
    refine q_goto (t := 12) rfl (by decide) ?_
    refine v_zret rfl rfl (by decide) ?_
    refine bk_inl ?_
    refine v_if_eq_f (t := 14) rfl (by decide) (by decide) ?_
    refine q_iload_n rfl rfl ?_
    refine q_goto (t := 24) rfl (by decide) ?_
    refine q_iret rfl rfl ?_
    refine bk_inl ?_
    refine q_iret rfl rfl ?_
    have hI_26 := iw_0_11 (v := 0) hI_8 ⟨by decide, by decide⟩
    have h_27 : (up c_7 0 11 0) 0 11 = 0 := (up_e rfl)
    have h_28 : (up c_7 0 11 0) 3 3 = c_7 3 3 := (up_c (nn rfl))
    have h_29 : (up c_7 0 11 0) 3 4 = c_7 3 4 := (up_c (nn rfl))
    exact K (up c_7 0 11 0) (c P 0) hI_26 (fun a j hm => (up_b (Decidable.or_iff_not_imp_left.mpr (fun h1 h2 => hm (Or.inr (Or.inr (Or.inr (Or.inr ⟨Decidable.not_not.mp h1, h2⟩))))))).trans ((hF_9 a j (fun q => q.elim (fun h => hm (Or.inr (Or.inr (Or.inl h)))) (fun h => hm (Or.inr (Or.inr (Or.inr (Or.inl h))))))).trans ((hF_6 a j (fun h => hm (Or.inr (Or.inl h)))).trans (hF_3 a j (fun h => hm (Or.inl h)))))) ⟨by omega, by omega⟩ (Or.inr (Or.inr (by omega))) ⟨by omega, by omega, by omega⟩

set_option maxRecDepth 100000 in
set_option maxHeartbeats 4000000 in
theorem b_14 {sc : List Int32} {e : Int} {d u P Q A : Nat} {c : ME} {f9 p9 a2 : Int} {Z : AR → Prop} (hI : Iv u e P Q c) (hA : A = 13 ∨ A = 25) (ha2 : 0 ≤ a2 ∧ a2 ≤ 6) (hq0 : (f9 ≠ 0)) (hv0 : c 1 4 = f9) (hv1 : c 1 5 = p9) (K0 : ∀ c2 : ME, Iv u e P Q c2 → (∀ (a : Nat) (j : Int), ¬ ((a = 1 ∧ j = 2) ∨ (a = 1 ∧ j = 4) ∨ (a = 1 ∧ j = 5) ∨ (a = (A + 7) ∧ j = 5) ∨ a = (A + 9)) → c2 a j = c a j) → (c2 1 4 = f9) → (c2 1 5 = p9) → Z (.inl (none), Wd P Q P P c2, 0, 0)) : Wp sc (d + 14) 14 0 [(0, .ref (A + 7)), (1, .ref 1), (2, vi a2)] [] (Wd P Q P P c) 0 0 Z := by
  have hP := iv_P hI
  have hQ := iv_Q hI
  have h_1 := ir_1_4 hI
  have h_2 := ir_1_5 hI
  refine q_aload_n rfl rfl ?_
  refine v_cv rfl rfl rfl rfl (by decide) ⟨⟨rfl, rfl⟩, by decide, rfl⟩ (Nat.le_of_ble_eq_true rfl) (Nat.le_of_ble_eq_true rfl) ?_
  refine q_aload_n rfl rfl ?_
  have h_3 := ir_1_1 hI
  have h_4 := ir_1_2 hI
  have h_5 := ir_2 hI (c 1 2)
  have h_6 := nx_bd (b := c 2) (e := c 1 1) (a := c 1 2)
  have h_7 := ir_2 hI (nx (c 2) (c 1 1) (c 1 2))
  have h_8 := nx_n (b := c 2) (e := c 1 1) (a := c 1 2)
  refine v_cv rfl rfl rfl rfl (by decide) ⟨⟨rfl, rfl⟩, by decide, rfl⟩ (Nat.le_of_ble_eq_true rfl) (Nat.le_of_ble_eq_true rfl) (f_3 (e1 := c 1 1) (a9 := c 1 2) (B := c 2) (r8 := (nx (c 2) (c 1 1) (c 1 2))) hI (rfl) (rfl) (fun j => rfl) rfl (fun c_9 hI_10 hF_11 hz_12 => ?_))
  refine bk_inl ?_
  refine q_istore_n rfl (by decide) ?_
  refine q_iload_n rfl rfl ?_
  refine q_aload_n rfl rfl ?_
  have kn_13 : Hid (c_9 1 1 = c 1 1) := hF_11 1 1 (fun h => absurd h.2 (ni rfl))
  refine v_gi (z := 1) (v := c 1 1) rfl rfl rfl (by decide) rfl rfl (hid kn_13) ?_
  by_cases h_14 : (nx (c 2) (c 1 1) (c 1 2)) ≥ c 1 1
  · refine v_ic_ge_t (t := 39) rfl (by decide) ⟨(Int.le_trans (by decide) h_3.1), h_14, by omega⟩ ?_
    refine q_iconst rfl ?_
    refine v_zret rfl rfl (by decide) ?_
    refine bk_inl ?_
    refine v_if_eq_t (t := 19) rfl (by decide) (by decide) ?_
    refine q_aload_n rfl rfl ?_
    refine v_cv rfl rfl rfl rfl (by decide) ⟨⟨rfl, rfl⟩, by decide, rfl⟩ (Nat.le_of_ble_eq_true rfl) (Nat.le_of_ble_eq_true rfl) (f_3 (e1 := c 1 1) (a9 := (nx (c 2) (c 1 1) (c 1 2))) (B := c 2) (r8 := (nx (c 2) (c 1 1) (c 1 2))) hI_10 ((hid kn_13)) ((hz_12)) (fun j => hF_11 2 j (fun h => absurd h.1 (nn rfl))) (nx_z (by omega)) (fun c_15 hI_16 hF_17 hz_18 => ?_))
    refine bk_inl ?_
    refine q_istore_n rfl (by decide) ?_
    refine q_aload_n rfl rfl ?_
    refine q_ldc_s rfl rfl rfl (by decide) ?_
    refine v_cv rfl rfl rfl rfl (by decide) ⟨⟨rfl, rfl⟩, by decide, rfl⟩ (Nat.le_of_ble_eq_true rfl) (Nat.le_of_ble_eq_true rfl) ?_
    refine q_aload_n rfl rfl ?_
    have kn_19 : Hid (c_15 1 1 = c 1 1) := (hF_17 1 1 (fun h => absurd h.2 (ni rfl))).trans (hid kn_13)
    refine v_cv rfl rfl rfl rfl (by decide) ⟨⟨rfl, rfl⟩, by decide, rfl⟩ (Nat.le_of_ble_eq_true rfl) (Nat.le_of_ble_eq_true rfl) (f_3 (e1 := c 1 1) (a9 := (nx (c 2) (c 1 1) (c 1 2))) (B := c 2) (r8 := (nx (c 2) (c 1 1) (c 1 2))) hI_16 ((hid kn_19)) ((hz_18)) (fun j => (hF_17 2 j (fun h => absurd h.1 (nn rfl))).trans (hF_11 2 j (fun h => absurd h.1 (nn rfl)))) (nx_z (by omega)) (fun c_20 hI_21 hF_22 hz_23 => ?_))
    refine bk_inl ?_
    refine q_istore_n rfl (by decide) ?_
    refine q_iconst rfl ?_
    refine q_istore_n rfl (by decide) ?_
    refine q_iload_n rfl rfl ?_
    refine q_aload_n rfl rfl ?_
    refine v_sln 1 rfl rfl (by omega) (Nat.le_of_ble_eq_true rfl) (by decide) (by decide) ?_
    refine v_ic_ge_f (t := 55) rfl (by decide) (by decide) ?_
    refine q_iload_n rfl rfl ?_
    refine q_aload_n rfl rfl ?_
    have kn_24 : Hid (c_20 1 1 = c 1 1) := (hF_22 1 1 (fun h => absurd h.2 (ni rfl))).trans (hid kn_19)
    refine v_gi (z := 1) (v := c 1 1) rfl rfl rfl (by decide) rfl rfl (hid kn_24) ?_
    refine v_ic_ge_t (t := 55) rfl (by decide) ⟨(Int.le_trans (by decide) h_3.1), by omega, by omega⟩ ?_
    refine q_iconst rfl ?_
    refine q_iret rfl rfl ?_
    refine bk_inl ?_
    refine q_iconst rfl ?_
    refine v_ic_eq_t (t := 38) rfl (by decide) (by decide) ?_
    refine q_iconst rfl ?_
    refine q_istore rfl (by decide) ?_
    refine q_iload rfl rfl ?_
    refine v_if_eq_t (t := 50) rfl (by decide) (by decide) ?_
    refine q_aload_n rfl rfl ?_
    refine q_ldc_s rfl rfl rfl (by decide) ?_
    have kn_25 : Hid (c_9 1 4 = f9) := (hF_11 1 4 (fun h => absurd h.2 (ni rfl))).trans (hv0)
    have kn_26 : Hid (c_15 1 4 = f9) := (hF_17 1 4 (fun h => absurd h.2 (ni rfl))).trans (hid kn_25)
    have kn_27 : Hid (c_20 1 4 = f9) := (hF_22 1 4 (fun h => absurd h.2 (ni rfl))).trans (hid kn_26)
    have kn_28 : Hid (c_9 1 5 = p9) := (hF_11 1 5 (fun h => absurd h.2 (ni rfl))).trans (hv1)
    have kn_29 : Hid (c_15 1 5 = p9) := (hF_17 1 5 (fun h => absurd h.2 (ni rfl))).trans (hid kn_28)
    have kn_30 : Hid (c_20 1 5 = p9) := (hF_22 1 5 (fun h => absurd h.2 (ni rfl))).trans (hid kn_29)
    have h_31 := ln_bd (b := c 2) (e := c 1 1) (a := (nx (c 2) (c 1 1) (c 1 2)))
    refine v_cv rfl rfl rfl rfl (by decide) ⟨⟨rfl, rfl⟩, by decide, rfl⟩ (Nat.le_of_ble_eq_true rfl) (Nat.le_of_ble_eq_true rfl) (f_10_1 (e1 := c 1 1) (a9 := (nx (c 2) (c 1 1) (c 1 2))) (f9 := f9) (p9 := p9) (B := c 2) (r8 := (nx (c 2) (c 1 1) (c 1 2))) (L8 := (ln (c 2) (c 1 1) (nx (c 2) (c 1 1) (c 1 2)))) (W8 := (wd1_0 (c 2) (nx (c 2) (c 1 1) (c 1 2)) (ln (c 2) (c 1 1) (nx (c 2) (c 1 1) (c 1 2))))) hI_21 ((hid kn_24)) ((hz_23)) ((hid kn_27)) ((hid kn_30)) (fun j => (hF_22 2 j (fun h => absurd h.1 (nn rfl))).trans ((hF_17 2 j (fun h => absurd h.1 (nn rfl))).trans (hF_11 2 j (fun h => absurd h.1 (nn rfl))))) (nx_z (by omega)) rfl rfl (fun c_32 hI_33 hF_34 h_35 hz_36 hz_37 hz_38 => ?_) (fun c_39 hI_40 hF_41 h_42 h_43 hz_44 hz_45 hz_46 => by exfalso; omega) (fun c_47 hI_48 hF_49 h_50 h_51 hz_52 hz_53 hz_54 => by exfalso; omega))
    refine bk_inl ?_
    refine q_istore rfl (by decide) ?_
    refine q_iload rfl rfl ?_
    refine q_iconst rfl ?_
    refine v_ic_eq_t (t := 82) rfl (by decide) (by decide) ?_
    refine q_iload_n rfl rfl ?_
    refine v_bip rfl (by decide) ?_
    by_cases h_55 : a2 < 6
    · refine v_ic_lt_t (t := 94) rfl (by decide) ⟨(Int.le_trans (by decide) ha2.1), h_55, by decide⟩ ?_
      refine q_aload_n rfl rfl ?_
      refine v_cv rfl rfl rfl rfl (by decide) ⟨⟨rfl, rfl⟩, by decide, rfl⟩ (Nat.le_of_ble_eq_true rfl) (Nat.le_of_ble_eq_true rfl) ?_
      refine q_aload_n rfl rfl ?_
      refine v_gi (z := 4) (v := f9) rfl rfl rfl (by decide) rfl rfl (hz_37) ?_
      refine v_if_ne_t (t := 11) rfl (by decide) ⟨by omega, ⟨by omega, by omega⟩, by decide, by decide⟩ ?_
      refine q_iconst rfl ?_
      refine v_zret rfl rfl (by decide) ?_
      refine bk_inl ?_
      refine v_if_ne_f (t := 102) rfl (by decide) (by decide) ?_
      refine q_vret rfl rfl ?_
      have h_56 : c_32 1 4 = f9 := (hz_37)
      have h_57 : c_32 1 5 = p9 := (hz_38)
      exact K0 c_32 hI_33 (fun a j hm => (hF_34 a j (fun q => q.elim (fun h => hm (Or.inl h)) (fun q => q.elim (fun h => hm (Or.inr (Or.inl h))) (fun h => hm (Or.inr (Or.inr (Or.inl h))))))).trans ((hF_22 a j (fun h => hm (Or.inl h))).trans ((hF_17 a j (fun h => hm (Or.inl h))).trans (hF_11 a j (fun h => hm (Or.inl h)))))) (by omega) (by omega)
    · refine v_ic_lt_f (t := 94) rfl (by decide) ⟨by decide, (Int.not_lt.mp h_55), (Int.le_trans ha2.2 (by decide))⟩ ?_
      refine q_aload_n rfl rfl ?_
      refine q_iconst rfl ?_
      refine q_iload_n rfl rfl ?_
      refine v_cv rfl rfl rfl rfl (by decide) ⟨⟨rfl, rfl⟩, by decide, rfl⟩ (Nat.le_of_ble_eq_true rfl) (Nat.le_of_ble_eq_true rfl) ?_
      refine q_aload_n rfl rfl ?_
      refine v_gi (z := 4) (v := f9) rfl rfl rfl (by decide) rfl rfl (hz_37) ?_
      refine v_if_ne_t (t := 17) rfl (by decide) ⟨by omega, ⟨by omega, by omega⟩, by decide, by decide⟩ ?_
      refine q_vret rfl rfl ?_
      refine bk_inl ?_
      refine q_aload_n rfl rfl ?_
      refine v_cv rfl rfl rfl rfl (by decide) ⟨⟨rfl, rfl⟩, by decide, rfl⟩ (Nat.le_of_ble_eq_true rfl) (Nat.le_of_ble_eq_true rfl) ?_
      refine q_aload_n rfl rfl ?_
      refine v_gi (z := 4) (v := f9) rfl rfl rfl (by decide) rfl rfl (hz_37) ?_
      refine v_if_ne_t (t := 11) rfl (by decide) ⟨by omega, ⟨by omega, by omega⟩, by decide, by decide⟩ ?_
      refine q_iconst rfl ?_
      refine v_zret rfl rfl (by decide) ?_
      refine bk_inl ?_
      refine v_if_ne_f (t := 102) rfl (by decide) (by decide) ?_
      refine q_vret rfl rfl ?_
      have h_58 : c_32 1 4 = f9 := (hz_37)
      have h_59 : c_32 1 5 = p9 := (hz_38)
      exact K0 c_32 hI_33 (fun a j hm => (hF_34 a j (fun q => q.elim (fun h => hm (Or.inl h)) (fun q => q.elim (fun h => hm (Or.inr (Or.inl h))) (fun h => hm (Or.inr (Or.inr (Or.inl h))))))).trans ((hF_22 a j (fun h => hm (Or.inl h))).trans ((hF_17 a j (fun h => hm (Or.inl h))).trans (hF_11 a j (fun h => hm (Or.inl h)))))) (by omega) (by omega)
  · refine v_ic_ge_f (t := 39) rfl (by decide) ⟨by omega, (Int.not_le.mp h_14), (Int.le_trans h_3.2 (by decide))⟩ ?_
    refine q_aload_n rfl rfl ?_
    refine v_gr (t := 2) rfl rfl rfl (by decide) rfl ?_
    refine q_iload_n rfl rfl ?_
    have kn_60 : Hid (c_9 2 (nx (c 2) (c 1 1) (c 1 2)) = c 2 (nx (c 2) (c 1 1) (c 1 2))) := hF_11 2 (nx (c 2) (c 1 1) (c 1 2)) (fun h => absurd h.1 (nn rfl))
    refine v_ba (v := c 2 (nx (c 2) (c 1 1) (c 1 2))) rfl rfl (by decide) (by decide) (by omega) (hid kn_60) ?_
    refine v_bip rfl (by decide) ?_
    by_cases h_61 : c 2 (nx (c 2) (c 1 1) (c 1 2)) < 48
    · refine v_ic_lt_t (t := 39) rfl (by decide) ⟨h_7.1, h_61, by decide⟩ ?_
      refine q_iconst rfl ?_
      refine v_zret rfl rfl (by decide) ?_
      refine bk_inl ?_
      refine v_if_eq_t (t := 19) rfl (by decide) (by decide) ?_
      refine q_aload_n rfl rfl ?_
      refine v_cv rfl rfl rfl rfl (by decide) ⟨⟨rfl, rfl⟩, by decide, rfl⟩ (Nat.le_of_ble_eq_true rfl) (Nat.le_of_ble_eq_true rfl) (f_3 (e1 := c 1 1) (a9 := (nx (c 2) (c 1 1) (c 1 2))) (B := c 2) (r8 := (nx (c 2) (c 1 1) (c 1 2))) hI_10 ((hid kn_13)) ((hz_12)) (fun j => hF_11 2 j (fun h => absurd h.1 (nn rfl))) (nx_z (by omega)) (fun c_62 hI_63 hF_64 hz_65 => ?_))
      refine bk_inl ?_
      refine q_istore_n rfl (by decide) ?_
      refine q_aload_n rfl rfl ?_
      refine q_ldc_s rfl rfl rfl (by decide) ?_
      refine v_cv rfl rfl rfl rfl (by decide) ⟨⟨rfl, rfl⟩, by decide, rfl⟩ (Nat.le_of_ble_eq_true rfl) (Nat.le_of_ble_eq_true rfl) ?_
      refine q_aload_n rfl rfl ?_
      have kn_66 : Hid (c_62 1 1 = c 1 1) := (hF_64 1 1 (fun h => absurd h.2 (ni rfl))).trans (hid kn_13)
      refine v_cv rfl rfl rfl rfl (by decide) ⟨⟨rfl, rfl⟩, by decide, rfl⟩ (Nat.le_of_ble_eq_true rfl) (Nat.le_of_ble_eq_true rfl) (f_3 (e1 := c 1 1) (a9 := (nx (c 2) (c 1 1) (c 1 2))) (B := c 2) (r8 := (nx (c 2) (c 1 1) (c 1 2))) hI_63 ((hid kn_66)) ((hz_65)) (fun j => (hF_64 2 j (fun h => absurd h.1 (nn rfl))).trans (hF_11 2 j (fun h => absurd h.1 (nn rfl)))) (nx_z (by omega)) (fun c_67 hI_68 hF_69 hz_70 => ?_))
      refine bk_inl ?_
      refine q_istore_n rfl (by decide) ?_
      refine q_iconst rfl ?_
      refine q_istore_n rfl (by decide) ?_
      refine q_iload_n rfl rfl ?_
      refine q_aload_n rfl rfl ?_
      refine v_sln 1 rfl rfl (by omega) (Nat.le_of_ble_eq_true rfl) (by decide) (by decide) ?_
      refine v_ic_ge_f (t := 55) rfl (by decide) (by decide) ?_
      refine q_iload_n rfl rfl ?_
      refine q_aload_n rfl rfl ?_
      have kn_71 : Hid (c_67 1 1 = c 1 1) := (hF_69 1 1 (fun h => absurd h.2 (ni rfl))).trans (hid kn_66)
      refine v_gi (z := 1) (v := c 1 1) rfl rfl rfl (by decide) rfl rfl (hid kn_71) ?_
      refine v_ic_ge_f (t := 55) rfl (by decide) ⟨by omega, by omega, (Int.le_trans h_3.2 (by decide))⟩ ?_
      refine q_aload_n rfl rfl ?_
      refine v_gr (t := 2) rfl rfl rfl (by decide) rfl ?_
      refine q_iload_n rfl rfl ?_
      have kn_72 : Hid (c_62 2 (nx (c 2) (c 1 1) (c 1 2)) = c 2 (nx (c 2) (c 1 1) (c 1 2))) := (hF_64 2 (nx (c 2) (c 1 1) (c 1 2)) (fun h => absurd h.1 (nn rfl))).trans (hid kn_60)
      have kn_73 : Hid (c_67 2 (nx (c 2) (c 1 1) (c 1 2)) = c 2 (nx (c 2) (c 1 1) (c 1 2))) := (hF_69 2 (nx (c 2) (c 1 1) (c 1 2)) (fun h => absurd h.1 (nn rfl))).trans (hid kn_72)
      refine v_ba (v := c 2 (nx (c 2) (c 1 1) (c 1 2))) rfl rfl (by decide) (by decide) (by omega) (hid kn_73) ?_
      refine q_aload_n rfl rfl ?_
      refine q_iload_n rfl rfl ?_
      refine v_sch 40 rfl rfl (by omega) (Nat.le_of_ble_eq_true rfl) (by decide) (by decide) (by decide) ?_
      by_cases h_74 : c 2 (nx (c 2) (c 1 1) (c 1 2)) ≠ 40
      · refine v_ic_ne_t (t := 49) rfl (by decide) ⟨h_74, ⟨h_7.1, h_7.2⟩, by decide, by decide⟩ ?_
        refine v_iinc (v := 1) rfl rfl (by decide) (by decide) ?_
        refine q_goto (t := 7) rfl (by decide) ?_
        refine q_iload_n rfl rfl ?_
        refine q_aload_n rfl rfl ?_
        refine v_sln 1 rfl rfl (by omega) (Nat.le_of_ble_eq_true rfl) (by decide) (by decide) ?_
        refine v_ic_ge_t (t := 55) rfl (by decide) (by decide) ?_
        refine q_iconst rfl ?_
        refine q_iret rfl rfl ?_
        refine bk_inl ?_
        refine q_iconst rfl ?_
        refine v_ic_eq_t (t := 38) rfl (by decide) (by decide) ?_
        refine q_iconst rfl ?_
        refine q_istore rfl (by decide) ?_
        refine q_iload rfl rfl ?_
        refine v_if_eq_t (t := 50) rfl (by decide) (by decide) ?_
        refine q_aload_n rfl rfl ?_
        refine q_ldc_s rfl rfl rfl (by decide) ?_
        have kn_75 : Hid (c_9 1 4 = f9) := (hF_11 1 4 (fun h => absurd h.2 (ni rfl))).trans (hv0)
        have kn_76 : Hid (c_62 1 4 = f9) := (hF_64 1 4 (fun h => absurd h.2 (ni rfl))).trans (hid kn_75)
        have kn_77 : Hid (c_67 1 4 = f9) := (hF_69 1 4 (fun h => absurd h.2 (ni rfl))).trans (hid kn_76)
        have kn_78 : Hid (c_9 1 5 = p9) := (hF_11 1 5 (fun h => absurd h.2 (ni rfl))).trans (hv1)
        have kn_79 : Hid (c_62 1 5 = p9) := (hF_64 1 5 (fun h => absurd h.2 (ni rfl))).trans (hid kn_78)
        have kn_80 : Hid (c_67 1 5 = p9) := (hF_69 1 5 (fun h => absurd h.2 (ni rfl))).trans (hid kn_79)
        have h_81 := ln_be (b := c 2) (e := c 1 1) (a := (nx (c 2) (c 1 1) (c 1 2))) (by omega)
        refine v_cv rfl rfl rfl rfl (by decide) ⟨⟨rfl, rfl⟩, by decide, rfl⟩ (Nat.le_of_ble_eq_true rfl) (Nat.le_of_ble_eq_true rfl) (f_10_1 (e1 := c 1 1) (a9 := (nx (c 2) (c 1 1) (c 1 2))) (f9 := f9) (p9 := p9) (B := c 2) (r8 := (nx (c 2) (c 1 1) (c 1 2))) (L8 := (ln (c 2) (c 1 1) (nx (c 2) (c 1 1) (c 1 2)))) (W8 := (wd1_0 (c 2) (nx (c 2) (c 1 1) (c 1 2)) (ln (c 2) (c 1 1) (nx (c 2) (c 1 1) (c 1 2))))) hI_68 ((hid kn_71)) ((hz_70)) ((hid kn_77)) ((hid kn_80)) (fun j => (hF_69 2 j (fun h => absurd h.1 (nn rfl))).trans ((hF_64 2 j (fun h => absurd h.1 (nn rfl))).trans (hF_11 2 j (fun h => absurd h.1 (nn rfl))))) (nx_z (by omega)) rfl rfl (fun c_82 hI_83 hF_84 h_85 hz_86 hz_87 hz_88 => ?_) (fun c_89 hI_90 hF_91 h_92 h_93 hz_94 hz_95 hz_96 => by exfalso; omega) (fun c_97 hI_98 hF_99 h_100 h_101 hz_102 hz_103 hz_104 => by exfalso; omega))
        refine bk_inl ?_
        refine q_istore rfl (by decide) ?_
        refine q_iload rfl rfl ?_
        refine q_iconst rfl ?_
        refine v_ic_eq_t (t := 82) rfl (by decide) (by decide) ?_
        refine q_iload_n rfl rfl ?_
        refine v_bip rfl (by decide) ?_
        by_cases h_105 : a2 < 6
        · refine v_ic_lt_t (t := 94) rfl (by decide) ⟨(Int.le_trans (by decide) ha2.1), h_105, by decide⟩ ?_
          refine q_aload_n rfl rfl ?_
          refine v_cv rfl rfl rfl rfl (by decide) ⟨⟨rfl, rfl⟩, by decide, rfl⟩ (Nat.le_of_ble_eq_true rfl) (Nat.le_of_ble_eq_true rfl) ?_
          refine q_aload_n rfl rfl ?_
          refine v_gi (z := 4) (v := f9) rfl rfl rfl (by decide) rfl rfl (hz_87) ?_
          refine v_if_ne_t (t := 11) rfl (by decide) ⟨by omega, ⟨by omega, by omega⟩, by decide, by decide⟩ ?_
          refine q_iconst rfl ?_
          refine v_zret rfl rfl (by decide) ?_
          refine bk_inl ?_
          refine v_if_ne_f (t := 102) rfl (by decide) (by decide) ?_
          refine q_vret rfl rfl ?_
          have h_106 : c_82 1 4 = f9 := (hz_87)
          have h_107 : c_82 1 5 = p9 := (hz_88)
          exact K0 c_82 hI_83 (fun a j hm => (hF_84 a j (fun q => q.elim (fun h => hm (Or.inl h)) (fun q => q.elim (fun h => hm (Or.inr (Or.inl h))) (fun h => hm (Or.inr (Or.inr (Or.inl h))))))).trans ((hF_69 a j (fun h => hm (Or.inl h))).trans ((hF_64 a j (fun h => hm (Or.inl h))).trans (hF_11 a j (fun h => hm (Or.inl h)))))) (by omega) (by omega)
        · refine v_ic_lt_f (t := 94) rfl (by decide) ⟨by decide, (Int.not_lt.mp h_105), (Int.le_trans ha2.2 (by decide))⟩ ?_
          refine q_aload_n rfl rfl ?_
          refine q_iconst rfl ?_
          refine q_iload_n rfl rfl ?_
          refine v_cv rfl rfl rfl rfl (by decide) ⟨⟨rfl, rfl⟩, by decide, rfl⟩ (Nat.le_of_ble_eq_true rfl) (Nat.le_of_ble_eq_true rfl) ?_
          refine q_aload_n rfl rfl ?_
          refine v_gi (z := 4) (v := f9) rfl rfl rfl (by decide) rfl rfl (hz_87) ?_
          refine v_if_ne_t (t := 17) rfl (by decide) ⟨by omega, ⟨by omega, by omega⟩, by decide, by decide⟩ ?_
          refine q_vret rfl rfl ?_
          refine bk_inl ?_
          refine q_aload_n rfl rfl ?_
          refine v_cv rfl rfl rfl rfl (by decide) ⟨⟨rfl, rfl⟩, by decide, rfl⟩ (Nat.le_of_ble_eq_true rfl) (Nat.le_of_ble_eq_true rfl) ?_
          refine q_aload_n rfl rfl ?_
          refine v_gi (z := 4) (v := f9) rfl rfl rfl (by decide) rfl rfl (hz_87) ?_
          refine v_if_ne_t (t := 11) rfl (by decide) ⟨by omega, ⟨by omega, by omega⟩, by decide, by decide⟩ ?_
          refine q_iconst rfl ?_
          refine v_zret rfl rfl (by decide) ?_
          refine bk_inl ?_
          refine v_if_ne_f (t := 102) rfl (by decide) (by decide) ?_
          refine q_vret rfl rfl ?_
          have h_108 : c_82 1 4 = f9 := (hz_87)
          have h_109 : c_82 1 5 = p9 := (hz_88)
          exact K0 c_82 hI_83 (fun a j hm => (hF_84 a j (fun q => q.elim (fun h => hm (Or.inl h)) (fun q => q.elim (fun h => hm (Or.inr (Or.inl h))) (fun h => hm (Or.inr (Or.inr (Or.inl h))))))).trans ((hF_69 a j (fun h => hm (Or.inl h))).trans ((hF_64 a j (fun h => hm (Or.inl h))).trans (hF_11 a j (fun h => hm (Or.inl h)))))) (by omega) (by omega)
      · refine v_ic_ne_f (t := 49) rfl (by decide) (Decidable.not_not.mp h_74) ?_
        refine q_aload_n rfl rfl ?_
        refine q_dup rfl rfl ?_
        refine v_gi (z := 2) (v := (nx (c 2) (c 1 1) (c 1 2))) rfl rfl rfl (by decide) rfl rfl (hz_70) ?_
        refine q_iconst rfl ?_
        refine v_iadd (v := (nx (c 2) (c 1 1) (c 1 2)) + 1) rfl rfl ?_
        refine v_pi (z := 2) rfl rfl rfl (by decide) rfl rfl rfl (by decide) ?_
        refine q_iload_n rfl rfl ?_
        refine q_iret rfl rfl ?_
        refine bk_inl ?_
        refine q_iconst rfl ?_
        refine v_ic_eq_f (t := 38) rfl (by decide) (by decide) ?_
        refine q_iconst rfl ?_
        refine q_goto (t := 39) rfl (by decide) ?_
        refine q_istore rfl (by decide) ?_
        refine q_iload rfl rfl ?_
        refine v_if_eq_f (t := 50) rfl (by decide) (by decide) ?_
        refine q_iconst rfl ?_
        refine q_goto (t := 56) rfl (by decide) ?_
        refine q_istore rfl (by decide) ?_
        refine q_iload rfl rfl ?_
        refine q_iconst rfl ?_
        refine v_ic_eq_t (t := 82) rfl (by decide) (by decide) ?_
        refine q_iload_n rfl rfl ?_
        refine v_bip rfl (by decide) ?_
        by_cases h_110 : a2 < 6
        · refine v_ic_lt_t (t := 94) rfl (by decide) ⟨(Int.le_trans (by decide) ha2.1), h_110, by decide⟩ ?_
          refine q_aload_n rfl rfl ?_
          refine v_cv rfl rfl rfl rfl (by decide) ⟨⟨rfl, rfl⟩, by decide, rfl⟩ (Nat.le_of_ble_eq_true rfl) (Nat.le_of_ble_eq_true rfl) ?_
          refine q_aload_n rfl rfl ?_
          have kn_111 : Hid (c_9 1 4 = f9) := (hF_11 1 4 (fun h => absurd h.2 (ni rfl))).trans (hv0)
          have kn_112 : Hid (c_62 1 4 = f9) := (hF_64 1 4 (fun h => absurd h.2 (ni rfl))).trans (hid kn_111)
          have kn_113 : Hid (c_67 1 4 = f9) := (hF_69 1 4 (fun h => absurd h.2 (ni rfl))).trans (hid kn_112)
          refine v_gi (z := 4) (v := f9) rfl rfl rfl (by decide) rfl rfl ((up_n (by decide)).trans (hid kn_113)) ?_
          refine v_if_ne_t (t := 11) rfl (by decide) ⟨by omega, ⟨by omega, by omega⟩, by decide, by decide⟩ ?_
          refine q_iconst rfl ?_
          refine v_zret rfl rfl (by decide) ?_
          refine bk_inl ?_
          refine v_if_ne_f (t := 102) rfl (by decide) (by decide) ?_
          refine q_vret rfl rfl ?_
          have hI_114 := iw_1_2 (v := (nx (c 2) (c 1 1) (c 1 2)) + 1) hI_68 ⟨by omega, by omega⟩
          have h_115 : (up c_67 1 2 ((nx (c 2) (c 1 1) (c 1 2)) + 1)) 1 4 = f9 := ((up_n (by decide)).trans (hid kn_113))
          have kn_116 : Hid (c_9 1 5 = p9) := (hF_11 1 5 (fun h => absurd h.2 (ni rfl))).trans (hv1)
          have kn_117 : Hid (c_62 1 5 = p9) := (hF_64 1 5 (fun h => absurd h.2 (ni rfl))).trans (hid kn_116)
          have kn_118 : Hid (c_67 1 5 = p9) := (hF_69 1 5 (fun h => absurd h.2 (ni rfl))).trans (hid kn_117)
          have h_119 : (up c_67 1 2 ((nx (c 2) (c 1 1) (c 1 2)) + 1)) 1 5 = p9 := ((up_n (by decide)).trans (hid kn_118))
          exact K0 (up c_67 1 2 ((nx (c 2) (c 1 1) (c 1 2)) + 1)) hI_114 (fun a j hm => (up_b (Decidable.or_iff_not_imp_left.mpr (fun h1 h2 => hm (Or.inl ⟨Decidable.not_not.mp h1, h2⟩)))).trans ((hF_69 a j (fun h => hm (Or.inl h))).trans ((hF_64 a j (fun h => hm (Or.inl h))).trans (hF_11 a j (fun h => hm (Or.inl h)))))) (by omega) (by omega)
        · refine v_ic_lt_f (t := 94) rfl (by decide) ⟨by decide, (Int.not_lt.mp h_110), (Int.le_trans ha2.2 (by decide))⟩ ?_
          refine q_aload_n rfl rfl ?_
          refine q_iconst rfl ?_
          refine q_iload_n rfl rfl ?_
          refine v_cv rfl rfl rfl rfl (by decide) ⟨⟨rfl, rfl⟩, by decide, rfl⟩ (Nat.le_of_ble_eq_true rfl) (Nat.le_of_ble_eq_true rfl) ?_
          refine q_aload_n rfl rfl ?_
          have kn_120 : Hid (c_9 1 4 = f9) := (hF_11 1 4 (fun h => absurd h.2 (ni rfl))).trans (hv0)
          have kn_121 : Hid (c_62 1 4 = f9) := (hF_64 1 4 (fun h => absurd h.2 (ni rfl))).trans (hid kn_120)
          have kn_122 : Hid (c_67 1 4 = f9) := (hF_69 1 4 (fun h => absurd h.2 (ni rfl))).trans (hid kn_121)
          refine v_gi (z := 4) (v := f9) rfl rfl rfl (by decide) rfl rfl ((up_n (by decide)).trans (hid kn_122)) ?_
          refine v_if_ne_t (t := 17) rfl (by decide) ⟨by omega, ⟨by omega, by omega⟩, by decide, by decide⟩ ?_
          refine q_vret rfl rfl ?_
          refine bk_inl ?_
          refine q_aload_n rfl rfl ?_
          refine v_cv rfl rfl rfl rfl (by decide) ⟨⟨rfl, rfl⟩, by decide, rfl⟩ (Nat.le_of_ble_eq_true rfl) (Nat.le_of_ble_eq_true rfl) ?_
          refine q_aload_n rfl rfl ?_
          refine v_gi (z := 4) (v := f9) rfl rfl rfl (by decide) rfl rfl ((up_n (by decide)).trans (hid kn_122)) ?_
          refine v_if_ne_t (t := 11) rfl (by decide) ⟨by omega, ⟨by omega, by omega⟩, by decide, by decide⟩ ?_
          refine q_iconst rfl ?_
          refine v_zret rfl rfl (by decide) ?_
          refine bk_inl ?_
          refine v_if_ne_f (t := 102) rfl (by decide) (by decide) ?_
          refine q_vret rfl rfl ?_
          have hI_123 := iw_1_2 (v := (nx (c 2) (c 1 1) (c 1 2)) + 1) hI_68 ⟨by omega, by omega⟩
          have h_124 : (up c_67 1 2 ((nx (c 2) (c 1 1) (c 1 2)) + 1)) 1 4 = f9 := ((up_n (by decide)).trans (hid kn_122))
          have kn_125 : Hid (c_9 1 5 = p9) := (hF_11 1 5 (fun h => absurd h.2 (ni rfl))).trans (hv1)
          have kn_126 : Hid (c_62 1 5 = p9) := (hF_64 1 5 (fun h => absurd h.2 (ni rfl))).trans (hid kn_125)
          have kn_127 : Hid (c_67 1 5 = p9) := (hF_69 1 5 (fun h => absurd h.2 (ni rfl))).trans (hid kn_126)
          have h_128 : (up c_67 1 2 ((nx (c 2) (c 1 1) (c 1 2)) + 1)) 1 5 = p9 := ((up_n (by decide)).trans (hid kn_127))
          exact K0 (up c_67 1 2 ((nx (c 2) (c 1 1) (c 1 2)) + 1)) hI_123 (fun a j hm => (up_b (Decidable.or_iff_not_imp_left.mpr (fun h1 h2 => hm (Or.inl ⟨Decidable.not_not.mp h1, h2⟩)))).trans ((hF_69 a j (fun h => hm (Or.inl h))).trans ((hF_64 a j (fun h => hm (Or.inl h))).trans (hF_11 a j (fun h => hm (Or.inl h)))))) (by omega) (by omega)
    · refine v_ic_lt_f (t := 39) rfl (by decide) ⟨by decide, (Int.not_lt.mp h_61), h_7.2⟩ ?_
      refine q_aload_n rfl rfl ?_
      refine v_gr (t := 2) rfl rfl rfl (by decide) rfl ?_
      refine q_iload_n rfl rfl ?_
      refine v_ba (v := c 2 (nx (c 2) (c 1 1) (c 1 2))) rfl rfl (by decide) (by decide) (by omega) (hid kn_60) ?_
      refine v_bip rfl (by decide) ?_
      by_cases h_129 : c 2 (nx (c 2) (c 1 1) (c 1 2)) > 57
      · refine v_ic_gt_t (t := 39) rfl (by decide) ⟨by decide, h_129, h_7.2⟩ ?_
        refine q_iconst rfl ?_
        refine v_zret rfl rfl (by decide) ?_
        refine bk_inl ?_
        refine v_if_eq_t (t := 19) rfl (by decide) (by decide) ?_
        refine q_aload_n rfl rfl ?_
        refine v_cv rfl rfl rfl rfl (by decide) ⟨⟨rfl, rfl⟩, by decide, rfl⟩ (Nat.le_of_ble_eq_true rfl) (Nat.le_of_ble_eq_true rfl) (f_3 (e1 := c 1 1) (a9 := (nx (c 2) (c 1 1) (c 1 2))) (B := c 2) (r8 := (nx (c 2) (c 1 1) (c 1 2))) hI_10 ((hid kn_13)) ((hz_12)) (fun j => hF_11 2 j (fun h => absurd h.1 (nn rfl))) (nx_z (by omega)) (fun c_130 hI_131 hF_132 hz_133 => ?_))
        refine bk_inl ?_
        refine q_istore_n rfl (by decide) ?_
        refine q_aload_n rfl rfl ?_
        refine q_ldc_s rfl rfl rfl (by decide) ?_
        refine v_cv rfl rfl rfl rfl (by decide) ⟨⟨rfl, rfl⟩, by decide, rfl⟩ (Nat.le_of_ble_eq_true rfl) (Nat.le_of_ble_eq_true rfl) ?_
        refine q_aload_n rfl rfl ?_
        have kn_134 : Hid (c_130 1 1 = c 1 1) := (hF_132 1 1 (fun h => absurd h.2 (ni rfl))).trans (hid kn_13)
        refine v_cv rfl rfl rfl rfl (by decide) ⟨⟨rfl, rfl⟩, by decide, rfl⟩ (Nat.le_of_ble_eq_true rfl) (Nat.le_of_ble_eq_true rfl) (f_3 (e1 := c 1 1) (a9 := (nx (c 2) (c 1 1) (c 1 2))) (B := c 2) (r8 := (nx (c 2) (c 1 1) (c 1 2))) hI_131 ((hid kn_134)) ((hz_133)) (fun j => (hF_132 2 j (fun h => absurd h.1 (nn rfl))).trans (hF_11 2 j (fun h => absurd h.1 (nn rfl)))) (nx_z (by omega)) (fun c_135 hI_136 hF_137 hz_138 => ?_))
        refine bk_inl ?_
        refine q_istore_n rfl (by decide) ?_
        refine q_iconst rfl ?_
        refine q_istore_n rfl (by decide) ?_
        refine q_iload_n rfl rfl ?_
        refine q_aload_n rfl rfl ?_
        refine v_sln 1 rfl rfl (by omega) (Nat.le_of_ble_eq_true rfl) (by decide) (by decide) ?_
        refine v_ic_ge_f (t := 55) rfl (by decide) (by decide) ?_
        refine q_iload_n rfl rfl ?_
        refine q_aload_n rfl rfl ?_
        have kn_139 : Hid (c_135 1 1 = c 1 1) := (hF_137 1 1 (fun h => absurd h.2 (ni rfl))).trans (hid kn_134)
        refine v_gi (z := 1) (v := c 1 1) rfl rfl rfl (by decide) rfl rfl (hid kn_139) ?_
        refine v_ic_ge_f (t := 55) rfl (by decide) ⟨by omega, by omega, (Int.le_trans h_3.2 (by decide))⟩ ?_
        refine q_aload_n rfl rfl ?_
        refine v_gr (t := 2) rfl rfl rfl (by decide) rfl ?_
        refine q_iload_n rfl rfl ?_
        have kn_140 : Hid (c_130 2 (nx (c 2) (c 1 1) (c 1 2)) = c 2 (nx (c 2) (c 1 1) (c 1 2))) := (hF_132 2 (nx (c 2) (c 1 1) (c 1 2)) (fun h => absurd h.1 (nn rfl))).trans (hid kn_60)
        have kn_141 : Hid (c_135 2 (nx (c 2) (c 1 1) (c 1 2)) = c 2 (nx (c 2) (c 1 1) (c 1 2))) := (hF_137 2 (nx (c 2) (c 1 1) (c 1 2)) (fun h => absurd h.1 (nn rfl))).trans (hid kn_140)
        refine v_ba (v := c 2 (nx (c 2) (c 1 1) (c 1 2))) rfl rfl (by decide) (by decide) (by omega) (hid kn_141) ?_
        refine q_aload_n rfl rfl ?_
        refine q_iload_n rfl rfl ?_
        refine v_sch 40 rfl rfl (by omega) (Nat.le_of_ble_eq_true rfl) (by decide) (by decide) (by decide) ?_
        refine v_ic_ne_t (t := 49) rfl (by decide) ⟨by omega, ⟨h_7.1, h_7.2⟩, by decide, by decide⟩ ?_
        refine v_iinc (v := 1) rfl rfl (by decide) (by decide) ?_
        refine q_goto (t := 7) rfl (by decide) ?_
        refine q_iload_n rfl rfl ?_
        refine q_aload_n rfl rfl ?_
        refine v_sln 1 rfl rfl (by omega) (Nat.le_of_ble_eq_true rfl) (by decide) (by decide) ?_
        refine v_ic_ge_t (t := 55) rfl (by decide) (by decide) ?_
        refine q_iconst rfl ?_
        refine q_iret rfl rfl ?_
        refine bk_inl ?_
        refine q_iconst rfl ?_
        refine v_ic_eq_t (t := 38) rfl (by decide) (by decide) ?_
        refine q_iconst rfl ?_
        refine q_istore rfl (by decide) ?_
        refine q_iload rfl rfl ?_
        refine v_if_eq_t (t := 50) rfl (by decide) (by decide) ?_
        refine q_aload_n rfl rfl ?_
        refine q_ldc_s rfl rfl rfl (by decide) ?_
        have kn_142 : Hid (c_9 1 4 = f9) := (hF_11 1 4 (fun h => absurd h.2 (ni rfl))).trans (hv0)
        have kn_143 : Hid (c_130 1 4 = f9) := (hF_132 1 4 (fun h => absurd h.2 (ni rfl))).trans (hid kn_142)
        have kn_144 : Hid (c_135 1 4 = f9) := (hF_137 1 4 (fun h => absurd h.2 (ni rfl))).trans (hid kn_143)
        have kn_145 : Hid (c_9 1 5 = p9) := (hF_11 1 5 (fun h => absurd h.2 (ni rfl))).trans (hv1)
        have kn_146 : Hid (c_130 1 5 = p9) := (hF_132 1 5 (fun h => absurd h.2 (ni rfl))).trans (hid kn_145)
        have kn_147 : Hid (c_135 1 5 = p9) := (hF_137 1 5 (fun h => absurd h.2 (ni rfl))).trans (hid kn_146)
        have h_148 := ln_be (b := c 2) (e := c 1 1) (a := (nx (c 2) (c 1 1) (c 1 2))) (by omega)
        refine v_cv rfl rfl rfl rfl (by decide) ⟨⟨rfl, rfl⟩, by decide, rfl⟩ (Nat.le_of_ble_eq_true rfl) (Nat.le_of_ble_eq_true rfl) (f_10_1 (e1 := c 1 1) (a9 := (nx (c 2) (c 1 1) (c 1 2))) (f9 := f9) (p9 := p9) (B := c 2) (r8 := (nx (c 2) (c 1 1) (c 1 2))) (L8 := (ln (c 2) (c 1 1) (nx (c 2) (c 1 1) (c 1 2)))) (W8 := (wd1_0 (c 2) (nx (c 2) (c 1 1) (c 1 2)) (ln (c 2) (c 1 1) (nx (c 2) (c 1 1) (c 1 2))))) hI_136 ((hid kn_139)) ((hz_138)) ((hid kn_144)) ((hid kn_147)) (fun j => (hF_137 2 j (fun h => absurd h.1 (nn rfl))).trans ((hF_132 2 j (fun h => absurd h.1 (nn rfl))).trans (hF_11 2 j (fun h => absurd h.1 (nn rfl))))) (nx_z (by omega)) rfl rfl (fun c_149 hI_150 hF_151 h_152 hz_153 hz_154 hz_155 => ?_) (fun c_156 hI_157 hF_158 h_159 h_160 hz_161 hz_162 hz_163 => by exfalso; omega) (fun c_164 hI_165 hF_166 h_167 h_168 hz_169 hz_170 hz_171 => by exfalso; omega))
        refine bk_inl ?_
        refine q_istore rfl (by decide) ?_
        refine q_iload rfl rfl ?_
        refine q_iconst rfl ?_
        refine v_ic_eq_t (t := 82) rfl (by decide) (by decide) ?_
        refine q_iload_n rfl rfl ?_
        refine v_bip rfl (by decide) ?_
        by_cases h_172 : a2 < 6
        · refine v_ic_lt_t (t := 94) rfl (by decide) ⟨(Int.le_trans (by decide) ha2.1), h_172, by decide⟩ ?_
          refine q_aload_n rfl rfl ?_
          refine v_cv rfl rfl rfl rfl (by decide) ⟨⟨rfl, rfl⟩, by decide, rfl⟩ (Nat.le_of_ble_eq_true rfl) (Nat.le_of_ble_eq_true rfl) ?_
          refine q_aload_n rfl rfl ?_
          refine v_gi (z := 4) (v := f9) rfl rfl rfl (by decide) rfl rfl (hz_154) ?_
          refine v_if_ne_t (t := 11) rfl (by decide) ⟨by omega, ⟨by omega, by omega⟩, by decide, by decide⟩ ?_
          refine q_iconst rfl ?_
          refine v_zret rfl rfl (by decide) ?_
          refine bk_inl ?_
          refine v_if_ne_f (t := 102) rfl (by decide) (by decide) ?_
          refine q_vret rfl rfl ?_
          have h_173 : c_149 1 4 = f9 := (hz_154)
          have h_174 : c_149 1 5 = p9 := (hz_155)
          exact K0 c_149 hI_150 (fun a j hm => (hF_151 a j (fun q => q.elim (fun h => hm (Or.inl h)) (fun q => q.elim (fun h => hm (Or.inr (Or.inl h))) (fun h => hm (Or.inr (Or.inr (Or.inl h))))))).trans ((hF_137 a j (fun h => hm (Or.inl h))).trans ((hF_132 a j (fun h => hm (Or.inl h))).trans (hF_11 a j (fun h => hm (Or.inl h)))))) (by omega) (by omega)
        · refine v_ic_lt_f (t := 94) rfl (by decide) ⟨by decide, (Int.not_lt.mp h_172), (Int.le_trans ha2.2 (by decide))⟩ ?_
          refine q_aload_n rfl rfl ?_
          refine q_iconst rfl ?_
          refine q_iload_n rfl rfl ?_
          refine v_cv rfl rfl rfl rfl (by decide) ⟨⟨rfl, rfl⟩, by decide, rfl⟩ (Nat.le_of_ble_eq_true rfl) (Nat.le_of_ble_eq_true rfl) ?_
          refine q_aload_n rfl rfl ?_
          refine v_gi (z := 4) (v := f9) rfl rfl rfl (by decide) rfl rfl (hz_154) ?_
          refine v_if_ne_t (t := 17) rfl (by decide) ⟨by omega, ⟨by omega, by omega⟩, by decide, by decide⟩ ?_
          refine q_vret rfl rfl ?_
          refine bk_inl ?_
          refine q_aload_n rfl rfl ?_
          refine v_cv rfl rfl rfl rfl (by decide) ⟨⟨rfl, rfl⟩, by decide, rfl⟩ (Nat.le_of_ble_eq_true rfl) (Nat.le_of_ble_eq_true rfl) ?_
          refine q_aload_n rfl rfl ?_
          refine v_gi (z := 4) (v := f9) rfl rfl rfl (by decide) rfl rfl (hz_154) ?_
          refine v_if_ne_t (t := 11) rfl (by decide) ⟨by omega, ⟨by omega, by omega⟩, by decide, by decide⟩ ?_
          refine q_iconst rfl ?_
          refine v_zret rfl rfl (by decide) ?_
          refine bk_inl ?_
          refine v_if_ne_f (t := 102) rfl (by decide) (by decide) ?_
          refine q_vret rfl rfl ?_
          have h_175 : c_149 1 4 = f9 := (hz_154)
          have h_176 : c_149 1 5 = p9 := (hz_155)
          exact K0 c_149 hI_150 (fun a j hm => (hF_151 a j (fun q => q.elim (fun h => hm (Or.inl h)) (fun q => q.elim (fun h => hm (Or.inr (Or.inl h))) (fun h => hm (Or.inr (Or.inr (Or.inl h))))))).trans ((hF_137 a j (fun h => hm (Or.inl h))).trans ((hF_132 a j (fun h => hm (Or.inl h))).trans (hF_11 a j (fun h => hm (Or.inl h)))))) (by omega) (by omega)
      · refine v_ic_gt_f (t := 39) rfl (by decide) ⟨h_7.1, (Int.not_lt.mp h_129), by decide⟩ ?_
        refine q_iconst rfl ?_
        refine q_goto (t := 40) rfl (by decide) ?_
        refine v_zret rfl rfl (by decide) ?_
        refine bk_inl ?_
        refine v_if_eq_f (t := 19) rfl (by decide) (by decide) ?_
        refine q_aload_n rfl rfl ?_
        refine q_aload_n rfl rfl ?_
        refine v_sip rfl (by decide) ?_
        have kn_177 : Hid (c_9 1 4 = f9) := (hF_11 1 4 (fun h => absurd h.2 (ni rfl))).trans (hv0)
        have kn_178 : Hid (c_9 1 5 = p9) := (hF_11 1 5 (fun h => absurd h.2 (ni rfl))).trans (hv1)
        have h_179 := dg_bd (b := c 2) (e := c 1 1) (a := (nx (c 2) (c 1 1) (c 1 2))) (v := 0) (by decide)
        have h_180 := dg_p (b := c 2) (e := c 1 1) (a := (nx (c 2) (c 1 1) (c 1 2))) (v := 0) (by decide)
        refine v_cv rfl rfl rfl rfl (by decide) ⟨⟨rfl, rfl⟩, by decide, rfl⟩ (Nat.le_of_ble_eq_true rfl) (Nat.le_of_ble_eq_true rfl) (f_8 (a1 := 999) (e1 := c 1 1) (a9 := (nx (c 2) (c 1 1) (c 1 2))) (f9 := f9) (p9 := p9) (B := c 2) (r8 := (nx (c 2) (c 1 1) (c 1 2))) (D8 := (dg (c 2) (c 1 1) (nx (c 2) (c 1 1) (c 1 2)) 0).1) (V8 := (dg (c 2) (c 1 1) (nx (c 2) (c 1 1) (c 1 2)) 0).2) hI_10 (show (-1) ≤ 999 ∧ 999 ≤ 9999 from ⟨by decide, by decide⟩) ((hid kn_13)) ((hz_12)) ((hid kn_177)) ((hid kn_178)) (fun j => hF_11 2 j (fun h => absurd h.1 (nn rfl))) (nx_z (by omega)) rfl rfl (fun c_181 hI_182 hF_183 h_184 hz_185 hz_186 hz_187 => ?_) (fun c_188 hI_189 hF_190 h_191 h_192 hz_193 hz_194 hz_195 => by exfalso; omega) (fun c_196 hI_197 hF_198 h_199 h_200 h_201 hz_202 hz_203 hz_204 => by exfalso; omega) (fun c_205 hI_206 hF_207 h_208 h_209 h_210 hz_211 hz_212 hz_213 => by exfalso; omega))
        refine bk_inl ?_
        refine v_cv rfl rfl rfl (ck_p7 hA) (a68 hA rfl) ⟨⟨rfl, rfl⟩, by decide, rfl⟩ (Nat.le_of_ble_eq_true rfl) (Nat.le_of_ble_eq_true rfl) ?_
        refine q_aload_n rfl rfl ?_
        have h_214 := ir_p7_5 hI hA
        have kn_215 : Hid (c_9 (A + 7) 5 = c (A + 7) 5) := hF_11 (A + 7) 5 (fun h => absurd h.1 (np hA rfl rfl))
        have kn_216 : Hid (c_181 (A + 7) 5 = c (A + 7) 5) := (hF_183 (A + 7) 5 (fun q => q.elim (fun h => absurd h.1 (np hA rfl rfl)) (fun q => q.elim (fun h => absurd h.1 (np hA rfl rfl)) (fun h => absurd h.1 (np hA rfl rfl))))).trans (hid kn_215)
        refine v_gi (z := 5) (v := c (A + 7) 5) rfl rfl (ck_p7 hA) (a68 hA rfl) rfl rfl (hid kn_216) ?_
        refine q_aload_n rfl rfl ?_
        refine v_gr (t := (A + 9)) rfl rfl (ck_p7 hA) (a68 hA rfl) rfl ?_
        refine v_al rfl (ck_p9 hA) (a68 hA rfl) (by decide) ?_
        by_cases h_217 : c (A + 7) 5 ≥ 150
        · refine v_ic_ge_t (t := 32) rfl (by decide) ⟨by decide, h_217, by omega⟩ ?_
          refine q_vret rfl rfl ?_
          refine bk_inl ?_
          refine q_vret rfl rfl ?_
          have h_218 : c_181 1 4 = f9 := (hz_186)
          have h_219 : c_181 1 5 = p9 := (hz_187)
          exact K0 c_181 hI_182 (fun a j hm => (hF_183 a j (fun q => q.elim (fun h => hm (Or.inl h)) (fun q => q.elim (fun h => hm (Or.inr (Or.inl h))) (fun h => hm (Or.inr (Or.inr (Or.inl h))))))).trans (hF_11 a j (fun h => hm (Or.inl h)))) (by omega) (by omega)
        · refine v_ic_ge_f (t := 32) rfl (by decide) ⟨by omega, (Int.not_le.mp h_217), by decide⟩ ?_
          refine q_aload_n rfl rfl ?_
          refine v_gr (t := (A + 9)) rfl rfl (ck_p7 hA) (a68 hA rfl) rfl ?_
          refine q_aload_n rfl rfl ?_
          refine v_gi (z := 5) (v := c (A + 7) 5) rfl rfl (ck_p7 hA) (a68 hA rfl) rfl rfl (hid kn_216) ?_
          refine q_iload_n rfl rfl ?_
          refine v_is rfl (ck_p9 hA) (a68 hA rfl) (by decide) (by omega) ?_
          refine q_aload_n rfl rfl ?_
          refine q_dup rfl rfl ?_
          refine v_gi (z := 5) (v := c (A + 7) 5) rfl rfl (ck_p7 hA) (a68 hA rfl) rfl rfl ((up_c (pp rfl)).trans (hid kn_216)) ?_
          refine q_iconst rfl ?_
          refine v_iadd (v := c (A + 7) 5 + 1) rfl rfl ?_
          refine v_pi (z := 5) rfl rfl (ck_p7 hA) (a68 hA rfl) rfl rfl rfl (by decide) ?_
          refine q_vret rfl rfl ?_
          refine bk_inl ?_
          refine q_vret rfl rfl ?_
          have hI_220 := iw_lg (j := c (A + 7) 5) (v := 0) hI_182 (lgp (k := 9) hA (by decide)) ⟨by decide, by decide⟩ (by omega)
          have hI_221 := iw_p7_5 (v := c (A + 7) 5 + 1) hI_220 hA ⟨by omega, by omega⟩
          have h_222 : (up (up c_181 (A + 9) (c (A + 7) 5) 0) (A + 7) 5 (c (A + 7) 5 + 1)) 1 4 = f9 := ((up_c (pn hA rfl rfl)).trans ((up_c (pn hA rfl rfl)).trans (hz_186)))
          have h_223 : (up (up c_181 (A + 9) (c (A + 7) 5) 0) (A + 7) 5 (c (A + 7) 5 + 1)) 1 5 = p9 := ((up_c (pn hA rfl rfl)).trans ((up_c (pn hA rfl rfl)).trans (hz_187)))
          exact K0 (up (up c_181 (A + 9) (c (A + 7) 5) 0) (A + 7) 5 (c (A + 7) 5 + 1)) hI_221 (fun a j hm => (up_b (Decidable.or_iff_not_imp_left.mpr (fun h1 h2 => hm (Or.inr (Or.inr (Or.inr (Or.inl ⟨Decidable.not_not.mp h1, h2⟩))))))).trans ((up_b (Decidable.or_iff_not_imp_left.mpr (fun h1 h2 => hm (Or.inr (Or.inr (Or.inr (Or.inr (Decidable.not_not.mp h1)))))))).trans ((hF_183 a j (fun q => q.elim (fun h => hm (Or.inl h)) (fun q => q.elim (fun h => hm (Or.inr (Or.inl h))) (fun h => hm (Or.inr (Or.inr (Or.inl h))))))).trans (hF_11 a j (fun h => hm (Or.inl h)))))) (by omega) (by omega)

set_option maxRecDepth 100000 in
set_option maxHeartbeats 4000000 in
theorem b_12 {sc : List Int32} {e : Int} {d u P Q A : Nat} {c : ME} {f9 p9 a2 : Int} {Z : AR → Prop} (hI : Iv u e P Q c) (hA : A = 13 ∨ A = 25) (ha2 : 0 ≤ a2 ∧ a2 ≤ 6) (hq0 : (f9 ≠ 0)) (hv0 : c 1 4 = f9) (hv1 : c 1 5 = p9) (K0 : ∀ c2 : ME, Iv u e P Q c2 → (∀ (a : Nat) (j : Int), ¬ ((a = 1 ∧ j = 2) ∨ (a = 1 ∧ j = 4) ∨ (a = 1 ∧ j = 5) ∨ (a = (A + 7) ∧ j = 5) ∨ a = (A + 9)) → c2 a j = c a j) → (c2 1 4 = f9) → (c2 1 5 = p9) → Z (.inl (none), Wd P Q P P c2, 0, 0)) : Wp sc (d + 15) 12 0 [(0, .ref (A + 7)), (1, .ref 1), (2, vi a2)] [] (Wd P Q P P c) 0 0 Z := by
  have hP := iv_P hI
  have hQ := iv_Q hI
  have h_1 := ir_1_4 hI
  have h_2 := ir_1_5 hI
  refine q_aload_n rfl rfl ?_
  refine q_aload_n rfl rfl ?_
  refine q_iload_n rfl rfl ?_
  refine v_cv rfl rfl rfl (ck_p7 hA) (a68 hA rfl) ⟨⟨rfl, rfl⟩, by decide, rfl⟩ (Nat.le_of_ble_eq_true rfl) (Nat.le_of_ble_eq_true rfl) (b_14 (a2 := a2) (f9 := f9) (p9 := p9) hI hA (show 0 ≤ a2 ∧ a2 ≤ 6 from ha2) (by omega) ((hv0)) ((hv1)) (fun c_3 hI_4 hF_5 hz_6 hz_7 => ?_))
  refine bk_inl ?_
  refine q_iconst rfl ?_
  refine q_istore_n rfl (by decide) ?_
  refine q_iload_n rfl rfl ?_
  refine v_sip rfl (by decide) ?_
  refine v_ic_ge_f (t := 59) rfl (by decide) (by decide) ?_
  refine q_aload_n rfl rfl ?_
  refine v_cv rfl rfl rfl rfl (by decide) ⟨⟨rfl, rfl⟩, by decide, rfl⟩ (Nat.le_of_ble_eq_true rfl) (Nat.le_of_ble_eq_true rfl) ?_
  refine q_aload_n rfl rfl ?_
  refine v_gi (z := 4) (v := f9) rfl rfl rfl (by decide) rfl rfl (hz_6) ?_
  refine v_if_ne_t (t := 11) rfl (by decide) (by omega) ?_
  refine q_iconst rfl ?_
  refine v_zret rfl rfl (by decide) ?_
  refine bk_inl ?_
  refine v_if_eq_t (t := 59) rfl (by decide) (by decide) ?_
  refine q_vret rfl rfl ?_
  have h_8 : c_3 1 4 = f9 := (hz_6)
  have h_9 : c_3 1 5 = p9 := (hz_7)
  exact K0 c_3 hI_4 (fun a j hm => hF_5 a j (fun q => q.elim (fun h => hm (Or.inl h)) (fun q => q.elim (fun h => hm (Or.inr (Or.inl h))) (fun q => q.elim (fun h => hm (Or.inr (Or.inr (Or.inl h)))) (fun q => q.elim (fun h => hm (Or.inr (Or.inr (Or.inr (Or.inl h))))) (fun h => hm (Or.inr (Or.inr (Or.inr (Or.inr h)))))))))) (by omega) (by omega)

set_option maxRecDepth 100000 in
set_option maxHeartbeats 4000000 in
theorem b_13 {sc : List Int32} {e : Int} {d u P Q A : Nat} {c : ME} {f9 p9 a2 : Int} {Z : AR → Prop} (hI : Iv u e P Q c) (hA : A = 13 ∨ A = 25) (ha2 : 0 ≤ a2 ∧ a2 ≤ 6) (hq0 : (f9 ≠ 0)) (hv0 : c 1 4 = f9) (hv1 : c 1 5 = p9) (K0 : ∀ c2 : ME, Iv u e P Q c2 → (∀ (a : Nat) (j : Int), ¬ ((a = 1 ∧ j = 2) ∨ (a = 1 ∧ j = 4) ∨ (a = 1 ∧ j = 5) ∨ (a = (A + 7) ∧ j = 5) ∨ a = (A + 9)) → c2 a j = c a j) → (c2 1 4 = f9) → (c2 1 5 = p9) → Z (.inl (none), Wd P Q P P c2, 0, 0)) : Wp sc (d + 16) 13 0 [(0, .ref (A + 7)), (1, .ref 1), (2, vi a2)] [] (Wd P Q P P c) 0 0 Z := by
  have hP := iv_P hI
  have hQ := iv_Q hI
  have h_1 := ir_1_4 hI
  have h_2 := ir_1_5 hI
  refine q_aload_n rfl rfl ?_
  refine q_aload_n rfl rfl ?_
  refine q_iload_n rfl rfl ?_
  refine v_cv rfl rfl rfl (ck_p7 hA) (a68 hA rfl) ⟨⟨rfl, rfl⟩, by decide, rfl⟩ (Nat.le_of_ble_eq_true rfl) (Nat.le_of_ble_eq_true rfl) (b_12 (a2 := a2) (f9 := f9) (p9 := p9) hI hA (show 0 ≤ a2 ∧ a2 ≤ 6 from ha2) (by omega) ((hv0)) ((hv1)) (fun c_3 hI_4 hF_5 hz_6 hz_7 => ?_))
  refine bk_inl ?_
  refine q_iconst rfl ?_
  refine q_istore_n rfl (by decide) ?_
  refine q_iload_n rfl rfl ?_
  refine v_sip rfl (by decide) ?_
  refine v_ic_ge_f (t := 59) rfl (by decide) (by decide) ?_
  refine q_aload_n rfl rfl ?_
  refine v_cv rfl rfl rfl rfl (by decide) ⟨⟨rfl, rfl⟩, by decide, rfl⟩ (Nat.le_of_ble_eq_true rfl) (Nat.le_of_ble_eq_true rfl) ?_
  refine q_aload_n rfl rfl ?_
  refine v_gi (z := 4) (v := f9) rfl rfl rfl (by decide) rfl rfl (hz_6) ?_
  refine v_if_ne_t (t := 11) rfl (by decide) (by omega) ?_
  refine q_iconst rfl ?_
  refine v_zret rfl rfl (by decide) ?_
  refine bk_inl ?_
  refine v_if_eq_t (t := 59) rfl (by decide) (by decide) ?_
  refine q_vret rfl rfl ?_
  have h_8 : c_3 1 4 = f9 := (hz_6)
  have h_9 : c_3 1 5 = p9 := (hz_7)
  exact K0 c_3 hI_4 (fun a j hm => hF_5 a j (fun q => q.elim (fun h => hm (Or.inl h)) (fun q => q.elim (fun h => hm (Or.inr (Or.inl h))) (fun q => q.elim (fun h => hm (Or.inr (Or.inr (Or.inl h)))) (fun q => q.elim (fun h => hm (Or.inr (Or.inr (Or.inr (Or.inl h))))) (fun h => hm (Or.inr (Or.inr (Or.inr (Or.inr h)))))))))) (by omega) (by omega)

set_option maxRecDepth 100000 in
set_option maxHeartbeats 4000000 in
theorem r_14 {sc : List Int32} {e : Int} {d u P Q A : Nat} {c : ME} {a2 : Int} {Z : AR → Prop} (hI : Iv u e P Q c) (hA : A = 13 ∨ A = 25) (ha2 : 0 ≤ a2 ∧ a2 ≤ 6) (K : ∀ (c2 : ME), Iv u e P Q c2 → (∀ (a : Nat) (j : Int), ¬ ((a = 1 ∧ j = 2) ∨ (a = 1 ∧ j = 4) ∨ (a = 1 ∧ j = 5) ∨ (a = (A + 7) ∧ j = 5) ∨ a = (A + 9)) → c2 a j = c a j) → Z (.inl (none), Wd P Q P P c2, 0, 0)) : Wp sc (d + 33) 14 0 [(0, .ref (A + 7)), (1, .ref 1), (2, vi a2)] [] (Wd P Q P P c) 0 0 Z :=
  s_14 (d := d + 21) hI hA ha2 (fun c9 Z9 h hI9 K9 => r_13 (d := d) hI9 hA ⟨by omega, h⟩ K9) K
set_option maxRecDepth 100000 in
set_option maxHeartbeats 4000000 in
theorem r_12 {sc : List Int32} {e : Int} {d u P Q A : Nat} {c : ME} {a2 : Int} {Z : AR → Prop} (hI : Iv u e P Q c) (hA : A = 13 ∨ A = 25) (ha2 : 0 ≤ a2 ∧ a2 ≤ 6) (K : ∀ (c2 : ME), Iv u e P Q c2 → (∀ (a : Nat) (j : Int), ¬ ((a = 1 ∧ j = 2) ∨ (a = 1 ∧ j = 4) ∨ (a = 1 ∧ j = 5) ∨ (a = (A + 7) ∧ j = 5) ∨ a = (A + 9)) → c2 a j = c a j) → Z (.inl (none), Wd P Q P P c2, 0, 0)) : Wp sc (d + 34) 12 0 [(0, .ref (A + 7)), (1, .ref 1), (2, vi a2)] [] (Wd P Q P P c) 0 0 Z :=
  s_12 (d := d + 21) hI hA ha2 (fun c9 Z9 h hI9 K9 => r_13 (d := d) hI9 hA ⟨by omega, h⟩ K9) K

set_option maxRecDepth 100000 in
set_option maxHeartbeats 4000000 in
theorem s_34x_l {sc : List Int32} {e : Int} {d u P Q A : Nat} {c : ME} {Z : AR → Prop} (hI : Iv u e P Q c) (hA : A = 13 ∨ A = 25) (K : ∀ (c2 : ME), Iv u e P Q c2 → (∀ (a : Nat) (j : Int), ¬ ((a = 1 ∧ j = 2) ∨ (a = 1 ∧ j = 4) ∨ (a = 1 ∧ j = 5) ∨ (a = A ∧ j = 0) ∨ (a = A ∧ j = 1) ∨ (a = A ∧ j = 2) ∨ (a = A ∧ j = 3) ∨ a = (A + 1) ∨ a = (A + 2) ∨ a = (A + 3) ∨ (a = A ∧ j = 4) ∨ (a = A ∧ j = 5) ∨ a = (A + 6) ∨ (a = (A + 7) ∧ j = 4)) → c2 a j = c a j) → ((c2 (A + 7) 4 = 0)) → ((c2 A 4 = 0 ∧ c2 A 5 = 0)) → Z (.inl (none), Wd P Q P P c2, 0, 0)) : ∀ n : Nat, (∀ (c2 : ME) (v2 : Int), Iv u e P Q c2 → (∀ (a : Nat) (j : Int), ¬ ((a = 1 ∧ j = 2) ∨ (a = 1 ∧ j = 4) ∨ (a = 1 ∧ j = 5) ∨ (a = A ∧ j = 0) ∨ (a = A ∧ j = 1) ∨ (a = A ∧ j = 2) ∨ (a = A ∧ j = 3) ∨ a = (A + 1) ∨ a = (A + 2) ∨ a = (A + 3) ∨ (a = A ∧ j = 4) ∨ (a = A ∧ j = 5) ∨ a = (A + 6) ∨ (a = (A + 7) ∧ j = 4)) → c2 a j = c a j) → 0 ≤ v2 ∧ v2 ≤ 61 → ((c2 (A + 7) 4 = 0)) → ((c2 A 4 = 0 ∧ c2 A 5 = 0)) → 123 - 2 * v2 < (n : Int) → Wp sc (d + 12) 34 6 [(0, .ref A), (1, .ref 1), (2, vi v2)] [] (Wd P Q P P c2) 0 0 Z)
  | 0 => by intro c2 v2 hI2 hF hv2 hx0 hx1 hm9; have hP := iv_P hI; have hQ := iv_Q hI; exfalso; omega
  | n + 1 => by
    have hP := iv_P hI
    have hQ := iv_Q hI
    have ih := s_34x_l (sc := sc) (d := d) hI hA K n
    intro c2 v2 hI2 hF hv2 hx0 hx1 hm9
    have h_1 := ir_p7_4 hI2 hA
    have h_2 := ir_p0_4 hI2 hA
    have h_3 := ir_p0_5 hI2 hA
    refine q_iload_n rfl rfl ?_
    refine v_bip rfl (by decide) ?_
    by_cases h_4 : v2 > 60
    · refine v_ic_gt_t (t := 85) rfl (by decide) ⟨by decide, h_4, (Int.le_trans hv2.2 (by decide))⟩ ?_
      refine q_vret rfl rfl ?_
      exact K c2 hI2 (fun a j hm => hF a j (fun q => q.elim (fun h => hm (Or.inl h)) (fun q => q.elim (fun h => hm (Or.inr (Or.inl h))) (fun q => q.elim (fun h => hm (Or.inr (Or.inr (Or.inl h)))) (fun q => q.elim (fun h => hm (Or.inr (Or.inr (Or.inr (Or.inl h))))) (fun q => q.elim (fun h => hm (Or.inr (Or.inr (Or.inr (Or.inr (Or.inl h)))))) (fun q => q.elim (fun h => hm (Or.inr (Or.inr (Or.inr (Or.inr (Or.inr (Or.inl h))))))) (fun q => q.elim (fun h => hm (Or.inr (Or.inr (Or.inr (Or.inr (Or.inr (Or.inr (Or.inl h)))))))) (fun q => q.elim (fun h => hm (Or.inr (Or.inr (Or.inr (Or.inr (Or.inr (Or.inr (Or.inr (Or.inl h))))))))) (fun q => q.elim (fun h => hm (Or.inr (Or.inr (Or.inr (Or.inr (Or.inr (Or.inr (Or.inr (Or.inr (Or.inl h)))))))))) (fun q => q.elim (fun h => hm (Or.inr (Or.inr (Or.inr (Or.inr (Or.inr (Or.inr (Or.inr (Or.inr (Or.inr (Or.inl h))))))))))) (fun q => q.elim (fun h => hm (Or.inr (Or.inr (Or.inr (Or.inr (Or.inr (Or.inr (Or.inr (Or.inr (Or.inr (Or.inr (Or.inl h)))))))))))) (fun q => q.elim (fun h => hm (Or.inr (Or.inr (Or.inr (Or.inr (Or.inr (Or.inr (Or.inr (Or.inr (Or.inr (Or.inr (Or.inr (Or.inl h))))))))))))) (fun q => q.elim (fun h => hm (Or.inr (Or.inr (Or.inr (Or.inr (Or.inr (Or.inr (Or.inr (Or.inr (Or.inr (Or.inr (Or.inr (Or.inr (Or.inl h)))))))))))))) (fun h => hm (Or.inr (Or.inr (Or.inr (Or.inr (Or.inr (Or.inr (Or.inr (Or.inr (Or.inr (Or.inr (Or.inr (Or.inr (Or.inr h)))))))))))))))))))))))))))) (by omega) ⟨by omega, by omega⟩
    · refine v_ic_gt_f (t := 85) rfl (by decide) ⟨(Int.le_trans (by decide) hv2.1), (Int.not_lt.mp h_4), by decide⟩ ?_
      refine q_aload_n rfl rfl ?_
      refine v_cv rfl rfl rfl rfl (by decide) ⟨⟨rfl, rfl⟩, by decide, rfl⟩ (Nat.le_of_ble_eq_true rfl) (Nat.le_of_ble_eq_true rfl) (s_15 hI2 (fun c_5 y_8 hI_6 hF_7 hy_8 => ?_))
      refine bk_inl ?_
      by_cases h_9 : y_8 = 0
      · refine v_if_eq_t (t := 85) rfl (by decide) h_9 ?_
        refine q_vret rfl rfl ?_
        have kn_10 : Hid (c_5 (A + 7) 4 = c2 (A + 7) 4) := hF_7 (A + 7) 4 (fun h => absurd h.1 (np hA rfl rfl))
        have h_11 : c_5 (A + 7) 4 = c2 (A + 7) 4 := (hid kn_10)
        have kn_12 : Hid (c_5 A 4 = c2 A 4) := hF_7 A 4 (fun h => absurd h.1 (np0 hA rfl))
        have h_13 : c_5 A 4 = c2 A 4 := (hid kn_12)
        have kn_14 : Hid (c_5 A 5 = c2 A 5) := hF_7 A 5 (fun h => absurd h.1 (np0 hA rfl))
        have h_15 : c_5 A 5 = c2 A 5 := (hid kn_14)
        exact K c_5 hI_6 (fun a j hm => (hF_7 a j (fun h => hm (Or.inl h))).trans (hF a j (fun q => q.elim (fun h => hm (Or.inl h)) (fun q => q.elim (fun h => hm (Or.inr (Or.inl h))) (fun q => q.elim (fun h => hm (Or.inr (Or.inr (Or.inl h)))) (fun q => q.elim (fun h => hm (Or.inr (Or.inr (Or.inr (Or.inl h))))) (fun q => q.elim (fun h => hm (Or.inr (Or.inr (Or.inr (Or.inr (Or.inl h)))))) (fun q => q.elim (fun h => hm (Or.inr (Or.inr (Or.inr (Or.inr (Or.inr (Or.inl h))))))) (fun q => q.elim (fun h => hm (Or.inr (Or.inr (Or.inr (Or.inr (Or.inr (Or.inr (Or.inl h)))))))) (fun q => q.elim (fun h => hm (Or.inr (Or.inr (Or.inr (Or.inr (Or.inr (Or.inr (Or.inr (Or.inl h))))))))) (fun q => q.elim (fun h => hm (Or.inr (Or.inr (Or.inr (Or.inr (Or.inr (Or.inr (Or.inr (Or.inr (Or.inl h)))))))))) (fun q => q.elim (fun h => hm (Or.inr (Or.inr (Or.inr (Or.inr (Or.inr (Or.inr (Or.inr (Or.inr (Or.inr (Or.inl h))))))))))) (fun q => q.elim (fun h => hm (Or.inr (Or.inr (Or.inr (Or.inr (Or.inr (Or.inr (Or.inr (Or.inr (Or.inr (Or.inr (Or.inl h)))))))))))) (fun q => q.elim (fun h => hm (Or.inr (Or.inr (Or.inr (Or.inr (Or.inr (Or.inr (Or.inr (Or.inr (Or.inr (Or.inr (Or.inr (Or.inl h))))))))))))) (fun q => q.elim (fun h => hm (Or.inr (Or.inr (Or.inr (Or.inr (Or.inr (Or.inr (Or.inr (Or.inr (Or.inr (Or.inr (Or.inr (Or.inr (Or.inl h)))))))))))))) (fun h => hm (Or.inr (Or.inr (Or.inr (Or.inr (Or.inr (Or.inr (Or.inr (Or.inr (Or.inr (Or.inr (Or.inr (Or.inr (Or.inr h))))))))))))))))))))))))))))) (by omega) ⟨by omega, by omega⟩
      · refine v_if_eq_f (t := 85) rfl (by decide) ⟨h_9, ⟨(Int.le_trans (by decide) hy_8.1), (Int.le_trans hy_8.2 (by decide))⟩, by decide, by decide⟩ ?_
        refine q_aload_n rfl rfl ?_
        refine v_cv rfl rfl rfl rfl (by decide) ⟨⟨rfl, rfl⟩, by decide, rfl⟩ (Nat.le_of_ble_eq_true rfl) (Nat.le_of_ble_eq_true rfl) (s_3 hI_6 (fun c_16 y_19 hI_17 hF_18 hy_19 h_20 => ?_))
        refine bk_inl ?_
        have h_21 := ir_1_2 hI_17
        refine q_istore_n rfl (by decide) ?_
        refine q_aload_n rfl rfl ?_
        refine q_ldc_s rfl rfl rfl (by decide) ?_
        refine v_cv rfl rfl rfl rfl (by decide) ⟨⟨rfl, rfl⟩, by decide, rfl⟩ (Nat.le_of_ble_eq_true rfl) (Nat.le_of_ble_eq_true rfl) (s_10 hI_17 (q := 8) (nt := 20) (by decide) (by decide) (by decide) (fun c_22 y_25 hI_23 hF_24 hy_25 h_26 => ?_))
        refine bk_inl ?_
        have h_27 := ir_1_4 hI_23
        refine q_istore rfl (by decide) ?_
        refine q_iload rfl rfl ?_
        refine q_iconst rfl ?_
        by_cases h_28 : y_25 = (-1)
        · refine v_ic_eq_t (t := 59) rfl (by decide) h_28 ?_
          refine q_aload_n rfl rfl ?_
          refine v_cv rfl rfl rfl rfl (by decide) ⟨⟨rfl, rfl⟩, by decide, rfl⟩ (Nat.le_of_ble_eq_true rfl) (Nat.le_of_ble_eq_true rfl) ?_
          refine q_aload_n rfl rfl ?_
          refine v_gi (z := 4) (v := c_22 1 4) rfl rfl rfl (by decide) rfl rfl rfl ?_
          refine v_if_ne_t (t := 11) rfl (by decide) ⟨by omega, ⟨(Int.le_trans (by decide) h_27.1), (Int.le_trans h_27.2 (by decide))⟩, by decide, by decide⟩ ?_
          refine q_iconst rfl ?_
          refine v_zret rfl rfl (by decide) ?_
          refine bk_inl ?_
          refine v_if_eq_t (t := 73) rfl (by decide) (by decide) ?_
          refine q_aload_n rfl rfl ?_
          refine q_ldc_s rfl rfl rfl (by decide) ?_
          refine v_cv rfl rfl rfl rfl (by decide) ⟨⟨rfl, rfl⟩, by decide, rfl⟩ (Nat.le_of_ble_eq_true rfl) (Nat.le_of_ble_eq_true rfl) (s_11 hI_23 (q := 9) (nt := 1) (by decide) (by decide) (by decide) (fun c_29 hI_30 hF_31 => ?_))
          refine bk_inl ?_
          refine v_iinc (v := v2 + 1) rfl rfl (by decide) rfl ?_
          refine q_goto (t := 6) rfl (by decide) ?_
          refine Wp_ls [(0, .ref A), (1, .ref 1), (2, vi (v2 + 1))] (lsub_cons rfl (lsub_cons rfl (lsub_cons rfl lsub_nil))) ?_
          have kn_32 : Hid (c_5 (A + 7) 4 = c2 (A + 7) 4) := hF_7 (A + 7) 4 (fun h => absurd h.1 (np hA rfl rfl))
          have kn_33 : Hid (c_16 (A + 7) 4 = c2 (A + 7) 4) := (hF_18 (A + 7) 4 (fun h => absurd h.1 (np hA rfl rfl))).trans (hid kn_32)
          have kn_34 : Hid (c_22 (A + 7) 4 = c2 (A + 7) 4) := (hF_24 (A + 7) 4 (fun q => q.elim (fun h => absurd h.1 (np hA rfl rfl)) (fun q => q.elim (fun h => absurd h.1 (np hA rfl rfl)) (fun h => absurd h.1 (np hA rfl rfl))))).trans (hid kn_33)
          have kn_35 : Hid (c_29 (A + 7) 4 = c2 (A + 7) 4) := (hF_31 (A + 7) 4 (fun q => q.elim (fun h => absurd h.1 (np hA rfl rfl)) (fun q => q.elim (fun h => absurd h.1 (np hA rfl rfl)) (fun h => absurd h.1 (np hA rfl rfl))))).trans (hid kn_34)
          have h_36 : c_29 (A + 7) 4 = c2 (A + 7) 4 := (hid kn_35)
          have kn_37 : Hid (c_5 A 4 = c2 A 4) := hF_7 A 4 (fun h => absurd h.1 (np0 hA rfl))
          have kn_38 : Hid (c_16 A 4 = c2 A 4) := (hF_18 A 4 (fun h => absurd h.1 (np0 hA rfl))).trans (hid kn_37)
          have kn_39 : Hid (c_22 A 4 = c2 A 4) := (hF_24 A 4 (fun q => q.elim (fun h => absurd h.1 (np0 hA rfl)) (fun q => q.elim (fun h => absurd h.1 (np0 hA rfl)) (fun h => absurd h.1 (np0 hA rfl))))).trans (hid kn_38)
          have kn_40 : Hid (c_29 A 4 = c2 A 4) := (hF_31 A 4 (fun q => q.elim (fun h => absurd h.1 (np0 hA rfl)) (fun q => q.elim (fun h => absurd h.1 (np0 hA rfl)) (fun h => absurd h.1 (np0 hA rfl))))).trans (hid kn_39)
          have h_41 : c_29 A 4 = c2 A 4 := (hid kn_40)
          have kn_42 : Hid (c_5 A 5 = c2 A 5) := hF_7 A 5 (fun h => absurd h.1 (np0 hA rfl))
          have kn_43 : Hid (c_16 A 5 = c2 A 5) := (hF_18 A 5 (fun h => absurd h.1 (np0 hA rfl))).trans (hid kn_42)
          have kn_44 : Hid (c_22 A 5 = c2 A 5) := (hF_24 A 5 (fun q => q.elim (fun h => absurd h.1 (np0 hA rfl)) (fun q => q.elim (fun h => absurd h.1 (np0 hA rfl)) (fun h => absurd h.1 (np0 hA rfl))))).trans (hid kn_43)
          have kn_45 : Hid (c_29 A 5 = c2 A 5) := (hF_31 A 5 (fun q => q.elim (fun h => absurd h.1 (np0 hA rfl)) (fun q => q.elim (fun h => absurd h.1 (np0 hA rfl)) (fun h => absurd h.1 (np0 hA rfl))))).trans (hid kn_44)
          have h_46 : c_29 A 5 = c2 A 5 := (hid kn_45)
          exact ih c_29 (v2 + 1) hI_30 (fun a j hm => (hF_31 a j (fun q => q.elim (fun h => hm (Or.inl h)) (fun q => q.elim (fun h => hm (Or.inr (Or.inl h))) (fun h => hm (Or.inr (Or.inr (Or.inl h))))))).trans ((hF_24 a j (fun q => q.elim (fun h => hm (Or.inl h)) (fun q => q.elim (fun h => hm (Or.inr (Or.inl h))) (fun h => hm (Or.inr (Or.inr (Or.inl h))))))).trans ((hF_18 a j (fun h => hm (Or.inl h))).trans ((hF_7 a j (fun h => hm (Or.inl h))).trans (hF a j (fun q => q.elim (fun h => hm (Or.inl h)) (fun q => q.elim (fun h => hm (Or.inr (Or.inl h))) (fun q => q.elim (fun h => hm (Or.inr (Or.inr (Or.inl h)))) (fun q => q.elim (fun h => hm (Or.inr (Or.inr (Or.inr (Or.inl h))))) (fun q => q.elim (fun h => hm (Or.inr (Or.inr (Or.inr (Or.inr (Or.inl h)))))) (fun q => q.elim (fun h => hm (Or.inr (Or.inr (Or.inr (Or.inr (Or.inr (Or.inl h))))))) (fun q => q.elim (fun h => hm (Or.inr (Or.inr (Or.inr (Or.inr (Or.inr (Or.inr (Or.inl h)))))))) (fun q => q.elim (fun h => hm (Or.inr (Or.inr (Or.inr (Or.inr (Or.inr (Or.inr (Or.inr (Or.inl h))))))))) (fun q => q.elim (fun h => hm (Or.inr (Or.inr (Or.inr (Or.inr (Or.inr (Or.inr (Or.inr (Or.inr (Or.inl h)))))))))) (fun q => q.elim (fun h => hm (Or.inr (Or.inr (Or.inr (Or.inr (Or.inr (Or.inr (Or.inr (Or.inr (Or.inr (Or.inl h))))))))))) (fun q => q.elim (fun h => hm (Or.inr (Or.inr (Or.inr (Or.inr (Or.inr (Or.inr (Or.inr (Or.inr (Or.inr (Or.inr (Or.inl h)))))))))))) (fun q => q.elim (fun h => hm (Or.inr (Or.inr (Or.inr (Or.inr (Or.inr (Or.inr (Or.inr (Or.inr (Or.inr (Or.inr (Or.inr (Or.inl h))))))))))))) (fun q => q.elim (fun h => hm (Or.inr (Or.inr (Or.inr (Or.inr (Or.inr (Or.inr (Or.inr (Or.inr (Or.inr (Or.inr (Or.inr (Or.inr (Or.inl h)))))))))))))) (fun h => hm (Or.inr (Or.inr (Or.inr (Or.inr (Or.inr (Or.inr (Or.inr (Or.inr (Or.inr (Or.inr (Or.inr (Or.inr (Or.inr h)))))))))))))))))))))))))))))))) ⟨by first | exact rgp_l hv2.1 (by decide) | omega, by omega⟩ (by omega) ⟨by omega, by omega⟩ (by omega)
        · refine v_ic_eq_f (t := 59) rfl (by decide) ⟨h_28, ⟨(Int.le_trans (by decide) hy_25.1), (Int.le_trans hy_25.2 (by decide))⟩, by decide, by decide⟩ ?_
          refine q_iload_n rfl rfl ?_
          refine v_bip rfl (by decide) ?_
          by_cases h_47 : v2 = 60
          · refine v_ic_eq_t (t := 53) rfl (by decide) h_47 ?_
            refine q_aload_n rfl rfl ?_
            refine q_iconst rfl ?_
            refine q_iload_n rfl rfl ?_
            refine v_cv rfl rfl rfl rfl (by decide) ⟨⟨rfl, rfl⟩, by decide, rfl⟩ (Nat.le_of_ble_eq_true rfl) (Nat.le_of_ble_eq_true rfl) (s_7 (a1 := 3) (a2 := y_19) hI_23 (show 1 ≤ 3 ∧ 3 ≤ 3 from ⟨by decide, by decide⟩) (show 0 ≤ y_19 ∧ y_19 ≤ 600 from hy_19) (fun c_48 hI_49 hF_50 h_51 => ?_))
            refine bk_inl ?_
            have h_52 := ir_1_4 hI_49
            refine q_aload_n rfl rfl ?_
            refine v_cv rfl rfl rfl rfl (by decide) ⟨⟨rfl, rfl⟩, by decide, rfl⟩ (Nat.le_of_ble_eq_true rfl) (Nat.le_of_ble_eq_true rfl) ?_
            refine q_aload_n rfl rfl ?_
            refine v_gi (z := 4) (v := c_48 1 4) rfl rfl rfl (by decide) rfl rfl rfl ?_
            refine v_if_ne_t (t := 11) rfl (by decide) ⟨by omega, ⟨(Int.le_trans (by decide) h_52.1), (Int.le_trans h_52.2 (by decide))⟩, by decide, by decide⟩ ?_
            refine q_iconst rfl ?_
            refine v_zret rfl rfl (by decide) ?_
            refine bk_inl ?_
            refine v_if_eq_t (t := 73) rfl (by decide) (by decide) ?_
            refine q_aload_n rfl rfl ?_
            refine q_ldc_s rfl rfl rfl (by decide) ?_
            refine v_cv rfl rfl rfl rfl (by decide) ⟨⟨rfl, rfl⟩, by decide, rfl⟩ (Nat.le_of_ble_eq_true rfl) (Nat.le_of_ble_eq_true rfl) (s_11 hI_49 (q := 9) (nt := 1) (by decide) (by decide) (by decide) (fun c_53 hI_54 hF_55 => ?_))
            refine bk_inl ?_
            refine v_iinc (v := v2 + 1) rfl rfl (by decide) rfl ?_
            refine q_goto (t := 6) rfl (by decide) ?_
            refine Wp_ls [(0, .ref A), (1, .ref 1), (2, vi (v2 + 1))] (lsub_cons rfl (lsub_cons rfl (lsub_cons rfl lsub_nil))) ?_
            have kn_56 : Hid (c_5 (A + 7) 4 = c2 (A + 7) 4) := hF_7 (A + 7) 4 (fun h => absurd h.1 (np hA rfl rfl))
            have kn_57 : Hid (c_16 (A + 7) 4 = c2 (A + 7) 4) := (hF_18 (A + 7) 4 (fun h => absurd h.1 (np hA rfl rfl))).trans (hid kn_56)
            have kn_58 : Hid (c_22 (A + 7) 4 = c2 (A + 7) 4) := (hF_24 (A + 7) 4 (fun q => q.elim (fun h => absurd h.1 (np hA rfl rfl)) (fun q => q.elim (fun h => absurd h.1 (np hA rfl rfl)) (fun h => absurd h.1 (np hA rfl rfl))))).trans (hid kn_57)
            have kn_59 : Hid (c_48 (A + 7) 4 = c2 (A + 7) 4) := (hF_50 (A + 7) 4 (fun q => q.elim (fun h => absurd h.1 (np hA rfl rfl)) (fun h => absurd h.1 (np hA rfl rfl)))).trans (hid kn_58)
            have kn_60 : Hid (c_53 (A + 7) 4 = c2 (A + 7) 4) := (hF_55 (A + 7) 4 (fun q => q.elim (fun h => absurd h.1 (np hA rfl rfl)) (fun q => q.elim (fun h => absurd h.1 (np hA rfl rfl)) (fun h => absurd h.1 (np hA rfl rfl))))).trans (hid kn_59)
            have h_61 : c_53 (A + 7) 4 = c2 (A + 7) 4 := (hid kn_60)
            have kn_62 : Hid (c_5 A 4 = c2 A 4) := hF_7 A 4 (fun h => absurd h.1 (np0 hA rfl))
            have kn_63 : Hid (c_16 A 4 = c2 A 4) := (hF_18 A 4 (fun h => absurd h.1 (np0 hA rfl))).trans (hid kn_62)
            have kn_64 : Hid (c_22 A 4 = c2 A 4) := (hF_24 A 4 (fun q => q.elim (fun h => absurd h.1 (np0 hA rfl)) (fun q => q.elim (fun h => absurd h.1 (np0 hA rfl)) (fun h => absurd h.1 (np0 hA rfl))))).trans (hid kn_63)
            have kn_65 : Hid (c_48 A 4 = c2 A 4) := (hF_50 A 4 (fun q => q.elim (fun h => absurd h.1 (np0 hA rfl)) (fun h => absurd h.1 (np0 hA rfl)))).trans (hid kn_64)
            have kn_66 : Hid (c_53 A 4 = c2 A 4) := (hF_55 A 4 (fun q => q.elim (fun h => absurd h.1 (np0 hA rfl)) (fun q => q.elim (fun h => absurd h.1 (np0 hA rfl)) (fun h => absurd h.1 (np0 hA rfl))))).trans (hid kn_65)
            have h_67 : c_53 A 4 = c2 A 4 := (hid kn_66)
            have kn_68 : Hid (c_5 A 5 = c2 A 5) := hF_7 A 5 (fun h => absurd h.1 (np0 hA rfl))
            have kn_69 : Hid (c_16 A 5 = c2 A 5) := (hF_18 A 5 (fun h => absurd h.1 (np0 hA rfl))).trans (hid kn_68)
            have kn_70 : Hid (c_22 A 5 = c2 A 5) := (hF_24 A 5 (fun q => q.elim (fun h => absurd h.1 (np0 hA rfl)) (fun q => q.elim (fun h => absurd h.1 (np0 hA rfl)) (fun h => absurd h.1 (np0 hA rfl))))).trans (hid kn_69)
            have kn_71 : Hid (c_48 A 5 = c2 A 5) := (hF_50 A 5 (fun q => q.elim (fun h => absurd h.1 (np0 hA rfl)) (fun h => absurd h.1 (np0 hA rfl)))).trans (hid kn_70)
            have kn_72 : Hid (c_53 A 5 = c2 A 5) := (hF_55 A 5 (fun q => q.elim (fun h => absurd h.1 (np0 hA rfl)) (fun q => q.elim (fun h => absurd h.1 (np0 hA rfl)) (fun h => absurd h.1 (np0 hA rfl))))).trans (hid kn_71)
            have h_73 : c_53 A 5 = c2 A 5 := (hid kn_72)
            exact ih c_53 (v2 + 1) hI_54 (fun a j hm => (hF_55 a j (fun q => q.elim (fun h => hm (Or.inl h)) (fun q => q.elim (fun h => hm (Or.inr (Or.inl h))) (fun h => hm (Or.inr (Or.inr (Or.inl h))))))).trans ((hF_50 a j (fun q => q.elim (fun h => hm (Or.inr (Or.inl h))) (fun h => hm (Or.inr (Or.inr (Or.inl h)))))).trans ((hF_24 a j (fun q => q.elim (fun h => hm (Or.inl h)) (fun q => q.elim (fun h => hm (Or.inr (Or.inl h))) (fun h => hm (Or.inr (Or.inr (Or.inl h))))))).trans ((hF_18 a j (fun h => hm (Or.inl h))).trans ((hF_7 a j (fun h => hm (Or.inl h))).trans (hF a j (fun q => q.elim (fun h => hm (Or.inl h)) (fun q => q.elim (fun h => hm (Or.inr (Or.inl h))) (fun q => q.elim (fun h => hm (Or.inr (Or.inr (Or.inl h)))) (fun q => q.elim (fun h => hm (Or.inr (Or.inr (Or.inr (Or.inl h))))) (fun q => q.elim (fun h => hm (Or.inr (Or.inr (Or.inr (Or.inr (Or.inl h)))))) (fun q => q.elim (fun h => hm (Or.inr (Or.inr (Or.inr (Or.inr (Or.inr (Or.inl h))))))) (fun q => q.elim (fun h => hm (Or.inr (Or.inr (Or.inr (Or.inr (Or.inr (Or.inr (Or.inl h)))))))) (fun q => q.elim (fun h => hm (Or.inr (Or.inr (Or.inr (Or.inr (Or.inr (Or.inr (Or.inr (Or.inl h))))))))) (fun q => q.elim (fun h => hm (Or.inr (Or.inr (Or.inr (Or.inr (Or.inr (Or.inr (Or.inr (Or.inr (Or.inl h)))))))))) (fun q => q.elim (fun h => hm (Or.inr (Or.inr (Or.inr (Or.inr (Or.inr (Or.inr (Or.inr (Or.inr (Or.inr (Or.inl h))))))))))) (fun q => q.elim (fun h => hm (Or.inr (Or.inr (Or.inr (Or.inr (Or.inr (Or.inr (Or.inr (Or.inr (Or.inr (Or.inr (Or.inl h)))))))))))) (fun q => q.elim (fun h => hm (Or.inr (Or.inr (Or.inr (Or.inr (Or.inr (Or.inr (Or.inr (Or.inr (Or.inr (Or.inr (Or.inr (Or.inl h))))))))))))) (fun q => q.elim (fun h => hm (Or.inr (Or.inr (Or.inr (Or.inr (Or.inr (Or.inr (Or.inr (Or.inr (Or.inr (Or.inr (Or.inr (Or.inr (Or.inl h)))))))))))))) (fun h => hm (Or.inr (Or.inr (Or.inr (Or.inr (Or.inr (Or.inr (Or.inr (Or.inr (Or.inr (Or.inr (Or.inr (Or.inr (Or.inr h))))))))))))))))))))))))))))))))) ⟨by first | exact rgp_l hv2.1 (by decide) | omega, by omega⟩ (by omega) ⟨by omega, by omega⟩ (by omega)
          · refine v_ic_eq_f (t := 53) rfl (by decide) ⟨h_47, ⟨(Int.le_trans (by decide) hv2.1), (Int.le_trans hv2.2 (by decide))⟩, by decide, by decide⟩ ?_
            refine q_aload_n rfl rfl ?_
            refine q_iload rfl rfl ?_
            refine v_cv rfl rfl rfl (ck_p0 hA) (a68z hA) ⟨⟨rfl, rfl⟩, by decide, rfl⟩ (Nat.le_of_ble_eq_true rfl) (Nat.le_of_ble_eq_true rfl) ?_
            refine q_iload_n rfl rfl ?_
            by_cases h_74 : y_25 = 0
            · skip
              refine v_tsw_i (t := 28) 0 rfl (by omega) (by decide) rfl (by decide) ?_
              refine q_aload_n rfl rfl ?_
              have h_75 := ir_p0_0 hI2 hA
              have kn_76 : Hid (c_5 A 0 = c2 A 0) := hF_7 A 0 (fun h => absurd h.1 (np0 hA rfl))
              have kn_77 : Hid (c_16 A 0 = c2 A 0) := (hF_18 A 0 (fun h => absurd h.1 (np0 hA rfl))).trans (hid kn_76)
              have kn_78 : Hid (c_22 A 0 = c2 A 0) := (hF_24 A 0 (fun q => q.elim (fun h => absurd h.1 (np0 hA rfl)) (fun q => q.elim (fun h => absurd h.1 (np0 hA rfl)) (fun h => absurd h.1 (np0 hA rfl))))).trans (hid kn_77)
              refine v_gi (z := 0) (v := c2 A 0) rfl rfl (ck_p0 hA) (a68z hA) rfl rfl (hid kn_78) ?_
              refine v_bip rfl (by decide) ?_
              by_cases h_79 : c2 A 0 ≠ 6
              · refine v_ic_ne_t (t := 41) rfl (by decide) ⟨h_79, ⟨by omega, by omega⟩, by decide, by decide⟩ ?_
                refine q_iconst rfl ?_
                refine v_zret rfl rfl (by decide) ?_
                refine bk_inl ?_
                refine v_if_eq_t (t := 59) rfl (by decide) (by decide) ?_
                refine q_aload_n rfl rfl ?_
                refine v_cv rfl rfl rfl rfl (by decide) ⟨⟨rfl, rfl⟩, by decide, rfl⟩ (Nat.le_of_ble_eq_true rfl) (Nat.le_of_ble_eq_true rfl) ?_
                refine q_aload_n rfl rfl ?_
                refine v_gi (z := 4) (v := c_22 1 4) rfl rfl rfl (by decide) rfl rfl rfl ?_
                by_cases h_80 : c_22 1 4 ≠ 0
                · refine v_if_ne_t (t := 11) rfl (by decide) ⟨h_80, ⟨(Int.le_trans (by decide) h_27.1), (Int.le_trans h_27.2 (by decide))⟩, by decide, by decide⟩ ?_
                  refine q_iconst rfl ?_
                  refine v_zret rfl rfl (by decide) ?_
                  refine bk_inl ?_
                  refine v_if_eq_t (t := 73) rfl (by decide) (by decide) ?_
                  refine q_aload_n rfl rfl ?_
                  refine q_ldc_s rfl rfl rfl (by decide) ?_
                  refine v_cv rfl rfl rfl rfl (by decide) ⟨⟨rfl, rfl⟩, by decide, rfl⟩ (Nat.le_of_ble_eq_true rfl) (Nat.le_of_ble_eq_true rfl) (s_11 hI_23 (q := 9) (nt := 1) (by decide) (by decide) (by decide) (fun c_81 hI_82 hF_83 => ?_))
                  refine bk_inl ?_
                  refine v_iinc (v := v2 + 1) rfl rfl (by decide) rfl ?_
                  refine q_goto (t := 6) rfl (by decide) ?_
                  refine Wp_ls [(0, .ref A), (1, .ref 1), (2, vi (v2 + 1))] (lsub_cons rfl (lsub_cons rfl (lsub_cons rfl lsub_nil))) ?_
                  have kn_84 : Hid (c_5 (A + 7) 4 = c2 (A + 7) 4) := hF_7 (A + 7) 4 (fun h => absurd h.1 (np hA rfl rfl))
                  have kn_85 : Hid (c_16 (A + 7) 4 = c2 (A + 7) 4) := (hF_18 (A + 7) 4 (fun h => absurd h.1 (np hA rfl rfl))).trans (hid kn_84)
                  have kn_86 : Hid (c_22 (A + 7) 4 = c2 (A + 7) 4) := (hF_24 (A + 7) 4 (fun q => q.elim (fun h => absurd h.1 (np hA rfl rfl)) (fun q => q.elim (fun h => absurd h.1 (np hA rfl rfl)) (fun h => absurd h.1 (np hA rfl rfl))))).trans (hid kn_85)
                  have kn_87 : Hid (c_81 (A + 7) 4 = c2 (A + 7) 4) := (hF_83 (A + 7) 4 (fun q => q.elim (fun h => absurd h.1 (np hA rfl rfl)) (fun q => q.elim (fun h => absurd h.1 (np hA rfl rfl)) (fun h => absurd h.1 (np hA rfl rfl))))).trans (hid kn_86)
                  have h_88 : c_81 (A + 7) 4 = c2 (A + 7) 4 := (hid kn_87)
                  have kn_89 : Hid (c_5 A 4 = c2 A 4) := hF_7 A 4 (fun h => absurd h.1 (np0 hA rfl))
                  have kn_90 : Hid (c_16 A 4 = c2 A 4) := (hF_18 A 4 (fun h => absurd h.1 (np0 hA rfl))).trans (hid kn_89)
                  have kn_91 : Hid (c_22 A 4 = c2 A 4) := (hF_24 A 4 (fun q => q.elim (fun h => absurd h.1 (np0 hA rfl)) (fun q => q.elim (fun h => absurd h.1 (np0 hA rfl)) (fun h => absurd h.1 (np0 hA rfl))))).trans (hid kn_90)
                  have kn_92 : Hid (c_81 A 4 = c2 A 4) := (hF_83 A 4 (fun q => q.elim (fun h => absurd h.1 (np0 hA rfl)) (fun q => q.elim (fun h => absurd h.1 (np0 hA rfl)) (fun h => absurd h.1 (np0 hA rfl))))).trans (hid kn_91)
                  have h_93 : c_81 A 4 = c2 A 4 := (hid kn_92)
                  have kn_94 : Hid (c_5 A 5 = c2 A 5) := hF_7 A 5 (fun h => absurd h.1 (np0 hA rfl))
                  have kn_95 : Hid (c_16 A 5 = c2 A 5) := (hF_18 A 5 (fun h => absurd h.1 (np0 hA rfl))).trans (hid kn_94)
                  have kn_96 : Hid (c_22 A 5 = c2 A 5) := (hF_24 A 5 (fun q => q.elim (fun h => absurd h.1 (np0 hA rfl)) (fun q => q.elim (fun h => absurd h.1 (np0 hA rfl)) (fun h => absurd h.1 (np0 hA rfl))))).trans (hid kn_95)
                  have kn_97 : Hid (c_81 A 5 = c2 A 5) := (hF_83 A 5 (fun q => q.elim (fun h => absurd h.1 (np0 hA rfl)) (fun q => q.elim (fun h => absurd h.1 (np0 hA rfl)) (fun h => absurd h.1 (np0 hA rfl))))).trans (hid kn_96)
                  have h_98 : c_81 A 5 = c2 A 5 := (hid kn_97)
                  exact ih c_81 (v2 + 1) hI_82 (fun a j hm => (hF_83 a j (fun q => q.elim (fun h => hm (Or.inl h)) (fun q => q.elim (fun h => hm (Or.inr (Or.inl h))) (fun h => hm (Or.inr (Or.inr (Or.inl h))))))).trans ((hF_24 a j (fun q => q.elim (fun h => hm (Or.inl h)) (fun q => q.elim (fun h => hm (Or.inr (Or.inl h))) (fun h => hm (Or.inr (Or.inr (Or.inl h))))))).trans ((hF_18 a j (fun h => hm (Or.inl h))).trans ((hF_7 a j (fun h => hm (Or.inl h))).trans (hF a j (fun q => q.elim (fun h => hm (Or.inl h)) (fun q => q.elim (fun h => hm (Or.inr (Or.inl h))) (fun q => q.elim (fun h => hm (Or.inr (Or.inr (Or.inl h)))) (fun q => q.elim (fun h => hm (Or.inr (Or.inr (Or.inr (Or.inl h))))) (fun q => q.elim (fun h => hm (Or.inr (Or.inr (Or.inr (Or.inr (Or.inl h)))))) (fun q => q.elim (fun h => hm (Or.inr (Or.inr (Or.inr (Or.inr (Or.inr (Or.inl h))))))) (fun q => q.elim (fun h => hm (Or.inr (Or.inr (Or.inr (Or.inr (Or.inr (Or.inr (Or.inl h)))))))) (fun q => q.elim (fun h => hm (Or.inr (Or.inr (Or.inr (Or.inr (Or.inr (Or.inr (Or.inr (Or.inl h))))))))) (fun q => q.elim (fun h => hm (Or.inr (Or.inr (Or.inr (Or.inr (Or.inr (Or.inr (Or.inr (Or.inr (Or.inl h)))))))))) (fun q => q.elim (fun h => hm (Or.inr (Or.inr (Or.inr (Or.inr (Or.inr (Or.inr (Or.inr (Or.inr (Or.inr (Or.inl h))))))))))) (fun q => q.elim (fun h => hm (Or.inr (Or.inr (Or.inr (Or.inr (Or.inr (Or.inr (Or.inr (Or.inr (Or.inr (Or.inr (Or.inl h)))))))))))) (fun q => q.elim (fun h => hm (Or.inr (Or.inr (Or.inr (Or.inr (Or.inr (Or.inr (Or.inr (Or.inr (Or.inr (Or.inr (Or.inr (Or.inl h))))))))))))) (fun q => q.elim (fun h => hm (Or.inr (Or.inr (Or.inr (Or.inr (Or.inr (Or.inr (Or.inr (Or.inr (Or.inr (Or.inr (Or.inr (Or.inr (Or.inl h)))))))))))))) (fun h => hm (Or.inr (Or.inr (Or.inr (Or.inr (Or.inr (Or.inr (Or.inr (Or.inr (Or.inr (Or.inr (Or.inr (Or.inr (Or.inr h)))))))))))))))))))))))))))))))) ⟨by first | exact rgp_l hv2.1 (by decide) | omega, by omega⟩ (by omega) ⟨by omega, by omega⟩ (by omega)
                · refine v_if_ne_f (t := 11) rfl (by decide) (Decidable.not_not.mp h_80) ?_
                  refine q_iconst rfl ?_
                  refine q_goto (t := 12) rfl (by decide) ?_
                  refine v_zret rfl rfl (by decide) ?_
                  refine bk_inl ?_
                  refine v_if_eq_f (t := 73) rfl (by decide) (by decide) ?_
                  refine q_aload_n rfl rfl ?_
                  refine q_aload_n rfl rfl ?_
                  refine q_iload rfl rfl ?_
                  have h_99 : c_22 A 0 = c2 A 0 := (hid kn_78)
                  have h_100 := ir_p0_1 hI2 hA
                  have kn_101 : Hid (c_5 A 1 = c2 A 1) := hF_7 A 1 (fun h => absurd h.1 (np0 hA rfl))
                  have kn_102 : Hid (c_16 A 1 = c2 A 1) := (hF_18 A 1 (fun h => absurd h.1 (np0 hA rfl))).trans (hid kn_101)
                  have kn_103 : Hid (c_22 A 1 = c2 A 1) := (hF_24 A 1 (fun q => q.elim (fun h => absurd h.1 (np0 hA rfl)) (fun q => q.elim (fun h => absurd h.1 (np0 hA rfl)) (fun h => absurd h.1 (np0 hA rfl))))).trans (hid kn_102)
                  have h_104 : c_22 A 1 = c2 A 1 := (hid kn_103)
                  have h_105 := ir_p0_2 hI2 hA
                  have kn_106 : Hid (c_5 A 2 = c2 A 2) := hF_7 A 2 (fun h => absurd h.1 (np0 hA rfl))
                  have kn_107 : Hid (c_16 A 2 = c2 A 2) := (hF_18 A 2 (fun h => absurd h.1 (np0 hA rfl))).trans (hid kn_106)
                  have kn_108 : Hid (c_22 A 2 = c2 A 2) := (hF_24 A 2 (fun q => q.elim (fun h => absurd h.1 (np0 hA rfl)) (fun q => q.elim (fun h => absurd h.1 (np0 hA rfl)) (fun h => absurd h.1 (np0 hA rfl))))).trans (hid kn_107)
                  have h_109 : c_22 A 2 = c2 A 2 := (hid kn_108)
                  refine v_cv rfl rfl rfl (ck_p0 hA) (a68z hA) ⟨⟨rfl, rfl⟩, by decide, rfl⟩ (Nat.le_of_ble_eq_true rfl) (Nat.le_of_ble_eq_true rfl) (s_33 (a2 := y_25) hI_23 hA (show 0 ≤ y_25 ∧ y_25 ≤ 100 from ⟨by omega, hy_25.2⟩) (Or.inr (by omega)) (Or.inl (by omega)) (Or.inl (by omega)) (fun c_110 hI_111 hF_112 => ?_))
                  refine bk_inl ?_
                  refine q_aload_n rfl rfl ?_
                  refine q_ldc_s rfl rfl rfl (by decide) ?_
                  refine v_cv rfl rfl rfl rfl (by decide) ⟨⟨rfl, rfl⟩, by decide, rfl⟩ (Nat.le_of_ble_eq_true rfl) (Nat.le_of_ble_eq_true rfl) (s_11 hI_111 (q := 9) (nt := 1) (by decide) (by decide) (by decide) (fun c_113 hI_114 hF_115 => ?_))
                  refine bk_inl ?_
                  refine v_iinc (v := v2 + 1) rfl rfl (by decide) rfl ?_
                  refine q_goto (t := 6) rfl (by decide) ?_
                  refine Wp_ls [(0, .ref A), (1, .ref 1), (2, vi (v2 + 1))] (lsub_cons rfl (lsub_cons rfl (lsub_cons rfl lsub_nil))) ?_
                  have kn_116 : Hid (c_5 (A + 7) 4 = c2 (A + 7) 4) := hF_7 (A + 7) 4 (fun h => absurd h.1 (np hA rfl rfl))
                  have kn_117 : Hid (c_16 (A + 7) 4 = c2 (A + 7) 4) := (hF_18 (A + 7) 4 (fun h => absurd h.1 (np hA rfl rfl))).trans (hid kn_116)
                  have kn_118 : Hid (c_22 (A + 7) 4 = c2 (A + 7) 4) := (hF_24 (A + 7) 4 (fun q => q.elim (fun h => absurd h.1 (np hA rfl rfl)) (fun q => q.elim (fun h => absurd h.1 (np hA rfl rfl)) (fun h => absurd h.1 (np hA rfl rfl))))).trans (hid kn_117)
                  have kn_119 : Hid (c_110 (A + 7) 4 = c2 (A + 7) 4) := (hF_112 (A + 7) 4 (fun q => q.elim (fun h => absurd h.1 (np hA rfl rfl)) (fun q => q.elim (fun h => absurd h.1 (np hA rfl rfl)) (fun q => q.elim (fun h => absurd h.1 (np hA rfl rfl)) (fun q => q.elim (fun h => absurd h.1 (pp0 rfl)) (fun q => q.elim (fun h => absurd h.1 (pp0 rfl)) (fun q => q.elim (fun h => absurd h.1 (pp0 rfl)) (fun q => q.elim (fun h => absurd h.1 (pp0 rfl)) (fun q => q.elim (fun h => absurd h (pp rfl)) (fun q => q.elim (fun h => absurd h (pp rfl)) (fun h => absurd h (pp rfl)))))))))))).trans (hid kn_118)
                  have kn_120 : Hid (c_113 (A + 7) 4 = c2 (A + 7) 4) := (hF_115 (A + 7) 4 (fun q => q.elim (fun h => absurd h.1 (np hA rfl rfl)) (fun q => q.elim (fun h => absurd h.1 (np hA rfl rfl)) (fun h => absurd h.1 (np hA rfl rfl))))).trans (hid kn_119)
                  have h_121 : c_113 (A + 7) 4 = c2 (A + 7) 4 := (hid kn_120)
                  have kn_122 : Hid (c_5 A 4 = c2 A 4) := hF_7 A 4 (fun h => absurd h.1 (np0 hA rfl))
                  have kn_123 : Hid (c_16 A 4 = c2 A 4) := (hF_18 A 4 (fun h => absurd h.1 (np0 hA rfl))).trans (hid kn_122)
                  have kn_124 : Hid (c_22 A 4 = c2 A 4) := (hF_24 A 4 (fun q => q.elim (fun h => absurd h.1 (np0 hA rfl)) (fun q => q.elim (fun h => absurd h.1 (np0 hA rfl)) (fun h => absurd h.1 (np0 hA rfl))))).trans (hid kn_123)
                  have kn_125 : Hid (c_110 A 4 = c2 A 4) := (hF_112 A 4 (fun q => q.elim (fun h => absurd h.1 (np0 hA rfl)) (fun q => q.elim (fun h => absurd h.1 (np0 hA rfl)) (fun q => q.elim (fun h => absurd h.1 (np0 hA rfl)) (fun q => q.elim (fun h => absurd h.2 (ni rfl)) (fun q => q.elim (fun h => absurd h.2 (ni rfl)) (fun q => q.elim (fun h => absurd h.2 (ni rfl)) (fun q => q.elim (fun h => absurd h.2 (ni rfl)) (fun q => q.elim (fun h => absurd h (p0p rfl)) (fun q => q.elim (fun h => absurd h (p0p rfl)) (fun h => absurd h (p0p rfl)))))))))))).trans (hid kn_124)
                  have kn_126 : Hid (c_113 A 4 = c2 A 4) := (hF_115 A 4 (fun q => q.elim (fun h => absurd h.1 (np0 hA rfl)) (fun q => q.elim (fun h => absurd h.1 (np0 hA rfl)) (fun h => absurd h.1 (np0 hA rfl))))).trans (hid kn_125)
                  have h_127 : c_113 A 4 = c2 A 4 := (hid kn_126)
                  have kn_128 : Hid (c_5 A 5 = c2 A 5) := hF_7 A 5 (fun h => absurd h.1 (np0 hA rfl))
                  have kn_129 : Hid (c_16 A 5 = c2 A 5) := (hF_18 A 5 (fun h => absurd h.1 (np0 hA rfl))).trans (hid kn_128)
                  have kn_130 : Hid (c_22 A 5 = c2 A 5) := (hF_24 A 5 (fun q => q.elim (fun h => absurd h.1 (np0 hA rfl)) (fun q => q.elim (fun h => absurd h.1 (np0 hA rfl)) (fun h => absurd h.1 (np0 hA rfl))))).trans (hid kn_129)
                  have kn_131 : Hid (c_110 A 5 = c2 A 5) := (hF_112 A 5 (fun q => q.elim (fun h => absurd h.1 (np0 hA rfl)) (fun q => q.elim (fun h => absurd h.1 (np0 hA rfl)) (fun q => q.elim (fun h => absurd h.1 (np0 hA rfl)) (fun q => q.elim (fun h => absurd h.2 (ni rfl)) (fun q => q.elim (fun h => absurd h.2 (ni rfl)) (fun q => q.elim (fun h => absurd h.2 (ni rfl)) (fun q => q.elim (fun h => absurd h.2 (ni rfl)) (fun q => q.elim (fun h => absurd h (p0p rfl)) (fun q => q.elim (fun h => absurd h (p0p rfl)) (fun h => absurd h (p0p rfl)))))))))))).trans (hid kn_130)
                  have kn_132 : Hid (c_113 A 5 = c2 A 5) := (hF_115 A 5 (fun q => q.elim (fun h => absurd h.1 (np0 hA rfl)) (fun q => q.elim (fun h => absurd h.1 (np0 hA rfl)) (fun h => absurd h.1 (np0 hA rfl))))).trans (hid kn_131)
                  have h_133 : c_113 A 5 = c2 A 5 := (hid kn_132)
                  exact ih c_113 (v2 + 1) hI_114 (fun a j hm => (hF_115 a j (fun q => q.elim (fun h => hm (Or.inl h)) (fun q => q.elim (fun h => hm (Or.inr (Or.inl h))) (fun h => hm (Or.inr (Or.inr (Or.inl h))))))).trans ((hF_112 a j (fun q => q.elim (fun h => hm (Or.inl h)) (fun q => q.elim (fun h => hm (Or.inr (Or.inl h))) (fun q => q.elim (fun h => hm (Or.inr (Or.inr (Or.inl h)))) (fun q => q.elim (fun h => hm (Or.inr (Or.inr (Or.inr (Or.inl h))))) (fun q => q.elim (fun h => hm (Or.inr (Or.inr (Or.inr (Or.inr (Or.inl h)))))) (fun q => q.elim (fun h => hm (Or.inr (Or.inr (Or.inr (Or.inr (Or.inr (Or.inl h))))))) (fun q => q.elim (fun h => hm (Or.inr (Or.inr (Or.inr (Or.inr (Or.inr (Or.inr (Or.inl h)))))))) (fun q => q.elim (fun h => hm (Or.inr (Or.inr (Or.inr (Or.inr (Or.inr (Or.inr (Or.inr (Or.inl h))))))))) (fun q => q.elim (fun h => hm (Or.inr (Or.inr (Or.inr (Or.inr (Or.inr (Or.inr (Or.inr (Or.inr (Or.inl h)))))))))) (fun h => hm (Or.inr (Or.inr (Or.inr (Or.inr (Or.inr (Or.inr (Or.inr (Or.inr (Or.inr (Or.inl h))))))))))))))))))))).trans ((hF_24 a j (fun q => q.elim (fun h => hm (Or.inl h)) (fun q => q.elim (fun h => hm (Or.inr (Or.inl h))) (fun h => hm (Or.inr (Or.inr (Or.inl h))))))).trans ((hF_18 a j (fun h => hm (Or.inl h))).trans ((hF_7 a j (fun h => hm (Or.inl h))).trans (hF a j (fun q => q.elim (fun h => hm (Or.inl h)) (fun q => q.elim (fun h => hm (Or.inr (Or.inl h))) (fun q => q.elim (fun h => hm (Or.inr (Or.inr (Or.inl h)))) (fun q => q.elim (fun h => hm (Or.inr (Or.inr (Or.inr (Or.inl h))))) (fun q => q.elim (fun h => hm (Or.inr (Or.inr (Or.inr (Or.inr (Or.inl h)))))) (fun q => q.elim (fun h => hm (Or.inr (Or.inr (Or.inr (Or.inr (Or.inr (Or.inl h))))))) (fun q => q.elim (fun h => hm (Or.inr (Or.inr (Or.inr (Or.inr (Or.inr (Or.inr (Or.inl h)))))))) (fun q => q.elim (fun h => hm (Or.inr (Or.inr (Or.inr (Or.inr (Or.inr (Or.inr (Or.inr (Or.inl h))))))))) (fun q => q.elim (fun h => hm (Or.inr (Or.inr (Or.inr (Or.inr (Or.inr (Or.inr (Or.inr (Or.inr (Or.inl h)))))))))) (fun q => q.elim (fun h => hm (Or.inr (Or.inr (Or.inr (Or.inr (Or.inr (Or.inr (Or.inr (Or.inr (Or.inr (Or.inl h))))))))))) (fun q => q.elim (fun h => hm (Or.inr (Or.inr (Or.inr (Or.inr (Or.inr (Or.inr (Or.inr (Or.inr (Or.inr (Or.inr (Or.inl h)))))))))))) (fun q => q.elim (fun h => hm (Or.inr (Or.inr (Or.inr (Or.inr (Or.inr (Or.inr (Or.inr (Or.inr (Or.inr (Or.inr (Or.inr (Or.inl h))))))))))))) (fun q => q.elim (fun h => hm (Or.inr (Or.inr (Or.inr (Or.inr (Or.inr (Or.inr (Or.inr (Or.inr (Or.inr (Or.inr (Or.inr (Or.inr (Or.inl h)))))))))))))) (fun h => hm (Or.inr (Or.inr (Or.inr (Or.inr (Or.inr (Or.inr (Or.inr (Or.inr (Or.inr (Or.inr (Or.inr (Or.inr (Or.inr h))))))))))))))))))))))))))))))))) ⟨by first | exact rgp_l hv2.1 (by decide) | omega, by omega⟩ (by omega) ⟨by omega, by omega⟩ (by omega)
              · refine v_ic_ne_f (t := 41) rfl (by decide) (Decidable.not_not.mp h_79) ?_
                refine q_iconst rfl ?_
                refine q_goto (t := 42) rfl (by decide) ?_
                refine v_zret rfl rfl (by decide) ?_
                refine bk_inl ?_
                refine v_if_eq_f (t := 59) rfl (by decide) (by decide) ?_
                refine q_aload_n rfl rfl ?_
                refine q_iconst rfl ?_
                refine q_iload_n rfl rfl ?_
                refine v_cv rfl rfl rfl rfl (by decide) ⟨⟨rfl, rfl⟩, by decide, rfl⟩ (Nat.le_of_ble_eq_true rfl) (Nat.le_of_ble_eq_true rfl) (s_7 (a1 := 3) (a2 := y_19) hI_23 (show 1 ≤ 3 ∧ 3 ≤ 3 from ⟨by decide, by decide⟩) (show 0 ≤ y_19 ∧ y_19 ≤ 600 from hy_19) (fun c_134 hI_135 hF_136 h_137 => ?_))
                refine bk_inl ?_
                have h_138 := ir_1_4 hI_135
                refine q_aload_n rfl rfl ?_
                refine v_cv rfl rfl rfl rfl (by decide) ⟨⟨rfl, rfl⟩, by decide, rfl⟩ (Nat.le_of_ble_eq_true rfl) (Nat.le_of_ble_eq_true rfl) ?_
                refine q_aload_n rfl rfl ?_
                refine v_gi (z := 4) (v := c_134 1 4) rfl rfl rfl (by decide) rfl rfl rfl ?_
                refine v_if_ne_t (t := 11) rfl (by decide) ⟨by omega, ⟨(Int.le_trans (by decide) h_138.1), (Int.le_trans h_138.2 (by decide))⟩, by decide, by decide⟩ ?_
                refine q_iconst rfl ?_
                refine v_zret rfl rfl (by decide) ?_
                refine bk_inl ?_
                refine v_if_eq_t (t := 73) rfl (by decide) (by decide) ?_
                refine q_aload_n rfl rfl ?_
                refine q_ldc_s rfl rfl rfl (by decide) ?_
                refine v_cv rfl rfl rfl rfl (by decide) ⟨⟨rfl, rfl⟩, by decide, rfl⟩ (Nat.le_of_ble_eq_true rfl) (Nat.le_of_ble_eq_true rfl) (s_11 hI_135 (q := 9) (nt := 1) (by decide) (by decide) (by decide) (fun c_139 hI_140 hF_141 => ?_))
                refine bk_inl ?_
                refine v_iinc (v := v2 + 1) rfl rfl (by decide) rfl ?_
                refine q_goto (t := 6) rfl (by decide) ?_
                refine Wp_ls [(0, .ref A), (1, .ref 1), (2, vi (v2 + 1))] (lsub_cons rfl (lsub_cons rfl (lsub_cons rfl lsub_nil))) ?_
                have kn_142 : Hid (c_5 (A + 7) 4 = c2 (A + 7) 4) := hF_7 (A + 7) 4 (fun h => absurd h.1 (np hA rfl rfl))
                have kn_143 : Hid (c_16 (A + 7) 4 = c2 (A + 7) 4) := (hF_18 (A + 7) 4 (fun h => absurd h.1 (np hA rfl rfl))).trans (hid kn_142)
                have kn_144 : Hid (c_22 (A + 7) 4 = c2 (A + 7) 4) := (hF_24 (A + 7) 4 (fun q => q.elim (fun h => absurd h.1 (np hA rfl rfl)) (fun q => q.elim (fun h => absurd h.1 (np hA rfl rfl)) (fun h => absurd h.1 (np hA rfl rfl))))).trans (hid kn_143)
                have kn_145 : Hid (c_134 (A + 7) 4 = c2 (A + 7) 4) := (hF_136 (A + 7) 4 (fun q => q.elim (fun h => absurd h.1 (np hA rfl rfl)) (fun h => absurd h.1 (np hA rfl rfl)))).trans (hid kn_144)
                have kn_146 : Hid (c_139 (A + 7) 4 = c2 (A + 7) 4) := (hF_141 (A + 7) 4 (fun q => q.elim (fun h => absurd h.1 (np hA rfl rfl)) (fun q => q.elim (fun h => absurd h.1 (np hA rfl rfl)) (fun h => absurd h.1 (np hA rfl rfl))))).trans (hid kn_145)
                have h_147 : c_139 (A + 7) 4 = c2 (A + 7) 4 := (hid kn_146)
                have kn_148 : Hid (c_5 A 4 = c2 A 4) := hF_7 A 4 (fun h => absurd h.1 (np0 hA rfl))
                have kn_149 : Hid (c_16 A 4 = c2 A 4) := (hF_18 A 4 (fun h => absurd h.1 (np0 hA rfl))).trans (hid kn_148)
                have kn_150 : Hid (c_22 A 4 = c2 A 4) := (hF_24 A 4 (fun q => q.elim (fun h => absurd h.1 (np0 hA rfl)) (fun q => q.elim (fun h => absurd h.1 (np0 hA rfl)) (fun h => absurd h.1 (np0 hA rfl))))).trans (hid kn_149)
                have kn_151 : Hid (c_134 A 4 = c2 A 4) := (hF_136 A 4 (fun q => q.elim (fun h => absurd h.1 (np0 hA rfl)) (fun h => absurd h.1 (np0 hA rfl)))).trans (hid kn_150)
                have kn_152 : Hid (c_139 A 4 = c2 A 4) := (hF_141 A 4 (fun q => q.elim (fun h => absurd h.1 (np0 hA rfl)) (fun q => q.elim (fun h => absurd h.1 (np0 hA rfl)) (fun h => absurd h.1 (np0 hA rfl))))).trans (hid kn_151)
                have h_153 : c_139 A 4 = c2 A 4 := (hid kn_152)
                have kn_154 : Hid (c_5 A 5 = c2 A 5) := hF_7 A 5 (fun h => absurd h.1 (np0 hA rfl))
                have kn_155 : Hid (c_16 A 5 = c2 A 5) := (hF_18 A 5 (fun h => absurd h.1 (np0 hA rfl))).trans (hid kn_154)
                have kn_156 : Hid (c_22 A 5 = c2 A 5) := (hF_24 A 5 (fun q => q.elim (fun h => absurd h.1 (np0 hA rfl)) (fun q => q.elim (fun h => absurd h.1 (np0 hA rfl)) (fun h => absurd h.1 (np0 hA rfl))))).trans (hid kn_155)
                have kn_157 : Hid (c_134 A 5 = c2 A 5) := (hF_136 A 5 (fun q => q.elim (fun h => absurd h.1 (np0 hA rfl)) (fun h => absurd h.1 (np0 hA rfl)))).trans (hid kn_156)
                have kn_158 : Hid (c_139 A 5 = c2 A 5) := (hF_141 A 5 (fun q => q.elim (fun h => absurd h.1 (np0 hA rfl)) (fun q => q.elim (fun h => absurd h.1 (np0 hA rfl)) (fun h => absurd h.1 (np0 hA rfl))))).trans (hid kn_157)
                have h_159 : c_139 A 5 = c2 A 5 := (hid kn_158)
                exact ih c_139 (v2 + 1) hI_140 (fun a j hm => (hF_141 a j (fun q => q.elim (fun h => hm (Or.inl h)) (fun q => q.elim (fun h => hm (Or.inr (Or.inl h))) (fun h => hm (Or.inr (Or.inr (Or.inl h))))))).trans ((hF_136 a j (fun q => q.elim (fun h => hm (Or.inr (Or.inl h))) (fun h => hm (Or.inr (Or.inr (Or.inl h)))))).trans ((hF_24 a j (fun q => q.elim (fun h => hm (Or.inl h)) (fun q => q.elim (fun h => hm (Or.inr (Or.inl h))) (fun h => hm (Or.inr (Or.inr (Or.inl h))))))).trans ((hF_18 a j (fun h => hm (Or.inl h))).trans ((hF_7 a j (fun h => hm (Or.inl h))).trans (hF a j (fun q => q.elim (fun h => hm (Or.inl h)) (fun q => q.elim (fun h => hm (Or.inr (Or.inl h))) (fun q => q.elim (fun h => hm (Or.inr (Or.inr (Or.inl h)))) (fun q => q.elim (fun h => hm (Or.inr (Or.inr (Or.inr (Or.inl h))))) (fun q => q.elim (fun h => hm (Or.inr (Or.inr (Or.inr (Or.inr (Or.inl h)))))) (fun q => q.elim (fun h => hm (Or.inr (Or.inr (Or.inr (Or.inr (Or.inr (Or.inl h))))))) (fun q => q.elim (fun h => hm (Or.inr (Or.inr (Or.inr (Or.inr (Or.inr (Or.inr (Or.inl h)))))))) (fun q => q.elim (fun h => hm (Or.inr (Or.inr (Or.inr (Or.inr (Or.inr (Or.inr (Or.inr (Or.inl h))))))))) (fun q => q.elim (fun h => hm (Or.inr (Or.inr (Or.inr (Or.inr (Or.inr (Or.inr (Or.inr (Or.inr (Or.inl h)))))))))) (fun q => q.elim (fun h => hm (Or.inr (Or.inr (Or.inr (Or.inr (Or.inr (Or.inr (Or.inr (Or.inr (Or.inr (Or.inl h))))))))))) (fun q => q.elim (fun h => hm (Or.inr (Or.inr (Or.inr (Or.inr (Or.inr (Or.inr (Or.inr (Or.inr (Or.inr (Or.inr (Or.inl h)))))))))))) (fun q => q.elim (fun h => hm (Or.inr (Or.inr (Or.inr (Or.inr (Or.inr (Or.inr (Or.inr (Or.inr (Or.inr (Or.inr (Or.inr (Or.inl h))))))))))))) (fun q => q.elim (fun h => hm (Or.inr (Or.inr (Or.inr (Or.inr (Or.inr (Or.inr (Or.inr (Or.inr (Or.inr (Or.inr (Or.inr (Or.inr (Or.inl h)))))))))))))) (fun h => hm (Or.inr (Or.inr (Or.inr (Or.inr (Or.inr (Or.inr (Or.inr (Or.inr (Or.inr (Or.inr (Or.inr (Or.inr (Or.inr h))))))))))))))))))))))))))))))))) ⟨by first | exact rgp_l hv2.1 (by decide) | omega, by omega⟩ (by omega) ⟨by omega, by omega⟩ (by omega)
            by_cases h_160 : y_25 = 1
            · skip
              refine v_tsw_i (t := 43) 1 rfl (by omega) (by decide) rfl (by decide) ?_
              refine q_aload_n rfl rfl ?_
              have h_161 := ir_p0_1 hI2 hA
              have kn_162 : Hid (c_5 A 1 = c2 A 1) := hF_7 A 1 (fun h => absurd h.1 (np0 hA rfl))
              have kn_163 : Hid (c_16 A 1 = c2 A 1) := (hF_18 A 1 (fun h => absurd h.1 (np0 hA rfl))).trans (hid kn_162)
              have kn_164 : Hid (c_22 A 1 = c2 A 1) := (hF_24 A 1 (fun q => q.elim (fun h => absurd h.1 (np0 hA rfl)) (fun q => q.elim (fun h => absurd h.1 (np0 hA rfl)) (fun h => absurd h.1 (np0 hA rfl))))).trans (hid kn_163)
              refine v_gi (z := 1) (v := c2 A 1) rfl rfl (ck_p0 hA) (a68z hA) rfl rfl (hid kn_164) ?_
              refine q_iconst rfl ?_
              by_cases h_165 : c2 A 1 ≠ 4
              · refine v_ic_ne_t (t := 55) rfl (by decide) ⟨h_165, ⟨by omega, by omega⟩, by decide, by decide⟩ ?_
                refine q_iconst rfl ?_
                refine v_zret rfl rfl (by decide) ?_
                refine bk_inl ?_
                refine v_if_eq_t (t := 59) rfl (by decide) (by decide) ?_
                refine q_aload_n rfl rfl ?_
                refine v_cv rfl rfl rfl rfl (by decide) ⟨⟨rfl, rfl⟩, by decide, rfl⟩ (Nat.le_of_ble_eq_true rfl) (Nat.le_of_ble_eq_true rfl) ?_
                refine q_aload_n rfl rfl ?_
                refine v_gi (z := 4) (v := c_22 1 4) rfl rfl rfl (by decide) rfl rfl rfl ?_
                by_cases h_166 : c_22 1 4 ≠ 0
                · refine v_if_ne_t (t := 11) rfl (by decide) ⟨h_166, ⟨(Int.le_trans (by decide) h_27.1), (Int.le_trans h_27.2 (by decide))⟩, by decide, by decide⟩ ?_
                  refine q_iconst rfl ?_
                  refine v_zret rfl rfl (by decide) ?_
                  refine bk_inl ?_
                  refine v_if_eq_t (t := 73) rfl (by decide) (by decide) ?_
                  refine q_aload_n rfl rfl ?_
                  refine q_ldc_s rfl rfl rfl (by decide) ?_
                  refine v_cv rfl rfl rfl rfl (by decide) ⟨⟨rfl, rfl⟩, by decide, rfl⟩ (Nat.le_of_ble_eq_true rfl) (Nat.le_of_ble_eq_true rfl) (s_11 hI_23 (q := 9) (nt := 1) (by decide) (by decide) (by decide) (fun c_167 hI_168 hF_169 => ?_))
                  refine bk_inl ?_
                  refine v_iinc (v := v2 + 1) rfl rfl (by decide) rfl ?_
                  refine q_goto (t := 6) rfl (by decide) ?_
                  refine Wp_ls [(0, .ref A), (1, .ref 1), (2, vi (v2 + 1))] (lsub_cons rfl (lsub_cons rfl (lsub_cons rfl lsub_nil))) ?_
                  have kn_170 : Hid (c_5 (A + 7) 4 = c2 (A + 7) 4) := hF_7 (A + 7) 4 (fun h => absurd h.1 (np hA rfl rfl))
                  have kn_171 : Hid (c_16 (A + 7) 4 = c2 (A + 7) 4) := (hF_18 (A + 7) 4 (fun h => absurd h.1 (np hA rfl rfl))).trans (hid kn_170)
                  have kn_172 : Hid (c_22 (A + 7) 4 = c2 (A + 7) 4) := (hF_24 (A + 7) 4 (fun q => q.elim (fun h => absurd h.1 (np hA rfl rfl)) (fun q => q.elim (fun h => absurd h.1 (np hA rfl rfl)) (fun h => absurd h.1 (np hA rfl rfl))))).trans (hid kn_171)
                  have kn_173 : Hid (c_167 (A + 7) 4 = c2 (A + 7) 4) := (hF_169 (A + 7) 4 (fun q => q.elim (fun h => absurd h.1 (np hA rfl rfl)) (fun q => q.elim (fun h => absurd h.1 (np hA rfl rfl)) (fun h => absurd h.1 (np hA rfl rfl))))).trans (hid kn_172)
                  have h_174 : c_167 (A + 7) 4 = c2 (A + 7) 4 := (hid kn_173)
                  have kn_175 : Hid (c_5 A 4 = c2 A 4) := hF_7 A 4 (fun h => absurd h.1 (np0 hA rfl))
                  have kn_176 : Hid (c_16 A 4 = c2 A 4) := (hF_18 A 4 (fun h => absurd h.1 (np0 hA rfl))).trans (hid kn_175)
                  have kn_177 : Hid (c_22 A 4 = c2 A 4) := (hF_24 A 4 (fun q => q.elim (fun h => absurd h.1 (np0 hA rfl)) (fun q => q.elim (fun h => absurd h.1 (np0 hA rfl)) (fun h => absurd h.1 (np0 hA rfl))))).trans (hid kn_176)
                  have kn_178 : Hid (c_167 A 4 = c2 A 4) := (hF_169 A 4 (fun q => q.elim (fun h => absurd h.1 (np0 hA rfl)) (fun q => q.elim (fun h => absurd h.1 (np0 hA rfl)) (fun h => absurd h.1 (np0 hA rfl))))).trans (hid kn_177)
                  have h_179 : c_167 A 4 = c2 A 4 := (hid kn_178)
                  have kn_180 : Hid (c_5 A 5 = c2 A 5) := hF_7 A 5 (fun h => absurd h.1 (np0 hA rfl))
                  have kn_181 : Hid (c_16 A 5 = c2 A 5) := (hF_18 A 5 (fun h => absurd h.1 (np0 hA rfl))).trans (hid kn_180)
                  have kn_182 : Hid (c_22 A 5 = c2 A 5) := (hF_24 A 5 (fun q => q.elim (fun h => absurd h.1 (np0 hA rfl)) (fun q => q.elim (fun h => absurd h.1 (np0 hA rfl)) (fun h => absurd h.1 (np0 hA rfl))))).trans (hid kn_181)
                  have kn_183 : Hid (c_167 A 5 = c2 A 5) := (hF_169 A 5 (fun q => q.elim (fun h => absurd h.1 (np0 hA rfl)) (fun q => q.elim (fun h => absurd h.1 (np0 hA rfl)) (fun h => absurd h.1 (np0 hA rfl))))).trans (hid kn_182)
                  have h_184 : c_167 A 5 = c2 A 5 := (hid kn_183)
                  exact ih c_167 (v2 + 1) hI_168 (fun a j hm => (hF_169 a j (fun q => q.elim (fun h => hm (Or.inl h)) (fun q => q.elim (fun h => hm (Or.inr (Or.inl h))) (fun h => hm (Or.inr (Or.inr (Or.inl h))))))).trans ((hF_24 a j (fun q => q.elim (fun h => hm (Or.inl h)) (fun q => q.elim (fun h => hm (Or.inr (Or.inl h))) (fun h => hm (Or.inr (Or.inr (Or.inl h))))))).trans ((hF_18 a j (fun h => hm (Or.inl h))).trans ((hF_7 a j (fun h => hm (Or.inl h))).trans (hF a j (fun q => q.elim (fun h => hm (Or.inl h)) (fun q => q.elim (fun h => hm (Or.inr (Or.inl h))) (fun q => q.elim (fun h => hm (Or.inr (Or.inr (Or.inl h)))) (fun q => q.elim (fun h => hm (Or.inr (Or.inr (Or.inr (Or.inl h))))) (fun q => q.elim (fun h => hm (Or.inr (Or.inr (Or.inr (Or.inr (Or.inl h)))))) (fun q => q.elim (fun h => hm (Or.inr (Or.inr (Or.inr (Or.inr (Or.inr (Or.inl h))))))) (fun q => q.elim (fun h => hm (Or.inr (Or.inr (Or.inr (Or.inr (Or.inr (Or.inr (Or.inl h)))))))) (fun q => q.elim (fun h => hm (Or.inr (Or.inr (Or.inr (Or.inr (Or.inr (Or.inr (Or.inr (Or.inl h))))))))) (fun q => q.elim (fun h => hm (Or.inr (Or.inr (Or.inr (Or.inr (Or.inr (Or.inr (Or.inr (Or.inr (Or.inl h)))))))))) (fun q => q.elim (fun h => hm (Or.inr (Or.inr (Or.inr (Or.inr (Or.inr (Or.inr (Or.inr (Or.inr (Or.inr (Or.inl h))))))))))) (fun q => q.elim (fun h => hm (Or.inr (Or.inr (Or.inr (Or.inr (Or.inr (Or.inr (Or.inr (Or.inr (Or.inr (Or.inr (Or.inl h)))))))))))) (fun q => q.elim (fun h => hm (Or.inr (Or.inr (Or.inr (Or.inr (Or.inr (Or.inr (Or.inr (Or.inr (Or.inr (Or.inr (Or.inr (Or.inl h))))))))))))) (fun q => q.elim (fun h => hm (Or.inr (Or.inr (Or.inr (Or.inr (Or.inr (Or.inr (Or.inr (Or.inr (Or.inr (Or.inr (Or.inr (Or.inr (Or.inl h)))))))))))))) (fun h => hm (Or.inr (Or.inr (Or.inr (Or.inr (Or.inr (Or.inr (Or.inr (Or.inr (Or.inr (Or.inr (Or.inr (Or.inr (Or.inr h)))))))))))))))))))))))))))))))) ⟨by first | exact rgp_l hv2.1 (by decide) | omega, by omega⟩ (by omega) ⟨by omega, by omega⟩ (by omega)
                · refine v_if_ne_f (t := 11) rfl (by decide) (Decidable.not_not.mp h_166) ?_
                  refine q_iconst rfl ?_
                  refine q_goto (t := 12) rfl (by decide) ?_
                  refine v_zret rfl rfl (by decide) ?_
                  refine bk_inl ?_
                  refine v_if_eq_f (t := 73) rfl (by decide) (by decide) ?_
                  refine q_aload_n rfl rfl ?_
                  refine q_aload_n rfl rfl ?_
                  refine q_iload rfl rfl ?_
                  have h_185 := ir_p0_0 hI2 hA
                  have kn_186 : Hid (c_5 A 0 = c2 A 0) := hF_7 A 0 (fun h => absurd h.1 (np0 hA rfl))
                  have kn_187 : Hid (c_16 A 0 = c2 A 0) := (hF_18 A 0 (fun h => absurd h.1 (np0 hA rfl))).trans (hid kn_186)
                  have kn_188 : Hid (c_22 A 0 = c2 A 0) := (hF_24 A 0 (fun q => q.elim (fun h => absurd h.1 (np0 hA rfl)) (fun q => q.elim (fun h => absurd h.1 (np0 hA rfl)) (fun h => absurd h.1 (np0 hA rfl))))).trans (hid kn_187)
                  have h_189 : c_22 A 0 = c2 A 0 := (hid kn_188)
                  have h_190 : c_22 A 1 = c2 A 1 := (hid kn_164)
                  have h_191 := ir_p0_2 hI2 hA
                  have kn_192 : Hid (c_5 A 2 = c2 A 2) := hF_7 A 2 (fun h => absurd h.1 (np0 hA rfl))
                  have kn_193 : Hid (c_16 A 2 = c2 A 2) := (hF_18 A 2 (fun h => absurd h.1 (np0 hA rfl))).trans (hid kn_192)
                  have kn_194 : Hid (c_22 A 2 = c2 A 2) := (hF_24 A 2 (fun q => q.elim (fun h => absurd h.1 (np0 hA rfl)) (fun q => q.elim (fun h => absurd h.1 (np0 hA rfl)) (fun h => absurd h.1 (np0 hA rfl))))).trans (hid kn_193)
                  have h_195 : c_22 A 2 = c2 A 2 := (hid kn_194)
                  refine v_cv rfl rfl rfl (ck_p0 hA) (a68z hA) ⟨⟨rfl, rfl⟩, by decide, rfl⟩ (Nat.le_of_ble_eq_true rfl) (Nat.le_of_ble_eq_true rfl) (s_33 (a2 := y_25) hI_23 hA (show 0 ≤ y_25 ∧ y_25 ≤ 100 from ⟨by omega, hy_25.2⟩) (Or.inl (by omega)) (Or.inr (by omega)) (Or.inl (by omega)) (fun c_196 hI_197 hF_198 => ?_))
                  refine bk_inl ?_
                  refine q_aload_n rfl rfl ?_
                  refine q_ldc_s rfl rfl rfl (by decide) ?_
                  refine v_cv rfl rfl rfl rfl (by decide) ⟨⟨rfl, rfl⟩, by decide, rfl⟩ (Nat.le_of_ble_eq_true rfl) (Nat.le_of_ble_eq_true rfl) (s_11 hI_197 (q := 9) (nt := 1) (by decide) (by decide) (by decide) (fun c_199 hI_200 hF_201 => ?_))
                  refine bk_inl ?_
                  refine v_iinc (v := v2 + 1) rfl rfl (by decide) rfl ?_
                  refine q_goto (t := 6) rfl (by decide) ?_
                  refine Wp_ls [(0, .ref A), (1, .ref 1), (2, vi (v2 + 1))] (lsub_cons rfl (lsub_cons rfl (lsub_cons rfl lsub_nil))) ?_
                  have kn_202 : Hid (c_5 (A + 7) 4 = c2 (A + 7) 4) := hF_7 (A + 7) 4 (fun h => absurd h.1 (np hA rfl rfl))
                  have kn_203 : Hid (c_16 (A + 7) 4 = c2 (A + 7) 4) := (hF_18 (A + 7) 4 (fun h => absurd h.1 (np hA rfl rfl))).trans (hid kn_202)
                  have kn_204 : Hid (c_22 (A + 7) 4 = c2 (A + 7) 4) := (hF_24 (A + 7) 4 (fun q => q.elim (fun h => absurd h.1 (np hA rfl rfl)) (fun q => q.elim (fun h => absurd h.1 (np hA rfl rfl)) (fun h => absurd h.1 (np hA rfl rfl))))).trans (hid kn_203)
                  have kn_205 : Hid (c_196 (A + 7) 4 = c2 (A + 7) 4) := (hF_198 (A + 7) 4 (fun q => q.elim (fun h => absurd h.1 (np hA rfl rfl)) (fun q => q.elim (fun h => absurd h.1 (np hA rfl rfl)) (fun q => q.elim (fun h => absurd h.1 (np hA rfl rfl)) (fun q => q.elim (fun h => absurd h.1 (pp0 rfl)) (fun q => q.elim (fun h => absurd h.1 (pp0 rfl)) (fun q => q.elim (fun h => absurd h.1 (pp0 rfl)) (fun q => q.elim (fun h => absurd h.1 (pp0 rfl)) (fun q => q.elim (fun h => absurd h (pp rfl)) (fun q => q.elim (fun h => absurd h (pp rfl)) (fun h => absurd h (pp rfl)))))))))))).trans (hid kn_204)
                  have kn_206 : Hid (c_199 (A + 7) 4 = c2 (A + 7) 4) := (hF_201 (A + 7) 4 (fun q => q.elim (fun h => absurd h.1 (np hA rfl rfl)) (fun q => q.elim (fun h => absurd h.1 (np hA rfl rfl)) (fun h => absurd h.1 (np hA rfl rfl))))).trans (hid kn_205)
                  have h_207 : c_199 (A + 7) 4 = c2 (A + 7) 4 := (hid kn_206)
                  have kn_208 : Hid (c_5 A 4 = c2 A 4) := hF_7 A 4 (fun h => absurd h.1 (np0 hA rfl))
                  have kn_209 : Hid (c_16 A 4 = c2 A 4) := (hF_18 A 4 (fun h => absurd h.1 (np0 hA rfl))).trans (hid kn_208)
                  have kn_210 : Hid (c_22 A 4 = c2 A 4) := (hF_24 A 4 (fun q => q.elim (fun h => absurd h.1 (np0 hA rfl)) (fun q => q.elim (fun h => absurd h.1 (np0 hA rfl)) (fun h => absurd h.1 (np0 hA rfl))))).trans (hid kn_209)
                  have kn_211 : Hid (c_196 A 4 = c2 A 4) := (hF_198 A 4 (fun q => q.elim (fun h => absurd h.1 (np0 hA rfl)) (fun q => q.elim (fun h => absurd h.1 (np0 hA rfl)) (fun q => q.elim (fun h => absurd h.1 (np0 hA rfl)) (fun q => q.elim (fun h => absurd h.2 (ni rfl)) (fun q => q.elim (fun h => absurd h.2 (ni rfl)) (fun q => q.elim (fun h => absurd h.2 (ni rfl)) (fun q => q.elim (fun h => absurd h.2 (ni rfl)) (fun q => q.elim (fun h => absurd h (p0p rfl)) (fun q => q.elim (fun h => absurd h (p0p rfl)) (fun h => absurd h (p0p rfl)))))))))))).trans (hid kn_210)
                  have kn_212 : Hid (c_199 A 4 = c2 A 4) := (hF_201 A 4 (fun q => q.elim (fun h => absurd h.1 (np0 hA rfl)) (fun q => q.elim (fun h => absurd h.1 (np0 hA rfl)) (fun h => absurd h.1 (np0 hA rfl))))).trans (hid kn_211)
                  have h_213 : c_199 A 4 = c2 A 4 := (hid kn_212)
                  have kn_214 : Hid (c_5 A 5 = c2 A 5) := hF_7 A 5 (fun h => absurd h.1 (np0 hA rfl))
                  have kn_215 : Hid (c_16 A 5 = c2 A 5) := (hF_18 A 5 (fun h => absurd h.1 (np0 hA rfl))).trans (hid kn_214)
                  have kn_216 : Hid (c_22 A 5 = c2 A 5) := (hF_24 A 5 (fun q => q.elim (fun h => absurd h.1 (np0 hA rfl)) (fun q => q.elim (fun h => absurd h.1 (np0 hA rfl)) (fun h => absurd h.1 (np0 hA rfl))))).trans (hid kn_215)
                  have kn_217 : Hid (c_196 A 5 = c2 A 5) := (hF_198 A 5 (fun q => q.elim (fun h => absurd h.1 (np0 hA rfl)) (fun q => q.elim (fun h => absurd h.1 (np0 hA rfl)) (fun q => q.elim (fun h => absurd h.1 (np0 hA rfl)) (fun q => q.elim (fun h => absurd h.2 (ni rfl)) (fun q => q.elim (fun h => absurd h.2 (ni rfl)) (fun q => q.elim (fun h => absurd h.2 (ni rfl)) (fun q => q.elim (fun h => absurd h.2 (ni rfl)) (fun q => q.elim (fun h => absurd h (p0p rfl)) (fun q => q.elim (fun h => absurd h (p0p rfl)) (fun h => absurd h (p0p rfl)))))))))))).trans (hid kn_216)
                  have kn_218 : Hid (c_199 A 5 = c2 A 5) := (hF_201 A 5 (fun q => q.elim (fun h => absurd h.1 (np0 hA rfl)) (fun q => q.elim (fun h => absurd h.1 (np0 hA rfl)) (fun h => absurd h.1 (np0 hA rfl))))).trans (hid kn_217)
                  have h_219 : c_199 A 5 = c2 A 5 := (hid kn_218)
                  exact ih c_199 (v2 + 1) hI_200 (fun a j hm => (hF_201 a j (fun q => q.elim (fun h => hm (Or.inl h)) (fun q => q.elim (fun h => hm (Or.inr (Or.inl h))) (fun h => hm (Or.inr (Or.inr (Or.inl h))))))).trans ((hF_198 a j (fun q => q.elim (fun h => hm (Or.inl h)) (fun q => q.elim (fun h => hm (Or.inr (Or.inl h))) (fun q => q.elim (fun h => hm (Or.inr (Or.inr (Or.inl h)))) (fun q => q.elim (fun h => hm (Or.inr (Or.inr (Or.inr (Or.inl h))))) (fun q => q.elim (fun h => hm (Or.inr (Or.inr (Or.inr (Or.inr (Or.inl h)))))) (fun q => q.elim (fun h => hm (Or.inr (Or.inr (Or.inr (Or.inr (Or.inr (Or.inl h))))))) (fun q => q.elim (fun h => hm (Or.inr (Or.inr (Or.inr (Or.inr (Or.inr (Or.inr (Or.inl h)))))))) (fun q => q.elim (fun h => hm (Or.inr (Or.inr (Or.inr (Or.inr (Or.inr (Or.inr (Or.inr (Or.inl h))))))))) (fun q => q.elim (fun h => hm (Or.inr (Or.inr (Or.inr (Or.inr (Or.inr (Or.inr (Or.inr (Or.inr (Or.inl h)))))))))) (fun h => hm (Or.inr (Or.inr (Or.inr (Or.inr (Or.inr (Or.inr (Or.inr (Or.inr (Or.inr (Or.inl h))))))))))))))))))))).trans ((hF_24 a j (fun q => q.elim (fun h => hm (Or.inl h)) (fun q => q.elim (fun h => hm (Or.inr (Or.inl h))) (fun h => hm (Or.inr (Or.inr (Or.inl h))))))).trans ((hF_18 a j (fun h => hm (Or.inl h))).trans ((hF_7 a j (fun h => hm (Or.inl h))).trans (hF a j (fun q => q.elim (fun h => hm (Or.inl h)) (fun q => q.elim (fun h => hm (Or.inr (Or.inl h))) (fun q => q.elim (fun h => hm (Or.inr (Or.inr (Or.inl h)))) (fun q => q.elim (fun h => hm (Or.inr (Or.inr (Or.inr (Or.inl h))))) (fun q => q.elim (fun h => hm (Or.inr (Or.inr (Or.inr (Or.inr (Or.inl h)))))) (fun q => q.elim (fun h => hm (Or.inr (Or.inr (Or.inr (Or.inr (Or.inr (Or.inl h))))))) (fun q => q.elim (fun h => hm (Or.inr (Or.inr (Or.inr (Or.inr (Or.inr (Or.inr (Or.inl h)))))))) (fun q => q.elim (fun h => hm (Or.inr (Or.inr (Or.inr (Or.inr (Or.inr (Or.inr (Or.inr (Or.inl h))))))))) (fun q => q.elim (fun h => hm (Or.inr (Or.inr (Or.inr (Or.inr (Or.inr (Or.inr (Or.inr (Or.inr (Or.inl h)))))))))) (fun q => q.elim (fun h => hm (Or.inr (Or.inr (Or.inr (Or.inr (Or.inr (Or.inr (Or.inr (Or.inr (Or.inr (Or.inl h))))))))))) (fun q => q.elim (fun h => hm (Or.inr (Or.inr (Or.inr (Or.inr (Or.inr (Or.inr (Or.inr (Or.inr (Or.inr (Or.inr (Or.inl h)))))))))))) (fun q => q.elim (fun h => hm (Or.inr (Or.inr (Or.inr (Or.inr (Or.inr (Or.inr (Or.inr (Or.inr (Or.inr (Or.inr (Or.inr (Or.inl h))))))))))))) (fun q => q.elim (fun h => hm (Or.inr (Or.inr (Or.inr (Or.inr (Or.inr (Or.inr (Or.inr (Or.inr (Or.inr (Or.inr (Or.inr (Or.inr (Or.inl h)))))))))))))) (fun h => hm (Or.inr (Or.inr (Or.inr (Or.inr (Or.inr (Or.inr (Or.inr (Or.inr (Or.inr (Or.inr (Or.inr (Or.inr (Or.inr h))))))))))))))))))))))))))))))))) ⟨by first | exact rgp_l hv2.1 (by decide) | omega, by omega⟩ (by omega) ⟨by omega, by omega⟩ (by omega)
              · refine v_ic_ne_f (t := 55) rfl (by decide) (Decidable.not_not.mp h_165) ?_
                refine q_iconst rfl ?_
                refine q_goto (t := 56) rfl (by decide) ?_
                refine v_zret rfl rfl (by decide) ?_
                refine bk_inl ?_
                refine v_if_eq_f (t := 59) rfl (by decide) (by decide) ?_
                refine q_aload_n rfl rfl ?_
                refine q_iconst rfl ?_
                refine q_iload_n rfl rfl ?_
                refine v_cv rfl rfl rfl rfl (by decide) ⟨⟨rfl, rfl⟩, by decide, rfl⟩ (Nat.le_of_ble_eq_true rfl) (Nat.le_of_ble_eq_true rfl) (s_7 (a1 := 3) (a2 := y_19) hI_23 (show 1 ≤ 3 ∧ 3 ≤ 3 from ⟨by decide, by decide⟩) (show 0 ≤ y_19 ∧ y_19 ≤ 600 from hy_19) (fun c_220 hI_221 hF_222 h_223 => ?_))
                refine bk_inl ?_
                have h_224 := ir_1_4 hI_221
                refine q_aload_n rfl rfl ?_
                refine v_cv rfl rfl rfl rfl (by decide) ⟨⟨rfl, rfl⟩, by decide, rfl⟩ (Nat.le_of_ble_eq_true rfl) (Nat.le_of_ble_eq_true rfl) ?_
                refine q_aload_n rfl rfl ?_
                refine v_gi (z := 4) (v := c_220 1 4) rfl rfl rfl (by decide) rfl rfl rfl ?_
                refine v_if_ne_t (t := 11) rfl (by decide) ⟨by omega, ⟨(Int.le_trans (by decide) h_224.1), (Int.le_trans h_224.2 (by decide))⟩, by decide, by decide⟩ ?_
                refine q_iconst rfl ?_
                refine v_zret rfl rfl (by decide) ?_
                refine bk_inl ?_
                refine v_if_eq_t (t := 73) rfl (by decide) (by decide) ?_
                refine q_aload_n rfl rfl ?_
                refine q_ldc_s rfl rfl rfl (by decide) ?_
                refine v_cv rfl rfl rfl rfl (by decide) ⟨⟨rfl, rfl⟩, by decide, rfl⟩ (Nat.le_of_ble_eq_true rfl) (Nat.le_of_ble_eq_true rfl) (s_11 hI_221 (q := 9) (nt := 1) (by decide) (by decide) (by decide) (fun c_225 hI_226 hF_227 => ?_))
                refine bk_inl ?_
                refine v_iinc (v := v2 + 1) rfl rfl (by decide) rfl ?_
                refine q_goto (t := 6) rfl (by decide) ?_
                refine Wp_ls [(0, .ref A), (1, .ref 1), (2, vi (v2 + 1))] (lsub_cons rfl (lsub_cons rfl (lsub_cons rfl lsub_nil))) ?_
                have kn_228 : Hid (c_5 (A + 7) 4 = c2 (A + 7) 4) := hF_7 (A + 7) 4 (fun h => absurd h.1 (np hA rfl rfl))
                have kn_229 : Hid (c_16 (A + 7) 4 = c2 (A + 7) 4) := (hF_18 (A + 7) 4 (fun h => absurd h.1 (np hA rfl rfl))).trans (hid kn_228)
                have kn_230 : Hid (c_22 (A + 7) 4 = c2 (A + 7) 4) := (hF_24 (A + 7) 4 (fun q => q.elim (fun h => absurd h.1 (np hA rfl rfl)) (fun q => q.elim (fun h => absurd h.1 (np hA rfl rfl)) (fun h => absurd h.1 (np hA rfl rfl))))).trans (hid kn_229)
                have kn_231 : Hid (c_220 (A + 7) 4 = c2 (A + 7) 4) := (hF_222 (A + 7) 4 (fun q => q.elim (fun h => absurd h.1 (np hA rfl rfl)) (fun h => absurd h.1 (np hA rfl rfl)))).trans (hid kn_230)
                have kn_232 : Hid (c_225 (A + 7) 4 = c2 (A + 7) 4) := (hF_227 (A + 7) 4 (fun q => q.elim (fun h => absurd h.1 (np hA rfl rfl)) (fun q => q.elim (fun h => absurd h.1 (np hA rfl rfl)) (fun h => absurd h.1 (np hA rfl rfl))))).trans (hid kn_231)
                have h_233 : c_225 (A + 7) 4 = c2 (A + 7) 4 := (hid kn_232)
                have kn_234 : Hid (c_5 A 4 = c2 A 4) := hF_7 A 4 (fun h => absurd h.1 (np0 hA rfl))
                have kn_235 : Hid (c_16 A 4 = c2 A 4) := (hF_18 A 4 (fun h => absurd h.1 (np0 hA rfl))).trans (hid kn_234)
                have kn_236 : Hid (c_22 A 4 = c2 A 4) := (hF_24 A 4 (fun q => q.elim (fun h => absurd h.1 (np0 hA rfl)) (fun q => q.elim (fun h => absurd h.1 (np0 hA rfl)) (fun h => absurd h.1 (np0 hA rfl))))).trans (hid kn_235)
                have kn_237 : Hid (c_220 A 4 = c2 A 4) := (hF_222 A 4 (fun q => q.elim (fun h => absurd h.1 (np0 hA rfl)) (fun h => absurd h.1 (np0 hA rfl)))).trans (hid kn_236)
                have kn_238 : Hid (c_225 A 4 = c2 A 4) := (hF_227 A 4 (fun q => q.elim (fun h => absurd h.1 (np0 hA rfl)) (fun q => q.elim (fun h => absurd h.1 (np0 hA rfl)) (fun h => absurd h.1 (np0 hA rfl))))).trans (hid kn_237)
                have h_239 : c_225 A 4 = c2 A 4 := (hid kn_238)
                have kn_240 : Hid (c_5 A 5 = c2 A 5) := hF_7 A 5 (fun h => absurd h.1 (np0 hA rfl))
                have kn_241 : Hid (c_16 A 5 = c2 A 5) := (hF_18 A 5 (fun h => absurd h.1 (np0 hA rfl))).trans (hid kn_240)
                have kn_242 : Hid (c_22 A 5 = c2 A 5) := (hF_24 A 5 (fun q => q.elim (fun h => absurd h.1 (np0 hA rfl)) (fun q => q.elim (fun h => absurd h.1 (np0 hA rfl)) (fun h => absurd h.1 (np0 hA rfl))))).trans (hid kn_241)
                have kn_243 : Hid (c_220 A 5 = c2 A 5) := (hF_222 A 5 (fun q => q.elim (fun h => absurd h.1 (np0 hA rfl)) (fun h => absurd h.1 (np0 hA rfl)))).trans (hid kn_242)
                have kn_244 : Hid (c_225 A 5 = c2 A 5) := (hF_227 A 5 (fun q => q.elim (fun h => absurd h.1 (np0 hA rfl)) (fun q => q.elim (fun h => absurd h.1 (np0 hA rfl)) (fun h => absurd h.1 (np0 hA rfl))))).trans (hid kn_243)
                have h_245 : c_225 A 5 = c2 A 5 := (hid kn_244)
                exact ih c_225 (v2 + 1) hI_226 (fun a j hm => (hF_227 a j (fun q => q.elim (fun h => hm (Or.inl h)) (fun q => q.elim (fun h => hm (Or.inr (Or.inl h))) (fun h => hm (Or.inr (Or.inr (Or.inl h))))))).trans ((hF_222 a j (fun q => q.elim (fun h => hm (Or.inr (Or.inl h))) (fun h => hm (Or.inr (Or.inr (Or.inl h)))))).trans ((hF_24 a j (fun q => q.elim (fun h => hm (Or.inl h)) (fun q => q.elim (fun h => hm (Or.inr (Or.inl h))) (fun h => hm (Or.inr (Or.inr (Or.inl h))))))).trans ((hF_18 a j (fun h => hm (Or.inl h))).trans ((hF_7 a j (fun h => hm (Or.inl h))).trans (hF a j (fun q => q.elim (fun h => hm (Or.inl h)) (fun q => q.elim (fun h => hm (Or.inr (Or.inl h))) (fun q => q.elim (fun h => hm (Or.inr (Or.inr (Or.inl h)))) (fun q => q.elim (fun h => hm (Or.inr (Or.inr (Or.inr (Or.inl h))))) (fun q => q.elim (fun h => hm (Or.inr (Or.inr (Or.inr (Or.inr (Or.inl h)))))) (fun q => q.elim (fun h => hm (Or.inr (Or.inr (Or.inr (Or.inr (Or.inr (Or.inl h))))))) (fun q => q.elim (fun h => hm (Or.inr (Or.inr (Or.inr (Or.inr (Or.inr (Or.inr (Or.inl h)))))))) (fun q => q.elim (fun h => hm (Or.inr (Or.inr (Or.inr (Or.inr (Or.inr (Or.inr (Or.inr (Or.inl h))))))))) (fun q => q.elim (fun h => hm (Or.inr (Or.inr (Or.inr (Or.inr (Or.inr (Or.inr (Or.inr (Or.inr (Or.inl h)))))))))) (fun q => q.elim (fun h => hm (Or.inr (Or.inr (Or.inr (Or.inr (Or.inr (Or.inr (Or.inr (Or.inr (Or.inr (Or.inl h))))))))))) (fun q => q.elim (fun h => hm (Or.inr (Or.inr (Or.inr (Or.inr (Or.inr (Or.inr (Or.inr (Or.inr (Or.inr (Or.inr (Or.inl h)))))))))))) (fun q => q.elim (fun h => hm (Or.inr (Or.inr (Or.inr (Or.inr (Or.inr (Or.inr (Or.inr (Or.inr (Or.inr (Or.inr (Or.inr (Or.inl h))))))))))))) (fun q => q.elim (fun h => hm (Or.inr (Or.inr (Or.inr (Or.inr (Or.inr (Or.inr (Or.inr (Or.inr (Or.inr (Or.inr (Or.inr (Or.inr (Or.inl h)))))))))))))) (fun h => hm (Or.inr (Or.inr (Or.inr (Or.inr (Or.inr (Or.inr (Or.inr (Or.inr (Or.inr (Or.inr (Or.inr (Or.inr (Or.inr h))))))))))))))))))))))))))))))))) ⟨by first | exact rgp_l hv2.1 (by decide) | omega, by omega⟩ (by omega) ⟨by omega, by omega⟩ (by omega)
            by_cases h_246 : y_25 = 2
            · skip
              refine v_tsw_i (t := 57) 2 rfl (by omega) (by decide) rfl (by decide) ?_
              refine q_aload_n rfl rfl ?_
              have h_247 := ir_p0_2 hI2 hA
              have kn_248 : Hid (c_5 A 2 = c2 A 2) := hF_7 A 2 (fun h => absurd h.1 (np0 hA rfl))
              have kn_249 : Hid (c_16 A 2 = c2 A 2) := (hF_18 A 2 (fun h => absurd h.1 (np0 hA rfl))).trans (hid kn_248)
              have kn_250 : Hid (c_22 A 2 = c2 A 2) := (hF_24 A 2 (fun q => q.elim (fun h => absurd h.1 (np0 hA rfl)) (fun q => q.elim (fun h => absurd h.1 (np0 hA rfl)) (fun h => absurd h.1 (np0 hA rfl))))).trans (hid kn_249)
              refine v_gi (z := 2) (v := c2 A 2) rfl rfl (ck_p0 hA) (a68z hA) rfl rfl (hid kn_250) ?_
              refine q_iconst rfl ?_
              by_cases h_251 : c2 A 2 ≠ 4
              · refine v_ic_ne_t (t := 69) rfl (by decide) ⟨h_251, ⟨by omega, by omega⟩, by decide, by decide⟩ ?_
                refine q_iconst rfl ?_
                refine v_zret rfl rfl (by decide) ?_
                refine bk_inl ?_
                refine v_if_eq_t (t := 59) rfl (by decide) (by decide) ?_
                refine q_aload_n rfl rfl ?_
                refine v_cv rfl rfl rfl rfl (by decide) ⟨⟨rfl, rfl⟩, by decide, rfl⟩ (Nat.le_of_ble_eq_true rfl) (Nat.le_of_ble_eq_true rfl) ?_
                refine q_aload_n rfl rfl ?_
                refine v_gi (z := 4) (v := c_22 1 4) rfl rfl rfl (by decide) rfl rfl rfl ?_
                by_cases h_252 : c_22 1 4 ≠ 0
                · refine v_if_ne_t (t := 11) rfl (by decide) ⟨h_252, ⟨(Int.le_trans (by decide) h_27.1), (Int.le_trans h_27.2 (by decide))⟩, by decide, by decide⟩ ?_
                  refine q_iconst rfl ?_
                  refine v_zret rfl rfl (by decide) ?_
                  refine bk_inl ?_
                  refine v_if_eq_t (t := 73) rfl (by decide) (by decide) ?_
                  refine q_aload_n rfl rfl ?_
                  refine q_ldc_s rfl rfl rfl (by decide) ?_
                  refine v_cv rfl rfl rfl rfl (by decide) ⟨⟨rfl, rfl⟩, by decide, rfl⟩ (Nat.le_of_ble_eq_true rfl) (Nat.le_of_ble_eq_true rfl) (s_11 hI_23 (q := 9) (nt := 1) (by decide) (by decide) (by decide) (fun c_253 hI_254 hF_255 => ?_))
                  refine bk_inl ?_
                  refine v_iinc (v := v2 + 1) rfl rfl (by decide) rfl ?_
                  refine q_goto (t := 6) rfl (by decide) ?_
                  refine Wp_ls [(0, .ref A), (1, .ref 1), (2, vi (v2 + 1))] (lsub_cons rfl (lsub_cons rfl (lsub_cons rfl lsub_nil))) ?_
                  have kn_256 : Hid (c_5 (A + 7) 4 = c2 (A + 7) 4) := hF_7 (A + 7) 4 (fun h => absurd h.1 (np hA rfl rfl))
                  have kn_257 : Hid (c_16 (A + 7) 4 = c2 (A + 7) 4) := (hF_18 (A + 7) 4 (fun h => absurd h.1 (np hA rfl rfl))).trans (hid kn_256)
                  have kn_258 : Hid (c_22 (A + 7) 4 = c2 (A + 7) 4) := (hF_24 (A + 7) 4 (fun q => q.elim (fun h => absurd h.1 (np hA rfl rfl)) (fun q => q.elim (fun h => absurd h.1 (np hA rfl rfl)) (fun h => absurd h.1 (np hA rfl rfl))))).trans (hid kn_257)
                  have kn_259 : Hid (c_253 (A + 7) 4 = c2 (A + 7) 4) := (hF_255 (A + 7) 4 (fun q => q.elim (fun h => absurd h.1 (np hA rfl rfl)) (fun q => q.elim (fun h => absurd h.1 (np hA rfl rfl)) (fun h => absurd h.1 (np hA rfl rfl))))).trans (hid kn_258)
                  have h_260 : c_253 (A + 7) 4 = c2 (A + 7) 4 := (hid kn_259)
                  have kn_261 : Hid (c_5 A 4 = c2 A 4) := hF_7 A 4 (fun h => absurd h.1 (np0 hA rfl))
                  have kn_262 : Hid (c_16 A 4 = c2 A 4) := (hF_18 A 4 (fun h => absurd h.1 (np0 hA rfl))).trans (hid kn_261)
                  have kn_263 : Hid (c_22 A 4 = c2 A 4) := (hF_24 A 4 (fun q => q.elim (fun h => absurd h.1 (np0 hA rfl)) (fun q => q.elim (fun h => absurd h.1 (np0 hA rfl)) (fun h => absurd h.1 (np0 hA rfl))))).trans (hid kn_262)
                  have kn_264 : Hid (c_253 A 4 = c2 A 4) := (hF_255 A 4 (fun q => q.elim (fun h => absurd h.1 (np0 hA rfl)) (fun q => q.elim (fun h => absurd h.1 (np0 hA rfl)) (fun h => absurd h.1 (np0 hA rfl))))).trans (hid kn_263)
                  have h_265 : c_253 A 4 = c2 A 4 := (hid kn_264)
                  have kn_266 : Hid (c_5 A 5 = c2 A 5) := hF_7 A 5 (fun h => absurd h.1 (np0 hA rfl))
                  have kn_267 : Hid (c_16 A 5 = c2 A 5) := (hF_18 A 5 (fun h => absurd h.1 (np0 hA rfl))).trans (hid kn_266)
                  have kn_268 : Hid (c_22 A 5 = c2 A 5) := (hF_24 A 5 (fun q => q.elim (fun h => absurd h.1 (np0 hA rfl)) (fun q => q.elim (fun h => absurd h.1 (np0 hA rfl)) (fun h => absurd h.1 (np0 hA rfl))))).trans (hid kn_267)
                  have kn_269 : Hid (c_253 A 5 = c2 A 5) := (hF_255 A 5 (fun q => q.elim (fun h => absurd h.1 (np0 hA rfl)) (fun q => q.elim (fun h => absurd h.1 (np0 hA rfl)) (fun h => absurd h.1 (np0 hA rfl))))).trans (hid kn_268)
                  have h_270 : c_253 A 5 = c2 A 5 := (hid kn_269)
                  exact ih c_253 (v2 + 1) hI_254 (fun a j hm => (hF_255 a j (fun q => q.elim (fun h => hm (Or.inl h)) (fun q => q.elim (fun h => hm (Or.inr (Or.inl h))) (fun h => hm (Or.inr (Or.inr (Or.inl h))))))).trans ((hF_24 a j (fun q => q.elim (fun h => hm (Or.inl h)) (fun q => q.elim (fun h => hm (Or.inr (Or.inl h))) (fun h => hm (Or.inr (Or.inr (Or.inl h))))))).trans ((hF_18 a j (fun h => hm (Or.inl h))).trans ((hF_7 a j (fun h => hm (Or.inl h))).trans (hF a j (fun q => q.elim (fun h => hm (Or.inl h)) (fun q => q.elim (fun h => hm (Or.inr (Or.inl h))) (fun q => q.elim (fun h => hm (Or.inr (Or.inr (Or.inl h)))) (fun q => q.elim (fun h => hm (Or.inr (Or.inr (Or.inr (Or.inl h))))) (fun q => q.elim (fun h => hm (Or.inr (Or.inr (Or.inr (Or.inr (Or.inl h)))))) (fun q => q.elim (fun h => hm (Or.inr (Or.inr (Or.inr (Or.inr (Or.inr (Or.inl h))))))) (fun q => q.elim (fun h => hm (Or.inr (Or.inr (Or.inr (Or.inr (Or.inr (Or.inr (Or.inl h)))))))) (fun q => q.elim (fun h => hm (Or.inr (Or.inr (Or.inr (Or.inr (Or.inr (Or.inr (Or.inr (Or.inl h))))))))) (fun q => q.elim (fun h => hm (Or.inr (Or.inr (Or.inr (Or.inr (Or.inr (Or.inr (Or.inr (Or.inr (Or.inl h)))))))))) (fun q => q.elim (fun h => hm (Or.inr (Or.inr (Or.inr (Or.inr (Or.inr (Or.inr (Or.inr (Or.inr (Or.inr (Or.inl h))))))))))) (fun q => q.elim (fun h => hm (Or.inr (Or.inr (Or.inr (Or.inr (Or.inr (Or.inr (Or.inr (Or.inr (Or.inr (Or.inr (Or.inl h)))))))))))) (fun q => q.elim (fun h => hm (Or.inr (Or.inr (Or.inr (Or.inr (Or.inr (Or.inr (Or.inr (Or.inr (Or.inr (Or.inr (Or.inr (Or.inl h))))))))))))) (fun q => q.elim (fun h => hm (Or.inr (Or.inr (Or.inr (Or.inr (Or.inr (Or.inr (Or.inr (Or.inr (Or.inr (Or.inr (Or.inr (Or.inr (Or.inl h)))))))))))))) (fun h => hm (Or.inr (Or.inr (Or.inr (Or.inr (Or.inr (Or.inr (Or.inr (Or.inr (Or.inr (Or.inr (Or.inr (Or.inr (Or.inr h)))))))))))))))))))))))))))))))) ⟨by first | exact rgp_l hv2.1 (by decide) | omega, by omega⟩ (by omega) ⟨by omega, by omega⟩ (by omega)
                · refine v_if_ne_f (t := 11) rfl (by decide) (Decidable.not_not.mp h_252) ?_
                  refine q_iconst rfl ?_
                  refine q_goto (t := 12) rfl (by decide) ?_
                  refine v_zret rfl rfl (by decide) ?_
                  refine bk_inl ?_
                  refine v_if_eq_f (t := 73) rfl (by decide) (by decide) ?_
                  refine q_aload_n rfl rfl ?_
                  refine q_aload_n rfl rfl ?_
                  refine q_iload rfl rfl ?_
                  have h_271 := ir_p0_0 hI2 hA
                  have kn_272 : Hid (c_5 A 0 = c2 A 0) := hF_7 A 0 (fun h => absurd h.1 (np0 hA rfl))
                  have kn_273 : Hid (c_16 A 0 = c2 A 0) := (hF_18 A 0 (fun h => absurd h.1 (np0 hA rfl))).trans (hid kn_272)
                  have kn_274 : Hid (c_22 A 0 = c2 A 0) := (hF_24 A 0 (fun q => q.elim (fun h => absurd h.1 (np0 hA rfl)) (fun q => q.elim (fun h => absurd h.1 (np0 hA rfl)) (fun h => absurd h.1 (np0 hA rfl))))).trans (hid kn_273)
                  have h_275 : c_22 A 0 = c2 A 0 := (hid kn_274)
                  have h_276 := ir_p0_1 hI2 hA
                  have kn_277 : Hid (c_5 A 1 = c2 A 1) := hF_7 A 1 (fun h => absurd h.1 (np0 hA rfl))
                  have kn_278 : Hid (c_16 A 1 = c2 A 1) := (hF_18 A 1 (fun h => absurd h.1 (np0 hA rfl))).trans (hid kn_277)
                  have kn_279 : Hid (c_22 A 1 = c2 A 1) := (hF_24 A 1 (fun q => q.elim (fun h => absurd h.1 (np0 hA rfl)) (fun q => q.elim (fun h => absurd h.1 (np0 hA rfl)) (fun h => absurd h.1 (np0 hA rfl))))).trans (hid kn_278)
                  have h_280 : c_22 A 1 = c2 A 1 := (hid kn_279)
                  have h_281 : c_22 A 2 = c2 A 2 := (hid kn_250)
                  refine v_cv rfl rfl rfl (ck_p0 hA) (a68z hA) ⟨⟨rfl, rfl⟩, by decide, rfl⟩ (Nat.le_of_ble_eq_true rfl) (Nat.le_of_ble_eq_true rfl) (s_33 (a2 := y_25) hI_23 hA (show 0 ≤ y_25 ∧ y_25 ≤ 100 from ⟨by omega, hy_25.2⟩) (Or.inl (by omega)) (Or.inl (by omega)) (Or.inr (by omega)) (fun c_282 hI_283 hF_284 => ?_))
                  refine bk_inl ?_
                  refine q_aload_n rfl rfl ?_
                  refine q_ldc_s rfl rfl rfl (by decide) ?_
                  refine v_cv rfl rfl rfl rfl (by decide) ⟨⟨rfl, rfl⟩, by decide, rfl⟩ (Nat.le_of_ble_eq_true rfl) (Nat.le_of_ble_eq_true rfl) (s_11 hI_283 (q := 9) (nt := 1) (by decide) (by decide) (by decide) (fun c_285 hI_286 hF_287 => ?_))
                  refine bk_inl ?_
                  refine v_iinc (v := v2 + 1) rfl rfl (by decide) rfl ?_
                  refine q_goto (t := 6) rfl (by decide) ?_
                  refine Wp_ls [(0, .ref A), (1, .ref 1), (2, vi (v2 + 1))] (lsub_cons rfl (lsub_cons rfl (lsub_cons rfl lsub_nil))) ?_
                  have kn_288 : Hid (c_5 (A + 7) 4 = c2 (A + 7) 4) := hF_7 (A + 7) 4 (fun h => absurd h.1 (np hA rfl rfl))
                  have kn_289 : Hid (c_16 (A + 7) 4 = c2 (A + 7) 4) := (hF_18 (A + 7) 4 (fun h => absurd h.1 (np hA rfl rfl))).trans (hid kn_288)
                  have kn_290 : Hid (c_22 (A + 7) 4 = c2 (A + 7) 4) := (hF_24 (A + 7) 4 (fun q => q.elim (fun h => absurd h.1 (np hA rfl rfl)) (fun q => q.elim (fun h => absurd h.1 (np hA rfl rfl)) (fun h => absurd h.1 (np hA rfl rfl))))).trans (hid kn_289)
                  have kn_291 : Hid (c_282 (A + 7) 4 = c2 (A + 7) 4) := (hF_284 (A + 7) 4 (fun q => q.elim (fun h => absurd h.1 (np hA rfl rfl)) (fun q => q.elim (fun h => absurd h.1 (np hA rfl rfl)) (fun q => q.elim (fun h => absurd h.1 (np hA rfl rfl)) (fun q => q.elim (fun h => absurd h.1 (pp0 rfl)) (fun q => q.elim (fun h => absurd h.1 (pp0 rfl)) (fun q => q.elim (fun h => absurd h.1 (pp0 rfl)) (fun q => q.elim (fun h => absurd h.1 (pp0 rfl)) (fun q => q.elim (fun h => absurd h (pp rfl)) (fun q => q.elim (fun h => absurd h (pp rfl)) (fun h => absurd h (pp rfl)))))))))))).trans (hid kn_290)
                  have kn_292 : Hid (c_285 (A + 7) 4 = c2 (A + 7) 4) := (hF_287 (A + 7) 4 (fun q => q.elim (fun h => absurd h.1 (np hA rfl rfl)) (fun q => q.elim (fun h => absurd h.1 (np hA rfl rfl)) (fun h => absurd h.1 (np hA rfl rfl))))).trans (hid kn_291)
                  have h_293 : c_285 (A + 7) 4 = c2 (A + 7) 4 := (hid kn_292)
                  have kn_294 : Hid (c_5 A 4 = c2 A 4) := hF_7 A 4 (fun h => absurd h.1 (np0 hA rfl))
                  have kn_295 : Hid (c_16 A 4 = c2 A 4) := (hF_18 A 4 (fun h => absurd h.1 (np0 hA rfl))).trans (hid kn_294)
                  have kn_296 : Hid (c_22 A 4 = c2 A 4) := (hF_24 A 4 (fun q => q.elim (fun h => absurd h.1 (np0 hA rfl)) (fun q => q.elim (fun h => absurd h.1 (np0 hA rfl)) (fun h => absurd h.1 (np0 hA rfl))))).trans (hid kn_295)
                  have kn_297 : Hid (c_282 A 4 = c2 A 4) := (hF_284 A 4 (fun q => q.elim (fun h => absurd h.1 (np0 hA rfl)) (fun q => q.elim (fun h => absurd h.1 (np0 hA rfl)) (fun q => q.elim (fun h => absurd h.1 (np0 hA rfl)) (fun q => q.elim (fun h => absurd h.2 (ni rfl)) (fun q => q.elim (fun h => absurd h.2 (ni rfl)) (fun q => q.elim (fun h => absurd h.2 (ni rfl)) (fun q => q.elim (fun h => absurd h.2 (ni rfl)) (fun q => q.elim (fun h => absurd h (p0p rfl)) (fun q => q.elim (fun h => absurd h (p0p rfl)) (fun h => absurd h (p0p rfl)))))))))))).trans (hid kn_296)
                  have kn_298 : Hid (c_285 A 4 = c2 A 4) := (hF_287 A 4 (fun q => q.elim (fun h => absurd h.1 (np0 hA rfl)) (fun q => q.elim (fun h => absurd h.1 (np0 hA rfl)) (fun h => absurd h.1 (np0 hA rfl))))).trans (hid kn_297)
                  have h_299 : c_285 A 4 = c2 A 4 := (hid kn_298)
                  have kn_300 : Hid (c_5 A 5 = c2 A 5) := hF_7 A 5 (fun h => absurd h.1 (np0 hA rfl))
                  have kn_301 : Hid (c_16 A 5 = c2 A 5) := (hF_18 A 5 (fun h => absurd h.1 (np0 hA rfl))).trans (hid kn_300)
                  have kn_302 : Hid (c_22 A 5 = c2 A 5) := (hF_24 A 5 (fun q => q.elim (fun h => absurd h.1 (np0 hA rfl)) (fun q => q.elim (fun h => absurd h.1 (np0 hA rfl)) (fun h => absurd h.1 (np0 hA rfl))))).trans (hid kn_301)
                  have kn_303 : Hid (c_282 A 5 = c2 A 5) := (hF_284 A 5 (fun q => q.elim (fun h => absurd h.1 (np0 hA rfl)) (fun q => q.elim (fun h => absurd h.1 (np0 hA rfl)) (fun q => q.elim (fun h => absurd h.1 (np0 hA rfl)) (fun q => q.elim (fun h => absurd h.2 (ni rfl)) (fun q => q.elim (fun h => absurd h.2 (ni rfl)) (fun q => q.elim (fun h => absurd h.2 (ni rfl)) (fun q => q.elim (fun h => absurd h.2 (ni rfl)) (fun q => q.elim (fun h => absurd h (p0p rfl)) (fun q => q.elim (fun h => absurd h (p0p rfl)) (fun h => absurd h (p0p rfl)))))))))))).trans (hid kn_302)
                  have kn_304 : Hid (c_285 A 5 = c2 A 5) := (hF_287 A 5 (fun q => q.elim (fun h => absurd h.1 (np0 hA rfl)) (fun q => q.elim (fun h => absurd h.1 (np0 hA rfl)) (fun h => absurd h.1 (np0 hA rfl))))).trans (hid kn_303)
                  have h_305 : c_285 A 5 = c2 A 5 := (hid kn_304)
                  exact ih c_285 (v2 + 1) hI_286 (fun a j hm => (hF_287 a j (fun q => q.elim (fun h => hm (Or.inl h)) (fun q => q.elim (fun h => hm (Or.inr (Or.inl h))) (fun h => hm (Or.inr (Or.inr (Or.inl h))))))).trans ((hF_284 a j (fun q => q.elim (fun h => hm (Or.inl h)) (fun q => q.elim (fun h => hm (Or.inr (Or.inl h))) (fun q => q.elim (fun h => hm (Or.inr (Or.inr (Or.inl h)))) (fun q => q.elim (fun h => hm (Or.inr (Or.inr (Or.inr (Or.inl h))))) (fun q => q.elim (fun h => hm (Or.inr (Or.inr (Or.inr (Or.inr (Or.inl h)))))) (fun q => q.elim (fun h => hm (Or.inr (Or.inr (Or.inr (Or.inr (Or.inr (Or.inl h))))))) (fun q => q.elim (fun h => hm (Or.inr (Or.inr (Or.inr (Or.inr (Or.inr (Or.inr (Or.inl h)))))))) (fun q => q.elim (fun h => hm (Or.inr (Or.inr (Or.inr (Or.inr (Or.inr (Or.inr (Or.inr (Or.inl h))))))))) (fun q => q.elim (fun h => hm (Or.inr (Or.inr (Or.inr (Or.inr (Or.inr (Or.inr (Or.inr (Or.inr (Or.inl h)))))))))) (fun h => hm (Or.inr (Or.inr (Or.inr (Or.inr (Or.inr (Or.inr (Or.inr (Or.inr (Or.inr (Or.inl h))))))))))))))))))))).trans ((hF_24 a j (fun q => q.elim (fun h => hm (Or.inl h)) (fun q => q.elim (fun h => hm (Or.inr (Or.inl h))) (fun h => hm (Or.inr (Or.inr (Or.inl h))))))).trans ((hF_18 a j (fun h => hm (Or.inl h))).trans ((hF_7 a j (fun h => hm (Or.inl h))).trans (hF a j (fun q => q.elim (fun h => hm (Or.inl h)) (fun q => q.elim (fun h => hm (Or.inr (Or.inl h))) (fun q => q.elim (fun h => hm (Or.inr (Or.inr (Or.inl h)))) (fun q => q.elim (fun h => hm (Or.inr (Or.inr (Or.inr (Or.inl h))))) (fun q => q.elim (fun h => hm (Or.inr (Or.inr (Or.inr (Or.inr (Or.inl h)))))) (fun q => q.elim (fun h => hm (Or.inr (Or.inr (Or.inr (Or.inr (Or.inr (Or.inl h))))))) (fun q => q.elim (fun h => hm (Or.inr (Or.inr (Or.inr (Or.inr (Or.inr (Or.inr (Or.inl h)))))))) (fun q => q.elim (fun h => hm (Or.inr (Or.inr (Or.inr (Or.inr (Or.inr (Or.inr (Or.inr (Or.inl h))))))))) (fun q => q.elim (fun h => hm (Or.inr (Or.inr (Or.inr (Or.inr (Or.inr (Or.inr (Or.inr (Or.inr (Or.inl h)))))))))) (fun q => q.elim (fun h => hm (Or.inr (Or.inr (Or.inr (Or.inr (Or.inr (Or.inr (Or.inr (Or.inr (Or.inr (Or.inl h))))))))))) (fun q => q.elim (fun h => hm (Or.inr (Or.inr (Or.inr (Or.inr (Or.inr (Or.inr (Or.inr (Or.inr (Or.inr (Or.inr (Or.inl h)))))))))))) (fun q => q.elim (fun h => hm (Or.inr (Or.inr (Or.inr (Or.inr (Or.inr (Or.inr (Or.inr (Or.inr (Or.inr (Or.inr (Or.inr (Or.inl h))))))))))))) (fun q => q.elim (fun h => hm (Or.inr (Or.inr (Or.inr (Or.inr (Or.inr (Or.inr (Or.inr (Or.inr (Or.inr (Or.inr (Or.inr (Or.inr (Or.inl h)))))))))))))) (fun h => hm (Or.inr (Or.inr (Or.inr (Or.inr (Or.inr (Or.inr (Or.inr (Or.inr (Or.inr (Or.inr (Or.inr (Or.inr (Or.inr h))))))))))))))))))))))))))))))))) ⟨by first | exact rgp_l hv2.1 (by decide) | omega, by omega⟩ (by omega) ⟨by omega, by omega⟩ (by omega)
              · refine v_ic_ne_f (t := 69) rfl (by decide) (Decidable.not_not.mp h_251) ?_
                refine q_iconst rfl ?_
                refine q_goto (t := 70) rfl (by decide) ?_
                refine v_zret rfl rfl (by decide) ?_
                refine bk_inl ?_
                refine v_if_eq_f (t := 59) rfl (by decide) (by decide) ?_
                refine q_aload_n rfl rfl ?_
                refine q_iconst rfl ?_
                refine q_iload_n rfl rfl ?_
                refine v_cv rfl rfl rfl rfl (by decide) ⟨⟨rfl, rfl⟩, by decide, rfl⟩ (Nat.le_of_ble_eq_true rfl) (Nat.le_of_ble_eq_true rfl) (s_7 (a1 := 3) (a2 := y_19) hI_23 (show 1 ≤ 3 ∧ 3 ≤ 3 from ⟨by decide, by decide⟩) (show 0 ≤ y_19 ∧ y_19 ≤ 600 from hy_19) (fun c_306 hI_307 hF_308 h_309 => ?_))
                refine bk_inl ?_
                have h_310 := ir_1_4 hI_307
                refine q_aload_n rfl rfl ?_
                refine v_cv rfl rfl rfl rfl (by decide) ⟨⟨rfl, rfl⟩, by decide, rfl⟩ (Nat.le_of_ble_eq_true rfl) (Nat.le_of_ble_eq_true rfl) ?_
                refine q_aload_n rfl rfl ?_
                refine v_gi (z := 4) (v := c_306 1 4) rfl rfl rfl (by decide) rfl rfl rfl ?_
                refine v_if_ne_t (t := 11) rfl (by decide) ⟨by omega, ⟨(Int.le_trans (by decide) h_310.1), (Int.le_trans h_310.2 (by decide))⟩, by decide, by decide⟩ ?_
                refine q_iconst rfl ?_
                refine v_zret rfl rfl (by decide) ?_
                refine bk_inl ?_
                refine v_if_eq_t (t := 73) rfl (by decide) (by decide) ?_
                refine q_aload_n rfl rfl ?_
                refine q_ldc_s rfl rfl rfl (by decide) ?_
                refine v_cv rfl rfl rfl rfl (by decide) ⟨⟨rfl, rfl⟩, by decide, rfl⟩ (Nat.le_of_ble_eq_true rfl) (Nat.le_of_ble_eq_true rfl) (s_11 hI_307 (q := 9) (nt := 1) (by decide) (by decide) (by decide) (fun c_311 hI_312 hF_313 => ?_))
                refine bk_inl ?_
                refine v_iinc (v := v2 + 1) rfl rfl (by decide) rfl ?_
                refine q_goto (t := 6) rfl (by decide) ?_
                refine Wp_ls [(0, .ref A), (1, .ref 1), (2, vi (v2 + 1))] (lsub_cons rfl (lsub_cons rfl (lsub_cons rfl lsub_nil))) ?_
                have kn_314 : Hid (c_5 (A + 7) 4 = c2 (A + 7) 4) := hF_7 (A + 7) 4 (fun h => absurd h.1 (np hA rfl rfl))
                have kn_315 : Hid (c_16 (A + 7) 4 = c2 (A + 7) 4) := (hF_18 (A + 7) 4 (fun h => absurd h.1 (np hA rfl rfl))).trans (hid kn_314)
                have kn_316 : Hid (c_22 (A + 7) 4 = c2 (A + 7) 4) := (hF_24 (A + 7) 4 (fun q => q.elim (fun h => absurd h.1 (np hA rfl rfl)) (fun q => q.elim (fun h => absurd h.1 (np hA rfl rfl)) (fun h => absurd h.1 (np hA rfl rfl))))).trans (hid kn_315)
                have kn_317 : Hid (c_306 (A + 7) 4 = c2 (A + 7) 4) := (hF_308 (A + 7) 4 (fun q => q.elim (fun h => absurd h.1 (np hA rfl rfl)) (fun h => absurd h.1 (np hA rfl rfl)))).trans (hid kn_316)
                have kn_318 : Hid (c_311 (A + 7) 4 = c2 (A + 7) 4) := (hF_313 (A + 7) 4 (fun q => q.elim (fun h => absurd h.1 (np hA rfl rfl)) (fun q => q.elim (fun h => absurd h.1 (np hA rfl rfl)) (fun h => absurd h.1 (np hA rfl rfl))))).trans (hid kn_317)
                have h_319 : c_311 (A + 7) 4 = c2 (A + 7) 4 := (hid kn_318)
                have kn_320 : Hid (c_5 A 4 = c2 A 4) := hF_7 A 4 (fun h => absurd h.1 (np0 hA rfl))
                have kn_321 : Hid (c_16 A 4 = c2 A 4) := (hF_18 A 4 (fun h => absurd h.1 (np0 hA rfl))).trans (hid kn_320)
                have kn_322 : Hid (c_22 A 4 = c2 A 4) := (hF_24 A 4 (fun q => q.elim (fun h => absurd h.1 (np0 hA rfl)) (fun q => q.elim (fun h => absurd h.1 (np0 hA rfl)) (fun h => absurd h.1 (np0 hA rfl))))).trans (hid kn_321)
                have kn_323 : Hid (c_306 A 4 = c2 A 4) := (hF_308 A 4 (fun q => q.elim (fun h => absurd h.1 (np0 hA rfl)) (fun h => absurd h.1 (np0 hA rfl)))).trans (hid kn_322)
                have kn_324 : Hid (c_311 A 4 = c2 A 4) := (hF_313 A 4 (fun q => q.elim (fun h => absurd h.1 (np0 hA rfl)) (fun q => q.elim (fun h => absurd h.1 (np0 hA rfl)) (fun h => absurd h.1 (np0 hA rfl))))).trans (hid kn_323)
                have h_325 : c_311 A 4 = c2 A 4 := (hid kn_324)
                have kn_326 : Hid (c_5 A 5 = c2 A 5) := hF_7 A 5 (fun h => absurd h.1 (np0 hA rfl))
                have kn_327 : Hid (c_16 A 5 = c2 A 5) := (hF_18 A 5 (fun h => absurd h.1 (np0 hA rfl))).trans (hid kn_326)
                have kn_328 : Hid (c_22 A 5 = c2 A 5) := (hF_24 A 5 (fun q => q.elim (fun h => absurd h.1 (np0 hA rfl)) (fun q => q.elim (fun h => absurd h.1 (np0 hA rfl)) (fun h => absurd h.1 (np0 hA rfl))))).trans (hid kn_327)
                have kn_329 : Hid (c_306 A 5 = c2 A 5) := (hF_308 A 5 (fun q => q.elim (fun h => absurd h.1 (np0 hA rfl)) (fun h => absurd h.1 (np0 hA rfl)))).trans (hid kn_328)
                have kn_330 : Hid (c_311 A 5 = c2 A 5) := (hF_313 A 5 (fun q => q.elim (fun h => absurd h.1 (np0 hA rfl)) (fun q => q.elim (fun h => absurd h.1 (np0 hA rfl)) (fun h => absurd h.1 (np0 hA rfl))))).trans (hid kn_329)
                have h_331 : c_311 A 5 = c2 A 5 := (hid kn_330)
                exact ih c_311 (v2 + 1) hI_312 (fun a j hm => (hF_313 a j (fun q => q.elim (fun h => hm (Or.inl h)) (fun q => q.elim (fun h => hm (Or.inr (Or.inl h))) (fun h => hm (Or.inr (Or.inr (Or.inl h))))))).trans ((hF_308 a j (fun q => q.elim (fun h => hm (Or.inr (Or.inl h))) (fun h => hm (Or.inr (Or.inr (Or.inl h)))))).trans ((hF_24 a j (fun q => q.elim (fun h => hm (Or.inl h)) (fun q => q.elim (fun h => hm (Or.inr (Or.inl h))) (fun h => hm (Or.inr (Or.inr (Or.inl h))))))).trans ((hF_18 a j (fun h => hm (Or.inl h))).trans ((hF_7 a j (fun h => hm (Or.inl h))).trans (hF a j (fun q => q.elim (fun h => hm (Or.inl h)) (fun q => q.elim (fun h => hm (Or.inr (Or.inl h))) (fun q => q.elim (fun h => hm (Or.inr (Or.inr (Or.inl h)))) (fun q => q.elim (fun h => hm (Or.inr (Or.inr (Or.inr (Or.inl h))))) (fun q => q.elim (fun h => hm (Or.inr (Or.inr (Or.inr (Or.inr (Or.inl h)))))) (fun q => q.elim (fun h => hm (Or.inr (Or.inr (Or.inr (Or.inr (Or.inr (Or.inl h))))))) (fun q => q.elim (fun h => hm (Or.inr (Or.inr (Or.inr (Or.inr (Or.inr (Or.inr (Or.inl h)))))))) (fun q => q.elim (fun h => hm (Or.inr (Or.inr (Or.inr (Or.inr (Or.inr (Or.inr (Or.inr (Or.inl h))))))))) (fun q => q.elim (fun h => hm (Or.inr (Or.inr (Or.inr (Or.inr (Or.inr (Or.inr (Or.inr (Or.inr (Or.inl h)))))))))) (fun q => q.elim (fun h => hm (Or.inr (Or.inr (Or.inr (Or.inr (Or.inr (Or.inr (Or.inr (Or.inr (Or.inr (Or.inl h))))))))))) (fun q => q.elim (fun h => hm (Or.inr (Or.inr (Or.inr (Or.inr (Or.inr (Or.inr (Or.inr (Or.inr (Or.inr (Or.inr (Or.inl h)))))))))))) (fun q => q.elim (fun h => hm (Or.inr (Or.inr (Or.inr (Or.inr (Or.inr (Or.inr (Or.inr (Or.inr (Or.inr (Or.inr (Or.inr (Or.inl h))))))))))))) (fun q => q.elim (fun h => hm (Or.inr (Or.inr (Or.inr (Or.inr (Or.inr (Or.inr (Or.inr (Or.inr (Or.inr (Or.inr (Or.inr (Or.inr (Or.inl h)))))))))))))) (fun h => hm (Or.inr (Or.inr (Or.inr (Or.inr (Or.inr (Or.inr (Or.inr (Or.inr (Or.inr (Or.inr (Or.inr (Or.inr (Or.inr h))))))))))))))))))))))))))))))))) ⟨by first | exact rgp_l hv2.1 (by decide) | omega, by omega⟩ (by omega) ⟨by omega, by omega⟩ (by omega)
            refine v_tsw_o (t := 71) rfl (by omega) (by decide) ?_
            refine q_iconst rfl ?_
            refine v_zret rfl rfl (by decide) ?_
            refine bk_inl ?_
            refine v_if_eq_t (t := 59) rfl (by decide) (by decide) ?_
            refine q_aload_n rfl rfl ?_
            refine v_cv rfl rfl rfl rfl (by decide) ⟨⟨rfl, rfl⟩, by decide, rfl⟩ (Nat.le_of_ble_eq_true rfl) (Nat.le_of_ble_eq_true rfl) ?_
            refine q_aload_n rfl rfl ?_
            refine v_gi (z := 4) (v := c_22 1 4) rfl rfl rfl (by decide) rfl rfl rfl ?_
            by_cases h_332 : c_22 1 4 ≠ 0
            · refine v_if_ne_t (t := 11) rfl (by decide) ⟨h_332, ⟨(Int.le_trans (by decide) h_27.1), (Int.le_trans h_27.2 (by decide))⟩, by decide, by decide⟩ ?_
              refine q_iconst rfl ?_
              refine v_zret rfl rfl (by decide) ?_
              refine bk_inl ?_
              refine v_if_eq_t (t := 73) rfl (by decide) (by decide) ?_
              refine q_aload_n rfl rfl ?_
              refine q_ldc_s rfl rfl rfl (by decide) ?_
              refine v_cv rfl rfl rfl rfl (by decide) ⟨⟨rfl, rfl⟩, by decide, rfl⟩ (Nat.le_of_ble_eq_true rfl) (Nat.le_of_ble_eq_true rfl) (s_11 hI_23 (q := 9) (nt := 1) (by decide) (by decide) (by decide) (fun c_333 hI_334 hF_335 => ?_))
              refine bk_inl ?_
              refine v_iinc (v := v2 + 1) rfl rfl (by decide) rfl ?_
              refine q_goto (t := 6) rfl (by decide) ?_
              refine Wp_ls [(0, .ref A), (1, .ref 1), (2, vi (v2 + 1))] (lsub_cons rfl (lsub_cons rfl (lsub_cons rfl lsub_nil))) ?_
              have kn_336 : Hid (c_5 (A + 7) 4 = c2 (A + 7) 4) := hF_7 (A + 7) 4 (fun h => absurd h.1 (np hA rfl rfl))
              have kn_337 : Hid (c_16 (A + 7) 4 = c2 (A + 7) 4) := (hF_18 (A + 7) 4 (fun h => absurd h.1 (np hA rfl rfl))).trans (hid kn_336)
              have kn_338 : Hid (c_22 (A + 7) 4 = c2 (A + 7) 4) := (hF_24 (A + 7) 4 (fun q => q.elim (fun h => absurd h.1 (np hA rfl rfl)) (fun q => q.elim (fun h => absurd h.1 (np hA rfl rfl)) (fun h => absurd h.1 (np hA rfl rfl))))).trans (hid kn_337)
              have kn_339 : Hid (c_333 (A + 7) 4 = c2 (A + 7) 4) := (hF_335 (A + 7) 4 (fun q => q.elim (fun h => absurd h.1 (np hA rfl rfl)) (fun q => q.elim (fun h => absurd h.1 (np hA rfl rfl)) (fun h => absurd h.1 (np hA rfl rfl))))).trans (hid kn_338)
              have h_340 : c_333 (A + 7) 4 = c2 (A + 7) 4 := (hid kn_339)
              have kn_341 : Hid (c_5 A 4 = c2 A 4) := hF_7 A 4 (fun h => absurd h.1 (np0 hA rfl))
              have kn_342 : Hid (c_16 A 4 = c2 A 4) := (hF_18 A 4 (fun h => absurd h.1 (np0 hA rfl))).trans (hid kn_341)
              have kn_343 : Hid (c_22 A 4 = c2 A 4) := (hF_24 A 4 (fun q => q.elim (fun h => absurd h.1 (np0 hA rfl)) (fun q => q.elim (fun h => absurd h.1 (np0 hA rfl)) (fun h => absurd h.1 (np0 hA rfl))))).trans (hid kn_342)
              have kn_344 : Hid (c_333 A 4 = c2 A 4) := (hF_335 A 4 (fun q => q.elim (fun h => absurd h.1 (np0 hA rfl)) (fun q => q.elim (fun h => absurd h.1 (np0 hA rfl)) (fun h => absurd h.1 (np0 hA rfl))))).trans (hid kn_343)
              have h_345 : c_333 A 4 = c2 A 4 := (hid kn_344)
              have kn_346 : Hid (c_5 A 5 = c2 A 5) := hF_7 A 5 (fun h => absurd h.1 (np0 hA rfl))
              have kn_347 : Hid (c_16 A 5 = c2 A 5) := (hF_18 A 5 (fun h => absurd h.1 (np0 hA rfl))).trans (hid kn_346)
              have kn_348 : Hid (c_22 A 5 = c2 A 5) := (hF_24 A 5 (fun q => q.elim (fun h => absurd h.1 (np0 hA rfl)) (fun q => q.elim (fun h => absurd h.1 (np0 hA rfl)) (fun h => absurd h.1 (np0 hA rfl))))).trans (hid kn_347)
              have kn_349 : Hid (c_333 A 5 = c2 A 5) := (hF_335 A 5 (fun q => q.elim (fun h => absurd h.1 (np0 hA rfl)) (fun q => q.elim (fun h => absurd h.1 (np0 hA rfl)) (fun h => absurd h.1 (np0 hA rfl))))).trans (hid kn_348)
              have h_350 : c_333 A 5 = c2 A 5 := (hid kn_349)
              exact ih c_333 (v2 + 1) hI_334 (fun a j hm => (hF_335 a j (fun q => q.elim (fun h => hm (Or.inl h)) (fun q => q.elim (fun h => hm (Or.inr (Or.inl h))) (fun h => hm (Or.inr (Or.inr (Or.inl h))))))).trans ((hF_24 a j (fun q => q.elim (fun h => hm (Or.inl h)) (fun q => q.elim (fun h => hm (Or.inr (Or.inl h))) (fun h => hm (Or.inr (Or.inr (Or.inl h))))))).trans ((hF_18 a j (fun h => hm (Or.inl h))).trans ((hF_7 a j (fun h => hm (Or.inl h))).trans (hF a j (fun q => q.elim (fun h => hm (Or.inl h)) (fun q => q.elim (fun h => hm (Or.inr (Or.inl h))) (fun q => q.elim (fun h => hm (Or.inr (Or.inr (Or.inl h)))) (fun q => q.elim (fun h => hm (Or.inr (Or.inr (Or.inr (Or.inl h))))) (fun q => q.elim (fun h => hm (Or.inr (Or.inr (Or.inr (Or.inr (Or.inl h)))))) (fun q => q.elim (fun h => hm (Or.inr (Or.inr (Or.inr (Or.inr (Or.inr (Or.inl h))))))) (fun q => q.elim (fun h => hm (Or.inr (Or.inr (Or.inr (Or.inr (Or.inr (Or.inr (Or.inl h)))))))) (fun q => q.elim (fun h => hm (Or.inr (Or.inr (Or.inr (Or.inr (Or.inr (Or.inr (Or.inr (Or.inl h))))))))) (fun q => q.elim (fun h => hm (Or.inr (Or.inr (Or.inr (Or.inr (Or.inr (Or.inr (Or.inr (Or.inr (Or.inl h)))))))))) (fun q => q.elim (fun h => hm (Or.inr (Or.inr (Or.inr (Or.inr (Or.inr (Or.inr (Or.inr (Or.inr (Or.inr (Or.inl h))))))))))) (fun q => q.elim (fun h => hm (Or.inr (Or.inr (Or.inr (Or.inr (Or.inr (Or.inr (Or.inr (Or.inr (Or.inr (Or.inr (Or.inl h)))))))))))) (fun q => q.elim (fun h => hm (Or.inr (Or.inr (Or.inr (Or.inr (Or.inr (Or.inr (Or.inr (Or.inr (Or.inr (Or.inr (Or.inr (Or.inl h))))))))))))) (fun q => q.elim (fun h => hm (Or.inr (Or.inr (Or.inr (Or.inr (Or.inr (Or.inr (Or.inr (Or.inr (Or.inr (Or.inr (Or.inr (Or.inr (Or.inl h)))))))))))))) (fun h => hm (Or.inr (Or.inr (Or.inr (Or.inr (Or.inr (Or.inr (Or.inr (Or.inr (Or.inr (Or.inr (Or.inr (Or.inr (Or.inr h)))))))))))))))))))))))))))))))) ⟨by first | exact rgp_l hv2.1 (by decide) | omega, by omega⟩ (by omega) ⟨by omega, by omega⟩ (by omega)
            · refine v_if_ne_f (t := 11) rfl (by decide) (Decidable.not_not.mp h_332) ?_
              refine q_iconst rfl ?_
              refine q_goto (t := 12) rfl (by decide) ?_
              refine v_zret rfl rfl (by decide) ?_
              refine bk_inl ?_
              refine v_if_eq_f (t := 73) rfl (by decide) (by decide) ?_
              refine q_aload_n rfl rfl ?_
              refine q_aload_n rfl rfl ?_
              refine q_iload rfl rfl ?_
              have h_351 := ir_p0_0 hI2 hA
              have kn_352 : Hid (c_5 A 0 = c2 A 0) := hF_7 A 0 (fun h => absurd h.1 (np0 hA rfl))
              have kn_353 : Hid (c_16 A 0 = c2 A 0) := (hF_18 A 0 (fun h => absurd h.1 (np0 hA rfl))).trans (hid kn_352)
              have kn_354 : Hid (c_22 A 0 = c2 A 0) := (hF_24 A 0 (fun q => q.elim (fun h => absurd h.1 (np0 hA rfl)) (fun q => q.elim (fun h => absurd h.1 (np0 hA rfl)) (fun h => absurd h.1 (np0 hA rfl))))).trans (hid kn_353)
              have h_355 : c_22 A 0 = c2 A 0 := (hid kn_354)
              have h_356 := ir_p0_1 hI2 hA
              have kn_357 : Hid (c_5 A 1 = c2 A 1) := hF_7 A 1 (fun h => absurd h.1 (np0 hA rfl))
              have kn_358 : Hid (c_16 A 1 = c2 A 1) := (hF_18 A 1 (fun h => absurd h.1 (np0 hA rfl))).trans (hid kn_357)
              have kn_359 : Hid (c_22 A 1 = c2 A 1) := (hF_24 A 1 (fun q => q.elim (fun h => absurd h.1 (np0 hA rfl)) (fun q => q.elim (fun h => absurd h.1 (np0 hA rfl)) (fun h => absurd h.1 (np0 hA rfl))))).trans (hid kn_358)
              have h_360 : c_22 A 1 = c2 A 1 := (hid kn_359)
              have h_361 := ir_p0_2 hI2 hA
              have kn_362 : Hid (c_5 A 2 = c2 A 2) := hF_7 A 2 (fun h => absurd h.1 (np0 hA rfl))
              have kn_363 : Hid (c_16 A 2 = c2 A 2) := (hF_18 A 2 (fun h => absurd h.1 (np0 hA rfl))).trans (hid kn_362)
              have kn_364 : Hid (c_22 A 2 = c2 A 2) := (hF_24 A 2 (fun q => q.elim (fun h => absurd h.1 (np0 hA rfl)) (fun q => q.elim (fun h => absurd h.1 (np0 hA rfl)) (fun h => absurd h.1 (np0 hA rfl))))).trans (hid kn_363)
              have h_365 : c_22 A 2 = c2 A 2 := (hid kn_364)
              refine v_cv rfl rfl rfl (ck_p0 hA) (a68z hA) ⟨⟨rfl, rfl⟩, by decide, rfl⟩ (Nat.le_of_ble_eq_true rfl) (Nat.le_of_ble_eq_true rfl) (s_33 (a2 := y_25) hI_23 hA (show 0 ≤ y_25 ∧ y_25 ≤ 100 from ⟨by omega, hy_25.2⟩) (Or.inl (by omega)) (Or.inl (by omega)) (Or.inl (by omega)) (fun c_366 hI_367 hF_368 => ?_))
              refine bk_inl ?_
              refine q_aload_n rfl rfl ?_
              refine q_ldc_s rfl rfl rfl (by decide) ?_
              refine v_cv rfl rfl rfl rfl (by decide) ⟨⟨rfl, rfl⟩, by decide, rfl⟩ (Nat.le_of_ble_eq_true rfl) (Nat.le_of_ble_eq_true rfl) (s_11 hI_367 (q := 9) (nt := 1) (by decide) (by decide) (by decide) (fun c_369 hI_370 hF_371 => ?_))
              refine bk_inl ?_
              refine v_iinc (v := v2 + 1) rfl rfl (by decide) rfl ?_
              refine q_goto (t := 6) rfl (by decide) ?_
              refine Wp_ls [(0, .ref A), (1, .ref 1), (2, vi (v2 + 1))] (lsub_cons rfl (lsub_cons rfl (lsub_cons rfl lsub_nil))) ?_
              have kn_372 : Hid (c_5 (A + 7) 4 = c2 (A + 7) 4) := hF_7 (A + 7) 4 (fun h => absurd h.1 (np hA rfl rfl))
              have kn_373 : Hid (c_16 (A + 7) 4 = c2 (A + 7) 4) := (hF_18 (A + 7) 4 (fun h => absurd h.1 (np hA rfl rfl))).trans (hid kn_372)
              have kn_374 : Hid (c_22 (A + 7) 4 = c2 (A + 7) 4) := (hF_24 (A + 7) 4 (fun q => q.elim (fun h => absurd h.1 (np hA rfl rfl)) (fun q => q.elim (fun h => absurd h.1 (np hA rfl rfl)) (fun h => absurd h.1 (np hA rfl rfl))))).trans (hid kn_373)
              have kn_375 : Hid (c_366 (A + 7) 4 = c2 (A + 7) 4) := (hF_368 (A + 7) 4 (fun q => q.elim (fun h => absurd h.1 (np hA rfl rfl)) (fun q => q.elim (fun h => absurd h.1 (np hA rfl rfl)) (fun q => q.elim (fun h => absurd h.1 (np hA rfl rfl)) (fun q => q.elim (fun h => absurd h.1 (pp0 rfl)) (fun q => q.elim (fun h => absurd h.1 (pp0 rfl)) (fun q => q.elim (fun h => absurd h.1 (pp0 rfl)) (fun q => q.elim (fun h => absurd h.1 (pp0 rfl)) (fun q => q.elim (fun h => absurd h (pp rfl)) (fun q => q.elim (fun h => absurd h (pp rfl)) (fun h => absurd h (pp rfl)))))))))))).trans (hid kn_374)
              have kn_376 : Hid (c_369 (A + 7) 4 = c2 (A + 7) 4) := (hF_371 (A + 7) 4 (fun q => q.elim (fun h => absurd h.1 (np hA rfl rfl)) (fun q => q.elim (fun h => absurd h.1 (np hA rfl rfl)) (fun h => absurd h.1 (np hA rfl rfl))))).trans (hid kn_375)
              have h_377 : c_369 (A + 7) 4 = c2 (A + 7) 4 := (hid kn_376)
              have kn_378 : Hid (c_5 A 4 = c2 A 4) := hF_7 A 4 (fun h => absurd h.1 (np0 hA rfl))
              have kn_379 : Hid (c_16 A 4 = c2 A 4) := (hF_18 A 4 (fun h => absurd h.1 (np0 hA rfl))).trans (hid kn_378)
              have kn_380 : Hid (c_22 A 4 = c2 A 4) := (hF_24 A 4 (fun q => q.elim (fun h => absurd h.1 (np0 hA rfl)) (fun q => q.elim (fun h => absurd h.1 (np0 hA rfl)) (fun h => absurd h.1 (np0 hA rfl))))).trans (hid kn_379)
              have kn_381 : Hid (c_366 A 4 = c2 A 4) := (hF_368 A 4 (fun q => q.elim (fun h => absurd h.1 (np0 hA rfl)) (fun q => q.elim (fun h => absurd h.1 (np0 hA rfl)) (fun q => q.elim (fun h => absurd h.1 (np0 hA rfl)) (fun q => q.elim (fun h => absurd h.2 (ni rfl)) (fun q => q.elim (fun h => absurd h.2 (ni rfl)) (fun q => q.elim (fun h => absurd h.2 (ni rfl)) (fun q => q.elim (fun h => absurd h.2 (ni rfl)) (fun q => q.elim (fun h => absurd h (p0p rfl)) (fun q => q.elim (fun h => absurd h (p0p rfl)) (fun h => absurd h (p0p rfl)))))))))))).trans (hid kn_380)
              have kn_382 : Hid (c_369 A 4 = c2 A 4) := (hF_371 A 4 (fun q => q.elim (fun h => absurd h.1 (np0 hA rfl)) (fun q => q.elim (fun h => absurd h.1 (np0 hA rfl)) (fun h => absurd h.1 (np0 hA rfl))))).trans (hid kn_381)
              have h_383 : c_369 A 4 = c2 A 4 := (hid kn_382)
              have kn_384 : Hid (c_5 A 5 = c2 A 5) := hF_7 A 5 (fun h => absurd h.1 (np0 hA rfl))
              have kn_385 : Hid (c_16 A 5 = c2 A 5) := (hF_18 A 5 (fun h => absurd h.1 (np0 hA rfl))).trans (hid kn_384)
              have kn_386 : Hid (c_22 A 5 = c2 A 5) := (hF_24 A 5 (fun q => q.elim (fun h => absurd h.1 (np0 hA rfl)) (fun q => q.elim (fun h => absurd h.1 (np0 hA rfl)) (fun h => absurd h.1 (np0 hA rfl))))).trans (hid kn_385)
              have kn_387 : Hid (c_366 A 5 = c2 A 5) := (hF_368 A 5 (fun q => q.elim (fun h => absurd h.1 (np0 hA rfl)) (fun q => q.elim (fun h => absurd h.1 (np0 hA rfl)) (fun q => q.elim (fun h => absurd h.1 (np0 hA rfl)) (fun q => q.elim (fun h => absurd h.2 (ni rfl)) (fun q => q.elim (fun h => absurd h.2 (ni rfl)) (fun q => q.elim (fun h => absurd h.2 (ni rfl)) (fun q => q.elim (fun h => absurd h.2 (ni rfl)) (fun q => q.elim (fun h => absurd h (p0p rfl)) (fun q => q.elim (fun h => absurd h (p0p rfl)) (fun h => absurd h (p0p rfl)))))))))))).trans (hid kn_386)
              have kn_388 : Hid (c_369 A 5 = c2 A 5) := (hF_371 A 5 (fun q => q.elim (fun h => absurd h.1 (np0 hA rfl)) (fun q => q.elim (fun h => absurd h.1 (np0 hA rfl)) (fun h => absurd h.1 (np0 hA rfl))))).trans (hid kn_387)
              have h_389 : c_369 A 5 = c2 A 5 := (hid kn_388)
              exact ih c_369 (v2 + 1) hI_370 (fun a j hm => (hF_371 a j (fun q => q.elim (fun h => hm (Or.inl h)) (fun q => q.elim (fun h => hm (Or.inr (Or.inl h))) (fun h => hm (Or.inr (Or.inr (Or.inl h))))))).trans ((hF_368 a j (fun q => q.elim (fun h => hm (Or.inl h)) (fun q => q.elim (fun h => hm (Or.inr (Or.inl h))) (fun q => q.elim (fun h => hm (Or.inr (Or.inr (Or.inl h)))) (fun q => q.elim (fun h => hm (Or.inr (Or.inr (Or.inr (Or.inl h))))) (fun q => q.elim (fun h => hm (Or.inr (Or.inr (Or.inr (Or.inr (Or.inl h)))))) (fun q => q.elim (fun h => hm (Or.inr (Or.inr (Or.inr (Or.inr (Or.inr (Or.inl h))))))) (fun q => q.elim (fun h => hm (Or.inr (Or.inr (Or.inr (Or.inr (Or.inr (Or.inr (Or.inl h)))))))) (fun q => q.elim (fun h => hm (Or.inr (Or.inr (Or.inr (Or.inr (Or.inr (Or.inr (Or.inr (Or.inl h))))))))) (fun q => q.elim (fun h => hm (Or.inr (Or.inr (Or.inr (Or.inr (Or.inr (Or.inr (Or.inr (Or.inr (Or.inl h)))))))))) (fun h => hm (Or.inr (Or.inr (Or.inr (Or.inr (Or.inr (Or.inr (Or.inr (Or.inr (Or.inr (Or.inl h))))))))))))))))))))).trans ((hF_24 a j (fun q => q.elim (fun h => hm (Or.inl h)) (fun q => q.elim (fun h => hm (Or.inr (Or.inl h))) (fun h => hm (Or.inr (Or.inr (Or.inl h))))))).trans ((hF_18 a j (fun h => hm (Or.inl h))).trans ((hF_7 a j (fun h => hm (Or.inl h))).trans (hF a j (fun q => q.elim (fun h => hm (Or.inl h)) (fun q => q.elim (fun h => hm (Or.inr (Or.inl h))) (fun q => q.elim (fun h => hm (Or.inr (Or.inr (Or.inl h)))) (fun q => q.elim (fun h => hm (Or.inr (Or.inr (Or.inr (Or.inl h))))) (fun q => q.elim (fun h => hm (Or.inr (Or.inr (Or.inr (Or.inr (Or.inl h)))))) (fun q => q.elim (fun h => hm (Or.inr (Or.inr (Or.inr (Or.inr (Or.inr (Or.inl h))))))) (fun q => q.elim (fun h => hm (Or.inr (Or.inr (Or.inr (Or.inr (Or.inr (Or.inr (Or.inl h)))))))) (fun q => q.elim (fun h => hm (Or.inr (Or.inr (Or.inr (Or.inr (Or.inr (Or.inr (Or.inr (Or.inl h))))))))) (fun q => q.elim (fun h => hm (Or.inr (Or.inr (Or.inr (Or.inr (Or.inr (Or.inr (Or.inr (Or.inr (Or.inl h)))))))))) (fun q => q.elim (fun h => hm (Or.inr (Or.inr (Or.inr (Or.inr (Or.inr (Or.inr (Or.inr (Or.inr (Or.inr (Or.inl h))))))))))) (fun q => q.elim (fun h => hm (Or.inr (Or.inr (Or.inr (Or.inr (Or.inr (Or.inr (Or.inr (Or.inr (Or.inr (Or.inr (Or.inl h)))))))))))) (fun q => q.elim (fun h => hm (Or.inr (Or.inr (Or.inr (Or.inr (Or.inr (Or.inr (Or.inr (Or.inr (Or.inr (Or.inr (Or.inr (Or.inl h))))))))))))) (fun q => q.elim (fun h => hm (Or.inr (Or.inr (Or.inr (Or.inr (Or.inr (Or.inr (Or.inr (Or.inr (Or.inr (Or.inr (Or.inr (Or.inr (Or.inl h)))))))))))))) (fun h => hm (Or.inr (Or.inr (Or.inr (Or.inr (Or.inr (Or.inr (Or.inr (Or.inr (Or.inr (Or.inr (Or.inr (Or.inr (Or.inr h))))))))))))))))))))))))))))))))) ⟨by first | exact rgp_l hv2.1 (by decide) | omega, by omega⟩ (by omega) ⟨by omega, by omega⟩ (by omega)
set_option maxRecDepth 100000 in
set_option maxHeartbeats 4000000 in
theorem s_34x {sc : List Int32} {e : Int} {d u P Q A : Nat} {c : ME} {Z : AR → Prop} (hI : Iv u e P Q c) (hA : A = 13 ∨ A = 25) (K : ∀ (c2 : ME), Iv u e P Q c2 → (∀ (a : Nat) (j : Int), ¬ ((a = 1 ∧ j = 2) ∨ (a = 1 ∧ j = 4) ∨ (a = 1 ∧ j = 5) ∨ (a = A ∧ j = 0) ∨ (a = A ∧ j = 1) ∨ (a = A ∧ j = 2) ∨ (a = A ∧ j = 3) ∨ a = (A + 1) ∨ a = (A + 2) ∨ a = (A + 3) ∨ (a = A ∧ j = 4) ∨ (a = A ∧ j = 5) ∨ a = (A + 6) ∨ (a = (A + 7) ∧ j = 4)) → c2 a j = c a j) → ((c2 (A + 7) 4 = 0)) → ((c2 A 4 = 0 ∧ c2 A 5 = 0)) → Z (.inl (none), Wd P Q P P c2, 0, 0)) : Wp sc (d + 12) 34 0 [(0, .ref A), (1, .ref 1)] [] (Wd P Q P P c) 0 0 Z := by
  have hP := iv_P hI
  have hQ := iv_Q hI
  refine q_aload_n rfl rfl ?_
  refine v_cv rfl rfl rfl (ck_p0 hA) (a68z hA) ⟨⟨rfl, rfl⟩, by decide, rfl⟩ (Nat.le_of_ble_eq_true rfl) (Nat.le_of_ble_eq_true rfl) (s_30 hI hA (fun c_390 hI_391 hF_392 h_393 h_394 => ?_))
  refine bk_inl ?_
  have h_395 := ir_p0_0 hI_391 hA
  have h_396 := ir_p0_1 hI_391 hA
  have h_397 := ir_p0_2 hI_391 hA
  have h_398 := ir_p0_3 hI_391 hA
  have h_399 := ir_p0_4 hI_391 hA
  have h_400 := ir_p0_5 hI_391 hA
  have h_401 := ir_p7_4 hI_391 hA
  refine q_iconst rfl ?_
  refine q_istore_n rfl (by decide) ?_
  refine Wp_ls [(0, .ref A), (1, .ref 1), (2, vi 0)] (lsub_cons rfl (lsub_cons rfl (lsub_cons rfl lsub_nil))) ?_
  exact (s_34x_l (sc := sc) (d := d) hI hA K 126) c_390 0 hI_391 (fun a j hm => hF_392 a j (fun q => q.elim (fun h => hm (Or.inr (Or.inr (Or.inr (Or.inl h))))) (fun q => q.elim (fun h => hm (Or.inr (Or.inr (Or.inr (Or.inr (Or.inl h)))))) (fun q => q.elim (fun h => hm (Or.inr (Or.inr (Or.inr (Or.inr (Or.inr (Or.inl h))))))) (fun q => q.elim (fun h => hm (Or.inr (Or.inr (Or.inr (Or.inr (Or.inr (Or.inr (Or.inl h)))))))) (fun q => q.elim (fun h => hm (Or.inr (Or.inr (Or.inr (Or.inr (Or.inr (Or.inr (Or.inr (Or.inr (Or.inr (Or.inr (Or.inl h)))))))))))) (fun q => q.elim (fun h => hm (Or.inr (Or.inr (Or.inr (Or.inr (Or.inr (Or.inr (Or.inr (Or.inr (Or.inr (Or.inr (Or.inr (Or.inl h))))))))))))) (fun q => q.elim (fun h => hm (Or.inr (Or.inr (Or.inr (Or.inr (Or.inr (Or.inr (Or.inr (Or.inr (Or.inr (Or.inr (Or.inr (Or.inr (Or.inl h)))))))))))))) (fun h => hm (Or.inr (Or.inr (Or.inr (Or.inr (Or.inr (Or.inr (Or.inr (Or.inr (Or.inr (Or.inr (Or.inr (Or.inr (Or.inr h)))))))))))))))))))))) ⟨by decide, by decide⟩ (by omega) ⟨by omega, by omega⟩ (by omega)

set_option maxRecDepth 100000 in
set_option maxHeartbeats 4000000 in
theorem L_8 {sc : List Int32} {e eg : Int} {d dh u ug P Q P2 Q2 : Nat} {c m m9 : ME} {a2 yg e1 a9 f0 : Int} {F H : Int → Int} {Z : AR → Prop} (hI : Iv u e P2 Q2 c) (hJ : Iv ug eg P Q m) (hJ9 : Iv ug eg P Q m9) (ha2 : (-1) ≤ a2 ∧ a2 ≤ 9999) (hyg : 0 ≤ yg ∧ yg ≤ 9999) (hg_e1 : m 1 1 = e1) (hr_e1 : c 41 3 = e1) (hg_a9 : m 1 2 = a9) (hg_f0 : m 1 4 = f0) (hF : ∀ j : Int, m 2 j = F j) (hH : ∀ j : Int, c 43 j = H j) (hU : Ub F H) (hRt : Rt m c) (hG : Wp sc (dh + 14) 8 0 [(0, .ref 1), (1, vi a2)] [] (Wd P Q P P m) 0 0 (fun q => q = (.inl (some (vi yg)), Wd P Q P P m9, 0, 0))) (K : ∀ (c2 : ME) (y : Int), Iv u e P2 Q2 c2 → (∀ (a : Nat) (j : Int), ¬ ((a = 41 ∧ j = 4) ∨ (a = 41 ∧ j = 5) ∨ (a = 41 ∧ j = 6)) → c2 a j = c a j) → 0 ≤ y ∧ y ≤ 9999 → (Rt m9 c2) → ((y = yg)) → ((m9 1 4 < 0) ∨ (m9 1 4 > 0) ∨ (m9 1 2 > a9 ∧ m9 1 2 ≤ e1)) → ((m9 1 4 < 0) ∨ (m9 1 4 > 0) ∨ (f0 = 0)) → ((m9 1 4 < 0) ∨ (m9 1 4 > 0) ∨ (y ≤ a2)) → Z (.inl (some (vi y)), Wd P2 Q2 P2 P2 c2, 0, 0)) : Wp sc (d + 14) 160 0 [(0, .ref 41), (1, vi 0), (2, vi a2)] [] (Wd P2 Q2 P2 P2 c) 0 0 Z := by
  have hP := iv_P hJ
  have hQ := iv_Q hJ
  have h_1 := ir_1_1 hJ
  have h_2 := ir_41_3 hI
  have h_3 := ir_1_2 hJ
  have h_4 := ir_1_4 hJ
  refine gh hG ?_
  by_cases hs9 : m 1 4 = 0
  · skip
    have hs8 := (rt_ok hRt hs9).2.2.2
    have h_5 : -2147483648 ≤ (F a9) ∧ (F a9) ≤ 2147483647 := by rw [← hF a9]; exact ir_2 hJ a9
    have h_6 := nx_bd (b := F) (e := e1) (a := a9)
    have h_7 : -2147483648 ≤ (F (nx F e1 a9)) ∧ (F (nx F e1 a9)) ≤ 2147483647 := by rw [← hF (nx F e1 a9)]; exact ir_2 hJ (nx F e1 a9)
    have h_8 := nx_n (b := F) (e := e1) (a := a9)
    have h_9 := dg_bd (b := F) (e := e1) (a := (nx F e1 a9)) (v := 0) (by decide)
    have h_10 := dg_p (b := F) (e := e1) (a := (nx F e1 a9)) (v := 0) (by decide)
    refine f_8 (a1 := a2) (e1 := e1) (a9 := a9) (f9 := 0) (p9 := (-1)) (B := F) (r8 := (nx F e1 a9)) (D8 := (dg F e1 (nx F e1 a9) 0).1) (V8 := (dg F e1 (nx F e1 a9) 0).2) hJ (show (-1) ≤ a2 ∧ a2 ≤ 9999 from ha2) ((hg_e1)) ((hg_a9)) ((hs9)) ((hs8)) (fun j => hF j) rfl rfl rfl (fun c_11 hI_12 hF_13 h_14 hz_15 hz_16 hz_17 => by exfalso; omega) (fun c_18 hI_19 hF_20 h_21 h_22 hz_23 hz_24 hz_25 => ?_) (fun c_26 hI_27 hF_28 h_29 h_30 h_31 hz_32 hz_33 hz_34 => ?_) (fun c_35 hI_36 hF_37 h_38 h_39 h_40 hz_41 hz_42 hz_43 => ?_)
    · skip
      intro hE_44
      have h_45 : yg = 0 := (vi_inj ⟨by omega, by omega⟩ ⟨by omega, by omega⟩ (Option.some.inj (Sum.inl.inj (Prod.mk.inj hE_44).1))).symm
      have hW : Wd P Q P P c_18 = Wd P Q P P m9 := (Prod.mk.inj (Prod.mk.inj hE_44).2).1
      have h_46 := ir_1_4 hJ9
      have h_47 : m9 1 4 = 1 := wd_fv (z := 4) 4 rfl hW rfl rfl rfl rfl (by decide) (hz_24) ⟨by decide, by decide⟩ ⟨(Int.le_trans (by decide) h_46.1), (Int.le_trans h_46.2 (by decide))⟩
      have h_48 := ir_1_2 hJ9
      have h_49 : m9 1 2 = (nx F e1 a9) := wd_fv (z := 2) 2 rfl hW rfl rfl rfl rfl (by decide) (hz_23) ⟨by first | (clear ha2 h_1 h_2 h_4 h_5 h_7 h_9 h_21 h_45 h_46 h_47 h_48 h_8 h_10 h_22; omega) | omega, by omega⟩ ⟨(Int.le_trans (by decide) h_48.1), (Int.le_trans h_48.2 (by decide))⟩
      have h_50 := ir_1_5 hJ9
      have h_51 : m9 1 5 = (nx F e1 a9) := wd_fv (z := 5) 5 rfl hW rfl rfl rfl rfl (by decide) (hz_25) ⟨by first | (clear ha2 h_1 h_2 h_3 h_4 h_5 h_6 h_7 h_9 h_21 h_45 h_46 h_47 h_50 h_8 h_10 h_22; omega) | omega, by first | (clear ha2 h_1 h_2 h_3 h_4 h_5 h_6 h_7 h_9 h_21 h_45 h_46 h_47 h_50 h_8 h_10 h_22; omega) | omega⟩ ⟨(Int.le_trans (by decide) h_50.1), (Int.le_trans h_50.2 (by decide))⟩
      have h_52 := ir_41_4 hI
      have h_53 := ir_1_5 hJ
      have h_54 := ir_41_5 hI
      have h_55 := ir_41_6 hI
      have h_56 := rt_ok hRt (by omega)
      have hro_hRt := rt_ok hRt (by omega)
      have h_64 : -2147483648 ≤ (H (nx F e1 a9)) ∧ (H (nx F e1 a9)) ≤ 2147483647 := by rw [← hH (nx F e1 a9)]; exact ir_43 hI (nx F e1 a9)
      have h_65 : (nx F e1 a9) < 600 → (H (nx F e1 a9)) = (F (nx F e1 a9)) % 256 ∧ -128 ≤ (F (nx F e1 a9)) ∧ (F (nx F e1 a9)) ≤ 127 := fun q => hU (nx F e1 a9) (by omega) q
      refine f_160 (a1 := 0) (a2 := a2) (e1 := e1) (a9 := a9) (f9 := (-1)) (k9 := c 41 6) (B := H) (r8 := (nx F e1 a9)) (D8 := (dg F e1 (nx F e1 a9) 0).1) (V8 := (dg F e1 (nx F e1 a9) 0).2) hI (show 0 ≤ 0 ∧ 0 ≤ 1 from ⟨by decide, by decide⟩) (show (-1) ≤ a2 ∧ a2 ≤ 9999 from ha2) ((hr_e1)) (((hro_hRt.2.2.1).trans ((hg_a9)))) (hro_hRt.2.1) (rfl) (fun j => hH j) ((nx_tr hU (by first | (clear ha2 h_1 h_2 h_4 h_5 h_6 h_7 h_9 h_21 h_45 h_46 h_47 h_48 h_49 h_50 h_51 h_52 h_53 h_54 h_55 h_56 h_8 h_10 h_22; omega) | omega) (by first | (clear ha2 h_2 h_3 h_4 h_5 h_6 h_7 h_9 h_21 h_45 h_46 h_47 h_48 h_49 h_50 h_51 h_52 h_53 h_54 h_55 h_56 h_8 h_10 h_22; omega) | omega)).trans (rfl)) ((congrArg (fun q : Int × Int => q.1) (dg_tr hU (by omega) (by omega))).trans (rfl)) ((congrArg (fun q : Int × Int => q.2) (dg_tr hU (by omega) (by omega))).trans (rfl)) (fun c_57 hI_58 hF_59 h_60 hz_61 hz_62 hz_63 => by exfalso; first | (clear ha2 h_1 h_2 h_3 h_4 h_5 h_6 h_7 h_9 h_21 h_45 h_46 h_47 h_48 h_49 h_50 h_51 h_52 h_53 h_54 h_55 h_56 h_8 h_10 h_22; omega) | omega) (fun c_66 hI_67 hF_68 h_69 h_70 hz_71 hz_72 hz_73 => ?_) (fun c_74 hI_75 hF_76 h_77 h_78 h_79 hz_80 hz_81 hz_82 => by exfalso; omega) (fun c_83 hI_84 hF_85 h_86 h_87 h_88 h_89 hz_90 hz_91 hz_92 => by exfalso; omega)
      have h_93 : c_66 41 5 = (nx F e1 a9) := (hz_72)
      have h_94 : c_66 41 4 = (nx F e1 a9) := (hz_71)
      have h_95 : c_66 41 6 = 1 := (hz_73)
      exact K c_66 0 hI_67 (fun a j hm => hF_68 a j (fun q => q.elim (fun h => hm (Or.inl h)) (fun q => q.elim (fun h => hm (Or.inr (Or.inl h))) (fun h => hm (Or.inr (Or.inr h)))))) ⟨by omega, by omega⟩ (rt_i2 ⟨⟨by first | (clear ha2 h_1 h_2 h_3 h_4 h_5 h_6 h_7 h_9 h_21 h_45 h_46 h_48 h_49 h_50 h_51 h_52 h_53 h_54 h_55 h_56 h_64 h_69 h_8 h_10 h_22 h_65 h_70; omega) | omega, by first | (clear ha2 h_1 h_2 h_3 h_4 h_5 h_6 h_7 h_9 h_21 h_45 h_46 h_48 h_49 h_50 h_51 h_52 h_53 h_54 h_55 h_56 h_64 h_69 h_8 h_10 h_22 h_65 h_70; omega) | omega⟩, by first | (clear ha2 h_1 h_2 h_3 h_4 h_5 h_6 h_7 h_9 h_21 h_45 h_46 h_47 h_48 h_49 h_50 h_52 h_53 h_54 h_55 h_56 h_64 h_69 h_8 h_10 h_22 h_65 h_70; omega) | omega, by first | (clear ha2 h_1 h_2 h_3 h_4 h_5 h_6 h_7 h_9 h_21 h_45 h_46 h_47 h_50 h_52 h_53 h_54 h_55 h_56 h_64 h_69 h_8 h_10 h_22 h_65 h_70; omega) | omega, by first | (clear ha2 h_1 h_2 h_3 h_4 h_5 h_6 h_7 h_9 h_21 h_45 h_46 h_48 h_49 h_50 h_51 h_52 h_53 h_54 h_55 h_56 h_64 h_69 h_8 h_10 h_22 h_65 h_70; omega) | omega⟩) (by first | (clear ha2 h_1 h_2 h_3 h_4 h_5 h_6 h_7 h_9 h_21 h_46 h_47 h_48 h_49 h_50 h_51 h_52 h_53 h_54 h_55 h_56 h_64 h_69 h_8 h_10 h_22 h_65 h_70; omega) | omega) (Or.inr (Or.inl (by first | (clear ha2 h_1 h_2 h_3 h_4 h_5 h_6 h_7 h_9 h_21 h_45 h_46 h_48 h_49 h_50 h_51 h_52 h_53 h_54 h_55 h_56 h_64 h_69 h_8 h_10 h_22 h_65 h_70; omega) | omega))) (Or.inr (Or.inl (by first | (clear ha2 h_1 h_2 h_3 h_4 h_5 h_6 h_7 h_9 h_21 h_45 h_46 h_48 h_49 h_50 h_51 h_52 h_53 h_54 h_55 h_56 h_64 h_69 h_8 h_10 h_22 h_65 h_70; omega) | omega))) (Or.inr (Or.inl (by first | (clear ha2 h_1 h_2 h_3 h_4 h_5 h_6 h_7 h_9 h_21 h_45 h_46 h_48 h_49 h_50 h_51 h_52 h_53 h_54 h_55 h_56 h_64 h_69 h_8 h_10 h_22 h_65 h_70; omega) | omega)))
    · skip
      intro hE_96
      have h_97 : yg = 0 := (vi_inj ⟨by omega, by omega⟩ ⟨by omega, by omega⟩ (Option.some.inj (Sum.inl.inj (Prod.mk.inj hE_96).1))).symm
      have hW : Wd P Q P P c_26 = Wd P Q P P m9 := (Prod.mk.inj (Prod.mk.inj hE_96).2).1
      have h_98 := ir_1_4 hJ9
      have h_99 : m9 1 4 = 2 := wd_fv (z := 4) 4 rfl hW rfl rfl rfl rfl (by decide) (hz_33) ⟨by decide, by decide⟩ ⟨(Int.le_trans (by decide) h_98.1), (Int.le_trans h_98.2 (by decide))⟩
      have h_100 := ir_1_2 hJ9
      have h_101 : m9 1 2 = (dg F e1 (nx F e1 a9) 0).1 := wd_fv (z := 2) 2 rfl hW rfl rfl rfl rfl (by decide) (hz_32) ⟨by first | (clear ha2 h_1 h_2 h_4 h_5 h_7 h_29 h_30 h_31 h_97 h_98 h_99 h_100 h_8 h_10; omega) | omega, by omega⟩ ⟨(Int.le_trans (by decide) h_100.1), (Int.le_trans h_100.2 (by decide))⟩
      have h_102 := ir_1_5 hJ9
      have h_103 : m9 1 5 = (nx F e1 a9) := wd_fv (z := 5) 5 rfl hW rfl rfl rfl rfl (by decide) (hz_34) ⟨by first | (clear ha2 h_1 h_2 h_4 h_5 h_7 h_9 h_29 h_30 h_31 h_97 h_98 h_99 h_100 h_101 h_102 h_8 h_10; omega) | omega, by first | (clear ha2 h_2 h_3 h_4 h_5 h_6 h_7 h_9 h_29 h_31 h_97 h_98 h_99 h_100 h_101 h_102 h_8 h_10; omega) | omega⟩ ⟨(Int.le_trans (by decide) h_102.1), (Int.le_trans h_102.2 (by decide))⟩
      have h_104 := ir_41_4 hI
      have h_105 := ir_1_5 hJ
      have h_106 := ir_41_5 hI
      have h_107 := ir_41_6 hI
      have h_108 := rt_ok hRt (by omega)
      have hro_hRt := rt_ok hRt (by omega)
      have h_116 : -2147483648 ≤ (H (nx F e1 a9)) ∧ (H (nx F e1 a9)) ≤ 2147483647 := by rw [← hH (nx F e1 a9)]; exact ir_43 hI (nx F e1 a9)
      have h_117 := hU (nx F e1 a9) (by omega) (by omega)
      refine f_160 (a1 := 0) (a2 := a2) (e1 := e1) (a9 := a9) (f9 := (-1)) (k9 := c 41 6) (B := H) (r8 := (nx F e1 a9)) (D8 := (dg F e1 (nx F e1 a9) 0).1) (V8 := (dg F e1 (nx F e1 a9) 0).2) hI (show 0 ≤ 0 ∧ 0 ≤ 1 from ⟨by decide, by decide⟩) (show (-1) ≤ a2 ∧ a2 ≤ 9999 from ha2) ((hr_e1)) (((hro_hRt.2.2.1).trans ((hg_a9)))) (hro_hRt.2.1) (rfl) (fun j => hH j) ((nx_tr hU (by first | (clear ha2 h_1 h_2 h_4 h_5 h_6 h_7 h_9 h_29 h_30 h_31 h_97 h_98 h_99 h_100 h_101 h_102 h_103 h_104 h_105 h_106 h_107 h_108 h_8 h_10; omega) | omega) (by first | (clear ha2 h_2 h_3 h_4 h_5 h_6 h_7 h_9 h_29 h_30 h_31 h_97 h_98 h_99 h_100 h_101 h_102 h_103 h_104 h_105 h_106 h_107 h_108 h_8 h_10; omega) | omega)).trans (rfl)) ((congrArg (fun q : Int × Int => q.1) (dg_tr hU (by omega) (by omega))).trans (rfl)) ((congrArg (fun q : Int × Int => q.2) (dg_tr hU (by omega) (by omega))).trans (rfl)) (fun c_109 hI_110 hF_111 h_112 hz_113 hz_114 hz_115 => by exfalso; first | (clear ha2 h_1 h_2 h_3 h_4 h_5 h_6 h_7 h_9 h_29 h_30 h_31 h_97 h_98 h_99 h_100 h_101 h_102 h_103 h_104 h_105 h_106 h_107 h_108 h_8 h_10; omega) | omega) (fun c_118 hI_119 hF_120 h_121 h_122 hz_123 hz_124 hz_125 => by exfalso; omega) (fun c_126 hI_127 hF_128 h_129 h_130 h_131 hz_132 hz_133 hz_134 => ?_) (fun c_135 hI_136 hF_137 h_138 h_139 h_140 h_141 hz_142 hz_143 hz_144 => by exfalso; first | (clear ha2 h_1 h_2 h_3 h_4 h_5 h_6 h_7 h_9 h_29 h_30 h_97 h_98 h_99 h_100 h_101 h_102 h_103 h_104 h_105 h_106 h_107 h_108 h_116 h_117 h_8 h_10; omega) | omega)
      have h_145 : c_126 41 5 = (nx F e1 a9) := (hz_133)
      have h_146 : c_126 41 4 = (dg F e1 (nx F e1 a9) 0).1 := (hz_132)
      have h_147 : c_126 41 6 = 2 := (hz_134)
      exact K c_126 0 hI_127 (fun a j hm => hF_128 a j (fun q => q.elim (fun h => hm (Or.inl h)) (fun q => q.elim (fun h => hm (Or.inr (Or.inl h))) (fun h => hm (Or.inr (Or.inr h)))))) ⟨by omega, by omega⟩ (rt_i2 ⟨⟨by first | (clear ha2 h_1 h_2 h_3 h_4 h_5 h_6 h_7 h_9 h_29 h_30 h_31 h_97 h_98 h_100 h_101 h_102 h_103 h_104 h_105 h_106 h_107 h_108 h_116 h_117 h_129 h_130 h_8 h_10 h_131; omega) | omega, by first | (clear ha2 h_1 h_2 h_3 h_4 h_5 h_6 h_7 h_9 h_29 h_30 h_31 h_97 h_98 h_100 h_101 h_102 h_103 h_104 h_105 h_106 h_107 h_108 h_116 h_117 h_129 h_130 h_8 h_10 h_131; omega) | omega⟩, by first | (clear ha2 h_1 h_2 h_3 h_4 h_5 h_6 h_7 h_9 h_29 h_30 h_31 h_97 h_98 h_99 h_100 h_101 h_102 h_104 h_105 h_106 h_107 h_108 h_116 h_117 h_129 h_130 h_8 h_10 h_131; omega) | omega, by first | (clear ha2 h_1 h_2 h_4 h_5 h_7 h_9 h_29 h_30 h_31 h_97 h_98 h_99 h_100 h_101 h_102 h_104 h_105 h_106 h_107 h_108 h_116 h_117 h_129 h_130 h_8 h_10 h_131; omega) | omega, by first | (clear ha2 h_1 h_2 h_3 h_4 h_5 h_6 h_7 h_9 h_29 h_30 h_31 h_97 h_98 h_100 h_101 h_102 h_103 h_104 h_105 h_106 h_107 h_108 h_116 h_117 h_129 h_130 h_8 h_10 h_131; omega) | omega⟩) (by first | (clear ha2 h_1 h_2 h_3 h_4 h_5 h_6 h_7 h_9 h_29 h_30 h_31 h_98 h_99 h_100 h_101 h_102 h_103 h_104 h_105 h_106 h_107 h_108 h_116 h_117 h_129 h_130 h_8 h_10 h_131; omega) | omega) (Or.inr (Or.inl (by first | (clear ha2 h_1 h_2 h_3 h_4 h_5 h_6 h_7 h_9 h_29 h_30 h_31 h_97 h_98 h_100 h_101 h_102 h_103 h_104 h_105 h_106 h_107 h_108 h_116 h_117 h_129 h_130 h_8 h_10 h_131; omega) | omega))) (Or.inr (Or.inl (by first | (clear ha2 h_1 h_2 h_3 h_4 h_5 h_6 h_7 h_9 h_29 h_30 h_31 h_97 h_98 h_100 h_101 h_102 h_103 h_104 h_105 h_106 h_107 h_108 h_116 h_117 h_129 h_130 h_8 h_10 h_131; omega) | omega))) (Or.inr (Or.inl (by first | (clear ha2 h_1 h_2 h_3 h_4 h_5 h_6 h_7 h_9 h_29 h_30 h_31 h_97 h_98 h_100 h_101 h_102 h_103 h_104 h_105 h_106 h_107 h_108 h_116 h_117 h_129 h_130 h_8 h_10 h_131; omega) | omega)))
    · skip
      intro hE_148
      have h_149 : yg = (dg F e1 (nx F e1 a9) 0).2 := (vi_inj ⟨by omega, by omega⟩ ⟨by omega, by omega⟩ (Option.some.inj (Sum.inl.inj (Prod.mk.inj hE_148).1))).symm
      have hW : Wd P Q P P c_35 = Wd P Q P P m9 := (Prod.mk.inj (Prod.mk.inj hE_148).2).1
      have h_150 := ir_1_4 hJ9
      have h_151 : m9 1 4 = 0 := wd_fv (z := 4) 4 rfl hW rfl rfl rfl rfl (by decide) (hz_42) ⟨by decide, by decide⟩ ⟨(Int.le_trans (by decide) h_150.1), (Int.le_trans h_150.2 (by decide))⟩
      have h_152 := ir_1_2 hJ9
      have h_153 : m9 1 2 = (dg F e1 (nx F e1 a9) 0).1 := wd_fv (z := 2) 2 rfl hW rfl rfl rfl rfl (by decide) (hz_41) ⟨by first | (clear ha2 h_1 h_2 h_4 h_5 h_7 h_38 h_39 h_40 h_149 h_150 h_151 h_152 h_8 h_10; omega) | omega, by omega⟩ ⟨(Int.le_trans (by decide) h_152.1), (Int.le_trans h_152.2 (by decide))⟩
      have h_154 := ir_1_5 hJ9
      have h_155 : m9 1 5 = (-1) := wd_fv (z := 5) 5 rfl hW rfl rfl rfl rfl (by decide) (hz_43) ⟨by decide, by decide⟩ ⟨(Int.le_trans (by decide) h_154.1), (Int.le_trans h_154.2 (by decide))⟩
      have h_156 := ir_41_4 hI
      have h_157 := ir_1_5 hJ
      have h_158 := ir_41_5 hI
      have h_159 := ir_41_6 hI
      have h_160 := rt_ok hRt (by omega)
      have hro_hRt := rt_ok hRt (by omega)
      have h_168 : -2147483648 ≤ (H (nx F e1 a9)) ∧ (H (nx F e1 a9)) ≤ 2147483647 := by rw [← hH (nx F e1 a9)]; exact ir_43 hI (nx F e1 a9)
      have h_169 := hU (nx F e1 a9) (by omega) (by omega)
      refine f_160 (a1 := 0) (a2 := a2) (e1 := e1) (a9 := a9) (f9 := (-1)) (k9 := c 41 6) (B := H) (r8 := (nx F e1 a9)) (D8 := (dg F e1 (nx F e1 a9) 0).1) (V8 := (dg F e1 (nx F e1 a9) 0).2) hI (show 0 ≤ 0 ∧ 0 ≤ 1 from ⟨by decide, by decide⟩) (show (-1) ≤ a2 ∧ a2 ≤ 9999 from ha2) ((hr_e1)) (((hro_hRt.2.2.1).trans ((hg_a9)))) (hro_hRt.2.1) (rfl) (fun j => hH j) ((nx_tr hU (by first | (clear ha2 h_1 h_2 h_4 h_5 h_6 h_7 h_9 h_38 h_39 h_40 h_149 h_150 h_151 h_152 h_153 h_154 h_155 h_156 h_157 h_158 h_159 h_160 h_8 h_10; omega) | omega) (by first | (clear ha2 h_1 h_3 h_4 h_5 h_6 h_7 h_9 h_38 h_39 h_40 h_149 h_150 h_151 h_152 h_153 h_154 h_155 h_156 h_157 h_158 h_159 h_160 h_8 h_10; omega) | omega)).trans (rfl)) ((congrArg (fun q : Int × Int => q.1) (dg_tr hU (by omega) (by omega))).trans (rfl)) ((congrArg (fun q : Int × Int => q.2) (dg_tr hU (by omega) (by omega))).trans (rfl)) (fun c_161 hI_162 hF_163 h_164 hz_165 hz_166 hz_167 => by exfalso; first | (clear ha2 h_1 h_2 h_3 h_4 h_5 h_6 h_7 h_9 h_38 h_39 h_40 h_149 h_150 h_151 h_152 h_153 h_154 h_155 h_156 h_157 h_158 h_159 h_160 h_8 h_10; omega) | omega) (fun c_170 hI_171 hF_172 h_173 h_174 hz_175 hz_176 hz_177 => by exfalso; omega) (fun c_178 hI_179 hF_180 h_181 h_182 h_183 hz_184 hz_185 hz_186 => by exfalso; omega) (fun c_187 hI_188 hF_189 h_190 h_191 h_192 h_193 hz_194 hz_195 hz_196 => ?_)
      have h_197 : c_187 41 5 = (-1) := (hz_195)
      have h_198 : c_187 41 4 = (dg F e1 (nx F e1 a9) 0).1 := (hz_194)
      have h_199 : c_187 41 6 = c 41 6 := (hz_196)
      exact K c_187 ((dg F e1 (nx F e1 a9) 0).2) hI_188 (fun a j hm => hF_189 a j (fun q => q.elim (fun h => hm (Or.inl h)) (fun q => q.elim (fun h => hm (Or.inr (Or.inl h))) (fun h => hm (Or.inr (Or.inr h)))))) ⟨by omega, by omega⟩ (rt_i1 ⟨by first | (clear ha2 h_1 h_2 h_3 h_4 h_5 h_6 h_7 h_9 h_38 h_39 h_40 h_149 h_152 h_153 h_154 h_155 h_156 h_157 h_158 h_159 h_160 h_168 h_169 h_190 h_191 h_192 h_193 h_8 h_10; omega) | omega, by first | (clear ha2 h_1 h_2 h_3 h_4 h_5 h_6 h_7 h_9 h_38 h_39 h_40 h_149 h_150 h_151 h_152 h_153 h_154 h_155 h_156 h_157 h_158 h_159 h_160 h_168 h_169 h_190 h_191 h_192 h_193 h_8 h_10; omega) | omega, by first | (clear ha2 h_1 h_2 h_3 h_4 h_5 h_6 h_7 h_9 h_38 h_39 h_40 h_149 h_150 h_151 h_152 h_154 h_155 h_156 h_157 h_158 h_159 h_160 h_168 h_169 h_190 h_191 h_192 h_193 h_8 h_10; omega) | omega, by first | (clear ha2 h_1 h_2 h_3 h_4 h_5 h_6 h_7 h_9 h_38 h_39 h_40 h_149 h_150 h_151 h_152 h_153 h_156 h_157 h_158 h_159 h_160 h_168 h_169 h_190 h_191 h_192 h_193 h_8 h_10; omega) | omega⟩) (by first | (clear ha2 h_1 h_2 h_3 h_4 h_5 h_6 h_7 h_9 h_38 h_39 h_40 h_150 h_151 h_152 h_153 h_154 h_155 h_156 h_157 h_158 h_159 h_160 h_168 h_169 h_190 h_191 h_192 h_193 h_8 h_10; omega) | omega) (Or.inr (Or.inr ⟨by first | (clear ha2 h_4 h_5 h_7 h_38 h_40 h_149 h_150 h_151 h_154 h_155 h_156 h_157 h_158 h_159 h_168 h_169 h_190 h_192 h_193; omega) | omega, by first | (clear ha2 h_3 h_4 h_5 h_7 h_38 h_40 h_149 h_150 h_151 h_154 h_155 h_156 h_157 h_158 h_159 h_160 h_168 h_169 h_190 h_192 h_193; omega) | omega⟩)) (Or.inr (Or.inr (by first | (clear ha2 h_1 h_2 h_3 h_5 h_6 h_7 h_9 h_38 h_39 h_40 h_149 h_150 h_151 h_152 h_153 h_154 h_155 h_156 h_157 h_158 h_159 h_160 h_168 h_169 h_190 h_191 h_192 h_193 h_8 h_10; omega) | omega))) (Or.inr (Or.inr (by first | (clear ha2 h_1 h_2 h_3 h_4 h_5 h_6 h_7 h_9 h_38 h_39 h_149 h_150 h_151 h_152 h_153 h_154 h_155 h_156 h_157 h_158 h_159 h_160 h_168 h_169 h_190 h_191 h_192 h_193 h_8 h_10; omega) | omega)))
  · skip
    have h_200 := ir_1_5 hJ
    have h_201 : -2147483648 ≤ (F a9) ∧ (F a9) ≤ 2147483647 := by rw [← hF a9]; exact ir_2 hJ a9
    have h_202 := nx_bd (b := F) (e := e1) (a := a9)
    have h_203 : -2147483648 ≤ (F (nx F e1 a9)) ∧ (F (nx F e1 a9)) ≤ 2147483647 := by rw [← hF (nx F e1 a9)]; exact ir_2 hJ (nx F e1 a9)
    have h_204 := nx_n (b := F) (e := e1) (a := a9)
    have h_205 := dg_bd (b := F) (e := e1) (a := (nx F e1 a9)) (v := 0) (by decide)
    have h_206 := dg_p (b := F) (e := e1) (a := (nx F e1 a9)) (v := 0) (by decide)
    refine f_8 (a1 := a2) (e1 := e1) (a9 := a9) (f9 := f0) (p9 := m 1 5) (B := F) (r8 := (nx F e1 a9)) (D8 := (dg F e1 (nx F e1 a9) 0).1) (V8 := (dg F e1 (nx F e1 a9) 0).2) hJ (show (-1) ≤ a2 ∧ a2 ≤ 9999 from ha2) ((hg_e1)) ((hg_a9)) ((hg_f0)) (rfl) (fun j => hF j) rfl rfl rfl (fun c_207 hI_208 hF_209 h_210 hz_211 hz_212 hz_213 => ?_) (fun c_214 hI_215 hF_216 h_217 h_218 hz_219 hz_220 hz_221 => by exfalso; omega) (fun c_222 hI_223 hF_224 h_225 h_226 h_227 hz_228 hz_229 hz_230 => by exfalso; omega) (fun c_231 hI_232 hF_233 h_234 h_235 h_236 hz_237 hz_238 hz_239 => by exfalso; omega)
    intro hE_240
    have h_241 : yg = 0 := (vi_inj ⟨by omega, by omega⟩ ⟨by omega, by omega⟩ (Option.some.inj (Sum.inl.inj (Prod.mk.inj hE_240).1))).symm
    have hW : Wd P Q P P c_207 = Wd P Q P P m9 := (Prod.mk.inj (Prod.mk.inj hE_240).2).1
    have h_242 := ir_1_4 hJ9
    have h_243 : m9 1 4 = f0 := wd_fv (z := 4) 4 rfl hW rfl rfl rfl rfl (by decide) (hz_212) ⟨(Int.le_trans (by decide) (rg_eq hg_f0 h_4).1), (Int.le_trans (rg_eq hg_f0 h_4).2 (by decide))⟩ ⟨(Int.le_trans (by decide) h_242.1), (Int.le_trans h_242.2 (by decide))⟩
    have h_244 := ir_1_2 hJ9
    have h_245 : m9 1 2 = a9 := wd_fv (z := 2) 2 rfl hW rfl rfl rfl rfl (by decide) (hz_211) ⟨(Int.le_trans (by decide) (rg_eq hg_a9 h_3).1), (Int.le_trans (rg_eq hg_a9 h_3).2 (by decide))⟩ ⟨(Int.le_trans (by decide) h_244.1), (Int.le_trans h_244.2 (by decide))⟩
    have h_246 := ir_1_5 hJ9
    have h_247 : m9 1 5 = m 1 5 := wd_fv (z := 5) 5 rfl hW rfl rfl rfl rfl (by decide) (hz_213) ⟨(Int.le_trans (by decide) h_200.1), (Int.le_trans h_200.2 (by decide))⟩ ⟨(Int.le_trans (by decide) h_246.1), (Int.le_trans h_246.2 (by decide))⟩
    have h_248 := ir_41_4 hI
    have h_249 := ir_41_5 hI
    have h_250 := ir_41_6 hI
    have h_251 := rt_bad hRt (by omega)
    have hrb_hRt := rt_bad hRt (by omega)
    have h_252 : -2147483648 ≤ (F (c 41 4)) ∧ (F (c 41 4)) ≤ 2147483647 := by rw [← hF (c 41 4)]; exact ir_2 hJ (c 41 4)
    have h_253 := nx_bd (b := F) (e := e1) (a := c 41 4)
    have h_254 : -2147483648 ≤ (F (nx F e1 (c 41 4))) ∧ (F (nx F e1 (c 41 4))) ≤ 2147483647 := by rw [← hF (nx F e1 (c 41 4))]; exact ir_2 hJ (nx F e1 (c 41 4))
    have h_255 := nx_n (b := F) (e := e1) (a := c 41 4)
    have h_256 := dg_bd (b := F) (e := e1) (a := (nx F e1 (c 41 4))) (v := 0) (by decide)
    have h_257 := dg_p (b := F) (e := e1) (a := (nx F e1 (c 41 4))) (v := 0) (by decide)
    have h_265 : -2147483648 ≤ (H (nx F e1 (c 41 4))) ∧ (H (nx F e1 (c 41 4))) ≤ 2147483647 := by rw [← hH (nx F e1 (c 41 4))]; exact ir_43 hI (nx F e1 (c 41 4))
    have h_266 : (nx F e1 (c 41 4)) < 600 → (H (nx F e1 (c 41 4))) = (F (nx F e1 (c 41 4))) % 256 ∧ -128 ≤ (F (nx F e1 (c 41 4))) ∧ (F (nx F e1 (c 41 4))) ≤ 127 := fun q => hU (nx F e1 (c 41 4)) (by omega) q
    refine f_160 (a1 := 0) (a2 := a2) (e1 := e1) (a9 := c 41 4) (f9 := m 1 5) (k9 := f0) (B := H) (r8 := (nx F e1 (c 41 4))) (D8 := (dg F e1 (nx F e1 (c 41 4)) 0).1) (V8 := (dg F e1 (nx F e1 (c 41 4)) 0).2) hI (show 0 ≤ 0 ∧ 0 ≤ 1 from ⟨by decide, by decide⟩) (show (-1) ≤ a2 ∧ a2 ≤ 9999 from ha2) ((hr_e1)) (rfl) (hrb_hRt.2.1) (((hrb_hRt.2.2.2).trans ((hg_f0)))) (fun j => hH j) ((nx_tr hU (by first | (clear ha2 h_1 h_2 h_3 h_4 h_200 h_201 h_202 h_203 h_205 h_241 h_242 h_243 h_244 h_245 h_246 h_247 h_249 h_250 h_251 h_252 h_253 h_254 h_204 h_206 h_210 h_255; omega) | omega) (by first | (clear ha2 h_2 h_3 h_4 h_200 h_201 h_202 h_203 h_205 h_241 h_242 h_243 h_244 h_245 h_246 h_247 h_248 h_249 h_250 h_251 h_252 h_253 h_254 h_204 h_206 h_210 h_255; omega) | omega)).trans (rfl)) ((congrArg (fun q : Int × Int => q.1) (dg_tr hU (by omega) (by omega))).trans (rfl)) ((congrArg (fun q : Int × Int => q.2) (dg_tr hU (by omega) (by omega))).trans (rfl)) (fun c_258 hI_259 hF_260 h_261 hz_262 hz_263 hz_264 => ?_) (fun c_267 hI_268 hF_269 h_270 h_271 hz_272 hz_273 hz_274 => by exfalso; first | (clear ha2 h_1 h_2 h_3 h_4 h_200 h_201 h_202 h_203 h_205 h_241 h_242 h_243 h_244 h_245 h_246 h_247 h_248 h_249 h_250 h_252 h_253 h_254 h_256 h_265 h_204 h_206 h_210 h_255 h_257 h_266; omega) | omega) (fun c_275 hI_276 hF_277 h_278 h_279 h_280 hz_281 hz_282 hz_283 => by exfalso; first | (clear ha2 h_1 h_2 h_3 h_4 h_200 h_201 h_202 h_203 h_205 h_241 h_242 h_243 h_244 h_245 h_246 h_247 h_248 h_249 h_250 h_252 h_253 h_254 h_256 h_265 h_204 h_206 h_210 h_255 h_257 h_266; omega) | omega) (fun c_284 hI_285 hF_286 h_287 h_288 h_289 h_290 hz_291 hz_292 hz_293 => by exfalso; first | (clear ha2 h_1 h_2 h_3 h_4 h_200 h_201 h_202 h_203 h_205 h_241 h_242 h_243 h_244 h_245 h_246 h_247 h_248 h_249 h_250 h_252 h_253 h_254 h_256 h_265 h_204 h_206 h_210 h_255 h_257 h_266; omega) | omega)
    have h_294 : c_258 41 5 = m 1 5 := (hz_263)
    have h_295 : c_258 41 4 = c 41 4 := (hz_262)
    have h_296 : c_258 41 6 = f0 := (hz_264)
    exact K c_258 0 hI_259 (fun a j hm => hF_260 a j (fun q => q.elim (fun h => hm (Or.inl h)) (fun q => q.elim (fun h => hm (Or.inr (Or.inl h))) (fun h => hm (Or.inr (Or.inr h)))))) ⟨by omega, by omega⟩ (rt_i2 ⟨⟨by first | (clear ha2 h_1 h_2 h_3 h_200 h_201 h_202 h_203 h_205 h_241 h_242 h_244 h_245 h_246 h_247 h_248 h_249 h_250 h_252 h_253 h_254 h_256 h_265 h_204 h_206 h_210 h_255 h_257 h_266 h_261; omega) | omega, by first | (clear ha2 h_1 h_2 h_3 h_4 h_200 h_201 h_202 h_203 h_205 h_241 h_243 h_244 h_245 h_246 h_247 h_248 h_249 h_250 h_251 h_252 h_253 h_254 h_256 h_265 h_204 h_206 h_210 h_255 h_257 h_266 h_261; omega) | omega⟩, by first | (clear ha2 h_1 h_2 h_3 h_4 h_200 h_201 h_202 h_203 h_205 h_241 h_242 h_243 h_244 h_245 h_246 h_248 h_249 h_250 h_251 h_252 h_253 h_254 h_256 h_265 h_204 h_206 h_210 h_255 h_257 h_266 h_261; omega) | omega, by first | (clear ha2 h_1 h_2 h_3 h_4 h_200 h_201 h_202 h_203 h_205 h_241 h_242 h_243 h_244 h_245 h_246 h_248 h_249 h_250 h_252 h_253 h_254 h_256 h_265 h_204 h_206 h_210 h_255 h_257 h_266 h_261; omega) | omega, by first | (clear ha2 h_1 h_2 h_3 h_4 h_200 h_201 h_202 h_203 h_205 h_241 h_242 h_244 h_245 h_246 h_247 h_248 h_249 h_250 h_251 h_252 h_253 h_254 h_256 h_265 h_204 h_206 h_210 h_255 h_257 h_266 h_261; omega) | omega⟩) (by first | (clear ha2 h_1 h_2 h_3 h_4 h_200 h_201 h_202 h_203 h_205 h_242 h_243 h_244 h_245 h_246 h_247 h_248 h_249 h_250 h_251 h_252 h_253 h_254 h_256 h_265 h_204 h_206 h_210 h_255 h_257 h_266 h_261; omega) | omega) (Or.inr (Or.inl (by first | (clear ha2 h_1 h_2 h_3 h_200 h_201 h_202 h_203 h_205 h_241 h_242 h_244 h_245 h_246 h_247 h_248 h_249 h_250 h_252 h_253 h_254 h_256 h_265 h_204 h_206 h_210 h_255 h_257 h_266 h_261; omega) | omega))) (Or.inr (Or.inl (by first | (clear ha2 h_1 h_2 h_3 h_200 h_201 h_202 h_203 h_205 h_241 h_242 h_244 h_245 h_246 h_247 h_248 h_249 h_250 h_252 h_253 h_254 h_256 h_265 h_204 h_206 h_210 h_255 h_257 h_266 h_261; omega) | omega))) (Or.inr (Or.inl (by first | (clear ha2 h_1 h_2 h_3 h_200 h_201 h_202 h_203 h_205 h_241 h_242 h_244 h_245 h_246 h_247 h_248 h_249 h_250 h_252 h_253 h_254 h_256 h_265 h_204 h_206 h_210 h_255 h_257 h_266 h_261; omega) | omega)))

set_option maxRecDepth 100000 in
set_option maxHeartbeats 4000000 in
theorem L_11_9 {sc : List Int32} {e eg : Int} {d dh u ug P Q P2 Q2 : Nat} {c m m9 : ME} {e1 a9 f0 : Int} {F H : Int → Int} {Z : AR → Prop} (hI : Iv u e P2 Q2 c) (hJ : Iv ug eg P Q m) (hJ9 : Iv ug eg P Q m9) (hg_e1 : m 1 1 = e1) (hr_e1 : c 41 3 = e1) (hg_a9 : m 1 2 = a9) (hg_f0 : m 1 4 = f0) (hF : ∀ j : Int, m 2 j = F j) (hH : ∀ j : Int, c 43 j = H j) (hU : Ub F H) (hRt : Rt m c) (hG : Wp sc (dh + 14) 11 0 [(0, .ref 1), (1, .ref (a_SB + 9))] [] (Wd P Q P P m) 0 0 (fun q => q = (.inl (none), Wd P Q P P m9, 0, 0))) (K : ∀ (c2 : ME), Iv u e P2 Q2 c2 → (∀ (a : Nat) (j : Int), ¬ ((a = 41 ∧ j = 4) ∨ (a = 41 ∧ j = 5) ∨ (a = 41 ∧ j = 6)) → c2 a j = c a j) → (Rt m9 c2) → ((m9 1 4 < 0) ∨ (m9 1 4 > 0) ∨ (m9 1 2 > a9 ∧ m9 1 2 ≤ e1)) → ((m9 1 4 < 0) ∨ (m9 1 4 > 0) ∨ (f0 = 0)) → Z (.inl (none), Wd P2 Q2 P2 P2 c2, 0, 0)) : Wp sc (d + 14) 161 0 [(0, .ref 41), (1, vi 59)] [] (Wd P2 Q2 P2 P2 c) 0 0 Z := by
  have hP := iv_P hJ
  have hQ := iv_Q hJ
  have h_1 := ir_1_1 hJ
  have h_2 := ir_41_3 hI
  have h_3 := ir_1_2 hJ
  have h_4 := ir_1_4 hJ
  refine gh hG ?_
  by_cases hs9 : m 1 4 = 0
  · skip
    have hs8 := (rt_ok hRt hs9).2.2.2
    refine q_aload_n rfl rfl ?_
    refine v_cv rfl rfl rfl rfl (by decide) ⟨⟨rfl, rfl⟩, by decide, rfl⟩ (Nat.le_of_ble_eq_true rfl) (Nat.le_of_ble_eq_true rfl) ?_
    refine q_aload_n rfl rfl ?_
    refine v_gi (z := 4) (v := 0) rfl rfl rfl (by decide) rfl rfl (hs9) ?_
    refine v_if_ne_f (t := 11) rfl (by decide) (by decide) ?_
    refine q_iconst rfl ?_
    refine q_goto (t := 12) rfl (by decide) ?_
    refine v_zret rfl rfl (by decide) ?_
    refine bk_inl ?_
    refine v_if_eq_f (t := 25) rfl (by decide) (by decide) ?_
    refine q_aload_n rfl rfl ?_
    refine q_aload_n rfl rfl ?_
    refine v_cv rfl rfl rfl rfl (by decide) ⟨⟨rfl, rfl⟩, by decide, rfl⟩ (Nat.le_of_ble_eq_true rfl) (Nat.le_of_ble_eq_true rfl) ?_
    refine q_aload_n rfl rfl ?_
    have h_5 : -2147483648 ≤ (F a9) ∧ (F a9) ≤ 2147483647 := by rw [← hF a9]; exact ir_2 hJ a9
    have h_6 := nx_bd (b := F) (e := e1) (a := a9)
    have h_7 : -2147483648 ≤ (F (nx F e1 a9)) ∧ (F (nx F e1 a9)) ≤ 2147483647 := by rw [← hF (nx F e1 a9)]; exact ir_2 hJ (nx F e1 a9)
    have h_8 := nx_n (b := F) (e := e1) (a := a9)
    refine v_cv rfl rfl rfl rfl (by decide) ⟨⟨rfl, rfl⟩, by decide, rfl⟩ (Nat.le_of_ble_eq_true rfl) (Nat.le_of_ble_eq_true rfl) (f_3 (e1 := e1) (a9 := a9) (B := F) (r8 := (nx F e1 a9)) hJ ((hg_e1)) ((hg_a9)) (fun j => hF j) rfl (fun c_9 hI_10 hF_11 hz_12 => ?_))
    refine bk_inl ?_
    refine q_istore_n rfl (by decide) ?_
    refine q_iconst rfl ?_
    refine q_istore_n rfl (by decide) ?_
    refine q_iload_n rfl rfl ?_
    refine q_aload_n rfl rfl ?_
    refine v_sln 1 rfl rfl (by omega) (Nat.le_of_ble_eq_true rfl) (by decide) (by decide) ?_
    refine v_ic_ge_f (t := 55) rfl (by decide) (by decide) ?_
    refine q_iload_n rfl rfl ?_
    refine q_aload_n rfl rfl ?_
    have kn_13 : Hid (c_9 1 1 = e1) := (hF_11 1 1 (fun h => absurd h.2 (ni rfl))).trans (hg_e1)
    refine v_gi (z := 1) (v := e1) rfl rfl rfl (by decide) rfl rfl (hid kn_13) ?_
    by_cases h_14 : (nx F e1 a9) ≥ e1
    · refine v_ic_ge_t (t := 55) rfl (by decide) ⟨(Int.le_trans (by decide) (rg_eq hg_e1 h_1).1), h_14, by omega⟩ ?_
      refine q_iconst rfl ?_
      refine q_iret rfl rfl ?_
      refine bk_inl ?_
      refine q_iconst rfl ?_
      refine v_ic_ne_f (t := 25) rfl (by decide) (by decide) ?_
      refine q_aload_n rfl rfl ?_
      refine q_iconst rfl ?_
      refine q_aload_n rfl rfl ?_
      refine v_gi (z := 2) (v := (nx F e1 a9)) rfl rfl rfl (by decide) rfl rfl (hz_12) ?_
      refine v_cv rfl rfl rfl rfl (by decide) ⟨⟨rfl, rfl⟩, by decide, rfl⟩ (Nat.le_of_ble_eq_true rfl) (Nat.le_of_ble_eq_true rfl) ?_
      refine q_aload_n rfl rfl ?_
      have kn_15 : Hid (c_9 1 4 = 0) := (hF_11 1 4 (fun h => absurd h.2 (ni rfl))).trans (hs9)
      refine v_gi (z := 4) (v := 0) rfl rfl rfl (by decide) rfl rfl (hid kn_15) ?_
      refine v_if_ne_f (t := 17) rfl (by decide) (by decide) ?_
      refine q_aload_n rfl rfl ?_
      refine q_iload_n rfl rfl ?_
      refine v_pi (z := 4) rfl rfl rfl (by decide) rfl rfl rfl (by decide) ?_
      refine q_aload_n rfl rfl ?_
      refine q_iload_n rfl rfl ?_
      refine v_pi (z := 5) rfl rfl rfl (by decide) rfl rfl rfl (by decide) ?_
      refine q_vret rfl rfl ?_
      refine bk_inl ?_
      refine q_vret rfl rfl ?_
      have hI_16 := iw_1_4 (v := 1) hI_10 ⟨by decide, by decide⟩
      have hI_17 := iw_1_5 (v := (nx F e1 a9)) hI_16 ⟨by omega, by omega⟩
      intro hE_18
      have hW : Wd P Q P P (up (up c_9 1 4 1) 1 5 (nx F e1 a9)) = Wd P Q P P m9 := (Prod.mk.inj (Prod.mk.inj hE_18).2).1
      have h_19 := ir_1_4 hJ9
      have h_20 : m9 1 4 = 1 := wd_fv (z := 4) 4 rfl hW rfl rfl rfl rfl (by decide) ((up_n (by decide)).trans (up_e rfl)) ⟨by decide, by decide⟩ ⟨(Int.le_trans (by decide) h_19.1), (Int.le_trans h_19.2 (by decide))⟩
      have h_21 := ir_1_2 hJ9
      have h_22 : m9 1 2 = (nx F e1 a9) := wd_fv (z := 2) 2 rfl hW rfl rfl rfl rfl (by decide) ((up_n (by decide)).trans ((up_n (by decide)).trans (hz_12))) ⟨by omega, by omega⟩ ⟨(Int.le_trans (by decide) h_21.1), (Int.le_trans h_21.2 (by decide))⟩
      have h_23 := ir_1_5 hJ9
      have h_24 : m9 1 5 = (nx F e1 a9) := wd_fv (z := 5) 5 rfl hW rfl rfl rfl rfl (by decide) (up_e rfl) ⟨by first | (clear h_1 h_2 h_3 h_4 h_5 h_6 h_7 h_14 h_19 h_20 h_23 h_8; omega) | omega, by first | (clear h_1 h_2 h_3 h_4 h_5 h_6 h_7 h_14 h_19 h_20 h_23 h_8; omega) | omega⟩ ⟨(Int.le_trans (by decide) h_23.1), (Int.le_trans h_23.2 (by decide))⟩
      refine q_aload_n rfl rfl ?_
      refine v_cv rfl rfl rfl rfl (by decide) ⟨⟨rfl, rfl⟩, by decide, rfl⟩ (Nat.le_of_ble_eq_true rfl) (Nat.le_of_ble_eq_true rfl) ?_
      refine q_aload_n rfl rfl ?_
      have h_25 := ir_41_5 hI
      have h_26 := ir_1_5 hJ
      have h_27 := ir_41_4 hI
      have h_28 := ir_41_6 hI
      have h_29 := rt_ok hRt (by omega)
      have hro_hRt := rt_ok hRt (by omega)
      refine v_gi (z := 5) (v := (-1)) rfl rfl rfl (by decide) rfl rfl hro_hRt.2.1 ?_
      refine q_iconst rfl ?_
      refine v_ic_ne_f (t := 12) rfl (by decide) (by decide) ?_
      refine q_iconst rfl ?_
      refine q_goto (t := 13) rfl (by decide) ?_
      refine v_zret rfl rfl (by decide) ?_
      refine bk_inl ?_
      refine v_if_eq_f (t := 24) rfl (by decide) (by decide) ?_
      refine q_aload_n rfl rfl ?_
      have h_30 : -2147483648 ≤ (H (nx F e1 a9)) ∧ (H (nx F e1 a9)) ≤ 2147483647 := by rw [← hH (nx F e1 a9)]; exact ir_43 hI (nx F e1 a9)
      have h_31 : (nx F e1 a9) < 600 → (H (nx F e1 a9)) = (F (nx F e1 a9)) % 256 ∧ -128 ≤ (F (nx F e1 a9)) ∧ (F (nx F e1 a9)) ≤ 127 := fun q => hU (nx F e1 a9) (by omega) q
      have h_32 := hb_or (b := H) (e := e1) (r := (nx F e1 a9))
      have h_33 := hb_bd (b := H) (e := e1) (r := (nx F e1 a9)) (lo := -2147483648) (hi := 2147483647) h_30 (by decide)
      refine v_cv rfl rfl rfl rfl (by decide) ⟨⟨rfl, rfl⟩, by decide, rfl⟩ (Nat.le_of_ble_eq_true rfl) (Nat.le_of_ble_eq_true rfl) (f_154 (e1 := e1) (a9 := a9) (B := H) (r8 := (nx F e1 a9)) (r := (hb H e1 (nx F e1 a9))) hI ((hr_e1)) (((hro_hRt.2.2.1).trans ((hg_a9)))) (fun j => hH j) ((nx_tr hU (by first | (clear h_1 h_2 h_4 h_5 h_6 h_7 h_14 h_19 h_20 h_21 h_22 h_23 h_24 h_25 h_26 h_27 h_28 h_29 h_8; omega) | omega) (by first | (clear h_1 h_3 h_4 h_5 h_6 h_7 h_14 h_19 h_20 h_21 h_22 h_23 h_24 h_25 h_26 h_27 h_28 h_29 h_8; omega) | omega)).trans (rfl)) rfl (fun c_34 hI_35 hF_36 h_37 => ?_))
      refine bk_inl ?_
      refine q_iload_n rfl rfl ?_
      refine v_ic_eq_f (t := 24) rfl (by decide) ⟨by first | (clear h_3 h_4 h_5 h_7 h_19 h_20 h_21 h_23 h_25 h_26 h_27 h_28 h_29; omega) | omega, ⟨h_33.1, h_33.2⟩, by decide, by decide⟩ ?_
      refine q_aload_n rfl rfl ?_
      refine q_iconst rfl ?_
      refine q_aload_n rfl rfl ?_
      refine v_gi (z := 4) (v := (nx F e1 a9)) rfl rfl rfl (by decide) rfl rfl (h_37) ?_
      refine v_cv rfl rfl rfl rfl (by decide) ⟨⟨rfl, rfl⟩, by decide, rfl⟩ (Nat.le_of_ble_eq_true rfl) (Nat.le_of_ble_eq_true rfl) ?_
      refine q_aload_n rfl rfl ?_
      have kn_38 : Hid (c_34 41 5 = (-1)) := (hF_36 41 5 (fun h => absurd h.2 (ni rfl))).trans hro_hRt.2.1
      refine v_gi (z := 5) (v := (-1)) rfl rfl rfl (by decide) rfl rfl (hid kn_38) ?_
      refine q_iconst rfl ?_
      refine v_ic_eq_t (t := 9) rfl (by decide) (by decide) ?_
      refine q_aload_n rfl rfl ?_
      refine q_iload_n rfl rfl ?_
      refine v_pi (z := 5) rfl rfl rfl (by decide) rfl rfl rfl (by decide) ?_
      refine q_aload_n rfl rfl ?_
      refine q_iload_n rfl rfl ?_
      refine v_pi (z := 6) rfl rfl rfl (by decide) rfl rfl rfl (by decide) ?_
      refine q_vret rfl rfl ?_
      refine bk_inl ?_
      refine q_aload_n rfl rfl ?_
      refine v_cv rfl rfl rfl rfl (by decide) ⟨⟨rfl, rfl⟩, by decide, rfl⟩ (Nat.le_of_ble_eq_true rfl) (Nat.le_of_ble_eq_true rfl) ?_
      refine q_aload_n rfl rfl ?_
      refine v_gi (z := 5) (v := (nx F e1 a9)) rfl rfl rfl (by decide) rfl rfl ((up_n (by decide)).trans (up_e rfl)) ?_
      refine q_iconst rfl ?_
      refine v_ic_ne_t (t := 12) rfl (by decide) ⟨by first | (clear h_1 h_2 h_3 h_4 h_5 h_6 h_7 h_14 h_19 h_20 h_23 h_24 h_25 h_26 h_27 h_28 h_29 h_30 h_33 h_8 h_31 h_32; omega) | omega, ⟨by first | (clear h_1 h_2 h_3 h_4 h_5 h_6 h_7 h_14 h_19 h_20 h_23 h_24 h_25 h_26 h_27 h_28 h_29 h_30 h_33 h_8 h_31 h_32; omega) | omega, by first | (clear h_1 h_2 h_3 h_4 h_5 h_6 h_7 h_14 h_19 h_20 h_23 h_24 h_25 h_26 h_27 h_28 h_29 h_30 h_33 h_8 h_31 h_32; omega) | omega⟩, by decide, by decide⟩ ?_
      refine q_iconst rfl ?_
      refine v_zret rfl rfl (by decide) ?_
      refine bk_inl ?_
      refine v_if_eq_t (t := 41) rfl (by decide) (by decide) ?_
      refine q_vret rfl rfl ?_
      have hI_39 := iw_41_5 (v := (nx F e1 a9)) hI_35 ⟨by first | (clear h_1 h_2 h_3 h_4 h_5 h_6 h_7 h_14 h_19 h_20 h_23 h_24 h_25 h_26 h_27 h_28 h_29 h_30 h_33 h_8 h_31 h_32; omega) | omega, by first | (clear h_1 h_2 h_3 h_4 h_5 h_6 h_7 h_14 h_19 h_20 h_21 h_22 h_25 h_26 h_27 h_28 h_29 h_30 h_33 h_8 h_31 h_32; omega) | omega⟩
      have hI_40 := iw_41_6 (v := 1) hI_39 ⟨by decide, by decide⟩
      have h_41 : (up (up c_34 41 5 (nx F e1 a9)) 41 6 1) 41 5 = (nx F e1 a9) := ((up_n (by decide)).trans (up_e rfl))
      have h_42 : (up (up c_34 41 5 (nx F e1 a9)) 41 6 1) 41 4 = (nx F e1 a9) := ((up_n (by decide)).trans ((up_n (by decide)).trans (h_37)))
      have h_43 : (up (up c_34 41 5 (nx F e1 a9)) 41 6 1) 41 6 = 1 := (up_e rfl)
      exact K (up (up c_34 41 5 (nx F e1 a9)) 41 6 1)  hI_40 (fun a j hm => (up_b (Decidable.or_iff_not_imp_left.mpr (fun h1 h2 => hm (Or.inr (Or.inr ⟨Decidable.not_not.mp h1, h2⟩))))).trans ((up_b (Decidable.or_iff_not_imp_left.mpr (fun h1 h2 => hm (Or.inr (Or.inl ⟨Decidable.not_not.mp h1, h2⟩))))).trans (hF_36 a j (fun h => hm (Or.inl h))))) (rt_i2 ⟨⟨by first | (clear h_1 h_2 h_3 h_4 h_5 h_6 h_7 h_14 h_19 h_21 h_22 h_23 h_24 h_25 h_26 h_27 h_28 h_29 h_30 h_33 h_8 h_31 h_32; omega) | omega, by first | (clear h_1 h_2 h_3 h_4 h_5 h_6 h_7 h_14 h_19 h_21 h_22 h_23 h_24 h_25 h_26 h_27 h_28 h_29 h_30 h_33 h_8 h_31 h_32; omega) | omega⟩, by first | (clear h_1 h_2 h_3 h_4 h_5 h_6 h_7 h_14 h_19 h_20 h_21 h_22 h_23 h_25 h_26 h_27 h_28 h_29 h_30 h_33 h_8 h_31 h_32; omega) | omega, by first | (clear h_1 h_2 h_3 h_4 h_5 h_6 h_7 h_14 h_19 h_20 h_23 h_25 h_26 h_27 h_28 h_29 h_30 h_33 h_8 h_31 h_32; omega) | omega, by first | (clear h_1 h_2 h_3 h_4 h_5 h_6 h_7 h_14 h_19 h_21 h_22 h_23 h_24 h_25 h_26 h_27 h_28 h_29 h_30 h_33 h_8 h_31 h_32; omega) | omega⟩) (Or.inr (Or.inl (by first | (clear h_1 h_2 h_3 h_4 h_5 h_6 h_7 h_14 h_19 h_21 h_22 h_23 h_24 h_25 h_26 h_27 h_28 h_29 h_30 h_33 h_8 h_31 h_32; omega) | omega))) (Or.inr (Or.inl (by first | (clear h_1 h_2 h_3 h_4 h_5 h_6 h_7 h_14 h_19 h_21 h_22 h_23 h_24 h_25 h_26 h_27 h_28 h_29 h_30 h_33 h_8 h_31 h_32; omega) | omega)))
    · refine v_ic_ge_f (t := 55) rfl (by decide) ⟨by omega, (Int.not_le.mp h_14), (Int.le_trans (rg_eq hg_e1 h_1).2 (by decide))⟩ ?_
      refine q_aload_n rfl rfl ?_
      refine v_gr (t := 2) rfl rfl rfl (by decide) rfl ?_
      refine q_iload_n rfl rfl ?_
      have kn_44 : Hid (c_9 2 (nx F e1 a9) = (F (nx F e1 a9))) := (hF_11 2 (nx F e1 a9) (fun h => absurd h.1 (nn rfl))).trans (hF (nx F e1 a9))
      refine v_ba (v := (F (nx F e1 a9))) rfl rfl (by decide) (by decide) (by omega) (hid kn_44) ?_
      refine q_aload_n rfl rfl ?_
      refine q_iload_n rfl rfl ?_
      refine v_sch 59 rfl rfl (by omega) (Nat.le_of_ble_eq_true rfl) (by decide) (by decide) (by decide) ?_
      by_cases h_45 : (F (nx F e1 a9)) ≠ 59
      · refine v_ic_ne_t (t := 49) rfl (by decide) ⟨h_45, ⟨h_7.1, h_7.2⟩, by decide, by decide⟩ ?_
        refine v_iinc (v := 1) rfl rfl (by decide) (by decide) ?_
        refine q_goto (t := 7) rfl (by decide) ?_
        refine q_iload_n rfl rfl ?_
        refine q_aload_n rfl rfl ?_
        refine v_sln 1 rfl rfl (by omega) (Nat.le_of_ble_eq_true rfl) (by decide) (by decide) ?_
        refine v_ic_ge_t (t := 55) rfl (by decide) (by decide) ?_
        refine q_iconst rfl ?_
        refine q_iret rfl rfl ?_
        refine bk_inl ?_
        refine q_iconst rfl ?_
        refine v_ic_ne_f (t := 25) rfl (by decide) (by decide) ?_
        refine q_aload_n rfl rfl ?_
        refine q_iconst rfl ?_
        refine q_aload_n rfl rfl ?_
        refine v_gi (z := 2) (v := (nx F e1 a9)) rfl rfl rfl (by decide) rfl rfl (hz_12) ?_
        refine v_cv rfl rfl rfl rfl (by decide) ⟨⟨rfl, rfl⟩, by decide, rfl⟩ (Nat.le_of_ble_eq_true rfl) (Nat.le_of_ble_eq_true rfl) ?_
        refine q_aload_n rfl rfl ?_
        have kn_46 : Hid (c_9 1 4 = 0) := (hF_11 1 4 (fun h => absurd h.2 (ni rfl))).trans (hs9)
        refine v_gi (z := 4) (v := 0) rfl rfl rfl (by decide) rfl rfl (hid kn_46) ?_
        refine v_if_ne_f (t := 17) rfl (by decide) (by decide) ?_
        refine q_aload_n rfl rfl ?_
        refine q_iload_n rfl rfl ?_
        refine v_pi (z := 4) rfl rfl rfl (by decide) rfl rfl rfl (by decide) ?_
        refine q_aload_n rfl rfl ?_
        refine q_iload_n rfl rfl ?_
        refine v_pi (z := 5) rfl rfl rfl (by decide) rfl rfl rfl (by decide) ?_
        refine q_vret rfl rfl ?_
        refine bk_inl ?_
        refine q_vret rfl rfl ?_
        have hI_47 := iw_1_4 (v := 1) hI_10 ⟨by decide, by decide⟩
        have hI_48 := iw_1_5 (v := (nx F e1 a9)) hI_47 ⟨by omega, by omega⟩
        intro hE_49
        have hW : Wd P Q P P (up (up c_9 1 4 1) 1 5 (nx F e1 a9)) = Wd P Q P P m9 := (Prod.mk.inj (Prod.mk.inj hE_49).2).1
        have h_50 := ir_1_4 hJ9
        have h_51 : m9 1 4 = 1 := wd_fv (z := 4) 4 rfl hW rfl rfl rfl rfl (by decide) ((up_n (by decide)).trans (up_e rfl)) ⟨by decide, by decide⟩ ⟨(Int.le_trans (by decide) h_50.1), (Int.le_trans h_50.2 (by decide))⟩
        have h_52 := ir_1_2 hJ9
        have h_53 : m9 1 2 = (nx F e1 a9) := wd_fv (z := 2) 2 rfl hW rfl rfl rfl rfl (by decide) ((up_n (by decide)).trans ((up_n (by decide)).trans (hz_12))) ⟨by omega, by omega⟩ ⟨(Int.le_trans (by decide) h_52.1), (Int.le_trans h_52.2 (by decide))⟩
        have h_54 := ir_1_5 hJ9
        have h_55 : m9 1 5 = (nx F e1 a9) := wd_fv (z := 5) 5 rfl hW rfl rfl rfl rfl (by decide) (up_e rfl) ⟨by first | (clear h_1 h_2 h_3 h_4 h_5 h_6 h_7 h_50 h_51 h_54 h_8 h_45; omega) | omega, by first | (clear h_1 h_2 h_3 h_4 h_5 h_6 h_7 h_50 h_51 h_54 h_8 h_45; omega) | omega⟩ ⟨(Int.le_trans (by decide) h_54.1), (Int.le_trans h_54.2 (by decide))⟩
        refine q_aload_n rfl rfl ?_
        refine v_cv rfl rfl rfl rfl (by decide) ⟨⟨rfl, rfl⟩, by decide, rfl⟩ (Nat.le_of_ble_eq_true rfl) (Nat.le_of_ble_eq_true rfl) ?_
        refine q_aload_n rfl rfl ?_
        have h_56 := ir_41_5 hI
        have h_57 := ir_1_5 hJ
        have h_58 := ir_41_4 hI
        have h_59 := ir_41_6 hI
        have h_60 := rt_ok hRt (by omega)
        have hro_hRt := rt_ok hRt (by omega)
        refine v_gi (z := 5) (v := (-1)) rfl rfl rfl (by decide) rfl rfl hro_hRt.2.1 ?_
        refine q_iconst rfl ?_
        refine v_ic_ne_f (t := 12) rfl (by decide) (by decide) ?_
        refine q_iconst rfl ?_
        refine q_goto (t := 13) rfl (by decide) ?_
        refine v_zret rfl rfl (by decide) ?_
        refine bk_inl ?_
        refine v_if_eq_f (t := 24) rfl (by decide) (by decide) ?_
        refine q_aload_n rfl rfl ?_
        have h_61 : -2147483648 ≤ (H (nx F e1 a9)) ∧ (H (nx F e1 a9)) ≤ 2147483647 := by rw [← hH (nx F e1 a9)]; exact ir_43 hI (nx F e1 a9)
        have h_62 := hU (nx F e1 a9) (by omega) (by omega)
        have h_63 := hb_or (b := H) (e := e1) (r := (nx F e1 a9))
        have h_64 := hb_bd (b := H) (e := e1) (r := (nx F e1 a9)) (lo := -2147483648) (hi := 2147483647) h_61 (by decide)
        refine v_cv rfl rfl rfl rfl (by decide) ⟨⟨rfl, rfl⟩, by decide, rfl⟩ (Nat.le_of_ble_eq_true rfl) (Nat.le_of_ble_eq_true rfl) (f_154 (e1 := e1) (a9 := a9) (B := H) (r8 := (nx F e1 a9)) (r := (hb H e1 (nx F e1 a9))) hI ((hr_e1)) (((hro_hRt.2.2.1).trans ((hg_a9)))) (fun j => hH j) ((nx_tr hU (by first | (clear h_1 h_2 h_4 h_5 h_6 h_7 h_50 h_51 h_52 h_53 h_54 h_55 h_56 h_57 h_58 h_59 h_60 h_8 h_45; omega) | omega) (by first | (clear h_1 h_3 h_4 h_5 h_6 h_7 h_50 h_51 h_52 h_53 h_54 h_55 h_56 h_57 h_58 h_59 h_60 h_8 h_45; omega) | omega)).trans (rfl)) rfl (fun c_65 hI_66 hF_67 h_68 => ?_))
        refine bk_inl ?_
        refine q_iload_n rfl rfl ?_
        refine v_ic_eq_f (t := 24) rfl (by decide) ⟨by omega, ⟨h_64.1, h_64.2⟩, by decide, by decide⟩ ?_
        refine q_aload_n rfl rfl ?_
        refine q_iconst rfl ?_
        refine q_aload_n rfl rfl ?_
        refine v_gi (z := 4) (v := (nx F e1 a9)) rfl rfl rfl (by decide) rfl rfl (h_68) ?_
        refine v_cv rfl rfl rfl rfl (by decide) ⟨⟨rfl, rfl⟩, by decide, rfl⟩ (Nat.le_of_ble_eq_true rfl) (Nat.le_of_ble_eq_true rfl) ?_
        refine q_aload_n rfl rfl ?_
        have kn_69 : Hid (c_65 41 5 = (-1)) := (hF_67 41 5 (fun h => absurd h.2 (ni rfl))).trans hro_hRt.2.1
        refine v_gi (z := 5) (v := (-1)) rfl rfl rfl (by decide) rfl rfl (hid kn_69) ?_
        refine q_iconst rfl ?_
        refine v_ic_eq_t (t := 9) rfl (by decide) (by decide) ?_
        refine q_aload_n rfl rfl ?_
        refine q_iload_n rfl rfl ?_
        refine v_pi (z := 5) rfl rfl rfl (by decide) rfl rfl rfl (by decide) ?_
        refine q_aload_n rfl rfl ?_
        refine q_iload_n rfl rfl ?_
        refine v_pi (z := 6) rfl rfl rfl (by decide) rfl rfl rfl (by decide) ?_
        refine q_vret rfl rfl ?_
        refine bk_inl ?_
        refine q_aload_n rfl rfl ?_
        refine v_cv rfl rfl rfl rfl (by decide) ⟨⟨rfl, rfl⟩, by decide, rfl⟩ (Nat.le_of_ble_eq_true rfl) (Nat.le_of_ble_eq_true rfl) ?_
        refine q_aload_n rfl rfl ?_
        refine v_gi (z := 5) (v := (nx F e1 a9)) rfl rfl rfl (by decide) rfl rfl ((up_n (by decide)).trans (up_e rfl)) ?_
        refine q_iconst rfl ?_
        refine v_ic_ne_t (t := 12) rfl (by decide) ⟨by first | (clear h_1 h_2 h_3 h_4 h_5 h_6 h_7 h_50 h_51 h_54 h_55 h_56 h_57 h_58 h_59 h_60 h_61 h_62 h_64 h_8 h_45 h_63; omega) | omega, ⟨by first | (clear h_1 h_2 h_3 h_4 h_5 h_6 h_7 h_50 h_51 h_54 h_55 h_56 h_57 h_58 h_59 h_60 h_61 h_62 h_64 h_8 h_45 h_63; omega) | omega, by first | (clear h_1 h_2 h_3 h_4 h_5 h_6 h_7 h_50 h_51 h_52 h_53 h_56 h_57 h_58 h_59 h_60 h_61 h_62 h_64 h_8 h_45 h_63; omega) | omega⟩, by decide, by decide⟩ ?_
        refine q_iconst rfl ?_
        refine v_zret rfl rfl (by decide) ?_
        refine bk_inl ?_
        refine v_if_eq_t (t := 41) rfl (by decide) (by decide) ?_
        refine q_vret rfl rfl ?_
        have hI_70 := iw_41_5 (v := (nx F e1 a9)) hI_66 ⟨by first | (clear h_1 h_2 h_3 h_4 h_5 h_6 h_7 h_50 h_51 h_54 h_55 h_56 h_57 h_58 h_59 h_60 h_61 h_62 h_64 h_8 h_45 h_63; omega) | omega, by first | (clear h_1 h_2 h_3 h_4 h_5 h_6 h_7 h_50 h_51 h_54 h_55 h_56 h_57 h_58 h_59 h_60 h_61 h_62 h_64 h_8 h_45 h_63; omega) | omega⟩
        have hI_71 := iw_41_6 (v := 1) hI_70 ⟨by decide, by decide⟩
        have h_72 : (up (up c_65 41 5 (nx F e1 a9)) 41 6 1) 41 5 = (nx F e1 a9) := ((up_n (by decide)).trans (up_e rfl))
        have h_73 : (up (up c_65 41 5 (nx F e1 a9)) 41 6 1) 41 4 = (nx F e1 a9) := ((up_n (by decide)).trans ((up_n (by decide)).trans (h_68)))
        have h_74 : (up (up c_65 41 5 (nx F e1 a9)) 41 6 1) 41 6 = 1 := (up_e rfl)
        exact K (up (up c_65 41 5 (nx F e1 a9)) 41 6 1)  hI_71 (fun a j hm => (up_b (Decidable.or_iff_not_imp_left.mpr (fun h1 h2 => hm (Or.inr (Or.inr ⟨Decidable.not_not.mp h1, h2⟩))))).trans ((up_b (Decidable.or_iff_not_imp_left.mpr (fun h1 h2 => hm (Or.inr (Or.inl ⟨Decidable.not_not.mp h1, h2⟩))))).trans (hF_67 a j (fun h => hm (Or.inl h))))) (rt_i2 ⟨⟨by first | (clear h_1 h_2 h_3 h_4 h_5 h_6 h_7 h_50 h_52 h_53 h_54 h_55 h_56 h_57 h_58 h_59 h_60 h_61 h_62 h_64 h_8 h_45 h_63; omega) | omega, by first | (clear h_1 h_2 h_3 h_4 h_5 h_6 h_7 h_50 h_52 h_53 h_54 h_55 h_56 h_57 h_58 h_59 h_60 h_61 h_62 h_64 h_8 h_45 h_63; omega) | omega⟩, by first | (clear h_1 h_2 h_3 h_4 h_5 h_6 h_7 h_50 h_51 h_52 h_53 h_54 h_56 h_57 h_58 h_59 h_60 h_61 h_62 h_64 h_8 h_45 h_63; omega) | omega, by first | (clear h_1 h_2 h_3 h_4 h_5 h_6 h_7 h_50 h_51 h_54 h_56 h_57 h_58 h_59 h_60 h_61 h_62 h_64 h_8 h_45 h_63; omega) | omega, by first | (clear h_1 h_2 h_3 h_4 h_5 h_6 h_7 h_50 h_52 h_53 h_54 h_55 h_56 h_57 h_58 h_59 h_60 h_61 h_62 h_64 h_8 h_45 h_63; omega) | omega⟩) (Or.inr (Or.inl (by first | (clear h_1 h_2 h_3 h_4 h_5 h_6 h_7 h_50 h_52 h_53 h_54 h_55 h_56 h_57 h_58 h_59 h_60 h_61 h_62 h_64 h_8 h_45 h_63; omega) | omega))) (Or.inr (Or.inl (by first | (clear h_1 h_2 h_3 h_4 h_5 h_6 h_7 h_50 h_52 h_53 h_54 h_55 h_56 h_57 h_58 h_59 h_60 h_61 h_62 h_64 h_8 h_45 h_63; omega) | omega)))
      · refine v_ic_ne_f (t := 49) rfl (by decide) (Decidable.not_not.mp h_45) ?_
        refine q_aload_n rfl rfl ?_
        refine q_dup rfl rfl ?_
        refine v_gi (z := 2) (v := (nx F e1 a9)) rfl rfl rfl (by decide) rfl rfl (hz_12) ?_
        refine q_iconst rfl ?_
        refine v_iadd (v := (nx F e1 a9) + 1) rfl rfl ?_
        refine v_pi (z := 2) rfl rfl rfl (by decide) rfl rfl rfl (by decide) ?_
        refine q_iload_n rfl rfl ?_
        refine q_iret rfl rfl ?_
        refine bk_inl ?_
        refine q_iconst rfl ?_
        refine v_ic_ne_t (t := 25) rfl (by decide) (by decide) ?_
        refine q_vret rfl rfl ?_
        have hI_75 := iw_1_2 (v := (nx F e1 a9) + 1) hI_10 ⟨by omega, by omega⟩
        intro hE_76
        have hW : Wd P Q P P (up c_9 1 2 ((nx F e1 a9) + 1)) = Wd P Q P P m9 := (Prod.mk.inj (Prod.mk.inj hE_76).2).1
        have kn_77 : Hid (c_9 1 4 = 0) := (hF_11 1 4 (fun h => absurd h.2 (ni rfl))).trans (hs9)
        have h_78 := ir_1_4 hJ9
        have h_79 : m9 1 4 = 0 := wd_fv (z := 4) 4 rfl hW rfl rfl rfl rfl (by decide) ((up_n (by decide)).trans (hid kn_77)) ⟨by decide, by decide⟩ ⟨(Int.le_trans (by decide) h_78.1), (Int.le_trans h_78.2 (by decide))⟩
        have h_80 := ir_1_2 hJ9
        have h_81 : m9 1 2 = (nx F e1 a9) + 1 := wd_fv (z := 2) 2 rfl hW rfl rfl rfl rfl (by decide) (up_e rfl) ⟨by omega, by omega⟩ ⟨(Int.le_trans (by decide) h_80.1), (Int.le_trans h_80.2 (by decide))⟩
        have kn_82 : Hid (c_9 1 5 = (-1)) := (hF_11 1 5 (fun h => absurd h.2 (ni rfl))).trans (hs8)
        have h_83 := ir_1_5 hJ9
        have h_84 : m9 1 5 = (-1) := wd_fv (z := 5) 5 rfl hW rfl rfl rfl rfl (by decide) ((up_n (by decide)).trans (hid kn_82)) ⟨by decide, by decide⟩ ⟨(Int.le_trans (by decide) h_83.1), (Int.le_trans h_83.2 (by decide))⟩
        refine q_aload_n rfl rfl ?_
        refine v_cv rfl rfl rfl rfl (by decide) ⟨⟨rfl, rfl⟩, by decide, rfl⟩ (Nat.le_of_ble_eq_true rfl) (Nat.le_of_ble_eq_true rfl) ?_
        refine q_aload_n rfl rfl ?_
        have h_85 := ir_41_5 hI
        have h_86 := ir_1_5 hJ
        have h_87 := ir_41_4 hI
        have h_88 := ir_41_6 hI
        have h_89 := rt_ok hRt (by omega)
        have hro_hRt := rt_ok hRt (by omega)
        refine v_gi (z := 5) (v := (-1)) rfl rfl rfl (by decide) rfl rfl hro_hRt.2.1 ?_
        refine q_iconst rfl ?_
        refine v_ic_ne_f (t := 12) rfl (by decide) (by decide) ?_
        refine q_iconst rfl ?_
        refine q_goto (t := 13) rfl (by decide) ?_
        refine v_zret rfl rfl (by decide) ?_
        refine bk_inl ?_
        refine v_if_eq_f (t := 24) rfl (by decide) (by decide) ?_
        refine q_aload_n rfl rfl ?_
        have h_90 : -2147483648 ≤ (H (nx F e1 a9)) ∧ (H (nx F e1 a9)) ≤ 2147483647 := by rw [← hH (nx F e1 a9)]; exact ir_43 hI (nx F e1 a9)
        have h_91 := hU (nx F e1 a9) (by omega) (by omega)
        have h_92 := hb_or (b := H) (e := e1) (r := (nx F e1 a9))
        have h_93 := hb_bd (b := H) (e := e1) (r := (nx F e1 a9)) (lo := -2147483648) (hi := 2147483647) h_90 (by decide)
        refine v_cv rfl rfl rfl rfl (by decide) ⟨⟨rfl, rfl⟩, by decide, rfl⟩ (Nat.le_of_ble_eq_true rfl) (Nat.le_of_ble_eq_true rfl) (f_154 (e1 := e1) (a9 := a9) (B := H) (r8 := (nx F e1 a9)) (r := (hb H e1 (nx F e1 a9))) hI ((hr_e1)) (((hro_hRt.2.2.1).trans ((hg_a9)))) (fun j => hH j) ((nx_tr hU (by first | (clear h_1 h_2 h_4 h_5 h_6 h_7 h_78 h_79 h_80 h_81 h_83 h_84 h_85 h_86 h_87 h_88 h_89 h_8; omega) | omega) (by first | (clear h_1 h_3 h_4 h_5 h_6 h_7 h_78 h_79 h_80 h_81 h_83 h_84 h_85 h_86 h_87 h_88 h_89 h_8; omega) | omega)).trans (rfl)) rfl (fun c_94 hI_95 hF_96 h_97 => ?_))
        refine bk_inl ?_
        refine q_iload_n rfl rfl ?_
        refine v_ic_eq_t (t := 24) rfl (by decide) (by first | (clear h_3 h_4 h_5 h_7 h_78 h_79 h_80 h_83 h_84 h_85 h_86 h_87 h_88 h_89; omega) | omega) ?_
        refine q_aload_n rfl rfl ?_
        refine v_cv rfl rfl rfl rfl (by decide) ⟨⟨rfl, rfl⟩, by decide, rfl⟩ (Nat.le_of_ble_eq_true rfl) (Nat.le_of_ble_eq_true rfl) ?_
        refine q_aload_n rfl rfl ?_
        have kn_98 : Hid (c_94 41 5 = (-1)) := (hF_96 41 5 (fun h => absurd h.2 (ni rfl))).trans hro_hRt.2.1
        refine v_gi (z := 5) (v := (-1)) rfl rfl rfl (by decide) rfl rfl (hid kn_98) ?_
        refine q_iconst rfl ?_
        refine v_ic_ne_f (t := 12) rfl (by decide) (by decide) ?_
        refine q_iconst rfl ?_
        refine q_goto (t := 13) rfl (by decide) ?_
        refine v_zret rfl rfl (by decide) ?_
        refine bk_inl ?_
        refine v_if_eq_f (t := 41) rfl (by decide) (by decide) ?_
        refine q_aload_n rfl rfl ?_
        refine q_dup rfl rfl ?_
        refine v_gi (z := 4) (v := (nx F e1 a9)) rfl rfl rfl (by decide) rfl rfl (h_97) ?_
        refine q_iconst rfl ?_
        refine v_iadd (v := (nx F e1 a9) + 1) rfl rfl ?_
        refine v_pi (z := 4) rfl rfl rfl (by decide) rfl rfl rfl (by decide) ?_
        refine q_vret rfl rfl ?_
        have hI_99 := iw_41_4 (v := (nx F e1 a9) + 1) hI_95 ⟨by first | (clear h_1 h_2 h_4 h_5 h_7 h_78 h_79 h_80 h_81 h_83 h_84 h_85 h_86 h_87 h_88 h_89 h_90 h_91 h_93 h_8 h_92; omega) | omega, by first | (clear h_1 h_2 h_3 h_4 h_5 h_6 h_7 h_78 h_79 h_83 h_84 h_85 h_86 h_87 h_88 h_89 h_90 h_91 h_93 h_8 h_92; omega) | omega⟩
        have h_100 : (up c_94 41 4 ((nx F e1 a9) + 1)) 41 5 = (-1) := ((up_n (by decide)).trans (hid kn_98))
        have h_101 : (up c_94 41 4 ((nx F e1 a9) + 1)) 41 4 = (nx F e1 a9) + 1 := (up_e rfl)
        have kn_102 : Hid (c_94 41 6 = c 41 6) := hF_96 41 6 (fun h => absurd h.2 (ni rfl))
        have h_103 : (up c_94 41 4 ((nx F e1 a9) + 1)) 41 6 = c 41 6 := ((up_n (by decide)).trans (hid kn_102))
        exact K (up c_94 41 4 ((nx F e1 a9) + 1))  hI_99 (fun a j hm => (up_b (Decidable.or_iff_not_imp_left.mpr (fun h1 h2 => hm (Or.inl ⟨Decidable.not_not.mp h1, h2⟩)))).trans (hF_96 a j (fun h => hm (Or.inl h)))) (rt_i1 ⟨by first | (clear h_1 h_2 h_3 h_4 h_5 h_6 h_7 h_80 h_81 h_83 h_84 h_85 h_86 h_87 h_88 h_89 h_90 h_91 h_93 h_8 h_92; omega) | omega, by first | (clear h_1 h_2 h_3 h_4 h_5 h_6 h_7 h_78 h_79 h_80 h_81 h_83 h_84 h_85 h_86 h_87 h_88 h_89 h_90 h_91 h_93 h_8 h_92; omega) | omega, by first | (clear h_1 h_2 h_3 h_4 h_5 h_6 h_7 h_78 h_79 h_80 h_83 h_84 h_85 h_86 h_87 h_88 h_89 h_90 h_91 h_93 h_8 h_92; omega) | omega, by first | (clear h_1 h_2 h_3 h_4 h_5 h_6 h_7 h_78 h_79 h_80 h_81 h_85 h_86 h_87 h_88 h_89 h_90 h_91 h_93 h_8 h_92; omega) | omega⟩) (Or.inr (Or.inr ⟨by first | (clear h_1 h_2 h_3 h_4 h_5 h_7 h_78 h_79 h_80 h_83 h_84 h_85 h_86 h_87 h_88 h_89 h_90 h_91 h_93 h_8 h_92; omega) | omega, by first | (clear h_1 h_2 h_3 h_4 h_5 h_6 h_7 h_78 h_79 h_80 h_83 h_84 h_85 h_86 h_87 h_88 h_89 h_90 h_91 h_93 h_8 h_92; omega) | omega⟩)) (Or.inr (Or.inr (by first | (clear h_1 h_2 h_3 h_5 h_6 h_7 h_78 h_79 h_80 h_81 h_83 h_84 h_85 h_86 h_87 h_88 h_89 h_90 h_91 h_93 h_8 h_92; omega) | omega)))
  · skip
    refine q_aload_n rfl rfl ?_
    refine v_cv rfl rfl rfl rfl (by decide) ⟨⟨rfl, rfl⟩, by decide, rfl⟩ (Nat.le_of_ble_eq_true rfl) (Nat.le_of_ble_eq_true rfl) ?_
    refine q_aload_n rfl rfl ?_
    refine v_gi (z := 4) (v := f0) rfl rfl rfl (by decide) rfl rfl (hg_f0) ?_
    refine v_if_ne_t (t := 11) rfl (by decide) ⟨by omega, ⟨(Int.le_trans (by decide) (rg_eq hg_f0 h_4).1), (Int.le_trans (rg_eq hg_f0 h_4).2 (by decide))⟩, by decide, by decide⟩ ?_
    refine q_iconst rfl ?_
    refine v_zret rfl rfl (by decide) ?_
    refine bk_inl ?_
    refine v_if_eq_t (t := 25) rfl (by decide) (by decide) ?_
    refine q_vret rfl rfl ?_
    intro hE_104
    have hW : Wd P Q P P m = Wd P Q P P m9 := (Prod.mk.inj (Prod.mk.inj hE_104).2).1
    have h_105 := ir_1_4 hJ9
    have h_106 : m9 1 4 = f0 := wd_fv (z := 4) 4 rfl hW rfl rfl rfl rfl (by decide) (hg_f0) ⟨(Int.le_trans (by decide) (rg_eq hg_f0 h_4).1), (Int.le_trans (rg_eq hg_f0 h_4).2 (by decide))⟩ ⟨(Int.le_trans (by decide) h_105.1), (Int.le_trans h_105.2 (by decide))⟩
    have h_107 := ir_1_2 hJ9
    have h_108 : m9 1 2 = a9 := wd_fv (z := 2) 2 rfl hW rfl rfl rfl rfl (by decide) (hg_a9) ⟨(Int.le_trans (by decide) (rg_eq hg_a9 h_3).1), (Int.le_trans (rg_eq hg_a9 h_3).2 (by decide))⟩ ⟨(Int.le_trans (by decide) h_107.1), (Int.le_trans h_107.2 (by decide))⟩
    have h_109 := ir_1_5 hJ
    have h_110 := ir_1_5 hJ9
    have h_111 : m9 1 5 = m 1 5 := wd_fv (z := 5) 5 rfl hW rfl rfl rfl rfl (by decide) rfl ⟨(Int.le_trans (by decide) h_109.1), (Int.le_trans h_109.2 (by decide))⟩ ⟨(Int.le_trans (by decide) h_110.1), (Int.le_trans h_110.2 (by decide))⟩
    refine q_aload_n rfl rfl ?_
    refine v_cv rfl rfl rfl rfl (by decide) ⟨⟨rfl, rfl⟩, by decide, rfl⟩ (Nat.le_of_ble_eq_true rfl) (Nat.le_of_ble_eq_true rfl) ?_
    refine q_aload_n rfl rfl ?_
    have h_112 := ir_41_5 hI
    have h_113 := ir_41_4 hI
    have h_114 := ir_41_6 hI
    have h_115 := rt_bad hRt (by omega)
    have hrb_hRt := rt_bad hRt (by omega)
    refine v_gi (z := 5) (v := m 1 5) rfl rfl rfl (by decide) rfl rfl hrb_hRt.2.1 ?_
    refine q_iconst rfl ?_
    refine v_ic_ne_t (t := 12) rfl (by decide) ⟨by first | (clear h_1 h_2 h_3 h_4 h_105 h_106 h_107 h_108 h_109 h_110 h_111 h_112 h_113 h_114; omega) | omega, ⟨(Int.le_trans (by decide) h_109.1), (Int.le_trans h_109.2 (by decide))⟩, by decide, by decide⟩ ?_
    refine q_iconst rfl ?_
    refine v_zret rfl rfl (by decide) ?_
    refine bk_inl ?_
    refine v_if_eq_t (t := 24) rfl (by decide) (by decide) ?_
    refine q_aload_n rfl rfl ?_
    refine v_cv rfl rfl rfl rfl (by decide) ⟨⟨rfl, rfl⟩, by decide, rfl⟩ (Nat.le_of_ble_eq_true rfl) (Nat.le_of_ble_eq_true rfl) ?_
    refine q_aload_n rfl rfl ?_
    refine v_gi (z := 5) (v := m 1 5) rfl rfl rfl (by decide) rfl rfl hrb_hRt.2.1 ?_
    refine q_iconst rfl ?_
    refine v_ic_ne_t (t := 12) rfl (by decide) ⟨by first | (clear h_1 h_2 h_3 h_4 h_105 h_106 h_107 h_108 h_109 h_110 h_111 h_112 h_113 h_114; omega) | omega, ⟨(Int.le_trans (by decide) h_109.1), (Int.le_trans h_109.2 (by decide))⟩, by decide, by decide⟩ ?_
    refine q_iconst rfl ?_
    refine v_zret rfl rfl (by decide) ?_
    refine bk_inl ?_
    refine v_if_eq_t (t := 41) rfl (by decide) (by decide) ?_
    refine q_vret rfl rfl ?_
    have h_116 : c 41 5 = m 1 5 := hrb_hRt.2.1
    have h_117 : c 41 6 = f0 := ((hrb_hRt.2.2.2).trans ((hg_f0)))
    exact K c  hI (fun a j hm => rfl) (rt_i2 ⟨⟨by first | (clear h_1 h_2 h_3 h_105 h_107 h_108 h_109 h_110 h_111 h_112 h_113 h_114; omega) | omega, by first | (clear h_1 h_2 h_3 h_4 h_106 h_107 h_108 h_109 h_110 h_111 h_112 h_113 h_114 h_115; omega) | omega⟩, by first | (clear h_1 h_2 h_3 h_4 h_105 h_106 h_107 h_108 h_109 h_110 h_112 h_113 h_114 h_115; omega) | omega, by first | (clear h_1 h_2 h_3 h_4 h_105 h_106 h_107 h_108 h_109 h_110 h_112 h_113 h_114; omega) | omega, by first | (clear h_1 h_2 h_3 h_4 h_105 h_107 h_108 h_109 h_110 h_111 h_112 h_113 h_114 h_115; omega) | omega⟩) (Or.inr (Or.inl (by first | (clear h_1 h_2 h_3 h_105 h_107 h_108 h_109 h_110 h_111 h_112 h_113 h_114; omega) | omega))) (Or.inr (Or.inl (by first | (clear h_1 h_2 h_3 h_105 h_107 h_108 h_109 h_110 h_111 h_112 h_113 h_114; omega) | omega)))

set_option maxRecDepth 100000 in
set_option maxHeartbeats 4000000 in
theorem L_33_0 {sc : List Int32} {e eg : Int} {d dh u ug P Q P2 Q2 A : Nat} {c m m9 : ME} {e1 jr st si du : Int} {F H : Int → Int} {Z : AR → Prop} (hI : Iv u e P2 Q2 c) (hJ : Iv ug eg P Q m) (hJ9 : Iv ug eg P Q m9) (hA : A = 13 ∨ A = 25) (hq0 : (jr ≤ 5)) (hg_e1 : m 1 1 = e1) (hr_e1 : c 41 3 = e1) (hg_jr : m A 0 = jr) (hr_jr : c 41 16 = jr) (hg_st : m A 1 = st) (hr_st : c 41 17 = st) (hg_si : m A 2 = si) (hr_si : c 41 18 = si) (hg_du : m A 3 = du) (hr_du : c 41 19 = du) (hF : ∀ j : Int, m 2 j = F j) (hH : ∀ j : Int, c 43 j = H j) (hU : Ub F H) (hRt : Rt m c) (hG : Wp sc (dh + 18) 33 0 [(0, .ref A), (1, .ref 1), (2, vi 0)] [] (Wd P Q P P m) 0 0 (fun q => q = (.inl (none), Wd P Q P P m9, 0, 0))) (K : ∀ (c2 : ME), Iv u e P2 Q2 c2 → (∀ (a : Nat) (j : Int), ¬ ((a = 41 ∧ j = 4) ∨ (a = 41 ∧ j = 5) ∨ (a = 41 ∧ j = 6) ∨ (a = 41 ∧ j = 16) ∨ (a = 41 ∧ j = 17) ∨ (a = 41 ∧ j = 18) ∨ (a = 41 ∧ j = 19) ∨ a = 44 ∨ a = 45 ∨ a = 46) → c2 a j = c a j) → (Rt m9 c2) → ((m9 A 0 = c2 41 16)) → ((m9 A 1 = c2 41 17)) → ((m9 A 2 = c2 41 18)) → ((m9 A 3 = c2 41 19)) → Z (.inl (none), Wd P2 Q2 P2 P2 c2, 0, 0)) : Wp sc (d + 18) 168 0 [(0, .ref 41), (1, vi 10290)] [] (Wd P2 Q2 P2 P2 c) 0 0 Z := by
  have hP := iv_P hJ
  have hQ := iv_Q hJ
  have h_1 := ir_1_1 hJ
  have h_2 := ir_41_3 hI
  have h_3 := ir_p0_0 hJ hA
  have h_4 := ir_41_16 hI
  have h_5 := ir_p0_1 hJ hA
  have h_6 := ir_41_17 hI
  have h_7 := ir_p0_2 hJ hA
  have h_8 := ir_41_18 hI
  have h_9 := ir_p0_3 hJ hA
  have h_10 := ir_41_19 hI
  refine gh hG ?_
  refine q_iload_n rfl rfl ?_
  refine v_tsw_i (t := 28) 0 rfl (by omega) (by decide) rfl (by decide) ?_
  refine q_aload_n rfl rfl ?_
  refine q_aload_n rfl rfl ?_
  refine v_gr (t := (A + 1)) rfl rfl (ck_p0 hA) (a68z hA) rfl ?_
  refine q_aload_n rfl rfl ?_
  refine v_gi (z := 0) (v := jr) rfl rfl (ck_p0 hA) (a68z hA) rfl rfl (hg_jr) ?_
  refine q_iconst rfl ?_
  refine v_imul (v := 4 * jr) rfl (by omega) ?_
  refine q_iconst rfl ?_
  refine v_sip rfl (by decide) ?_
  refine q_call rfl rfl rfl rfl ?_
  refine q_iload_n rfl rfl ?_
  refine q_istore rfl (by decide) ?_
  refine q_iload rfl rfl ?_
  refine q_iload_n rfl rfl ?_
  refine q_iload_n rfl rfl ?_
  refine v_iadd (v := 4 * jr + 4) rfl rfl ?_
  refine v_ic_ge_f (t := 34) rfl (by decide) (by omega) ?_
  refine q_iload rfl rfl ?_
  refine q_aload_n rfl rfl ?_
  refine v_al rfl (ck_p1 hA) (a68 hA rfl) (by decide) ?_
  refine v_ic_ge_f (t := 34) rfl (by decide) (by omega) ?_
  refine q_aload_n rfl rfl ?_
  refine q_iload rfl rfl ?_
  refine q_aload_n rfl rfl ?_
  refine q_iload rfl rfl ?_
  have h_11 := ir_1_4 hJ
  refine v_cv rfl rfl rfl rfl (by decide) ⟨⟨rfl, rfl⟩, by decide, rfl⟩ (Nat.le_of_ble_eq_true rfl) (Nat.le_of_ble_eq_true rfl) (fn_of (s_8 (a1 := 999) hJ (show (-1) ≤ 999 ∧ 999 ≤ 9999 from ⟨by decide, by decide⟩) (fun c_12 y_15 hI_13 hF_14 hy_15 h_16 => ?_)))
  intro hG_17
  refine bk_inl ?_
  refine v_is rfl (ck_p1 hA) (a68 hA rfl) (by decide) (by omega) ?_
  refine v_iinc (v := 4 * jr + 1) rfl rfl (by decide) rfl ?_
  refine q_goto (t := 3) rfl (by decide) ?_
  refine q_iload rfl rfl ?_
  refine q_iload_n rfl rfl ?_
  refine q_iload_n rfl rfl ?_
  refine v_iadd (v := 4 * jr + 4) rfl rfl ?_
  refine v_ic_ge_f (t := 34) rfl (by decide) (by omega) ?_
  refine q_iload rfl rfl ?_
  refine q_aload_n rfl rfl ?_
  refine v_al rfl (ck_p1 hA) (a68 hA rfl) (by decide) ?_
  refine v_ic_ge_f (t := 34) rfl (by decide) (by omega) ?_
  refine q_aload_n rfl rfl ?_
  refine q_iload rfl rfl ?_
  refine q_aload_n rfl rfl ?_
  refine q_iload rfl rfl ?_
  have h_18 := ir_1_4 hI_13
  have hI_19 := iw_p1 (j := 4 * jr) (v := y_15) hI_13 hA ⟨hy_15.1, by first | (clear hq0 h_1 h_2 h_3 h_4 h_5 h_6 h_7 h_8 h_9 h_10 h_11 h_18; omega) | omega⟩
  refine v_cv rfl rfl rfl rfl (by decide) ⟨⟨rfl, rfl⟩, by decide, rfl⟩ (Nat.le_of_ble_eq_true rfl) (Nat.le_of_ble_eq_true rfl) (fn_of (s_8 (a1 := 999) hI_19 (show (-1) ≤ 999 ∧ 999 ≤ 9999 from ⟨by decide, by decide⟩) (fun c_20 y_23 hI_21 hF_22 hy_23 h_24 => ?_)))
  intro hG_25
  refine bk_inl ?_
  refine v_is rfl (ck_p1 hA) (a68 hA rfl) (by decide) (by omega) ?_
  refine v_iinc (v := 4 * jr + 2) rfl rfl (by decide) (by first | (clear hq0 h_1 h_2 h_3 h_4 h_5 h_6 h_7 h_8 h_9 h_10 h_11 h_18 h_16 h_24; omega) | omega) ?_
  refine q_goto (t := 3) rfl (by decide) ?_
  refine q_iload rfl rfl ?_
  refine q_iload_n rfl rfl ?_
  refine q_iload_n rfl rfl ?_
  refine v_iadd (v := 4 * jr + 4) rfl rfl ?_
  refine v_ic_ge_f (t := 34) rfl (by decide) ⟨by first | (clear hq0 h_1 h_2 h_3 h_5 h_6 h_7 h_8 h_9 h_10 h_11 h_18 h_16 h_24; omega) | omega, by first | (clear hq0 h_1 h_2 h_3 h_4 h_5 h_6 h_7 h_8 h_9 h_10 h_11 h_18 h_16 h_24; omega) | omega, by first | (clear h_1 h_2 h_3 h_4 h_5 h_6 h_7 h_8 h_9 h_10 h_11 h_18 h_16 h_24; omega) | omega⟩ ?_
  refine q_iload rfl rfl ?_
  refine q_aload_n rfl rfl ?_
  refine v_al rfl (ck_p1 hA) (a68 hA rfl) (by decide) ?_
  refine v_ic_ge_f (t := 34) rfl (by decide) ⟨by first | (clear hq0 h_1 h_2 h_3 h_5 h_6 h_7 h_8 h_9 h_10 h_11 h_18 h_16 h_24; omega) | omega, by first | (clear h_1 h_2 h_3 h_4 h_5 h_6 h_7 h_8 h_9 h_10 h_11 h_18 h_16 h_24; omega) | omega, by decide⟩ ?_
  refine q_aload_n rfl rfl ?_
  refine q_iload rfl rfl ?_
  refine q_aload_n rfl rfl ?_
  refine q_iload rfl rfl ?_
  have h_26 := ir_1_4 hI_21
  have hI_27 := iw_p1 (j := 4 * jr + 1) (v := y_23) hI_21 hA ⟨hy_23.1, by first | (clear hq0 h_1 h_2 h_3 h_4 h_5 h_6 h_7 h_8 h_9 h_10 h_11 h_18 h_26 h_16; omega) | omega⟩
  refine v_cv rfl rfl rfl rfl (by decide) ⟨⟨rfl, rfl⟩, by decide, rfl⟩ (Nat.le_of_ble_eq_true rfl) (Nat.le_of_ble_eq_true rfl) (fn_of (s_8 (a1 := 999) hI_27 (show (-1) ≤ 999 ∧ 999 ≤ 9999 from ⟨by decide, by decide⟩) (fun c_28 y_31 hI_29 hF_30 hy_31 h_32 => ?_)))
  intro hG_33
  refine bk_inl ?_
  refine v_is rfl (ck_p1 hA) (a68 hA rfl) (by decide) (by omega) ?_
  refine v_iinc (v := 4 * jr + 3) rfl rfl (by decide) (by first | (clear hq0 h_1 h_2 h_3 h_4 h_5 h_6 h_7 h_8 h_9 h_10 h_11 h_18 h_26 h_16 h_24 h_32; omega) | omega) ?_
  refine q_goto (t := 3) rfl (by decide) ?_
  refine q_iload rfl rfl ?_
  refine q_iload_n rfl rfl ?_
  refine q_iload_n rfl rfl ?_
  refine v_iadd (v := 4 * jr + 4) rfl rfl ?_
  refine v_ic_ge_f (t := 34) rfl (by decide) ⟨by first | (clear hq0 h_1 h_2 h_3 h_5 h_6 h_7 h_8 h_9 h_10 h_11 h_18 h_26 h_16 h_24 h_32; omega) | omega, by first | (clear hq0 h_1 h_2 h_3 h_4 h_5 h_6 h_7 h_8 h_9 h_10 h_11 h_18 h_26 h_16 h_24 h_32; omega) | omega, by first | (clear h_1 h_2 h_3 h_4 h_5 h_6 h_7 h_8 h_9 h_10 h_11 h_18 h_26 h_16 h_24 h_32; omega) | omega⟩ ?_
  refine q_iload rfl rfl ?_
  refine q_aload_n rfl rfl ?_
  refine v_al rfl (ck_p1 hA) (a68 hA rfl) (by decide) ?_
  refine v_ic_ge_f (t := 34) rfl (by decide) ⟨by first | (clear hq0 h_1 h_2 h_3 h_5 h_6 h_7 h_8 h_9 h_10 h_11 h_18 h_26 h_16 h_24 h_32; omega) | omega, by first | (clear h_1 h_2 h_3 h_4 h_5 h_6 h_7 h_8 h_9 h_10 h_11 h_18 h_26 h_16 h_24 h_32; omega) | omega, by decide⟩ ?_
  refine q_aload_n rfl rfl ?_
  refine q_iload rfl rfl ?_
  refine q_aload_n rfl rfl ?_
  refine q_iload rfl rfl ?_
  have h_34 := ir_1_4 hI_29
  have hI_35 := iw_p1 (j := 4 * jr + 2) (v := y_31) hI_29 hA ⟨hy_31.1, by first | (clear hq0 h_1 h_2 h_3 h_4 h_5 h_6 h_7 h_8 h_9 h_10 h_11 h_18 h_26 h_34 h_16 h_24; omega) | omega⟩
  refine v_cv rfl rfl rfl rfl (by decide) ⟨⟨rfl, rfl⟩, by decide, rfl⟩ (Nat.le_of_ble_eq_true rfl) (Nat.le_of_ble_eq_true rfl) (fn_of (s_8 (a1 := 999) hI_35 (show (-1) ≤ 999 ∧ 999 ≤ 9999 from ⟨by decide, by decide⟩) (fun c_36 y_39 hI_37 hF_38 hy_39 h_40 => ?_)))
  intro hG_41
  refine bk_inl ?_
  refine v_is rfl (ck_p1 hA) (a68 hA rfl) (by decide) (by omega) ?_
  refine v_iinc (v := 4 * jr + 4) rfl rfl (by decide) (by first | (clear hq0 h_1 h_2 h_3 h_4 h_5 h_6 h_7 h_8 h_9 h_10 h_11 h_18 h_26 h_34 h_16 h_24 h_32 h_40; omega) | omega) ?_
  refine Wp_ls [(5, vi (4 * jr + 4)), (0, .ref 1), (1, .ref (A + 1)), (2, vi (4 * jr)), (3, vi 4), (4, vi 999)] (lsub_cons rfl (lsub_cons rfl (lsub_cons rfl (lsub_cons rfl (lsub_cons rfl (lsub_cons rfl lsub_nil)))))) ?_
  refine q_goto (t := 3) rfl (by decide) ?_
  refine q_iload rfl rfl ?_
  refine q_iload_n rfl rfl ?_
  refine q_iload_n rfl rfl ?_
  refine v_iadd (v := 4 * jr + 4) rfl rfl ?_
  refine v_ic_ge_t (t := 34) rfl (by decide) ⟨by first | (clear hq0 h_1 h_2 h_3 h_5 h_6 h_7 h_8 h_9 h_10 h_11 h_18 h_26 h_34 h_16 h_24 h_32 h_40; omega) | omega, by first | (clear hq0 h_1 h_2 h_3 h_4 h_5 h_6 h_7 h_8 h_9 h_10 h_11 h_18 h_26 h_34 h_16 h_24 h_32 h_40; omega) | omega, by first | (clear h_1 h_2 h_3 h_4 h_5 h_6 h_7 h_8 h_9 h_10 h_11 h_18 h_26 h_34 h_16 h_24 h_32 h_40; omega) | omega⟩ ?_
  refine q_vret rfl rfl ?_
  refine bk_inl ?_
  refine q_aload_n rfl rfl ?_
  refine q_dup rfl rfl ?_
  have kn_42 : Hid (c_12 A 0 = jr) := (hF_14 A 0 (fun q => q.elim (fun h => absurd h.1 (np0 hA rfl)) (fun q => q.elim (fun h => absurd h.1 (np0 hA rfl)) (fun h => absurd h.1 (np0 hA rfl))))).trans (hg_jr)
  have kn_43 : Hid (c_20 A 0 = jr) := (hF_22 A 0 (fun q => q.elim (fun h => absurd h.1 (np0 hA rfl)) (fun q => q.elim (fun h => absurd h.1 (np0 hA rfl)) (fun h => absurd h.1 (np0 hA rfl))))).trans ((up_c (p0p rfl)).trans (hid kn_42))
  have kn_44 : Hid (c_28 A 0 = jr) := (hF_30 A 0 (fun q => q.elim (fun h => absurd h.1 (np0 hA rfl)) (fun q => q.elim (fun h => absurd h.1 (np0 hA rfl)) (fun h => absurd h.1 (np0 hA rfl))))).trans ((up_c (p0p rfl)).trans (hid kn_43))
  have kn_45 : Hid (c_36 A 0 = jr) := (hF_38 A 0 (fun q => q.elim (fun h => absurd h.1 (np0 hA rfl)) (fun q => q.elim (fun h => absurd h.1 (np0 hA rfl)) (fun h => absurd h.1 (np0 hA rfl))))).trans ((up_c (p0p rfl)).trans (hid kn_44))
  refine v_gi (z := 0) (v := jr) rfl rfl (ck_p0 hA) (a68z hA) rfl rfl ((up_c (p0p rfl)).trans (hid kn_45)) ?_
  refine q_iconst rfl ?_
  refine v_iadd (v := jr + 1) rfl rfl ?_
  refine v_pi (z := 0) rfl rfl (ck_p0 hA) (a68z hA) rfl rfl rfl (by decide) ?_
  refine q_goto (t := 126) rfl (by decide) ?_
  refine q_vret rfl rfl ?_
  have hI_46 := iw_p1 (j := 4 * jr + 3) (v := y_39) hI_37 hA ⟨hy_39.1, by first | (clear hq0 h_1 h_2 h_3 h_4 h_5 h_6 h_7 h_8 h_9 h_10 h_11 h_18 h_26 h_34 h_16 h_24 h_32; omega) | omega⟩
  have hI_47 := iw_p0_0 (v := jr + 1) hI_46 hA ⟨by first | exact rgp_l (rg_eq hg_jr h_3).1 (by decide) | omega, by first | (clear h_1 h_2 h_3 h_4 h_5 h_6 h_7 h_8 h_9 h_10 h_11 h_18 h_26 h_34 h_16 h_24 h_32 h_40; omega) | omega⟩
  intro hE_48
  have hW : Wd P Q P P (up (up c_36 (A + 1) (4 * jr + 3) y_39) A 0 (jr + 1)) = Wd P Q P P m9 := (Prod.mk.inj (Prod.mk.inj hE_48).2).1
  have h_49 := ir_1_4 hI_37
  have h_50 := ir_1_4 hJ9
  have h_51 : m9 1 4 = c_36 1 4 := wd_fv (z := 4) 4 rfl hW rfl rfl rfl rfl (by decide) ((up_c (pn0 hA rfl)).trans (up_c (pn hA rfl rfl))) ⟨(Int.le_trans (by decide) h_49.1), (Int.le_trans h_49.2 (by decide))⟩ ⟨(Int.le_trans (by decide) h_50.1), (Int.le_trans h_50.2 (by decide))⟩
  have h_52 := ir_1_2 hI_37
  have h_53 := ir_1_2 hJ9
  have h_54 : m9 1 2 = c_36 1 2 := wd_fv (z := 2) 2 rfl hW rfl rfl rfl rfl (by decide) ((up_c (pn0 hA rfl)).trans (up_c (pn hA rfl rfl))) ⟨(Int.le_trans (by decide) h_52.1), (Int.le_trans h_52.2 (by decide))⟩ ⟨(Int.le_trans (by decide) h_53.1), (Int.le_trans h_53.2 (by decide))⟩
  have h_55 := ir_1_5 hI_37
  have h_56 := ir_1_5 hJ9
  have h_57 : m9 1 5 = c_36 1 5 := wd_fv (z := 5) 5 rfl hW rfl rfl rfl rfl (by decide) ((up_c (pn0 hA rfl)).trans (up_c (pn hA rfl rfl))) ⟨(Int.le_trans (by decide) h_55.1), (Int.le_trans h_55.2 (by decide))⟩ ⟨(Int.le_trans (by decide) h_56.1), (Int.le_trans h_56.2 (by decide))⟩
  have h_58 := ir_p0_0 hJ9 hA
  have h_59 : m9 A 0 = jr + 1 := wd_fv (z := 0) 0 rfl hW (ck_p0 hA) (ck_p0 hA) rfl rfl (by omega) (up_e rfl) ⟨by first | exact rgp_l (rg_eq hg_jr h_3).1 (by decide) | omega, by first | exact rgp_h (rg_eq hg_jr h_3).2 (by decide) | omega⟩ ⟨(Int.le_trans (by decide) h_58.1), (Int.le_trans h_58.2 (by decide))⟩
  have kn_60 : Hid (c_12 A 1 = st) := (hF_14 A 1 (fun q => q.elim (fun h => absurd h.1 (np0 hA rfl)) (fun q => q.elim (fun h => absurd h.1 (np0 hA rfl)) (fun h => absurd h.1 (np0 hA rfl))))).trans (hg_st)
  have kn_61 : Hid (c_20 A 1 = st) := (hF_22 A 1 (fun q => q.elim (fun h => absurd h.1 (np0 hA rfl)) (fun q => q.elim (fun h => absurd h.1 (np0 hA rfl)) (fun h => absurd h.1 (np0 hA rfl))))).trans ((up_c (p0p rfl)).trans (hid kn_60))
  have kn_62 : Hid (c_28 A 1 = st) := (hF_30 A 1 (fun q => q.elim (fun h => absurd h.1 (np0 hA rfl)) (fun q => q.elim (fun h => absurd h.1 (np0 hA rfl)) (fun h => absurd h.1 (np0 hA rfl))))).trans ((up_c (p0p rfl)).trans (hid kn_61))
  have kn_63 : Hid (c_36 A 1 = st) := (hF_38 A 1 (fun q => q.elim (fun h => absurd h.1 (np0 hA rfl)) (fun q => q.elim (fun h => absurd h.1 (np0 hA rfl)) (fun h => absurd h.1 (np0 hA rfl))))).trans ((up_c (p0p rfl)).trans (hid kn_62))
  have h_64 := ir_p0_1 hJ9 hA
  have h_65 : m9 A 1 = st := wd_fv (z := 1) 1 rfl hW (ck_p0 hA) (ck_p0 hA) rfl rfl (by omega) ((up_n (by decide)).trans ((up_c (p0p rfl)).trans (hid kn_63))) ⟨(Int.le_trans (by decide) (rg_eq hg_st h_5).1), (Int.le_trans (rg_eq hg_st h_5).2 (by decide))⟩ ⟨(Int.le_trans (by decide) h_64.1), (Int.le_trans h_64.2 (by decide))⟩
  have kn_66 : Hid (c_12 A 2 = si) := (hF_14 A 2 (fun q => q.elim (fun h => absurd h.1 (np0 hA rfl)) (fun q => q.elim (fun h => absurd h.1 (np0 hA rfl)) (fun h => absurd h.1 (np0 hA rfl))))).trans (hg_si)
  have kn_67 : Hid (c_20 A 2 = si) := (hF_22 A 2 (fun q => q.elim (fun h => absurd h.1 (np0 hA rfl)) (fun q => q.elim (fun h => absurd h.1 (np0 hA rfl)) (fun h => absurd h.1 (np0 hA rfl))))).trans ((up_c (p0p rfl)).trans (hid kn_66))
  have kn_68 : Hid (c_28 A 2 = si) := (hF_30 A 2 (fun q => q.elim (fun h => absurd h.1 (np0 hA rfl)) (fun q => q.elim (fun h => absurd h.1 (np0 hA rfl)) (fun h => absurd h.1 (np0 hA rfl))))).trans ((up_c (p0p rfl)).trans (hid kn_67))
  have kn_69 : Hid (c_36 A 2 = si) := (hF_38 A 2 (fun q => q.elim (fun h => absurd h.1 (np0 hA rfl)) (fun q => q.elim (fun h => absurd h.1 (np0 hA rfl)) (fun h => absurd h.1 (np0 hA rfl))))).trans ((up_c (p0p rfl)).trans (hid kn_68))
  have h_70 := ir_p0_2 hJ9 hA
  have h_71 : m9 A 2 = si := wd_fv (z := 2) 2 rfl hW (ck_p0 hA) (ck_p0 hA) rfl rfl (by omega) ((up_n (by decide)).trans ((up_c (p0p rfl)).trans (hid kn_69))) ⟨(Int.le_trans (by decide) (rg_eq hg_si h_7).1), (Int.le_trans (rg_eq hg_si h_7).2 (by decide))⟩ ⟨(Int.le_trans (by decide) h_70.1), (Int.le_trans h_70.2 (by decide))⟩
  have kn_72 : Hid (c_12 A 3 = du) := (hF_14 A 3 (fun q => q.elim (fun h => absurd h.1 (np0 hA rfl)) (fun q => q.elim (fun h => absurd h.1 (np0 hA rfl)) (fun h => absurd h.1 (np0 hA rfl))))).trans (hg_du)
  have kn_73 : Hid (c_20 A 3 = du) := (hF_22 A 3 (fun q => q.elim (fun h => absurd h.1 (np0 hA rfl)) (fun q => q.elim (fun h => absurd h.1 (np0 hA rfl)) (fun h => absurd h.1 (np0 hA rfl))))).trans ((up_c (p0p rfl)).trans (hid kn_72))
  have kn_74 : Hid (c_28 A 3 = du) := (hF_30 A 3 (fun q => q.elim (fun h => absurd h.1 (np0 hA rfl)) (fun q => q.elim (fun h => absurd h.1 (np0 hA rfl)) (fun h => absurd h.1 (np0 hA rfl))))).trans ((up_c (p0p rfl)).trans (hid kn_73))
  have kn_75 : Hid (c_36 A 3 = du) := (hF_38 A 3 (fun q => q.elim (fun h => absurd h.1 (np0 hA rfl)) (fun q => q.elim (fun h => absurd h.1 (np0 hA rfl)) (fun h => absurd h.1 (np0 hA rfl))))).trans ((up_c (p0p rfl)).trans (hid kn_74))
  have h_76 := ir_p0_3 hJ9 hA
  have h_77 : m9 A 3 = du := wd_fv (z := 3) 3 rfl hW (ck_p0 hA) (ck_p0 hA) rfl rfl (by omega) ((up_n (by decide)).trans ((up_c (p0p rfl)).trans (hid kn_75))) ⟨(Int.le_trans (by decide) (rg_eq hg_du h_9).1), (Int.le_trans (rg_eq hg_du h_9).2 (by decide))⟩ ⟨(Int.le_trans (by decide) h_76.1), (Int.le_trans h_76.2 (by decide))⟩
  refine q_iload_n rfl rfl ?_
  refine q_ldc_s rfl rfl rfl (by decide) ?_
  refine q_call rfl rfl rfl rfl (s_158_16 ?_)
  refine bk_inl ?_
  refine v_ic_ne_f (t := 56) rfl (by decide) (by decide) ?_
  refine q_iconst rfl ?_
  refine q_istore_n rfl (by decide) ?_
  refine q_iload_n rfl rfl ?_
  refine q_iconst rfl ?_
  refine v_ic_ge_f (t := 43) rfl (by decide) (by decide) ?_
  refine q_aload_n rfl rfl ?_
  refine v_gr (t := 44) rfl rfl rfl (by decide) rfl ?_
  refine q_iconst rfl ?_
  refine q_aload_n rfl rfl ?_
  refine v_gi (z := 16) (v := jr) rfl rfl rfl (by decide) rfl rfl (hr_jr) ?_
  refine v_imul (v := 4 * jr) rfl rfl ?_
  refine q_iload_n rfl rfl ?_
  refine v_iadd (v := 4 * jr) rfl (by first | (clear hq0 h_1 h_2 h_3 h_4 h_5 h_6 h_7 h_8 h_9 h_10 h_11 h_18 h_26 h_34 h_49 h_50 h_51 h_52 h_53 h_54 h_55 h_56 h_57 h_58 h_59 h_64 h_65 h_70 h_71 h_76 h_77 h_16 h_24 h_32 h_40; omega) | omega) ?_
  refine q_aload_n rfl rfl ?_
  refine q_iconst rfl ?_
  refine v_sip rfl (by decide) ?_
  have h_78 := ir_1_2 hJ
  refine v_cv rfl rfl rfl rfl (by decide) ⟨⟨rfl, rfl⟩, by decide, rfl⟩ (Nat.le_of_ble_eq_true rfl) (Nat.le_of_ble_eq_true rfl) (L_8 (m := m) (a2 := 999) (yg := y_15) (e1 := e1) (a9 := m 1 2) (f0 := m 1 4) (F := F) (H := H) hI hJ hI_13 (show (-1) ≤ 999 ∧ 999 ≤ 9999 from ⟨by decide, by decide⟩) ⟨by omega, by omega⟩ ((hg_e1)) ((hr_e1)) (rfl) (rfl) (fun j => hF j) (fun j => hH j) hU hRt hG_17 (fun c_79 y_82 hI_80 hF_81 hy_82 hR_83 h_84 h_85 h_86 h_87 => ?_))
  refine bk_inl ?_
  have hs_88 := h_84.symm
  subst hs_88
  have h_89 := ir_1_2 hI_13
  refine v_is rfl rfl (by decide) (by decide) (by omega) ?_
  refine v_iinc (v := 1) rfl rfl (by decide) (by decide) ?_
  refine q_goto (t := 11) rfl (by decide) ?_
  refine q_iload_n rfl rfl ?_
  refine q_iconst rfl ?_
  refine v_ic_ge_f (t := 43) rfl (by decide) (by decide) ?_
  refine q_aload_n rfl rfl ?_
  refine v_gr (t := 44) rfl rfl rfl (by decide) rfl ?_
  refine q_iconst rfl ?_
  refine q_aload_n rfl rfl ?_
  have kn_90 : Hid (c_79 41 16 = jr) := (hF_81 41 16 (fun q => q.elim (fun h => absurd h.2 (ni rfl)) (fun q => q.elim (fun h => absurd h.2 (ni rfl)) (fun h => absurd h.2 (ni rfl))))).trans (hr_jr)
  refine v_gi (z := 16) (v := jr) rfl rfl rfl (by decide) rfl rfl ((up_c (nn rfl)).trans (hid kn_90)) ?_
  refine v_imul (v := 4 * jr) rfl rfl ?_
  refine q_iload_n rfl rfl ?_
  refine v_iadd (v := 4 * jr + 1) rfl rfl ?_
  refine q_aload_n rfl rfl ?_
  refine q_iconst rfl ?_
  refine v_sip rfl (by decide) ?_
  have hI_91 := iw_44 (j := 4 * jr) (v := y_15) hI_80 ⟨hy_15.1, by first | (clear hq0 h_1 h_2 h_3 h_4 h_5 h_6 h_7 h_8 h_9 h_10 h_11 h_18 h_26 h_34 h_49 h_50 h_51 h_52 h_53 h_54 h_55 h_56 h_57 h_58 h_59 h_64 h_65 h_70 h_71 h_76 h_77 h_78 h_89 h_24 h_32 h_40 h_85 h_86; omega) | omega⟩
  have kn_92 : Hid (c_12 1 1 = e1) := (hF_14 1 1 (fun q => q.elim (fun h => absurd h.2 (ni rfl)) (fun q => q.elim (fun h => absurd h.2 (ni rfl)) (fun h => absurd h.2 (ni rfl))))).trans (hg_e1)
  have kn_93 : Hid (c_79 41 3 = e1) := (hF_81 41 3 (fun q => q.elim (fun h => absurd h.2 (ni rfl)) (fun q => q.elim (fun h => absurd h.2 (ni rfl)) (fun h => absurd h.2 (ni rfl))))).trans (hr_e1)
  refine v_cv rfl rfl rfl rfl (by decide) ⟨⟨rfl, rfl⟩, by decide, rfl⟩ (Nat.le_of_ble_eq_true rfl) (Nat.le_of_ble_eq_true rfl) (L_8 (m := up c_12 (A + 1) (4 * jr) y_15) (a2 := 999) (yg := y_23) (e1 := e1) (a9 := c_12 1 2) (f0 := c_12 1 4) (F := F) (H := H) hI_91 hI_19 hI_21 (show (-1) ≤ 999 ∧ 999 ≤ 9999 from ⟨by decide, by decide⟩) ⟨by omega, by omega⟩ (((up_c (pn hA rfl rfl)).trans (hid kn_92))) (((up_c (nn rfl)).trans (hid kn_93))) ((up_c (pn hA rfl rfl))) ((up_c (pn hA rfl rfl))) (fun j => ((up_c (pn hA rfl rfl)).trans (hF_14 2 j (fun q => q.elim (fun h => absurd h.1 (nn rfl)) (fun q => q.elim (fun h => absurd h.1 (nn rfl)) (fun h => absurd h.1 (nn rfl)))))).trans (hF j)) (fun j => ((up_c (nn rfl)).trans (hF_81 43 j (fun q => q.elim (fun h => absurd h.1 (nn rfl)) (fun q => q.elim (fun h => absurd h.1 (nn rfl)) (fun h => absurd h.1 (nn rfl)))))).trans (hH j)) hU (rt_fr hR_83 (up_c (pn hA rfl rfl)) (up_c (pn hA rfl rfl)) (up_c (pn hA rfl rfl)) (up_c (nn rfl)) (up_c (nn rfl)) (up_c (nn rfl))) hG_25 (fun c_94 y_97 hI_95 hF_96 hy_97 hR_98 h_99 h_100 h_101 h_102 => ?_))
  refine bk_inl ?_
  have hs_103 := h_99.symm
  subst hs_103
  have h_104 := ir_1_2 hI_21
  refine v_is rfl rfl (by decide) (by decide) (by omega) ?_
  refine v_iinc (v := 2) rfl rfl (by decide) (by decide) ?_
  refine q_goto (t := 11) rfl (by decide) ?_
  refine q_iload_n rfl rfl ?_
  refine q_iconst rfl ?_
  refine v_ic_ge_f (t := 43) rfl (by decide) (by decide) ?_
  refine q_aload_n rfl rfl ?_
  refine v_gr (t := 44) rfl rfl rfl (by decide) rfl ?_
  refine q_iconst rfl ?_
  refine q_aload_n rfl rfl ?_
  have kn_105 : Hid (c_94 41 16 = jr) := (hF_96 41 16 (fun q => q.elim (fun h => absurd h.2 (ni rfl)) (fun q => q.elim (fun h => absurd h.2 (ni rfl)) (fun h => absurd h.2 (ni rfl))))).trans ((up_c (nn rfl)).trans (hid kn_90))
  refine v_gi (z := 16) (v := jr) rfl rfl rfl (by decide) rfl rfl ((up_c (nn rfl)).trans (hid kn_105)) ?_
  refine v_imul (v := 4 * jr) rfl rfl ?_
  refine q_iload_n rfl rfl ?_
  refine v_iadd (v := 4 * jr + 2) rfl rfl ?_
  refine q_aload_n rfl rfl ?_
  refine q_iconst rfl ?_
  refine v_sip rfl (by decide) ?_
  have hI_106 := iw_44 (j := 4 * jr + 1) (v := y_23) hI_95 ⟨hy_23.1, by first | (clear hq0 h_1 h_2 h_3 h_4 h_5 h_6 h_7 h_8 h_9 h_10 h_11 h_18 h_26 h_34 h_49 h_50 h_51 h_52 h_53 h_54 h_55 h_56 h_57 h_58 h_59 h_64 h_65 h_70 h_71 h_76 h_77 h_78 h_89 h_104 h_16 h_32 h_40 h_85 h_86 h_87 h_100 h_101; omega) | omega⟩
  have kn_107 : Hid (c_20 1 1 = e1) := (hF_22 1 1 (fun q => q.elim (fun h => absurd h.2 (ni rfl)) (fun q => q.elim (fun h => absurd h.2 (ni rfl)) (fun h => absurd h.2 (ni rfl))))).trans ((up_c (pn hA rfl rfl)).trans (hid kn_92))
  have kn_108 : Hid (c_94 41 3 = e1) := (hF_96 41 3 (fun q => q.elim (fun h => absurd h.2 (ni rfl)) (fun q => q.elim (fun h => absurd h.2 (ni rfl)) (fun h => absurd h.2 (ni rfl))))).trans ((up_c (nn rfl)).trans (hid kn_93))
  refine v_cv rfl rfl rfl rfl (by decide) ⟨⟨rfl, rfl⟩, by decide, rfl⟩ (Nat.le_of_ble_eq_true rfl) (Nat.le_of_ble_eq_true rfl) (L_8 (m := up c_20 (A + 1) (4 * jr + 1) y_23) (a2 := 999) (yg := y_31) (e1 := e1) (a9 := c_20 1 2) (f0 := c_20 1 4) (F := F) (H := H) hI_106 hI_27 hI_29 (show (-1) ≤ 999 ∧ 999 ≤ 9999 from ⟨by decide, by decide⟩) ⟨by omega, by omega⟩ (((up_c (pn hA rfl rfl)).trans (hid kn_107))) (((up_c (nn rfl)).trans (hid kn_108))) ((up_c (pn hA rfl rfl))) ((up_c (pn hA rfl rfl))) (fun j => ((up_c (pn hA rfl rfl)).trans ((hF_22 2 j (fun q => q.elim (fun h => absurd h.1 (nn rfl)) (fun q => q.elim (fun h => absurd h.1 (nn rfl)) (fun h => absurd h.1 (nn rfl))))).trans ((up_c (pn hA rfl rfl)).trans (hF_14 2 j (fun q => q.elim (fun h => absurd h.1 (nn rfl)) (fun q => q.elim (fun h => absurd h.1 (nn rfl)) (fun h => absurd h.1 (nn rfl)))))))).trans (hF j)) (fun j => ((up_c (nn rfl)).trans ((hF_96 43 j (fun q => q.elim (fun h => absurd h.1 (nn rfl)) (fun q => q.elim (fun h => absurd h.1 (nn rfl)) (fun h => absurd h.1 (nn rfl))))).trans ((up_c (nn rfl)).trans (hF_81 43 j (fun q => q.elim (fun h => absurd h.1 (nn rfl)) (fun q => q.elim (fun h => absurd h.1 (nn rfl)) (fun h => absurd h.1 (nn rfl)))))))).trans (hH j)) hU (rt_fr hR_98 (up_c (pn hA rfl rfl)) (up_c (pn hA rfl rfl)) (up_c (pn hA rfl rfl)) (up_c (nn rfl)) (up_c (nn rfl)) (up_c (nn rfl))) hG_33 (fun c_109 y_112 hI_110 hF_111 hy_112 hR_113 h_114 h_115 h_116 h_117 => ?_))
  refine bk_inl ?_
  have hs_118 := h_114.symm
  subst hs_118
  have h_119 := ir_1_2 hI_29
  refine v_is rfl rfl (by decide) (by decide) (by omega) ?_
  refine v_iinc (v := 3) rfl rfl (by decide) (by decide) ?_
  refine q_goto (t := 11) rfl (by decide) ?_
  refine q_iload_n rfl rfl ?_
  refine q_iconst rfl ?_
  refine v_ic_ge_f (t := 43) rfl (by decide) (by decide) ?_
  refine q_aload_n rfl rfl ?_
  refine v_gr (t := 44) rfl rfl rfl (by decide) rfl ?_
  refine q_iconst rfl ?_
  refine q_aload_n rfl rfl ?_
  have kn_120 : Hid (c_109 41 16 = jr) := (hF_111 41 16 (fun q => q.elim (fun h => absurd h.2 (ni rfl)) (fun q => q.elim (fun h => absurd h.2 (ni rfl)) (fun h => absurd h.2 (ni rfl))))).trans ((up_c (nn rfl)).trans (hid kn_105))
  refine v_gi (z := 16) (v := jr) rfl rfl rfl (by decide) rfl rfl ((up_c (nn rfl)).trans (hid kn_120)) ?_
  refine v_imul (v := 4 * jr) rfl rfl ?_
  refine q_iload_n rfl rfl ?_
  refine v_iadd (v := 4 * jr + 3) rfl rfl ?_
  refine q_aload_n rfl rfl ?_
  refine q_iconst rfl ?_
  refine v_sip rfl (by decide) ?_
  have hI_121 := iw_44 (j := 4 * jr + 2) (v := y_31) hI_110 ⟨hy_31.1, by first | (clear hq0 h_1 h_2 h_3 h_4 h_5 h_6 h_7 h_8 h_9 h_10 h_11 h_18 h_26 h_34 h_49 h_50 h_51 h_52 h_53 h_54 h_55 h_56 h_57 h_58 h_59 h_64 h_65 h_70 h_71 h_76 h_77 h_78 h_89 h_104 h_119 h_16 h_24 h_40 h_85 h_86 h_87 h_100 h_101 h_102 h_115 h_116; omega) | omega⟩
  have kn_122 : Hid (c_28 1 1 = e1) := (hF_30 1 1 (fun q => q.elim (fun h => absurd h.2 (ni rfl)) (fun q => q.elim (fun h => absurd h.2 (ni rfl)) (fun h => absurd h.2 (ni rfl))))).trans ((up_c (pn hA rfl rfl)).trans (hid kn_107))
  have kn_123 : Hid (c_109 41 3 = e1) := (hF_111 41 3 (fun q => q.elim (fun h => absurd h.2 (ni rfl)) (fun q => q.elim (fun h => absurd h.2 (ni rfl)) (fun h => absurd h.2 (ni rfl))))).trans ((up_c (nn rfl)).trans (hid kn_108))
  refine v_cv rfl rfl rfl rfl (by decide) ⟨⟨rfl, rfl⟩, by decide, rfl⟩ (Nat.le_of_ble_eq_true rfl) (Nat.le_of_ble_eq_true rfl) (L_8 (m := up c_28 (A + 1) (4 * jr + 2) y_31) (a2 := 999) (yg := y_39) (e1 := e1) (a9 := c_28 1 2) (f0 := c_28 1 4) (F := F) (H := H) hI_121 hI_35 hI_37 (show (-1) ≤ 999 ∧ 999 ≤ 9999 from ⟨by decide, by decide⟩) ⟨by omega, by omega⟩ (((up_c (pn hA rfl rfl)).trans (hid kn_122))) (((up_c (nn rfl)).trans (hid kn_123))) ((up_c (pn hA rfl rfl))) ((up_c (pn hA rfl rfl))) (fun j => ((up_c (pn hA rfl rfl)).trans ((hF_30 2 j (fun q => q.elim (fun h => absurd h.1 (nn rfl)) (fun q => q.elim (fun h => absurd h.1 (nn rfl)) (fun h => absurd h.1 (nn rfl))))).trans ((up_c (pn hA rfl rfl)).trans ((hF_22 2 j (fun q => q.elim (fun h => absurd h.1 (nn rfl)) (fun q => q.elim (fun h => absurd h.1 (nn rfl)) (fun h => absurd h.1 (nn rfl))))).trans ((up_c (pn hA rfl rfl)).trans (hF_14 2 j (fun q => q.elim (fun h => absurd h.1 (nn rfl)) (fun q => q.elim (fun h => absurd h.1 (nn rfl)) (fun h => absurd h.1 (nn rfl)))))))))).trans (hF j)) (fun j => ((up_c (nn rfl)).trans ((hF_111 43 j (fun q => q.elim (fun h => absurd h.1 (nn rfl)) (fun q => q.elim (fun h => absurd h.1 (nn rfl)) (fun h => absurd h.1 (nn rfl))))).trans ((up_c (nn rfl)).trans ((hF_96 43 j (fun q => q.elim (fun h => absurd h.1 (nn rfl)) (fun q => q.elim (fun h => absurd h.1 (nn rfl)) (fun h => absurd h.1 (nn rfl))))).trans ((up_c (nn rfl)).trans (hF_81 43 j (fun q => q.elim (fun h => absurd h.1 (nn rfl)) (fun q => q.elim (fun h => absurd h.1 (nn rfl)) (fun h => absurd h.1 (nn rfl)))))))))).trans (hH j)) hU (rt_fr hR_113 (up_c (pn hA rfl rfl)) (up_c (pn hA rfl rfl)) (up_c (pn hA rfl rfl)) (up_c (nn rfl)) (up_c (nn rfl)) (up_c (nn rfl))) hG_41 (fun c_124 y_127 hI_125 hF_126 hy_127 hR_128 h_129 h_130 h_131 h_132 => ?_))
  refine bk_inl ?_
  have hs_133 := h_129.symm
  subst hs_133
  refine v_is rfl rfl (by decide) (by decide) (by omega) ?_
  refine v_iinc (v := 4) rfl rfl (by decide) (by decide) ?_
  refine Wp_ls [(2, vi 4), (0, .ref 41), (1, vi 10290)] (lsub_cons rfl (lsub_cons rfl (lsub_cons rfl lsub_nil))) ?_
  refine q_goto (t := 11) rfl (by decide) ?_
  refine q_iload_n rfl rfl ?_
  refine q_iconst rfl ?_
  refine v_ic_ge_t (t := 43) rfl (by decide) (by decide) ?_
  refine q_aload_n rfl rfl ?_
  refine q_dup rfl rfl ?_
  have kn_134 : Hid (c_124 41 16 = jr) := (hF_126 41 16 (fun q => q.elim (fun h => absurd h.2 (ni rfl)) (fun q => q.elim (fun h => absurd h.2 (ni rfl)) (fun h => absurd h.2 (ni rfl))))).trans ((up_c (nn rfl)).trans (hid kn_120))
  refine v_gi (z := 16) (v := jr) rfl rfl rfl (by decide) rfl rfl ((up_c (nn rfl)).trans (hid kn_134)) ?_
  refine q_iconst rfl ?_
  refine v_iadd (v := jr + 1) rfl rfl ?_
  refine v_pi (z := 16) rfl rfl rfl (by decide) rfl rfl rfl (by decide) ?_
  refine q_goto (t := 159) rfl (by decide) ?_
  refine q_vret rfl rfl ?_
  have hI_135 := iw_44 (j := 4 * jr + 3) (v := y_39) hI_125 ⟨hy_39.1, by first | (clear hq0 h_1 h_2 h_3 h_4 h_5 h_6 h_7 h_8 h_9 h_10 h_11 h_18 h_26 h_34 h_49 h_50 h_51 h_52 h_53 h_54 h_55 h_56 h_57 h_58 h_59 h_64 h_65 h_70 h_71 h_76 h_77 h_78 h_89 h_104 h_119 h_16 h_24 h_32 h_85 h_86 h_87 h_100 h_101 h_102 h_115 h_116 h_117 h_130 h_131; omega) | omega⟩
  have hI_136 := iw_41_16 (v := jr + 1) hI_135 ⟨by first | exact rgp_l (rg_eq hg_jr h_3).1 (by decide) | omega, by first | (clear h_1 h_2 h_3 h_4 h_5 h_6 h_7 h_8 h_9 h_10 h_11 h_18 h_26 h_34 h_49 h_50 h_51 h_52 h_53 h_54 h_55 h_56 h_57 h_58 h_59 h_64 h_65 h_70 h_71 h_76 h_77 h_78 h_89 h_104 h_119 h_16 h_24 h_32 h_40 h_85 h_86 h_87 h_100 h_101 h_102 h_115 h_116 h_117 h_130 h_131 h_132; omega) | omega⟩
  have h_137 := ir_41_5 hI_125
  have h_138 := ir_41_4 hI_125
  have h_139 := ir_41_6 hI_125
  have h_140 := rt_or hR_128
  have h_141 : (up (up c_124 44 (4 * jr + 3) y_39) 41 16 (jr + 1)) 41 5 = c_124 41 5 := ((up_n (by decide)).trans (up_c (nn rfl)))
  have h_142 : (up (up c_124 44 (4 * jr + 3) y_39) 41 16 (jr + 1)) 41 4 = c_124 41 4 := ((up_n (by decide)).trans (up_c (nn rfl)))
  have h_143 : (up (up c_124 44 (4 * jr + 3) y_39) 41 16 (jr + 1)) 41 6 = c_124 41 6 := ((up_n (by decide)).trans (up_c (nn rfl)))
  have h_144 : (up (up c_124 44 (4 * jr + 3) y_39) 41 16 (jr + 1)) 41 16 = jr + 1 := (up_e rfl)
  have kn_145 : Hid (c_79 41 17 = st) := (hF_81 41 17 (fun q => q.elim (fun h => absurd h.2 (ni rfl)) (fun q => q.elim (fun h => absurd h.2 (ni rfl)) (fun h => absurd h.2 (ni rfl))))).trans (hr_st)
  have kn_146 : Hid (c_94 41 17 = st) := (hF_96 41 17 (fun q => q.elim (fun h => absurd h.2 (ni rfl)) (fun q => q.elim (fun h => absurd h.2 (ni rfl)) (fun h => absurd h.2 (ni rfl))))).trans ((up_c (nn rfl)).trans (hid kn_145))
  have kn_147 : Hid (c_109 41 17 = st) := (hF_111 41 17 (fun q => q.elim (fun h => absurd h.2 (ni rfl)) (fun q => q.elim (fun h => absurd h.2 (ni rfl)) (fun h => absurd h.2 (ni rfl))))).trans ((up_c (nn rfl)).trans (hid kn_146))
  have kn_148 : Hid (c_124 41 17 = st) := (hF_126 41 17 (fun q => q.elim (fun h => absurd h.2 (ni rfl)) (fun q => q.elim (fun h => absurd h.2 (ni rfl)) (fun h => absurd h.2 (ni rfl))))).trans ((up_c (nn rfl)).trans (hid kn_147))
  have h_149 : (up (up c_124 44 (4 * jr + 3) y_39) 41 16 (jr + 1)) 41 17 = st := ((up_n (by decide)).trans ((up_c (nn rfl)).trans (hid kn_148)))
  have kn_150 : Hid (c_79 41 18 = si) := (hF_81 41 18 (fun q => q.elim (fun h => absurd h.2 (ni rfl)) (fun q => q.elim (fun h => absurd h.2 (ni rfl)) (fun h => absurd h.2 (ni rfl))))).trans (hr_si)
  have kn_151 : Hid (c_94 41 18 = si) := (hF_96 41 18 (fun q => q.elim (fun h => absurd h.2 (ni rfl)) (fun q => q.elim (fun h => absurd h.2 (ni rfl)) (fun h => absurd h.2 (ni rfl))))).trans ((up_c (nn rfl)).trans (hid kn_150))
  have kn_152 : Hid (c_109 41 18 = si) := (hF_111 41 18 (fun q => q.elim (fun h => absurd h.2 (ni rfl)) (fun q => q.elim (fun h => absurd h.2 (ni rfl)) (fun h => absurd h.2 (ni rfl))))).trans ((up_c (nn rfl)).trans (hid kn_151))
  have kn_153 : Hid (c_124 41 18 = si) := (hF_126 41 18 (fun q => q.elim (fun h => absurd h.2 (ni rfl)) (fun q => q.elim (fun h => absurd h.2 (ni rfl)) (fun h => absurd h.2 (ni rfl))))).trans ((up_c (nn rfl)).trans (hid kn_152))
  have h_154 : (up (up c_124 44 (4 * jr + 3) y_39) 41 16 (jr + 1)) 41 18 = si := ((up_n (by decide)).trans ((up_c (nn rfl)).trans (hid kn_153)))
  have kn_155 : Hid (c_79 41 19 = du) := (hF_81 41 19 (fun q => q.elim (fun h => absurd h.2 (ni rfl)) (fun q => q.elim (fun h => absurd h.2 (ni rfl)) (fun h => absurd h.2 (ni rfl))))).trans (hr_du)
  have kn_156 : Hid (c_94 41 19 = du) := (hF_96 41 19 (fun q => q.elim (fun h => absurd h.2 (ni rfl)) (fun q => q.elim (fun h => absurd h.2 (ni rfl)) (fun h => absurd h.2 (ni rfl))))).trans ((up_c (nn rfl)).trans (hid kn_155))
  have kn_157 : Hid (c_109 41 19 = du) := (hF_111 41 19 (fun q => q.elim (fun h => absurd h.2 (ni rfl)) (fun q => q.elim (fun h => absurd h.2 (ni rfl)) (fun h => absurd h.2 (ni rfl))))).trans ((up_c (nn rfl)).trans (hid kn_156))
  have kn_158 : Hid (c_124 41 19 = du) := (hF_126 41 19 (fun q => q.elim (fun h => absurd h.2 (ni rfl)) (fun q => q.elim (fun h => absurd h.2 (ni rfl)) (fun h => absurd h.2 (ni rfl))))).trans ((up_c (nn rfl)).trans (hid kn_157))
  have h_159 : (up (up c_124 44 (4 * jr + 3) y_39) 41 16 (jr + 1)) 41 19 = du := ((up_n (by decide)).trans ((up_c (nn rfl)).trans (hid kn_158)))
  exact K (up (up c_124 44 (4 * jr + 3) y_39) 41 16 (jr + 1))  hI_136 (fun a j hm => (up_b (Decidable.or_iff_not_imp_left.mpr (fun h1 h2 => hm (Or.inr (Or.inr (Or.inr (Or.inl ⟨Decidable.not_not.mp h1, h2⟩))))))).trans ((up_b (Decidable.or_iff_not_imp_left.mpr (fun h1 h2 => hm (Or.inr (Or.inr (Or.inr (Or.inr (Or.inr (Or.inr (Or.inr (Or.inl (Decidable.not_not.mp h1)))))))))))).trans ((hF_126 a j (fun q => q.elim (fun h => hm (Or.inl h)) (fun q => q.elim (fun h => hm (Or.inr (Or.inl h))) (fun h => hm (Or.inr (Or.inr (Or.inl h))))))).trans ((up_b (Decidable.or_iff_not_imp_left.mpr (fun h1 h2 => hm (Or.inr (Or.inr (Or.inr (Or.inr (Or.inr (Or.inr (Or.inr (Or.inl (Decidable.not_not.mp h1)))))))))))).trans ((hF_111 a j (fun q => q.elim (fun h => hm (Or.inl h)) (fun q => q.elim (fun h => hm (Or.inr (Or.inl h))) (fun h => hm (Or.inr (Or.inr (Or.inl h))))))).trans ((up_b (Decidable.or_iff_not_imp_left.mpr (fun h1 h2 => hm (Or.inr (Or.inr (Or.inr (Or.inr (Or.inr (Or.inr (Or.inr (Or.inl (Decidable.not_not.mp h1)))))))))))).trans ((hF_96 a j (fun q => q.elim (fun h => hm (Or.inl h)) (fun q => q.elim (fun h => hm (Or.inr (Or.inl h))) (fun h => hm (Or.inr (Or.inr (Or.inl h))))))).trans ((up_b (Decidable.or_iff_not_imp_left.mpr (fun h1 h2 => hm (Or.inr (Or.inr (Or.inr (Or.inr (Or.inr (Or.inr (Or.inr (Or.inl (Decidable.not_not.mp h1)))))))))))).trans (hF_81 a j (fun q => q.elim (fun h => hm (Or.inl h)) (fun q => q.elim (fun h => hm (Or.inr (Or.inl h))) (fun h => hm (Or.inr (Or.inr (Or.inl h))))))))))))))) (by unfold Rt; omega) (by first | (clear hq0 h_1 h_2 h_3 h_4 h_5 h_6 h_7 h_8 h_9 h_10 h_11 h_18 h_26 h_34 h_49 h_50 h_51 h_52 h_53 h_54 h_55 h_56 h_57 h_58 h_64 h_65 h_70 h_71 h_76 h_77 h_78 h_89 h_104 h_119 h_137 h_138 h_139 h_16 h_24 h_32 h_40 h_85 h_86 h_87 h_100 h_101 h_102 h_115 h_116 h_117 h_130 h_131 h_132 h_140; omega) | omega) (by first | (clear hq0 h_1 h_2 h_3 h_4 h_5 h_6 h_7 h_8 h_9 h_10 h_11 h_18 h_26 h_34 h_49 h_50 h_51 h_52 h_53 h_54 h_55 h_56 h_57 h_58 h_59 h_64 h_70 h_71 h_76 h_77 h_78 h_89 h_104 h_119 h_137 h_138 h_139 h_16 h_24 h_32 h_40 h_85 h_86 h_87 h_100 h_101 h_102 h_115 h_116 h_117 h_130 h_131 h_132 h_140; omega) | omega) (by first | (clear hq0 h_1 h_2 h_3 h_4 h_5 h_6 h_7 h_8 h_9 h_10 h_11 h_18 h_26 h_34 h_49 h_50 h_51 h_52 h_53 h_54 h_55 h_56 h_57 h_58 h_59 h_64 h_65 h_70 h_76 h_77 h_78 h_89 h_104 h_119 h_137 h_138 h_139 h_16 h_24 h_32 h_40 h_85 h_86 h_87 h_100 h_101 h_102 h_115 h_116 h_117 h_130 h_131 h_132 h_140; omega) | omega) (by first | (clear hq0 h_1 h_2 h_3 h_4 h_5 h_6 h_7 h_8 h_9 h_10 h_11 h_18 h_26 h_34 h_49 h_50 h_51 h_52 h_53 h_54 h_55 h_56 h_57 h_58 h_59 h_64 h_65 h_70 h_71 h_76 h_78 h_89 h_104 h_119 h_137 h_138 h_139 h_16 h_24 h_32 h_40 h_85 h_86 h_87 h_100 h_101 h_102 h_115 h_116 h_117 h_130 h_131 h_132 h_140; omega) | omega)

set_option maxRecDepth 100000 in
set_option maxHeartbeats 4000000 in
theorem L_33_1 {sc : List Int32} {e eg : Int} {d dh u ug P Q P2 Q2 A : Nat} {c m m9 : ME} {e1 jr st si du : Int} {F H : Int → Int} {Z : AR → Prop} (hI : Iv u e P2 Q2 c) (hJ : Iv ug eg P Q m) (hJ9 : Iv ug eg P Q m9) (hA : A = 13 ∨ A = 25) (hq0 : (st ≤ 3)) (hg_e1 : m 1 1 = e1) (hr_e1 : c 41 3 = e1) (hg_jr : m A 0 = jr) (hr_jr : c 41 16 = jr) (hg_st : m A 1 = st) (hr_st : c 41 17 = st) (hg_si : m A 2 = si) (hr_si : c 41 18 = si) (hg_du : m A 3 = du) (hr_du : c 41 19 = du) (hF : ∀ j : Int, m 2 j = F j) (hH : ∀ j : Int, c 43 j = H j) (hU : Ub F H) (hRt : Rt m c) (hG : Wp sc (dh + 18) 33 0 [(0, .ref A), (1, .ref 1), (2, vi 1)] [] (Wd P Q P P m) 0 0 (fun q => q = (.inl (none), Wd P Q P P m9, 0, 0))) (K : ∀ (c2 : ME), Iv u e P2 Q2 c2 → (∀ (a : Nat) (j : Int), ¬ ((a = 41 ∧ j = 4) ∨ (a = 41 ∧ j = 5) ∨ (a = 41 ∧ j = 6) ∨ (a = 41 ∧ j = 16) ∨ (a = 41 ∧ j = 17) ∨ (a = 41 ∧ j = 18) ∨ (a = 41 ∧ j = 19) ∨ a = 44 ∨ a = 45 ∨ a = 46) → c2 a j = c a j) → (Rt m9 c2) → ((m9 A 0 = c2 41 16)) → ((m9 A 1 = c2 41 17)) → ((m9 A 2 = c2 41 18)) → ((m9 A 3 = c2 41 19)) → Z (.inl (none), Wd P2 Q2 P2 P2 c2, 0, 0)) : Wp sc (d + 18) 168 0 [(0, .ref 41), (1, vi 20594117)] [] (Wd P2 Q2 P2 P2 c) 0 0 Z := by
  have hP := iv_P hJ
  have hQ := iv_Q hJ
  have h_1 := ir_1_1 hJ
  have h_2 := ir_41_3 hI
  have h_3 := ir_p0_0 hJ hA
  have h_4 := ir_41_16 hI
  have h_5 := ir_p0_1 hJ hA
  have h_6 := ir_41_17 hI
  have h_7 := ir_p0_2 hJ hA
  have h_8 := ir_41_18 hI
  have h_9 := ir_p0_3 hJ hA
  have h_10 := ir_41_19 hI
  refine gh hG ?_
  refine q_iload_n rfl rfl ?_
  refine v_tsw_i (t := 59) 1 rfl (by omega) (by decide) rfl (by decide) ?_
  refine q_aload_n rfl rfl ?_
  refine q_aload_n rfl rfl ?_
  refine v_gr (t := (A + 2)) rfl rfl (ck_p0 hA) (a68z hA) rfl ?_
  refine q_aload_n rfl rfl ?_
  refine v_gi (z := 1) (v := st) rfl rfl (ck_p0 hA) (a68z hA) rfl rfl (hg_st) ?_
  refine q_iconst rfl ?_
  refine v_imul (v := 3 * st) rfl (by omega) ?_
  refine q_iconst rfl ?_
  refine v_bip rfl (by decide) ?_
  refine q_call rfl rfl rfl rfl ?_
  refine q_iload_n rfl rfl ?_
  refine q_istore rfl (by decide) ?_
  refine q_iload rfl rfl ?_
  refine q_iload_n rfl rfl ?_
  refine q_iload_n rfl rfl ?_
  refine v_iadd (v := 3 * st + 3) rfl rfl ?_
  refine v_ic_ge_f (t := 34) rfl (by decide) (by omega) ?_
  refine q_iload rfl rfl ?_
  refine q_aload_n rfl rfl ?_
  refine v_al rfl (ck_p2 hA) (a68 hA rfl) (by decide) ?_
  refine v_ic_ge_f (t := 34) rfl (by decide) (by omega) ?_
  refine q_aload_n rfl rfl ?_
  refine q_iload rfl rfl ?_
  refine q_aload_n rfl rfl ?_
  refine q_iload rfl rfl ?_
  have h_11 := ir_1_4 hJ
  refine v_cv rfl rfl rfl rfl (by decide) ⟨⟨rfl, rfl⟩, by decide, rfl⟩ (Nat.le_of_ble_eq_true rfl) (Nat.le_of_ble_eq_true rfl) (fn_of (s_8 (a1 := 10) hJ (show (-1) ≤ 10 ∧ 10 ≤ 9999 from ⟨by decide, by decide⟩) (fun c_12 y_15 hI_13 hF_14 hy_15 h_16 => ?_)))
  intro hG_17
  refine bk_inl ?_
  refine v_is rfl (ck_p2 hA) (a68 hA rfl) (by decide) (by omega) ?_
  refine v_iinc (v := 3 * st + 1) rfl rfl (by decide) rfl ?_
  refine q_goto (t := 3) rfl (by decide) ?_
  refine q_iload rfl rfl ?_
  refine q_iload_n rfl rfl ?_
  refine q_iload_n rfl rfl ?_
  refine v_iadd (v := 3 * st + 3) rfl rfl ?_
  refine v_ic_ge_f (t := 34) rfl (by decide) (by omega) ?_
  refine q_iload rfl rfl ?_
  refine q_aload_n rfl rfl ?_
  refine v_al rfl (ck_p2 hA) (a68 hA rfl) (by decide) ?_
  refine v_ic_ge_f (t := 34) rfl (by decide) (by omega) ?_
  refine q_aload_n rfl rfl ?_
  refine q_iload rfl rfl ?_
  refine q_aload_n rfl rfl ?_
  refine q_iload rfl rfl ?_
  have h_18 := ir_1_4 hI_13
  have hI_19 := iw_p2 (j := 3 * st) (v := y_15) hI_13 hA ⟨hy_15.1, by first | (clear hq0 h_1 h_2 h_3 h_4 h_5 h_6 h_7 h_8 h_9 h_10 h_11 h_18; omega) | omega⟩
  refine v_cv rfl rfl rfl rfl (by decide) ⟨⟨rfl, rfl⟩, by decide, rfl⟩ (Nat.le_of_ble_eq_true rfl) (Nat.le_of_ble_eq_true rfl) (fn_of (s_8 (a1 := 10) hI_19 (show (-1) ≤ 10 ∧ 10 ≤ 9999 from ⟨by decide, by decide⟩) (fun c_20 y_23 hI_21 hF_22 hy_23 h_24 => ?_)))
  intro hG_25
  refine bk_inl ?_
  refine v_is rfl (ck_p2 hA) (a68 hA rfl) (by decide) (by omega) ?_
  refine v_iinc (v := 3 * st + 2) rfl rfl (by decide) (by first | (clear hq0 h_1 h_2 h_3 h_4 h_5 h_6 h_7 h_8 h_9 h_10 h_11 h_18 h_16 h_24; omega) | omega) ?_
  refine q_goto (t := 3) rfl (by decide) ?_
  refine q_iload rfl rfl ?_
  refine q_iload_n rfl rfl ?_
  refine q_iload_n rfl rfl ?_
  refine v_iadd (v := 3 * st + 3) rfl rfl ?_
  refine v_ic_ge_f (t := 34) rfl (by decide) ⟨by first | (clear hq0 h_1 h_2 h_3 h_4 h_5 h_7 h_8 h_9 h_10 h_11 h_18 h_16 h_24; omega) | omega, by first | (clear hq0 h_1 h_2 h_3 h_4 h_5 h_6 h_7 h_8 h_9 h_10 h_11 h_18 h_16 h_24; omega) | omega, by first | (clear h_1 h_2 h_3 h_4 h_5 h_6 h_7 h_8 h_9 h_10 h_11 h_18 h_16 h_24; omega) | omega⟩ ?_
  refine q_iload rfl rfl ?_
  refine q_aload_n rfl rfl ?_
  refine v_al rfl (ck_p2 hA) (a68 hA rfl) (by decide) ?_
  refine v_ic_ge_f (t := 34) rfl (by decide) ⟨by first | (clear hq0 h_1 h_2 h_3 h_4 h_5 h_7 h_8 h_9 h_10 h_11 h_18 h_16 h_24; omega) | omega, by first | (clear h_1 h_2 h_3 h_4 h_5 h_6 h_7 h_8 h_9 h_10 h_11 h_18 h_16 h_24; omega) | omega, by decide⟩ ?_
  refine q_aload_n rfl rfl ?_
  refine q_iload rfl rfl ?_
  refine q_aload_n rfl rfl ?_
  refine q_iload rfl rfl ?_
  have h_26 := ir_1_4 hI_21
  have hI_27 := iw_p2 (j := 3 * st + 1) (v := y_23) hI_21 hA ⟨hy_23.1, by first | (clear hq0 h_1 h_2 h_3 h_4 h_5 h_6 h_7 h_8 h_9 h_10 h_11 h_18 h_26 h_16; omega) | omega⟩
  refine v_cv rfl rfl rfl rfl (by decide) ⟨⟨rfl, rfl⟩, by decide, rfl⟩ (Nat.le_of_ble_eq_true rfl) (Nat.le_of_ble_eq_true rfl) (fn_of (s_8 (a1 := 10) hI_27 (show (-1) ≤ 10 ∧ 10 ≤ 9999 from ⟨by decide, by decide⟩) (fun c_28 y_31 hI_29 hF_30 hy_31 h_32 => ?_)))
  intro hG_33
  refine bk_inl ?_
  refine v_is rfl (ck_p2 hA) (a68 hA rfl) (by decide) (by omega) ?_
  refine v_iinc (v := 3 * st + 3) rfl rfl (by decide) (by first | (clear hq0 h_1 h_2 h_3 h_4 h_5 h_6 h_7 h_8 h_9 h_10 h_11 h_18 h_26 h_16 h_24 h_32; omega) | omega) ?_
  refine q_goto (t := 3) rfl (by decide) ?_
  refine q_iload rfl rfl ?_
  refine q_iload_n rfl rfl ?_
  refine q_iload_n rfl rfl ?_
  refine v_iadd (v := 3 * st + 3) rfl rfl ?_
  refine v_ic_ge_t (t := 34) rfl (by decide) ⟨by first | (clear hq0 h_1 h_2 h_3 h_4 h_5 h_7 h_8 h_9 h_10 h_11 h_18 h_26 h_16 h_24 h_32; omega) | omega, by first | (clear hq0 h_1 h_2 h_3 h_4 h_5 h_6 h_7 h_8 h_9 h_10 h_11 h_18 h_26 h_16 h_24 h_32; omega) | omega, by first | (clear h_1 h_2 h_3 h_4 h_5 h_6 h_7 h_8 h_9 h_10 h_11 h_18 h_26 h_16 h_24 h_32; omega) | omega⟩ ?_
  refine q_vret rfl rfl ?_
  refine bk_inl ?_
  refine q_aload_n rfl rfl ?_
  refine q_dup rfl rfl ?_
  have kn_34 : Hid (c_12 A 1 = st) := (hF_14 A 1 (fun q => q.elim (fun h => absurd h.1 (np0 hA rfl)) (fun q => q.elim (fun h => absurd h.1 (np0 hA rfl)) (fun h => absurd h.1 (np0 hA rfl))))).trans (hg_st)
  have kn_35 : Hid (c_20 A 1 = st) := (hF_22 A 1 (fun q => q.elim (fun h => absurd h.1 (np0 hA rfl)) (fun q => q.elim (fun h => absurd h.1 (np0 hA rfl)) (fun h => absurd h.1 (np0 hA rfl))))).trans ((up_c (p0p rfl)).trans (hid kn_34))
  have kn_36 : Hid (c_28 A 1 = st) := (hF_30 A 1 (fun q => q.elim (fun h => absurd h.1 (np0 hA rfl)) (fun q => q.elim (fun h => absurd h.1 (np0 hA rfl)) (fun h => absurd h.1 (np0 hA rfl))))).trans ((up_c (p0p rfl)).trans (hid kn_35))
  refine v_gi (z := 1) (v := st) rfl rfl (ck_p0 hA) (a68z hA) rfl rfl ((up_c (p0p rfl)).trans (hid kn_36)) ?_
  refine q_iconst rfl ?_
  refine v_iadd (v := st + 1) rfl rfl ?_
  refine v_pi (z := 1) rfl rfl (ck_p0 hA) (a68z hA) rfl rfl rfl (by decide) ?_
  refine q_goto (t := 126) rfl (by decide) ?_
  refine q_vret rfl rfl ?_
  have hI_37 := iw_p2 (j := 3 * st + 2) (v := y_31) hI_29 hA ⟨hy_31.1, by first | (clear hq0 h_1 h_2 h_3 h_4 h_5 h_6 h_7 h_8 h_9 h_10 h_11 h_18 h_26 h_16 h_24; omega) | omega⟩
  have hI_38 := iw_p0_1 (v := st + 1) hI_37 hA ⟨by first | exact rgp_l (rg_eq hg_st h_5).1 (by decide) | omega, by first | (clear h_1 h_2 h_3 h_4 h_5 h_6 h_7 h_8 h_9 h_10 h_11 h_18 h_26 h_16 h_24 h_32; omega) | omega⟩
  intro hE_39
  have hW : Wd P Q P P (up (up c_28 (A + 2) (3 * st + 2) y_31) A 1 (st + 1)) = Wd P Q P P m9 := (Prod.mk.inj (Prod.mk.inj hE_39).2).1
  have h_40 := ir_1_4 hI_29
  have h_41 := ir_1_4 hJ9
  have h_42 : m9 1 4 = c_28 1 4 := wd_fv (z := 4) 4 rfl hW rfl rfl rfl rfl (by decide) ((up_c (pn0 hA rfl)).trans (up_c (pn hA rfl rfl))) ⟨(Int.le_trans (by decide) h_40.1), (Int.le_trans h_40.2 (by decide))⟩ ⟨(Int.le_trans (by decide) h_41.1), (Int.le_trans h_41.2 (by decide))⟩
  have h_43 := ir_1_2 hI_29
  have h_44 := ir_1_2 hJ9
  have h_45 : m9 1 2 = c_28 1 2 := wd_fv (z := 2) 2 rfl hW rfl rfl rfl rfl (by decide) ((up_c (pn0 hA rfl)).trans (up_c (pn hA rfl rfl))) ⟨(Int.le_trans (by decide) h_43.1), (Int.le_trans h_43.2 (by decide))⟩ ⟨(Int.le_trans (by decide) h_44.1), (Int.le_trans h_44.2 (by decide))⟩
  have h_46 := ir_1_5 hI_29
  have h_47 := ir_1_5 hJ9
  have h_48 : m9 1 5 = c_28 1 5 := wd_fv (z := 5) 5 rfl hW rfl rfl rfl rfl (by decide) ((up_c (pn0 hA rfl)).trans (up_c (pn hA rfl rfl))) ⟨(Int.le_trans (by decide) h_46.1), (Int.le_trans h_46.2 (by decide))⟩ ⟨(Int.le_trans (by decide) h_47.1), (Int.le_trans h_47.2 (by decide))⟩
  have kn_49 : Hid (c_12 A 0 = jr) := (hF_14 A 0 (fun q => q.elim (fun h => absurd h.1 (np0 hA rfl)) (fun q => q.elim (fun h => absurd h.1 (np0 hA rfl)) (fun h => absurd h.1 (np0 hA rfl))))).trans (hg_jr)
  have kn_50 : Hid (c_20 A 0 = jr) := (hF_22 A 0 (fun q => q.elim (fun h => absurd h.1 (np0 hA rfl)) (fun q => q.elim (fun h => absurd h.1 (np0 hA rfl)) (fun h => absurd h.1 (np0 hA rfl))))).trans ((up_c (p0p rfl)).trans (hid kn_49))
  have kn_51 : Hid (c_28 A 0 = jr) := (hF_30 A 0 (fun q => q.elim (fun h => absurd h.1 (np0 hA rfl)) (fun q => q.elim (fun h => absurd h.1 (np0 hA rfl)) (fun h => absurd h.1 (np0 hA rfl))))).trans ((up_c (p0p rfl)).trans (hid kn_50))
  have h_52 := ir_p0_0 hJ9 hA
  have h_53 : m9 A 0 = jr := wd_fv (z := 0) 0 rfl hW (ck_p0 hA) (ck_p0 hA) rfl rfl (by omega) ((up_n (by decide)).trans ((up_c (p0p rfl)).trans (hid kn_51))) ⟨(Int.le_trans (by decide) (rg_eq hg_jr h_3).1), (Int.le_trans (rg_eq hg_jr h_3).2 (by decide))⟩ ⟨(Int.le_trans (by decide) h_52.1), (Int.le_trans h_52.2 (by decide))⟩
  have h_54 := ir_p0_1 hJ9 hA
  have h_55 : m9 A 1 = st + 1 := wd_fv (z := 1) 1 rfl hW (ck_p0 hA) (ck_p0 hA) rfl rfl (by omega) (up_e rfl) ⟨by first | exact rgp_l (rg_eq hg_st h_5).1 (by decide) | omega, by first | exact rgp_h (rg_eq hg_st h_5).2 (by decide) | omega⟩ ⟨(Int.le_trans (by decide) h_54.1), (Int.le_trans h_54.2 (by decide))⟩
  have kn_56 : Hid (c_12 A 2 = si) := (hF_14 A 2 (fun q => q.elim (fun h => absurd h.1 (np0 hA rfl)) (fun q => q.elim (fun h => absurd h.1 (np0 hA rfl)) (fun h => absurd h.1 (np0 hA rfl))))).trans (hg_si)
  have kn_57 : Hid (c_20 A 2 = si) := (hF_22 A 2 (fun q => q.elim (fun h => absurd h.1 (np0 hA rfl)) (fun q => q.elim (fun h => absurd h.1 (np0 hA rfl)) (fun h => absurd h.1 (np0 hA rfl))))).trans ((up_c (p0p rfl)).trans (hid kn_56))
  have kn_58 : Hid (c_28 A 2 = si) := (hF_30 A 2 (fun q => q.elim (fun h => absurd h.1 (np0 hA rfl)) (fun q => q.elim (fun h => absurd h.1 (np0 hA rfl)) (fun h => absurd h.1 (np0 hA rfl))))).trans ((up_c (p0p rfl)).trans (hid kn_57))
  have h_59 := ir_p0_2 hJ9 hA
  have h_60 : m9 A 2 = si := wd_fv (z := 2) 2 rfl hW (ck_p0 hA) (ck_p0 hA) rfl rfl (by omega) ((up_n (by decide)).trans ((up_c (p0p rfl)).trans (hid kn_58))) ⟨(Int.le_trans (by decide) (rg_eq hg_si h_7).1), (Int.le_trans (rg_eq hg_si h_7).2 (by decide))⟩ ⟨(Int.le_trans (by decide) h_59.1), (Int.le_trans h_59.2 (by decide))⟩
  have kn_61 : Hid (c_12 A 3 = du) := (hF_14 A 3 (fun q => q.elim (fun h => absurd h.1 (np0 hA rfl)) (fun q => q.elim (fun h => absurd h.1 (np0 hA rfl)) (fun h => absurd h.1 (np0 hA rfl))))).trans (hg_du)
  have kn_62 : Hid (c_20 A 3 = du) := (hF_22 A 3 (fun q => q.elim (fun h => absurd h.1 (np0 hA rfl)) (fun q => q.elim (fun h => absurd h.1 (np0 hA rfl)) (fun h => absurd h.1 (np0 hA rfl))))).trans ((up_c (p0p rfl)).trans (hid kn_61))
  have kn_63 : Hid (c_28 A 3 = du) := (hF_30 A 3 (fun q => q.elim (fun h => absurd h.1 (np0 hA rfl)) (fun q => q.elim (fun h => absurd h.1 (np0 hA rfl)) (fun h => absurd h.1 (np0 hA rfl))))).trans ((up_c (p0p rfl)).trans (hid kn_62))
  have h_64 := ir_p0_3 hJ9 hA
  have h_65 : m9 A 3 = du := wd_fv (z := 3) 3 rfl hW (ck_p0 hA) (ck_p0 hA) rfl rfl (by omega) ((up_n (by decide)).trans ((up_c (p0p rfl)).trans (hid kn_63))) ⟨(Int.le_trans (by decide) (rg_eq hg_du h_9).1), (Int.le_trans (rg_eq hg_du h_9).2 (by decide))⟩ ⟨(Int.le_trans (by decide) h_64.1), (Int.le_trans h_64.2 (by decide))⟩
  refine q_iload_n rfl rfl ?_
  refine q_ldc_s rfl rfl rfl (by decide) ?_
  refine q_call rfl rfl rfl rfl (s_158_16 ?_)
  refine bk_inl ?_
  refine v_ic_ne_t (t := 56) rfl (by decide) (by decide) ?_
  refine q_iload_n rfl rfl ?_
  refine q_ldc_s rfl rfl rfl (by decide) ?_
  refine q_call rfl rfl rfl rfl (s_158_17 ?_)
  refine bk_inl ?_
  refine v_ic_ne_f (t := 111) rfl (by decide) (by decide) ?_
  refine q_iconst rfl ?_
  refine q_istore_n rfl (by decide) ?_
  refine q_iload_n rfl rfl ?_
  refine q_iconst rfl ?_
  refine v_ic_ge_f (t := 98) rfl (by decide) (by decide) ?_
  refine q_aload_n rfl rfl ?_
  refine v_gr (t := 45) rfl rfl rfl (by decide) rfl ?_
  refine q_iconst rfl ?_
  refine q_aload_n rfl rfl ?_
  refine v_gi (z := 17) (v := st) rfl rfl rfl (by decide) rfl rfl (hr_st) ?_
  refine v_imul (v := 3 * st) rfl rfl ?_
  refine q_iload_n rfl rfl ?_
  refine v_iadd (v := 3 * st) rfl (by first | (clear hq0 h_1 h_2 h_3 h_4 h_5 h_6 h_7 h_8 h_9 h_10 h_11 h_18 h_26 h_40 h_41 h_42 h_43 h_44 h_45 h_46 h_47 h_48 h_52 h_53 h_54 h_55 h_59 h_60 h_64 h_65 h_16 h_24 h_32; omega) | omega) ?_
  refine q_aload_n rfl rfl ?_
  refine q_iconst rfl ?_
  refine v_bip rfl (by decide) ?_
  have h_66 := ir_1_2 hJ
  refine v_cv rfl rfl rfl rfl (by decide) ⟨⟨rfl, rfl⟩, by decide, rfl⟩ (Nat.le_of_ble_eq_true rfl) (Nat.le_of_ble_eq_true rfl) (L_8 (m := m) (a2 := 10) (yg := y_15) (e1 := e1) (a9 := m 1 2) (f0 := m 1 4) (F := F) (H := H) hI hJ hI_13 (show (-1) ≤ 10 ∧ 10 ≤ 9999 from ⟨by decide, by decide⟩) ⟨by omega, by omega⟩ ((hg_e1)) ((hr_e1)) (rfl) (rfl) (fun j => hF j) (fun j => hH j) hU hRt hG_17 (fun c_67 y_70 hI_68 hF_69 hy_70 hR_71 h_72 h_73 h_74 h_75 => ?_))
  refine bk_inl ?_
  have hs_76 := h_72.symm
  subst hs_76
  have h_77 := ir_1_2 hI_13
  refine v_is rfl rfl (by decide) (by decide) (by omega) ?_
  refine v_iinc (v := 1) rfl rfl (by decide) (by decide) ?_
  refine q_goto (t := 67) rfl (by decide) ?_
  refine q_iload_n rfl rfl ?_
  refine q_iconst rfl ?_
  refine v_ic_ge_f (t := 98) rfl (by decide) (by decide) ?_
  refine q_aload_n rfl rfl ?_
  refine v_gr (t := 45) rfl rfl rfl (by decide) rfl ?_
  refine q_iconst rfl ?_
  refine q_aload_n rfl rfl ?_
  have kn_78 : Hid (c_67 41 17 = st) := (hF_69 41 17 (fun q => q.elim (fun h => absurd h.2 (ni rfl)) (fun q => q.elim (fun h => absurd h.2 (ni rfl)) (fun h => absurd h.2 (ni rfl))))).trans (hr_st)
  refine v_gi (z := 17) (v := st) rfl rfl rfl (by decide) rfl rfl ((up_c (nn rfl)).trans (hid kn_78)) ?_
  refine v_imul (v := 3 * st) rfl rfl ?_
  refine q_iload_n rfl rfl ?_
  refine v_iadd (v := 3 * st + 1) rfl rfl ?_
  refine q_aload_n rfl rfl ?_
  refine q_iconst rfl ?_
  refine v_bip rfl (by decide) ?_
  have hI_79 := iw_45 (j := 3 * st) (v := y_15) hI_68 ⟨hy_15.1, by first | (clear hq0 h_1 h_2 h_3 h_4 h_5 h_6 h_7 h_8 h_9 h_10 h_11 h_18 h_26 h_40 h_41 h_42 h_43 h_44 h_45 h_46 h_47 h_48 h_52 h_53 h_54 h_55 h_59 h_60 h_64 h_65 h_66 h_77 h_24 h_32 h_73 h_74; omega) | omega⟩
  have kn_80 : Hid (c_12 1 1 = e1) := (hF_14 1 1 (fun q => q.elim (fun h => absurd h.2 (ni rfl)) (fun q => q.elim (fun h => absurd h.2 (ni rfl)) (fun h => absurd h.2 (ni rfl))))).trans (hg_e1)
  have kn_81 : Hid (c_67 41 3 = e1) := (hF_69 41 3 (fun q => q.elim (fun h => absurd h.2 (ni rfl)) (fun q => q.elim (fun h => absurd h.2 (ni rfl)) (fun h => absurd h.2 (ni rfl))))).trans (hr_e1)
  refine v_cv rfl rfl rfl rfl (by decide) ⟨⟨rfl, rfl⟩, by decide, rfl⟩ (Nat.le_of_ble_eq_true rfl) (Nat.le_of_ble_eq_true rfl) (L_8 (m := up c_12 (A + 2) (3 * st) y_15) (a2 := 10) (yg := y_23) (e1 := e1) (a9 := c_12 1 2) (f0 := c_12 1 4) (F := F) (H := H) hI_79 hI_19 hI_21 (show (-1) ≤ 10 ∧ 10 ≤ 9999 from ⟨by decide, by decide⟩) ⟨by omega, by omega⟩ (((up_c (pn hA rfl rfl)).trans (hid kn_80))) (((up_c (nn rfl)).trans (hid kn_81))) ((up_c (pn hA rfl rfl))) ((up_c (pn hA rfl rfl))) (fun j => ((up_c (pn hA rfl rfl)).trans (hF_14 2 j (fun q => q.elim (fun h => absurd h.1 (nn rfl)) (fun q => q.elim (fun h => absurd h.1 (nn rfl)) (fun h => absurd h.1 (nn rfl)))))).trans (hF j)) (fun j => ((up_c (nn rfl)).trans (hF_69 43 j (fun q => q.elim (fun h => absurd h.1 (nn rfl)) (fun q => q.elim (fun h => absurd h.1 (nn rfl)) (fun h => absurd h.1 (nn rfl)))))).trans (hH j)) hU (rt_fr hR_71 (up_c (pn hA rfl rfl)) (up_c (pn hA rfl rfl)) (up_c (pn hA rfl rfl)) (up_c (nn rfl)) (up_c (nn rfl)) (up_c (nn rfl))) hG_25 (fun c_82 y_85 hI_83 hF_84 hy_85 hR_86 h_87 h_88 h_89 h_90 => ?_))
  refine bk_inl ?_
  have hs_91 := h_87.symm
  subst hs_91
  have h_92 := ir_1_2 hI_21
  refine v_is rfl rfl (by decide) (by decide) (by omega) ?_
  refine v_iinc (v := 2) rfl rfl (by decide) (by decide) ?_
  refine q_goto (t := 67) rfl (by decide) ?_
  refine q_iload_n rfl rfl ?_
  refine q_iconst rfl ?_
  refine v_ic_ge_f (t := 98) rfl (by decide) (by decide) ?_
  refine q_aload_n rfl rfl ?_
  refine v_gr (t := 45) rfl rfl rfl (by decide) rfl ?_
  refine q_iconst rfl ?_
  refine q_aload_n rfl rfl ?_
  have kn_93 : Hid (c_82 41 17 = st) := (hF_84 41 17 (fun q => q.elim (fun h => absurd h.2 (ni rfl)) (fun q => q.elim (fun h => absurd h.2 (ni rfl)) (fun h => absurd h.2 (ni rfl))))).trans ((up_c (nn rfl)).trans (hid kn_78))
  refine v_gi (z := 17) (v := st) rfl rfl rfl (by decide) rfl rfl ((up_c (nn rfl)).trans (hid kn_93)) ?_
  refine v_imul (v := 3 * st) rfl rfl ?_
  refine q_iload_n rfl rfl ?_
  refine v_iadd (v := 3 * st + 2) rfl rfl ?_
  refine q_aload_n rfl rfl ?_
  refine q_iconst rfl ?_
  refine v_bip rfl (by decide) ?_
  have hI_94 := iw_45 (j := 3 * st + 1) (v := y_23) hI_83 ⟨hy_23.1, by first | (clear hq0 h_1 h_2 h_3 h_4 h_5 h_6 h_7 h_8 h_9 h_10 h_11 h_18 h_26 h_40 h_41 h_42 h_43 h_44 h_45 h_46 h_47 h_48 h_52 h_53 h_54 h_55 h_59 h_60 h_64 h_65 h_66 h_77 h_92 h_16 h_32 h_73 h_74 h_75 h_88 h_89; omega) | omega⟩
  have kn_95 : Hid (c_20 1 1 = e1) := (hF_22 1 1 (fun q => q.elim (fun h => absurd h.2 (ni rfl)) (fun q => q.elim (fun h => absurd h.2 (ni rfl)) (fun h => absurd h.2 (ni rfl))))).trans ((up_c (pn hA rfl rfl)).trans (hid kn_80))
  have kn_96 : Hid (c_82 41 3 = e1) := (hF_84 41 3 (fun q => q.elim (fun h => absurd h.2 (ni rfl)) (fun q => q.elim (fun h => absurd h.2 (ni rfl)) (fun h => absurd h.2 (ni rfl))))).trans ((up_c (nn rfl)).trans (hid kn_81))
  refine v_cv rfl rfl rfl rfl (by decide) ⟨⟨rfl, rfl⟩, by decide, rfl⟩ (Nat.le_of_ble_eq_true rfl) (Nat.le_of_ble_eq_true rfl) (L_8 (m := up c_20 (A + 2) (3 * st + 1) y_23) (a2 := 10) (yg := y_31) (e1 := e1) (a9 := c_20 1 2) (f0 := c_20 1 4) (F := F) (H := H) hI_94 hI_27 hI_29 (show (-1) ≤ 10 ∧ 10 ≤ 9999 from ⟨by decide, by decide⟩) ⟨by omega, by omega⟩ (((up_c (pn hA rfl rfl)).trans (hid kn_95))) (((up_c (nn rfl)).trans (hid kn_96))) ((up_c (pn hA rfl rfl))) ((up_c (pn hA rfl rfl))) (fun j => ((up_c (pn hA rfl rfl)).trans ((hF_22 2 j (fun q => q.elim (fun h => absurd h.1 (nn rfl)) (fun q => q.elim (fun h => absurd h.1 (nn rfl)) (fun h => absurd h.1 (nn rfl))))).trans ((up_c (pn hA rfl rfl)).trans (hF_14 2 j (fun q => q.elim (fun h => absurd h.1 (nn rfl)) (fun q => q.elim (fun h => absurd h.1 (nn rfl)) (fun h => absurd h.1 (nn rfl)))))))).trans (hF j)) (fun j => ((up_c (nn rfl)).trans ((hF_84 43 j (fun q => q.elim (fun h => absurd h.1 (nn rfl)) (fun q => q.elim (fun h => absurd h.1 (nn rfl)) (fun h => absurd h.1 (nn rfl))))).trans ((up_c (nn rfl)).trans (hF_69 43 j (fun q => q.elim (fun h => absurd h.1 (nn rfl)) (fun q => q.elim (fun h => absurd h.1 (nn rfl)) (fun h => absurd h.1 (nn rfl)))))))).trans (hH j)) hU (rt_fr hR_86 (up_c (pn hA rfl rfl)) (up_c (pn hA rfl rfl)) (up_c (pn hA rfl rfl)) (up_c (nn rfl)) (up_c (nn rfl)) (up_c (nn rfl))) hG_33 (fun c_97 y_100 hI_98 hF_99 hy_100 hR_101 h_102 h_103 h_104 h_105 => ?_))
  refine bk_inl ?_
  have hs_106 := h_102.symm
  subst hs_106
  refine v_is rfl rfl (by decide) (by decide) (by omega) ?_
  refine v_iinc (v := 3) rfl rfl (by decide) (by decide) ?_
  refine q_goto (t := 67) rfl (by decide) ?_
  refine q_iload_n rfl rfl ?_
  refine q_iconst rfl ?_
  refine v_ic_ge_t (t := 98) rfl (by decide) (by decide) ?_
  refine q_aload_n rfl rfl ?_
  refine q_dup rfl rfl ?_
  have kn_107 : Hid (c_97 41 17 = st) := (hF_99 41 17 (fun q => q.elim (fun h => absurd h.2 (ni rfl)) (fun q => q.elim (fun h => absurd h.2 (ni rfl)) (fun h => absurd h.2 (ni rfl))))).trans ((up_c (nn rfl)).trans (hid kn_93))
  refine v_gi (z := 17) (v := st) rfl rfl rfl (by decide) rfl rfl ((up_c (nn rfl)).trans (hid kn_107)) ?_
  refine q_iconst rfl ?_
  refine v_iadd (v := st + 1) rfl rfl ?_
  refine v_pi (z := 17) rfl rfl rfl (by decide) rfl rfl rfl (by decide) ?_
  refine q_goto (t := 159) rfl (by decide) ?_
  refine q_vret rfl rfl ?_
  have hI_108 := iw_45 (j := 3 * st + 2) (v := y_31) hI_98 ⟨hy_31.1, by first | (clear hq0 h_1 h_2 h_3 h_4 h_5 h_6 h_7 h_8 h_9 h_10 h_11 h_18 h_26 h_40 h_41 h_42 h_43 h_44 h_45 h_46 h_47 h_48 h_52 h_53 h_54 h_55 h_59 h_60 h_64 h_65 h_66 h_77 h_92 h_16 h_24 h_73 h_74 h_75 h_88 h_89 h_90 h_103 h_104; omega) | omega⟩
  have hI_109 := iw_41_17 (v := st + 1) hI_108 ⟨by first | exact rgp_l (rg_eq hg_st h_5).1 (by decide) | omega, by first | (clear h_1 h_2 h_3 h_4 h_5 h_6 h_7 h_8 h_9 h_10 h_11 h_18 h_26 h_40 h_41 h_42 h_43 h_44 h_45 h_46 h_47 h_48 h_52 h_53 h_54 h_55 h_59 h_60 h_64 h_65 h_66 h_77 h_92 h_16 h_24 h_32 h_73 h_74 h_75 h_88 h_89 h_90 h_103 h_104 h_105; omega) | omega⟩
  have h_110 := ir_41_5 hI_98
  have h_111 := ir_41_4 hI_98
  have h_112 := ir_41_6 hI_98
  have h_113 := rt_or hR_101
  have h_114 : (up (up c_97 45 (3 * st + 2) y_31) 41 17 (st + 1)) 41 5 = c_97 41 5 := ((up_n (by decide)).trans (up_c (nn rfl)))
  have h_115 : (up (up c_97 45 (3 * st + 2) y_31) 41 17 (st + 1)) 41 4 = c_97 41 4 := ((up_n (by decide)).trans (up_c (nn rfl)))
  have h_116 : (up (up c_97 45 (3 * st + 2) y_31) 41 17 (st + 1)) 41 6 = c_97 41 6 := ((up_n (by decide)).trans (up_c (nn rfl)))
  have kn_117 : Hid (c_67 41 16 = jr) := (hF_69 41 16 (fun q => q.elim (fun h => absurd h.2 (ni rfl)) (fun q => q.elim (fun h => absurd h.2 (ni rfl)) (fun h => absurd h.2 (ni rfl))))).trans (hr_jr)
  have kn_118 : Hid (c_82 41 16 = jr) := (hF_84 41 16 (fun q => q.elim (fun h => absurd h.2 (ni rfl)) (fun q => q.elim (fun h => absurd h.2 (ni rfl)) (fun h => absurd h.2 (ni rfl))))).trans ((up_c (nn rfl)).trans (hid kn_117))
  have kn_119 : Hid (c_97 41 16 = jr) := (hF_99 41 16 (fun q => q.elim (fun h => absurd h.2 (ni rfl)) (fun q => q.elim (fun h => absurd h.2 (ni rfl)) (fun h => absurd h.2 (ni rfl))))).trans ((up_c (nn rfl)).trans (hid kn_118))
  have h_120 : (up (up c_97 45 (3 * st + 2) y_31) 41 17 (st + 1)) 41 16 = jr := ((up_n (by decide)).trans ((up_c (nn rfl)).trans (hid kn_119)))
  have h_121 : (up (up c_97 45 (3 * st + 2) y_31) 41 17 (st + 1)) 41 17 = st + 1 := (up_e rfl)
  have kn_122 : Hid (c_67 41 18 = si) := (hF_69 41 18 (fun q => q.elim (fun h => absurd h.2 (ni rfl)) (fun q => q.elim (fun h => absurd h.2 (ni rfl)) (fun h => absurd h.2 (ni rfl))))).trans (hr_si)
  have kn_123 : Hid (c_82 41 18 = si) := (hF_84 41 18 (fun q => q.elim (fun h => absurd h.2 (ni rfl)) (fun q => q.elim (fun h => absurd h.2 (ni rfl)) (fun h => absurd h.2 (ni rfl))))).trans ((up_c (nn rfl)).trans (hid kn_122))
  have kn_124 : Hid (c_97 41 18 = si) := (hF_99 41 18 (fun q => q.elim (fun h => absurd h.2 (ni rfl)) (fun q => q.elim (fun h => absurd h.2 (ni rfl)) (fun h => absurd h.2 (ni rfl))))).trans ((up_c (nn rfl)).trans (hid kn_123))
  have h_125 : (up (up c_97 45 (3 * st + 2) y_31) 41 17 (st + 1)) 41 18 = si := ((up_n (by decide)).trans ((up_c (nn rfl)).trans (hid kn_124)))
  have kn_126 : Hid (c_67 41 19 = du) := (hF_69 41 19 (fun q => q.elim (fun h => absurd h.2 (ni rfl)) (fun q => q.elim (fun h => absurd h.2 (ni rfl)) (fun h => absurd h.2 (ni rfl))))).trans (hr_du)
  have kn_127 : Hid (c_82 41 19 = du) := (hF_84 41 19 (fun q => q.elim (fun h => absurd h.2 (ni rfl)) (fun q => q.elim (fun h => absurd h.2 (ni rfl)) (fun h => absurd h.2 (ni rfl))))).trans ((up_c (nn rfl)).trans (hid kn_126))
  have kn_128 : Hid (c_97 41 19 = du) := (hF_99 41 19 (fun q => q.elim (fun h => absurd h.2 (ni rfl)) (fun q => q.elim (fun h => absurd h.2 (ni rfl)) (fun h => absurd h.2 (ni rfl))))).trans ((up_c (nn rfl)).trans (hid kn_127))
  have h_129 : (up (up c_97 45 (3 * st + 2) y_31) 41 17 (st + 1)) 41 19 = du := ((up_n (by decide)).trans ((up_c (nn rfl)).trans (hid kn_128)))
  exact K (up (up c_97 45 (3 * st + 2) y_31) 41 17 (st + 1))  hI_109 (fun a j hm => (up_b (Decidable.or_iff_not_imp_left.mpr (fun h1 h2 => hm (Or.inr (Or.inr (Or.inr (Or.inr (Or.inl ⟨Decidable.not_not.mp h1, h2⟩)))))))).trans ((up_b (Decidable.or_iff_not_imp_left.mpr (fun h1 h2 => hm (Or.inr (Or.inr (Or.inr (Or.inr (Or.inr (Or.inr (Or.inr (Or.inr (Or.inl (Decidable.not_not.mp h1))))))))))))).trans ((hF_99 a j (fun q => q.elim (fun h => hm (Or.inl h)) (fun q => q.elim (fun h => hm (Or.inr (Or.inl h))) (fun h => hm (Or.inr (Or.inr (Or.inl h))))))).trans ((up_b (Decidable.or_iff_not_imp_left.mpr (fun h1 h2 => hm (Or.inr (Or.inr (Or.inr (Or.inr (Or.inr (Or.inr (Or.inr (Or.inr (Or.inl (Decidable.not_not.mp h1))))))))))))).trans ((hF_84 a j (fun q => q.elim (fun h => hm (Or.inl h)) (fun q => q.elim (fun h => hm (Or.inr (Or.inl h))) (fun h => hm (Or.inr (Or.inr (Or.inl h))))))).trans ((up_b (Decidable.or_iff_not_imp_left.mpr (fun h1 h2 => hm (Or.inr (Or.inr (Or.inr (Or.inr (Or.inr (Or.inr (Or.inr (Or.inr (Or.inl (Decidable.not_not.mp h1))))))))))))).trans (hF_69 a j (fun q => q.elim (fun h => hm (Or.inl h)) (fun q => q.elim (fun h => hm (Or.inr (Or.inl h))) (fun h => hm (Or.inr (Or.inr (Or.inl h))))))))))))) (by unfold Rt; omega) (by first | (clear hq0 h_1 h_2 h_3 h_4 h_5 h_6 h_7 h_8 h_9 h_10 h_11 h_18 h_26 h_40 h_41 h_42 h_43 h_44 h_45 h_46 h_47 h_48 h_52 h_54 h_55 h_59 h_60 h_64 h_65 h_66 h_77 h_92 h_110 h_111 h_112 h_16 h_24 h_32 h_73 h_74 h_75 h_88 h_89 h_90 h_103 h_104 h_105 h_113; omega) | omega) (by first | (clear hq0 h_1 h_2 h_3 h_4 h_5 h_6 h_7 h_8 h_9 h_10 h_11 h_18 h_26 h_40 h_41 h_42 h_43 h_44 h_45 h_46 h_47 h_48 h_52 h_53 h_54 h_59 h_60 h_64 h_65 h_66 h_77 h_92 h_110 h_111 h_112 h_16 h_24 h_32 h_73 h_74 h_75 h_88 h_89 h_90 h_103 h_104 h_105 h_113; omega) | omega) (by first | (clear hq0 h_1 h_2 h_3 h_4 h_5 h_6 h_7 h_8 h_9 h_10 h_11 h_18 h_26 h_40 h_41 h_42 h_43 h_44 h_45 h_46 h_47 h_48 h_52 h_53 h_54 h_55 h_59 h_64 h_65 h_66 h_77 h_92 h_110 h_111 h_112 h_16 h_24 h_32 h_73 h_74 h_75 h_88 h_89 h_90 h_103 h_104 h_105 h_113; omega) | omega) (by first | (clear hq0 h_1 h_2 h_3 h_4 h_5 h_6 h_7 h_8 h_9 h_10 h_11 h_18 h_26 h_40 h_41 h_42 h_43 h_44 h_45 h_46 h_47 h_48 h_52 h_53 h_54 h_55 h_59 h_60 h_64 h_66 h_77 h_92 h_110 h_111 h_112 h_16 h_24 h_32 h_73 h_74 h_75 h_88 h_89 h_90 h_103 h_104 h_105 h_113; omega) | omega)

set_option maxRecDepth 100000 in
set_option maxHeartbeats 4000000 in
theorem L_33_2 {sc : List Int32} {e eg : Int} {d dh u ug P Q P2 Q2 A : Nat} {c m m9 : ME} {e1 jr st si du : Int} {F H : Int → Int} {Z : AR → Prop} (hI : Iv u e P2 Q2 c) (hJ : Iv ug eg P Q m) (hJ9 : Iv ug eg P Q m9) (hA : A = 13 ∨ A = 25) (hq0 : (si ≤ 3)) (hg_e1 : m 1 1 = e1) (hr_e1 : c 41 3 = e1) (hg_jr : m A 0 = jr) (hr_jr : c 41 16 = jr) (hg_st : m A 1 = st) (hr_st : c 41 17 = st) (hg_si : m A 2 = si) (hr_si : c 41 18 = si) (hg_du : m A 3 = du) (hr_du : c 41 19 = du) (hF : ∀ j : Int, m 2 j = F j) (hH : ∀ j : Int, c 43 j = H j) (hU : Ub F H) (hRt : Rt m c) (hG : Wp sc (dh + 18) 33 0 [(0, .ref A), (1, .ref 1), (2, vi 2)] [] (Wd P Q P P m) 0 0 (fun q => q = (.inl (none), Wd P Q P P m9, 0, 0))) (K : ∀ (c2 : ME), Iv u e P2 Q2 c2 → (∀ (a : Nat) (j : Int), ¬ ((a = 41 ∧ j = 4) ∨ (a = 41 ∧ j = 5) ∨ (a = 41 ∧ j = 6) ∨ (a = 41 ∧ j = 16) ∨ (a = 41 ∧ j = 17) ∨ (a = 41 ∧ j = 18) ∨ (a = 41 ∧ j = 19) ∨ a = 44 ∨ a = 45 ∨ a = 46) → c2 a j = c a j) → (Rt m9 c2) → ((m9 A 0 = c2 41 16)) → ((m9 A 1 = c2 41 17)) → ((m9 A 2 = c2 41 18)) → ((m9 A 3 = c2 41 19)) → Z (.inl (none), Wd P2 Q2 P2 P2 c2, 0, 0)) : Wp sc (d + 18) 168 0 [(0, .ref 41), (1, vi 20223685)] [] (Wd P2 Q2 P2 P2 c) 0 0 Z := by
  have hP := iv_P hJ
  have hQ := iv_Q hJ
  have h_1 := ir_1_1 hJ
  have h_2 := ir_41_3 hI
  have h_3 := ir_p0_0 hJ hA
  have h_4 := ir_41_16 hI
  have h_5 := ir_p0_1 hJ hA
  have h_6 := ir_41_17 hI
  have h_7 := ir_p0_2 hJ hA
  have h_8 := ir_41_18 hI
  have h_9 := ir_p0_3 hJ hA
  have h_10 := ir_41_19 hI
  refine gh hG ?_
  refine q_iload_n rfl rfl ?_
  refine v_tsw_i (t := 89) 2 rfl (by omega) (by decide) rfl (by decide) ?_
  refine q_aload_n rfl rfl ?_
  refine q_aload_n rfl rfl ?_
  refine v_gr (t := (A + 3)) rfl rfl (ck_p0 hA) (a68z hA) rfl ?_
  refine q_aload_n rfl rfl ?_
  refine v_gi (z := 2) (v := si) rfl rfl (ck_p0 hA) (a68z hA) rfl rfl (hg_si) ?_
  refine q_iconst rfl ?_
  refine q_iconst rfl ?_
  refine q_call rfl rfl rfl rfl ?_
  refine q_iload_n rfl rfl ?_
  refine q_istore rfl (by decide) ?_
  refine q_iload rfl rfl ?_
  refine q_iload_n rfl rfl ?_
  refine q_iload_n rfl rfl ?_
  refine v_iadd (v := si + 1) rfl rfl ?_
  refine v_ic_ge_f (t := 34) rfl (by decide) ⟨(Int.le_trans (by decide) (rg_eq hg_si h_7).1), by omega, by first | exact rgp_h (rg_eq hg_si h_7).2 (by decide) | omega⟩ ?_
  refine q_iload rfl rfl ?_
  refine q_aload_n rfl rfl ?_
  refine v_al rfl (ck_p3 hA) (a68 hA rfl) (by decide) ?_
  refine v_ic_ge_f (t := 34) rfl (by decide) ⟨(Int.le_trans (by decide) (rg_eq hg_si h_7).1), by omega, by decide⟩ ?_
  refine q_aload_n rfl rfl ?_
  refine q_iload rfl rfl ?_
  refine q_aload_n rfl rfl ?_
  refine q_iload rfl rfl ?_
  have h_11 := ir_1_4 hJ
  refine v_cv rfl rfl rfl rfl (by decide) ⟨⟨rfl, rfl⟩, by decide, rfl⟩ (Nat.le_of_ble_eq_true rfl) (Nat.le_of_ble_eq_true rfl) (fn_of (s_8 (a1 := 2) hJ (show (-1) ≤ 2 ∧ 2 ≤ 9999 from ⟨by decide, by decide⟩) (fun c_12 y_15 hI_13 hF_14 hy_15 h_16 => ?_)))
  intro hG_17
  refine bk_inl ?_
  refine v_is rfl (ck_p3 hA) (a68 hA rfl) (by decide) (by omega) ?_
  refine v_iinc (v := si + 1) rfl rfl (by decide) rfl ?_
  refine q_goto (t := 3) rfl (by decide) ?_
  refine q_iload rfl rfl ?_
  refine q_iload_n rfl rfl ?_
  refine q_iload_n rfl rfl ?_
  refine v_iadd (v := si + 1) rfl rfl ?_
  refine v_ic_ge_t (t := 34) rfl (by decide) ⟨by first | exact rgp_l (rg_eq hg_si h_7).1 (by decide) | omega, by omega, by first | exact rgp_h (rg_eq hg_si h_7).2 (by decide) | omega⟩ ?_
  refine q_vret rfl rfl ?_
  refine bk_inl ?_
  refine q_aload_n rfl rfl ?_
  refine q_dup rfl rfl ?_
  have kn_18 : Hid (c_12 A 2 = si) := (hF_14 A 2 (fun q => q.elim (fun h => absurd h.1 (np0 hA rfl)) (fun q => q.elim (fun h => absurd h.1 (np0 hA rfl)) (fun h => absurd h.1 (np0 hA rfl))))).trans (hg_si)
  refine v_gi (z := 2) (v := si) rfl rfl (ck_p0 hA) (a68z hA) rfl rfl ((up_c (p0p rfl)).trans (hid kn_18)) ?_
  refine q_iconst rfl ?_
  refine v_iadd (v := si + 1) rfl rfl ?_
  refine v_pi (z := 2) rfl rfl (ck_p0 hA) (a68z hA) rfl rfl rfl (by decide) ?_
  refine q_goto (t := 126) rfl (by decide) ?_
  refine q_vret rfl rfl ?_
  have hI_19 := iw_p3 (j := si) (v := y_15) hI_13 hA ⟨hy_15.1, by omega⟩
  have hI_20 := iw_p0_2 (v := si + 1) hI_19 hA ⟨by first | exact rgp_l (rg_eq hg_si h_7).1 (by decide) | omega, by omega⟩
  intro hE_21
  have hW : Wd P Q P P (up (up c_12 (A + 3) si y_15) A 2 (si + 1)) = Wd P Q P P m9 := (Prod.mk.inj (Prod.mk.inj hE_21).2).1
  have h_22 := ir_1_4 hI_13
  have h_23 := ir_1_4 hJ9
  have h_24 : m9 1 4 = c_12 1 4 := wd_fv (z := 4) 4 rfl hW rfl rfl rfl rfl (by decide) ((up_c (pn0 hA rfl)).trans (up_c (pn hA rfl rfl))) ⟨(Int.le_trans (by decide) h_22.1), (Int.le_trans h_22.2 (by decide))⟩ ⟨(Int.le_trans (by decide) h_23.1), (Int.le_trans h_23.2 (by decide))⟩
  have h_25 := ir_1_2 hI_13
  have h_26 := ir_1_2 hJ9
  have h_27 : m9 1 2 = c_12 1 2 := wd_fv (z := 2) 2 rfl hW rfl rfl rfl rfl (by decide) ((up_c (pn0 hA rfl)).trans (up_c (pn hA rfl rfl))) ⟨(Int.le_trans (by decide) h_25.1), (Int.le_trans h_25.2 (by decide))⟩ ⟨(Int.le_trans (by decide) h_26.1), (Int.le_trans h_26.2 (by decide))⟩
  have h_28 := ir_1_5 hI_13
  have h_29 := ir_1_5 hJ9
  have h_30 : m9 1 5 = c_12 1 5 := wd_fv (z := 5) 5 rfl hW rfl rfl rfl rfl (by decide) ((up_c (pn0 hA rfl)).trans (up_c (pn hA rfl rfl))) ⟨(Int.le_trans (by decide) h_28.1), (Int.le_trans h_28.2 (by decide))⟩ ⟨(Int.le_trans (by decide) h_29.1), (Int.le_trans h_29.2 (by decide))⟩
  have kn_31 : Hid (c_12 A 0 = jr) := (hF_14 A 0 (fun q => q.elim (fun h => absurd h.1 (np0 hA rfl)) (fun q => q.elim (fun h => absurd h.1 (np0 hA rfl)) (fun h => absurd h.1 (np0 hA rfl))))).trans (hg_jr)
  have h_32 := ir_p0_0 hJ9 hA
  have h_33 : m9 A 0 = jr := wd_fv (z := 0) 0 rfl hW (ck_p0 hA) (ck_p0 hA) rfl rfl (by omega) ((up_n (by decide)).trans ((up_c (p0p rfl)).trans (hid kn_31))) ⟨(Int.le_trans (by decide) (rg_eq hg_jr h_3).1), (Int.le_trans (rg_eq hg_jr h_3).2 (by decide))⟩ ⟨(Int.le_trans (by decide) h_32.1), (Int.le_trans h_32.2 (by decide))⟩
  have kn_34 : Hid (c_12 A 1 = st) := (hF_14 A 1 (fun q => q.elim (fun h => absurd h.1 (np0 hA rfl)) (fun q => q.elim (fun h => absurd h.1 (np0 hA rfl)) (fun h => absurd h.1 (np0 hA rfl))))).trans (hg_st)
  have h_35 := ir_p0_1 hJ9 hA
  have h_36 : m9 A 1 = st := wd_fv (z := 1) 1 rfl hW (ck_p0 hA) (ck_p0 hA) rfl rfl (by omega) ((up_n (by decide)).trans ((up_c (p0p rfl)).trans (hid kn_34))) ⟨(Int.le_trans (by decide) (rg_eq hg_st h_5).1), (Int.le_trans (rg_eq hg_st h_5).2 (by decide))⟩ ⟨(Int.le_trans (by decide) h_35.1), (Int.le_trans h_35.2 (by decide))⟩
  have h_37 := ir_p0_2 hJ9 hA
  have h_38 : m9 A 2 = si + 1 := wd_fv (z := 2) 2 rfl hW (ck_p0 hA) (ck_p0 hA) rfl rfl (by omega) (up_e rfl) ⟨by first | exact rgp_l (rg_eq hg_si h_7).1 (by decide) | omega, by first | exact rgp_h (rg_eq hg_si h_7).2 (by decide) | omega⟩ ⟨(Int.le_trans (by decide) h_37.1), (Int.le_trans h_37.2 (by decide))⟩
  have kn_39 : Hid (c_12 A 3 = du) := (hF_14 A 3 (fun q => q.elim (fun h => absurd h.1 (np0 hA rfl)) (fun q => q.elim (fun h => absurd h.1 (np0 hA rfl)) (fun h => absurd h.1 (np0 hA rfl))))).trans (hg_du)
  have h_40 := ir_p0_3 hJ9 hA
  have h_41 : m9 A 3 = du := wd_fv (z := 3) 3 rfl hW (ck_p0 hA) (ck_p0 hA) rfl rfl (by omega) ((up_n (by decide)).trans ((up_c (p0p rfl)).trans (hid kn_39))) ⟨(Int.le_trans (by decide) (rg_eq hg_du h_9).1), (Int.le_trans (rg_eq hg_du h_9).2 (by decide))⟩ ⟨(Int.le_trans (by decide) h_40.1), (Int.le_trans h_40.2 (by decide))⟩
  refine q_iload_n rfl rfl ?_
  refine q_ldc_s rfl rfl rfl (by decide) ?_
  refine q_call rfl rfl rfl rfl (s_158_16 ?_)
  refine bk_inl ?_
  refine v_ic_ne_t (t := 56) rfl (by decide) (by decide) ?_
  refine q_iload_n rfl rfl ?_
  refine q_ldc_s rfl rfl rfl (by decide) ?_
  refine q_call rfl rfl rfl rfl (s_158_17 ?_)
  refine bk_inl ?_
  refine v_ic_ne_t (t := 111) rfl (by decide) (by decide) ?_
  refine q_iload_n rfl rfl ?_
  refine q_ldc_s rfl rfl rfl (by decide) ?_
  refine q_call rfl rfl rfl rfl (s_158_18 ?_)
  refine bk_inl ?_
  refine v_ic_ne_f (t := 148) rfl (by decide) (by decide) ?_
  refine q_aload_n rfl rfl ?_
  refine v_gr (t := 46) rfl rfl rfl (by decide) rfl ?_
  refine q_aload_n rfl rfl ?_
  refine v_gi (z := 18) (v := si) rfl rfl rfl (by decide) rfl rfl (hr_si) ?_
  refine q_aload_n rfl rfl ?_
  refine q_iconst rfl ?_
  refine q_iconst rfl ?_
  have h_42 := ir_1_2 hJ
  refine v_cv rfl rfl rfl rfl (by decide) ⟨⟨rfl, rfl⟩, by decide, rfl⟩ (Nat.le_of_ble_eq_true rfl) (Nat.le_of_ble_eq_true rfl) (L_8 (m := m) (a2 := 2) (yg := y_15) (e1 := e1) (a9 := m 1 2) (f0 := m 1 4) (F := F) (H := H) hI hJ hI_13 (show (-1) ≤ 2 ∧ 2 ≤ 9999 from ⟨by decide, by decide⟩) ⟨by omega, by omega⟩ ((hg_e1)) ((hr_e1)) (rfl) (rfl) (fun j => hF j) (fun j => hH j) hU hRt hG_17 (fun c_43 y_46 hI_44 hF_45 hy_46 hR_47 h_48 h_49 h_50 h_51 => ?_))
  refine bk_inl ?_
  have hs_52 := h_48.symm
  subst hs_52
  refine v_is rfl rfl (by decide) (by decide) (by omega) ?_
  refine q_aload_n rfl rfl ?_
  refine q_dup rfl rfl ?_
  have kn_53 : Hid (c_43 41 18 = si) := (hF_45 41 18 (fun q => q.elim (fun h => absurd h.2 (ni rfl)) (fun q => q.elim (fun h => absurd h.2 (ni rfl)) (fun h => absurd h.2 (ni rfl))))).trans (hr_si)
  refine v_gi (z := 18) (v := si) rfl rfl rfl (by decide) rfl rfl ((up_c (nn rfl)).trans (hid kn_53)) ?_
  refine q_iconst rfl ?_
  refine v_iadd (v := si + 1) rfl rfl ?_
  refine v_pi (z := 18) rfl rfl rfl (by decide) rfl rfl rfl (by decide) ?_
  refine q_goto (t := 159) rfl (by decide) ?_
  refine q_vret rfl rfl ?_
  have hI_54 := iw_46 (j := si) (v := y_15) hI_44 ⟨hy_15.1, by first | (clear hq0 h_1 h_2 h_3 h_4 h_5 h_6 h_7 h_8 h_9 h_10 h_11 h_22 h_23 h_24 h_25 h_26 h_27 h_28 h_29 h_30 h_32 h_33 h_35 h_36 h_37 h_38 h_40 h_41 h_42 h_49 h_50; omega) | omega⟩
  have hI_55 := iw_41_18 (v := si + 1) hI_54 ⟨by first | exact rgp_l (rg_eq hg_si h_7).1 (by decide) | omega, by first | (clear h_1 h_2 h_3 h_4 h_5 h_6 h_7 h_8 h_9 h_10 h_11 h_22 h_23 h_24 h_25 h_26 h_27 h_28 h_29 h_30 h_32 h_33 h_35 h_36 h_37 h_38 h_40 h_41 h_42 h_16 h_49 h_50 h_51; omega) | omega⟩
  have h_56 := ir_41_5 hI_44
  have h_57 := ir_41_4 hI_44
  have h_58 := ir_41_6 hI_44
  have h_59 := rt_or hR_47
  have h_60 : (up (up c_43 46 si y_15) 41 18 (si + 1)) 41 5 = c_43 41 5 := ((up_n (by decide)).trans (up_c (nn rfl)))
  have h_61 : (up (up c_43 46 si y_15) 41 18 (si + 1)) 41 4 = c_43 41 4 := ((up_n (by decide)).trans (up_c (nn rfl)))
  have h_62 : (up (up c_43 46 si y_15) 41 18 (si + 1)) 41 6 = c_43 41 6 := ((up_n (by decide)).trans (up_c (nn rfl)))
  have kn_63 : Hid (c_43 41 16 = jr) := (hF_45 41 16 (fun q => q.elim (fun h => absurd h.2 (ni rfl)) (fun q => q.elim (fun h => absurd h.2 (ni rfl)) (fun h => absurd h.2 (ni rfl))))).trans (hr_jr)
  have h_64 : (up (up c_43 46 si y_15) 41 18 (si + 1)) 41 16 = jr := ((up_n (by decide)).trans ((up_c (nn rfl)).trans (hid kn_63)))
  have kn_65 : Hid (c_43 41 17 = st) := (hF_45 41 17 (fun q => q.elim (fun h => absurd h.2 (ni rfl)) (fun q => q.elim (fun h => absurd h.2 (ni rfl)) (fun h => absurd h.2 (ni rfl))))).trans (hr_st)
  have h_66 : (up (up c_43 46 si y_15) 41 18 (si + 1)) 41 17 = st := ((up_n (by decide)).trans ((up_c (nn rfl)).trans (hid kn_65)))
  have h_67 : (up (up c_43 46 si y_15) 41 18 (si + 1)) 41 18 = si + 1 := (up_e rfl)
  have kn_68 : Hid (c_43 41 19 = du) := (hF_45 41 19 (fun q => q.elim (fun h => absurd h.2 (ni rfl)) (fun q => q.elim (fun h => absurd h.2 (ni rfl)) (fun h => absurd h.2 (ni rfl))))).trans (hr_du)
  have h_69 : (up (up c_43 46 si y_15) 41 18 (si + 1)) 41 19 = du := ((up_n (by decide)).trans ((up_c (nn rfl)).trans (hid kn_68)))
  exact K (up (up c_43 46 si y_15) 41 18 (si + 1))  hI_55 (fun a j hm => (up_b (Decidable.or_iff_not_imp_left.mpr (fun h1 h2 => hm (Or.inr (Or.inr (Or.inr (Or.inr (Or.inr (Or.inl ⟨Decidable.not_not.mp h1, h2⟩))))))))).trans ((up_b (Decidable.or_iff_not_imp_left.mpr (fun h1 h2 => hm (Or.inr (Or.inr (Or.inr (Or.inr (Or.inr (Or.inr (Or.inr (Or.inr (Or.inr (Decidable.not_not.mp h1))))))))))))).trans (hF_45 a j (fun q => q.elim (fun h => hm (Or.inl h)) (fun q => q.elim (fun h => hm (Or.inr (Or.inl h))) (fun h => hm (Or.inr (Or.inr (Or.inl h))))))))) (by unfold Rt; omega) (by first | (clear hq0 h_1 h_2 h_3 h_4 h_5 h_6 h_7 h_8 h_9 h_10 h_11 h_22 h_23 h_24 h_25 h_26 h_27 h_28 h_29 h_30 h_32 h_35 h_36 h_37 h_38 h_40 h_41 h_42 h_56 h_57 h_58 h_16 h_49 h_50 h_51 h_59; omega) | omega) (by first | (clear hq0 h_1 h_2 h_3 h_4 h_5 h_6 h_7 h_8 h_9 h_10 h_11 h_22 h_23 h_24 h_25 h_26 h_27 h_28 h_29 h_30 h_32 h_33 h_35 h_37 h_38 h_40 h_41 h_42 h_56 h_57 h_58 h_16 h_49 h_50 h_51 h_59; omega) | omega) (by first | (clear hq0 h_1 h_2 h_3 h_4 h_5 h_6 h_7 h_8 h_9 h_10 h_11 h_22 h_23 h_24 h_25 h_26 h_27 h_28 h_29 h_30 h_32 h_33 h_35 h_36 h_37 h_40 h_41 h_42 h_56 h_57 h_58 h_16 h_49 h_50 h_51 h_59; omega) | omega) (by first | (clear hq0 h_1 h_2 h_3 h_4 h_5 h_6 h_7 h_8 h_9 h_10 h_11 h_22 h_23 h_24 h_25 h_26 h_27 h_28 h_29 h_30 h_32 h_33 h_35 h_36 h_37 h_38 h_40 h_42 h_56 h_57 h_58 h_16 h_49 h_50 h_51 h_59; omega) | omega)

set_option maxRecDepth 100000 in
set_option maxHeartbeats 4000000 in
theorem L_33_3 {sc : List Int32} {e eg : Int} {d dh u ug P Q P2 Q2 A : Nat} {c m m9 : ME} {e1 jr st si du : Int} {F H : Int → Int} {Z : AR → Prop} (hI : Iv u e P2 Q2 c) (hJ : Iv ug eg P Q m) (hJ9 : Iv ug eg P Q m9) (hA : A = 13 ∨ A = 25) (hg_e1 : m 1 1 = e1) (hr_e1 : c 41 3 = e1) (hg_jr : m A 0 = jr) (hr_jr : c 41 16 = jr) (hg_st : m A 1 = st) (hr_st : c 41 17 = st) (hg_si : m A 2 = si) (hr_si : c 41 18 = si) (hg_du : m A 3 = du) (hr_du : c 41 19 = du) (hF : ∀ j : Int, m 2 j = F j) (hH : ∀ j : Int, c 43 j = H j) (hU : Ub F H) (hRt : Rt m c) (hG : Wp sc (dh + 18) 33 0 [(0, .ref A), (1, .ref 1), (2, vi 3)] [] (Wd P Q P P m) 0 0 (fun q => q = (.inl (none), Wd P Q P P m9, 0, 0))) (K : ∀ (c2 : ME), Iv u e P2 Q2 c2 → (∀ (a : Nat) (j : Int), ¬ ((a = 41 ∧ j = 4) ∨ (a = 41 ∧ j = 5) ∨ (a = 41 ∧ j = 6) ∨ (a = 41 ∧ j = 16) ∨ (a = 41 ∧ j = 17) ∨ (a = 41 ∧ j = 18) ∨ (a = 41 ∧ j = 19) ∨ a = 44 ∨ a = 45 ∨ a = 46) → c2 a j = c a j) → (Rt m9 c2) → ((m9 A 0 = c2 41 16)) → ((m9 A 1 = c2 41 17)) → ((m9 A 2 = c2 41 18)) → ((m9 A 3 = c2 41 19)) → Z (.inl (none), Wd P2 Q2 P2 P2 c2, 0, 0)) : Wp sc (d + 18) 168 0 [(0, .ref 41), (1, vi 153204)] [] (Wd P2 Q2 P2 P2 c) 0 0 Z := by
  have hP := iv_P hJ
  have hQ := iv_Q hJ
  have h_1 := ir_1_1 hJ
  have h_2 := ir_41_3 hI
  have h_3 := ir_p0_0 hJ hA
  have h_4 := ir_41_16 hI
  have h_5 := ir_p0_1 hJ hA
  have h_6 := ir_41_17 hI
  have h_7 := ir_p0_2 hJ hA
  have h_8 := ir_41_18 hI
  have h_9 := ir_p0_3 hJ hA
  have h_10 := ir_41_19 hI
  refine gh hG ?_
  refine q_iload_n rfl rfl ?_
  refine v_tsw_o (t := 116) rfl (by omega) (by decide) ?_
  refine q_aload_n rfl rfl ?_
  refine q_aload_n rfl rfl ?_
  refine v_bip rfl (by decide) ?_
  have h_11 := ir_1_4 hJ
  refine v_cv rfl rfl rfl rfl (by decide) ⟨⟨rfl, rfl⟩, by decide, rfl⟩ (Nat.le_of_ble_eq_true rfl) (Nat.le_of_ble_eq_true rfl) (fn_of (s_8 (a1 := 50) hJ (show (-1) ≤ 50 ∧ 50 ≤ 9999 from ⟨by decide, by decide⟩) (fun c_12 y_15 hI_13 hF_14 hy_15 h_16 => ?_)))
  intro hG_17
  refine bk_inl ?_
  refine v_pi (z := 3) rfl rfl (ck_p0 hA) (a68z hA) rfl rfl rfl (by decide) ?_
  refine q_vret rfl rfl ?_
  have hI_18 := iw_p0_3 (v := y_15) hI_13 hA ⟨hy_15.1, by omega⟩
  intro hE_19
  have hW : Wd P Q P P (up c_12 A 3 y_15) = Wd P Q P P m9 := (Prod.mk.inj (Prod.mk.inj hE_19).2).1
  have h_20 := ir_1_4 hI_13
  have h_21 := ir_1_4 hJ9
  have h_22 : m9 1 4 = c_12 1 4 := wd_fv (z := 4) 4 rfl hW rfl rfl rfl rfl (by decide) (up_c (pn0 hA rfl)) ⟨(Int.le_trans (by decide) h_20.1), (Int.le_trans h_20.2 (by decide))⟩ ⟨(Int.le_trans (by decide) h_21.1), (Int.le_trans h_21.2 (by decide))⟩
  have h_23 := ir_1_2 hI_13
  have h_24 := ir_1_2 hJ9
  have h_25 : m9 1 2 = c_12 1 2 := wd_fv (z := 2) 2 rfl hW rfl rfl rfl rfl (by decide) (up_c (pn0 hA rfl)) ⟨(Int.le_trans (by decide) h_23.1), (Int.le_trans h_23.2 (by decide))⟩ ⟨(Int.le_trans (by decide) h_24.1), (Int.le_trans h_24.2 (by decide))⟩
  have h_26 := ir_1_5 hI_13
  have h_27 := ir_1_5 hJ9
  have h_28 : m9 1 5 = c_12 1 5 := wd_fv (z := 5) 5 rfl hW rfl rfl rfl rfl (by decide) (up_c (pn0 hA rfl)) ⟨(Int.le_trans (by decide) h_26.1), (Int.le_trans h_26.2 (by decide))⟩ ⟨(Int.le_trans (by decide) h_27.1), (Int.le_trans h_27.2 (by decide))⟩
  have kn_29 : Hid (c_12 A 0 = jr) := (hF_14 A 0 (fun q => q.elim (fun h => absurd h.1 (np0 hA rfl)) (fun q => q.elim (fun h => absurd h.1 (np0 hA rfl)) (fun h => absurd h.1 (np0 hA rfl))))).trans (hg_jr)
  have h_30 := ir_p0_0 hJ9 hA
  have h_31 : m9 A 0 = jr := wd_fv (z := 0) 0 rfl hW (ck_p0 hA) (ck_p0 hA) rfl rfl (by omega) ((up_n (by decide)).trans (hid kn_29)) ⟨(Int.le_trans (by decide) (rg_eq hg_jr h_3).1), (Int.le_trans (rg_eq hg_jr h_3).2 (by decide))⟩ ⟨(Int.le_trans (by decide) h_30.1), (Int.le_trans h_30.2 (by decide))⟩
  have kn_32 : Hid (c_12 A 1 = st) := (hF_14 A 1 (fun q => q.elim (fun h => absurd h.1 (np0 hA rfl)) (fun q => q.elim (fun h => absurd h.1 (np0 hA rfl)) (fun h => absurd h.1 (np0 hA rfl))))).trans (hg_st)
  have h_33 := ir_p0_1 hJ9 hA
  have h_34 : m9 A 1 = st := wd_fv (z := 1) 1 rfl hW (ck_p0 hA) (ck_p0 hA) rfl rfl (by omega) ((up_n (by decide)).trans (hid kn_32)) ⟨(Int.le_trans (by decide) (rg_eq hg_st h_5).1), (Int.le_trans (rg_eq hg_st h_5).2 (by decide))⟩ ⟨(Int.le_trans (by decide) h_33.1), (Int.le_trans h_33.2 (by decide))⟩
  have kn_35 : Hid (c_12 A 2 = si) := (hF_14 A 2 (fun q => q.elim (fun h => absurd h.1 (np0 hA rfl)) (fun q => q.elim (fun h => absurd h.1 (np0 hA rfl)) (fun h => absurd h.1 (np0 hA rfl))))).trans (hg_si)
  have h_36 := ir_p0_2 hJ9 hA
  have h_37 : m9 A 2 = si := wd_fv (z := 2) 2 rfl hW (ck_p0 hA) (ck_p0 hA) rfl rfl (by omega) ((up_n (by decide)).trans (hid kn_35)) ⟨(Int.le_trans (by decide) (rg_eq hg_si h_7).1), (Int.le_trans (rg_eq hg_si h_7).2 (by decide))⟩ ⟨(Int.le_trans (by decide) h_36.1), (Int.le_trans h_36.2 (by decide))⟩
  have h_38 := ir_p0_3 hJ9 hA
  have h_39 : m9 A 3 = y_15 := wd_fv (z := 3) 3 rfl hW (ck_p0 hA) (ck_p0 hA) rfl rfl (by omega) (up_e rfl) ⟨(Int.le_trans (by decide) hy_15.1), (Int.le_trans hy_15.2 (by decide))⟩ ⟨(Int.le_trans (by decide) h_38.1), (Int.le_trans h_38.2 (by decide))⟩
  refine q_iload_n rfl rfl ?_
  refine q_ldc_s rfl rfl rfl (by decide) ?_
  refine q_call rfl rfl rfl rfl (s_158_16 ?_)
  refine bk_inl ?_
  refine v_ic_ne_t (t := 56) rfl (by decide) (by decide) ?_
  refine q_iload_n rfl rfl ?_
  refine q_ldc_s rfl rfl rfl (by decide) ?_
  refine q_call rfl rfl rfl rfl (s_158_17 ?_)
  refine bk_inl ?_
  refine v_ic_ne_t (t := 111) rfl (by decide) (by decide) ?_
  refine q_iload_n rfl rfl ?_
  refine q_ldc_s rfl rfl rfl (by decide) ?_
  refine q_call rfl rfl rfl rfl (s_158_18 ?_)
  refine bk_inl ?_
  refine v_ic_ne_t (t := 148) rfl (by decide) (by decide) ?_
  refine q_aload_n rfl rfl ?_
  refine q_aload_n rfl rfl ?_
  refine q_iconst rfl ?_
  refine v_bip rfl (by decide) ?_
  have h_40 := ir_1_2 hJ
  refine v_cv rfl rfl rfl rfl (by decide) ⟨⟨rfl, rfl⟩, by decide, rfl⟩ (Nat.le_of_ble_eq_true rfl) (Nat.le_of_ble_eq_true rfl) (L_8 (m := m) (a2 := 50) (yg := y_15) (e1 := e1) (a9 := m 1 2) (f0 := m 1 4) (F := F) (H := H) hI hJ hI_13 (show (-1) ≤ 50 ∧ 50 ≤ 9999 from ⟨by decide, by decide⟩) ⟨by omega, by omega⟩ ((hg_e1)) ((hr_e1)) (rfl) (rfl) (fun j => hF j) (fun j => hH j) hU hRt hG_17 (fun c_41 y_44 hI_42 hF_43 hy_44 hR_45 h_46 h_47 h_48 h_49 => ?_))
  refine bk_inl ?_
  have hs_50 := h_46.symm
  subst hs_50
  refine v_pi (z := 19) rfl rfl rfl (by decide) rfl rfl rfl (by decide) ?_
  refine q_vret rfl rfl ?_
  have hI_51 := iw_41_19 (v := y_15) hI_42 ⟨hy_15.1, by first | (clear h_1 h_2 h_3 h_4 h_5 h_6 h_7 h_8 h_9 h_10 h_11 h_20 h_21 h_22 h_23 h_24 h_25 h_26 h_27 h_28 h_30 h_31 h_33 h_34 h_36 h_37 h_40 h_16 h_47 h_48 h_49; omega) | omega⟩
  have h_52 := ir_41_5 hI_42
  have h_53 := ir_41_4 hI_42
  have h_54 := ir_41_6 hI_42
  have h_55 := rt_or hR_45
  have h_56 : (up c_41 41 19 y_15) 41 5 = c_41 41 5 := (up_n (by decide))
  have h_57 : (up c_41 41 19 y_15) 41 4 = c_41 41 4 := (up_n (by decide))
  have h_58 : (up c_41 41 19 y_15) 41 6 = c_41 41 6 := (up_n (by decide))
  have kn_59 : Hid (c_41 41 16 = jr) := (hF_43 41 16 (fun q => q.elim (fun h => absurd h.2 (ni rfl)) (fun q => q.elim (fun h => absurd h.2 (ni rfl)) (fun h => absurd h.2 (ni rfl))))).trans (hr_jr)
  have h_60 : (up c_41 41 19 y_15) 41 16 = jr := ((up_n (by decide)).trans (hid kn_59))
  have kn_61 : Hid (c_41 41 17 = st) := (hF_43 41 17 (fun q => q.elim (fun h => absurd h.2 (ni rfl)) (fun q => q.elim (fun h => absurd h.2 (ni rfl)) (fun h => absurd h.2 (ni rfl))))).trans (hr_st)
  have h_62 : (up c_41 41 19 y_15) 41 17 = st := ((up_n (by decide)).trans (hid kn_61))
  have kn_63 : Hid (c_41 41 18 = si) := (hF_43 41 18 (fun q => q.elim (fun h => absurd h.2 (ni rfl)) (fun q => q.elim (fun h => absurd h.2 (ni rfl)) (fun h => absurd h.2 (ni rfl))))).trans (hr_si)
  have h_64 : (up c_41 41 19 y_15) 41 18 = si := ((up_n (by decide)).trans (hid kn_63))
  have h_65 : (up c_41 41 19 y_15) 41 19 = y_15 := (up_e rfl)
  exact K (up c_41 41 19 y_15)  hI_51 (fun a j hm => (up_b (Decidable.or_iff_not_imp_left.mpr (fun h1 h2 => hm (Or.inr (Or.inr (Or.inr (Or.inr (Or.inr (Or.inr (Or.inl ⟨Decidable.not_not.mp h1, h2⟩)))))))))).trans (hF_43 a j (fun q => q.elim (fun h => hm (Or.inl h)) (fun q => q.elim (fun h => hm (Or.inr (Or.inl h))) (fun h => hm (Or.inr (Or.inr (Or.inl h)))))))) (by unfold Rt; omega) (by first | (clear h_1 h_2 h_3 h_4 h_5 h_6 h_7 h_8 h_9 h_10 h_11 h_20 h_21 h_22 h_23 h_24 h_25 h_26 h_27 h_28 h_30 h_33 h_34 h_36 h_37 h_38 h_39 h_40 h_52 h_53 h_54 h_16 h_47 h_48 h_49 h_55; omega) | omega) (by first | (clear h_1 h_2 h_3 h_4 h_5 h_6 h_7 h_8 h_9 h_10 h_11 h_20 h_21 h_22 h_23 h_24 h_25 h_26 h_27 h_28 h_30 h_31 h_33 h_36 h_37 h_38 h_39 h_40 h_52 h_53 h_54 h_16 h_47 h_48 h_49 h_55; omega) | omega) (by first | (clear h_1 h_2 h_3 h_4 h_5 h_6 h_7 h_8 h_9 h_10 h_11 h_20 h_21 h_22 h_23 h_24 h_25 h_26 h_27 h_28 h_30 h_31 h_33 h_34 h_36 h_38 h_39 h_40 h_52 h_53 h_54 h_16 h_47 h_48 h_49 h_55; omega) | omega) (by first | (clear h_1 h_2 h_3 h_4 h_5 h_6 h_7 h_8 h_9 h_10 h_11 h_20 h_21 h_22 h_23 h_24 h_25 h_26 h_27 h_28 h_30 h_31 h_33 h_34 h_36 h_37 h_38 h_40 h_52 h_53 h_54 h_16 h_47 h_48 h_49 h_55; omega) | omega)

