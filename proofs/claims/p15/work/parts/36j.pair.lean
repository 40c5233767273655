/-! ===== class and reference side by side 11 ===== -/
set_option maxRecDepth 100000 in
set_option maxHeartbeats 4000000 in
theorem L_12_l {sc : List Int32} {e eg : Int} {d dh u ug P Q P2 Q2 A : Nat} {c m m9 : ME} {a2 e1 f0 g0 p0 n0 o0 : Int} {F H : Int → Int} {Z : AR → Prop} (hI : Iv u e P2 Q2 c) (hJ : Iv ug eg P Q m) (hJ9 : Iv ug eg P Q m9) (hA : A = 13 ∨ A = 25) (ha2 : 0 ≤ a2 ∧ a2 ≤ 6) (hq0 : (f0 = 0)) (hq1 : (g0 = (-1))) (hq2 : (o0 = a2)) (hq3 : (n0 ≤ p0)) (hq4 : (p0 ≤ e1)) (hq5 : (e1 ≤ 150)) (hg_e1 : m 1 1 = e1) (hr_e1 : c 41 3 = e1) (hg_f0 : m 1 4 = f0) (hg_g0 : m 1 5 = g0) (hg_p0 : m 1 2 = p0) (hg_n0 : m (A + 7) 5 = n0) (hr_n0 : c 41 29 = n0) (hr_o0 : c 41 7 = o0) (hF : ∀ j : Int, m 2 j = F j) (hH : ∀ j : Int, c 43 j = H j) (hU : Ub F H) (hRt : Rt m c) (hr0 : Ce n0 (m (A + 9)) (c 50) (c 51)) (H13 : ∀ {d9 : Nat} {c m m9 : ME} {e1 f0 g0 p0 n0 o0 : Int} {Z : AR → Prop}, d ≤ d9 → a2 + 1 ≤ 6 → (Iv u e P2 Q2 c) → (Iv ug eg P Q m) → (Iv ug eg P Q m9) → (0 ≤ (a2 + 1) ∧ (a2 + 1) ≤ 6) → ((f0 = 0)) → ((g0 = (-1))) → ((o0 = (a2 + 1))) → ((n0 ≤ p0)) → ((p0 ≤ e1)) → ((e1 ≤ 150)) → (m 1 1 = e1) → (c 41 3 = e1) → (m 1 4 = f0) → (m 1 5 = g0) → (m 1 2 = p0) → (m (A + 7) 5 = n0) → (c 41 29 = n0) → (c 41 7 = o0) → (∀ j : Int, m 2 j = F j) → (∀ j : Int, c 43 j = H j) → (Ub F H) → (Rt m c) → (Ce n0 (m (A + 9)) (c 50) (c 51)) → (Wp sc (dh + 33) 13 0 [(0, .ref (A + 7)), (1, .ref 1), (2, vi (a2 + 1))] [] (Wd P Q P P m) 0 0 (fun q => q = (.inl (none), Wd P Q P P m9, 0, 0))) → (∀ (c2 : ME), Iv u e P2 Q2 c2 → (∀ (a : Nat) (j : Int), ¬ ((a = 41 ∧ j = 4) ∨ (a = 41 ∧ j = 5) ∨ (a = 41 ∧ j = 6) ∨ (a = 41 ∧ j = 7) ∨ (a = 41 ∧ j = 29) ∨ a = 50 ∨ a = 51) → c2 a j = c a j) → (Rt m9 c2) → ((m9 1 4 < 0) ∨ (m9 1 4 > 0) ∨ (m9 (A + 7) 5 = c2 41 29 ∧ c2 41 29 + p0 ≤ m9 1 2 + n0 ∧ m9 1 2 ≤ e1 ∧ m9 1 2 ≥ p0)) → ((c2 41 7 = (a2 + 1))) → (m9 1 4 = 0 → Ce (c2 41 29) (m9 (A + 9)) (c2 50) (c2 51)) → Z (.inl (none), Wd P2 Q2 P2 P2 c2, 0, 0)) → Wp sc (d9 + 32) 174 0 [(0, .ref 41)] [] (Wd P2 Q2 P2 P2 c) 0 0 Z) (K : ∀ (c2 : ME), Iv u e P2 Q2 c2 → (∀ (a : Nat) (j : Int), ¬ ((a = 41 ∧ j = 4) ∨ (a = 41 ∧ j = 5) ∨ (a = 41 ∧ j = 6) ∨ (a = 41 ∧ j = 7) ∨ (a = 41 ∧ j = 29) ∨ a = 50 ∨ a = 51) → c2 a j = c a j) → (Rt m9 c2) → ((m9 1 4 < 0) ∨ (m9 1 4 > 0) ∨ (m9 (A + 7) 5 = c2 41 29 ∧ c2 41 29 + p0 ≤ m9 1 2 + n0 ∧ m9 1 2 ≤ e1 ∧ m9 1 2 ≥ p0)) → ((c2 41 7 = a2)) → (m9 1 4 = 0 → Ce (c2 41 29) (m9 (A + 9)) (c2 50) (c2 51)) → Z (.inl (none), Wd P2 Q2 P2 P2 c2, 0, 0)) : ∀ n : Nat, (∀ (c2 m2 : ME) (v : Int) (a : Int) (nw : Int), Iv u e P2 Q2 c2 → (∀ (a : Nat) (j : Int), ¬ ((a = 41 ∧ j = 4) ∨ (a = 41 ∧ j = 5) ∨ (a = 41 ∧ j = 6) ∨ (a = 41 ∧ j = 7) ∨ (a = 41 ∧ j = 29) ∨ a = 50 ∨ a = 51) → c2 a j = c a j) → Iv ug eg P Q m2 → (∀ (a : Nat) (j : Int), ¬ ((a = 1 ∧ j = 2) ∨ (a = 1 ∧ j = 4) ∨ (a = 1 ∧ j = 5) ∨ (a = (A + 7) ∧ j = 5) ∨ a = (A + 9)) → m2 a j = m a j) → 0 ≤ v ∧ v ≤ 150 → 0 ≤ a ∧ a ≤ 600 → 0 ≤ nw ∧ nw ≤ 150 → m2 1 2 = a → c2 41 4 = a → m2 (A + 7) 5 = nw → c2 41 29 = nw → m2 1 4 = 0 → c2 41 5 = (-1) → m2 1 5 = (-1) → c2 41 7 = a2 → ((nw + p0 ≤ a + n0)) → ((a ≥ p0)) → ((a ≤ e1)) → ((v ≤ a)) → (Ce nw (m2 (A + 9)) (c2 50) (c2 51)) → Wp sc (dh + 35) 12 8 [(0, .ref (A + 7)), (1, .ref 1), (2, vi a2), (3, vi v)] [] (Wd P Q P P m2) 0 0 (fun q => q = (.inl (none), Wd P Q P P m9, 0, 0)) → 601 - a < (n : Int) → Wp sc (d + 35) 173 4 [(0, .ref 41)] [] (Wd P2 Q2 P2 P2 c2) 0 0 Z)
  | 0 => by intro c2 m2 v a nw hI2 hFc hJ2 hFm hv ha hnw hg_a hr_a hg_nw hr_nw hc_0 hc_1 hc_2 hc_3 hx0 hx1 hx2 hx3 hrl0 hG2 hm9; exfalso; omega
  | n + 1 => by
    have hP := iv_P hJ
    have hQ := iv_Q hJ
    have ih := L_12_l (sc := sc) (d := d) (dh := dh) hI hJ hJ9 hA ha2 hq0 hq1 hq2 hq3 hq4 hq5 hg_e1 hr_e1 hg_f0 hg_g0 hg_p0 hg_n0 hr_n0 hr_o0 hF hH hU hRt hr0 H13 K n
    intro c2 m2 v a nw hI2 hFc hJ2 hFm hv ha hnw hg_a hr_a hg_nw hr_nw hc_0 hc_1 hc_2 hc_3 hx0 hx1 hx2 hx3 hrl0 hG2 hm9
    have h_1 := ir_1_1 hJ
    have h_2 := ir_41_3 hI
    have h_3 := ir_1_4 hJ
    have h_4 := ir_1_5 hJ
    have h_5 := ir_1_2 hJ
    have h_6 := ir_p7_5 hJ hA
    have h_7 := ir_41_29 hI
    have h_8 := ir_41_7 hI
    have h_9 := ir_1_2 hJ2
    have h_10 := ir_41_4 hI2
    have h_11 := ir_p7_5 hJ2 hA
    have h_12 := ir_41_29 hI2
    have h_13 := ir_1_4 hJ2
    have h_14 := ir_41_5 hI2
    have h_15 := ir_1_5 hJ2
    have h_16 := ir_41_7 hI2
    refine gh hG2 ?_
    refine q_iload_n rfl rfl ?_
    refine v_sip rfl (by decide) ?_
    by_cases h_17 : v ≥ 150
    · refine v_ic_ge_t (t := 59) rfl (by decide) ⟨by decide, h_17, (Int.le_trans hv.2 (by decide))⟩ ?_
      refine q_vret rfl rfl ?_
      intro hE_18
      have hW : Wd P Q P P m2 = Wd P Q P P m9 := (Prod.mk.inj (Prod.mk.inj hE_18).2).1
      have h_19 := ir_1_4 hJ9
      have h_20 : m9 1 4 = 0 := wd_fv (z := 4) 4 rfl hW rfl rfl rfl rfl (by decide) (hc_0) ⟨by decide, by decide⟩ ⟨(Int.le_trans (by decide) h_19.1), (Int.le_trans h_19.2 (by decide))⟩
      have h_21 := ir_1_2 hJ9
      have h_22 : m9 1 2 = a := wd_fv (z := 2) 2 rfl hW rfl rfl rfl rfl (by decide) (hg_a) ⟨(Int.le_trans (by decide) ha.1), (Int.le_trans ha.2 (by decide))⟩ ⟨(Int.le_trans (by decide) h_21.1), (Int.le_trans h_21.2 (by decide))⟩
      have h_23 := ir_1_5 hJ9
      have h_24 : m9 1 5 = (-1) := wd_fv (z := 5) 5 rfl hW rfl rfl rfl rfl (by decide) (hc_2) ⟨by decide, by decide⟩ ⟨(Int.le_trans (by decide) h_23.1), (Int.le_trans h_23.2 (by decide))⟩
      have h_25 := ir_p7_5 hJ9 hA
      have h_26 : m9 (A + 7) 5 = nw := wd_fv (z := 5) 5 rfl hW (ck_p7 hA) (ck_p7 hA) rfl rfl (by omega) (hg_nw) ⟨(Int.le_trans (by decide) hnw.1), (Int.le_trans hnw.2 (by decide))⟩ ⟨(Int.le_trans (by decide) h_25.1), (Int.le_trans h_25.2 (by decide))⟩
      refine q_aload_n rfl rfl ?_
      refine v_cv rfl rfl rfl rfl (by decide) ⟨⟨rfl, rfl⟩, by decide, rfl⟩ (Nat.le_of_ble_eq_true rfl) (Nat.le_of_ble_eq_true rfl) ?_
      refine q_aload_n rfl rfl ?_
      refine v_gi (z := 5) (v := (-1)) rfl rfl rfl (by decide) rfl rfl (hc_1) ?_
      refine q_iconst rfl ?_
      refine v_ic_ne_f (t := 12) rfl (by decide) (by decide) ?_
      refine q_iconst rfl ?_
      refine q_goto (t := 13) rfl (by decide) ?_
      refine v_zret rfl rfl (by decide) ?_
      refine bk_inl ?_
      refine v_if_eq_f (t := 90) rfl (by decide) (by decide) ?_
      refine q_aload_n rfl rfl ?_
      have kn_27 : Hid (c2 41 3 = e1) := (hFc 41 3 (fun q => q.elim (fun h => absurd h.2 (ni rfl)) (fun q => q.elim (fun h => absurd h.2 (ni rfl)) (fun q => q.elim (fun h => absurd h.2 (ni rfl)) (fun q => q.elim (fun h => absurd h.2 (ni rfl)) (fun q => q.elim (fun h => absurd h.2 (ni rfl)) (fun q => q.elim (fun h => absurd h (nn rfl)) (fun h => absurd h (nn rfl))))))))).trans (hr_e1)
      have h_28 : -2147483648 ≤ (F a) ∧ (F a) ≤ 2147483647 := by rw [← hF a]; exact ir_2 hJ a
      have h_29 : -2147483648 ≤ (H a) ∧ (H a) ≤ 2147483647 := by rw [← hH a]; exact ir_43 hI a
      have h_30 := hU a (by omega) (by omega)
      have h_31 := hb_or (b := H) (e := e1) (r := a)
      have h_32 := hb_bd (b := H) (e := e1) (r := a) (lo := -2147483648) (hi := 2147483647) h_29 (by decide)
      refine v_cv rfl rfl rfl rfl (by decide) ⟨⟨rfl, rfl⟩, by decide, rfl⟩ (Nat.le_of_ble_eq_true rfl) (Nat.le_of_ble_eq_true rfl) (f_154 (e1 := e1) (a9 := a) (B := H) (r8 := a) (r := (hb H e1 a)) hI2 ((hid kn_27)) ((hr_a)) (fun j => (hFc 43 j (fun q => q.elim (fun h => absurd h.1 (nn rfl)) (fun q => q.elim (fun h => absurd h.1 (nn rfl)) (fun q => q.elim (fun h => absurd h.1 (nn rfl)) (fun q => q.elim (fun h => absurd h.1 (nn rfl)) (fun q => q.elim (fun h => absurd h.1 (nn rfl)) (fun q => q.elim (fun h => absurd h (nn rfl)) (fun h => absurd h (nn rfl))))))))).trans (hH j)) ((nx_tr hU (by first | (clear ha2 hq0 hq1 hq2 hq3 hq4 hq5 h_1 h_2 h_3 h_4 h_5 h_6 h_7 h_8 h_9 h_10 h_11 h_12 h_13 h_14 h_15 h_19 h_20 h_21 h_22 h_23 h_24 h_25 h_26 h_28; omega) | omega) (by first | (clear ha2 hq0 hq1 hq2 hq3 hq4 h_1 h_2 h_3 h_4 h_5 h_6 h_7 h_8 h_9 h_10 h_11 h_12 h_13 h_14 h_15 h_16 h_17 h_19 h_20 h_21 h_22 h_23 h_24 h_25 h_26 h_28; omega) | omega)).trans ((nx_z (by omega)))) rfl (fun c_33 hI_34 hF_35 h_36 => ?_))
      refine bk_inl ?_
      refine v_bip rfl (by decide) ?_
      refine v_ic_eq_f (t := 38) rfl (by decide) ⟨by first | (clear hq0 hq1 h_3 h_4 h_8 h_13 h_14 h_15 h_19 h_20 h_23 h_24 h_25; omega) | omega, ⟨h_32.1, h_32.2⟩, by decide, by decide⟩ ?_
      refine q_aload_n rfl rfl ?_
      have kn_37 : Hid (c_33 41 3 = e1) := (hF_35 41 3 (fun h => absurd h.2 (ni rfl))).trans (hid kn_27)
      refine v_cv rfl rfl rfl rfl (by decide) ⟨⟨rfl, rfl⟩, by decide, rfl⟩ (Nat.le_of_ble_eq_true rfl) (Nat.le_of_ble_eq_true rfl) (f_154 (e1 := e1) (a9 := a) (B := H) (r8 := a) (r := (hb H e1 a)) hI_34 ((hid kn_37)) ((h_36)) (fun j => ((hF_35 43 j (fun h => absurd h.1 (nn rfl))).trans (hFc 43 j (fun q => q.elim (fun h => absurd h.1 (nn rfl)) (fun q => q.elim (fun h => absurd h.1 (nn rfl)) (fun q => q.elim (fun h => absurd h.1 (nn rfl)) (fun q => q.elim (fun h => absurd h.1 (nn rfl)) (fun q => q.elim (fun h => absurd h.1 (nn rfl)) (fun q => q.elim (fun h => absurd h (nn rfl)) (fun h => absurd h (nn rfl)))))))))).trans (hH j)) ((nx_tr hU (by first | (clear ha2 hq0 hq1 hq2 hq3 hq4 hq5 h_1 h_2 h_3 h_4 h_5 h_6 h_7 h_8 h_9 h_10 h_11 h_12 h_13 h_14 h_15 h_19 h_20 h_21 h_22 h_23 h_24 h_25 h_26 h_28 h_29 h_30 h_32 h_31; omega) | omega) (by first | (clear ha2 hq0 hq1 hq2 hq3 hq4 h_1 h_2 h_3 h_4 h_5 h_6 h_7 h_8 h_9 h_10 h_11 h_12 h_13 h_14 h_15 h_16 h_17 h_19 h_20 h_21 h_22 h_23 h_24 h_25 h_26 h_28 h_29 h_30 h_32 h_31; omega) | omega)).trans ((nx_z (by omega)))) rfl (fun c_38 hI_39 hF_40 h_41 => ?_))
      refine bk_inl ?_
      refine v_bip rfl (by decide) ?_
      refine v_ic_eq_f (t := 38) rfl (by decide) ⟨by first | (clear hq0 hq1 h_3 h_4 h_8 h_13 h_14 h_15 h_19 h_20 h_23 h_24 h_25; omega) | omega, ⟨h_32.1, h_32.2⟩, by decide, by decide⟩ ?_
      refine q_aload_n rfl rfl ?_
      have kn_42 : Hid (c_38 41 3 = e1) := (hF_40 41 3 (fun h => absurd h.2 (ni rfl))).trans (hid kn_37)
      refine v_cv rfl rfl rfl rfl (by decide) ⟨⟨rfl, rfl⟩, by decide, rfl⟩ (Nat.le_of_ble_eq_true rfl) (Nat.le_of_ble_eq_true rfl) (f_154 (e1 := e1) (a9 := a) (B := H) (r8 := a) (r := (hb H e1 a)) hI_39 ((hid kn_42)) ((h_41)) (fun j => ((hF_40 43 j (fun h => absurd h.1 (nn rfl))).trans ((hF_35 43 j (fun h => absurd h.1 (nn rfl))).trans (hFc 43 j (fun q => q.elim (fun h => absurd h.1 (nn rfl)) (fun q => q.elim (fun h => absurd h.1 (nn rfl)) (fun q => q.elim (fun h => absurd h.1 (nn rfl)) (fun q => q.elim (fun h => absurd h.1 (nn rfl)) (fun q => q.elim (fun h => absurd h.1 (nn rfl)) (fun q => q.elim (fun h => absurd h (nn rfl)) (fun h => absurd h (nn rfl))))))))))).trans (hH j)) ((nx_tr hU (by first | (clear ha2 hq0 hq1 hq2 hq3 hq4 hq5 h_1 h_2 h_3 h_4 h_5 h_6 h_7 h_8 h_9 h_10 h_11 h_12 h_13 h_14 h_15 h_19 h_20 h_21 h_22 h_23 h_24 h_25 h_26 h_28 h_29 h_30 h_32 h_31; omega) | omega) (by first | (clear ha2 hq0 hq1 hq2 hq3 hq4 h_1 h_2 h_3 h_4 h_5 h_6 h_7 h_8 h_9 h_10 h_11 h_12 h_13 h_14 h_15 h_16 h_17 h_19 h_20 h_21 h_22 h_23 h_24 h_25 h_26 h_28 h_29 h_30 h_32 h_31; omega) | omega)).trans ((nx_z (by omega)))) rfl (fun c_43 hI_44 hF_45 h_46 => ?_))
      refine bk_inl ?_
      refine v_bip rfl (by decide) ?_
      refine v_ic_ne_t (t := 90) rfl (by decide) ⟨by first | (clear hq0 hq1 h_3 h_4 h_8 h_13 h_14 h_15 h_19 h_20 h_23 h_24 h_25; omega) | omega, ⟨h_32.1, h_32.2⟩, by decide, by decide⟩ ?_
      refine q_vret rfl rfl ?_
      have kn_47 : Hid (c_33 41 5 = (-1)) := (hF_35 41 5 (fun h => absurd h.2 (ni rfl))).trans (hc_1)
      have kn_48 : Hid (c_38 41 5 = (-1)) := (hF_40 41 5 (fun h => absurd h.2 (ni rfl))).trans (hid kn_47)
      have kn_49 : Hid (c_43 41 5 = (-1)) := (hF_45 41 5 (fun h => absurd h.2 (ni rfl))).trans (hid kn_48)
      have h_50 : c_43 41 5 = (-1) := (hid kn_49)
      have h_51 : c_43 41 4 = a := (h_46)
      have h_52 := ir_41_6 hI2
      have kn_53 : Hid (c_33 41 6 = c2 41 6) := hF_35 41 6 (fun h => absurd h.2 (ni rfl))
      have kn_54 : Hid (c_38 41 6 = c2 41 6) := (hF_40 41 6 (fun h => absurd h.2 (ni rfl))).trans (hid kn_53)
      have kn_55 : Hid (c_43 41 6 = c2 41 6) := (hF_45 41 6 (fun h => absurd h.2 (ni rfl))).trans (hid kn_54)
      have h_56 : c_43 41 6 = c2 41 6 := (hid kn_55)
      have kn_57 : Hid (c_33 41 29 = nw) := (hF_35 41 29 (fun h => absurd h.2 (ni rfl))).trans (hr_nw)
      have kn_58 : Hid (c_38 41 29 = nw) := (hF_40 41 29 (fun h => absurd h.2 (ni rfl))).trans (hid kn_57)
      have kn_59 : Hid (c_43 41 29 = nw) := (hF_45 41 29 (fun h => absurd h.2 (ni rfl))).trans (hid kn_58)
      have h_60 : c_43 41 29 = nw := (hid kn_59)
      have kn_61 : Hid (c_33 41 7 = a2) := (hF_35 41 7 (fun h => absurd h.2 (ni rfl))).trans (hc_3)
      have kn_62 : Hid (c_38 41 7 = a2) := (hF_40 41 7 (fun h => absurd h.2 (ni rfl))).trans (hid kn_61)
      have kn_63 : Hid (c_43 41 7 = a2) := (hF_45 41 7 (fun h => absurd h.2 (ni rfl))).trans (hid kn_62)
      have h_64 : c_43 41 7 = a2 := (hid kn_63)
      have h_65 : c_43 41 29 = nw := (hid kn_59)
      have hA_66 : Ce nw (m2 (A + 9)) (c_43 50) (c_43 51) := ce_fr hrl0 (fun j => rfl) (fun j => (hF_45 50 j (fun h => absurd h.1 (nn rfl))).trans ((hF_40 50 j (fun h => absurd h.1 (nn rfl))).trans (hF_35 50 j (fun h => absurd h.1 (nn rfl))))) (fun j => (hF_45 51 j (fun h => absurd h.1 (nn rfl))).trans ((hF_40 51 j (fun h => absurd h.1 (nn rfl))).trans (hF_35 51 j (fun h => absurd h.1 (nn rfl)))))
      have hA_67 : Ce nw (m9 (A + 9)) (c_43 50) (c_43 51) := ce_l hA_66 (fun j h1 h2 => wd_av hW (ck_p9 hA) (ck_p9 hA) (by decide) (a68 hA rfl) ⟨h1, by omega⟩ rfl (ir_p9 hJ2 hA j) (ir_p9 hJ9 hA j))
      exact K c_43  hI_44 (fun a j hm => (hF_45 a j (fun h => hm (Or.inl h))).trans ((hF_40 a j (fun h => hm (Or.inl h))).trans ((hF_35 a j (fun h => hm (Or.inl h))).trans (hFc a j (fun q => q.elim (fun h => hm (Or.inl h)) (fun q => q.elim (fun h => hm (Or.inr (Or.inl h))) (fun q => q.elim (fun h => hm (Or.inr (Or.inr (Or.inl h)))) (fun q => q.elim (fun h => hm (Or.inr (Or.inr (Or.inr (Or.inl h))))) (fun q => q.elim (fun h => hm (Or.inr (Or.inr (Or.inr (Or.inr (Or.inl h)))))) (fun q => q.elim (fun h => hm (Or.inr (Or.inr (Or.inr (Or.inr (Or.inr (Or.inl h))))))) (fun h => hm (Or.inr (Or.inr (Or.inr (Or.inr (Or.inr (Or.inr h))))))))))))))))) (rt_i1 ⟨by first | (clear ha2 hq0 hq1 hq2 hq3 hq4 hq5 h_1 h_2 h_3 h_4 h_5 h_6 h_7 h_8 h_9 h_10 h_11 h_12 h_13 h_14 h_15 h_16 h_17 h_21 h_22 h_23 h_24 h_25 h_26 h_28 h_29 h_30 h_32 h_52 h_31; omega) | omega, by first | (clear ha2 hq0 hq1 hq2 hq3 hq4 hq5 h_1 h_2 h_3 h_4 h_5 h_6 h_7 h_8 h_9 h_10 h_11 h_12 h_13 h_14 h_15 h_16 h_17 h_19 h_20 h_21 h_22 h_23 h_24 h_25 h_26 h_28 h_29 h_30 h_32 h_52 h_31; omega) | omega, by first | (clear ha2 hq0 hq1 hq2 hq3 hq4 hq5 h_1 h_2 h_3 h_4 h_5 h_6 h_7 h_8 h_9 h_10 h_11 h_12 h_13 h_14 h_15 h_16 h_17 h_19 h_20 h_21 h_23 h_24 h_25 h_26 h_28 h_29 h_30 h_32 h_52 h_31; omega) | omega, by first | (clear ha2 hq0 hq1 hq2 hq3 hq4 hq5 h_1 h_2 h_3 h_4 h_5 h_6 h_7 h_8 h_9 h_10 h_11 h_12 h_13 h_14 h_15 h_16 h_17 h_19 h_20 h_21 h_22 h_25 h_26 h_28 h_29 h_30 h_32 h_52 h_31; omega) | omega⟩) (Or.inr (Or.inr ⟨by first | (clear ha2 hq0 hq1 hq2 hq3 hq4 hq5 h_1 h_2 h_3 h_4 h_5 h_6 h_7 h_8 h_9 h_10 h_11 h_12 h_13 h_14 h_15 h_16 h_17 h_19 h_20 h_21 h_22 h_23 h_24 h_25 h_28 h_29 h_30 h_32 h_52 h_31; omega) | omega, by first | (clear ha2 hq0 hq1 hq2 hq3 hq4 hq5 h_1 h_2 h_3 h_4 h_5 h_6 h_7 h_8 h_9 h_10 h_11 h_12 h_13 h_14 h_15 h_17 h_19 h_20 h_21 h_23 h_24 h_25 h_26 h_28 h_29 h_30 h_32 h_52 h_31; omega) | omega, by first | (clear ha2 hq0 hq1 hq2 hq3 hq4 hq5 h_1 h_2 h_3 h_4 h_5 h_6 h_7 h_8 h_9 h_10 h_11 h_12 h_13 h_14 h_15 h_17 h_19 h_20 h_21 h_23 h_24 h_25 h_26 h_28 h_29 h_30 h_32 h_52 h_31; omega) | omega, by first | (clear ha2 hq0 hq1 hq2 hq3 hq4 hq5 h_1 h_2 h_3 h_4 h_5 h_6 h_7 h_8 h_9 h_10 h_11 h_12 h_13 h_14 h_15 h_17 h_19 h_20 h_21 h_23 h_24 h_25 h_26 h_28 h_29 h_30 h_32 h_52 h_31; omega) | omega⟩)) (by first | (clear ha2 hq0 hq1 hq2 hq3 hq4 hq5 h_1 h_2 h_3 h_4 h_5 h_6 h_7 h_8 h_9 h_10 h_11 h_12 h_13 h_14 h_15 h_16 h_17 h_19 h_20 h_21 h_22 h_23 h_24 h_25 h_26 h_28 h_29 h_30 h_32 h_52 h_31; omega) | omega) (fun _ => ce_le hA_67 (by omega))
    · refine v_ic_ge_f (t := 59) rfl (by decide) ⟨(Int.le_trans (by decide) hv.1), (Int.not_le.mp h_17), by decide⟩ ?_
      refine q_aload_n rfl rfl ?_
      refine v_cv rfl rfl rfl rfl (by decide) ⟨⟨rfl, rfl⟩, by decide, rfl⟩ (Nat.le_of_ble_eq_true rfl) (Nat.le_of_ble_eq_true rfl) ?_
      refine q_aload_n rfl rfl ?_
      refine v_gi (z := 4) (v := 0) rfl rfl rfl (by decide) rfl rfl (hc_0) ?_
      refine v_if_ne_f (t := 11) rfl (by decide) (by decide) ?_
      refine q_iconst rfl ?_
      refine q_goto (t := 12) rfl (by decide) ?_
      refine v_zret rfl rfl (by decide) ?_
      refine bk_inl ?_
      refine v_if_eq_f (t := 59) rfl (by decide) (by decide) ?_
      refine q_aload_n rfl rfl ?_
      refine q_ldc_s rfl rfl rfl (by decide) ?_
      have kn_68 : Hid (m2 1 1 = e1) := (hFm 1 1 (fun q => q.elim (fun h => absurd h.2 (ni rfl)) (fun q => q.elim (fun h => absurd h.2 (ni rfl)) (fun q => q.elim (fun h => absurd h.2 (ni rfl)) (fun q => q.elim (fun h => absurd h.1 (pn hA rfl rfl)) (fun h => absurd h (pn hA rfl rfl))))))).trans (hg_e1)
      have h_69 : -2147483648 ≤ (F a) ∧ (F a) ≤ 2147483647 := by rw [← hF a]; exact ir_2 hJ a
      have h_70 := nx_be (b := F) (e := e1) (a := a) (by first | (clear ha2 hq0 hq1 hq2 hq3 hq4 hq5 h_1 h_2 h_3 h_4 h_5 h_6 h_7 h_8 h_9 h_10 h_11 h_12 h_13 h_14 h_15 h_69; omega) | omega)
      have h_71 : -2147483648 ≤ (F (nx F e1 a)) ∧ (F (nx F e1 a)) ≤ 2147483647 := by rw [← hF (nx F e1 a)]; exact ir_2 hJ (nx F e1 a)
      have h_72 := nx_n (b := F) (e := e1) (a := a)
      refine v_cv rfl rfl rfl rfl (by decide) ⟨⟨rfl, rfl⟩, by decide, rfl⟩ (Nat.le_of_ble_eq_true rfl) (Nat.le_of_ble_eq_true rfl) (f_4_6 (e1 := e1) (a9 := a) (B := F) (r8 := (nx F e1 a)) hJ2 ((hid kn_68)) ((hg_a)) (fun j => (hFm 2 j (fun q => q.elim (fun h => absurd h.1 (nn rfl)) (fun q => q.elim (fun h => absurd h.1 (nn rfl)) (fun q => q.elim (fun h => absurd h.1 (nn rfl)) (fun q => q.elim (fun h => absurd h.1 (pn hA rfl rfl)) (fun h => absurd h (pn hA rfl rfl))))))).trans (hF j)) rfl (fun c_73 hI_74 hF_75 h_76 hz_77 => ?_) (fun c_78 hI_79 hF_80 h_81 hz_82 => ?_) (fun c_83 hI_84 hF_85 h_86 hz_87 => ?_) (fun c_88 hI_89 hF_90 h_91 hz_92 => ?_))
      · as_aux_lemma =>
          skip
          refine bk_inl ?_
          refine q_istore rfl (by decide) ?_
          refine q_iload rfl rfl ?_
          refine q_iconst rfl ?_
          refine v_ic_ne_t (t := 37) rfl (by decide) (by decide) ?_
          refine q_aload_n rfl rfl ?_
          refine q_aload_n rfl rfl ?_
          refine q_iload_n rfl rfl ?_
          have kn_93 : Hid (c_73 1 4 = 0) := (hF_75 1 4 (fun h => absurd h.2 (ni rfl))).trans (hc_0)
          refine v_cv rfl rfl rfl (ck_p7 hA) (a68 hA rfl) ⟨⟨rfl, rfl⟩, by decide, rfl⟩ (Nat.le_of_ble_eq_true rfl) (Nat.le_of_ble_eq_true rfl) (fn_of (r_14 (a2 := a2) hI_74 hA (show 0 ≤ a2 ∧ a2 ≤ 6 from ha2) (fun c_94 hI_95 hF_96 => ?_)))
          intro hG_97
          refine bk_inl ?_
          refine q_aload_n rfl rfl ?_
          refine v_sip rfl (by decide) ?_
          refine q_iload rfl rfl ?_
          refine v_iadd (v := 2002) rfl (by decide) ?_
          refine v_cv rfl rfl rfl (ck_p7 hA) (a68 hA rfl) ⟨⟨rfl, rfl⟩, by decide, rfl⟩ (Nat.le_of_ble_eq_true rfl) (Nat.le_of_ble_eq_true rfl) ?_
          refine q_aload_n rfl rfl ?_
          have h_98 := ir_p7_5 hI_95 hA
          refine v_gi (z := 5) (v := c_94 (A + 7) 5) rfl rfl (ck_p7 hA) (a68 hA rfl) rfl rfl rfl ?_
          refine q_aload_n rfl rfl ?_
          refine v_gr (t := (A + 9)) rfl rfl (ck_p7 hA) (a68 hA rfl) rfl ?_
          refine v_al rfl (ck_p9 hA) (a68 hA rfl) (by decide) ?_
          by_cases h_99 : c_94 (A + 7) 5 ≥ 150
          · refine v_ic_ge_t (t := 32) rfl (by decide) ⟨by decide, h_99, (Int.le_trans h_98.2 (by decide))⟩ ?_
            refine q_vret rfl rfl ?_
            refine bk_inl ?_
            refine v_iinc (v := v + 1) rfl rfl (by decide) rfl ?_
            refine q_goto (t := 8) rfl (by decide) ?_
            have h_100 := ir_1_4 hI_95
            by_cases h_101 : c_94 1 4 = 0
            · skip
              refine Wp_ls [(0, .ref (A + 7)), (1, .ref 1), (2, vi a2), (3, vi (v + 1))] (lsub_cons rfl (lsub_cons rfl (lsub_cons rfl (lsub_cons rfl lsub_nil)))) ?_
              refine gh_stop ((s_12_l (sc := sc) (d := dh + 22) (c := c_94) (a2 := a2) (Z := fun _ => True) hI_95 hA ha2 (fun c9 Z9 h hI9 K9 => r_13 (d := dh + 1) hI9 hA ⟨by omega, h⟩ K9) (fun _ _ _ => trivial) 304) c_94 (v + 1) hI_95 (fun a j hm => rfl) ⟨by omega, by omega⟩ (by omega)) (fun hG_102 => ?_)
              refine q_aload_n rfl rfl ?_
              refine v_cv rfl rfl rfl rfl (by decide) ⟨⟨rfl, rfl⟩, by decide, rfl⟩ (Nat.le_of_ble_eq_true rfl) (Nat.le_of_ble_eq_true rfl) ?_
              refine q_aload_n rfl rfl ?_
              refine v_gi (z := 5) (v := (-1)) rfl rfl rfl (by decide) rfl rfl (hc_1) ?_
              refine q_iconst rfl ?_
              refine v_ic_ne_f (t := 12) rfl (by decide) (by decide) ?_
              refine q_iconst rfl ?_
              refine q_goto (t := 13) rfl (by decide) ?_
              refine v_zret rfl rfl (by decide) ?_
              refine bk_inl ?_
              refine v_if_eq_f (t := 90) rfl (by decide) (by decide) ?_
              refine q_aload_n rfl rfl ?_
              have kn_103 : Hid (c2 41 3 = e1) := (hFc 41 3 (fun q => q.elim (fun h => absurd h.2 (ni rfl)) (fun q => q.elim (fun h => absurd h.2 (ni rfl)) (fun q => q.elim (fun h => absurd h.2 (ni rfl)) (fun q => q.elim (fun h => absurd h.2 (ni rfl)) (fun q => q.elim (fun h => absurd h.2 (ni rfl)) (fun q => q.elim (fun h => absurd h (nn rfl)) (fun h => absurd h (nn rfl))))))))).trans (hr_e1)
              have h_104 : -2147483648 ≤ (H (nx F e1 a)) ∧ (H (nx F e1 a)) ≤ 2147483647 := by rw [← hH (nx F e1 a)]; exact ir_43 hI (nx F e1 a)
              have h_105 := hU (nx F e1 a) (by omega) (by omega)
              have h_106 := hb_or (b := H) (e := e1) (r := (nx F e1 a))
              have h_107 := hb_bd (b := H) (e := e1) (r := (nx F e1 a)) (lo := -2147483648) (hi := 2147483647) h_104 (by decide)
              refine v_cv rfl rfl rfl rfl (by decide) ⟨⟨rfl, rfl⟩, by decide, rfl⟩ (Nat.le_of_ble_eq_true rfl) (Nat.le_of_ble_eq_true rfl) (f_154 (e1 := e1) (a9 := a) (B := H) (r8 := (nx F e1 a)) (r := (hb H e1 (nx F e1 a))) hI2 ((hid kn_103)) ((hr_a)) (fun j => (hFc 43 j (fun q => q.elim (fun h => absurd h.1 (nn rfl)) (fun q => q.elim (fun h => absurd h.1 (nn rfl)) (fun q => q.elim (fun h => absurd h.1 (nn rfl)) (fun q => q.elim (fun h => absurd h.1 (nn rfl)) (fun q => q.elim (fun h => absurd h.1 (nn rfl)) (fun q => q.elim (fun h => absurd h (nn rfl)) (fun h => absurd h (nn rfl))))))))).trans (hH j)) ((nx_tr hU (by first | (clear ha2 hq0 hq1 hq2 hq3 hq4 hq5 h_1 h_2 h_3 h_4 h_5 h_6 h_7 h_8 h_9 h_10 h_11 h_12 h_13 h_14 h_15 h_16 h_69 h_70 h_71 h_76 h_98 h_99 h_100 h_101 h_72; omega) | omega) (by first | (clear ha2 hq0 hq1 hq2 hq3 hq4 h_1 h_2 h_3 h_4 h_5 h_6 h_7 h_8 h_9 h_10 h_11 h_12 h_13 h_14 h_15 h_16 h_69 h_70 h_71 h_76 h_98 h_99 h_100 h_101 h_72; omega) | omega)).trans (rfl)) rfl (fun c_108 hI_109 hF_110 h_111 => ?_))
              refine bk_inl ?_
              refine v_bip rfl (by decide) ?_
              refine v_ic_eq_t (t := 38) rfl (by decide) (by first | (clear ha2 hq0 hq1 hq2 hq3 h_3 h_4 h_5 h_6 h_7 h_8 h_9 h_10 h_11 h_12 h_13 h_14 h_15 h_69 h_71 h_98 h_99 h_100 h_101; omega) | omega) ?_
              refine q_aload_n rfl rfl ?_
              have kn_112 : Hid (c_108 41 3 = e1) := (hF_110 41 3 (fun h => absurd h.2 (ni rfl))).trans (hid kn_103)
              refine v_cv rfl rfl rfl rfl (by decide) ⟨⟨rfl, rfl⟩, by decide, rfl⟩ (Nat.le_of_ble_eq_true rfl) (Nat.le_of_ble_eq_true rfl) (f_154 (e1 := e1) (a9 := (nx F e1 a)) (B := H) (r8 := (nx F e1 a)) (r := (hb H e1 (nx F e1 a))) hI_109 ((hid kn_112)) ((h_111)) (fun j => ((hF_110 43 j (fun h => absurd h.1 (nn rfl))).trans (hFc 43 j (fun q => q.elim (fun h => absurd h.1 (nn rfl)) (fun q => q.elim (fun h => absurd h.1 (nn rfl)) (fun q => q.elim (fun h => absurd h.1 (nn rfl)) (fun q => q.elim (fun h => absurd h.1 (nn rfl)) (fun q => q.elim (fun h => absurd h.1 (nn rfl)) (fun q => q.elim (fun h => absurd h (nn rfl)) (fun h => absurd h (nn rfl)))))))))).trans (hH j)) ((nx_tr hU (by first | (clear ha2 hq0 hq1 hq2 hq3 hq4 hq5 h_1 h_2 h_3 h_4 h_5 h_6 h_7 h_8 h_9 h_10 h_11 h_12 h_13 h_14 h_15 h_16 h_69 h_71 h_76 h_98 h_99 h_100 h_101 h_104 h_105 h_107 h_72 h_106; omega) | omega) (by first | (clear ha2 hq0 hq1 hq2 hq3 hq4 h_1 h_2 h_3 h_4 h_5 h_6 h_7 h_8 h_9 h_10 h_11 h_12 h_13 h_14 h_15 h_16 h_69 h_70 h_71 h_76 h_98 h_99 h_100 h_101 h_104 h_105 h_107 h_72 h_106; omega) | omega)).trans ((nx_z (by omega)))) rfl (fun c_113 hI_114 hF_115 h_116 => ?_))
              refine bk_inl ?_
              refine v_bip rfl (by decide) ?_
              refine v_ic_ne_f (t := 51) rfl (by decide) (by first | (clear ha2 hq0 hq1 hq2 hq3 h_3 h_4 h_5 h_6 h_7 h_8 h_9 h_10 h_11 h_12 h_13 h_14 h_15 h_69 h_71 h_98 h_99 h_100 h_101; omega) | omega) ?_
              refine q_iconst rfl ?_
              refine q_goto (t := 66) rfl (by decide) ?_
              refine q_istore_n rfl (by decide) ?_
              refine q_aload_n rfl rfl ?_
              refine q_dup rfl rfl ?_
              refine v_gi (z := 4) (v := (nx F e1 a)) rfl rfl rfl (by decide) rfl rfl (h_116) ?_
              refine q_iconst rfl ?_
              refine v_iadd (v := (nx F e1 a) + 1) rfl rfl ?_
              refine v_pi (z := 4) rfl rfl rfl (by decide) rfl rfl rfl (by decide) ?_
              refine q_aload_n rfl rfl ?_
              have kn_117 : Hid (c_108 41 5 = (-1)) := (hF_110 41 5 (fun h => absurd h.2 (ni rfl))).trans (hc_1)
              have kn_118 : Hid (c_113 41 5 = (-1)) := (hF_115 41 5 (fun h => absurd h.2 (ni rfl))).trans (hid kn_117)
              have hI_119 := iw_41_4 (v := (nx F e1 a) + 1) hI_114 ⟨by first | exact rgp_l (rg_be h_70 (ha.1) ((rg_eq hg_e1 h_1).2)).1 (by decide) | omega, by first | exact rgp_h (rg_be h_70 (ha.1) ((rg_eq hg_e1 h_1).2)).2 (by decide) | omega⟩
              have kn_120 : Hid (c_73 1 1 = e1) := (hF_75 1 1 (fun h => absurd h.2 (ni rfl))).trans (hid kn_68)
              have kn_121 : Hid (c_113 41 3 = e1) := (hF_115 41 3 (fun h => absurd h.2 (ni rfl))).trans (hid kn_112)
              have kn_122 : Hid (c_73 1 5 = (-1)) := (hF_75 1 5 (fun h => absurd h.2 (ni rfl))).trans (hc_2)
              have kn_123 : Hid (c_73 (A + 7) 5 = nw) := (hF_75 (A + 7) 5 (fun h => absurd h.1 (np hA rfl rfl))).trans (hg_nw)
              have kn_124 : Hid (c_108 41 29 = nw) := (hF_110 41 29 (fun h => absurd h.2 (ni rfl))).trans (hr_nw)
              have kn_125 : Hid (c_113 41 29 = nw) := (hF_115 41 29 (fun h => absurd h.2 (ni rfl))).trans (hid kn_124)
              have kn_126 : Hid (c_108 41 7 = a2) := (hF_110 41 7 (fun h => absurd h.2 (ni rfl))).trans (hc_3)
              have kn_127 : Hid (c_113 41 7 = a2) := (hF_115 41 7 (fun h => absurd h.2 (ni rfl))).trans (hid kn_126)
              have h_128 : c_73 1 4 = 0 := (hid kn_93)
              have h_129 : c_73 1 2 = (nx F e1 a) + 1 := (hz_77)
              have h_130 : c_73 1 5 = (-1) := (hid kn_122)
              have h_131 : (up c_113 41 4 ((nx F e1 a) + 1)) 41 5 = (-1) := ((up_n (by decide)).trans (hid kn_118))
              have h_132 : (up c_113 41 4 ((nx F e1 a) + 1)) 41 4 = (nx F e1 a) + 1 := (up_e rfl)
              have h_133 := ir_41_6 hI2
              have kn_134 : Hid (c_108 41 6 = c2 41 6) := hF_110 41 6 (fun h => absurd h.2 (ni rfl))
              have kn_135 : Hid (c_113 41 6 = c2 41 6) := (hF_115 41 6 (fun h => absurd h.2 (ni rfl))).trans (hid kn_134)
              have h_136 : (up c_113 41 4 ((nx F e1 a) + 1)) 41 6 = c2 41 6 := ((up_n (by decide)).trans (hid kn_135))
              have hA_137 : Ce nw (c_73 (A + 9)) ((up c_113 41 4 ((nx F e1 a) + 1)) 50) ((up c_113 41 4 ((nx F e1 a) + 1)) 51) := ce_fr hrl0 (fun j => hF_75 (A + 9) j (fun h => absurd h.1 (np hA rfl rfl))) (fun j => (up_c (nn rfl)).trans ((hF_115 50 j (fun h => absurd h.1 (nn rfl))).trans (hF_110 50 j (fun h => absurd h.1 (nn rfl))))) (fun j => (up_c (nn rfl)).trans ((hF_115 51 j (fun h => absurd h.1 (nn rfl))).trans (hF_110 51 j (fun h => absurd h.1 (nn rfl)))))
              refine v_cv rfl rfl rfl rfl (by decide) ⟨⟨rfl, rfl⟩, by decide, rfl⟩ (Nat.le_of_ble_eq_true rfl) (Nat.le_of_ble_eq_true rfl) (L_14 (m := c_73) (a2 := a2) (e1 := e1) (f0 := 0) (g0 := (-1)) (p0 := (nx F e1 a) + 1) (n0 := nw) (o0 := a2) (F := F) (H := H) hI_119 hI_74 hI_95 hA (show 0 ≤ a2 ∧ a2 ≤ 6 from ha2) (by first | (clear ha2 hq0 hq1 hq2 hq3 hq4 hq5 h_1 h_2 h_3 h_4 h_5 h_6 h_7 h_8 h_9 h_10 h_11 h_12 h_13 h_14 h_15 h_16 h_69 h_70 h_71 h_76 h_98 h_99 h_100 h_101 h_104 h_105 h_107 h_72 h_106; omega) | omega) (by first | (clear ha2 hq0 hq1 hq2 hq3 hq4 hq5 h_1 h_2 h_3 h_4 h_5 h_6 h_7 h_8 h_9 h_10 h_11 h_12 h_13 h_14 h_15 h_16 h_69 h_70 h_71 h_76 h_98 h_99 h_100 h_101 h_104 h_105 h_107 h_72 h_106; omega) | omega) (by first | (clear ha2 hq0 hq1 hq2 hq3 hq4 hq5 h_1 h_2 h_3 h_4 h_5 h_6 h_7 h_8 h_9 h_10 h_11 h_12 h_13 h_14 h_15 h_16 h_69 h_70 h_71 h_76 h_98 h_99 h_100 h_101 h_104 h_105 h_107 h_72 h_106; omega) | omega) (by first | (clear ha2 hq0 hq1 hq2 hq4 hq5 h_1 h_2 h_3 h_4 h_5 h_6 h_7 h_8 h_9 h_10 h_11 h_12 h_13 h_14 h_15 h_69 h_71 h_76 h_98 h_99 h_100 h_101 h_104 h_105 h_107 h_72 h_106; omega) | omega) (by first | (clear ha2 hq0 hq1 hq2 hq3 hq4 hq5 h_1 h_2 h_3 h_4 h_5 h_6 h_7 h_8 h_9 h_10 h_11 h_12 h_13 h_14 h_15 h_16 h_69 h_70 h_71 h_98 h_99 h_100 h_101 h_104 h_105 h_107 h_72 h_106; omega) | omega) (by first | (clear ha2 hq0 hq1 hq2 hq3 hq4 h_1 h_2 h_3 h_4 h_5 h_6 h_7 h_8 h_9 h_10 h_11 h_12 h_13 h_14 h_15 h_16 h_69 h_70 h_71 h_76 h_98 h_99 h_100 h_101 h_104 h_105 h_107 h_72 h_106; omega) | omega) ((hid kn_120)) (((up_n (by decide)).trans (hid kn_121))) ((hid kn_93)) ((hid kn_122)) ((hz_77)) ((hid kn_123)) (((up_n (by decide)).trans (hid kn_125))) (((up_n (by decide)).trans (hid kn_127))) (fun j => ((hF_75 2 j (fun h => absurd h.1 (nn rfl))).trans (hFm 2 j (fun q => q.elim (fun h => absurd h.1 (nn rfl)) (fun q => q.elim (fun h => absurd h.1 (nn rfl)) (fun q => q.elim (fun h => absurd h.1 (nn rfl)) (fun q => q.elim (fun h => absurd h.1 (pn hA rfl rfl)) (fun h => absurd h (pn hA rfl rfl)))))))).trans (hF j)) (fun j => ((up_c (nn rfl)).trans ((hF_115 43 j (fun h => absurd h.1 (nn rfl))).trans ((hF_110 43 j (fun h => absurd h.1 (nn rfl))).trans (hFc 43 j (fun q => q.elim (fun h => absurd h.1 (nn rfl)) (fun q => q.elim (fun h => absurd h.1 (nn rfl)) (fun q => q.elim (fun h => absurd h.1 (nn rfl)) (fun q => q.elim (fun h => absurd h.1 (nn rfl)) (fun q => q.elim (fun h => absurd h.1 (nn rfl)) (fun q => q.elim (fun h => absurd h (nn rfl)) (fun h => absurd h (nn rfl)))))))))))).trans (hH j)) hU (rt_i1 ⟨by first | (clear ha2 hq0 hq1 hq2 hq3 hq4 hq5 h_1 h_2 h_3 h_4 h_5 h_6 h_7 h_8 h_9 h_10 h_11 h_12 h_13 h_14 h_15 h_16 h_69 h_70 h_71 h_76 h_98 h_99 h_100 h_101 h_104 h_105 h_107 h_133 h_72 h_106; omega) | omega, by first | (clear ha2 hq0 hq1 hq2 hq3 hq4 hq5 h_1 h_2 h_3 h_4 h_5 h_6 h_7 h_8 h_9 h_10 h_11 h_12 h_13 h_14 h_15 h_16 h_69 h_70 h_71 h_76 h_98 h_99 h_100 h_101 h_104 h_105 h_107 h_133 h_72 h_106; omega) | omega, by first | (clear ha2 hq0 hq1 hq2 hq3 hq4 hq5 h_1 h_2 h_3 h_4 h_5 h_6 h_7 h_8 h_9 h_10 h_11 h_12 h_13 h_14 h_15 h_16 h_69 h_70 h_71 h_76 h_98 h_99 h_100 h_101 h_104 h_105 h_107 h_133 h_72 h_106; omega) | omega, by first | (clear ha2 hq0 hq1 hq2 hq3 hq4 hq5 h_1 h_2 h_3 h_4 h_5 h_6 h_7 h_8 h_9 h_10 h_11 h_12 h_13 h_14 h_15 h_16 h_69 h_70 h_71 h_76 h_98 h_99 h_100 h_101 h_104 h_105 h_107 h_133 h_72 h_106; omega) | omega⟩) (ce_le hA_137 (by omega)) H13 hG_97 (fun c_138 hI_139 hF_140 hR_142 h_143 h_144 hA_145 => ?_))
              refine bk_inl ?_
              have h_146 := ir_41_29 hI_139
              have h_147 := ir_1_2 hI_95
              have h_148 := ir_41_7 hI_139
              refine q_aload_n rfl rfl ?_
              refine q_iload_n rfl rfl ?_
              refine q_iconst rfl ?_
              refine v_cv rfl rfl rfl rfl (by decide) ⟨⟨rfl, rfl⟩, by decide, rfl⟩ (Nat.le_of_ble_eq_true rfl) (Nat.le_of_ble_eq_true rfl) ?_
              refine q_aload_n rfl rfl ?_
              refine v_cv rfl rfl rfl rfl (by decide) ⟨⟨rfl, rfl⟩, by decide, rfl⟩ (Nat.le_of_ble_eq_true rfl) (Nat.le_of_ble_eq_true rfl) ?_
              refine q_aload_n rfl rfl ?_
              have h_149 := ir_41_5 hI_139
              have h_150 := ir_1_5 hI_95
              have h_151 := ir_41_4 hI_139
              have h_152 := ir_41_6 hI_139
              have h_153 := rt_ok hR_142 (by omega)
              have hro_hR_142 := rt_ok hR_142 (by omega)
              refine v_gi (z := 5) (v := (-1)) rfl rfl rfl (by decide) rfl rfl hro_hR_142.2.1 ?_
              refine q_iconst rfl ?_
              refine v_ic_ne_f (t := 12) rfl (by decide) (by decide) ?_
              refine q_iconst rfl ?_
              refine q_goto (t := 13) rfl (by decide) ?_
              refine v_zret rfl rfl (by decide) ?_
              refine bk_inl ?_
              refine v_if_ne_t (t := 8) rfl (by decide) (by decide) ?_
              refine q_aload_n rfl rfl ?_
              refine v_gr (t := 50) rfl rfl rfl (by decide) rfl ?_
              refine q_aload_n rfl rfl ?_
              refine v_gi (z := 29) (v := c_138 41 29) rfl rfl rfl (by decide) rfl rfl rfl ?_
              refine q_iload_n rfl rfl ?_
              refine v_is rfl rfl (by decide) (by decide) (by omega) ?_
              refine q_aload_n rfl rfl ?_
              refine v_gr (t := 51) rfl rfl rfl (by decide) rfl ?_
              refine q_aload_n rfl rfl ?_
              refine v_gi (z := 29) (v := c_138 41 29) rfl rfl rfl (by decide) rfl rfl (up_c (nn rfl)) ?_
              refine q_iload_n rfl rfl ?_
              refine v_is rfl rfl (by decide) (by decide) (by omega) ?_
              refine q_aload_n rfl rfl ?_
              refine q_dup rfl rfl ?_
              refine v_gi (z := 29) (v := c_138 41 29) rfl rfl rfl (by decide) rfl rfl ((up_c (nn rfl)).trans (up_c (nn rfl))) ?_
              refine q_iconst rfl ?_
              refine v_iadd (v := c_138 41 29 + 1) rfl rfl ?_
              refine v_pi (z := 29) rfl rfl rfl (by decide) rfl rfl rfl (by decide) ?_
              refine q_vret rfl rfl ?_
              refine bk_inl ?_
              refine q_goto (t := 4) rfl (by decide) ?_
              have hI_154 := iw_50 (j := c_138 41 29) (v := 4) hI_139 ⟨by decide, by decide⟩
              have hI_155 := iw_51 (j := c_138 41 29) (v := 0) hI_154 ⟨by decide, by decide⟩
              have hI_156 := iw_41_29 (v := c_138 41 29 + 1) hI_155 ⟨by first | exact rgp_l h_146.1 (by decide) | omega, by first | (clear hq0 hq1 h_3 h_4 h_8 h_13 h_14 h_15 h_69 h_133 h_148 h_152; omega) | omega⟩
              refine Wp_ls [(0, .ref 41)] (lsub_cons rfl lsub_nil) ?_
              have hA_157 : Ce (c_94 (A + 7) 5) (c_94 (A + 9)) ((up (up (up c_138 50 (c_138 41 29) 4) 51 (c_138 41 29) 0) 41 29 (c_138 41 29 + 1)) 50) ((up (up (up c_138 50 (c_138 41 29) 4) 51 (c_138 41 29) 0) 41 29 (c_138 41 29 + 1)) 51) := ce_z (by omega)
              exact ih (up (up (up c_138 50 (c_138 41 29) 4) 51 (c_138 41 29) 0) 41 29 (c_138 41 29 + 1)) c_94 (v + 1) (c_94 1 2) (c_94 (A + 7) 5) hI_156 (fun a j hm => (up_b (Decidable.or_iff_not_imp_left.mpr (fun h1 h2 => hm (Or.inr (Or.inr (Or.inr (Or.inr (Or.inl ⟨Decidable.not_not.mp h1, h2⟩)))))))).trans ((up_b (Decidable.or_iff_not_imp_left.mpr (fun h1 h2 => hm (Or.inr (Or.inr (Or.inr (Or.inr (Or.inr (Or.inr (Decidable.not_not.mp h1)))))))))).trans ((up_b (Decidable.or_iff_not_imp_left.mpr (fun h1 h2 => hm (Or.inr (Or.inr (Or.inr (Or.inr (Or.inr (Or.inl (Decidable.not_not.mp h1)))))))))).trans ((hF_140 a j (fun q => q.elim (fun h => hm (Or.inl h)) (fun q => q.elim (fun h => hm (Or.inr (Or.inl h))) (fun q => q.elim (fun h => hm (Or.inr (Or.inr (Or.inl h)))) (fun q => q.elim (fun h => hm (Or.inr (Or.inr (Or.inr (Or.inl h))))) (fun q => q.elim (fun h => hm (Or.inr (Or.inr (Or.inr (Or.inr (Or.inl h)))))) (fun q => q.elim (fun h => hm (Or.inr (Or.inr (Or.inr (Or.inr (Or.inr (Or.inl h))))))) (fun h => hm (Or.inr (Or.inr (Or.inr (Or.inr (Or.inr (Or.inr h)))))))))))))).trans ((up_b (Decidable.or_iff_not_imp_left.mpr (fun h1 h2 => hm (Or.inl ⟨Decidable.not_not.mp h1, h2⟩)))).trans ((hF_115 a j (fun h => hm (Or.inl h))).trans ((hF_110 a j (fun h => hm (Or.inl h))).trans (hFc a j (fun q => q.elim (fun h => hm (Or.inl h)) (fun q => q.elim (fun h => hm (Or.inr (Or.inl h))) (fun q => q.elim (fun h => hm (Or.inr (Or.inr (Or.inl h)))) (fun q => q.elim (fun h => hm (Or.inr (Or.inr (Or.inr (Or.inl h))))) (fun q => q.elim (fun h => hm (Or.inr (Or.inr (Or.inr (Or.inr (Or.inl h)))))) (fun q => q.elim (fun h => hm (Or.inr (Or.inr (Or.inr (Or.inr (Or.inr (Or.inl h))))))) (fun h => hm (Or.inr (Or.inr (Or.inr (Or.inr (Or.inr (Or.inr h))))))))))))))))))))) hI_95 (fun a j hm => (hF_96 a j (fun q => q.elim (fun h => hm (Or.inl h)) (fun q => q.elim (fun h => hm (Or.inr (Or.inl h))) (fun q => q.elim (fun h => hm (Or.inr (Or.inr (Or.inl h)))) (fun q => q.elim (fun h => hm (Or.inr (Or.inr (Or.inr (Or.inl h))))) (fun h => hm (Or.inr (Or.inr (Or.inr (Or.inr h)))))))))).trans ((hF_75 a j (fun h => hm (Or.inl h))).trans (hFm a j (fun q => q.elim (fun h => hm (Or.inl h)) (fun q => q.elim (fun h => hm (Or.inr (Or.inl h))) (fun q => q.elim (fun h => hm (Or.inr (Or.inr (Or.inl h)))) (fun q => q.elim (fun h => hm (Or.inr (Or.inr (Or.inr (Or.inl h))))) (fun h => hm (Or.inr (Or.inr (Or.inr (Or.inr h)))))))))))) ⟨by omega, by omega⟩ ⟨by omega, by omega⟩ ⟨by omega, by omega⟩ (rfl) (((((up_n (by decide)).trans ((up_c (nn rfl)).trans (up_c (nn rfl))))).trans (hro_hR_142.2.2.1))) (rfl) ((show _ = c_138 41 29 + 1 from (up_e rfl)).trans (by omega)) ((show _ = c_94 1 4 from rfl).trans (by omega)) (((((up_n (by decide)).trans ((up_c (nn rfl)).trans (up_c (nn rfl))))).trans (hro_hR_142.2.1))) ((show _ = c_94 1 5 from rfl).trans (by omega)) ((show _ = c_138 41 7 from ((up_n (by decide)).trans ((up_c (nn rfl)).trans (up_c (nn rfl))))).trans (by omega)) (by first | (clear hq0 hq1 h_3 h_4 h_8 h_13 h_14 h_15 h_69 h_71 h_104 h_105 h_107 h_133 h_148 h_152; omega) | omega) (by first | (clear hq0 hq1 h_3 h_4 h_8 h_13 h_14 h_15 h_69 h_71 h_104 h_105 h_107 h_133 h_148 h_152; omega) | omega) (by first | (clear ha2 hq0 hq1 hq2 hq3 h_3 h_4 h_5 h_6 h_7 h_8 h_9 h_10 h_11 h_12 h_13 h_14 h_15 h_69 h_71 h_98 h_99 h_100 h_101 h_104 h_105 h_107 h_133 h_146 h_148 h_144 h_149 h_150 h_151 h_152; omega) | omega) (by first | (clear hq0 hq1 h_3 h_4 h_8 h_13 h_14 h_15 h_69 h_71 h_104 h_105 h_107 h_133 h_148 h_152; omega) | omega) (ce_le hA_157 (by omega)) hG_102 (by omega)
            · skip
              refine q_iload_n rfl rfl ?_
              refine v_sip rfl (by decide) ?_
              by_cases h_158 : v + 1 ≥ 150
              · refine v_ic_ge_t (t := 59) rfl (by decide) ⟨by decide, h_158, by first | exact rgp_h hv.2 (by decide) | omega⟩ ?_
                refine q_vret rfl rfl ?_
                intro hE_159
                have hW : Wd P Q P P c_94 = Wd P Q P P m9 := (Prod.mk.inj (Prod.mk.inj hE_159).2).1
                have h_160 := ir_1_4 hJ9
                have h_161 : m9 1 4 = c_94 1 4 := wd_fv (z := 4) 4 rfl hW rfl rfl rfl rfl (by decide) rfl ⟨(Int.le_trans (by decide) h_100.1), (Int.le_trans h_100.2 (by decide))⟩ ⟨(Int.le_trans (by decide) h_160.1), (Int.le_trans h_160.2 (by decide))⟩
                have h_162 := ir_1_2 hI_95
                have h_163 := ir_1_2 hJ9
                have h_164 : m9 1 2 = c_94 1 2 := wd_fv (z := 2) 2 rfl hW rfl rfl rfl rfl (by decide) rfl ⟨(Int.le_trans (by decide) h_162.1), (Int.le_trans h_162.2 (by decide))⟩ ⟨(Int.le_trans (by decide) h_163.1), (Int.le_trans h_163.2 (by decide))⟩
                have h_165 := ir_1_5 hI_95
                have h_166 := ir_1_5 hJ9
                have h_167 : m9 1 5 = c_94 1 5 := wd_fv (z := 5) 5 rfl hW rfl rfl rfl rfl (by decide) rfl ⟨(Int.le_trans (by decide) h_165.1), (Int.le_trans h_165.2 (by decide))⟩ ⟨(Int.le_trans (by decide) h_166.1), (Int.le_trans h_166.2 (by decide))⟩
                have h_168 := ir_p7_5 hJ9 hA
                have h_169 : m9 (A + 7) 5 = c_94 (A + 7) 5 := wd_fv (z := 5) 5 rfl hW (ck_p7 hA) (ck_p7 hA) rfl rfl (by omega) rfl ⟨(Int.le_trans (by decide) h_98.1), (Int.le_trans h_98.2 (by decide))⟩ ⟨(Int.le_trans (by decide) h_168.1), (Int.le_trans h_168.2 (by decide))⟩
                refine q_aload_n rfl rfl ?_
                refine v_cv rfl rfl rfl rfl (by decide) ⟨⟨rfl, rfl⟩, by decide, rfl⟩ (Nat.le_of_ble_eq_true rfl) (Nat.le_of_ble_eq_true rfl) ?_
                refine q_aload_n rfl rfl ?_
                refine v_gi (z := 5) (v := (-1)) rfl rfl rfl (by decide) rfl rfl (hc_1) ?_
                refine q_iconst rfl ?_
                refine v_ic_ne_f (t := 12) rfl (by decide) (by decide) ?_
                refine q_iconst rfl ?_
                refine q_goto (t := 13) rfl (by decide) ?_
                refine v_zret rfl rfl (by decide) ?_
                refine bk_inl ?_
                refine v_if_eq_f (t := 90) rfl (by decide) (by decide) ?_
                refine q_aload_n rfl rfl ?_
                have kn_170 : Hid (c2 41 3 = e1) := (hFc 41 3 (fun q => q.elim (fun h => absurd h.2 (ni rfl)) (fun q => q.elim (fun h => absurd h.2 (ni rfl)) (fun q => q.elim (fun h => absurd h.2 (ni rfl)) (fun q => q.elim (fun h => absurd h.2 (ni rfl)) (fun q => q.elim (fun h => absurd h.2 (ni rfl)) (fun q => q.elim (fun h => absurd h (nn rfl)) (fun h => absurd h (nn rfl))))))))).trans (hr_e1)
                have h_171 : -2147483648 ≤ (H (nx F e1 a)) ∧ (H (nx F e1 a)) ≤ 2147483647 := by rw [← hH (nx F e1 a)]; exact ir_43 hI (nx F e1 a)
                have h_172 := hU (nx F e1 a) (by omega) (by omega)
                have h_173 := hb_or (b := H) (e := e1) (r := (nx F e1 a))
                have h_174 := hb_bd (b := H) (e := e1) (r := (nx F e1 a)) (lo := -2147483648) (hi := 2147483647) h_171 (by decide)
                refine v_cv rfl rfl rfl rfl (by decide) ⟨⟨rfl, rfl⟩, by decide, rfl⟩ (Nat.le_of_ble_eq_true rfl) (Nat.le_of_ble_eq_true rfl) (f_154 (e1 := e1) (a9 := a) (B := H) (r8 := (nx F e1 a)) (r := (hb H e1 (nx F e1 a))) hI2 ((hid kn_170)) ((hr_a)) (fun j => (hFc 43 j (fun q => q.elim (fun h => absurd h.1 (nn rfl)) (fun q => q.elim (fun h => absurd h.1 (nn rfl)) (fun q => q.elim (fun h => absurd h.1 (nn rfl)) (fun q => q.elim (fun h => absurd h.1 (nn rfl)) (fun q => q.elim (fun h => absurd h.1 (nn rfl)) (fun q => q.elim (fun h => absurd h (nn rfl)) (fun h => absurd h (nn rfl))))))))).trans (hH j)) ((nx_tr hU (by first | (clear ha2 hq0 hq1 hq2 hq3 hq4 hq5 h_1 h_2 h_3 h_4 h_5 h_6 h_7 h_8 h_9 h_10 h_11 h_12 h_13 h_14 h_15 h_69 h_70 h_71 h_76 h_98 h_99 h_100 h_160 h_161 h_162 h_163 h_164 h_165 h_166 h_167 h_168 h_169 h_72; omega) | omega) (by first | (clear ha2 hq0 hq1 hq2 hq3 hq4 h_1 h_2 h_3 h_4 h_5 h_6 h_7 h_8 h_9 h_10 h_11 h_12 h_13 h_14 h_15 h_16 h_69 h_70 h_71 h_76 h_98 h_99 h_100 h_158 h_160 h_161 h_162 h_163 h_164 h_165 h_166 h_167 h_168 h_169 h_72; omega) | omega)).trans (rfl)) rfl (fun c_175 hI_176 hF_177 h_178 => ?_))
                refine bk_inl ?_
                refine v_bip rfl (by decide) ?_
                refine v_ic_eq_t (t := 38) rfl (by decide) (by first | (clear ha2 hq0 hq1 hq2 hq3 h_3 h_4 h_5 h_6 h_7 h_8 h_9 h_10 h_11 h_12 h_13 h_14 h_15 h_69 h_71 h_98 h_99 h_100 h_158 h_160 h_161 h_162 h_163 h_164 h_165 h_166 h_167 h_168 h_169; omega) | omega) ?_
                refine q_aload_n rfl rfl ?_
                have kn_179 : Hid (c_175 41 3 = e1) := (hF_177 41 3 (fun h => absurd h.2 (ni rfl))).trans (hid kn_170)
                refine v_cv rfl rfl rfl rfl (by decide) ⟨⟨rfl, rfl⟩, by decide, rfl⟩ (Nat.le_of_ble_eq_true rfl) (Nat.le_of_ble_eq_true rfl) (f_154 (e1 := e1) (a9 := (nx F e1 a)) (B := H) (r8 := (nx F e1 a)) (r := (hb H e1 (nx F e1 a))) hI_176 ((hid kn_179)) ((h_178)) (fun j => ((hF_177 43 j (fun h => absurd h.1 (nn rfl))).trans (hFc 43 j (fun q => q.elim (fun h => absurd h.1 (nn rfl)) (fun q => q.elim (fun h => absurd h.1 (nn rfl)) (fun q => q.elim (fun h => absurd h.1 (nn rfl)) (fun q => q.elim (fun h => absurd h.1 (nn rfl)) (fun q => q.elim (fun h => absurd h.1 (nn rfl)) (fun q => q.elim (fun h => absurd h (nn rfl)) (fun h => absurd h (nn rfl)))))))))).trans (hH j)) ((nx_tr hU (by first | (clear ha2 hq0 hq1 hq2 hq3 hq4 hq5 h_1 h_2 h_3 h_4 h_5 h_6 h_7 h_8 h_9 h_10 h_11 h_12 h_13 h_14 h_15 h_69 h_71 h_76 h_98 h_99 h_100 h_160 h_161 h_162 h_163 h_164 h_165 h_166 h_167 h_168 h_169 h_171 h_172 h_174 h_72 h_173; omega) | omega) (by first | (clear ha2 hq0 hq1 hq2 hq3 hq4 h_1 h_2 h_3 h_4 h_5 h_6 h_7 h_8 h_9 h_10 h_11 h_12 h_13 h_14 h_15 h_16 h_69 h_70 h_71 h_76 h_98 h_99 h_100 h_158 h_160 h_161 h_162 h_163 h_164 h_165 h_166 h_167 h_168 h_169 h_171 h_172 h_174 h_72 h_173; omega) | omega)).trans ((nx_z (by omega)))) rfl (fun c_180 hI_181 hF_182 h_183 => ?_))
                refine bk_inl ?_
                refine v_bip rfl (by decide) ?_
                refine v_ic_ne_f (t := 51) rfl (by decide) (by first | (clear ha2 hq0 hq1 hq2 hq3 h_3 h_4 h_5 h_6 h_7 h_8 h_9 h_10 h_11 h_12 h_13 h_14 h_15 h_69 h_71 h_98 h_99 h_100 h_158 h_160 h_161 h_162 h_163 h_164 h_165 h_166 h_167 h_168 h_169; omega) | omega) ?_
                refine q_iconst rfl ?_
                refine q_goto (t := 66) rfl (by decide) ?_
                refine q_istore_n rfl (by decide) ?_
                refine q_aload_n rfl rfl ?_
                refine q_dup rfl rfl ?_
                refine v_gi (z := 4) (v := (nx F e1 a)) rfl rfl rfl (by decide) rfl rfl (h_183) ?_
                refine q_iconst rfl ?_
                refine v_iadd (v := (nx F e1 a) + 1) rfl rfl ?_
                refine v_pi (z := 4) rfl rfl rfl (by decide) rfl rfl rfl (by decide) ?_
                refine q_aload_n rfl rfl ?_
                have kn_184 : Hid (c_175 41 5 = (-1)) := (hF_177 41 5 (fun h => absurd h.2 (ni rfl))).trans (hc_1)
                have kn_185 : Hid (c_180 41 5 = (-1)) := (hF_182 41 5 (fun h => absurd h.2 (ni rfl))).trans (hid kn_184)
                have hI_186 := iw_41_4 (v := (nx F e1 a) + 1) hI_181 ⟨by first | exact rgp_l (rg_be h_70 (ha.1) ((rg_eq hg_e1 h_1).2)).1 (by decide) | omega, by first | exact rgp_h (rg_be h_70 (ha.1) ((rg_eq hg_e1 h_1).2)).2 (by decide) | omega⟩
                have kn_187 : Hid (c_73 1 1 = e1) := (hF_75 1 1 (fun h => absurd h.2 (ni rfl))).trans (hid kn_68)
                have kn_188 : Hid (c_180 41 3 = e1) := (hF_182 41 3 (fun h => absurd h.2 (ni rfl))).trans (hid kn_179)
                have kn_189 : Hid (c_73 1 5 = (-1)) := (hF_75 1 5 (fun h => absurd h.2 (ni rfl))).trans (hc_2)
                have kn_190 : Hid (c_73 (A + 7) 5 = nw) := (hF_75 (A + 7) 5 (fun h => absurd h.1 (np hA rfl rfl))).trans (hg_nw)
                have kn_191 : Hid (c_175 41 29 = nw) := (hF_177 41 29 (fun h => absurd h.2 (ni rfl))).trans (hr_nw)
                have kn_192 : Hid (c_180 41 29 = nw) := (hF_182 41 29 (fun h => absurd h.2 (ni rfl))).trans (hid kn_191)
                have kn_193 : Hid (c_175 41 7 = a2) := (hF_177 41 7 (fun h => absurd h.2 (ni rfl))).trans (hc_3)
                have kn_194 : Hid (c_180 41 7 = a2) := (hF_182 41 7 (fun h => absurd h.2 (ni rfl))).trans (hid kn_193)
                have h_195 : c_73 1 4 = 0 := (hid kn_93)
                have h_196 : c_73 1 2 = (nx F e1 a) + 1 := (hz_77)
                have h_197 : c_73 1 5 = (-1) := (hid kn_189)
                have h_198 : (up c_180 41 4 ((nx F e1 a) + 1)) 41 5 = (-1) := ((up_n (by decide)).trans (hid kn_185))
                have h_199 : (up c_180 41 4 ((nx F e1 a) + 1)) 41 4 = (nx F e1 a) + 1 := (up_e rfl)
                have h_200 := ir_41_6 hI2
                have kn_201 : Hid (c_175 41 6 = c2 41 6) := hF_177 41 6 (fun h => absurd h.2 (ni rfl))
                have kn_202 : Hid (c_180 41 6 = c2 41 6) := (hF_182 41 6 (fun h => absurd h.2 (ni rfl))).trans (hid kn_201)
                have h_203 : (up c_180 41 4 ((nx F e1 a) + 1)) 41 6 = c2 41 6 := ((up_n (by decide)).trans (hid kn_202))
                have hA_204 : Ce nw (c_73 (A + 9)) ((up c_180 41 4 ((nx F e1 a) + 1)) 50) ((up c_180 41 4 ((nx F e1 a) + 1)) 51) := ce_fr hrl0 (fun j => hF_75 (A + 9) j (fun h => absurd h.1 (np hA rfl rfl))) (fun j => (up_c (nn rfl)).trans ((hF_182 50 j (fun h => absurd h.1 (nn rfl))).trans (hF_177 50 j (fun h => absurd h.1 (nn rfl))))) (fun j => (up_c (nn rfl)).trans ((hF_182 51 j (fun h => absurd h.1 (nn rfl))).trans (hF_177 51 j (fun h => absurd h.1 (nn rfl)))))
                refine v_cv rfl rfl rfl rfl (by decide) ⟨⟨rfl, rfl⟩, by decide, rfl⟩ (Nat.le_of_ble_eq_true rfl) (Nat.le_of_ble_eq_true rfl) (L_14 (m := c_73) (a2 := a2) (e1 := e1) (f0 := 0) (g0 := (-1)) (p0 := (nx F e1 a) + 1) (n0 := nw) (o0 := a2) (F := F) (H := H) hI_186 hI_74 hI_95 hA (show 0 ≤ a2 ∧ a2 ≤ 6 from ha2) (by first | (clear ha2 hq0 hq1 hq2 hq3 hq4 hq5 h_1 h_2 h_3 h_4 h_5 h_6 h_7 h_8 h_9 h_10 h_11 h_12 h_13 h_14 h_15 h_16 h_69 h_70 h_71 h_76 h_98 h_99 h_100 h_158 h_160 h_161 h_162 h_163 h_164 h_165 h_166 h_167 h_168 h_169 h_171 h_172 h_174 h_72 h_173; omega) | omega) (by first | (clear ha2 hq0 hq1 hq2 hq3 hq4 hq5 h_1 h_2 h_3 h_4 h_5 h_6 h_7 h_8 h_9 h_10 h_11 h_12 h_13 h_14 h_15 h_16 h_69 h_70 h_71 h_76 h_98 h_99 h_100 h_158 h_160 h_161 h_162 h_163 h_164 h_165 h_166 h_167 h_168 h_169 h_171 h_172 h_174 h_72 h_173; omega) | omega) (by first | (clear ha2 hq0 hq1 hq2 hq3 hq4 hq5 h_1 h_2 h_3 h_4 h_5 h_6 h_7 h_8 h_9 h_10 h_11 h_12 h_13 h_14 h_15 h_16 h_69 h_70 h_71 h_76 h_98 h_99 h_100 h_158 h_160 h_161 h_162 h_163 h_164 h_165 h_166 h_167 h_168 h_169 h_171 h_172 h_174 h_72 h_173; omega) | omega) (by first | (clear ha2 hq0 hq1 hq2 hq4 hq5 h_1 h_2 h_3 h_4 h_5 h_6 h_7 h_8 h_9 h_10 h_11 h_12 h_13 h_14 h_15 h_69 h_71 h_76 h_98 h_99 h_100 h_158 h_160 h_161 h_162 h_163 h_164 h_165 h_166 h_167 h_168 h_169 h_171 h_172 h_174 h_72 h_173; omega) | omega) (by first | (clear ha2 hq0 hq1 hq2 hq3 hq4 hq5 h_1 h_2 h_3 h_4 h_5 h_6 h_7 h_8 h_9 h_10 h_11 h_12 h_13 h_14 h_15 h_16 h_69 h_70 h_71 h_98 h_99 h_100 h_158 h_160 h_161 h_162 h_163 h_164 h_165 h_166 h_167 h_168 h_169 h_171 h_172 h_174 h_72 h_173; omega) | omega) (by first | (clear ha2 hq0 hq1 hq2 hq3 hq4 h_1 h_2 h_3 h_4 h_5 h_6 h_7 h_8 h_9 h_10 h_11 h_12 h_13 h_14 h_15 h_16 h_69 h_70 h_71 h_76 h_98 h_99 h_100 h_158 h_160 h_161 h_162 h_163 h_164 h_165 h_166 h_167 h_168 h_169 h_171 h_172 h_174 h_72 h_173; omega) | omega) ((hid kn_187)) (((up_n (by decide)).trans (hid kn_188))) ((hid kn_93)) ((hid kn_189)) ((hz_77)) ((hid kn_190)) (((up_n (by decide)).trans (hid kn_192))) (((up_n (by decide)).trans (hid kn_194))) (fun j => ((hF_75 2 j (fun h => absurd h.1 (nn rfl))).trans (hFm 2 j (fun q => q.elim (fun h => absurd h.1 (nn rfl)) (fun q => q.elim (fun h => absurd h.1 (nn rfl)) (fun q => q.elim (fun h => absurd h.1 (nn rfl)) (fun q => q.elim (fun h => absurd h.1 (pn hA rfl rfl)) (fun h => absurd h (pn hA rfl rfl)))))))).trans (hF j)) (fun j => ((up_c (nn rfl)).trans ((hF_182 43 j (fun h => absurd h.1 (nn rfl))).trans ((hF_177 43 j (fun h => absurd h.1 (nn rfl))).trans (hFc 43 j (fun q => q.elim (fun h => absurd h.1 (nn rfl)) (fun q => q.elim (fun h => absurd h.1 (nn rfl)) (fun q => q.elim (fun h => absurd h.1 (nn rfl)) (fun q => q.elim (fun h => absurd h.1 (nn rfl)) (fun q => q.elim (fun h => absurd h.1 (nn rfl)) (fun q => q.elim (fun h => absurd h (nn rfl)) (fun h => absurd h (nn rfl)))))))))))).trans (hH j)) hU (rt_i1 ⟨by first | (clear ha2 hq0 hq1 hq2 hq3 hq4 hq5 h_1 h_2 h_3 h_4 h_5 h_6 h_7 h_8 h_9 h_10 h_11 h_12 h_13 h_14 h_15 h_16 h_69 h_70 h_71 h_76 h_98 h_99 h_100 h_158 h_160 h_161 h_162 h_163 h_164 h_165 h_166 h_167 h_168 h_169 h_171 h_172 h_174 h_200 h_72 h_173; omega) | omega, by first | (clear ha2 hq0 hq1 hq2 hq3 hq4 hq5 h_1 h_2 h_3 h_4 h_5 h_6 h_7 h_8 h_9 h_10 h_11 h_12 h_13 h_14 h_15 h_16 h_69 h_70 h_71 h_76 h_98 h_99 h_100 h_158 h_160 h_161 h_162 h_163 h_164 h_165 h_166 h_167 h_168 h_169 h_171 h_172 h_174 h_200 h_72 h_173; omega) | omega, by first | (clear ha2 hq0 hq1 hq2 hq3 hq4 hq5 h_1 h_2 h_3 h_4 h_5 h_6 h_7 h_8 h_9 h_10 h_11 h_12 h_13 h_14 h_15 h_16 h_69 h_70 h_71 h_76 h_98 h_99 h_100 h_158 h_160 h_161 h_162 h_163 h_164 h_165 h_166 h_167 h_168 h_169 h_171 h_172 h_174 h_200 h_72 h_173; omega) | omega, by first | (clear ha2 hq0 hq1 hq2 hq3 hq4 hq5 h_1 h_2 h_3 h_4 h_5 h_6 h_7 h_8 h_9 h_10 h_11 h_12 h_13 h_14 h_15 h_16 h_69 h_70 h_71 h_76 h_98 h_99 h_100 h_158 h_160 h_161 h_162 h_163 h_164 h_165 h_166 h_167 h_168 h_169 h_171 h_172 h_174 h_200 h_72 h_173; omega) | omega⟩) (ce_le hA_204 (by omega)) H13 hG_97 (fun c_205 hI_206 hF_207 hR_209 h_210 h_211 hA_212 => ?_))
                refine bk_inl ?_
                have h_213 := ir_41_29 hI_206
                have h_214 := ir_41_7 hI_206
                refine q_aload_n rfl rfl ?_
                refine q_iload_n rfl rfl ?_
                refine q_iconst rfl ?_
                refine v_cv rfl rfl rfl rfl (by decide) ⟨⟨rfl, rfl⟩, by decide, rfl⟩ (Nat.le_of_ble_eq_true rfl) (Nat.le_of_ble_eq_true rfl) ?_
                refine q_aload_n rfl rfl ?_
                refine v_cv rfl rfl rfl rfl (by decide) ⟨⟨rfl, rfl⟩, by decide, rfl⟩ (Nat.le_of_ble_eq_true rfl) (Nat.le_of_ble_eq_true rfl) ?_
                refine q_aload_n rfl rfl ?_
                have h_215 := ir_41_5 hI_206
                have h_216 := ir_41_4 hI_206
                have h_217 := ir_41_6 hI_206
                have h_218 := rt_bad hR_209 (by omega)
                have hrb_hR_209 := rt_bad hR_209 (by omega)
                refine v_gi (z := 5) (v := c_94 1 5) rfl rfl rfl (by decide) rfl rfl hrb_hR_209.2.1 ?_
                refine q_iconst rfl ?_
                refine v_ic_ne_t (t := 12) rfl (by decide) ⟨by first | (clear ha2 hq0 hq1 hq2 hq3 hq4 hq5 h_1 h_2 h_3 h_4 h_5 h_6 h_7 h_8 h_9 h_10 h_11 h_12 h_13 h_14 h_15 h_16 h_69 h_70 h_71 h_76 h_98 h_99 h_100 h_158 h_160 h_161 h_162 h_163 h_164 h_165 h_166 h_167 h_168 h_169 h_171 h_172 h_174 h_200 h_213 h_214 h_211 h_215 h_216 h_217 h_72 h_173 h_210; omega) | omega, ⟨(Int.le_trans (by decide) h_165.1), (Int.le_trans h_165.2 (by decide))⟩, by decide, by decide⟩ ?_
                refine q_iconst rfl ?_
                refine v_zret rfl rfl (by decide) ?_
                refine bk_inl ?_
                refine v_if_ne_f (t := 8) rfl (by decide) (by decide) ?_
                refine q_vret rfl rfl ?_
                refine bk_inl ?_
                refine q_goto (t := 4) rfl (by decide) ?_
                refine q_aload_n rfl rfl ?_
                refine v_cv rfl rfl rfl rfl (by decide) ⟨⟨rfl, rfl⟩, by decide, rfl⟩ (Nat.le_of_ble_eq_true rfl) (Nat.le_of_ble_eq_true rfl) ?_
                refine q_aload_n rfl rfl ?_
                refine v_gi (z := 5) (v := c_94 1 5) rfl rfl rfl (by decide) rfl rfl hrb_hR_209.2.1 ?_
                refine q_iconst rfl ?_
                refine v_ic_ne_t (t := 12) rfl (by decide) ⟨by first | (clear ha2 hq0 hq1 hq2 hq3 hq4 hq5 h_1 h_2 h_3 h_4 h_5 h_6 h_7 h_8 h_9 h_10 h_11 h_12 h_13 h_14 h_15 h_16 h_69 h_70 h_71 h_76 h_98 h_99 h_100 h_158 h_160 h_161 h_162 h_163 h_164 h_165 h_166 h_167 h_168 h_169 h_171 h_172 h_174 h_200 h_213 h_214 h_211 h_215 h_216 h_217 h_72 h_173 h_210; omega) | omega, ⟨(Int.le_trans (by decide) h_165.1), (Int.le_trans h_165.2 (by decide))⟩, by decide, by decide⟩ ?_
                refine q_iconst rfl ?_
                refine v_zret rfl rfl (by decide) ?_
                refine bk_inl ?_
                refine v_if_eq_t (t := 90) rfl (by decide) (by decide) ?_
                refine q_vret rfl rfl ?_
                have h_219 : c_205 41 5 = c_94 1 5 := hrb_hR_209.2.1
                have h_220 : c_205 41 6 = c_94 1 4 := hrb_hR_209.2.2.2
                exact K c_205  hI_206 (fun a j hm => (hF_207 a j (fun q => q.elim (fun h => hm (Or.inl h)) (fun q => q.elim (fun h => hm (Or.inr (Or.inl h))) (fun q => q.elim (fun h => hm (Or.inr (Or.inr (Or.inl h)))) (fun q => q.elim (fun h => hm (Or.inr (Or.inr (Or.inr (Or.inl h))))) (fun q => q.elim (fun h => hm (Or.inr (Or.inr (Or.inr (Or.inr (Or.inl h)))))) (fun q => q.elim (fun h => hm (Or.inr (Or.inr (Or.inr (Or.inr (Or.inr (Or.inl h))))))) (fun h => hm (Or.inr (Or.inr (Or.inr (Or.inr (Or.inr (Or.inr h)))))))))))))).trans ((up_b (Decidable.or_iff_not_imp_left.mpr (fun h1 h2 => hm (Or.inl ⟨Decidable.not_not.mp h1, h2⟩)))).trans ((hF_182 a j (fun h => hm (Or.inl h))).trans ((hF_177 a j (fun h => hm (Or.inl h))).trans (hFc a j (fun q => q.elim (fun h => hm (Or.inl h)) (fun q => q.elim (fun h => hm (Or.inr (Or.inl h))) (fun q => q.elim (fun h => hm (Or.inr (Or.inr (Or.inl h)))) (fun q => q.elim (fun h => hm (Or.inr (Or.inr (Or.inr (Or.inl h))))) (fun q => q.elim (fun h => hm (Or.inr (Or.inr (Or.inr (Or.inr (Or.inl h)))))) (fun q => q.elim (fun h => hm (Or.inr (Or.inr (Or.inr (Or.inr (Or.inr (Or.inl h))))))) (fun h => hm (Or.inr (Or.inr (Or.inr (Or.inr (Or.inr (Or.inr h)))))))))))))))))) (rt_i2 ⟨⟨by first | (clear ha2 hq0 hq1 hq2 hq3 hq4 hq5 h_1 h_2 h_3 h_4 h_5 h_6 h_7 h_8 h_9 h_10 h_11 h_12 h_13 h_14 h_15 h_16 h_69 h_70 h_71 h_76 h_98 h_99 h_100 h_158 h_160 h_162 h_163 h_164 h_165 h_166 h_167 h_168 h_169 h_171 h_172 h_174 h_200 h_213 h_214 h_211 h_215 h_216 h_217 h_72 h_173 h_210; omega) | omega, by first | (clear ha2 hq0 hq1 hq2 hq3 hq4 hq5 h_1 h_2 h_3 h_4 h_5 h_6 h_7 h_8 h_9 h_10 h_11 h_12 h_13 h_14 h_15 h_16 h_69 h_70 h_71 h_76 h_98 h_99 h_100 h_158 h_161 h_162 h_163 h_164 h_165 h_166 h_167 h_168 h_169 h_171 h_172 h_174 h_200 h_213 h_214 h_211 h_215 h_216 h_217 h_218 h_72 h_173 h_210; omega) | omega⟩, by first | (clear ha2 hq0 hq1 hq2 hq3 hq4 hq5 h_1 h_2 h_3 h_4 h_5 h_6 h_7 h_8 h_9 h_10 h_11 h_12 h_13 h_14 h_15 h_16 h_69 h_70 h_71 h_76 h_98 h_99 h_100 h_158 h_160 h_161 h_162 h_163 h_164 h_165 h_166 h_168 h_169 h_171 h_172 h_174 h_200 h_213 h_214 h_211 h_215 h_216 h_217 h_218 h_72 h_173 h_210; omega) | omega, by first | (clear ha2 hq0 hq1 hq2 hq3 hq4 hq5 h_1 h_2 h_3 h_4 h_5 h_6 h_7 h_8 h_9 h_10 h_11 h_12 h_13 h_14 h_15 h_16 h_69 h_70 h_71 h_76 h_98 h_99 h_100 h_158 h_160 h_161 h_162 h_163 h_164 h_165 h_166 h_168 h_169 h_171 h_172 h_174 h_200 h_213 h_214 h_211 h_215 h_216 h_217 h_72 h_173 h_210; omega) | omega, by first | (clear ha2 hq0 hq1 hq2 hq3 hq4 hq5 h_1 h_2 h_3 h_4 h_5 h_6 h_7 h_8 h_9 h_10 h_11 h_12 h_13 h_14 h_15 h_16 h_69 h_70 h_71 h_76 h_98 h_99 h_100 h_158 h_160 h_162 h_163 h_164 h_165 h_166 h_167 h_168 h_169 h_171 h_172 h_174 h_200 h_213 h_214 h_211 h_215 h_216 h_217 h_218 h_72 h_173 h_210; omega) | omega⟩) (Or.inr (Or.inl (by first | (clear ha2 hq0 hq1 hq2 hq3 hq4 hq5 h_1 h_2 h_3 h_4 h_5 h_6 h_7 h_8 h_9 h_10 h_11 h_12 h_13 h_14 h_15 h_16 h_69 h_70 h_71 h_76 h_98 h_99 h_100 h_158 h_160 h_162 h_163 h_164 h_165 h_166 h_167 h_168 h_169 h_171 h_172 h_174 h_200 h_213 h_214 h_211 h_215 h_216 h_217 h_72 h_173 h_210; omega) | omega))) (by first | (clear ha2 hq0 hq1 hq2 hq3 hq4 hq5 h_1 h_2 h_3 h_4 h_5 h_6 h_7 h_8 h_9 h_10 h_11 h_12 h_13 h_14 h_15 h_16 h_69 h_70 h_71 h_76 h_98 h_99 h_100 h_158 h_160 h_161 h_162 h_163 h_164 h_165 h_166 h_167 h_168 h_169 h_171 h_172 h_174 h_200 h_213 h_214 h_215 h_216 h_217 h_218 h_72 h_173 h_210; omega) | omega) (fun hz => absurd hz (by omega))
              · refine v_ic_ge_f (t := 59) rfl (by decide) ⟨by first | exact rgp_l hv.1 (by decide) | omega, (Int.not_le.mp h_158), by decide⟩ ?_
                refine q_aload_n rfl rfl ?_
                refine v_cv rfl rfl rfl rfl (by decide) ⟨⟨rfl, rfl⟩, by decide, rfl⟩ (Nat.le_of_ble_eq_true rfl) (Nat.le_of_ble_eq_true rfl) ?_
                refine q_aload_n rfl rfl ?_
                refine v_gi (z := 4) (v := c_94 1 4) rfl rfl rfl (by decide) rfl rfl rfl ?_
                refine v_if_ne_t (t := 11) rfl (by decide) ⟨by first | (clear ha2 hq0 hq1 hq2 hq3 hq4 hq5 h_1 h_2 h_3 h_4 h_5 h_6 h_7 h_8 h_9 h_10 h_11 h_12 h_13 h_14 h_15 h_16 h_69 h_70 h_71 h_76 h_98 h_99 h_100 h_72; omega) | omega, ⟨(Int.le_trans (by decide) h_100.1), (Int.le_trans h_100.2 (by decide))⟩, by decide, by decide⟩ ?_
                refine q_iconst rfl ?_
                refine v_zret rfl rfl (by decide) ?_
                refine bk_inl ?_
                refine v_if_eq_t (t := 59) rfl (by decide) (by decide) ?_
                refine q_vret rfl rfl ?_
                intro hE_221
                have hW : Wd P Q P P c_94 = Wd P Q P P m9 := (Prod.mk.inj (Prod.mk.inj hE_221).2).1
                have h_222 := ir_1_4 hJ9
                have h_223 : m9 1 4 = c_94 1 4 := wd_fv (z := 4) 4 rfl hW rfl rfl rfl rfl (by decide) rfl ⟨(Int.le_trans (by decide) h_100.1), (Int.le_trans h_100.2 (by decide))⟩ ⟨(Int.le_trans (by decide) h_222.1), (Int.le_trans h_222.2 (by decide))⟩
                have h_224 := ir_1_2 hI_95
                have h_225 := ir_1_2 hJ9
                have h_226 : m9 1 2 = c_94 1 2 := wd_fv (z := 2) 2 rfl hW rfl rfl rfl rfl (by decide) rfl ⟨(Int.le_trans (by decide) h_224.1), (Int.le_trans h_224.2 (by decide))⟩ ⟨(Int.le_trans (by decide) h_225.1), (Int.le_trans h_225.2 (by decide))⟩
                have h_227 := ir_1_5 hI_95
                have h_228 := ir_1_5 hJ9
                have h_229 : m9 1 5 = c_94 1 5 := wd_fv (z := 5) 5 rfl hW rfl rfl rfl rfl (by decide) rfl ⟨(Int.le_trans (by decide) h_227.1), (Int.le_trans h_227.2 (by decide))⟩ ⟨(Int.le_trans (by decide) h_228.1), (Int.le_trans h_228.2 (by decide))⟩
                have h_230 := ir_p7_5 hJ9 hA
                have h_231 : m9 (A + 7) 5 = c_94 (A + 7) 5 := wd_fv (z := 5) 5 rfl hW (ck_p7 hA) (ck_p7 hA) rfl rfl (by omega) rfl ⟨(Int.le_trans (by decide) h_98.1), (Int.le_trans h_98.2 (by decide))⟩ ⟨(Int.le_trans (by decide) h_230.1), (Int.le_trans h_230.2 (by decide))⟩
                refine q_aload_n rfl rfl ?_
                refine v_cv rfl rfl rfl rfl (by decide) ⟨⟨rfl, rfl⟩, by decide, rfl⟩ (Nat.le_of_ble_eq_true rfl) (Nat.le_of_ble_eq_true rfl) ?_
                refine q_aload_n rfl rfl ?_
                refine v_gi (z := 5) (v := (-1)) rfl rfl rfl (by decide) rfl rfl (hc_1) ?_
                refine q_iconst rfl ?_
                refine v_ic_ne_f (t := 12) rfl (by decide) (by decide) ?_
                refine q_iconst rfl ?_
                refine q_goto (t := 13) rfl (by decide) ?_
                refine v_zret rfl rfl (by decide) ?_
                refine bk_inl ?_
                refine v_if_eq_f (t := 90) rfl (by decide) (by decide) ?_
                refine q_aload_n rfl rfl ?_
                have kn_232 : Hid (c2 41 3 = e1) := (hFc 41 3 (fun q => q.elim (fun h => absurd h.2 (ni rfl)) (fun q => q.elim (fun h => absurd h.2 (ni rfl)) (fun q => q.elim (fun h => absurd h.2 (ni rfl)) (fun q => q.elim (fun h => absurd h.2 (ni rfl)) (fun q => q.elim (fun h => absurd h.2 (ni rfl)) (fun q => q.elim (fun h => absurd h (nn rfl)) (fun h => absurd h (nn rfl))))))))).trans (hr_e1)
                have h_233 : -2147483648 ≤ (H (nx F e1 a)) ∧ (H (nx F e1 a)) ≤ 2147483647 := by rw [← hH (nx F e1 a)]; exact ir_43 hI (nx F e1 a)
                have h_234 := hU (nx F e1 a) (by omega) (by omega)
                have h_235 := hb_or (b := H) (e := e1) (r := (nx F e1 a))
                have h_236 := hb_bd (b := H) (e := e1) (r := (nx F e1 a)) (lo := -2147483648) (hi := 2147483647) h_233 (by decide)
                refine v_cv rfl rfl rfl rfl (by decide) ⟨⟨rfl, rfl⟩, by decide, rfl⟩ (Nat.le_of_ble_eq_true rfl) (Nat.le_of_ble_eq_true rfl) (f_154 (e1 := e1) (a9 := a) (B := H) (r8 := (nx F e1 a)) (r := (hb H e1 (nx F e1 a))) hI2 ((hid kn_232)) ((hr_a)) (fun j => (hFc 43 j (fun q => q.elim (fun h => absurd h.1 (nn rfl)) (fun q => q.elim (fun h => absurd h.1 (nn rfl)) (fun q => q.elim (fun h => absurd h.1 (nn rfl)) (fun q => q.elim (fun h => absurd h.1 (nn rfl)) (fun q => q.elim (fun h => absurd h.1 (nn rfl)) (fun q => q.elim (fun h => absurd h (nn rfl)) (fun h => absurd h (nn rfl))))))))).trans (hH j)) ((nx_tr hU (by first | (clear ha2 hq0 hq1 hq2 hq3 hq4 hq5 h_1 h_2 h_3 h_4 h_5 h_6 h_7 h_8 h_9 h_10 h_11 h_12 h_13 h_14 h_15 h_16 h_69 h_70 h_71 h_76 h_98 h_99 h_100 h_222 h_223 h_224 h_225 h_226 h_227 h_228 h_229 h_230 h_231 h_72; omega) | omega) (by first | (clear ha2 hq0 hq1 hq2 hq3 hq4 h_1 h_2 h_3 h_4 h_5 h_6 h_7 h_8 h_9 h_10 h_11 h_12 h_13 h_14 h_15 h_16 h_69 h_70 h_71 h_76 h_98 h_99 h_100 h_222 h_223 h_224 h_225 h_226 h_227 h_228 h_229 h_230 h_231 h_72; omega) | omega)).trans (rfl)) rfl (fun c_237 hI_238 hF_239 h_240 => ?_))
                refine bk_inl ?_
                refine v_bip rfl (by decide) ?_
                refine v_ic_eq_t (t := 38) rfl (by decide) (by first | (clear ha2 hq0 hq1 hq2 hq3 h_3 h_4 h_5 h_6 h_7 h_8 h_9 h_10 h_11 h_12 h_13 h_14 h_15 h_69 h_71 h_98 h_99 h_100 h_222 h_223 h_224 h_225 h_226 h_227 h_228 h_229 h_230 h_231; omega) | omega) ?_
                refine q_aload_n rfl rfl ?_
                have kn_241 : Hid (c_237 41 3 = e1) := (hF_239 41 3 (fun h => absurd h.2 (ni rfl))).trans (hid kn_232)
                refine v_cv rfl rfl rfl rfl (by decide) ⟨⟨rfl, rfl⟩, by decide, rfl⟩ (Nat.le_of_ble_eq_true rfl) (Nat.le_of_ble_eq_true rfl) (f_154 (e1 := e1) (a9 := (nx F e1 a)) (B := H) (r8 := (nx F e1 a)) (r := (hb H e1 (nx F e1 a))) hI_238 ((hid kn_241)) ((h_240)) (fun j => ((hF_239 43 j (fun h => absurd h.1 (nn rfl))).trans (hFc 43 j (fun q => q.elim (fun h => absurd h.1 (nn rfl)) (fun q => q.elim (fun h => absurd h.1 (nn rfl)) (fun q => q.elim (fun h => absurd h.1 (nn rfl)) (fun q => q.elim (fun h => absurd h.1 (nn rfl)) (fun q => q.elim (fun h => absurd h.1 (nn rfl)) (fun q => q.elim (fun h => absurd h (nn rfl)) (fun h => absurd h (nn rfl)))))))))).trans (hH j)) ((nx_tr hU (by first | (clear ha2 hq0 hq1 hq2 hq3 hq4 hq5 h_1 h_2 h_3 h_4 h_5 h_6 h_7 h_8 h_9 h_10 h_11 h_12 h_13 h_14 h_15 h_16 h_69 h_71 h_76 h_98 h_99 h_100 h_222 h_223 h_224 h_225 h_226 h_227 h_228 h_229 h_230 h_231 h_233 h_234 h_236 h_72 h_235; omega) | omega) (by first | (clear ha2 hq0 hq1 hq2 hq3 hq4 h_1 h_2 h_3 h_4 h_5 h_6 h_7 h_8 h_9 h_10 h_11 h_12 h_13 h_14 h_15 h_16 h_69 h_70 h_71 h_76 h_98 h_99 h_100 h_222 h_223 h_224 h_225 h_226 h_227 h_228 h_229 h_230 h_231 h_233 h_234 h_236 h_72 h_235; omega) | omega)).trans ((nx_z (by omega)))) rfl (fun c_242 hI_243 hF_244 h_245 => ?_))
                refine bk_inl ?_
                refine v_bip rfl (by decide) ?_
                refine v_ic_ne_f (t := 51) rfl (by decide) (by first | (clear ha2 hq0 hq1 hq2 hq3 h_3 h_4 h_5 h_6 h_7 h_8 h_9 h_10 h_11 h_12 h_13 h_14 h_15 h_69 h_71 h_98 h_99 h_100 h_222 h_223 h_224 h_225 h_226 h_227 h_228 h_229 h_230 h_231; omega) | omega) ?_
                refine q_iconst rfl ?_
                refine q_goto (t := 66) rfl (by decide) ?_
                refine q_istore_n rfl (by decide) ?_
                refine q_aload_n rfl rfl ?_
                refine q_dup rfl rfl ?_
                refine v_gi (z := 4) (v := (nx F e1 a)) rfl rfl rfl (by decide) rfl rfl (h_245) ?_
                refine q_iconst rfl ?_
                refine v_iadd (v := (nx F e1 a) + 1) rfl rfl ?_
                refine v_pi (z := 4) rfl rfl rfl (by decide) rfl rfl rfl (by decide) ?_
                refine q_aload_n rfl rfl ?_
                have kn_246 : Hid (c_237 41 5 = (-1)) := (hF_239 41 5 (fun h => absurd h.2 (ni rfl))).trans (hc_1)
                have kn_247 : Hid (c_242 41 5 = (-1)) := (hF_244 41 5 (fun h => absurd h.2 (ni rfl))).trans (hid kn_246)
                have hI_248 := iw_41_4 (v := (nx F e1 a) + 1) hI_243 ⟨by first | exact rgp_l (rg_be h_70 (ha.1) ((rg_eq hg_e1 h_1).2)).1 (by decide) | omega, by first | exact rgp_h (rg_be h_70 (ha.1) ((rg_eq hg_e1 h_1).2)).2 (by decide) | omega⟩
                have kn_249 : Hid (c_73 1 1 = e1) := (hF_75 1 1 (fun h => absurd h.2 (ni rfl))).trans (hid kn_68)
                have kn_250 : Hid (c_242 41 3 = e1) := (hF_244 41 3 (fun h => absurd h.2 (ni rfl))).trans (hid kn_241)
                have kn_251 : Hid (c_73 1 5 = (-1)) := (hF_75 1 5 (fun h => absurd h.2 (ni rfl))).trans (hc_2)
                have kn_252 : Hid (c_73 (A + 7) 5 = nw) := (hF_75 (A + 7) 5 (fun h => absurd h.1 (np hA rfl rfl))).trans (hg_nw)
                have kn_253 : Hid (c_237 41 29 = nw) := (hF_239 41 29 (fun h => absurd h.2 (ni rfl))).trans (hr_nw)
                have kn_254 : Hid (c_242 41 29 = nw) := (hF_244 41 29 (fun h => absurd h.2 (ni rfl))).trans (hid kn_253)
                have kn_255 : Hid (c_237 41 7 = a2) := (hF_239 41 7 (fun h => absurd h.2 (ni rfl))).trans (hc_3)
                have kn_256 : Hid (c_242 41 7 = a2) := (hF_244 41 7 (fun h => absurd h.2 (ni rfl))).trans (hid kn_255)
                have h_257 : c_73 1 4 = 0 := (hid kn_93)
                have h_258 : c_73 1 2 = (nx F e1 a) + 1 := (hz_77)
                have h_259 : c_73 1 5 = (-1) := (hid kn_251)
                have h_260 : (up c_242 41 4 ((nx F e1 a) + 1)) 41 5 = (-1) := ((up_n (by decide)).trans (hid kn_247))
                have h_261 : (up c_242 41 4 ((nx F e1 a) + 1)) 41 4 = (nx F e1 a) + 1 := (up_e rfl)
                have h_262 := ir_41_6 hI2
                have kn_263 : Hid (c_237 41 6 = c2 41 6) := hF_239 41 6 (fun h => absurd h.2 (ni rfl))
                have kn_264 : Hid (c_242 41 6 = c2 41 6) := (hF_244 41 6 (fun h => absurd h.2 (ni rfl))).trans (hid kn_263)
                have h_265 : (up c_242 41 4 ((nx F e1 a) + 1)) 41 6 = c2 41 6 := ((up_n (by decide)).trans (hid kn_264))
                have hA_266 : Ce nw (c_73 (A + 9)) ((up c_242 41 4 ((nx F e1 a) + 1)) 50) ((up c_242 41 4 ((nx F e1 a) + 1)) 51) := ce_fr hrl0 (fun j => hF_75 (A + 9) j (fun h => absurd h.1 (np hA rfl rfl))) (fun j => (up_c (nn rfl)).trans ((hF_244 50 j (fun h => absurd h.1 (nn rfl))).trans (hF_239 50 j (fun h => absurd h.1 (nn rfl))))) (fun j => (up_c (nn rfl)).trans ((hF_244 51 j (fun h => absurd h.1 (nn rfl))).trans (hF_239 51 j (fun h => absurd h.1 (nn rfl)))))
                refine v_cv rfl rfl rfl rfl (by decide) ⟨⟨rfl, rfl⟩, by decide, rfl⟩ (Nat.le_of_ble_eq_true rfl) (Nat.le_of_ble_eq_true rfl) (L_14 (m := c_73) (a2 := a2) (e1 := e1) (f0 := 0) (g0 := (-1)) (p0 := (nx F e1 a) + 1) (n0 := nw) (o0 := a2) (F := F) (H := H) hI_248 hI_74 hI_95 hA (show 0 ≤ a2 ∧ a2 ≤ 6 from ha2) (by first | (clear ha2 hq0 hq1 hq2 hq3 hq4 hq5 h_1 h_2 h_3 h_4 h_5 h_6 h_7 h_8 h_9 h_10 h_11 h_12 h_13 h_14 h_15 h_16 h_69 h_70 h_71 h_76 h_98 h_99 h_100 h_222 h_223 h_224 h_225 h_226 h_227 h_228 h_229 h_230 h_231 h_233 h_234 h_236 h_72 h_235; omega) | omega) (by first | (clear ha2 hq0 hq1 hq2 hq3 hq4 hq5 h_1 h_2 h_3 h_4 h_5 h_6 h_7 h_8 h_9 h_10 h_11 h_12 h_13 h_14 h_15 h_16 h_69 h_70 h_71 h_76 h_98 h_99 h_100 h_222 h_223 h_224 h_225 h_226 h_227 h_228 h_229 h_230 h_231 h_233 h_234 h_236 h_72 h_235; omega) | omega) (by first | (clear ha2 hq0 hq1 hq2 hq3 hq4 hq5 h_1 h_2 h_3 h_4 h_5 h_6 h_7 h_8 h_9 h_10 h_11 h_12 h_13 h_14 h_15 h_16 h_69 h_70 h_71 h_76 h_98 h_99 h_100 h_222 h_223 h_224 h_225 h_226 h_227 h_228 h_229 h_230 h_231 h_233 h_234 h_236 h_72 h_235; omega) | omega) (by first | (clear ha2 hq0 hq1 hq2 hq4 hq5 h_1 h_2 h_3 h_4 h_5 h_6 h_7 h_8 h_9 h_10 h_11 h_12 h_13 h_14 h_15 h_69 h_71 h_76 h_98 h_99 h_100 h_222 h_223 h_224 h_225 h_226 h_227 h_228 h_229 h_230 h_231 h_233 h_234 h_236 h_72 h_235; omega) | omega) (by first | (clear ha2 hq0 hq1 hq2 hq3 hq4 hq5 h_1 h_2 h_3 h_4 h_5 h_6 h_7 h_8 h_9 h_10 h_11 h_12 h_13 h_14 h_15 h_16 h_69 h_70 h_71 h_98 h_99 h_100 h_222 h_223 h_224 h_225 h_226 h_227 h_228 h_229 h_230 h_231 h_233 h_234 h_236 h_72 h_235; omega) | omega) (by first | (clear ha2 hq0 hq1 hq2 hq3 hq4 h_1 h_2 h_3 h_4 h_5 h_6 h_7 h_8 h_9 h_10 h_11 h_12 h_13 h_14 h_15 h_16 h_69 h_70 h_71 h_76 h_98 h_99 h_100 h_222 h_223 h_224 h_225 h_226 h_227 h_228 h_229 h_230 h_231 h_233 h_234 h_236 h_72 h_235; omega) | omega) ((hid kn_249)) (((up_n (by decide)).trans (hid kn_250))) ((hid kn_93)) ((hid kn_251)) ((hz_77)) ((hid kn_252)) (((up_n (by decide)).trans (hid kn_254))) (((up_n (by decide)).trans (hid kn_256))) (fun j => ((hF_75 2 j (fun h => absurd h.1 (nn rfl))).trans (hFm 2 j (fun q => q.elim (fun h => absurd h.1 (nn rfl)) (fun q => q.elim (fun h => absurd h.1 (nn rfl)) (fun q => q.elim (fun h => absurd h.1 (nn rfl)) (fun q => q.elim (fun h => absurd h.1 (pn hA rfl rfl)) (fun h => absurd h (pn hA rfl rfl)))))))).trans (hF j)) (fun j => ((up_c (nn rfl)).trans ((hF_244 43 j (fun h => absurd h.1 (nn rfl))).trans ((hF_239 43 j (fun h => absurd h.1 (nn rfl))).trans (hFc 43 j (fun q => q.elim (fun h => absurd h.1 (nn rfl)) (fun q => q.elim (fun h => absurd h.1 (nn rfl)) (fun q => q.elim (fun h => absurd h.1 (nn rfl)) (fun q => q.elim (fun h => absurd h.1 (nn rfl)) (fun q => q.elim (fun h => absurd h.1 (nn rfl)) (fun q => q.elim (fun h => absurd h (nn rfl)) (fun h => absurd h (nn rfl)))))))))))).trans (hH j)) hU (rt_i1 ⟨by first | (clear ha2 hq0 hq1 hq2 hq3 hq4 hq5 h_1 h_2 h_3 h_4 h_5 h_6 h_7 h_8 h_9 h_10 h_11 h_12 h_13 h_14 h_15 h_16 h_69 h_70 h_71 h_76 h_98 h_99 h_100 h_222 h_223 h_224 h_225 h_226 h_227 h_228 h_229 h_230 h_231 h_233 h_234 h_236 h_262 h_72 h_235; omega) | omega, by first | (clear ha2 hq0 hq1 hq2 hq3 hq4 hq5 h_1 h_2 h_3 h_4 h_5 h_6 h_7 h_8 h_9 h_10 h_11 h_12 h_13 h_14 h_15 h_16 h_69 h_70 h_71 h_76 h_98 h_99 h_100 h_222 h_223 h_224 h_225 h_226 h_227 h_228 h_229 h_230 h_231 h_233 h_234 h_236 h_262 h_72 h_235; omega) | omega, by first | (clear ha2 hq0 hq1 hq2 hq3 hq4 hq5 h_1 h_2 h_3 h_4 h_5 h_6 h_7 h_8 h_9 h_10 h_11 h_12 h_13 h_14 h_15 h_16 h_69 h_70 h_71 h_76 h_98 h_99 h_100 h_222 h_223 h_224 h_225 h_226 h_227 h_228 h_229 h_230 h_231 h_233 h_234 h_236 h_262 h_72 h_235; omega) | omega, by first | (clear ha2 hq0 hq1 hq2 hq3 hq4 hq5 h_1 h_2 h_3 h_4 h_5 h_6 h_7 h_8 h_9 h_10 h_11 h_12 h_13 h_14 h_15 h_16 h_69 h_70 h_71 h_76 h_98 h_99 h_100 h_222 h_223 h_224 h_225 h_226 h_227 h_228 h_229 h_230 h_231 h_233 h_234 h_236 h_262 h_72 h_235; omega) | omega⟩) (ce_le hA_266 (by omega)) H13 hG_97 (fun c_267 hI_268 hF_269 hR_271 h_272 h_273 hA_274 => ?_))
                refine bk_inl ?_
                have h_275 := ir_41_29 hI_268
                have h_276 := ir_41_7 hI_268
                refine q_aload_n rfl rfl ?_
                refine q_iload_n rfl rfl ?_
                refine q_iconst rfl ?_
                refine v_cv rfl rfl rfl rfl (by decide) ⟨⟨rfl, rfl⟩, by decide, rfl⟩ (Nat.le_of_ble_eq_true rfl) (Nat.le_of_ble_eq_true rfl) ?_
                refine q_aload_n rfl rfl ?_
                refine v_cv rfl rfl rfl rfl (by decide) ⟨⟨rfl, rfl⟩, by decide, rfl⟩ (Nat.le_of_ble_eq_true rfl) (Nat.le_of_ble_eq_true rfl) ?_
                refine q_aload_n rfl rfl ?_
                have h_277 := ir_41_5 hI_268
                have h_278 := ir_41_4 hI_268
                have h_279 := ir_41_6 hI_268
                have h_280 := rt_bad hR_271 (by omega)
                have hrb_hR_271 := rt_bad hR_271 (by omega)
                refine v_gi (z := 5) (v := c_94 1 5) rfl rfl rfl (by decide) rfl rfl hrb_hR_271.2.1 ?_
                refine q_iconst rfl ?_
                refine v_ic_ne_t (t := 12) rfl (by decide) ⟨by first | (clear ha2 hq0 hq1 hq2 hq3 hq4 hq5 h_1 h_2 h_3 h_4 h_5 h_6 h_7 h_8 h_9 h_10 h_11 h_12 h_13 h_14 h_15 h_16 h_69 h_70 h_71 h_76 h_98 h_99 h_100 h_222 h_223 h_224 h_225 h_226 h_227 h_228 h_229 h_230 h_231 h_233 h_234 h_236 h_262 h_275 h_276 h_273 h_277 h_278 h_279 h_72 h_235 h_272; omega) | omega, ⟨(Int.le_trans (by decide) h_227.1), (Int.le_trans h_227.2 (by decide))⟩, by decide, by decide⟩ ?_
                refine q_iconst rfl ?_
                refine v_zret rfl rfl (by decide) ?_
                refine bk_inl ?_
                refine v_if_ne_f (t := 8) rfl (by decide) (by decide) ?_
                refine q_vret rfl rfl ?_
                refine bk_inl ?_
                refine q_goto (t := 4) rfl (by decide) ?_
                refine q_aload_n rfl rfl ?_
                refine v_cv rfl rfl rfl rfl (by decide) ⟨⟨rfl, rfl⟩, by decide, rfl⟩ (Nat.le_of_ble_eq_true rfl) (Nat.le_of_ble_eq_true rfl) ?_
                refine q_aload_n rfl rfl ?_
                refine v_gi (z := 5) (v := c_94 1 5) rfl rfl rfl (by decide) rfl rfl hrb_hR_271.2.1 ?_
                refine q_iconst rfl ?_
                refine v_ic_ne_t (t := 12) rfl (by decide) ⟨by first | (clear ha2 hq0 hq1 hq2 hq3 hq4 hq5 h_1 h_2 h_3 h_4 h_5 h_6 h_7 h_8 h_9 h_10 h_11 h_12 h_13 h_14 h_15 h_16 h_69 h_70 h_71 h_76 h_98 h_99 h_100 h_222 h_223 h_224 h_225 h_226 h_227 h_228 h_229 h_230 h_231 h_233 h_234 h_236 h_262 h_275 h_276 h_273 h_277 h_278 h_279 h_72 h_235 h_272; omega) | omega, ⟨(Int.le_trans (by decide) h_227.1), (Int.le_trans h_227.2 (by decide))⟩, by decide, by decide⟩ ?_
                refine q_iconst rfl ?_
                refine v_zret rfl rfl (by decide) ?_
                refine bk_inl ?_
                refine v_if_eq_t (t := 90) rfl (by decide) (by decide) ?_
                refine q_vret rfl rfl ?_
                have h_281 : c_267 41 5 = c_94 1 5 := hrb_hR_271.2.1
                have h_282 : c_267 41 6 = c_94 1 4 := hrb_hR_271.2.2.2
                exact K c_267  hI_268 (fun a j hm => (hF_269 a j (fun q => q.elim (fun h => hm (Or.inl h)) (fun q => q.elim (fun h => hm (Or.inr (Or.inl h))) (fun q => q.elim (fun h => hm (Or.inr (Or.inr (Or.inl h)))) (fun q => q.elim (fun h => hm (Or.inr (Or.inr (Or.inr (Or.inl h))))) (fun q => q.elim (fun h => hm (Or.inr (Or.inr (Or.inr (Or.inr (Or.inl h)))))) (fun q => q.elim (fun h => hm (Or.inr (Or.inr (Or.inr (Or.inr (Or.inr (Or.inl h))))))) (fun h => hm (Or.inr (Or.inr (Or.inr (Or.inr (Or.inr (Or.inr h)))))))))))))).trans ((up_b (Decidable.or_iff_not_imp_left.mpr (fun h1 h2 => hm (Or.inl ⟨Decidable.not_not.mp h1, h2⟩)))).trans ((hF_244 a j (fun h => hm (Or.inl h))).trans ((hF_239 a j (fun h => hm (Or.inl h))).trans (hFc a j (fun q => q.elim (fun h => hm (Or.inl h)) (fun q => q.elim (fun h => hm (Or.inr (Or.inl h))) (fun q => q.elim (fun h => hm (Or.inr (Or.inr (Or.inl h)))) (fun q => q.elim (fun h => hm (Or.inr (Or.inr (Or.inr (Or.inl h))))) (fun q => q.elim (fun h => hm (Or.inr (Or.inr (Or.inr (Or.inr (Or.inl h)))))) (fun q => q.elim (fun h => hm (Or.inr (Or.inr (Or.inr (Or.inr (Or.inr (Or.inl h))))))) (fun h => hm (Or.inr (Or.inr (Or.inr (Or.inr (Or.inr (Or.inr h)))))))))))))))))) (rt_i2 ⟨⟨by first | (clear ha2 hq0 hq1 hq2 hq3 hq4 hq5 h_1 h_2 h_3 h_4 h_5 h_6 h_7 h_8 h_9 h_10 h_11 h_12 h_13 h_14 h_15 h_16 h_69 h_70 h_71 h_76 h_98 h_99 h_100 h_222 h_224 h_225 h_226 h_227 h_228 h_229 h_230 h_231 h_233 h_234 h_236 h_262 h_275 h_276 h_273 h_277 h_278 h_279 h_72 h_235 h_272; omega) | omega, by first | (clear ha2 hq0 hq1 hq2 hq3 hq4 hq5 h_1 h_2 h_3 h_4 h_5 h_6 h_7 h_8 h_9 h_10 h_11 h_12 h_13 h_14 h_15 h_16 h_69 h_70 h_71 h_76 h_98 h_99 h_100 h_223 h_224 h_225 h_226 h_227 h_228 h_229 h_230 h_231 h_233 h_234 h_236 h_262 h_275 h_276 h_273 h_277 h_278 h_279 h_280 h_72 h_235 h_272; omega) | omega⟩, by first | (clear ha2 hq0 hq1 hq2 hq3 hq4 hq5 h_1 h_2 h_3 h_4 h_5 h_6 h_7 h_8 h_9 h_10 h_11 h_12 h_13 h_14 h_15 h_16 h_69 h_70 h_71 h_76 h_98 h_99 h_100 h_222 h_223 h_224 h_225 h_226 h_227 h_228 h_230 h_231 h_233 h_234 h_236 h_262 h_275 h_276 h_273 h_277 h_278 h_279 h_280 h_72 h_235 h_272; omega) | omega, by first | (clear ha2 hq0 hq1 hq2 hq3 hq4 hq5 h_1 h_2 h_3 h_4 h_5 h_6 h_7 h_8 h_9 h_10 h_11 h_12 h_13 h_14 h_15 h_16 h_69 h_70 h_71 h_76 h_98 h_99 h_100 h_222 h_223 h_224 h_225 h_226 h_227 h_228 h_230 h_231 h_233 h_234 h_236 h_262 h_275 h_276 h_273 h_277 h_278 h_279 h_72 h_235 h_272; omega) | omega, by first | (clear ha2 hq0 hq1 hq2 hq3 hq4 hq5 h_1 h_2 h_3 h_4 h_5 h_6 h_7 h_8 h_9 h_10 h_11 h_12 h_13 h_14 h_15 h_16 h_69 h_70 h_71 h_76 h_98 h_99 h_100 h_222 h_224 h_225 h_226 h_227 h_228 h_229 h_230 h_231 h_233 h_234 h_236 h_262 h_275 h_276 h_273 h_277 h_278 h_279 h_280 h_72 h_235 h_272; omega) | omega⟩) (Or.inr (Or.inl (by first | (clear ha2 hq0 hq1 hq2 hq3 hq4 hq5 h_1 h_2 h_3 h_4 h_5 h_6 h_7 h_8 h_9 h_10 h_11 h_12 h_13 h_14 h_15 h_16 h_69 h_70 h_71 h_76 h_98 h_99 h_100 h_222 h_224 h_225 h_226 h_227 h_228 h_229 h_230 h_231 h_233 h_234 h_236 h_262 h_275 h_276 h_273 h_277 h_278 h_279 h_72 h_235 h_272; omega) | omega))) (by first | (clear ha2 hq0 hq1 hq2 hq3 hq4 hq5 h_1 h_2 h_3 h_4 h_5 h_6 h_7 h_8 h_9 h_10 h_11 h_12 h_13 h_14 h_15 h_16 h_69 h_70 h_71 h_76 h_98 h_99 h_100 h_222 h_223 h_224 h_225 h_226 h_227 h_228 h_229 h_230 h_231 h_233 h_234 h_236 h_262 h_275 h_276 h_277 h_278 h_279 h_280 h_72 h_235 h_272; omega) | omega) (fun hz => absurd hz (by omega))
          · refine v_ic_ge_f (t := 32) rfl (by decide) ⟨(Int.le_trans (by decide) h_98.1), (Int.not_le.mp h_99), by decide⟩ ?_
            refine q_aload_n rfl rfl ?_
            refine v_gr (t := (A + 9)) rfl rfl (ck_p7 hA) (a68 hA rfl) rfl ?_
            refine q_aload_n rfl rfl ?_
            refine v_gi (z := 5) (v := c_94 (A + 7) 5) rfl rfl (ck_p7 hA) (a68 hA rfl) rfl rfl rfl ?_
            refine q_iload_n rfl rfl ?_
            refine v_is rfl (ck_p9 hA) (a68 hA rfl) (by decide) (by omega) ?_
            refine q_aload_n rfl rfl ?_
            refine q_dup rfl rfl ?_
            refine v_gi (z := 5) (v := c_94 (A + 7) 5) rfl rfl (ck_p7 hA) (a68 hA rfl) rfl rfl (up_c (pp rfl)) ?_
            refine q_iconst rfl ?_
            refine v_iadd (v := c_94 (A + 7) 5 + 1) rfl rfl ?_
            refine v_pi (z := 5) rfl rfl (ck_p7 hA) (a68 hA rfl) rfl rfl rfl (by decide) ?_
            refine q_vret rfl rfl ?_
            refine bk_inl ?_
            refine v_iinc (v := v + 1) rfl rfl (by decide) rfl ?_
            refine q_goto (t := 8) rfl (by decide) ?_
            have h_283 := ir_1_4 hI_95
            by_cases h_284 : c_94 1 4 = 0
            · skip
              have hI_285 := iw_lg (j := c_94 (A + 7) 5) (v := 2002) hI_95 (lgp (k := 9) hA (by decide)) ⟨by decide, by decide⟩ (by omega)
              have hI_286 := iw_p7_5 (v := c_94 (A + 7) 5 + 1) hI_285 hA ⟨by first | exact rgp_l h_98.1 (by decide) | omega, by first | (clear ha2 hq0 hq1 hq2 hq3 hq4 hq5 h_1 h_2 h_3 h_4 h_5 h_6 h_7 h_8 h_9 h_10 h_11 h_12 h_13 h_14 h_15 h_16 h_69 h_70 h_71 h_76 h_98 h_283 h_284 h_72; omega) | omega⟩
              refine Wp_ls [(0, .ref (A + 7)), (1, .ref 1), (2, vi a2), (3, vi (v + 1))] (lsub_cons rfl (lsub_cons rfl (lsub_cons rfl (lsub_cons rfl lsub_nil)))) ?_
              refine gh_stop ((s_12_l (sc := sc) (d := dh + 22) (c := (up (up c_94 (A + 9) (c_94 (A + 7) 5) 2002) (A + 7) 5 (c_94 (A + 7) 5 + 1))) (a2 := a2) (Z := fun _ => True) hI_286 hA ha2 (fun c9 Z9 h hI9 K9 => r_13 (d := dh + 1) hI9 hA ⟨by omega, h⟩ K9) (fun _ _ _ => trivial) 304) (up (up c_94 (A + 9) (c_94 (A + 7) 5) 2002) (A + 7) 5 (c_94 (A + 7) 5 + 1)) (v + 1) hI_286 (fun a j hm => rfl) ⟨by omega, by omega⟩ (by omega)) (fun hG_287 => ?_)
              refine q_aload_n rfl rfl ?_
              refine v_cv rfl rfl rfl rfl (by decide) ⟨⟨rfl, rfl⟩, by decide, rfl⟩ (Nat.le_of_ble_eq_true rfl) (Nat.le_of_ble_eq_true rfl) ?_
              refine q_aload_n rfl rfl ?_
              refine v_gi (z := 5) (v := (-1)) rfl rfl rfl (by decide) rfl rfl (hc_1) ?_
              refine q_iconst rfl ?_
              refine v_ic_ne_f (t := 12) rfl (by decide) (by decide) ?_
              refine q_iconst rfl ?_
              refine q_goto (t := 13) rfl (by decide) ?_
              refine v_zret rfl rfl (by decide) ?_
              refine bk_inl ?_
              refine v_if_eq_f (t := 90) rfl (by decide) (by decide) ?_
              refine q_aload_n rfl rfl ?_
              have kn_288 : Hid (c2 41 3 = e1) := (hFc 41 3 (fun q => q.elim (fun h => absurd h.2 (ni rfl)) (fun q => q.elim (fun h => absurd h.2 (ni rfl)) (fun q => q.elim (fun h => absurd h.2 (ni rfl)) (fun q => q.elim (fun h => absurd h.2 (ni rfl)) (fun q => q.elim (fun h => absurd h.2 (ni rfl)) (fun q => q.elim (fun h => absurd h (nn rfl)) (fun h => absurd h (nn rfl))))))))).trans (hr_e1)
              have h_289 : -2147483648 ≤ (H (nx F e1 a)) ∧ (H (nx F e1 a)) ≤ 2147483647 := by rw [← hH (nx F e1 a)]; exact ir_43 hI (nx F e1 a)
              have h_290 := hU (nx F e1 a) (by omega) (by omega)
              have h_291 := hb_or (b := H) (e := e1) (r := (nx F e1 a))
              have h_292 := hb_bd (b := H) (e := e1) (r := (nx F e1 a)) (lo := -2147483648) (hi := 2147483647) h_289 (by decide)
              refine v_cv rfl rfl rfl rfl (by decide) ⟨⟨rfl, rfl⟩, by decide, rfl⟩ (Nat.le_of_ble_eq_true rfl) (Nat.le_of_ble_eq_true rfl) (f_154 (e1 := e1) (a9 := a) (B := H) (r8 := (nx F e1 a)) (r := (hb H e1 (nx F e1 a))) hI2 ((hid kn_288)) ((hr_a)) (fun j => (hFc 43 j (fun q => q.elim (fun h => absurd h.1 (nn rfl)) (fun q => q.elim (fun h => absurd h.1 (nn rfl)) (fun q => q.elim (fun h => absurd h.1 (nn rfl)) (fun q => q.elim (fun h => absurd h.1 (nn rfl)) (fun q => q.elim (fun h => absurd h.1 (nn rfl)) (fun q => q.elim (fun h => absurd h (nn rfl)) (fun h => absurd h (nn rfl))))))))).trans (hH j)) ((nx_tr hU (by first | (clear ha2 hq0 hq1 hq2 hq3 hq4 hq5 h_1 h_2 h_3 h_4 h_5 h_6 h_7 h_8 h_9 h_10 h_11 h_12 h_13 h_14 h_15 h_16 h_69 h_70 h_71 h_76 h_98 h_283 h_284 h_72; omega) | omega) (by first | (clear ha2 hq0 hq1 hq2 hq3 hq4 h_1 h_2 h_3 h_4 h_5 h_6 h_7 h_8 h_9 h_10 h_11 h_12 h_13 h_14 h_15 h_16 h_69 h_70 h_71 h_76 h_98 h_283 h_284 h_72; omega) | omega)).trans (rfl)) rfl (fun c_293 hI_294 hF_295 h_296 => ?_))
              refine bk_inl ?_
              refine v_bip rfl (by decide) ?_
              refine v_ic_eq_t (t := 38) rfl (by decide) (by first | (clear ha2 hq0 hq1 hq2 hq3 h_3 h_4 h_5 h_6 h_7 h_8 h_9 h_10 h_11 h_12 h_13 h_14 h_15 h_69 h_71 h_98 h_283 h_284; omega) | omega) ?_
              refine q_aload_n rfl rfl ?_
              have kn_297 : Hid (c_293 41 3 = e1) := (hF_295 41 3 (fun h => absurd h.2 (ni rfl))).trans (hid kn_288)
              refine v_cv rfl rfl rfl rfl (by decide) ⟨⟨rfl, rfl⟩, by decide, rfl⟩ (Nat.le_of_ble_eq_true rfl) (Nat.le_of_ble_eq_true rfl) (f_154 (e1 := e1) (a9 := (nx F e1 a)) (B := H) (r8 := (nx F e1 a)) (r := (hb H e1 (nx F e1 a))) hI_294 ((hid kn_297)) ((h_296)) (fun j => ((hF_295 43 j (fun h => absurd h.1 (nn rfl))).trans (hFc 43 j (fun q => q.elim (fun h => absurd h.1 (nn rfl)) (fun q => q.elim (fun h => absurd h.1 (nn rfl)) (fun q => q.elim (fun h => absurd h.1 (nn rfl)) (fun q => q.elim (fun h => absurd h.1 (nn rfl)) (fun q => q.elim (fun h => absurd h.1 (nn rfl)) (fun q => q.elim (fun h => absurd h (nn rfl)) (fun h => absurd h (nn rfl)))))))))).trans (hH j)) ((nx_tr hU (by first | (clear ha2 hq0 hq1 hq2 hq3 hq4 hq5 h_1 h_2 h_3 h_4 h_5 h_6 h_7 h_8 h_9 h_10 h_11 h_12 h_13 h_14 h_15 h_16 h_69 h_71 h_76 h_98 h_283 h_284 h_289 h_290 h_292 h_72 h_291; omega) | omega) (by first | (clear ha2 hq0 hq1 hq2 hq3 hq4 h_1 h_2 h_3 h_4 h_5 h_6 h_7 h_8 h_9 h_10 h_11 h_12 h_13 h_14 h_15 h_16 h_69 h_70 h_71 h_76 h_98 h_283 h_284 h_289 h_290 h_292 h_72 h_291; omega) | omega)).trans ((nx_z (by omega)))) rfl (fun c_298 hI_299 hF_300 h_301 => ?_))
              refine bk_inl ?_
              refine v_bip rfl (by decide) ?_
              refine v_ic_ne_f (t := 51) rfl (by decide) (by first | (clear ha2 hq0 hq1 hq2 hq3 h_3 h_4 h_5 h_6 h_7 h_8 h_9 h_10 h_11 h_12 h_13 h_14 h_15 h_69 h_71 h_98 h_283 h_284; omega) | omega) ?_
              refine q_iconst rfl ?_
              refine q_goto (t := 66) rfl (by decide) ?_
              refine q_istore_n rfl (by decide) ?_
              refine q_aload_n rfl rfl ?_
              refine q_dup rfl rfl ?_
              refine v_gi (z := 4) (v := (nx F e1 a)) rfl rfl rfl (by decide) rfl rfl (h_301) ?_
              refine q_iconst rfl ?_
              refine v_iadd (v := (nx F e1 a) + 1) rfl rfl ?_
              refine v_pi (z := 4) rfl rfl rfl (by decide) rfl rfl rfl (by decide) ?_
              refine q_aload_n rfl rfl ?_
              have kn_302 : Hid (c_293 41 5 = (-1)) := (hF_295 41 5 (fun h => absurd h.2 (ni rfl))).trans (hc_1)
              have kn_303 : Hid (c_298 41 5 = (-1)) := (hF_300 41 5 (fun h => absurd h.2 (ni rfl))).trans (hid kn_302)
              have hI_304 := iw_41_4 (v := (nx F e1 a) + 1) hI_299 ⟨by first | exact rgp_l (rg_be h_70 (ha.1) ((rg_eq hg_e1 h_1).2)).1 (by decide) | omega, by first | exact rgp_h (rg_be h_70 (ha.1) ((rg_eq hg_e1 h_1).2)).2 (by decide) | omega⟩
              have kn_305 : Hid (c_73 1 1 = e1) := (hF_75 1 1 (fun h => absurd h.2 (ni rfl))).trans (hid kn_68)
              have kn_306 : Hid (c_298 41 3 = e1) := (hF_300 41 3 (fun h => absurd h.2 (ni rfl))).trans (hid kn_297)
              have kn_307 : Hid (c_73 1 5 = (-1)) := (hF_75 1 5 (fun h => absurd h.2 (ni rfl))).trans (hc_2)
              have kn_308 : Hid (c_73 (A + 7) 5 = nw) := (hF_75 (A + 7) 5 (fun h => absurd h.1 (np hA rfl rfl))).trans (hg_nw)
              have kn_309 : Hid (c_293 41 29 = nw) := (hF_295 41 29 (fun h => absurd h.2 (ni rfl))).trans (hr_nw)
              have kn_310 : Hid (c_298 41 29 = nw) := (hF_300 41 29 (fun h => absurd h.2 (ni rfl))).trans (hid kn_309)
              have kn_311 : Hid (c_293 41 7 = a2) := (hF_295 41 7 (fun h => absurd h.2 (ni rfl))).trans (hc_3)
              have kn_312 : Hid (c_298 41 7 = a2) := (hF_300 41 7 (fun h => absurd h.2 (ni rfl))).trans (hid kn_311)
              have h_313 : c_73 1 4 = 0 := (hid kn_93)
              have h_314 : c_73 1 2 = (nx F e1 a) + 1 := (hz_77)
              have h_315 : c_73 1 5 = (-1) := (hid kn_307)
              have h_316 : (up c_298 41 4 ((nx F e1 a) + 1)) 41 5 = (-1) := ((up_n (by decide)).trans (hid kn_303))
              have h_317 : (up c_298 41 4 ((nx F e1 a) + 1)) 41 4 = (nx F e1 a) + 1 := (up_e rfl)
              have h_318 := ir_41_6 hI2
              have kn_319 : Hid (c_293 41 6 = c2 41 6) := hF_295 41 6 (fun h => absurd h.2 (ni rfl))
              have kn_320 : Hid (c_298 41 6 = c2 41 6) := (hF_300 41 6 (fun h => absurd h.2 (ni rfl))).trans (hid kn_319)
              have h_321 : (up c_298 41 4 ((nx F e1 a) + 1)) 41 6 = c2 41 6 := ((up_n (by decide)).trans (hid kn_320))
              have hA_322 : Ce nw (c_73 (A + 9)) ((up c_298 41 4 ((nx F e1 a) + 1)) 50) ((up c_298 41 4 ((nx F e1 a) + 1)) 51) := ce_fr hrl0 (fun j => hF_75 (A + 9) j (fun h => absurd h.1 (np hA rfl rfl))) (fun j => (up_c (nn rfl)).trans ((hF_300 50 j (fun h => absurd h.1 (nn rfl))).trans (hF_295 50 j (fun h => absurd h.1 (nn rfl))))) (fun j => (up_c (nn rfl)).trans ((hF_300 51 j (fun h => absurd h.1 (nn rfl))).trans (hF_295 51 j (fun h => absurd h.1 (nn rfl)))))
              refine v_cv rfl rfl rfl rfl (by decide) ⟨⟨rfl, rfl⟩, by decide, rfl⟩ (Nat.le_of_ble_eq_true rfl) (Nat.le_of_ble_eq_true rfl) (L_14 (m := c_73) (a2 := a2) (e1 := e1) (f0 := 0) (g0 := (-1)) (p0 := (nx F e1 a) + 1) (n0 := nw) (o0 := a2) (F := F) (H := H) hI_304 hI_74 hI_95 hA (show 0 ≤ a2 ∧ a2 ≤ 6 from ha2) (by first | (clear ha2 hq0 hq1 hq2 hq3 hq4 hq5 h_1 h_2 h_3 h_4 h_5 h_6 h_7 h_8 h_9 h_10 h_11 h_12 h_13 h_14 h_15 h_16 h_69 h_70 h_71 h_76 h_98 h_283 h_284 h_289 h_290 h_292 h_72 h_291; omega) | omega) (by first | (clear ha2 hq0 hq1 hq2 hq3 hq4 hq5 h_1 h_2 h_3 h_4 h_5 h_6 h_7 h_8 h_9 h_10 h_11 h_12 h_13 h_14 h_15 h_16 h_69 h_70 h_71 h_76 h_98 h_283 h_284 h_289 h_290 h_292 h_72 h_291; omega) | omega) (by first | (clear ha2 hq0 hq1 hq2 hq3 hq4 hq5 h_1 h_2 h_3 h_4 h_5 h_6 h_7 h_8 h_9 h_10 h_11 h_12 h_13 h_14 h_15 h_16 h_69 h_70 h_71 h_76 h_98 h_283 h_284 h_289 h_290 h_292 h_72 h_291; omega) | omega) (by first | (clear ha2 hq0 hq1 hq2 hq4 hq5 h_1 h_2 h_3 h_4 h_5 h_6 h_7 h_8 h_9 h_10 h_11 h_12 h_13 h_14 h_15 h_69 h_71 h_76 h_98 h_283 h_284 h_289 h_290 h_292 h_72 h_291; omega) | omega) (by first | (clear ha2 hq0 hq1 hq2 hq3 hq4 hq5 h_1 h_2 h_3 h_4 h_5 h_6 h_7 h_8 h_9 h_10 h_11 h_12 h_13 h_14 h_15 h_16 h_69 h_70 h_71 h_98 h_283 h_284 h_289 h_290 h_292 h_72 h_291; omega) | omega) (by first | (clear ha2 hq0 hq1 hq2 hq3 hq4 h_1 h_2 h_3 h_4 h_5 h_6 h_7 h_8 h_9 h_10 h_11 h_12 h_13 h_14 h_15 h_16 h_69 h_70 h_71 h_76 h_98 h_283 h_284 h_289 h_290 h_292 h_72 h_291; omega) | omega) ((hid kn_305)) (((up_n (by decide)).trans (hid kn_306))) ((hid kn_93)) ((hid kn_307)) ((hz_77)) ((hid kn_308)) (((up_n (by decide)).trans (hid kn_310))) (((up_n (by decide)).trans (hid kn_312))) (fun j => ((hF_75 2 j (fun h => absurd h.1 (nn rfl))).trans (hFm 2 j (fun q => q.elim (fun h => absurd h.1 (nn rfl)) (fun q => q.elim (fun h => absurd h.1 (nn rfl)) (fun q => q.elim (fun h => absurd h.1 (nn rfl)) (fun q => q.elim (fun h => absurd h.1 (pn hA rfl rfl)) (fun h => absurd h (pn hA rfl rfl)))))))).trans (hF j)) (fun j => ((up_c (nn rfl)).trans ((hF_300 43 j (fun h => absurd h.1 (nn rfl))).trans ((hF_295 43 j (fun h => absurd h.1 (nn rfl))).trans (hFc 43 j (fun q => q.elim (fun h => absurd h.1 (nn rfl)) (fun q => q.elim (fun h => absurd h.1 (nn rfl)) (fun q => q.elim (fun h => absurd h.1 (nn rfl)) (fun q => q.elim (fun h => absurd h.1 (nn rfl)) (fun q => q.elim (fun h => absurd h.1 (nn rfl)) (fun q => q.elim (fun h => absurd h (nn rfl)) (fun h => absurd h (nn rfl)))))))))))).trans (hH j)) hU (rt_i1 ⟨by first | (clear ha2 hq0 hq1 hq2 hq3 hq4 hq5 h_1 h_2 h_3 h_4 h_5 h_6 h_7 h_8 h_9 h_10 h_11 h_12 h_13 h_14 h_15 h_16 h_69 h_70 h_71 h_76 h_98 h_283 h_284 h_289 h_290 h_292 h_318 h_72 h_291; omega) | omega, by first | (clear ha2 hq0 hq1 hq2 hq3 hq4 hq5 h_1 h_2 h_3 h_4 h_5 h_6 h_7 h_8 h_9 h_10 h_11 h_12 h_13 h_14 h_15 h_16 h_69 h_70 h_71 h_76 h_98 h_283 h_284 h_289 h_290 h_292 h_318 h_72 h_291; omega) | omega, by first | (clear ha2 hq0 hq1 hq2 hq3 hq4 hq5 h_1 h_2 h_3 h_4 h_5 h_6 h_7 h_8 h_9 h_10 h_11 h_12 h_13 h_14 h_15 h_16 h_69 h_70 h_71 h_76 h_98 h_283 h_284 h_289 h_290 h_292 h_318 h_72 h_291; omega) | omega, by first | (clear ha2 hq0 hq1 hq2 hq3 hq4 hq5 h_1 h_2 h_3 h_4 h_5 h_6 h_7 h_8 h_9 h_10 h_11 h_12 h_13 h_14 h_15 h_16 h_69 h_70 h_71 h_76 h_98 h_283 h_284 h_289 h_290 h_292 h_318 h_72 h_291; omega) | omega⟩) (ce_le hA_322 (by omega)) H13 hG_97 (fun c_323 hI_324 hF_325 hR_327 h_328 h_329 hA_330 => ?_))
              refine bk_inl ?_
              have h_331 := ir_41_29 hI_324
              have h_332 := ir_1_2 hI_95
              have h_333 := ir_41_7 hI_324
              refine q_aload_n rfl rfl ?_
              refine q_iload_n rfl rfl ?_
              refine q_iconst rfl ?_
              refine v_cv rfl rfl rfl rfl (by decide) ⟨⟨rfl, rfl⟩, by decide, rfl⟩ (Nat.le_of_ble_eq_true rfl) (Nat.le_of_ble_eq_true rfl) ?_
              refine q_aload_n rfl rfl ?_
              refine v_cv rfl rfl rfl rfl (by decide) ⟨⟨rfl, rfl⟩, by decide, rfl⟩ (Nat.le_of_ble_eq_true rfl) (Nat.le_of_ble_eq_true rfl) ?_
              refine q_aload_n rfl rfl ?_
              have h_334 := ir_41_5 hI_324
              have h_335 := ir_1_5 hI_95
              have h_336 := ir_41_4 hI_324
              have h_337 := ir_41_6 hI_324
              have h_338 := rt_ok hR_327 (by omega)
              have hro_hR_327 := rt_ok hR_327 (by omega)
              refine v_gi (z := 5) (v := (-1)) rfl rfl rfl (by decide) rfl rfl hro_hR_327.2.1 ?_
              refine q_iconst rfl ?_
              refine v_ic_ne_f (t := 12) rfl (by decide) (by decide) ?_
              refine q_iconst rfl ?_
              refine q_goto (t := 13) rfl (by decide) ?_
              refine v_zret rfl rfl (by decide) ?_
              refine bk_inl ?_
              refine v_if_ne_t (t := 8) rfl (by decide) (by decide) ?_
              refine q_aload_n rfl rfl ?_
              refine v_gr (t := 50) rfl rfl rfl (by decide) rfl ?_
              refine q_aload_n rfl rfl ?_
              refine v_gi (z := 29) (v := c_323 41 29) rfl rfl rfl (by decide) rfl rfl rfl ?_
              refine q_iload_n rfl rfl ?_
              refine v_is rfl rfl (by decide) (by decide) (by omega) ?_
              refine q_aload_n rfl rfl ?_
              refine v_gr (t := 51) rfl rfl rfl (by decide) rfl ?_
              refine q_aload_n rfl rfl ?_
              refine v_gi (z := 29) (v := c_323 41 29) rfl rfl rfl (by decide) rfl rfl (up_c (nn rfl)) ?_
              refine q_iload_n rfl rfl ?_
              refine v_is rfl rfl (by decide) (by decide) (by omega) ?_
              refine q_aload_n rfl rfl ?_
              refine q_dup rfl rfl ?_
              refine v_gi (z := 29) (v := c_323 41 29) rfl rfl rfl (by decide) rfl rfl ((up_c (nn rfl)).trans (up_c (nn rfl))) ?_
              refine q_iconst rfl ?_
              refine v_iadd (v := c_323 41 29 + 1) rfl rfl ?_
              refine v_pi (z := 29) rfl rfl rfl (by decide) rfl rfl rfl (by decide) ?_
              refine q_vret rfl rfl ?_
              refine bk_inl ?_
              refine q_goto (t := 4) rfl (by decide) ?_
              have hI_339 := iw_50 (j := c_323 41 29) (v := 4) hI_324 ⟨by decide, by decide⟩
              have hI_340 := iw_51 (j := c_323 41 29) (v := 0) hI_339 ⟨by decide, by decide⟩
              have hI_341 := iw_41_29 (v := c_323 41 29 + 1) hI_340 ⟨by first | exact rgp_l h_331.1 (by decide) | omega, by first | (clear ha2 hq0 hq1 hq2 hq3 h_3 h_4 h_5 h_6 h_7 h_8 h_9 h_10 h_13 h_14 h_15 h_69 h_71 h_289 h_290 h_292 h_318 h_333 h_329 h_334 h_335 h_336 h_337; omega) | omega⟩
              refine Wp_ls [(0, .ref 41)] (lsub_cons rfl lsub_nil) ?_
              have hA_342 : Ce (c_323 41 29 + 1) ((up (up c_94 (A + 9) (c_94 (A + 7) 5) 2002) (A + 7) 5 (c_94 (A + 7) 5 + 1)) (A + 9)) ((up (up (up c_323 50 (c_323 41 29) 4) 51 (c_323 41 29) 0) 41 29 (c_323 41 29 + 1)) 50) ((up (up (up c_323 50 (c_323 41 29) 4) 51 (c_323 41 29) 0) 41 29 (c_323 41 29 + 1)) 51) := ce_w (i := c_94 (A + 7) 5) (v := 2002) (w := 4) (o := 0) (hA_330 (by omega)) (by omega) ((up_c (pp rfl)).trans (up_e rfl)) ((up_c (nn rfl)).trans ((up_c (nn rfl)).trans (up_e (by omega)))) ((up_c (nn rfl)).trans (up_e (by omega))) (fun j hj => (up_c (pp rfl)).trans (up_n hj)) (fun j hj => (up_c (nn rfl)).trans ((up_c (nn rfl)).trans (up_n (by omega)))) (fun j hj => (up_c (nn rfl)).trans ((up_n (by omega)).trans (up_c (nn rfl)))) (cr_i2 ⟨by decide, by decide, by decide, by decide⟩)
              have hA_343 : Ce (c_94 (A + 7) 5 + 1) ((up (up c_94 (A + 9) (c_94 (A + 7) 5) 2002) (A + 7) 5 (c_94 (A + 7) 5 + 1)) (A + 9)) ((up (up (up c_323 50 (c_323 41 29) 4) 51 (c_323 41 29) 0) 41 29 (c_323 41 29 + 1)) 50) ((up (up (up c_323 50 (c_323 41 29) 4) 51 (c_323 41 29) 0) 41 29 (c_323 41 29 + 1)) 51) := ce_le hA_342 (by omega)
              exact ih (up (up (up c_323 50 (c_323 41 29) 4) 51 (c_323 41 29) 0) 41 29 (c_323 41 29 + 1)) (up (up c_94 (A + 9) (c_94 (A + 7) 5) 2002) (A + 7) 5 (c_94 (A + 7) 5 + 1)) (v + 1) (c_94 1 2) (c_94 (A + 7) 5 + 1) hI_341 (fun a j hm => (up_b (Decidable.or_iff_not_imp_left.mpr (fun h1 h2 => hm (Or.inr (Or.inr (Or.inr (Or.inr (Or.inl ⟨Decidable.not_not.mp h1, h2⟩)))))))).trans ((up_b (Decidable.or_iff_not_imp_left.mpr (fun h1 h2 => hm (Or.inr (Or.inr (Or.inr (Or.inr (Or.inr (Or.inr (Decidable.not_not.mp h1)))))))))).trans ((up_b (Decidable.or_iff_not_imp_left.mpr (fun h1 h2 => hm (Or.inr (Or.inr (Or.inr (Or.inr (Or.inr (Or.inl (Decidable.not_not.mp h1)))))))))).trans ((hF_325 a j (fun q => q.elim (fun h => hm (Or.inl h)) (fun q => q.elim (fun h => hm (Or.inr (Or.inl h))) (fun q => q.elim (fun h => hm (Or.inr (Or.inr (Or.inl h)))) (fun q => q.elim (fun h => hm (Or.inr (Or.inr (Or.inr (Or.inl h))))) (fun q => q.elim (fun h => hm (Or.inr (Or.inr (Or.inr (Or.inr (Or.inl h)))))) (fun q => q.elim (fun h => hm (Or.inr (Or.inr (Or.inr (Or.inr (Or.inr (Or.inl h))))))) (fun h => hm (Or.inr (Or.inr (Or.inr (Or.inr (Or.inr (Or.inr h)))))))))))))).trans ((up_b (Decidable.or_iff_not_imp_left.mpr (fun h1 h2 => hm (Or.inl ⟨Decidable.not_not.mp h1, h2⟩)))).trans ((hF_300 a j (fun h => hm (Or.inl h))).trans ((hF_295 a j (fun h => hm (Or.inl h))).trans (hFc a j (fun q => q.elim (fun h => hm (Or.inl h)) (fun q => q.elim (fun h => hm (Or.inr (Or.inl h))) (fun q => q.elim (fun h => hm (Or.inr (Or.inr (Or.inl h)))) (fun q => q.elim (fun h => hm (Or.inr (Or.inr (Or.inr (Or.inl h))))) (fun q => q.elim (fun h => hm (Or.inr (Or.inr (Or.inr (Or.inr (Or.inl h)))))) (fun q => q.elim (fun h => hm (Or.inr (Or.inr (Or.inr (Or.inr (Or.inr (Or.inl h))))))) (fun h => hm (Or.inr (Or.inr (Or.inr (Or.inr (Or.inr (Or.inr h))))))))))))))))))))) hI_286 (fun a j hm => (up_b (Decidable.or_iff_not_imp_left.mpr (fun h1 h2 => hm (Or.inr (Or.inr (Or.inr (Or.inl ⟨Decidable.not_not.mp h1, h2⟩))))))).trans ((up_b (Decidable.or_iff_not_imp_left.mpr (fun h1 h2 => hm (Or.inr (Or.inr (Or.inr (Or.inr (Decidable.not_not.mp h1)))))))).trans ((hF_96 a j (fun q => q.elim (fun h => hm (Or.inl h)) (fun q => q.elim (fun h => hm (Or.inr (Or.inl h))) (fun q => q.elim (fun h => hm (Or.inr (Or.inr (Or.inl h)))) (fun q => q.elim (fun h => hm (Or.inr (Or.inr (Or.inr (Or.inl h))))) (fun h => hm (Or.inr (Or.inr (Or.inr (Or.inr h)))))))))).trans ((hF_75 a j (fun h => hm (Or.inl h))).trans (hFm a j (fun q => q.elim (fun h => hm (Or.inl h)) (fun q => q.elim (fun h => hm (Or.inr (Or.inl h))) (fun q => q.elim (fun h => hm (Or.inr (Or.inr (Or.inl h)))) (fun q => q.elim (fun h => hm (Or.inr (Or.inr (Or.inr (Or.inl h))))) (fun h => hm (Or.inr (Or.inr (Or.inr (Or.inr h)))))))))))))) ⟨by omega, by omega⟩ ⟨by omega, by omega⟩ ⟨by omega, by omega⟩ (((up_c (pn hA rfl rfl)).trans (up_c (pn hA rfl rfl)))) (((((up_n (by decide)).trans ((up_c (nn rfl)).trans (up_c (nn rfl))))).trans (hro_hR_327.2.2.1))) ((up_e rfl)) ((show _ = c_323 41 29 + 1 from (up_e rfl)).trans (by omega)) ((show _ = c_94 1 4 from ((up_c (pn hA rfl rfl)).trans (up_c (pn hA rfl rfl)))).trans (by omega)) (((((up_n (by decide)).trans ((up_c (nn rfl)).trans (up_c (nn rfl))))).trans (hro_hR_327.2.1))) ((show _ = c_94 1 5 from ((up_c (pn hA rfl rfl)).trans (up_c (pn hA rfl rfl)))).trans (by omega)) ((show _ = c_323 41 7 from ((up_n (by decide)).trans ((up_c (nn rfl)).trans (up_c (nn rfl))))).trans (by omega)) (by first | (clear hq0 hq1 h_3 h_4 h_8 h_13 h_14 h_15 h_69 h_71 h_289 h_290 h_292 h_318 h_333 h_337; omega) | omega) (by first | (clear hq0 hq1 h_3 h_4 h_8 h_13 h_14 h_15 h_69 h_71 h_289 h_290 h_292 h_318 h_333 h_337; omega) | omega) (by first | (clear ha2 hq0 hq1 hq2 hq3 h_3 h_4 h_5 h_6 h_7 h_8 h_9 h_10 h_11 h_12 h_13 h_14 h_15 h_69 h_71 h_98 h_283 h_284 h_289 h_290 h_292 h_318 h_331 h_333 h_329 h_334 h_335 h_336 h_337; omega) | omega) (by first | (clear hq0 hq1 h_3 h_4 h_8 h_13 h_14 h_15 h_69 h_71 h_289 h_290 h_292 h_318 h_333 h_337; omega) | omega) (ce_le hA_343 (by omega)) hG_287 (by omega)
            · skip
              refine q_iload_n rfl rfl ?_
              refine v_sip rfl (by decide) ?_
              by_cases h_344 : v + 1 ≥ 150
              · refine v_ic_ge_t (t := 59) rfl (by decide) ⟨by decide, h_344, by first | exact rgp_h hv.2 (by decide) | omega⟩ ?_
                refine q_vret rfl rfl ?_
                have hI_345 := iw_lg (j := c_94 (A + 7) 5) (v := 2002) hI_95 (lgp (k := 9) hA (by decide)) ⟨by decide, by decide⟩ (by omega)
                have hI_346 := iw_p7_5 (v := c_94 (A + 7) 5 + 1) hI_345 hA ⟨by first | exact rgp_l h_98.1 (by decide) | omega, by first | (clear ha2 hq0 hq1 hq2 hq3 hq4 hq5 h_1 h_2 h_3 h_4 h_5 h_6 h_7 h_8 h_9 h_10 h_11 h_12 h_13 h_14 h_15 h_16 h_69 h_70 h_71 h_76 h_98 h_283 h_344 h_72; omega) | omega⟩
                intro hE_347
                have hW : Wd P Q P P (up (up c_94 (A + 9) (c_94 (A + 7) 5) 2002) (A + 7) 5 (c_94 (A + 7) 5 + 1)) = Wd P Q P P m9 := (Prod.mk.inj (Prod.mk.inj hE_347).2).1
                have h_348 := ir_1_4 hJ9
                have h_349 : m9 1 4 = c_94 1 4 := wd_fv (z := 4) 4 rfl hW rfl rfl rfl rfl (by decide) ((up_c (pn hA rfl rfl)).trans (up_c (pn hA rfl rfl))) ⟨(Int.le_trans (by decide) h_283.1), (Int.le_trans h_283.2 (by decide))⟩ ⟨(Int.le_trans (by decide) h_348.1), (Int.le_trans h_348.2 (by decide))⟩
                have h_350 := ir_1_2 hI_95
                have h_351 := ir_1_2 hJ9
                have h_352 : m9 1 2 = c_94 1 2 := wd_fv (z := 2) 2 rfl hW rfl rfl rfl rfl (by decide) ((up_c (pn hA rfl rfl)).trans (up_c (pn hA rfl rfl))) ⟨(Int.le_trans (by decide) h_350.1), (Int.le_trans h_350.2 (by decide))⟩ ⟨(Int.le_trans (by decide) h_351.1), (Int.le_trans h_351.2 (by decide))⟩
                have h_353 := ir_1_5 hI_95
                have h_354 := ir_1_5 hJ9
                have h_355 : m9 1 5 = c_94 1 5 := wd_fv (z := 5) 5 rfl hW rfl rfl rfl rfl (by decide) ((up_c (pn hA rfl rfl)).trans (up_c (pn hA rfl rfl))) ⟨(Int.le_trans (by decide) h_353.1), (Int.le_trans h_353.2 (by decide))⟩ ⟨(Int.le_trans (by decide) h_354.1), (Int.le_trans h_354.2 (by decide))⟩
                have h_356 := ir_p7_5 hJ9 hA
                have h_357 : m9 (A + 7) 5 = c_94 (A + 7) 5 + 1 := wd_fv (z := 5) 5 rfl hW (ck_p7 hA) (ck_p7 hA) rfl rfl (by omega) (up_e rfl) ⟨by first | exact rgp_l h_98.1 (by decide) | omega, by first | exact rgp_h h_98.2 (by decide) | omega⟩ ⟨(Int.le_trans (by decide) h_356.1), (Int.le_trans h_356.2 (by decide))⟩
                refine q_aload_n rfl rfl ?_
                refine v_cv rfl rfl rfl rfl (by decide) ⟨⟨rfl, rfl⟩, by decide, rfl⟩ (Nat.le_of_ble_eq_true rfl) (Nat.le_of_ble_eq_true rfl) ?_
                refine q_aload_n rfl rfl ?_
                refine v_gi (z := 5) (v := (-1)) rfl rfl rfl (by decide) rfl rfl (hc_1) ?_
                refine q_iconst rfl ?_
                refine v_ic_ne_f (t := 12) rfl (by decide) (by decide) ?_
                refine q_iconst rfl ?_
                refine q_goto (t := 13) rfl (by decide) ?_
                refine v_zret rfl rfl (by decide) ?_
                refine bk_inl ?_
                refine v_if_eq_f (t := 90) rfl (by decide) (by decide) ?_
                refine q_aload_n rfl rfl ?_
                have kn_358 : Hid (c2 41 3 = e1) := (hFc 41 3 (fun q => q.elim (fun h => absurd h.2 (ni rfl)) (fun q => q.elim (fun h => absurd h.2 (ni rfl)) (fun q => q.elim (fun h => absurd h.2 (ni rfl)) (fun q => q.elim (fun h => absurd h.2 (ni rfl)) (fun q => q.elim (fun h => absurd h.2 (ni rfl)) (fun q => q.elim (fun h => absurd h (nn rfl)) (fun h => absurd h (nn rfl))))))))).trans (hr_e1)
                have h_359 : -2147483648 ≤ (H (nx F e1 a)) ∧ (H (nx F e1 a)) ≤ 2147483647 := by rw [← hH (nx F e1 a)]; exact ir_43 hI (nx F e1 a)
                have h_360 := hU (nx F e1 a) (by omega) (by omega)
                have h_361 := hb_or (b := H) (e := e1) (r := (nx F e1 a))
                have h_362 := hb_bd (b := H) (e := e1) (r := (nx F e1 a)) (lo := -2147483648) (hi := 2147483647) h_359 (by decide)
                refine v_cv rfl rfl rfl rfl (by decide) ⟨⟨rfl, rfl⟩, by decide, rfl⟩ (Nat.le_of_ble_eq_true rfl) (Nat.le_of_ble_eq_true rfl) (f_154 (e1 := e1) (a9 := a) (B := H) (r8 := (nx F e1 a)) (r := (hb H e1 (nx F e1 a))) hI2 ((hid kn_358)) ((hr_a)) (fun j => (hFc 43 j (fun q => q.elim (fun h => absurd h.1 (nn rfl)) (fun q => q.elim (fun h => absurd h.1 (nn rfl)) (fun q => q.elim (fun h => absurd h.1 (nn rfl)) (fun q => q.elim (fun h => absurd h.1 (nn rfl)) (fun q => q.elim (fun h => absurd h.1 (nn rfl)) (fun q => q.elim (fun h => absurd h (nn rfl)) (fun h => absurd h (nn rfl))))))))).trans (hH j)) ((nx_tr hU (by first | (clear ha2 hq0 hq1 hq2 hq3 hq4 hq5 h_1 h_2 h_3 h_4 h_5 h_6 h_7 h_8 h_9 h_10 h_11 h_12 h_13 h_14 h_15 h_69 h_70 h_71 h_76 h_98 h_283 h_348 h_349 h_350 h_351 h_352 h_353 h_354 h_355 h_356 h_357 h_72; omega) | omega) (by first | (clear ha2 hq0 hq1 hq2 hq3 hq4 h_1 h_2 h_3 h_4 h_5 h_6 h_7 h_8 h_9 h_10 h_11 h_12 h_13 h_14 h_15 h_16 h_69 h_70 h_71 h_76 h_98 h_283 h_344 h_348 h_349 h_350 h_351 h_352 h_353 h_354 h_355 h_356 h_357 h_72; omega) | omega)).trans (rfl)) rfl (fun c_363 hI_364 hF_365 h_366 => ?_))
                refine bk_inl ?_
                refine v_bip rfl (by decide) ?_
                refine v_ic_eq_t (t := 38) rfl (by decide) (by first | (clear ha2 hq0 hq1 hq2 hq3 h_3 h_4 h_5 h_6 h_7 h_8 h_9 h_10 h_11 h_12 h_13 h_14 h_15 h_69 h_71 h_98 h_283 h_344 h_348 h_349 h_350 h_351 h_352 h_353 h_354 h_355 h_356 h_357; omega) | omega) ?_
                refine q_aload_n rfl rfl ?_
                have kn_367 : Hid (c_363 41 3 = e1) := (hF_365 41 3 (fun h => absurd h.2 (ni rfl))).trans (hid kn_358)
                refine v_cv rfl rfl rfl rfl (by decide) ⟨⟨rfl, rfl⟩, by decide, rfl⟩ (Nat.le_of_ble_eq_true rfl) (Nat.le_of_ble_eq_true rfl) (f_154 (e1 := e1) (a9 := (nx F e1 a)) (B := H) (r8 := (nx F e1 a)) (r := (hb H e1 (nx F e1 a))) hI_364 ((hid kn_367)) ((h_366)) (fun j => ((hF_365 43 j (fun h => absurd h.1 (nn rfl))).trans (hFc 43 j (fun q => q.elim (fun h => absurd h.1 (nn rfl)) (fun q => q.elim (fun h => absurd h.1 (nn rfl)) (fun q => q.elim (fun h => absurd h.1 (nn rfl)) (fun q => q.elim (fun h => absurd h.1 (nn rfl)) (fun q => q.elim (fun h => absurd h.1 (nn rfl)) (fun q => q.elim (fun h => absurd h (nn rfl)) (fun h => absurd h (nn rfl)))))))))).trans (hH j)) ((nx_tr hU (by first | (clear ha2 hq0 hq1 hq2 hq3 hq4 hq5 h_1 h_2 h_3 h_4 h_5 h_6 h_7 h_8 h_9 h_10 h_11 h_12 h_13 h_14 h_15 h_69 h_71 h_76 h_98 h_283 h_348 h_349 h_350 h_351 h_352 h_353 h_354 h_355 h_356 h_357 h_359 h_360 h_362 h_72 h_361; omega) | omega) (by first | (clear ha2 hq0 hq1 hq2 hq3 hq4 h_1 h_2 h_3 h_4 h_5 h_6 h_7 h_8 h_9 h_10 h_11 h_12 h_13 h_14 h_15 h_16 h_69 h_70 h_71 h_76 h_98 h_283 h_344 h_348 h_349 h_350 h_351 h_352 h_353 h_354 h_355 h_356 h_357 h_359 h_360 h_362 h_72 h_361; omega) | omega)).trans ((nx_z (by omega)))) rfl (fun c_368 hI_369 hF_370 h_371 => ?_))
                refine bk_inl ?_
                refine v_bip rfl (by decide) ?_
                refine v_ic_ne_f (t := 51) rfl (by decide) (by first | (clear ha2 hq0 hq1 hq2 hq3 h_3 h_4 h_5 h_6 h_7 h_8 h_9 h_10 h_11 h_12 h_13 h_14 h_15 h_69 h_71 h_98 h_283 h_344 h_348 h_349 h_350 h_351 h_352 h_353 h_354 h_355 h_356 h_357; omega) | omega) ?_
                refine q_iconst rfl ?_
                refine q_goto (t := 66) rfl (by decide) ?_
                refine q_istore_n rfl (by decide) ?_
                refine q_aload_n rfl rfl ?_
                refine q_dup rfl rfl ?_
                refine v_gi (z := 4) (v := (nx F e1 a)) rfl rfl rfl (by decide) rfl rfl (h_371) ?_
                refine q_iconst rfl ?_
                refine v_iadd (v := (nx F e1 a) + 1) rfl rfl ?_
                refine v_pi (z := 4) rfl rfl rfl (by decide) rfl rfl rfl (by decide) ?_
                refine q_aload_n rfl rfl ?_
                have kn_372 : Hid (c_363 41 5 = (-1)) := (hF_365 41 5 (fun h => absurd h.2 (ni rfl))).trans (hc_1)
                have kn_373 : Hid (c_368 41 5 = (-1)) := (hF_370 41 5 (fun h => absurd h.2 (ni rfl))).trans (hid kn_372)
                have hI_374 := iw_41_4 (v := (nx F e1 a) + 1) hI_369 ⟨by first | exact rgp_l (rg_be h_70 (ha.1) ((rg_eq hg_e1 h_1).2)).1 (by decide) | omega, by first | exact rgp_h (rg_be h_70 (ha.1) ((rg_eq hg_e1 h_1).2)).2 (by decide) | omega⟩
                have kn_375 : Hid (c_73 1 1 = e1) := (hF_75 1 1 (fun h => absurd h.2 (ni rfl))).trans (hid kn_68)
                have kn_376 : Hid (c_368 41 3 = e1) := (hF_370 41 3 (fun h => absurd h.2 (ni rfl))).trans (hid kn_367)
                have kn_377 : Hid (c_73 1 5 = (-1)) := (hF_75 1 5 (fun h => absurd h.2 (ni rfl))).trans (hc_2)
                have kn_378 : Hid (c_73 (A + 7) 5 = nw) := (hF_75 (A + 7) 5 (fun h => absurd h.1 (np hA rfl rfl))).trans (hg_nw)
                have kn_379 : Hid (c_363 41 29 = nw) := (hF_365 41 29 (fun h => absurd h.2 (ni rfl))).trans (hr_nw)
                have kn_380 : Hid (c_368 41 29 = nw) := (hF_370 41 29 (fun h => absurd h.2 (ni rfl))).trans (hid kn_379)
                have kn_381 : Hid (c_363 41 7 = a2) := (hF_365 41 7 (fun h => absurd h.2 (ni rfl))).trans (hc_3)
                have kn_382 : Hid (c_368 41 7 = a2) := (hF_370 41 7 (fun h => absurd h.2 (ni rfl))).trans (hid kn_381)
                have h_383 : c_73 1 4 = 0 := (hid kn_93)
                have h_384 : c_73 1 2 = (nx F e1 a) + 1 := (hz_77)
                have h_385 : c_73 1 5 = (-1) := (hid kn_377)
                have h_386 : (up c_368 41 4 ((nx F e1 a) + 1)) 41 5 = (-1) := ((up_n (by decide)).trans (hid kn_373))
                have h_387 : (up c_368 41 4 ((nx F e1 a) + 1)) 41 4 = (nx F e1 a) + 1 := (up_e rfl)
                have h_388 := ir_41_6 hI2
                have kn_389 : Hid (c_363 41 6 = c2 41 6) := hF_365 41 6 (fun h => absurd h.2 (ni rfl))
                have kn_390 : Hid (c_368 41 6 = c2 41 6) := (hF_370 41 6 (fun h => absurd h.2 (ni rfl))).trans (hid kn_389)
                have h_391 : (up c_368 41 4 ((nx F e1 a) + 1)) 41 6 = c2 41 6 := ((up_n (by decide)).trans (hid kn_390))
                have hA_392 : Ce nw (c_73 (A + 9)) ((up c_368 41 4 ((nx F e1 a) + 1)) 50) ((up c_368 41 4 ((nx F e1 a) + 1)) 51) := ce_fr hrl0 (fun j => hF_75 (A + 9) j (fun h => absurd h.1 (np hA rfl rfl))) (fun j => (up_c (nn rfl)).trans ((hF_370 50 j (fun h => absurd h.1 (nn rfl))).trans (hF_365 50 j (fun h => absurd h.1 (nn rfl))))) (fun j => (up_c (nn rfl)).trans ((hF_370 51 j (fun h => absurd h.1 (nn rfl))).trans (hF_365 51 j (fun h => absurd h.1 (nn rfl)))))
                refine v_cv rfl rfl rfl rfl (by decide) ⟨⟨rfl, rfl⟩, by decide, rfl⟩ (Nat.le_of_ble_eq_true rfl) (Nat.le_of_ble_eq_true rfl) (L_14 (m := c_73) (a2 := a2) (e1 := e1) (f0 := 0) (g0 := (-1)) (p0 := (nx F e1 a) + 1) (n0 := nw) (o0 := a2) (F := F) (H := H) hI_374 hI_74 hI_95 hA (show 0 ≤ a2 ∧ a2 ≤ 6 from ha2) (by first | (clear ha2 hq0 hq1 hq2 hq3 hq4 hq5 h_1 h_2 h_3 h_4 h_5 h_6 h_7 h_8 h_9 h_10 h_11 h_12 h_13 h_14 h_15 h_16 h_69 h_70 h_71 h_76 h_98 h_283 h_344 h_348 h_349 h_350 h_351 h_352 h_353 h_354 h_355 h_356 h_357 h_359 h_360 h_362 h_72 h_361; omega) | omega) (by first | (clear ha2 hq0 hq1 hq2 hq3 hq4 hq5 h_1 h_2 h_3 h_4 h_5 h_6 h_7 h_8 h_9 h_10 h_11 h_12 h_13 h_14 h_15 h_16 h_69 h_70 h_71 h_76 h_98 h_283 h_344 h_348 h_349 h_350 h_351 h_352 h_353 h_354 h_355 h_356 h_357 h_359 h_360 h_362 h_72 h_361; omega) | omega) (by first | (clear ha2 hq0 hq1 hq2 hq3 hq4 hq5 h_1 h_2 h_3 h_4 h_5 h_6 h_7 h_8 h_9 h_10 h_11 h_12 h_13 h_14 h_15 h_16 h_69 h_70 h_71 h_76 h_98 h_283 h_344 h_348 h_349 h_350 h_351 h_352 h_353 h_354 h_355 h_356 h_357 h_359 h_360 h_362 h_72 h_361; omega) | omega) (by first | (clear ha2 hq0 hq1 hq2 hq4 hq5 h_1 h_2 h_3 h_4 h_5 h_6 h_7 h_8 h_9 h_10 h_11 h_12 h_13 h_14 h_15 h_69 h_71 h_76 h_98 h_283 h_344 h_348 h_349 h_350 h_351 h_352 h_353 h_354 h_355 h_356 h_357 h_359 h_360 h_362 h_72 h_361; omega) | omega) (by first | (clear ha2 hq0 hq1 hq2 hq3 hq4 hq5 h_1 h_2 h_3 h_4 h_5 h_6 h_7 h_8 h_9 h_10 h_11 h_12 h_13 h_14 h_15 h_16 h_69 h_70 h_71 h_98 h_283 h_344 h_348 h_349 h_350 h_351 h_352 h_353 h_354 h_355 h_356 h_357 h_359 h_360 h_362 h_72 h_361; omega) | omega) (by first | (clear ha2 hq0 hq1 hq2 hq3 hq4 h_1 h_2 h_3 h_4 h_5 h_6 h_7 h_8 h_9 h_10 h_11 h_12 h_13 h_14 h_15 h_16 h_69 h_70 h_71 h_76 h_98 h_283 h_344 h_348 h_349 h_350 h_351 h_352 h_353 h_354 h_355 h_356 h_357 h_359 h_360 h_362 h_72 h_361; omega) | omega) ((hid kn_375)) (((up_n (by decide)).trans (hid kn_376))) ((hid kn_93)) ((hid kn_377)) ((hz_77)) ((hid kn_378)) (((up_n (by decide)).trans (hid kn_380))) (((up_n (by decide)).trans (hid kn_382))) (fun j => ((hF_75 2 j (fun h => absurd h.1 (nn rfl))).trans (hFm 2 j (fun q => q.elim (fun h => absurd h.1 (nn rfl)) (fun q => q.elim (fun h => absurd h.1 (nn rfl)) (fun q => q.elim (fun h => absurd h.1 (nn rfl)) (fun q => q.elim (fun h => absurd h.1 (pn hA rfl rfl)) (fun h => absurd h (pn hA rfl rfl)))))))).trans (hF j)) (fun j => ((up_c (nn rfl)).trans ((hF_370 43 j (fun h => absurd h.1 (nn rfl))).trans ((hF_365 43 j (fun h => absurd h.1 (nn rfl))).trans (hFc 43 j (fun q => q.elim (fun h => absurd h.1 (nn rfl)) (fun q => q.elim (fun h => absurd h.1 (nn rfl)) (fun q => q.elim (fun h => absurd h.1 (nn rfl)) (fun q => q.elim (fun h => absurd h.1 (nn rfl)) (fun q => q.elim (fun h => absurd h.1 (nn rfl)) (fun q => q.elim (fun h => absurd h (nn rfl)) (fun h => absurd h (nn rfl)))))))))))).trans (hH j)) hU (rt_i1 ⟨by first | (clear ha2 hq0 hq1 hq2 hq3 hq4 hq5 h_1 h_2 h_3 h_4 h_5 h_6 h_7 h_8 h_9 h_10 h_11 h_12 h_13 h_14 h_15 h_16 h_69 h_70 h_71 h_76 h_98 h_283 h_344 h_348 h_349 h_350 h_351 h_352 h_353 h_354 h_355 h_356 h_357 h_359 h_360 h_362 h_388 h_72 h_361; omega) | omega, by first | (clear ha2 hq0 hq1 hq2 hq3 hq4 hq5 h_1 h_2 h_3 h_4 h_5 h_6 h_7 h_8 h_9 h_10 h_11 h_12 h_13 h_14 h_15 h_16 h_69 h_70 h_71 h_76 h_98 h_283 h_344 h_348 h_349 h_350 h_351 h_352 h_353 h_354 h_355 h_356 h_357 h_359 h_360 h_362 h_388 h_72 h_361; omega) | omega, by first | (clear ha2 hq0 hq1 hq2 hq3 hq4 hq5 h_1 h_2 h_3 h_4 h_5 h_6 h_7 h_8 h_9 h_10 h_11 h_12 h_13 h_14 h_15 h_16 h_69 h_70 h_71 h_76 h_98 h_283 h_344 h_348 h_349 h_350 h_351 h_352 h_353 h_354 h_355 h_356 h_357 h_359 h_360 h_362 h_388 h_72 h_361; omega) | omega, by first | (clear ha2 hq0 hq1 hq2 hq3 hq4 hq5 h_1 h_2 h_3 h_4 h_5 h_6 h_7 h_8 h_9 h_10 h_11 h_12 h_13 h_14 h_15 h_16 h_69 h_70 h_71 h_76 h_98 h_283 h_344 h_348 h_349 h_350 h_351 h_352 h_353 h_354 h_355 h_356 h_357 h_359 h_360 h_362 h_388 h_72 h_361; omega) | omega⟩) (ce_le hA_392 (by omega)) H13 hG_97 (fun c_393 hI_394 hF_395 hR_397 h_398 h_399 hA_400 => ?_))
                refine bk_inl ?_
                have h_401 := ir_41_29 hI_394
                have h_402 := ir_41_7 hI_394
                refine q_aload_n rfl rfl ?_
                refine q_iload_n rfl rfl ?_
                refine q_iconst rfl ?_
                refine v_cv rfl rfl rfl rfl (by decide) ⟨⟨rfl, rfl⟩, by decide, rfl⟩ (Nat.le_of_ble_eq_true rfl) (Nat.le_of_ble_eq_true rfl) ?_
                refine q_aload_n rfl rfl ?_
                refine v_cv rfl rfl rfl rfl (by decide) ⟨⟨rfl, rfl⟩, by decide, rfl⟩ (Nat.le_of_ble_eq_true rfl) (Nat.le_of_ble_eq_true rfl) ?_
                refine q_aload_n rfl rfl ?_
                have h_403 := ir_41_5 hI_394
                have h_404 := ir_41_4 hI_394
                have h_405 := ir_41_6 hI_394
                have h_406 := rt_bad hR_397 (by omega)
                have hrb_hR_397 := rt_bad hR_397 (by omega)
                refine v_gi (z := 5) (v := c_94 1 5) rfl rfl rfl (by decide) rfl rfl hrb_hR_397.2.1 ?_
                refine q_iconst rfl ?_
                refine v_ic_ne_t (t := 12) rfl (by decide) ⟨by first | (clear ha2 hq0 hq1 hq2 hq3 hq4 hq5 h_1 h_2 h_3 h_4 h_5 h_6 h_7 h_8 h_9 h_10 h_11 h_12 h_13 h_14 h_15 h_16 h_69 h_70 h_71 h_76 h_98 h_283 h_344 h_348 h_349 h_350 h_351 h_352 h_353 h_354 h_355 h_356 h_357 h_359 h_360 h_362 h_388 h_401 h_402 h_399 h_403 h_404 h_405 h_72 h_361 h_398; omega) | omega, ⟨(Int.le_trans (by decide) h_353.1), (Int.le_trans h_353.2 (by decide))⟩, by decide, by decide⟩ ?_
                refine q_iconst rfl ?_
                refine v_zret rfl rfl (by decide) ?_
                refine bk_inl ?_
                refine v_if_ne_f (t := 8) rfl (by decide) (by decide) ?_
                refine q_vret rfl rfl ?_
                refine bk_inl ?_
                refine q_goto (t := 4) rfl (by decide) ?_
                refine q_aload_n rfl rfl ?_
                refine v_cv rfl rfl rfl rfl (by decide) ⟨⟨rfl, rfl⟩, by decide, rfl⟩ (Nat.le_of_ble_eq_true rfl) (Nat.le_of_ble_eq_true rfl) ?_
                refine q_aload_n rfl rfl ?_
                refine v_gi (z := 5) (v := c_94 1 5) rfl rfl rfl (by decide) rfl rfl hrb_hR_397.2.1 ?_
                refine q_iconst rfl ?_
                refine v_ic_ne_t (t := 12) rfl (by decide) ⟨by first | (clear ha2 hq0 hq1 hq2 hq3 hq4 hq5 h_1 h_2 h_3 h_4 h_5 h_6 h_7 h_8 h_9 h_10 h_11 h_12 h_13 h_14 h_15 h_16 h_69 h_70 h_71 h_76 h_98 h_283 h_344 h_348 h_349 h_350 h_351 h_352 h_353 h_354 h_355 h_356 h_357 h_359 h_360 h_362 h_388 h_401 h_402 h_399 h_403 h_404 h_405 h_72 h_361 h_398; omega) | omega, ⟨(Int.le_trans (by decide) h_353.1), (Int.le_trans h_353.2 (by decide))⟩, by decide, by decide⟩ ?_
                refine q_iconst rfl ?_
                refine v_zret rfl rfl (by decide) ?_
                refine bk_inl ?_
                refine v_if_eq_t (t := 90) rfl (by decide) (by decide) ?_
                refine q_vret rfl rfl ?_
                have h_407 : c_393 41 5 = c_94 1 5 := hrb_hR_397.2.1
                have h_408 : c_393 41 6 = c_94 1 4 := hrb_hR_397.2.2.2
                exact K c_393  hI_394 (fun a j hm => (hF_395 a j (fun q => q.elim (fun h => hm (Or.inl h)) (fun q => q.elim (fun h => hm (Or.inr (Or.inl h))) (fun q => q.elim (fun h => hm (Or.inr (Or.inr (Or.inl h)))) (fun q => q.elim (fun h => hm (Or.inr (Or.inr (Or.inr (Or.inl h))))) (fun q => q.elim (fun h => hm (Or.inr (Or.inr (Or.inr (Or.inr (Or.inl h)))))) (fun q => q.elim (fun h => hm (Or.inr (Or.inr (Or.inr (Or.inr (Or.inr (Or.inl h))))))) (fun h => hm (Or.inr (Or.inr (Or.inr (Or.inr (Or.inr (Or.inr h)))))))))))))).trans ((up_b (Decidable.or_iff_not_imp_left.mpr (fun h1 h2 => hm (Or.inl ⟨Decidable.not_not.mp h1, h2⟩)))).trans ((hF_370 a j (fun h => hm (Or.inl h))).trans ((hF_365 a j (fun h => hm (Or.inl h))).trans (hFc a j (fun q => q.elim (fun h => hm (Or.inl h)) (fun q => q.elim (fun h => hm (Or.inr (Or.inl h))) (fun q => q.elim (fun h => hm (Or.inr (Or.inr (Or.inl h)))) (fun q => q.elim (fun h => hm (Or.inr (Or.inr (Or.inr (Or.inl h))))) (fun q => q.elim (fun h => hm (Or.inr (Or.inr (Or.inr (Or.inr (Or.inl h)))))) (fun q => q.elim (fun h => hm (Or.inr (Or.inr (Or.inr (Or.inr (Or.inr (Or.inl h))))))) (fun h => hm (Or.inr (Or.inr (Or.inr (Or.inr (Or.inr (Or.inr h)))))))))))))))))) (rt_i2 ⟨⟨by first | (clear ha2 hq0 hq1 hq2 hq3 hq4 hq5 h_1 h_2 h_3 h_4 h_5 h_6 h_7 h_8 h_9 h_10 h_11 h_12 h_13 h_14 h_15 h_16 h_69 h_70 h_71 h_76 h_98 h_283 h_344 h_348 h_350 h_351 h_352 h_353 h_354 h_355 h_356 h_357 h_359 h_360 h_362 h_388 h_401 h_402 h_399 h_403 h_404 h_405 h_72 h_361 h_398; omega) | omega, by first | (clear ha2 hq0 hq1 hq2 hq3 hq4 hq5 h_1 h_2 h_3 h_4 h_5 h_6 h_7 h_8 h_9 h_10 h_11 h_12 h_13 h_14 h_15 h_16 h_69 h_70 h_71 h_76 h_98 h_283 h_344 h_349 h_350 h_351 h_352 h_353 h_354 h_355 h_356 h_357 h_359 h_360 h_362 h_388 h_401 h_402 h_399 h_403 h_404 h_405 h_406 h_72 h_361 h_398; omega) | omega⟩, by first | (clear ha2 hq0 hq1 hq2 hq3 hq4 hq5 h_1 h_2 h_3 h_4 h_5 h_6 h_7 h_8 h_9 h_10 h_11 h_12 h_13 h_14 h_15 h_16 h_69 h_70 h_71 h_76 h_98 h_283 h_344 h_348 h_349 h_350 h_351 h_352 h_353 h_354 h_356 h_357 h_359 h_360 h_362 h_388 h_401 h_402 h_399 h_403 h_404 h_405 h_406 h_72 h_361 h_398; omega) | omega, by first | (clear ha2 hq0 hq1 hq2 hq3 hq4 hq5 h_1 h_2 h_3 h_4 h_5 h_6 h_7 h_8 h_9 h_10 h_11 h_12 h_13 h_14 h_15 h_16 h_69 h_70 h_71 h_76 h_98 h_283 h_344 h_348 h_349 h_350 h_351 h_352 h_353 h_354 h_356 h_357 h_359 h_360 h_362 h_388 h_401 h_402 h_399 h_403 h_404 h_405 h_72 h_361 h_398; omega) | omega, by first | (clear ha2 hq0 hq1 hq2 hq3 hq4 hq5 h_1 h_2 h_3 h_4 h_5 h_6 h_7 h_8 h_9 h_10 h_11 h_12 h_13 h_14 h_15 h_16 h_69 h_70 h_71 h_76 h_98 h_283 h_344 h_348 h_350 h_351 h_352 h_353 h_354 h_355 h_356 h_357 h_359 h_360 h_362 h_388 h_401 h_402 h_399 h_403 h_404 h_405 h_406 h_72 h_361 h_398; omega) | omega⟩) (Or.inr (Or.inl (by first | (clear ha2 hq0 hq1 hq2 hq3 hq4 hq5 h_1 h_2 h_3 h_4 h_5 h_6 h_7 h_8 h_9 h_10 h_11 h_12 h_13 h_14 h_15 h_16 h_69 h_70 h_71 h_76 h_98 h_283 h_344 h_348 h_350 h_351 h_352 h_353 h_354 h_355 h_356 h_357 h_359 h_360 h_362 h_388 h_401 h_402 h_399 h_403 h_404 h_405 h_72 h_361 h_398; omega) | omega))) (by first | (clear ha2 hq0 hq1 hq2 hq3 hq4 hq5 h_1 h_2 h_3 h_4 h_5 h_6 h_7 h_8 h_9 h_10 h_11 h_12 h_13 h_14 h_15 h_16 h_69 h_70 h_71 h_76 h_98 h_283 h_344 h_348 h_349 h_350 h_351 h_352 h_353 h_354 h_355 h_356 h_357 h_359 h_360 h_362 h_388 h_401 h_402 h_403 h_404 h_405 h_406 h_72 h_361 h_398; omega) | omega) (fun hz => absurd hz (by omega))
              · refine v_ic_ge_f (t := 59) rfl (by decide) ⟨by first | exact rgp_l hv.1 (by decide) | omega, (Int.not_le.mp h_344), by decide⟩ ?_
                refine q_aload_n rfl rfl ?_
                refine v_cv rfl rfl rfl rfl (by decide) ⟨⟨rfl, rfl⟩, by decide, rfl⟩ (Nat.le_of_ble_eq_true rfl) (Nat.le_of_ble_eq_true rfl) ?_
                refine q_aload_n rfl rfl ?_
                refine v_gi (z := 4) (v := c_94 1 4) rfl rfl rfl (by decide) rfl rfl ((up_c (pn hA rfl rfl)).trans (up_c (pn hA rfl rfl))) ?_
                refine v_if_ne_t (t := 11) rfl (by decide) ⟨by first | (clear ha2 hq0 hq1 hq2 hq3 hq4 hq5 h_1 h_2 h_3 h_4 h_5 h_6 h_7 h_8 h_9 h_10 h_11 h_12 h_13 h_14 h_15 h_16 h_69 h_70 h_71 h_76 h_98 h_283 h_72; omega) | omega, ⟨(Int.le_trans (by decide) h_283.1), (Int.le_trans h_283.2 (by decide))⟩, by decide, by decide⟩ ?_
                refine q_iconst rfl ?_
                refine v_zret rfl rfl (by decide) ?_
                refine bk_inl ?_
                refine v_if_eq_t (t := 59) rfl (by decide) (by decide) ?_
                refine q_vret rfl rfl ?_
                have hI_409 := iw_lg (j := c_94 (A + 7) 5) (v := 2002) hI_95 (lgp (k := 9) hA (by decide)) ⟨by decide, by decide⟩ (by omega)
                have hI_410 := iw_p7_5 (v := c_94 (A + 7) 5 + 1) hI_409 hA ⟨by first | exact rgp_l h_98.1 (by decide) | omega, by first | (clear ha2 hq0 hq1 hq2 hq3 hq4 hq5 h_1 h_2 h_3 h_4 h_5 h_6 h_7 h_8 h_9 h_10 h_11 h_12 h_13 h_14 h_15 h_16 h_69 h_70 h_71 h_76 h_98 h_283 h_72; omega) | omega⟩
                intro hE_411
                have hW : Wd P Q P P (up (up c_94 (A + 9) (c_94 (A + 7) 5) 2002) (A + 7) 5 (c_94 (A + 7) 5 + 1)) = Wd P Q P P m9 := (Prod.mk.inj (Prod.mk.inj hE_411).2).1
                have h_412 := ir_1_4 hJ9
                have h_413 : m9 1 4 = c_94 1 4 := wd_fv (z := 4) 4 rfl hW rfl rfl rfl rfl (by decide) ((up_c (pn hA rfl rfl)).trans (up_c (pn hA rfl rfl))) ⟨(Int.le_trans (by decide) h_283.1), (Int.le_trans h_283.2 (by decide))⟩ ⟨(Int.le_trans (by decide) h_412.1), (Int.le_trans h_412.2 (by decide))⟩
                have h_414 := ir_1_2 hI_95
                have h_415 := ir_1_2 hJ9
                have h_416 : m9 1 2 = c_94 1 2 := wd_fv (z := 2) 2 rfl hW rfl rfl rfl rfl (by decide) ((up_c (pn hA rfl rfl)).trans (up_c (pn hA rfl rfl))) ⟨(Int.le_trans (by decide) h_414.1), (Int.le_trans h_414.2 (by decide))⟩ ⟨(Int.le_trans (by decide) h_415.1), (Int.le_trans h_415.2 (by decide))⟩
                have h_417 := ir_1_5 hI_95
                have h_418 := ir_1_5 hJ9
                have h_419 : m9 1 5 = c_94 1 5 := wd_fv (z := 5) 5 rfl hW rfl rfl rfl rfl (by decide) ((up_c (pn hA rfl rfl)).trans (up_c (pn hA rfl rfl))) ⟨(Int.le_trans (by decide) h_417.1), (Int.le_trans h_417.2 (by decide))⟩ ⟨(Int.le_trans (by decide) h_418.1), (Int.le_trans h_418.2 (by decide))⟩
                have h_420 := ir_p7_5 hJ9 hA
                have h_421 : m9 (A + 7) 5 = c_94 (A + 7) 5 + 1 := wd_fv (z := 5) 5 rfl hW (ck_p7 hA) (ck_p7 hA) rfl rfl (by omega) (up_e rfl) ⟨by first | exact rgp_l h_98.1 (by decide) | omega, by first | exact rgp_h h_98.2 (by decide) | omega⟩ ⟨(Int.le_trans (by decide) h_420.1), (Int.le_trans h_420.2 (by decide))⟩
                refine q_aload_n rfl rfl ?_
                refine v_cv rfl rfl rfl rfl (by decide) ⟨⟨rfl, rfl⟩, by decide, rfl⟩ (Nat.le_of_ble_eq_true rfl) (Nat.le_of_ble_eq_true rfl) ?_
                refine q_aload_n rfl rfl ?_
                refine v_gi (z := 5) (v := (-1)) rfl rfl rfl (by decide) rfl rfl (hc_1) ?_
                refine q_iconst rfl ?_
                refine v_ic_ne_f (t := 12) rfl (by decide) (by decide) ?_
                refine q_iconst rfl ?_
                refine q_goto (t := 13) rfl (by decide) ?_
                refine v_zret rfl rfl (by decide) ?_
                refine bk_inl ?_
                refine v_if_eq_f (t := 90) rfl (by decide) (by decide) ?_
                refine q_aload_n rfl rfl ?_
                have kn_422 : Hid (c2 41 3 = e1) := (hFc 41 3 (fun q => q.elim (fun h => absurd h.2 (ni rfl)) (fun q => q.elim (fun h => absurd h.2 (ni rfl)) (fun q => q.elim (fun h => absurd h.2 (ni rfl)) (fun q => q.elim (fun h => absurd h.2 (ni rfl)) (fun q => q.elim (fun h => absurd h.2 (ni rfl)) (fun q => q.elim (fun h => absurd h (nn rfl)) (fun h => absurd h (nn rfl))))))))).trans (hr_e1)
                have h_423 : -2147483648 ≤ (H (nx F e1 a)) ∧ (H (nx F e1 a)) ≤ 2147483647 := by rw [← hH (nx F e1 a)]; exact ir_43 hI (nx F e1 a)
                have h_424 := hU (nx F e1 a) (by omega) (by omega)
                have h_425 := hb_or (b := H) (e := e1) (r := (nx F e1 a))
                have h_426 := hb_bd (b := H) (e := e1) (r := (nx F e1 a)) (lo := -2147483648) (hi := 2147483647) h_423 (by decide)
                refine v_cv rfl rfl rfl rfl (by decide) ⟨⟨rfl, rfl⟩, by decide, rfl⟩ (Nat.le_of_ble_eq_true rfl) (Nat.le_of_ble_eq_true rfl) (f_154 (e1 := e1) (a9 := a) (B := H) (r8 := (nx F e1 a)) (r := (hb H e1 (nx F e1 a))) hI2 ((hid kn_422)) ((hr_a)) (fun j => (hFc 43 j (fun q => q.elim (fun h => absurd h.1 (nn rfl)) (fun q => q.elim (fun h => absurd h.1 (nn rfl)) (fun q => q.elim (fun h => absurd h.1 (nn rfl)) (fun q => q.elim (fun h => absurd h.1 (nn rfl)) (fun q => q.elim (fun h => absurd h.1 (nn rfl)) (fun q => q.elim (fun h => absurd h (nn rfl)) (fun h => absurd h (nn rfl))))))))).trans (hH j)) ((nx_tr hU (by first | (clear ha2 hq0 hq1 hq2 hq3 hq4 hq5 h_1 h_2 h_3 h_4 h_5 h_6 h_7 h_8 h_9 h_10 h_11 h_12 h_13 h_14 h_15 h_16 h_69 h_70 h_71 h_76 h_98 h_283 h_412 h_413 h_414 h_415 h_416 h_417 h_418 h_419 h_420 h_421 h_72; omega) | omega) (by first | (clear ha2 hq0 hq1 hq2 hq3 hq4 h_1 h_2 h_3 h_4 h_5 h_6 h_7 h_8 h_9 h_10 h_11 h_12 h_13 h_14 h_15 h_16 h_69 h_70 h_71 h_76 h_98 h_283 h_412 h_413 h_414 h_415 h_416 h_417 h_418 h_419 h_420 h_421 h_72; omega) | omega)).trans (rfl)) rfl (fun c_427 hI_428 hF_429 h_430 => ?_))
                refine bk_inl ?_
                refine v_bip rfl (by decide) ?_
                refine v_ic_eq_t (t := 38) rfl (by decide) (by first | (clear ha2 hq0 hq1 hq2 hq3 h_3 h_4 h_5 h_6 h_7 h_8 h_9 h_10 h_11 h_12 h_13 h_14 h_15 h_69 h_71 h_98 h_283 h_412 h_413 h_414 h_415 h_416 h_417 h_418 h_419 h_420 h_421; omega) | omega) ?_
                refine q_aload_n rfl rfl ?_
                have kn_431 : Hid (c_427 41 3 = e1) := (hF_429 41 3 (fun h => absurd h.2 (ni rfl))).trans (hid kn_422)
                refine v_cv rfl rfl rfl rfl (by decide) ⟨⟨rfl, rfl⟩, by decide, rfl⟩ (Nat.le_of_ble_eq_true rfl) (Nat.le_of_ble_eq_true rfl) (f_154 (e1 := e1) (a9 := (nx F e1 a)) (B := H) (r8 := (nx F e1 a)) (r := (hb H e1 (nx F e1 a))) hI_428 ((hid kn_431)) ((h_430)) (fun j => ((hF_429 43 j (fun h => absurd h.1 (nn rfl))).trans (hFc 43 j (fun q => q.elim (fun h => absurd h.1 (nn rfl)) (fun q => q.elim (fun h => absurd h.1 (nn rfl)) (fun q => q.elim (fun h => absurd h.1 (nn rfl)) (fun q => q.elim (fun h => absurd h.1 (nn rfl)) (fun q => q.elim (fun h => absurd h.1 (nn rfl)) (fun q => q.elim (fun h => absurd h (nn rfl)) (fun h => absurd h (nn rfl)))))))))).trans (hH j)) ((nx_tr hU (by first | (clear ha2 hq0 hq1 hq2 hq3 hq4 hq5 h_1 h_2 h_3 h_4 h_5 h_6 h_7 h_8 h_9 h_10 h_11 h_12 h_13 h_14 h_15 h_16 h_69 h_71 h_76 h_98 h_283 h_412 h_413 h_414 h_415 h_416 h_417 h_418 h_419 h_420 h_421 h_423 h_424 h_426 h_72 h_425; omega) | omega) (by first | (clear ha2 hq0 hq1 hq2 hq3 hq4 h_1 h_2 h_3 h_4 h_5 h_6 h_7 h_8 h_9 h_10 h_11 h_12 h_13 h_14 h_15 h_16 h_69 h_70 h_71 h_76 h_98 h_283 h_412 h_413 h_414 h_415 h_416 h_417 h_418 h_419 h_420 h_421 h_423 h_424 h_426 h_72 h_425; omega) | omega)).trans ((nx_z (by omega)))) rfl (fun c_432 hI_433 hF_434 h_435 => ?_))
                refine bk_inl ?_
                refine v_bip rfl (by decide) ?_
                refine v_ic_ne_f (t := 51) rfl (by decide) (by first | (clear ha2 hq0 hq1 hq2 hq3 h_3 h_4 h_5 h_6 h_7 h_8 h_9 h_10 h_11 h_12 h_13 h_14 h_15 h_69 h_71 h_98 h_283 h_412 h_413 h_414 h_415 h_416 h_417 h_418 h_419 h_420 h_421; omega) | omega) ?_
                refine q_iconst rfl ?_
                refine q_goto (t := 66) rfl (by decide) ?_
                refine q_istore_n rfl (by decide) ?_
                refine q_aload_n rfl rfl ?_
                refine q_dup rfl rfl ?_
                refine v_gi (z := 4) (v := (nx F e1 a)) rfl rfl rfl (by decide) rfl rfl (h_435) ?_
                refine q_iconst rfl ?_
                refine v_iadd (v := (nx F e1 a) + 1) rfl rfl ?_
                refine v_pi (z := 4) rfl rfl rfl (by decide) rfl rfl rfl (by decide) ?_
                refine q_aload_n rfl rfl ?_
                have kn_436 : Hid (c_427 41 5 = (-1)) := (hF_429 41 5 (fun h => absurd h.2 (ni rfl))).trans (hc_1)
                have kn_437 : Hid (c_432 41 5 = (-1)) := (hF_434 41 5 (fun h => absurd h.2 (ni rfl))).trans (hid kn_436)
                have hI_438 := iw_41_4 (v := (nx F e1 a) + 1) hI_433 ⟨by first | exact rgp_l (rg_be h_70 (ha.1) ((rg_eq hg_e1 h_1).2)).1 (by decide) | omega, by first | exact rgp_h (rg_be h_70 (ha.1) ((rg_eq hg_e1 h_1).2)).2 (by decide) | omega⟩
                have kn_439 : Hid (c_73 1 1 = e1) := (hF_75 1 1 (fun h => absurd h.2 (ni rfl))).trans (hid kn_68)
                have kn_440 : Hid (c_432 41 3 = e1) := (hF_434 41 3 (fun h => absurd h.2 (ni rfl))).trans (hid kn_431)
                have kn_441 : Hid (c_73 1 5 = (-1)) := (hF_75 1 5 (fun h => absurd h.2 (ni rfl))).trans (hc_2)
                have kn_442 : Hid (c_73 (A + 7) 5 = nw) := (hF_75 (A + 7) 5 (fun h => absurd h.1 (np hA rfl rfl))).trans (hg_nw)
                have kn_443 : Hid (c_427 41 29 = nw) := (hF_429 41 29 (fun h => absurd h.2 (ni rfl))).trans (hr_nw)
                have kn_444 : Hid (c_432 41 29 = nw) := (hF_434 41 29 (fun h => absurd h.2 (ni rfl))).trans (hid kn_443)
                have kn_445 : Hid (c_427 41 7 = a2) := (hF_429 41 7 (fun h => absurd h.2 (ni rfl))).trans (hc_3)
                have kn_446 : Hid (c_432 41 7 = a2) := (hF_434 41 7 (fun h => absurd h.2 (ni rfl))).trans (hid kn_445)
                have h_447 : c_73 1 4 = 0 := (hid kn_93)
                have h_448 : c_73 1 2 = (nx F e1 a) + 1 := (hz_77)
                have h_449 : c_73 1 5 = (-1) := (hid kn_441)
                have h_450 : (up c_432 41 4 ((nx F e1 a) + 1)) 41 5 = (-1) := ((up_n (by decide)).trans (hid kn_437))
                have h_451 : (up c_432 41 4 ((nx F e1 a) + 1)) 41 4 = (nx F e1 a) + 1 := (up_e rfl)
                have h_452 := ir_41_6 hI2
                have kn_453 : Hid (c_427 41 6 = c2 41 6) := hF_429 41 6 (fun h => absurd h.2 (ni rfl))
                have kn_454 : Hid (c_432 41 6 = c2 41 6) := (hF_434 41 6 (fun h => absurd h.2 (ni rfl))).trans (hid kn_453)
                have h_455 : (up c_432 41 4 ((nx F e1 a) + 1)) 41 6 = c2 41 6 := ((up_n (by decide)).trans (hid kn_454))
                have hA_456 : Ce nw (c_73 (A + 9)) ((up c_432 41 4 ((nx F e1 a) + 1)) 50) ((up c_432 41 4 ((nx F e1 a) + 1)) 51) := ce_fr hrl0 (fun j => hF_75 (A + 9) j (fun h => absurd h.1 (np hA rfl rfl))) (fun j => (up_c (nn rfl)).trans ((hF_434 50 j (fun h => absurd h.1 (nn rfl))).trans (hF_429 50 j (fun h => absurd h.1 (nn rfl))))) (fun j => (up_c (nn rfl)).trans ((hF_434 51 j (fun h => absurd h.1 (nn rfl))).trans (hF_429 51 j (fun h => absurd h.1 (nn rfl)))))
                refine v_cv rfl rfl rfl rfl (by decide) ⟨⟨rfl, rfl⟩, by decide, rfl⟩ (Nat.le_of_ble_eq_true rfl) (Nat.le_of_ble_eq_true rfl) (L_14 (m := c_73) (a2 := a2) (e1 := e1) (f0 := 0) (g0 := (-1)) (p0 := (nx F e1 a) + 1) (n0 := nw) (o0 := a2) (F := F) (H := H) hI_438 hI_74 hI_95 hA (show 0 ≤ a2 ∧ a2 ≤ 6 from ha2) (by first | (clear ha2 hq0 hq1 hq2 hq3 hq4 hq5 h_1 h_2 h_3 h_4 h_5 h_6 h_7 h_8 h_9 h_10 h_11 h_12 h_13 h_14 h_15 h_16 h_69 h_70 h_71 h_76 h_98 h_283 h_412 h_413 h_414 h_415 h_416 h_417 h_418 h_419 h_420 h_421 h_423 h_424 h_426 h_72 h_425; omega) | omega) (by first | (clear ha2 hq0 hq1 hq2 hq3 hq4 hq5 h_1 h_2 h_3 h_4 h_5 h_6 h_7 h_8 h_9 h_10 h_11 h_12 h_13 h_14 h_15 h_16 h_69 h_70 h_71 h_76 h_98 h_283 h_412 h_413 h_414 h_415 h_416 h_417 h_418 h_419 h_420 h_421 h_423 h_424 h_426 h_72 h_425; omega) | omega) (by first | (clear ha2 hq0 hq1 hq2 hq3 hq4 hq5 h_1 h_2 h_3 h_4 h_5 h_6 h_7 h_8 h_9 h_10 h_11 h_12 h_13 h_14 h_15 h_16 h_69 h_70 h_71 h_76 h_98 h_283 h_412 h_413 h_414 h_415 h_416 h_417 h_418 h_419 h_420 h_421 h_423 h_424 h_426 h_72 h_425; omega) | omega) (by first | (clear ha2 hq0 hq1 hq2 hq4 hq5 h_1 h_2 h_3 h_4 h_5 h_6 h_7 h_8 h_9 h_10 h_11 h_12 h_13 h_14 h_15 h_69 h_71 h_76 h_98 h_283 h_412 h_413 h_414 h_415 h_416 h_417 h_418 h_419 h_420 h_421 h_423 h_424 h_426 h_72 h_425; omega) | omega) (by first | (clear ha2 hq0 hq1 hq2 hq3 hq4 hq5 h_1 h_2 h_3 h_4 h_5 h_6 h_7 h_8 h_9 h_10 h_11 h_12 h_13 h_14 h_15 h_16 h_69 h_70 h_71 h_98 h_283 h_412 h_413 h_414 h_415 h_416 h_417 h_418 h_419 h_420 h_421 h_423 h_424 h_426 h_72 h_425; omega) | omega) (by first | (clear ha2 hq0 hq1 hq2 hq3 hq4 h_1 h_2 h_3 h_4 h_5 h_6 h_7 h_8 h_9 h_10 h_11 h_12 h_13 h_14 h_15 h_16 h_69 h_70 h_71 h_76 h_98 h_283 h_412 h_413 h_414 h_415 h_416 h_417 h_418 h_419 h_420 h_421 h_423 h_424 h_426 h_72 h_425; omega) | omega) ((hid kn_439)) (((up_n (by decide)).trans (hid kn_440))) ((hid kn_93)) ((hid kn_441)) ((hz_77)) ((hid kn_442)) (((up_n (by decide)).trans (hid kn_444))) (((up_n (by decide)).trans (hid kn_446))) (fun j => ((hF_75 2 j (fun h => absurd h.1 (nn rfl))).trans (hFm 2 j (fun q => q.elim (fun h => absurd h.1 (nn rfl)) (fun q => q.elim (fun h => absurd h.1 (nn rfl)) (fun q => q.elim (fun h => absurd h.1 (nn rfl)) (fun q => q.elim (fun h => absurd h.1 (pn hA rfl rfl)) (fun h => absurd h (pn hA rfl rfl)))))))).trans (hF j)) (fun j => ((up_c (nn rfl)).trans ((hF_434 43 j (fun h => absurd h.1 (nn rfl))).trans ((hF_429 43 j (fun h => absurd h.1 (nn rfl))).trans (hFc 43 j (fun q => q.elim (fun h => absurd h.1 (nn rfl)) (fun q => q.elim (fun h => absurd h.1 (nn rfl)) (fun q => q.elim (fun h => absurd h.1 (nn rfl)) (fun q => q.elim (fun h => absurd h.1 (nn rfl)) (fun q => q.elim (fun h => absurd h.1 (nn rfl)) (fun q => q.elim (fun h => absurd h (nn rfl)) (fun h => absurd h (nn rfl)))))))))))).trans (hH j)) hU (rt_i1 ⟨by first | (clear ha2 hq0 hq1 hq2 hq3 hq4 hq5 h_1 h_2 h_3 h_4 h_5 h_6 h_7 h_8 h_9 h_10 h_11 h_12 h_13 h_14 h_15 h_16 h_69 h_70 h_71 h_76 h_98 h_283 h_412 h_413 h_414 h_415 h_416 h_417 h_418 h_419 h_420 h_421 h_423 h_424 h_426 h_452 h_72 h_425; omega) | omega, by first | (clear ha2 hq0 hq1 hq2 hq3 hq4 hq5 h_1 h_2 h_3 h_4 h_5 h_6 h_7 h_8 h_9 h_10 h_11 h_12 h_13 h_14 h_15 h_16 h_69 h_70 h_71 h_76 h_98 h_283 h_412 h_413 h_414 h_415 h_416 h_417 h_418 h_419 h_420 h_421 h_423 h_424 h_426 h_452 h_72 h_425; omega) | omega, by first | (clear ha2 hq0 hq1 hq2 hq3 hq4 hq5 h_1 h_2 h_3 h_4 h_5 h_6 h_7 h_8 h_9 h_10 h_11 h_12 h_13 h_14 h_15 h_16 h_69 h_70 h_71 h_76 h_98 h_283 h_412 h_413 h_414 h_415 h_416 h_417 h_418 h_419 h_420 h_421 h_423 h_424 h_426 h_452 h_72 h_425; omega) | omega, by first | (clear ha2 hq0 hq1 hq2 hq3 hq4 hq5 h_1 h_2 h_3 h_4 h_5 h_6 h_7 h_8 h_9 h_10 h_11 h_12 h_13 h_14 h_15 h_16 h_69 h_70 h_71 h_76 h_98 h_283 h_412 h_413 h_414 h_415 h_416 h_417 h_418 h_419 h_420 h_421 h_423 h_424 h_426 h_452 h_72 h_425; omega) | omega⟩) (ce_le hA_456 (by omega)) H13 hG_97 (fun c_457 hI_458 hF_459 hR_461 h_462 h_463 hA_464 => ?_))
                refine bk_inl ?_
                have h_465 := ir_41_29 hI_458
                have h_466 := ir_41_7 hI_458
                refine q_aload_n rfl rfl ?_
                refine q_iload_n rfl rfl ?_
                refine q_iconst rfl ?_
                refine v_cv rfl rfl rfl rfl (by decide) ⟨⟨rfl, rfl⟩, by decide, rfl⟩ (Nat.le_of_ble_eq_true rfl) (Nat.le_of_ble_eq_true rfl) ?_
                refine q_aload_n rfl rfl ?_
                refine v_cv rfl rfl rfl rfl (by decide) ⟨⟨rfl, rfl⟩, by decide, rfl⟩ (Nat.le_of_ble_eq_true rfl) (Nat.le_of_ble_eq_true rfl) ?_
                refine q_aload_n rfl rfl ?_
                have h_467 := ir_41_5 hI_458
                have h_468 := ir_41_4 hI_458
                have h_469 := ir_41_6 hI_458
                have h_470 := rt_bad hR_461 (by omega)
                have hrb_hR_461 := rt_bad hR_461 (by omega)
                refine v_gi (z := 5) (v := c_94 1 5) rfl rfl rfl (by decide) rfl rfl hrb_hR_461.2.1 ?_
                refine q_iconst rfl ?_
                refine v_ic_ne_t (t := 12) rfl (by decide) ⟨by first | (clear ha2 hq0 hq1 hq2 hq3 hq4 hq5 h_1 h_2 h_3 h_4 h_5 h_6 h_7 h_8 h_9 h_10 h_11 h_12 h_13 h_14 h_15 h_16 h_69 h_70 h_71 h_76 h_98 h_283 h_412 h_413 h_414 h_415 h_416 h_417 h_418 h_419 h_420 h_421 h_423 h_424 h_426 h_452 h_465 h_466 h_463 h_467 h_468 h_469 h_72 h_425 h_462; omega) | omega, ⟨(Int.le_trans (by decide) h_417.1), (Int.le_trans h_417.2 (by decide))⟩, by decide, by decide⟩ ?_
                refine q_iconst rfl ?_
                refine v_zret rfl rfl (by decide) ?_
                refine bk_inl ?_
                refine v_if_ne_f (t := 8) rfl (by decide) (by decide) ?_
                refine q_vret rfl rfl ?_
                refine bk_inl ?_
                refine q_goto (t := 4) rfl (by decide) ?_
                refine q_aload_n rfl rfl ?_
                refine v_cv rfl rfl rfl rfl (by decide) ⟨⟨rfl, rfl⟩, by decide, rfl⟩ (Nat.le_of_ble_eq_true rfl) (Nat.le_of_ble_eq_true rfl) ?_
                refine q_aload_n rfl rfl ?_
                refine v_gi (z := 5) (v := c_94 1 5) rfl rfl rfl (by decide) rfl rfl hrb_hR_461.2.1 ?_
                refine q_iconst rfl ?_
                refine v_ic_ne_t (t := 12) rfl (by decide) ⟨by first | (clear ha2 hq0 hq1 hq2 hq3 hq4 hq5 h_1 h_2 h_3 h_4 h_5 h_6 h_7 h_8 h_9 h_10 h_11 h_12 h_13 h_14 h_15 h_16 h_69 h_70 h_71 h_76 h_98 h_283 h_412 h_413 h_414 h_415 h_416 h_417 h_418 h_419 h_420 h_421 h_423 h_424 h_426 h_452 h_465 h_466 h_463 h_467 h_468 h_469 h_72 h_425 h_462; omega) | omega, ⟨(Int.le_trans (by decide) h_417.1), (Int.le_trans h_417.2 (by decide))⟩, by decide, by decide⟩ ?_
                refine q_iconst rfl ?_
                refine v_zret rfl rfl (by decide) ?_
                refine bk_inl ?_
                refine v_if_eq_t (t := 90) rfl (by decide) (by decide) ?_
                refine q_vret rfl rfl ?_
                have h_471 : c_457 41 5 = c_94 1 5 := hrb_hR_461.2.1
                have h_472 : c_457 41 6 = c_94 1 4 := hrb_hR_461.2.2.2
                exact K c_457  hI_458 (fun a j hm => (hF_459 a j (fun q => q.elim (fun h => hm (Or.inl h)) (fun q => q.elim (fun h => hm (Or.inr (Or.inl h))) (fun q => q.elim (fun h => hm (Or.inr (Or.inr (Or.inl h)))) (fun q => q.elim (fun h => hm (Or.inr (Or.inr (Or.inr (Or.inl h))))) (fun q => q.elim (fun h => hm (Or.inr (Or.inr (Or.inr (Or.inr (Or.inl h)))))) (fun q => q.elim (fun h => hm (Or.inr (Or.inr (Or.inr (Or.inr (Or.inr (Or.inl h))))))) (fun h => hm (Or.inr (Or.inr (Or.inr (Or.inr (Or.inr (Or.inr h)))))))))))))).trans ((up_b (Decidable.or_iff_not_imp_left.mpr (fun h1 h2 => hm (Or.inl ⟨Decidable.not_not.mp h1, h2⟩)))).trans ((hF_434 a j (fun h => hm (Or.inl h))).trans ((hF_429 a j (fun h => hm (Or.inl h))).trans (hFc a j (fun q => q.elim (fun h => hm (Or.inl h)) (fun q => q.elim (fun h => hm (Or.inr (Or.inl h))) (fun q => q.elim (fun h => hm (Or.inr (Or.inr (Or.inl h)))) (fun q => q.elim (fun h => hm (Or.inr (Or.inr (Or.inr (Or.inl h))))) (fun q => q.elim (fun h => hm (Or.inr (Or.inr (Or.inr (Or.inr (Or.inl h)))))) (fun q => q.elim (fun h => hm (Or.inr (Or.inr (Or.inr (Or.inr (Or.inr (Or.inl h))))))) (fun h => hm (Or.inr (Or.inr (Or.inr (Or.inr (Or.inr (Or.inr h)))))))))))))))))) (rt_i2 ⟨⟨by first | (clear ha2 hq0 hq1 hq2 hq3 hq4 hq5 h_1 h_2 h_3 h_4 h_5 h_6 h_7 h_8 h_9 h_10 h_11 h_12 h_13 h_14 h_15 h_16 h_69 h_70 h_71 h_76 h_98 h_283 h_412 h_414 h_415 h_416 h_417 h_418 h_419 h_420 h_421 h_423 h_424 h_426 h_452 h_465 h_466 h_463 h_467 h_468 h_469 h_72 h_425 h_462; omega) | omega, by first | (clear ha2 hq0 hq1 hq2 hq3 hq4 hq5 h_1 h_2 h_3 h_4 h_5 h_6 h_7 h_8 h_9 h_10 h_11 h_12 h_13 h_14 h_15 h_16 h_69 h_70 h_71 h_76 h_98 h_283 h_413 h_414 h_415 h_416 h_417 h_418 h_419 h_420 h_421 h_423 h_424 h_426 h_452 h_465 h_466 h_463 h_467 h_468 h_469 h_470 h_72 h_425 h_462; omega) | omega⟩, by first | (clear ha2 hq0 hq1 hq2 hq3 hq4 hq5 h_1 h_2 h_3 h_4 h_5 h_6 h_7 h_8 h_9 h_10 h_11 h_12 h_13 h_14 h_15 h_16 h_69 h_70 h_71 h_76 h_98 h_283 h_412 h_413 h_414 h_415 h_416 h_417 h_418 h_420 h_421 h_423 h_424 h_426 h_452 h_465 h_466 h_463 h_467 h_468 h_469 h_470 h_72 h_425 h_462; omega) | omega, by first | (clear ha2 hq0 hq1 hq2 hq3 hq4 hq5 h_1 h_2 h_3 h_4 h_5 h_6 h_7 h_8 h_9 h_10 h_11 h_12 h_13 h_14 h_15 h_16 h_69 h_70 h_71 h_76 h_98 h_283 h_412 h_413 h_414 h_415 h_416 h_417 h_418 h_420 h_421 h_423 h_424 h_426 h_452 h_465 h_466 h_463 h_467 h_468 h_469 h_72 h_425 h_462; omega) | omega, by first | (clear ha2 hq0 hq1 hq2 hq3 hq4 hq5 h_1 h_2 h_3 h_4 h_5 h_6 h_7 h_8 h_9 h_10 h_11 h_12 h_13 h_14 h_15 h_16 h_69 h_70 h_71 h_76 h_98 h_283 h_412 h_414 h_415 h_416 h_417 h_418 h_419 h_420 h_421 h_423 h_424 h_426 h_452 h_465 h_466 h_463 h_467 h_468 h_469 h_470 h_72 h_425 h_462; omega) | omega⟩) (Or.inr (Or.inl (by first | (clear ha2 hq0 hq1 hq2 hq3 hq4 hq5 h_1 h_2 h_3 h_4 h_5 h_6 h_7 h_8 h_9 h_10 h_11 h_12 h_13 h_14 h_15 h_16 h_69 h_70 h_71 h_76 h_98 h_283 h_412 h_414 h_415 h_416 h_417 h_418 h_419 h_420 h_421 h_423 h_424 h_426 h_452 h_465 h_466 h_463 h_467 h_468 h_469 h_72 h_425 h_462; omega) | omega))) (by first | (clear ha2 hq0 hq1 hq2 hq3 hq4 hq5 h_1 h_2 h_3 h_4 h_5 h_6 h_7 h_8 h_9 h_10 h_11 h_12 h_13 h_14 h_15 h_16 h_69 h_70 h_71 h_76 h_98 h_283 h_412 h_413 h_414 h_415 h_416 h_417 h_418 h_419 h_420 h_421 h_423 h_424 h_426 h_452 h_465 h_466 h_467 h_468 h_469 h_470 h_72 h_425 h_462; omega) | omega) (fun hz => absurd hz (by omega))
      · as_aux_lemma =>
          skip
          refine bk_inl ?_
          refine q_istore rfl (by decide) ?_
          refine q_iload rfl rfl ?_
          refine q_iconst rfl ?_
          refine v_ic_ne_t (t := 37) rfl (by decide) (by decide) ?_
          refine q_aload_n rfl rfl ?_
          refine q_aload_n rfl rfl ?_
          refine q_iload_n rfl rfl ?_
          have kn_473 : Hid (c_78 1 4 = 0) := (hF_80 1 4 (fun h => absurd h.2 (ni rfl))).trans (hc_0)
          refine v_cv rfl rfl rfl (ck_p7 hA) (a68 hA rfl) ⟨⟨rfl, rfl⟩, by decide, rfl⟩ (Nat.le_of_ble_eq_true rfl) (Nat.le_of_ble_eq_true rfl) (fn_of (r_14 (a2 := a2) hI_79 hA (show 0 ≤ a2 ∧ a2 ≤ 6 from ha2) (fun c_474 hI_475 hF_476 => ?_)))
          intro hG_477
          refine bk_inl ?_
          refine q_aload_n rfl rfl ?_
          refine v_sip rfl (by decide) ?_
          refine q_iload rfl rfl ?_
          refine v_iadd (v := 2003) rfl (by decide) ?_
          refine v_cv rfl rfl rfl (ck_p7 hA) (a68 hA rfl) ⟨⟨rfl, rfl⟩, by decide, rfl⟩ (Nat.le_of_ble_eq_true rfl) (Nat.le_of_ble_eq_true rfl) ?_
          refine q_aload_n rfl rfl ?_
          have h_478 := ir_p7_5 hI_475 hA
          refine v_gi (z := 5) (v := c_474 (A + 7) 5) rfl rfl (ck_p7 hA) (a68 hA rfl) rfl rfl rfl ?_
          refine q_aload_n rfl rfl ?_
          refine v_gr (t := (A + 9)) rfl rfl (ck_p7 hA) (a68 hA rfl) rfl ?_
          refine v_al rfl (ck_p9 hA) (a68 hA rfl) (by decide) ?_
          by_cases h_479 : c_474 (A + 7) 5 ≥ 150
          · refine v_ic_ge_t (t := 32) rfl (by decide) ⟨by decide, h_479, (Int.le_trans h_478.2 (by decide))⟩ ?_
            refine q_vret rfl rfl ?_
            refine bk_inl ?_
            refine v_iinc (v := v + 1) rfl rfl (by decide) rfl ?_
            refine q_goto (t := 8) rfl (by decide) ?_
            have h_480 := ir_1_4 hI_475
            by_cases h_481 : c_474 1 4 = 0
            · skip
              refine Wp_ls [(0, .ref (A + 7)), (1, .ref 1), (2, vi a2), (3, vi (v + 1))] (lsub_cons rfl (lsub_cons rfl (lsub_cons rfl (lsub_cons rfl lsub_nil)))) ?_
              refine gh_stop ((s_12_l (sc := sc) (d := dh + 22) (c := c_474) (a2 := a2) (Z := fun _ => True) hI_475 hA ha2 (fun c9 Z9 h hI9 K9 => r_13 (d := dh + 1) hI9 hA ⟨by omega, h⟩ K9) (fun _ _ _ => trivial) 304) c_474 (v + 1) hI_475 (fun a j hm => rfl) ⟨by omega, by omega⟩ (by omega)) (fun hG_482 => ?_)
              refine q_aload_n rfl rfl ?_
              refine v_cv rfl rfl rfl rfl (by decide) ⟨⟨rfl, rfl⟩, by decide, rfl⟩ (Nat.le_of_ble_eq_true rfl) (Nat.le_of_ble_eq_true rfl) ?_
              refine q_aload_n rfl rfl ?_
              refine v_gi (z := 5) (v := (-1)) rfl rfl rfl (by decide) rfl rfl (hc_1) ?_
              refine q_iconst rfl ?_
              refine v_ic_ne_f (t := 12) rfl (by decide) (by decide) ?_
              refine q_iconst rfl ?_
              refine q_goto (t := 13) rfl (by decide) ?_
              refine v_zret rfl rfl (by decide) ?_
              refine bk_inl ?_
              refine v_if_eq_f (t := 90) rfl (by decide) (by decide) ?_
              refine q_aload_n rfl rfl ?_
              have kn_483 : Hid (c2 41 3 = e1) := (hFc 41 3 (fun q => q.elim (fun h => absurd h.2 (ni rfl)) (fun q => q.elim (fun h => absurd h.2 (ni rfl)) (fun q => q.elim (fun h => absurd h.2 (ni rfl)) (fun q => q.elim (fun h => absurd h.2 (ni rfl)) (fun q => q.elim (fun h => absurd h.2 (ni rfl)) (fun q => q.elim (fun h => absurd h (nn rfl)) (fun h => absurd h (nn rfl))))))))).trans (hr_e1)
              have h_484 : -2147483648 ≤ (H (nx F e1 a)) ∧ (H (nx F e1 a)) ≤ 2147483647 := by rw [← hH (nx F e1 a)]; exact ir_43 hI (nx F e1 a)
              have h_485 := hU (nx F e1 a) (by omega) (by omega)
              have h_486 := hb_or (b := H) (e := e1) (r := (nx F e1 a))
              have h_487 := hb_bd (b := H) (e := e1) (r := (nx F e1 a)) (lo := -2147483648) (hi := 2147483647) h_484 (by decide)
              refine v_cv rfl rfl rfl rfl (by decide) ⟨⟨rfl, rfl⟩, by decide, rfl⟩ (Nat.le_of_ble_eq_true rfl) (Nat.le_of_ble_eq_true rfl) (f_154 (e1 := e1) (a9 := a) (B := H) (r8 := (nx F e1 a)) (r := (hb H e1 (nx F e1 a))) hI2 ((hid kn_483)) ((hr_a)) (fun j => (hFc 43 j (fun q => q.elim (fun h => absurd h.1 (nn rfl)) (fun q => q.elim (fun h => absurd h.1 (nn rfl)) (fun q => q.elim (fun h => absurd h.1 (nn rfl)) (fun q => q.elim (fun h => absurd h.1 (nn rfl)) (fun q => q.elim (fun h => absurd h.1 (nn rfl)) (fun q => q.elim (fun h => absurd h (nn rfl)) (fun h => absurd h (nn rfl))))))))).trans (hH j)) ((nx_tr hU (by first | (clear ha2 hq0 hq1 hq2 hq3 hq4 hq5 h_1 h_2 h_3 h_4 h_5 h_6 h_7 h_8 h_9 h_10 h_11 h_12 h_13 h_14 h_15 h_16 h_69 h_70 h_71 h_81 h_478 h_479 h_480 h_481 h_72; omega) | omega) (by first | (clear ha2 hq0 hq1 hq2 hq3 hq4 h_1 h_2 h_3 h_4 h_5 h_6 h_7 h_8 h_9 h_10 h_11 h_12 h_13 h_14 h_15 h_16 h_69 h_70 h_71 h_81 h_478 h_479 h_480 h_481 h_72; omega) | omega)).trans (rfl)) rfl (fun c_488 hI_489 hF_490 h_491 => ?_))
              refine bk_inl ?_
              refine v_bip rfl (by decide) ?_
              refine v_ic_eq_f (t := 38) rfl (by decide) ⟨by first | (clear ha2 hq0 hq1 hq2 hq3 h_3 h_4 h_5 h_6 h_7 h_8 h_9 h_10 h_11 h_12 h_13 h_14 h_15 h_69 h_71 h_478 h_479 h_480 h_481; omega) | omega, ⟨h_487.1, h_487.2⟩, by decide, by decide⟩ ?_
              refine q_aload_n rfl rfl ?_
              have kn_492 : Hid (c_488 41 3 = e1) := (hF_490 41 3 (fun h => absurd h.2 (ni rfl))).trans (hid kn_483)
              refine v_cv rfl rfl rfl rfl (by decide) ⟨⟨rfl, rfl⟩, by decide, rfl⟩ (Nat.le_of_ble_eq_true rfl) (Nat.le_of_ble_eq_true rfl) (f_154 (e1 := e1) (a9 := (nx F e1 a)) (B := H) (r8 := (nx F e1 a)) (r := (hb H e1 (nx F e1 a))) hI_489 ((hid kn_492)) ((h_491)) (fun j => ((hF_490 43 j (fun h => absurd h.1 (nn rfl))).trans (hFc 43 j (fun q => q.elim (fun h => absurd h.1 (nn rfl)) (fun q => q.elim (fun h => absurd h.1 (nn rfl)) (fun q => q.elim (fun h => absurd h.1 (nn rfl)) (fun q => q.elim (fun h => absurd h.1 (nn rfl)) (fun q => q.elim (fun h => absurd h.1 (nn rfl)) (fun q => q.elim (fun h => absurd h (nn rfl)) (fun h => absurd h (nn rfl)))))))))).trans (hH j)) ((nx_tr hU (by first | (clear ha2 hq0 hq1 hq2 hq3 hq4 hq5 h_1 h_2 h_3 h_4 h_5 h_6 h_7 h_8 h_9 h_10 h_11 h_12 h_13 h_14 h_15 h_16 h_69 h_71 h_81 h_478 h_479 h_480 h_481 h_484 h_485 h_487 h_72 h_486; omega) | omega) (by first | (clear ha2 hq0 hq1 hq2 hq3 hq4 h_1 h_2 h_3 h_4 h_5 h_6 h_7 h_8 h_9 h_10 h_11 h_12 h_13 h_14 h_15 h_16 h_69 h_70 h_71 h_81 h_478 h_479 h_480 h_481 h_484 h_485 h_487 h_72 h_486; omega) | omega)).trans ((nx_z (by omega)))) rfl (fun c_493 hI_494 hF_495 h_496 => ?_))
              refine bk_inl ?_
              refine v_bip rfl (by decide) ?_
              refine v_ic_eq_t (t := 38) rfl (by decide) (by first | (clear ha2 hq0 hq1 hq2 hq3 h_3 h_4 h_5 h_6 h_7 h_8 h_9 h_10 h_11 h_12 h_13 h_14 h_15 h_69 h_71 h_478 h_479 h_480 h_481; omega) | omega) ?_
              refine q_aload_n rfl rfl ?_
              have kn_497 : Hid (c_493 41 3 = e1) := (hF_495 41 3 (fun h => absurd h.2 (ni rfl))).trans (hid kn_492)
              refine v_cv rfl rfl rfl rfl (by decide) ⟨⟨rfl, rfl⟩, by decide, rfl⟩ (Nat.le_of_ble_eq_true rfl) (Nat.le_of_ble_eq_true rfl) (f_154 (e1 := e1) (a9 := (nx F e1 a)) (B := H) (r8 := (nx F e1 a)) (r := (hb H e1 (nx F e1 a))) hI_494 ((hid kn_497)) ((h_496)) (fun j => ((hF_495 43 j (fun h => absurd h.1 (nn rfl))).trans ((hF_490 43 j (fun h => absurd h.1 (nn rfl))).trans (hFc 43 j (fun q => q.elim (fun h => absurd h.1 (nn rfl)) (fun q => q.elim (fun h => absurd h.1 (nn rfl)) (fun q => q.elim (fun h => absurd h.1 (nn rfl)) (fun q => q.elim (fun h => absurd h.1 (nn rfl)) (fun q => q.elim (fun h => absurd h.1 (nn rfl)) (fun q => q.elim (fun h => absurd h (nn rfl)) (fun h => absurd h (nn rfl))))))))))).trans (hH j)) ((nx_tr hU (by first | (clear ha2 hq0 hq1 hq2 hq3 hq4 hq5 h_1 h_2 h_3 h_4 h_5 h_6 h_7 h_8 h_9 h_10 h_11 h_12 h_13 h_14 h_15 h_16 h_69 h_71 h_81 h_478 h_479 h_480 h_481 h_484 h_485 h_487 h_72 h_486; omega) | omega) (by first | (clear ha2 hq0 hq1 hq2 hq3 hq4 h_1 h_2 h_3 h_4 h_5 h_6 h_7 h_8 h_9 h_10 h_11 h_12 h_13 h_14 h_15 h_16 h_69 h_70 h_71 h_81 h_478 h_479 h_480 h_481 h_484 h_485 h_487 h_72 h_486; omega) | omega)).trans ((nx_z (by omega)))) rfl (fun c_498 hI_499 hF_500 h_501 => ?_))
              refine bk_inl ?_
              refine v_bip rfl (by decide) ?_
              refine v_ic_ne_t (t := 51) rfl (by decide) ⟨by first | (clear ha2 hq0 hq1 hq2 hq3 h_3 h_4 h_5 h_6 h_7 h_8 h_9 h_10 h_11 h_12 h_13 h_14 h_15 h_69 h_71 h_478 h_479 h_480 h_481; omega) | omega, ⟨h_487.1, h_487.2⟩, by decide, by decide⟩ ?_
              refine q_aload_n rfl rfl ?_
              have kn_502 : Hid (c_498 41 3 = e1) := (hF_500 41 3 (fun h => absurd h.2 (ni rfl))).trans (hid kn_497)
              refine v_cv rfl rfl rfl rfl (by decide) ⟨⟨rfl, rfl⟩, by decide, rfl⟩ (Nat.le_of_ble_eq_true rfl) (Nat.le_of_ble_eq_true rfl) (f_154 (e1 := e1) (a9 := (nx F e1 a)) (B := H) (r8 := (nx F e1 a)) (r := (hb H e1 (nx F e1 a))) hI_499 ((hid kn_502)) ((h_501)) (fun j => ((hF_500 43 j (fun h => absurd h.1 (nn rfl))).trans ((hF_495 43 j (fun h => absurd h.1 (nn rfl))).trans ((hF_490 43 j (fun h => absurd h.1 (nn rfl))).trans (hFc 43 j (fun q => q.elim (fun h => absurd h.1 (nn rfl)) (fun q => q.elim (fun h => absurd h.1 (nn rfl)) (fun q => q.elim (fun h => absurd h.1 (nn rfl)) (fun q => q.elim (fun h => absurd h.1 (nn rfl)) (fun q => q.elim (fun h => absurd h.1 (nn rfl)) (fun q => q.elim (fun h => absurd h (nn rfl)) (fun h => absurd h (nn rfl)))))))))))).trans (hH j)) ((nx_tr hU (by first | (clear ha2 hq0 hq1 hq2 hq3 hq4 hq5 h_1 h_2 h_3 h_4 h_5 h_6 h_7 h_8 h_9 h_10 h_11 h_12 h_13 h_14 h_15 h_16 h_69 h_71 h_81 h_478 h_479 h_480 h_481 h_484 h_485 h_487 h_72 h_486; omega) | omega) (by first | (clear ha2 hq0 hq1 hq2 hq3 hq4 h_1 h_2 h_3 h_4 h_5 h_6 h_7 h_8 h_9 h_10 h_11 h_12 h_13 h_14 h_15 h_16 h_69 h_70 h_71 h_81 h_478 h_479 h_480 h_481 h_484 h_485 h_487 h_72 h_486; omega) | omega)).trans ((nx_z (by omega)))) rfl (fun c_503 hI_504 hF_505 h_506 => ?_))
              refine bk_inl ?_
              refine v_bip rfl (by decide) ?_
              refine v_ic_ne_f (t := 64) rfl (by decide) (by first | (clear ha2 hq0 hq1 hq2 hq3 h_3 h_4 h_5 h_6 h_7 h_8 h_9 h_10 h_11 h_12 h_13 h_14 h_15 h_69 h_71 h_478 h_479 h_480 h_481; omega) | omega) ?_
              refine q_iconst rfl ?_
              refine q_goto (t := 66) rfl (by decide) ?_
              refine q_istore_n rfl (by decide) ?_
              refine q_aload_n rfl rfl ?_
              refine q_dup rfl rfl ?_
              refine v_gi (z := 4) (v := (nx F e1 a)) rfl rfl rfl (by decide) rfl rfl (h_506) ?_
              refine q_iconst rfl ?_
              refine v_iadd (v := (nx F e1 a) + 1) rfl rfl ?_
              refine v_pi (z := 4) rfl rfl rfl (by decide) rfl rfl rfl (by decide) ?_
              refine q_aload_n rfl rfl ?_
              have kn_507 : Hid (c_488 41 5 = (-1)) := (hF_490 41 5 (fun h => absurd h.2 (ni rfl))).trans (hc_1)
              have kn_508 : Hid (c_493 41 5 = (-1)) := (hF_495 41 5 (fun h => absurd h.2 (ni rfl))).trans (hid kn_507)
              have kn_509 : Hid (c_498 41 5 = (-1)) := (hF_500 41 5 (fun h => absurd h.2 (ni rfl))).trans (hid kn_508)
              have kn_510 : Hid (c_503 41 5 = (-1)) := (hF_505 41 5 (fun h => absurd h.2 (ni rfl))).trans (hid kn_509)
              have hI_511 := iw_41_4 (v := (nx F e1 a) + 1) hI_504 ⟨by first | exact rgp_l (rg_be h_70 (ha.1) ((rg_eq hg_e1 h_1).2)).1 (by decide) | omega, by first | exact rgp_h (rg_be h_70 (ha.1) ((rg_eq hg_e1 h_1).2)).2 (by decide) | omega⟩
              have kn_512 : Hid (c_78 1 1 = e1) := (hF_80 1 1 (fun h => absurd h.2 (ni rfl))).trans (hid kn_68)
              have kn_513 : Hid (c_503 41 3 = e1) := (hF_505 41 3 (fun h => absurd h.2 (ni rfl))).trans (hid kn_502)
              have kn_514 : Hid (c_78 1 5 = (-1)) := (hF_80 1 5 (fun h => absurd h.2 (ni rfl))).trans (hc_2)
              have kn_515 : Hid (c_78 (A + 7) 5 = nw) := (hF_80 (A + 7) 5 (fun h => absurd h.1 (np hA rfl rfl))).trans (hg_nw)
              have kn_516 : Hid (c_488 41 29 = nw) := (hF_490 41 29 (fun h => absurd h.2 (ni rfl))).trans (hr_nw)
              have kn_517 : Hid (c_493 41 29 = nw) := (hF_495 41 29 (fun h => absurd h.2 (ni rfl))).trans (hid kn_516)
              have kn_518 : Hid (c_498 41 29 = nw) := (hF_500 41 29 (fun h => absurd h.2 (ni rfl))).trans (hid kn_517)
              have kn_519 : Hid (c_503 41 29 = nw) := (hF_505 41 29 (fun h => absurd h.2 (ni rfl))).trans (hid kn_518)
              have kn_520 : Hid (c_488 41 7 = a2) := (hF_490 41 7 (fun h => absurd h.2 (ni rfl))).trans (hc_3)
              have kn_521 : Hid (c_493 41 7 = a2) := (hF_495 41 7 (fun h => absurd h.2 (ni rfl))).trans (hid kn_520)
              have kn_522 : Hid (c_498 41 7 = a2) := (hF_500 41 7 (fun h => absurd h.2 (ni rfl))).trans (hid kn_521)
              have kn_523 : Hid (c_503 41 7 = a2) := (hF_505 41 7 (fun h => absurd h.2 (ni rfl))).trans (hid kn_522)
              have h_524 : c_78 1 4 = 0 := (hid kn_473)
              have h_525 : c_78 1 2 = (nx F e1 a) + 1 := (hz_82)
              have h_526 : c_78 1 5 = (-1) := (hid kn_514)
              have h_527 : (up c_503 41 4 ((nx F e1 a) + 1)) 41 5 = (-1) := ((up_n (by decide)).trans (hid kn_510))
              have h_528 : (up c_503 41 4 ((nx F e1 a) + 1)) 41 4 = (nx F e1 a) + 1 := (up_e rfl)
              have h_529 := ir_41_6 hI2
              have kn_530 : Hid (c_488 41 6 = c2 41 6) := hF_490 41 6 (fun h => absurd h.2 (ni rfl))
              have kn_531 : Hid (c_493 41 6 = c2 41 6) := (hF_495 41 6 (fun h => absurd h.2 (ni rfl))).trans (hid kn_530)
              have kn_532 : Hid (c_498 41 6 = c2 41 6) := (hF_500 41 6 (fun h => absurd h.2 (ni rfl))).trans (hid kn_531)
              have kn_533 : Hid (c_503 41 6 = c2 41 6) := (hF_505 41 6 (fun h => absurd h.2 (ni rfl))).trans (hid kn_532)
              have h_534 : (up c_503 41 4 ((nx F e1 a) + 1)) 41 6 = c2 41 6 := ((up_n (by decide)).trans (hid kn_533))
              have hA_535 : Ce nw (c_78 (A + 9)) ((up c_503 41 4 ((nx F e1 a) + 1)) 50) ((up c_503 41 4 ((nx F e1 a) + 1)) 51) := ce_fr hrl0 (fun j => hF_80 (A + 9) j (fun h => absurd h.1 (np hA rfl rfl))) (fun j => (up_c (nn rfl)).trans ((hF_505 50 j (fun h => absurd h.1 (nn rfl))).trans ((hF_500 50 j (fun h => absurd h.1 (nn rfl))).trans ((hF_495 50 j (fun h => absurd h.1 (nn rfl))).trans (hF_490 50 j (fun h => absurd h.1 (nn rfl))))))) (fun j => (up_c (nn rfl)).trans ((hF_505 51 j (fun h => absurd h.1 (nn rfl))).trans ((hF_500 51 j (fun h => absurd h.1 (nn rfl))).trans ((hF_495 51 j (fun h => absurd h.1 (nn rfl))).trans (hF_490 51 j (fun h => absurd h.1 (nn rfl)))))))
              refine v_cv rfl rfl rfl rfl (by decide) ⟨⟨rfl, rfl⟩, by decide, rfl⟩ (Nat.le_of_ble_eq_true rfl) (Nat.le_of_ble_eq_true rfl) (L_14 (m := c_78) (a2 := a2) (e1 := e1) (f0 := 0) (g0 := (-1)) (p0 := (nx F e1 a) + 1) (n0 := nw) (o0 := a2) (F := F) (H := H) hI_511 hI_79 hI_475 hA (show 0 ≤ a2 ∧ a2 ≤ 6 from ha2) (by first | (clear ha2 hq0 hq1 hq2 hq3 hq4 hq5 h_1 h_2 h_3 h_4 h_5 h_6 h_7 h_8 h_9 h_10 h_11 h_12 h_13 h_14 h_15 h_16 h_69 h_70 h_71 h_81 h_478 h_479 h_480 h_481 h_484 h_485 h_487 h_72 h_486; omega) | omega) (by first | (clear ha2 hq0 hq1 hq2 hq3 hq4 hq5 h_1 h_2 h_3 h_4 h_5 h_6 h_7 h_8 h_9 h_10 h_11 h_12 h_13 h_14 h_15 h_16 h_69 h_70 h_71 h_81 h_478 h_479 h_480 h_481 h_484 h_485 h_487 h_72 h_486; omega) | omega) (by first | (clear ha2 hq0 hq1 hq2 hq3 hq4 hq5 h_1 h_2 h_3 h_4 h_5 h_6 h_7 h_8 h_9 h_10 h_11 h_12 h_13 h_14 h_15 h_16 h_69 h_70 h_71 h_81 h_478 h_479 h_480 h_481 h_484 h_485 h_487 h_72 h_486; omega) | omega) (by first | (clear ha2 hq0 hq1 hq2 hq4 hq5 h_1 h_2 h_3 h_4 h_5 h_6 h_7 h_8 h_9 h_10 h_11 h_12 h_13 h_14 h_15 h_69 h_71 h_81 h_478 h_479 h_480 h_481 h_484 h_485 h_487 h_72 h_486; omega) | omega) (by first | (clear ha2 hq0 hq1 hq2 hq3 hq4 hq5 h_1 h_2 h_3 h_4 h_5 h_6 h_7 h_8 h_9 h_10 h_11 h_12 h_13 h_14 h_15 h_16 h_69 h_70 h_71 h_478 h_479 h_480 h_481 h_484 h_485 h_487 h_72 h_486; omega) | omega) (by first | (clear ha2 hq0 hq1 hq2 hq3 hq4 h_1 h_2 h_3 h_4 h_5 h_6 h_7 h_8 h_9 h_10 h_11 h_12 h_13 h_14 h_15 h_16 h_69 h_70 h_71 h_81 h_478 h_479 h_480 h_481 h_484 h_485 h_487 h_72 h_486; omega) | omega) ((hid kn_512)) (((up_n (by decide)).trans (hid kn_513))) ((hid kn_473)) ((hid kn_514)) ((hz_82)) ((hid kn_515)) (((up_n (by decide)).trans (hid kn_519))) (((up_n (by decide)).trans (hid kn_523))) (fun j => ((hF_80 2 j (fun h => absurd h.1 (nn rfl))).trans (hFm 2 j (fun q => q.elim (fun h => absurd h.1 (nn rfl)) (fun q => q.elim (fun h => absurd h.1 (nn rfl)) (fun q => q.elim (fun h => absurd h.1 (nn rfl)) (fun q => q.elim (fun h => absurd h.1 (pn hA rfl rfl)) (fun h => absurd h (pn hA rfl rfl)))))))).trans (hF j)) (fun j => ((up_c (nn rfl)).trans ((hF_505 43 j (fun h => absurd h.1 (nn rfl))).trans ((hF_500 43 j (fun h => absurd h.1 (nn rfl))).trans ((hF_495 43 j (fun h => absurd h.1 (nn rfl))).trans ((hF_490 43 j (fun h => absurd h.1 (nn rfl))).trans (hFc 43 j (fun q => q.elim (fun h => absurd h.1 (nn rfl)) (fun q => q.elim (fun h => absurd h.1 (nn rfl)) (fun q => q.elim (fun h => absurd h.1 (nn rfl)) (fun q => q.elim (fun h => absurd h.1 (nn rfl)) (fun q => q.elim (fun h => absurd h.1 (nn rfl)) (fun q => q.elim (fun h => absurd h (nn rfl)) (fun h => absurd h (nn rfl)))))))))))))).trans (hH j)) hU (rt_i1 ⟨by first | (clear ha2 hq0 hq1 hq2 hq3 hq4 hq5 h_1 h_2 h_3 h_4 h_5 h_6 h_7 h_8 h_9 h_10 h_11 h_12 h_13 h_14 h_15 h_16 h_69 h_70 h_71 h_81 h_478 h_479 h_480 h_481 h_484 h_485 h_487 h_529 h_72 h_486; omega) | omega, by first | (clear ha2 hq0 hq1 hq2 hq3 hq4 hq5 h_1 h_2 h_3 h_4 h_5 h_6 h_7 h_8 h_9 h_10 h_11 h_12 h_13 h_14 h_15 h_16 h_69 h_70 h_71 h_81 h_478 h_479 h_480 h_481 h_484 h_485 h_487 h_529 h_72 h_486; omega) | omega, by first | (clear ha2 hq0 hq1 hq2 hq3 hq4 hq5 h_1 h_2 h_3 h_4 h_5 h_6 h_7 h_8 h_9 h_10 h_11 h_12 h_13 h_14 h_15 h_16 h_69 h_70 h_71 h_81 h_478 h_479 h_480 h_481 h_484 h_485 h_487 h_529 h_72 h_486; omega) | omega, by first | (clear ha2 hq0 hq1 hq2 hq3 hq4 hq5 h_1 h_2 h_3 h_4 h_5 h_6 h_7 h_8 h_9 h_10 h_11 h_12 h_13 h_14 h_15 h_16 h_69 h_70 h_71 h_81 h_478 h_479 h_480 h_481 h_484 h_485 h_487 h_529 h_72 h_486; omega) | omega⟩) (ce_le hA_535 (by omega)) H13 hG_477 (fun c_536 hI_537 hF_538 hR_540 h_541 h_542 hA_543 => ?_))
              refine bk_inl ?_
              have h_544 := ir_41_29 hI_537
              have h_545 := ir_1_2 hI_475
              have h_546 := ir_41_7 hI_537
              refine q_aload_n rfl rfl ?_
              refine q_iload_n rfl rfl ?_
              refine q_iconst rfl ?_
              refine v_cv rfl rfl rfl rfl (by decide) ⟨⟨rfl, rfl⟩, by decide, rfl⟩ (Nat.le_of_ble_eq_true rfl) (Nat.le_of_ble_eq_true rfl) ?_
              refine q_aload_n rfl rfl ?_
              refine v_cv rfl rfl rfl rfl (by decide) ⟨⟨rfl, rfl⟩, by decide, rfl⟩ (Nat.le_of_ble_eq_true rfl) (Nat.le_of_ble_eq_true rfl) ?_
              refine q_aload_n rfl rfl ?_
              have h_547 := ir_41_5 hI_537
              have h_548 := ir_1_5 hI_475
              have h_549 := ir_41_4 hI_537
              have h_550 := ir_41_6 hI_537
              have h_551 := rt_ok hR_540 (by omega)
              have hro_hR_540 := rt_ok hR_540 (by omega)
              refine v_gi (z := 5) (v := (-1)) rfl rfl rfl (by decide) rfl rfl hro_hR_540.2.1 ?_
              refine q_iconst rfl ?_
              refine v_ic_ne_f (t := 12) rfl (by decide) (by decide) ?_
              refine q_iconst rfl ?_
              refine q_goto (t := 13) rfl (by decide) ?_
              refine v_zret rfl rfl (by decide) ?_
              refine bk_inl ?_
              refine v_if_ne_t (t := 8) rfl (by decide) (by decide) ?_
              refine q_aload_n rfl rfl ?_
              refine v_gr (t := 50) rfl rfl rfl (by decide) rfl ?_
              refine q_aload_n rfl rfl ?_
              refine v_gi (z := 29) (v := c_536 41 29) rfl rfl rfl (by decide) rfl rfl rfl ?_
              refine q_iload_n rfl rfl ?_
              refine v_is rfl rfl (by decide) (by decide) (by omega) ?_
              refine q_aload_n rfl rfl ?_
              refine v_gr (t := 51) rfl rfl rfl (by decide) rfl ?_
              refine q_aload_n rfl rfl ?_
              refine v_gi (z := 29) (v := c_536 41 29) rfl rfl rfl (by decide) rfl rfl (up_c (nn rfl)) ?_
              refine q_iload_n rfl rfl ?_
              refine v_is rfl rfl (by decide) (by decide) (by omega) ?_
              refine q_aload_n rfl rfl ?_
              refine q_dup rfl rfl ?_
              refine v_gi (z := 29) (v := c_536 41 29) rfl rfl rfl (by decide) rfl rfl ((up_c (nn rfl)).trans (up_c (nn rfl))) ?_
              refine q_iconst rfl ?_
              refine v_iadd (v := c_536 41 29 + 1) rfl rfl ?_
              refine v_pi (z := 29) rfl rfl rfl (by decide) rfl rfl rfl (by decide) ?_
              refine q_vret rfl rfl ?_
              refine bk_inl ?_
              refine q_goto (t := 4) rfl (by decide) ?_
              have hI_552 := iw_50 (j := c_536 41 29) (v := 5) hI_537 ⟨by decide, by decide⟩
              have hI_553 := iw_51 (j := c_536 41 29) (v := 0) hI_552 ⟨by decide, by decide⟩
              have hI_554 := iw_41_29 (v := c_536 41 29 + 1) hI_553 ⟨by first | exact rgp_l h_544.1 (by decide) | omega, by first | (clear hq0 hq1 h_3 h_4 h_8 h_13 h_14 h_15 h_69 h_529 h_546 h_550; omega) | omega⟩
              refine Wp_ls [(0, .ref 41)] (lsub_cons rfl lsub_nil) ?_
              have hA_555 : Ce (c_474 (A + 7) 5) (c_474 (A + 9)) ((up (up (up c_536 50 (c_536 41 29) 5) 51 (c_536 41 29) 0) 41 29 (c_536 41 29 + 1)) 50) ((up (up (up c_536 50 (c_536 41 29) 5) 51 (c_536 41 29) 0) 41 29 (c_536 41 29 + 1)) 51) := ce_z (by omega)
              exact ih (up (up (up c_536 50 (c_536 41 29) 5) 51 (c_536 41 29) 0) 41 29 (c_536 41 29 + 1)) c_474 (v + 1) (c_474 1 2) (c_474 (A + 7) 5) hI_554 (fun a j hm => (up_b (Decidable.or_iff_not_imp_left.mpr (fun h1 h2 => hm (Or.inr (Or.inr (Or.inr (Or.inr (Or.inl ⟨Decidable.not_not.mp h1, h2⟩)))))))).trans ((up_b (Decidable.or_iff_not_imp_left.mpr (fun h1 h2 => hm (Or.inr (Or.inr (Or.inr (Or.inr (Or.inr (Or.inr (Decidable.not_not.mp h1)))))))))).trans ((up_b (Decidable.or_iff_not_imp_left.mpr (fun h1 h2 => hm (Or.inr (Or.inr (Or.inr (Or.inr (Or.inr (Or.inl (Decidable.not_not.mp h1)))))))))).trans ((hF_538 a j (fun q => q.elim (fun h => hm (Or.inl h)) (fun q => q.elim (fun h => hm (Or.inr (Or.inl h))) (fun q => q.elim (fun h => hm (Or.inr (Or.inr (Or.inl h)))) (fun q => q.elim (fun h => hm (Or.inr (Or.inr (Or.inr (Or.inl h))))) (fun q => q.elim (fun h => hm (Or.inr (Or.inr (Or.inr (Or.inr (Or.inl h)))))) (fun q => q.elim (fun h => hm (Or.inr (Or.inr (Or.inr (Or.inr (Or.inr (Or.inl h))))))) (fun h => hm (Or.inr (Or.inr (Or.inr (Or.inr (Or.inr (Or.inr h)))))))))))))).trans ((up_b (Decidable.or_iff_not_imp_left.mpr (fun h1 h2 => hm (Or.inl ⟨Decidable.not_not.mp h1, h2⟩)))).trans ((hF_505 a j (fun h => hm (Or.inl h))).trans ((hF_500 a j (fun h => hm (Or.inl h))).trans ((hF_495 a j (fun h => hm (Or.inl h))).trans ((hF_490 a j (fun h => hm (Or.inl h))).trans (hFc a j (fun q => q.elim (fun h => hm (Or.inl h)) (fun q => q.elim (fun h => hm (Or.inr (Or.inl h))) (fun q => q.elim (fun h => hm (Or.inr (Or.inr (Or.inl h)))) (fun q => q.elim (fun h => hm (Or.inr (Or.inr (Or.inr (Or.inl h))))) (fun q => q.elim (fun h => hm (Or.inr (Or.inr (Or.inr (Or.inr (Or.inl h)))))) (fun q => q.elim (fun h => hm (Or.inr (Or.inr (Or.inr (Or.inr (Or.inr (Or.inl h))))))) (fun h => hm (Or.inr (Or.inr (Or.inr (Or.inr (Or.inr (Or.inr h))))))))))))))))))))))) hI_475 (fun a j hm => (hF_476 a j (fun q => q.elim (fun h => hm (Or.inl h)) (fun q => q.elim (fun h => hm (Or.inr (Or.inl h))) (fun q => q.elim (fun h => hm (Or.inr (Or.inr (Or.inl h)))) (fun q => q.elim (fun h => hm (Or.inr (Or.inr (Or.inr (Or.inl h))))) (fun h => hm (Or.inr (Or.inr (Or.inr (Or.inr h)))))))))).trans ((hF_80 a j (fun h => hm (Or.inl h))).trans (hFm a j (fun q => q.elim (fun h => hm (Or.inl h)) (fun q => q.elim (fun h => hm (Or.inr (Or.inl h))) (fun q => q.elim (fun h => hm (Or.inr (Or.inr (Or.inl h)))) (fun q => q.elim (fun h => hm (Or.inr (Or.inr (Or.inr (Or.inl h))))) (fun h => hm (Or.inr (Or.inr (Or.inr (Or.inr h)))))))))))) ⟨by omega, by omega⟩ ⟨by omega, by omega⟩ ⟨by omega, by omega⟩ (rfl) (((((up_n (by decide)).trans ((up_c (nn rfl)).trans (up_c (nn rfl))))).trans (hro_hR_540.2.2.1))) (rfl) ((show _ = c_536 41 29 + 1 from (up_e rfl)).trans (by omega)) ((show _ = c_474 1 4 from rfl).trans (by omega)) (((((up_n (by decide)).trans ((up_c (nn rfl)).trans (up_c (nn rfl))))).trans (hro_hR_540.2.1))) ((show _ = c_474 1 5 from rfl).trans (by omega)) ((show _ = c_536 41 7 from ((up_n (by decide)).trans ((up_c (nn rfl)).trans (up_c (nn rfl))))).trans (by omega)) (by first | (clear hq0 hq1 h_3 h_4 h_8 h_13 h_14 h_15 h_69 h_71 h_484 h_485 h_487 h_529 h_546 h_550; omega) | omega) (by first | (clear hq0 hq1 h_3 h_4 h_8 h_13 h_14 h_15 h_69 h_71 h_484 h_485 h_487 h_529 h_546 h_550; omega) | omega) (by first | (clear ha2 hq0 hq1 hq2 hq3 h_3 h_4 h_5 h_6 h_7 h_8 h_9 h_10 h_11 h_12 h_13 h_14 h_15 h_69 h_71 h_478 h_479 h_480 h_481 h_484 h_485 h_487 h_529 h_544 h_546 h_542 h_547 h_548 h_549 h_550; omega) | omega) (by first | (clear hq0 hq1 h_3 h_4 h_8 h_13 h_14 h_15 h_69 h_71 h_484 h_485 h_487 h_529 h_546 h_550; omega) | omega) (ce_le hA_555 (by omega)) hG_482 (by omega)
            · skip
              refine q_iload_n rfl rfl ?_
              refine v_sip rfl (by decide) ?_
              by_cases h_556 : v + 1 ≥ 150
              · refine v_ic_ge_t (t := 59) rfl (by decide) ⟨by decide, h_556, by first | exact rgp_h hv.2 (by decide) | omega⟩ ?_
                refine q_vret rfl rfl ?_
                intro hE_557
                have hW : Wd P Q P P c_474 = Wd P Q P P m9 := (Prod.mk.inj (Prod.mk.inj hE_557).2).1
                have h_558 := ir_1_4 hJ9
                have h_559 : m9 1 4 = c_474 1 4 := wd_fv (z := 4) 4 rfl hW rfl rfl rfl rfl (by decide) rfl ⟨(Int.le_trans (by decide) h_480.1), (Int.le_trans h_480.2 (by decide))⟩ ⟨(Int.le_trans (by decide) h_558.1), (Int.le_trans h_558.2 (by decide))⟩
                have h_560 := ir_1_2 hI_475
                have h_561 := ir_1_2 hJ9
                have h_562 : m9 1 2 = c_474 1 2 := wd_fv (z := 2) 2 rfl hW rfl rfl rfl rfl (by decide) rfl ⟨(Int.le_trans (by decide) h_560.1), (Int.le_trans h_560.2 (by decide))⟩ ⟨(Int.le_trans (by decide) h_561.1), (Int.le_trans h_561.2 (by decide))⟩
                have h_563 := ir_1_5 hI_475
                have h_564 := ir_1_5 hJ9
                have h_565 : m9 1 5 = c_474 1 5 := wd_fv (z := 5) 5 rfl hW rfl rfl rfl rfl (by decide) rfl ⟨(Int.le_trans (by decide) h_563.1), (Int.le_trans h_563.2 (by decide))⟩ ⟨(Int.le_trans (by decide) h_564.1), (Int.le_trans h_564.2 (by decide))⟩
                have h_566 := ir_p7_5 hJ9 hA
                have h_567 : m9 (A + 7) 5 = c_474 (A + 7) 5 := wd_fv (z := 5) 5 rfl hW (ck_p7 hA) (ck_p7 hA) rfl rfl (by omega) rfl ⟨(Int.le_trans (by decide) h_478.1), (Int.le_trans h_478.2 (by decide))⟩ ⟨(Int.le_trans (by decide) h_566.1), (Int.le_trans h_566.2 (by decide))⟩
                refine q_aload_n rfl rfl ?_
                refine v_cv rfl rfl rfl rfl (by decide) ⟨⟨rfl, rfl⟩, by decide, rfl⟩ (Nat.le_of_ble_eq_true rfl) (Nat.le_of_ble_eq_true rfl) ?_
                refine q_aload_n rfl rfl ?_
                refine v_gi (z := 5) (v := (-1)) rfl rfl rfl (by decide) rfl rfl (hc_1) ?_
                refine q_iconst rfl ?_
                refine v_ic_ne_f (t := 12) rfl (by decide) (by decide) ?_
                refine q_iconst rfl ?_
                refine q_goto (t := 13) rfl (by decide) ?_
                refine v_zret rfl rfl (by decide) ?_
                refine bk_inl ?_
                refine v_if_eq_f (t := 90) rfl (by decide) (by decide) ?_
                refine q_aload_n rfl rfl ?_
                have kn_568 : Hid (c2 41 3 = e1) := (hFc 41 3 (fun q => q.elim (fun h => absurd h.2 (ni rfl)) (fun q => q.elim (fun h => absurd h.2 (ni rfl)) (fun q => q.elim (fun h => absurd h.2 (ni rfl)) (fun q => q.elim (fun h => absurd h.2 (ni rfl)) (fun q => q.elim (fun h => absurd h.2 (ni rfl)) (fun q => q.elim (fun h => absurd h (nn rfl)) (fun h => absurd h (nn rfl))))))))).trans (hr_e1)
                have h_569 : -2147483648 ≤ (H (nx F e1 a)) ∧ (H (nx F e1 a)) ≤ 2147483647 := by rw [← hH (nx F e1 a)]; exact ir_43 hI (nx F e1 a)
                have h_570 := hU (nx F e1 a) (by omega) (by omega)
                have h_571 := hb_or (b := H) (e := e1) (r := (nx F e1 a))
                have h_572 := hb_bd (b := H) (e := e1) (r := (nx F e1 a)) (lo := -2147483648) (hi := 2147483647) h_569 (by decide)
                refine v_cv rfl rfl rfl rfl (by decide) ⟨⟨rfl, rfl⟩, by decide, rfl⟩ (Nat.le_of_ble_eq_true rfl) (Nat.le_of_ble_eq_true rfl) (f_154 (e1 := e1) (a9 := a) (B := H) (r8 := (nx F e1 a)) (r := (hb H e1 (nx F e1 a))) hI2 ((hid kn_568)) ((hr_a)) (fun j => (hFc 43 j (fun q => q.elim (fun h => absurd h.1 (nn rfl)) (fun q => q.elim (fun h => absurd h.1 (nn rfl)) (fun q => q.elim (fun h => absurd h.1 (nn rfl)) (fun q => q.elim (fun h => absurd h.1 (nn rfl)) (fun q => q.elim (fun h => absurd h.1 (nn rfl)) (fun q => q.elim (fun h => absurd h (nn rfl)) (fun h => absurd h (nn rfl))))))))).trans (hH j)) ((nx_tr hU (by first | (clear ha2 hq0 hq1 hq2 hq3 hq4 hq5 h_1 h_2 h_3 h_4 h_5 h_6 h_7 h_8 h_9 h_10 h_11 h_12 h_13 h_14 h_15 h_69 h_70 h_71 h_81 h_478 h_479 h_480 h_558 h_559 h_560 h_561 h_562 h_563 h_564 h_565 h_566 h_567 h_72; omega) | omega) (by first | (clear ha2 hq0 hq1 hq2 hq3 hq4 h_1 h_2 h_3 h_4 h_5 h_6 h_7 h_8 h_9 h_10 h_11 h_12 h_13 h_14 h_15 h_16 h_69 h_70 h_71 h_81 h_478 h_479 h_480 h_556 h_558 h_559 h_560 h_561 h_562 h_563 h_564 h_565 h_566 h_567 h_72; omega) | omega)).trans (rfl)) rfl (fun c_573 hI_574 hF_575 h_576 => ?_))
                refine bk_inl ?_
                refine v_bip rfl (by decide) ?_
                refine v_ic_eq_f (t := 38) rfl (by decide) ⟨by first | (clear ha2 hq0 hq1 hq2 hq3 h_3 h_4 h_5 h_6 h_7 h_8 h_9 h_10 h_11 h_12 h_13 h_14 h_15 h_69 h_71 h_478 h_479 h_480 h_556 h_558 h_559 h_560 h_561 h_562 h_563 h_564 h_565 h_566 h_567; omega) | omega, ⟨h_572.1, h_572.2⟩, by decide, by decide⟩ ?_
                refine q_aload_n rfl rfl ?_
                have kn_577 : Hid (c_573 41 3 = e1) := (hF_575 41 3 (fun h => absurd h.2 (ni rfl))).trans (hid kn_568)
                refine v_cv rfl rfl rfl rfl (by decide) ⟨⟨rfl, rfl⟩, by decide, rfl⟩ (Nat.le_of_ble_eq_true rfl) (Nat.le_of_ble_eq_true rfl) (f_154 (e1 := e1) (a9 := (nx F e1 a)) (B := H) (r8 := (nx F e1 a)) (r := (hb H e1 (nx F e1 a))) hI_574 ((hid kn_577)) ((h_576)) (fun j => ((hF_575 43 j (fun h => absurd h.1 (nn rfl))).trans (hFc 43 j (fun q => q.elim (fun h => absurd h.1 (nn rfl)) (fun q => q.elim (fun h => absurd h.1 (nn rfl)) (fun q => q.elim (fun h => absurd h.1 (nn rfl)) (fun q => q.elim (fun h => absurd h.1 (nn rfl)) (fun q => q.elim (fun h => absurd h.1 (nn rfl)) (fun q => q.elim (fun h => absurd h (nn rfl)) (fun h => absurd h (nn rfl)))))))))).trans (hH j)) ((nx_tr hU (by first | (clear ha2 hq0 hq1 hq2 hq3 hq4 hq5 h_1 h_2 h_3 h_4 h_5 h_6 h_7 h_8 h_9 h_10 h_11 h_12 h_13 h_14 h_15 h_69 h_71 h_81 h_478 h_479 h_480 h_558 h_559 h_560 h_561 h_562 h_563 h_564 h_565 h_566 h_567 h_569 h_570 h_572 h_72 h_571; omega) | omega) (by first | (clear ha2 hq0 hq1 hq2 hq3 hq4 h_1 h_2 h_3 h_4 h_5 h_6 h_7 h_8 h_9 h_10 h_11 h_12 h_13 h_14 h_15 h_16 h_69 h_70 h_71 h_81 h_478 h_479 h_480 h_556 h_558 h_559 h_560 h_561 h_562 h_563 h_564 h_565 h_566 h_567 h_569 h_570 h_572 h_72 h_571; omega) | omega)).trans ((nx_z (by omega)))) rfl (fun c_578 hI_579 hF_580 h_581 => ?_))
                refine bk_inl ?_
                refine v_bip rfl (by decide) ?_
                refine v_ic_eq_t (t := 38) rfl (by decide) (by first | (clear ha2 hq0 hq1 hq2 hq3 h_3 h_4 h_5 h_6 h_7 h_8 h_9 h_10 h_11 h_12 h_13 h_14 h_15 h_69 h_71 h_478 h_479 h_480 h_556 h_558 h_559 h_560 h_561 h_562 h_563 h_564 h_565 h_566 h_567; omega) | omega) ?_
                refine q_aload_n rfl rfl ?_
                have kn_582 : Hid (c_578 41 3 = e1) := (hF_580 41 3 (fun h => absurd h.2 (ni rfl))).trans (hid kn_577)
                refine v_cv rfl rfl rfl rfl (by decide) ⟨⟨rfl, rfl⟩, by decide, rfl⟩ (Nat.le_of_ble_eq_true rfl) (Nat.le_of_ble_eq_true rfl) (f_154 (e1 := e1) (a9 := (nx F e1 a)) (B := H) (r8 := (nx F e1 a)) (r := (hb H e1 (nx F e1 a))) hI_579 ((hid kn_582)) ((h_581)) (fun j => ((hF_580 43 j (fun h => absurd h.1 (nn rfl))).trans ((hF_575 43 j (fun h => absurd h.1 (nn rfl))).trans (hFc 43 j (fun q => q.elim (fun h => absurd h.1 (nn rfl)) (fun q => q.elim (fun h => absurd h.1 (nn rfl)) (fun q => q.elim (fun h => absurd h.1 (nn rfl)) (fun q => q.elim (fun h => absurd h.1 (nn rfl)) (fun q => q.elim (fun h => absurd h.1 (nn rfl)) (fun q => q.elim (fun h => absurd h (nn rfl)) (fun h => absurd h (nn rfl))))))))))).trans (hH j)) ((nx_tr hU (by first | (clear ha2 hq0 hq1 hq2 hq3 hq4 hq5 h_1 h_2 h_3 h_4 h_5 h_6 h_7 h_8 h_9 h_10 h_11 h_12 h_13 h_14 h_15 h_69 h_71 h_81 h_478 h_479 h_480 h_558 h_559 h_560 h_561 h_562 h_563 h_564 h_565 h_566 h_567 h_569 h_570 h_572 h_72 h_571; omega) | omega) (by first | (clear ha2 hq0 hq1 hq2 hq3 hq4 h_1 h_2 h_3 h_4 h_5 h_6 h_7 h_8 h_9 h_10 h_11 h_12 h_13 h_14 h_15 h_16 h_69 h_70 h_71 h_81 h_478 h_479 h_480 h_556 h_558 h_559 h_560 h_561 h_562 h_563 h_564 h_565 h_566 h_567 h_569 h_570 h_572 h_72 h_571; omega) | omega)).trans ((nx_z (by omega)))) rfl (fun c_583 hI_584 hF_585 h_586 => ?_))
                refine bk_inl ?_
                refine v_bip rfl (by decide) ?_
                refine v_ic_ne_t (t := 51) rfl (by decide) ⟨by first | (clear ha2 hq0 hq1 hq2 hq3 h_3 h_4 h_5 h_6 h_7 h_8 h_9 h_10 h_11 h_12 h_13 h_14 h_15 h_69 h_71 h_478 h_479 h_480 h_556 h_558 h_559 h_560 h_561 h_562 h_563 h_564 h_565 h_566 h_567; omega) | omega, ⟨h_572.1, h_572.2⟩, by decide, by decide⟩ ?_
                refine q_aload_n rfl rfl ?_
                have kn_587 : Hid (c_583 41 3 = e1) := (hF_585 41 3 (fun h => absurd h.2 (ni rfl))).trans (hid kn_582)
                refine v_cv rfl rfl rfl rfl (by decide) ⟨⟨rfl, rfl⟩, by decide, rfl⟩ (Nat.le_of_ble_eq_true rfl) (Nat.le_of_ble_eq_true rfl) (f_154 (e1 := e1) (a9 := (nx F e1 a)) (B := H) (r8 := (nx F e1 a)) (r := (hb H e1 (nx F e1 a))) hI_584 ((hid kn_587)) ((h_586)) (fun j => ((hF_585 43 j (fun h => absurd h.1 (nn rfl))).trans ((hF_580 43 j (fun h => absurd h.1 (nn rfl))).trans ((hF_575 43 j (fun h => absurd h.1 (nn rfl))).trans (hFc 43 j (fun q => q.elim (fun h => absurd h.1 (nn rfl)) (fun q => q.elim (fun h => absurd h.1 (nn rfl)) (fun q => q.elim (fun h => absurd h.1 (nn rfl)) (fun q => q.elim (fun h => absurd h.1 (nn rfl)) (fun q => q.elim (fun h => absurd h.1 (nn rfl)) (fun q => q.elim (fun h => absurd h (nn rfl)) (fun h => absurd h (nn rfl)))))))))))).trans (hH j)) ((nx_tr hU (by first | (clear ha2 hq0 hq1 hq2 hq3 hq4 hq5 h_1 h_2 h_3 h_4 h_5 h_6 h_7 h_8 h_9 h_10 h_11 h_12 h_13 h_14 h_15 h_69 h_71 h_81 h_478 h_479 h_480 h_558 h_559 h_560 h_561 h_562 h_563 h_564 h_565 h_566 h_567 h_569 h_570 h_572 h_72 h_571; omega) | omega) (by first | (clear ha2 hq0 hq1 hq2 hq3 hq4 h_1 h_2 h_3 h_4 h_5 h_6 h_7 h_8 h_9 h_10 h_11 h_12 h_13 h_14 h_15 h_16 h_69 h_70 h_71 h_81 h_478 h_479 h_480 h_556 h_558 h_559 h_560 h_561 h_562 h_563 h_564 h_565 h_566 h_567 h_569 h_570 h_572 h_72 h_571; omega) | omega)).trans ((nx_z (by omega)))) rfl (fun c_588 hI_589 hF_590 h_591 => ?_))
                refine bk_inl ?_
                refine v_bip rfl (by decide) ?_
                refine v_ic_ne_f (t := 64) rfl (by decide) (by first | (clear ha2 hq0 hq1 hq2 hq3 h_3 h_4 h_5 h_6 h_7 h_8 h_9 h_10 h_11 h_12 h_13 h_14 h_15 h_69 h_71 h_478 h_479 h_480 h_556 h_558 h_559 h_560 h_561 h_562 h_563 h_564 h_565 h_566 h_567; omega) | omega) ?_
                refine q_iconst rfl ?_
                refine q_goto (t := 66) rfl (by decide) ?_
                refine q_istore_n rfl (by decide) ?_
                refine q_aload_n rfl rfl ?_
                refine q_dup rfl rfl ?_
                refine v_gi (z := 4) (v := (nx F e1 a)) rfl rfl rfl (by decide) rfl rfl (h_591) ?_
                refine q_iconst rfl ?_
                refine v_iadd (v := (nx F e1 a) + 1) rfl rfl ?_
                refine v_pi (z := 4) rfl rfl rfl (by decide) rfl rfl rfl (by decide) ?_
                refine q_aload_n rfl rfl ?_
                have kn_592 : Hid (c_573 41 5 = (-1)) := (hF_575 41 5 (fun h => absurd h.2 (ni rfl))).trans (hc_1)
                have kn_593 : Hid (c_578 41 5 = (-1)) := (hF_580 41 5 (fun h => absurd h.2 (ni rfl))).trans (hid kn_592)
                have kn_594 : Hid (c_583 41 5 = (-1)) := (hF_585 41 5 (fun h => absurd h.2 (ni rfl))).trans (hid kn_593)
                have kn_595 : Hid (c_588 41 5 = (-1)) := (hF_590 41 5 (fun h => absurd h.2 (ni rfl))).trans (hid kn_594)
                have hI_596 := iw_41_4 (v := (nx F e1 a) + 1) hI_589 ⟨by first | exact rgp_l (rg_be h_70 (ha.1) ((rg_eq hg_e1 h_1).2)).1 (by decide) | omega, by first | exact rgp_h (rg_be h_70 (ha.1) ((rg_eq hg_e1 h_1).2)).2 (by decide) | omega⟩
                have kn_597 : Hid (c_78 1 1 = e1) := (hF_80 1 1 (fun h => absurd h.2 (ni rfl))).trans (hid kn_68)
                have kn_598 : Hid (c_588 41 3 = e1) := (hF_590 41 3 (fun h => absurd h.2 (ni rfl))).trans (hid kn_587)
                have kn_599 : Hid (c_78 1 5 = (-1)) := (hF_80 1 5 (fun h => absurd h.2 (ni rfl))).trans (hc_2)
                have kn_600 : Hid (c_78 (A + 7) 5 = nw) := (hF_80 (A + 7) 5 (fun h => absurd h.1 (np hA rfl rfl))).trans (hg_nw)
                have kn_601 : Hid (c_573 41 29 = nw) := (hF_575 41 29 (fun h => absurd h.2 (ni rfl))).trans (hr_nw)
                have kn_602 : Hid (c_578 41 29 = nw) := (hF_580 41 29 (fun h => absurd h.2 (ni rfl))).trans (hid kn_601)
                have kn_603 : Hid (c_583 41 29 = nw) := (hF_585 41 29 (fun h => absurd h.2 (ni rfl))).trans (hid kn_602)
                have kn_604 : Hid (c_588 41 29 = nw) := (hF_590 41 29 (fun h => absurd h.2 (ni rfl))).trans (hid kn_603)
                have kn_605 : Hid (c_573 41 7 = a2) := (hF_575 41 7 (fun h => absurd h.2 (ni rfl))).trans (hc_3)
                have kn_606 : Hid (c_578 41 7 = a2) := (hF_580 41 7 (fun h => absurd h.2 (ni rfl))).trans (hid kn_605)
                have kn_607 : Hid (c_583 41 7 = a2) := (hF_585 41 7 (fun h => absurd h.2 (ni rfl))).trans (hid kn_606)
                have kn_608 : Hid (c_588 41 7 = a2) := (hF_590 41 7 (fun h => absurd h.2 (ni rfl))).trans (hid kn_607)
                have h_609 : c_78 1 4 = 0 := (hid kn_473)
                have h_610 : c_78 1 2 = (nx F e1 a) + 1 := (hz_82)
                have h_611 : c_78 1 5 = (-1) := (hid kn_599)
                have h_612 : (up c_588 41 4 ((nx F e1 a) + 1)) 41 5 = (-1) := ((up_n (by decide)).trans (hid kn_595))
                have h_613 : (up c_588 41 4 ((nx F e1 a) + 1)) 41 4 = (nx F e1 a) + 1 := (up_e rfl)
                have h_614 := ir_41_6 hI2
                have kn_615 : Hid (c_573 41 6 = c2 41 6) := hF_575 41 6 (fun h => absurd h.2 (ni rfl))
                have kn_616 : Hid (c_578 41 6 = c2 41 6) := (hF_580 41 6 (fun h => absurd h.2 (ni rfl))).trans (hid kn_615)
                have kn_617 : Hid (c_583 41 6 = c2 41 6) := (hF_585 41 6 (fun h => absurd h.2 (ni rfl))).trans (hid kn_616)
                have kn_618 : Hid (c_588 41 6 = c2 41 6) := (hF_590 41 6 (fun h => absurd h.2 (ni rfl))).trans (hid kn_617)
                have h_619 : (up c_588 41 4 ((nx F e1 a) + 1)) 41 6 = c2 41 6 := ((up_n (by decide)).trans (hid kn_618))
                have hA_620 : Ce nw (c_78 (A + 9)) ((up c_588 41 4 ((nx F e1 a) + 1)) 50) ((up c_588 41 4 ((nx F e1 a) + 1)) 51) := ce_fr hrl0 (fun j => hF_80 (A + 9) j (fun h => absurd h.1 (np hA rfl rfl))) (fun j => (up_c (nn rfl)).trans ((hF_590 50 j (fun h => absurd h.1 (nn rfl))).trans ((hF_585 50 j (fun h => absurd h.1 (nn rfl))).trans ((hF_580 50 j (fun h => absurd h.1 (nn rfl))).trans (hF_575 50 j (fun h => absurd h.1 (nn rfl))))))) (fun j => (up_c (nn rfl)).trans ((hF_590 51 j (fun h => absurd h.1 (nn rfl))).trans ((hF_585 51 j (fun h => absurd h.1 (nn rfl))).trans ((hF_580 51 j (fun h => absurd h.1 (nn rfl))).trans (hF_575 51 j (fun h => absurd h.1 (nn rfl)))))))
                refine v_cv rfl rfl rfl rfl (by decide) ⟨⟨rfl, rfl⟩, by decide, rfl⟩ (Nat.le_of_ble_eq_true rfl) (Nat.le_of_ble_eq_true rfl) (L_14 (m := c_78) (a2 := a2) (e1 := e1) (f0 := 0) (g0 := (-1)) (p0 := (nx F e1 a) + 1) (n0 := nw) (o0 := a2) (F := F) (H := H) hI_596 hI_79 hI_475 hA (show 0 ≤ a2 ∧ a2 ≤ 6 from ha2) (by first | (clear ha2 hq0 hq1 hq2 hq3 hq4 hq5 h_1 h_2 h_3 h_4 h_5 h_6 h_7 h_8 h_9 h_10 h_11 h_12 h_13 h_14 h_15 h_16 h_69 h_70 h_71 h_81 h_478 h_479 h_480 h_556 h_558 h_559 h_560 h_561 h_562 h_563 h_564 h_565 h_566 h_567 h_569 h_570 h_572 h_72 h_571; omega) | omega) (by first | (clear ha2 hq0 hq1 hq2 hq3 hq4 hq5 h_1 h_2 h_3 h_4 h_5 h_6 h_7 h_8 h_9 h_10 h_11 h_12 h_13 h_14 h_15 h_16 h_69 h_70 h_71 h_81 h_478 h_479 h_480 h_556 h_558 h_559 h_560 h_561 h_562 h_563 h_564 h_565 h_566 h_567 h_569 h_570 h_572 h_72 h_571; omega) | omega) (by first | (clear ha2 hq0 hq1 hq2 hq3 hq4 hq5 h_1 h_2 h_3 h_4 h_5 h_6 h_7 h_8 h_9 h_10 h_11 h_12 h_13 h_14 h_15 h_16 h_69 h_70 h_71 h_81 h_478 h_479 h_480 h_556 h_558 h_559 h_560 h_561 h_562 h_563 h_564 h_565 h_566 h_567 h_569 h_570 h_572 h_72 h_571; omega) | omega) (by first | (clear ha2 hq0 hq1 hq2 hq4 hq5 h_1 h_2 h_3 h_4 h_5 h_6 h_7 h_8 h_9 h_10 h_11 h_12 h_13 h_14 h_15 h_69 h_71 h_81 h_478 h_479 h_480 h_556 h_558 h_559 h_560 h_561 h_562 h_563 h_564 h_565 h_566 h_567 h_569 h_570 h_572 h_72 h_571; omega) | omega) (by first | (clear ha2 hq0 hq1 hq2 hq3 hq4 hq5 h_1 h_2 h_3 h_4 h_5 h_6 h_7 h_8 h_9 h_10 h_11 h_12 h_13 h_14 h_15 h_16 h_69 h_70 h_71 h_478 h_479 h_480 h_556 h_558 h_559 h_560 h_561 h_562 h_563 h_564 h_565 h_566 h_567 h_569 h_570 h_572 h_72 h_571; omega) | omega) (by first | (clear ha2 hq0 hq1 hq2 hq3 hq4 h_1 h_2 h_3 h_4 h_5 h_6 h_7 h_8 h_9 h_10 h_11 h_12 h_13 h_14 h_15 h_16 h_69 h_70 h_71 h_81 h_478 h_479 h_480 h_556 h_558 h_559 h_560 h_561 h_562 h_563 h_564 h_565 h_566 h_567 h_569 h_570 h_572 h_72 h_571; omega) | omega) ((hid kn_597)) (((up_n (by decide)).trans (hid kn_598))) ((hid kn_473)) ((hid kn_599)) ((hz_82)) ((hid kn_600)) (((up_n (by decide)).trans (hid kn_604))) (((up_n (by decide)).trans (hid kn_608))) (fun j => ((hF_80 2 j (fun h => absurd h.1 (nn rfl))).trans (hFm 2 j (fun q => q.elim (fun h => absurd h.1 (nn rfl)) (fun q => q.elim (fun h => absurd h.1 (nn rfl)) (fun q => q.elim (fun h => absurd h.1 (nn rfl)) (fun q => q.elim (fun h => absurd h.1 (pn hA rfl rfl)) (fun h => absurd h (pn hA rfl rfl)))))))).trans (hF j)) (fun j => ((up_c (nn rfl)).trans ((hF_590 43 j (fun h => absurd h.1 (nn rfl))).trans ((hF_585 43 j (fun h => absurd h.1 (nn rfl))).trans ((hF_580 43 j (fun h => absurd h.1 (nn rfl))).trans ((hF_575 43 j (fun h => absurd h.1 (nn rfl))).trans (hFc 43 j (fun q => q.elim (fun h => absurd h.1 (nn rfl)) (fun q => q.elim (fun h => absurd h.1 (nn rfl)) (fun q => q.elim (fun h => absurd h.1 (nn rfl)) (fun q => q.elim (fun h => absurd h.1 (nn rfl)) (fun q => q.elim (fun h => absurd h.1 (nn rfl)) (fun q => q.elim (fun h => absurd h (nn rfl)) (fun h => absurd h (nn rfl)))))))))))))).trans (hH j)) hU (rt_i1 ⟨by first | (clear ha2 hq0 hq1 hq2 hq3 hq4 hq5 h_1 h_2 h_3 h_4 h_5 h_6 h_7 h_8 h_9 h_10 h_11 h_12 h_13 h_14 h_15 h_16 h_69 h_70 h_71 h_81 h_478 h_479 h_480 h_556 h_558 h_559 h_560 h_561 h_562 h_563 h_564 h_565 h_566 h_567 h_569 h_570 h_572 h_614 h_72 h_571; omega) | omega, by first | (clear ha2 hq0 hq1 hq2 hq3 hq4 hq5 h_1 h_2 h_3 h_4 h_5 h_6 h_7 h_8 h_9 h_10 h_11 h_12 h_13 h_14 h_15 h_16 h_69 h_70 h_71 h_81 h_478 h_479 h_480 h_556 h_558 h_559 h_560 h_561 h_562 h_563 h_564 h_565 h_566 h_567 h_569 h_570 h_572 h_614 h_72 h_571; omega) | omega, by first | (clear ha2 hq0 hq1 hq2 hq3 hq4 hq5 h_1 h_2 h_3 h_4 h_5 h_6 h_7 h_8 h_9 h_10 h_11 h_12 h_13 h_14 h_15 h_16 h_69 h_70 h_71 h_81 h_478 h_479 h_480 h_556 h_558 h_559 h_560 h_561 h_562 h_563 h_564 h_565 h_566 h_567 h_569 h_570 h_572 h_614 h_72 h_571; omega) | omega, by first | (clear ha2 hq0 hq1 hq2 hq3 hq4 hq5 h_1 h_2 h_3 h_4 h_5 h_6 h_7 h_8 h_9 h_10 h_11 h_12 h_13 h_14 h_15 h_16 h_69 h_70 h_71 h_81 h_478 h_479 h_480 h_556 h_558 h_559 h_560 h_561 h_562 h_563 h_564 h_565 h_566 h_567 h_569 h_570 h_572 h_614 h_72 h_571; omega) | omega⟩) (ce_le hA_620 (by omega)) H13 hG_477 (fun c_621 hI_622 hF_623 hR_625 h_626 h_627 hA_628 => ?_))
                refine bk_inl ?_
                have h_629 := ir_41_29 hI_622
                have h_630 := ir_41_7 hI_622
                refine q_aload_n rfl rfl ?_
                refine q_iload_n rfl rfl ?_
                refine q_iconst rfl ?_
                refine v_cv rfl rfl rfl rfl (by decide) ⟨⟨rfl, rfl⟩, by decide, rfl⟩ (Nat.le_of_ble_eq_true rfl) (Nat.le_of_ble_eq_true rfl) ?_
                refine q_aload_n rfl rfl ?_
                refine v_cv rfl rfl rfl rfl (by decide) ⟨⟨rfl, rfl⟩, by decide, rfl⟩ (Nat.le_of_ble_eq_true rfl) (Nat.le_of_ble_eq_true rfl) ?_
                refine q_aload_n rfl rfl ?_
                have h_631 := ir_41_5 hI_622
                have h_632 := ir_41_4 hI_622
                have h_633 := ir_41_6 hI_622
                have h_634 := rt_bad hR_625 (by omega)
                have hrb_hR_625 := rt_bad hR_625 (by omega)
                refine v_gi (z := 5) (v := c_474 1 5) rfl rfl rfl (by decide) rfl rfl hrb_hR_625.2.1 ?_
                refine q_iconst rfl ?_
                refine v_ic_ne_t (t := 12) rfl (by decide) ⟨by first | (clear ha2 hq0 hq1 hq2 hq3 hq4 hq5 h_1 h_2 h_3 h_4 h_5 h_6 h_7 h_8 h_9 h_10 h_11 h_12 h_13 h_14 h_15 h_16 h_69 h_70 h_71 h_81 h_478 h_479 h_480 h_556 h_558 h_559 h_560 h_561 h_562 h_563 h_564 h_565 h_566 h_567 h_569 h_570 h_572 h_614 h_629 h_630 h_627 h_631 h_632 h_633 h_72 h_571 h_626; omega) | omega, ⟨(Int.le_trans (by decide) h_563.1), (Int.le_trans h_563.2 (by decide))⟩, by decide, by decide⟩ ?_
                refine q_iconst rfl ?_
                refine v_zret rfl rfl (by decide) ?_
                refine bk_inl ?_
                refine v_if_ne_f (t := 8) rfl (by decide) (by decide) ?_
                refine q_vret rfl rfl ?_
                refine bk_inl ?_
                refine q_goto (t := 4) rfl (by decide) ?_
                refine q_aload_n rfl rfl ?_
                refine v_cv rfl rfl rfl rfl (by decide) ⟨⟨rfl, rfl⟩, by decide, rfl⟩ (Nat.le_of_ble_eq_true rfl) (Nat.le_of_ble_eq_true rfl) ?_
                refine q_aload_n rfl rfl ?_
                refine v_gi (z := 5) (v := c_474 1 5) rfl rfl rfl (by decide) rfl rfl hrb_hR_625.2.1 ?_
                refine q_iconst rfl ?_
                refine v_ic_ne_t (t := 12) rfl (by decide) ⟨by first | (clear ha2 hq0 hq1 hq2 hq3 hq4 hq5 h_1 h_2 h_3 h_4 h_5 h_6 h_7 h_8 h_9 h_10 h_11 h_12 h_13 h_14 h_15 h_16 h_69 h_70 h_71 h_81 h_478 h_479 h_480 h_556 h_558 h_559 h_560 h_561 h_562 h_563 h_564 h_565 h_566 h_567 h_569 h_570 h_572 h_614 h_629 h_630 h_627 h_631 h_632 h_633 h_72 h_571 h_626; omega) | omega, ⟨(Int.le_trans (by decide) h_563.1), (Int.le_trans h_563.2 (by decide))⟩, by decide, by decide⟩ ?_
                refine q_iconst rfl ?_
                refine v_zret rfl rfl (by decide) ?_
                refine bk_inl ?_
                refine v_if_eq_t (t := 90) rfl (by decide) (by decide) ?_
                refine q_vret rfl rfl ?_
                have h_635 : c_621 41 5 = c_474 1 5 := hrb_hR_625.2.1
                have h_636 : c_621 41 6 = c_474 1 4 := hrb_hR_625.2.2.2
                exact K c_621  hI_622 (fun a j hm => (hF_623 a j (fun q => q.elim (fun h => hm (Or.inl h)) (fun q => q.elim (fun h => hm (Or.inr (Or.inl h))) (fun q => q.elim (fun h => hm (Or.inr (Or.inr (Or.inl h)))) (fun q => q.elim (fun h => hm (Or.inr (Or.inr (Or.inr (Or.inl h))))) (fun q => q.elim (fun h => hm (Or.inr (Or.inr (Or.inr (Or.inr (Or.inl h)))))) (fun q => q.elim (fun h => hm (Or.inr (Or.inr (Or.inr (Or.inr (Or.inr (Or.inl h))))))) (fun h => hm (Or.inr (Or.inr (Or.inr (Or.inr (Or.inr (Or.inr h)))))))))))))).trans ((up_b (Decidable.or_iff_not_imp_left.mpr (fun h1 h2 => hm (Or.inl ⟨Decidable.not_not.mp h1, h2⟩)))).trans ((hF_590 a j (fun h => hm (Or.inl h))).trans ((hF_585 a j (fun h => hm (Or.inl h))).trans ((hF_580 a j (fun h => hm (Or.inl h))).trans ((hF_575 a j (fun h => hm (Or.inl h))).trans (hFc a j (fun q => q.elim (fun h => hm (Or.inl h)) (fun q => q.elim (fun h => hm (Or.inr (Or.inl h))) (fun q => q.elim (fun h => hm (Or.inr (Or.inr (Or.inl h)))) (fun q => q.elim (fun h => hm (Or.inr (Or.inr (Or.inr (Or.inl h))))) (fun q => q.elim (fun h => hm (Or.inr (Or.inr (Or.inr (Or.inr (Or.inl h)))))) (fun q => q.elim (fun h => hm (Or.inr (Or.inr (Or.inr (Or.inr (Or.inr (Or.inl h))))))) (fun h => hm (Or.inr (Or.inr (Or.inr (Or.inr (Or.inr (Or.inr h)))))))))))))))))))) (rt_i2 ⟨⟨by first | (clear ha2 hq0 hq1 hq2 hq3 hq4 hq5 h_1 h_2 h_3 h_4 h_5 h_6 h_7 h_8 h_9 h_10 h_11 h_12 h_13 h_14 h_15 h_16 h_69 h_70 h_71 h_81 h_478 h_479 h_480 h_556 h_558 h_560 h_561 h_562 h_563 h_564 h_565 h_566 h_567 h_569 h_570 h_572 h_614 h_629 h_630 h_627 h_631 h_632 h_633 h_72 h_571 h_626; omega) | omega, by first | (clear ha2 hq0 hq1 hq2 hq3 hq4 hq5 h_1 h_2 h_3 h_4 h_5 h_6 h_7 h_8 h_9 h_10 h_11 h_12 h_13 h_14 h_15 h_16 h_69 h_70 h_71 h_81 h_478 h_479 h_480 h_556 h_559 h_560 h_561 h_562 h_563 h_564 h_565 h_566 h_567 h_569 h_570 h_572 h_614 h_629 h_630 h_627 h_631 h_632 h_633 h_634 h_72 h_571 h_626; omega) | omega⟩, by first | (clear ha2 hq0 hq1 hq2 hq3 hq4 hq5 h_1 h_2 h_3 h_4 h_5 h_6 h_7 h_8 h_9 h_10 h_11 h_12 h_13 h_14 h_15 h_16 h_69 h_70 h_71 h_81 h_478 h_479 h_480 h_556 h_558 h_559 h_560 h_561 h_562 h_563 h_564 h_566 h_567 h_569 h_570 h_572 h_614 h_629 h_630 h_627 h_631 h_632 h_633 h_634 h_72 h_571 h_626; omega) | omega, by first | (clear ha2 hq0 hq1 hq2 hq3 hq4 hq5 h_1 h_2 h_3 h_4 h_5 h_6 h_7 h_8 h_9 h_10 h_11 h_12 h_13 h_14 h_15 h_16 h_69 h_70 h_71 h_81 h_478 h_479 h_480 h_556 h_558 h_559 h_560 h_561 h_562 h_563 h_564 h_566 h_567 h_569 h_570 h_572 h_614 h_629 h_630 h_627 h_631 h_632 h_633 h_72 h_571 h_626; omega) | omega, by first | (clear ha2 hq0 hq1 hq2 hq3 hq4 hq5 h_1 h_2 h_3 h_4 h_5 h_6 h_7 h_8 h_9 h_10 h_11 h_12 h_13 h_14 h_15 h_16 h_69 h_70 h_71 h_81 h_478 h_479 h_480 h_556 h_558 h_560 h_561 h_562 h_563 h_564 h_565 h_566 h_567 h_569 h_570 h_572 h_614 h_629 h_630 h_627 h_631 h_632 h_633 h_634 h_72 h_571 h_626; omega) | omega⟩) (Or.inr (Or.inl (by first | (clear ha2 hq0 hq1 hq2 hq3 hq4 hq5 h_1 h_2 h_3 h_4 h_5 h_6 h_7 h_8 h_9 h_10 h_11 h_12 h_13 h_14 h_15 h_16 h_69 h_70 h_71 h_81 h_478 h_479 h_480 h_556 h_558 h_560 h_561 h_562 h_563 h_564 h_565 h_566 h_567 h_569 h_570 h_572 h_614 h_629 h_630 h_627 h_631 h_632 h_633 h_72 h_571 h_626; omega) | omega))) (by first | (clear ha2 hq0 hq1 hq2 hq3 hq4 hq5 h_1 h_2 h_3 h_4 h_5 h_6 h_7 h_8 h_9 h_10 h_11 h_12 h_13 h_14 h_15 h_16 h_69 h_70 h_71 h_81 h_478 h_479 h_480 h_556 h_558 h_559 h_560 h_561 h_562 h_563 h_564 h_565 h_566 h_567 h_569 h_570 h_572 h_614 h_629 h_630 h_631 h_632 h_633 h_634 h_72 h_571 h_626; omega) | omega) (fun hz => absurd hz (by omega))
              · refine v_ic_ge_f (t := 59) rfl (by decide) ⟨by first | exact rgp_l hv.1 (by decide) | omega, (Int.not_le.mp h_556), by decide⟩ ?_
                refine q_aload_n rfl rfl ?_
                refine v_cv rfl rfl rfl rfl (by decide) ⟨⟨rfl, rfl⟩, by decide, rfl⟩ (Nat.le_of_ble_eq_true rfl) (Nat.le_of_ble_eq_true rfl) ?_
                refine q_aload_n rfl rfl ?_
                refine v_gi (z := 4) (v := c_474 1 4) rfl rfl rfl (by decide) rfl rfl rfl ?_
                refine v_if_ne_t (t := 11) rfl (by decide) ⟨by first | (clear ha2 hq0 hq1 hq2 hq3 hq4 hq5 h_1 h_2 h_3 h_4 h_5 h_6 h_7 h_8 h_9 h_10 h_11 h_12 h_13 h_14 h_15 h_16 h_69 h_70 h_71 h_81 h_478 h_479 h_480 h_72; omega) | omega, ⟨(Int.le_trans (by decide) h_480.1), (Int.le_trans h_480.2 (by decide))⟩, by decide, by decide⟩ ?_
                refine q_iconst rfl ?_
                refine v_zret rfl rfl (by decide) ?_
                refine bk_inl ?_
                refine v_if_eq_t (t := 59) rfl (by decide) (by decide) ?_
                refine q_vret rfl rfl ?_
                intro hE_637
                have hW : Wd P Q P P c_474 = Wd P Q P P m9 := (Prod.mk.inj (Prod.mk.inj hE_637).2).1
                have h_638 := ir_1_4 hJ9
                have h_639 : m9 1 4 = c_474 1 4 := wd_fv (z := 4) 4 rfl hW rfl rfl rfl rfl (by decide) rfl ⟨(Int.le_trans (by decide) h_480.1), (Int.le_trans h_480.2 (by decide))⟩ ⟨(Int.le_trans (by decide) h_638.1), (Int.le_trans h_638.2 (by decide))⟩
                have h_640 := ir_1_2 hI_475
                have h_641 := ir_1_2 hJ9
                have h_642 : m9 1 2 = c_474 1 2 := wd_fv (z := 2) 2 rfl hW rfl rfl rfl rfl (by decide) rfl ⟨(Int.le_trans (by decide) h_640.1), (Int.le_trans h_640.2 (by decide))⟩ ⟨(Int.le_trans (by decide) h_641.1), (Int.le_trans h_641.2 (by decide))⟩
                have h_643 := ir_1_5 hI_475
                have h_644 := ir_1_5 hJ9
                have h_645 : m9 1 5 = c_474 1 5 := wd_fv (z := 5) 5 rfl hW rfl rfl rfl rfl (by decide) rfl ⟨(Int.le_trans (by decide) h_643.1), (Int.le_trans h_643.2 (by decide))⟩ ⟨(Int.le_trans (by decide) h_644.1), (Int.le_trans h_644.2 (by decide))⟩
                have h_646 := ir_p7_5 hJ9 hA
                have h_647 : m9 (A + 7) 5 = c_474 (A + 7) 5 := wd_fv (z := 5) 5 rfl hW (ck_p7 hA) (ck_p7 hA) rfl rfl (by omega) rfl ⟨(Int.le_trans (by decide) h_478.1), (Int.le_trans h_478.2 (by decide))⟩ ⟨(Int.le_trans (by decide) h_646.1), (Int.le_trans h_646.2 (by decide))⟩
                refine q_aload_n rfl rfl ?_
                refine v_cv rfl rfl rfl rfl (by decide) ⟨⟨rfl, rfl⟩, by decide, rfl⟩ (Nat.le_of_ble_eq_true rfl) (Nat.le_of_ble_eq_true rfl) ?_
                refine q_aload_n rfl rfl ?_
                refine v_gi (z := 5) (v := (-1)) rfl rfl rfl (by decide) rfl rfl (hc_1) ?_
                refine q_iconst rfl ?_
                refine v_ic_ne_f (t := 12) rfl (by decide) (by decide) ?_
                refine q_iconst rfl ?_
                refine q_goto (t := 13) rfl (by decide) ?_
                refine v_zret rfl rfl (by decide) ?_
                refine bk_inl ?_
                refine v_if_eq_f (t := 90) rfl (by decide) (by decide) ?_
                refine q_aload_n rfl rfl ?_
                have kn_648 : Hid (c2 41 3 = e1) := (hFc 41 3 (fun q => q.elim (fun h => absurd h.2 (ni rfl)) (fun q => q.elim (fun h => absurd h.2 (ni rfl)) (fun q => q.elim (fun h => absurd h.2 (ni rfl)) (fun q => q.elim (fun h => absurd h.2 (ni rfl)) (fun q => q.elim (fun h => absurd h.2 (ni rfl)) (fun q => q.elim (fun h => absurd h (nn rfl)) (fun h => absurd h (nn rfl))))))))).trans (hr_e1)
                have h_649 : -2147483648 ≤ (H (nx F e1 a)) ∧ (H (nx F e1 a)) ≤ 2147483647 := by rw [← hH (nx F e1 a)]; exact ir_43 hI (nx F e1 a)
                have h_650 := hU (nx F e1 a) (by omega) (by omega)
                have h_651 := hb_or (b := H) (e := e1) (r := (nx F e1 a))
                have h_652 := hb_bd (b := H) (e := e1) (r := (nx F e1 a)) (lo := -2147483648) (hi := 2147483647) h_649 (by decide)
                refine v_cv rfl rfl rfl rfl (by decide) ⟨⟨rfl, rfl⟩, by decide, rfl⟩ (Nat.le_of_ble_eq_true rfl) (Nat.le_of_ble_eq_true rfl) (f_154 (e1 := e1) (a9 := a) (B := H) (r8 := (nx F e1 a)) (r := (hb H e1 (nx F e1 a))) hI2 ((hid kn_648)) ((hr_a)) (fun j => (hFc 43 j (fun q => q.elim (fun h => absurd h.1 (nn rfl)) (fun q => q.elim (fun h => absurd h.1 (nn rfl)) (fun q => q.elim (fun h => absurd h.1 (nn rfl)) (fun q => q.elim (fun h => absurd h.1 (nn rfl)) (fun q => q.elim (fun h => absurd h.1 (nn rfl)) (fun q => q.elim (fun h => absurd h (nn rfl)) (fun h => absurd h (nn rfl))))))))).trans (hH j)) ((nx_tr hU (by first | (clear ha2 hq0 hq1 hq2 hq3 hq4 hq5 h_1 h_2 h_3 h_4 h_5 h_6 h_7 h_8 h_9 h_10 h_11 h_12 h_13 h_14 h_15 h_16 h_69 h_70 h_71 h_81 h_478 h_479 h_480 h_638 h_639 h_640 h_641 h_642 h_643 h_644 h_645 h_646 h_647 h_72; omega) | omega) (by first | (clear ha2 hq0 hq1 hq2 hq3 hq4 h_1 h_2 h_3 h_4 h_5 h_6 h_7 h_8 h_9 h_10 h_11 h_12 h_13 h_14 h_15 h_16 h_69 h_70 h_71 h_81 h_478 h_479 h_480 h_638 h_639 h_640 h_641 h_642 h_643 h_644 h_645 h_646 h_647 h_72; omega) | omega)).trans (rfl)) rfl (fun c_653 hI_654 hF_655 h_656 => ?_))
                refine bk_inl ?_
                refine v_bip rfl (by decide) ?_
                refine v_ic_eq_f (t := 38) rfl (by decide) ⟨by first | (clear ha2 hq0 hq1 hq2 hq3 h_3 h_4 h_5 h_6 h_7 h_8 h_9 h_10 h_11 h_12 h_13 h_14 h_15 h_69 h_71 h_478 h_479 h_480 h_638 h_639 h_640 h_641 h_642 h_643 h_644 h_645 h_646 h_647; omega) | omega, ⟨h_652.1, h_652.2⟩, by decide, by decide⟩ ?_
                refine q_aload_n rfl rfl ?_
                have kn_657 : Hid (c_653 41 3 = e1) := (hF_655 41 3 (fun h => absurd h.2 (ni rfl))).trans (hid kn_648)
                refine v_cv rfl rfl rfl rfl (by decide) ⟨⟨rfl, rfl⟩, by decide, rfl⟩ (Nat.le_of_ble_eq_true rfl) (Nat.le_of_ble_eq_true rfl) (f_154 (e1 := e1) (a9 := (nx F e1 a)) (B := H) (r8 := (nx F e1 a)) (r := (hb H e1 (nx F e1 a))) hI_654 ((hid kn_657)) ((h_656)) (fun j => ((hF_655 43 j (fun h => absurd h.1 (nn rfl))).trans (hFc 43 j (fun q => q.elim (fun h => absurd h.1 (nn rfl)) (fun q => q.elim (fun h => absurd h.1 (nn rfl)) (fun q => q.elim (fun h => absurd h.1 (nn rfl)) (fun q => q.elim (fun h => absurd h.1 (nn rfl)) (fun q => q.elim (fun h => absurd h.1 (nn rfl)) (fun q => q.elim (fun h => absurd h (nn rfl)) (fun h => absurd h (nn rfl)))))))))).trans (hH j)) ((nx_tr hU (by first | (clear ha2 hq0 hq1 hq2 hq3 hq4 hq5 h_1 h_2 h_3 h_4 h_5 h_6 h_7 h_8 h_9 h_10 h_11 h_12 h_13 h_14 h_15 h_16 h_69 h_71 h_81 h_478 h_479 h_480 h_638 h_639 h_640 h_641 h_642 h_643 h_644 h_645 h_646 h_647 h_649 h_650 h_652 h_72 h_651; omega) | omega) (by first | (clear ha2 hq0 hq1 hq2 hq3 hq4 h_1 h_2 h_3 h_4 h_5 h_6 h_7 h_8 h_9 h_10 h_11 h_12 h_13 h_14 h_15 h_16 h_69 h_70 h_71 h_81 h_478 h_479 h_480 h_638 h_639 h_640 h_641 h_642 h_643 h_644 h_645 h_646 h_647 h_649 h_650 h_652 h_72 h_651; omega) | omega)).trans ((nx_z (by omega)))) rfl (fun c_658 hI_659 hF_660 h_661 => ?_))
                refine bk_inl ?_
                refine v_bip rfl (by decide) ?_
                refine v_ic_eq_t (t := 38) rfl (by decide) (by first | (clear ha2 hq0 hq1 hq2 hq3 h_3 h_4 h_5 h_6 h_7 h_8 h_9 h_10 h_11 h_12 h_13 h_14 h_15 h_69 h_71 h_478 h_479 h_480 h_638 h_639 h_640 h_641 h_642 h_643 h_644 h_645 h_646 h_647; omega) | omega) ?_
                refine q_aload_n rfl rfl ?_
                have kn_662 : Hid (c_658 41 3 = e1) := (hF_660 41 3 (fun h => absurd h.2 (ni rfl))).trans (hid kn_657)
                refine v_cv rfl rfl rfl rfl (by decide) ⟨⟨rfl, rfl⟩, by decide, rfl⟩ (Nat.le_of_ble_eq_true rfl) (Nat.le_of_ble_eq_true rfl) (f_154 (e1 := e1) (a9 := (nx F e1 a)) (B := H) (r8 := (nx F e1 a)) (r := (hb H e1 (nx F e1 a))) hI_659 ((hid kn_662)) ((h_661)) (fun j => ((hF_660 43 j (fun h => absurd h.1 (nn rfl))).trans ((hF_655 43 j (fun h => absurd h.1 (nn rfl))).trans (hFc 43 j (fun q => q.elim (fun h => absurd h.1 (nn rfl)) (fun q => q.elim (fun h => absurd h.1 (nn rfl)) (fun q => q.elim (fun h => absurd h.1 (nn rfl)) (fun q => q.elim (fun h => absurd h.1 (nn rfl)) (fun q => q.elim (fun h => absurd h.1 (nn rfl)) (fun q => q.elim (fun h => absurd h (nn rfl)) (fun h => absurd h (nn rfl))))))))))).trans (hH j)) ((nx_tr hU (by first | (clear ha2 hq0 hq1 hq2 hq3 hq4 hq5 h_1 h_2 h_3 h_4 h_5 h_6 h_7 h_8 h_9 h_10 h_11 h_12 h_13 h_14 h_15 h_16 h_69 h_71 h_81 h_478 h_479 h_480 h_638 h_639 h_640 h_641 h_642 h_643 h_644 h_645 h_646 h_647 h_649 h_650 h_652 h_72 h_651; omega) | omega) (by first | (clear ha2 hq0 hq1 hq2 hq3 hq4 h_1 h_2 h_3 h_4 h_5 h_6 h_7 h_8 h_9 h_10 h_11 h_12 h_13 h_14 h_15 h_16 h_69 h_70 h_71 h_81 h_478 h_479 h_480 h_638 h_639 h_640 h_641 h_642 h_643 h_644 h_645 h_646 h_647 h_649 h_650 h_652 h_72 h_651; omega) | omega)).trans ((nx_z (by omega)))) rfl (fun c_663 hI_664 hF_665 h_666 => ?_))
                refine bk_inl ?_
                refine v_bip rfl (by decide) ?_
                refine v_ic_ne_t (t := 51) rfl (by decide) ⟨by first | (clear ha2 hq0 hq1 hq2 hq3 h_3 h_4 h_5 h_6 h_7 h_8 h_9 h_10 h_11 h_12 h_13 h_14 h_15 h_69 h_71 h_478 h_479 h_480 h_638 h_639 h_640 h_641 h_642 h_643 h_644 h_645 h_646 h_647; omega) | omega, ⟨h_652.1, h_652.2⟩, by decide, by decide⟩ ?_
                refine q_aload_n rfl rfl ?_
                have kn_667 : Hid (c_663 41 3 = e1) := (hF_665 41 3 (fun h => absurd h.2 (ni rfl))).trans (hid kn_662)
                refine v_cv rfl rfl rfl rfl (by decide) ⟨⟨rfl, rfl⟩, by decide, rfl⟩ (Nat.le_of_ble_eq_true rfl) (Nat.le_of_ble_eq_true rfl) (f_154 (e1 := e1) (a9 := (nx F e1 a)) (B := H) (r8 := (nx F e1 a)) (r := (hb H e1 (nx F e1 a))) hI_664 ((hid kn_667)) ((h_666)) (fun j => ((hF_665 43 j (fun h => absurd h.1 (nn rfl))).trans ((hF_660 43 j (fun h => absurd h.1 (nn rfl))).trans ((hF_655 43 j (fun h => absurd h.1 (nn rfl))).trans (hFc 43 j (fun q => q.elim (fun h => absurd h.1 (nn rfl)) (fun q => q.elim (fun h => absurd h.1 (nn rfl)) (fun q => q.elim (fun h => absurd h.1 (nn rfl)) (fun q => q.elim (fun h => absurd h.1 (nn rfl)) (fun q => q.elim (fun h => absurd h.1 (nn rfl)) (fun q => q.elim (fun h => absurd h (nn rfl)) (fun h => absurd h (nn rfl)))))))))))).trans (hH j)) ((nx_tr hU (by first | (clear ha2 hq0 hq1 hq2 hq3 hq4 hq5 h_1 h_2 h_3 h_4 h_5 h_6 h_7 h_8 h_9 h_10 h_11 h_12 h_13 h_14 h_15 h_16 h_69 h_71 h_81 h_478 h_479 h_480 h_638 h_639 h_640 h_641 h_642 h_643 h_644 h_645 h_646 h_647 h_649 h_650 h_652 h_72 h_651; omega) | omega) (by first | (clear ha2 hq0 hq1 hq2 hq3 hq4 h_1 h_2 h_3 h_4 h_5 h_6 h_7 h_8 h_9 h_10 h_11 h_12 h_13 h_14 h_15 h_16 h_69 h_70 h_71 h_81 h_478 h_479 h_480 h_638 h_639 h_640 h_641 h_642 h_643 h_644 h_645 h_646 h_647 h_649 h_650 h_652 h_72 h_651; omega) | omega)).trans ((nx_z (by omega)))) rfl (fun c_668 hI_669 hF_670 h_671 => ?_))
                refine bk_inl ?_
                refine v_bip rfl (by decide) ?_
                refine v_ic_ne_f (t := 64) rfl (by decide) (by first | (clear ha2 hq0 hq1 hq2 hq3 h_3 h_4 h_5 h_6 h_7 h_8 h_9 h_10 h_11 h_12 h_13 h_14 h_15 h_69 h_71 h_478 h_479 h_480 h_638 h_639 h_640 h_641 h_642 h_643 h_644 h_645 h_646 h_647; omega) | omega) ?_
                refine q_iconst rfl ?_
                refine q_goto (t := 66) rfl (by decide) ?_
                refine q_istore_n rfl (by decide) ?_
                refine q_aload_n rfl rfl ?_
                refine q_dup rfl rfl ?_
                refine v_gi (z := 4) (v := (nx F e1 a)) rfl rfl rfl (by decide) rfl rfl (h_671) ?_
                refine q_iconst rfl ?_
                refine v_iadd (v := (nx F e1 a) + 1) rfl rfl ?_
                refine v_pi (z := 4) rfl rfl rfl (by decide) rfl rfl rfl (by decide) ?_
                refine q_aload_n rfl rfl ?_
                have kn_672 : Hid (c_653 41 5 = (-1)) := (hF_655 41 5 (fun h => absurd h.2 (ni rfl))).trans (hc_1)
                have kn_673 : Hid (c_658 41 5 = (-1)) := (hF_660 41 5 (fun h => absurd h.2 (ni rfl))).trans (hid kn_672)
                have kn_674 : Hid (c_663 41 5 = (-1)) := (hF_665 41 5 (fun h => absurd h.2 (ni rfl))).trans (hid kn_673)
                have kn_675 : Hid (c_668 41 5 = (-1)) := (hF_670 41 5 (fun h => absurd h.2 (ni rfl))).trans (hid kn_674)
                have hI_676 := iw_41_4 (v := (nx F e1 a) + 1) hI_669 ⟨by first | exact rgp_l (rg_be h_70 (ha.1) ((rg_eq hg_e1 h_1).2)).1 (by decide) | omega, by first | exact rgp_h (rg_be h_70 (ha.1) ((rg_eq hg_e1 h_1).2)).2 (by decide) | omega⟩
                have kn_677 : Hid (c_78 1 1 = e1) := (hF_80 1 1 (fun h => absurd h.2 (ni rfl))).trans (hid kn_68)
                have kn_678 : Hid (c_668 41 3 = e1) := (hF_670 41 3 (fun h => absurd h.2 (ni rfl))).trans (hid kn_667)
                have kn_679 : Hid (c_78 1 5 = (-1)) := (hF_80 1 5 (fun h => absurd h.2 (ni rfl))).trans (hc_2)
                have kn_680 : Hid (c_78 (A + 7) 5 = nw) := (hF_80 (A + 7) 5 (fun h => absurd h.1 (np hA rfl rfl))).trans (hg_nw)
                have kn_681 : Hid (c_653 41 29 = nw) := (hF_655 41 29 (fun h => absurd h.2 (ni rfl))).trans (hr_nw)
                have kn_682 : Hid (c_658 41 29 = nw) := (hF_660 41 29 (fun h => absurd h.2 (ni rfl))).trans (hid kn_681)
                have kn_683 : Hid (c_663 41 29 = nw) := (hF_665 41 29 (fun h => absurd h.2 (ni rfl))).trans (hid kn_682)
                have kn_684 : Hid (c_668 41 29 = nw) := (hF_670 41 29 (fun h => absurd h.2 (ni rfl))).trans (hid kn_683)
                have kn_685 : Hid (c_653 41 7 = a2) := (hF_655 41 7 (fun h => absurd h.2 (ni rfl))).trans (hc_3)
                have kn_686 : Hid (c_658 41 7 = a2) := (hF_660 41 7 (fun h => absurd h.2 (ni rfl))).trans (hid kn_685)
                have kn_687 : Hid (c_663 41 7 = a2) := (hF_665 41 7 (fun h => absurd h.2 (ni rfl))).trans (hid kn_686)
                have kn_688 : Hid (c_668 41 7 = a2) := (hF_670 41 7 (fun h => absurd h.2 (ni rfl))).trans (hid kn_687)
                have h_689 : c_78 1 4 = 0 := (hid kn_473)
                have h_690 : c_78 1 2 = (nx F e1 a) + 1 := (hz_82)
                have h_691 : c_78 1 5 = (-1) := (hid kn_679)
                have h_692 : (up c_668 41 4 ((nx F e1 a) + 1)) 41 5 = (-1) := ((up_n (by decide)).trans (hid kn_675))
                have h_693 : (up c_668 41 4 ((nx F e1 a) + 1)) 41 4 = (nx F e1 a) + 1 := (up_e rfl)
                have h_694 := ir_41_6 hI2
                have kn_695 : Hid (c_653 41 6 = c2 41 6) := hF_655 41 6 (fun h => absurd h.2 (ni rfl))
                have kn_696 : Hid (c_658 41 6 = c2 41 6) := (hF_660 41 6 (fun h => absurd h.2 (ni rfl))).trans (hid kn_695)
                have kn_697 : Hid (c_663 41 6 = c2 41 6) := (hF_665 41 6 (fun h => absurd h.2 (ni rfl))).trans (hid kn_696)
                have kn_698 : Hid (c_668 41 6 = c2 41 6) := (hF_670 41 6 (fun h => absurd h.2 (ni rfl))).trans (hid kn_697)
                have h_699 : (up c_668 41 4 ((nx F e1 a) + 1)) 41 6 = c2 41 6 := ((up_n (by decide)).trans (hid kn_698))
                have hA_700 : Ce nw (c_78 (A + 9)) ((up c_668 41 4 ((nx F e1 a) + 1)) 50) ((up c_668 41 4 ((nx F e1 a) + 1)) 51) := ce_fr hrl0 (fun j => hF_80 (A + 9) j (fun h => absurd h.1 (np hA rfl rfl))) (fun j => (up_c (nn rfl)).trans ((hF_670 50 j (fun h => absurd h.1 (nn rfl))).trans ((hF_665 50 j (fun h => absurd h.1 (nn rfl))).trans ((hF_660 50 j (fun h => absurd h.1 (nn rfl))).trans (hF_655 50 j (fun h => absurd h.1 (nn rfl))))))) (fun j => (up_c (nn rfl)).trans ((hF_670 51 j (fun h => absurd h.1 (nn rfl))).trans ((hF_665 51 j (fun h => absurd h.1 (nn rfl))).trans ((hF_660 51 j (fun h => absurd h.1 (nn rfl))).trans (hF_655 51 j (fun h => absurd h.1 (nn rfl)))))))
                refine v_cv rfl rfl rfl rfl (by decide) ⟨⟨rfl, rfl⟩, by decide, rfl⟩ (Nat.le_of_ble_eq_true rfl) (Nat.le_of_ble_eq_true rfl) (L_14 (m := c_78) (a2 := a2) (e1 := e1) (f0 := 0) (g0 := (-1)) (p0 := (nx F e1 a) + 1) (n0 := nw) (o0 := a2) (F := F) (H := H) hI_676 hI_79 hI_475 hA (show 0 ≤ a2 ∧ a2 ≤ 6 from ha2) (by first | (clear ha2 hq0 hq1 hq2 hq3 hq4 hq5 h_1 h_2 h_3 h_4 h_5 h_6 h_7 h_8 h_9 h_10 h_11 h_12 h_13 h_14 h_15 h_16 h_69 h_70 h_71 h_81 h_478 h_479 h_480 h_638 h_639 h_640 h_641 h_642 h_643 h_644 h_645 h_646 h_647 h_649 h_650 h_652 h_72 h_651; omega) | omega) (by first | (clear ha2 hq0 hq1 hq2 hq3 hq4 hq5 h_1 h_2 h_3 h_4 h_5 h_6 h_7 h_8 h_9 h_10 h_11 h_12 h_13 h_14 h_15 h_16 h_69 h_70 h_71 h_81 h_478 h_479 h_480 h_638 h_639 h_640 h_641 h_642 h_643 h_644 h_645 h_646 h_647 h_649 h_650 h_652 h_72 h_651; omega) | omega) (by first | (clear ha2 hq0 hq1 hq2 hq3 hq4 hq5 h_1 h_2 h_3 h_4 h_5 h_6 h_7 h_8 h_9 h_10 h_11 h_12 h_13 h_14 h_15 h_16 h_69 h_70 h_71 h_81 h_478 h_479 h_480 h_638 h_639 h_640 h_641 h_642 h_643 h_644 h_645 h_646 h_647 h_649 h_650 h_652 h_72 h_651; omega) | omega) (by first | (clear ha2 hq0 hq1 hq2 hq4 hq5 h_1 h_2 h_3 h_4 h_5 h_6 h_7 h_8 h_9 h_10 h_11 h_12 h_13 h_14 h_15 h_69 h_71 h_81 h_478 h_479 h_480 h_638 h_639 h_640 h_641 h_642 h_643 h_644 h_645 h_646 h_647 h_649 h_650 h_652 h_72 h_651; omega) | omega) (by first | (clear ha2 hq0 hq1 hq2 hq3 hq4 hq5 h_1 h_2 h_3 h_4 h_5 h_6 h_7 h_8 h_9 h_10 h_11 h_12 h_13 h_14 h_15 h_16 h_69 h_70 h_71 h_478 h_479 h_480 h_638 h_639 h_640 h_641 h_642 h_643 h_644 h_645 h_646 h_647 h_649 h_650 h_652 h_72 h_651; omega) | omega) (by first | (clear ha2 hq0 hq1 hq2 hq3 hq4 h_1 h_2 h_3 h_4 h_5 h_6 h_7 h_8 h_9 h_10 h_11 h_12 h_13 h_14 h_15 h_16 h_69 h_70 h_71 h_81 h_478 h_479 h_480 h_638 h_639 h_640 h_641 h_642 h_643 h_644 h_645 h_646 h_647 h_649 h_650 h_652 h_72 h_651; omega) | omega) ((hid kn_677)) (((up_n (by decide)).trans (hid kn_678))) ((hid kn_473)) ((hid kn_679)) ((hz_82)) ((hid kn_680)) (((up_n (by decide)).trans (hid kn_684))) (((up_n (by decide)).trans (hid kn_688))) (fun j => ((hF_80 2 j (fun h => absurd h.1 (nn rfl))).trans (hFm 2 j (fun q => q.elim (fun h => absurd h.1 (nn rfl)) (fun q => q.elim (fun h => absurd h.1 (nn rfl)) (fun q => q.elim (fun h => absurd h.1 (nn rfl)) (fun q => q.elim (fun h => absurd h.1 (pn hA rfl rfl)) (fun h => absurd h (pn hA rfl rfl)))))))).trans (hF j)) (fun j => ((up_c (nn rfl)).trans ((hF_670 43 j (fun h => absurd h.1 (nn rfl))).trans ((hF_665 43 j (fun h => absurd h.1 (nn rfl))).trans ((hF_660 43 j (fun h => absurd h.1 (nn rfl))).trans ((hF_655 43 j (fun h => absurd h.1 (nn rfl))).trans (hFc 43 j (fun q => q.elim (fun h => absurd h.1 (nn rfl)) (fun q => q.elim (fun h => absurd h.1 (nn rfl)) (fun q => q.elim (fun h => absurd h.1 (nn rfl)) (fun q => q.elim (fun h => absurd h.1 (nn rfl)) (fun q => q.elim (fun h => absurd h.1 (nn rfl)) (fun q => q.elim (fun h => absurd h (nn rfl)) (fun h => absurd h (nn rfl)))))))))))))).trans (hH j)) hU (rt_i1 ⟨by first | (clear ha2 hq0 hq1 hq2 hq3 hq4 hq5 h_1 h_2 h_3 h_4 h_5 h_6 h_7 h_8 h_9 h_10 h_11 h_12 h_13 h_14 h_15 h_16 h_69 h_70 h_71 h_81 h_478 h_479 h_480 h_638 h_639 h_640 h_641 h_642 h_643 h_644 h_645 h_646 h_647 h_649 h_650 h_652 h_694 h_72 h_651; omega) | omega, by first | (clear ha2 hq0 hq1 hq2 hq3 hq4 hq5 h_1 h_2 h_3 h_4 h_5 h_6 h_7 h_8 h_9 h_10 h_11 h_12 h_13 h_14 h_15 h_16 h_69 h_70 h_71 h_81 h_478 h_479 h_480 h_638 h_639 h_640 h_641 h_642 h_643 h_644 h_645 h_646 h_647 h_649 h_650 h_652 h_694 h_72 h_651; omega) | omega, by first | (clear ha2 hq0 hq1 hq2 hq3 hq4 hq5 h_1 h_2 h_3 h_4 h_5 h_6 h_7 h_8 h_9 h_10 h_11 h_12 h_13 h_14 h_15 h_16 h_69 h_70 h_71 h_81 h_478 h_479 h_480 h_638 h_639 h_640 h_641 h_642 h_643 h_644 h_645 h_646 h_647 h_649 h_650 h_652 h_694 h_72 h_651; omega) | omega, by first | (clear ha2 hq0 hq1 hq2 hq3 hq4 hq5 h_1 h_2 h_3 h_4 h_5 h_6 h_7 h_8 h_9 h_10 h_11 h_12 h_13 h_14 h_15 h_16 h_69 h_70 h_71 h_81 h_478 h_479 h_480 h_638 h_639 h_640 h_641 h_642 h_643 h_644 h_645 h_646 h_647 h_649 h_650 h_652 h_694 h_72 h_651; omega) | omega⟩) (ce_le hA_700 (by omega)) H13 hG_477 (fun c_701 hI_702 hF_703 hR_705 h_706 h_707 hA_708 => ?_))
                refine bk_inl ?_
                have h_709 := ir_41_29 hI_702
                have h_710 := ir_41_7 hI_702
                refine q_aload_n rfl rfl ?_
                refine q_iload_n rfl rfl ?_
                refine q_iconst rfl ?_
                refine v_cv rfl rfl rfl rfl (by decide) ⟨⟨rfl, rfl⟩, by decide, rfl⟩ (Nat.le_of_ble_eq_true rfl) (Nat.le_of_ble_eq_true rfl) ?_
                refine q_aload_n rfl rfl ?_
                refine v_cv rfl rfl rfl rfl (by decide) ⟨⟨rfl, rfl⟩, by decide, rfl⟩ (Nat.le_of_ble_eq_true rfl) (Nat.le_of_ble_eq_true rfl) ?_
                refine q_aload_n rfl rfl ?_
                have h_711 := ir_41_5 hI_702
                have h_712 := ir_41_4 hI_702
                have h_713 := ir_41_6 hI_702
                have h_714 := rt_bad hR_705 (by omega)
                have hrb_hR_705 := rt_bad hR_705 (by omega)
                refine v_gi (z := 5) (v := c_474 1 5) rfl rfl rfl (by decide) rfl rfl hrb_hR_705.2.1 ?_
                refine q_iconst rfl ?_
                refine v_ic_ne_t (t := 12) rfl (by decide) ⟨by first | (clear ha2 hq0 hq1 hq2 hq3 hq4 hq5 h_1 h_2 h_3 h_4 h_5 h_6 h_7 h_8 h_9 h_10 h_11 h_12 h_13 h_14 h_15 h_16 h_69 h_70 h_71 h_81 h_478 h_479 h_480 h_638 h_639 h_640 h_641 h_642 h_643 h_644 h_645 h_646 h_647 h_649 h_650 h_652 h_694 h_709 h_710 h_707 h_711 h_712 h_713 h_72 h_651 h_706; omega) | omega, ⟨(Int.le_trans (by decide) h_643.1), (Int.le_trans h_643.2 (by decide))⟩, by decide, by decide⟩ ?_
                refine q_iconst rfl ?_
                refine v_zret rfl rfl (by decide) ?_
                refine bk_inl ?_
                refine v_if_ne_f (t := 8) rfl (by decide) (by decide) ?_
                refine q_vret rfl rfl ?_
                refine bk_inl ?_
                refine q_goto (t := 4) rfl (by decide) ?_
                refine q_aload_n rfl rfl ?_
                refine v_cv rfl rfl rfl rfl (by decide) ⟨⟨rfl, rfl⟩, by decide, rfl⟩ (Nat.le_of_ble_eq_true rfl) (Nat.le_of_ble_eq_true rfl) ?_
                refine q_aload_n rfl rfl ?_
                refine v_gi (z := 5) (v := c_474 1 5) rfl rfl rfl (by decide) rfl rfl hrb_hR_705.2.1 ?_
                refine q_iconst rfl ?_
                refine v_ic_ne_t (t := 12) rfl (by decide) ⟨by first | (clear ha2 hq0 hq1 hq2 hq3 hq4 hq5 h_1 h_2 h_3 h_4 h_5 h_6 h_7 h_8 h_9 h_10 h_11 h_12 h_13 h_14 h_15 h_16 h_69 h_70 h_71 h_81 h_478 h_479 h_480 h_638 h_639 h_640 h_641 h_642 h_643 h_644 h_645 h_646 h_647 h_649 h_650 h_652 h_694 h_709 h_710 h_707 h_711 h_712 h_713 h_72 h_651 h_706; omega) | omega, ⟨(Int.le_trans (by decide) h_643.1), (Int.le_trans h_643.2 (by decide))⟩, by decide, by decide⟩ ?_
                refine q_iconst rfl ?_
                refine v_zret rfl rfl (by decide) ?_
                refine bk_inl ?_
                refine v_if_eq_t (t := 90) rfl (by decide) (by decide) ?_
                refine q_vret rfl rfl ?_
                have h_715 : c_701 41 5 = c_474 1 5 := hrb_hR_705.2.1
                have h_716 : c_701 41 6 = c_474 1 4 := hrb_hR_705.2.2.2
                exact K c_701  hI_702 (fun a j hm => (hF_703 a j (fun q => q.elim (fun h => hm (Or.inl h)) (fun q => q.elim (fun h => hm (Or.inr (Or.inl h))) (fun q => q.elim (fun h => hm (Or.inr (Or.inr (Or.inl h)))) (fun q => q.elim (fun h => hm (Or.inr (Or.inr (Or.inr (Or.inl h))))) (fun q => q.elim (fun h => hm (Or.inr (Or.inr (Or.inr (Or.inr (Or.inl h)))))) (fun q => q.elim (fun h => hm (Or.inr (Or.inr (Or.inr (Or.inr (Or.inr (Or.inl h))))))) (fun h => hm (Or.inr (Or.inr (Or.inr (Or.inr (Or.inr (Or.inr h)))))))))))))).trans ((up_b (Decidable.or_iff_not_imp_left.mpr (fun h1 h2 => hm (Or.inl ⟨Decidable.not_not.mp h1, h2⟩)))).trans ((hF_670 a j (fun h => hm (Or.inl h))).trans ((hF_665 a j (fun h => hm (Or.inl h))).trans ((hF_660 a j (fun h => hm (Or.inl h))).trans ((hF_655 a j (fun h => hm (Or.inl h))).trans (hFc a j (fun q => q.elim (fun h => hm (Or.inl h)) (fun q => q.elim (fun h => hm (Or.inr (Or.inl h))) (fun q => q.elim (fun h => hm (Or.inr (Or.inr (Or.inl h)))) (fun q => q.elim (fun h => hm (Or.inr (Or.inr (Or.inr (Or.inl h))))) (fun q => q.elim (fun h => hm (Or.inr (Or.inr (Or.inr (Or.inr (Or.inl h)))))) (fun q => q.elim (fun h => hm (Or.inr (Or.inr (Or.inr (Or.inr (Or.inr (Or.inl h))))))) (fun h => hm (Or.inr (Or.inr (Or.inr (Or.inr (Or.inr (Or.inr h)))))))))))))))))))) (rt_i2 ⟨⟨by first | (clear ha2 hq0 hq1 hq2 hq3 hq4 hq5 h_1 h_2 h_3 h_4 h_5 h_6 h_7 h_8 h_9 h_10 h_11 h_12 h_13 h_14 h_15 h_16 h_69 h_70 h_71 h_81 h_478 h_479 h_480 h_638 h_640 h_641 h_642 h_643 h_644 h_645 h_646 h_647 h_649 h_650 h_652 h_694 h_709 h_710 h_707 h_711 h_712 h_713 h_72 h_651 h_706; omega) | omega, by first | (clear ha2 hq0 hq1 hq2 hq3 hq4 hq5 h_1 h_2 h_3 h_4 h_5 h_6 h_7 h_8 h_9 h_10 h_11 h_12 h_13 h_14 h_15 h_16 h_69 h_70 h_71 h_81 h_478 h_479 h_480 h_639 h_640 h_641 h_642 h_643 h_644 h_645 h_646 h_647 h_649 h_650 h_652 h_694 h_709 h_710 h_707 h_711 h_712 h_713 h_714 h_72 h_651 h_706; omega) | omega⟩, by first | (clear ha2 hq0 hq1 hq2 hq3 hq4 hq5 h_1 h_2 h_3 h_4 h_5 h_6 h_7 h_8 h_9 h_10 h_11 h_12 h_13 h_14 h_15 h_16 h_69 h_70 h_71 h_81 h_478 h_479 h_480 h_638 h_639 h_640 h_641 h_642 h_643 h_644 h_646 h_647 h_649 h_650 h_652 h_694 h_709 h_710 h_707 h_711 h_712 h_713 h_714 h_72 h_651 h_706; omega) | omega, by first | (clear ha2 hq0 hq1 hq2 hq3 hq4 hq5 h_1 h_2 h_3 h_4 h_5 h_6 h_7 h_8 h_9 h_10 h_11 h_12 h_13 h_14 h_15 h_16 h_69 h_70 h_71 h_81 h_478 h_479 h_480 h_638 h_639 h_640 h_641 h_642 h_643 h_644 h_646 h_647 h_649 h_650 h_652 h_694 h_709 h_710 h_707 h_711 h_712 h_713 h_72 h_651 h_706; omega) | omega, by first | (clear ha2 hq0 hq1 hq2 hq3 hq4 hq5 h_1 h_2 h_3 h_4 h_5 h_6 h_7 h_8 h_9 h_10 h_11 h_12 h_13 h_14 h_15 h_16 h_69 h_70 h_71 h_81 h_478 h_479 h_480 h_638 h_640 h_641 h_642 h_643 h_644 h_645 h_646 h_647 h_649 h_650 h_652 h_694 h_709 h_710 h_707 h_711 h_712 h_713 h_714 h_72 h_651 h_706; omega) | omega⟩) (Or.inr (Or.inl (by first | (clear ha2 hq0 hq1 hq2 hq3 hq4 hq5 h_1 h_2 h_3 h_4 h_5 h_6 h_7 h_8 h_9 h_10 h_11 h_12 h_13 h_14 h_15 h_16 h_69 h_70 h_71 h_81 h_478 h_479 h_480 h_638 h_640 h_641 h_642 h_643 h_644 h_645 h_646 h_647 h_649 h_650 h_652 h_694 h_709 h_710 h_707 h_711 h_712 h_713 h_72 h_651 h_706; omega) | omega))) (by first | (clear ha2 hq0 hq1 hq2 hq3 hq4 hq5 h_1 h_2 h_3 h_4 h_5 h_6 h_7 h_8 h_9 h_10 h_11 h_12 h_13 h_14 h_15 h_16 h_69 h_70 h_71 h_81 h_478 h_479 h_480 h_638 h_639 h_640 h_641 h_642 h_643 h_644 h_645 h_646 h_647 h_649 h_650 h_652 h_694 h_709 h_710 h_711 h_712 h_713 h_714 h_72 h_651 h_706; omega) | omega) (fun hz => absurd hz (by omega))
          · refine v_ic_ge_f (t := 32) rfl (by decide) ⟨(Int.le_trans (by decide) h_478.1), (Int.not_le.mp h_479), by decide⟩ ?_
            refine q_aload_n rfl rfl ?_
            refine v_gr (t := (A + 9)) rfl rfl (ck_p7 hA) (a68 hA rfl) rfl ?_
            refine q_aload_n rfl rfl ?_
            refine v_gi (z := 5) (v := c_474 (A + 7) 5) rfl rfl (ck_p7 hA) (a68 hA rfl) rfl rfl rfl ?_
            refine q_iload_n rfl rfl ?_
            refine v_is rfl (ck_p9 hA) (a68 hA rfl) (by decide) (by omega) ?_
            refine q_aload_n rfl rfl ?_
            refine q_dup rfl rfl ?_
            refine v_gi (z := 5) (v := c_474 (A + 7) 5) rfl rfl (ck_p7 hA) (a68 hA rfl) rfl rfl (up_c (pp rfl)) ?_
            refine q_iconst rfl ?_
            refine v_iadd (v := c_474 (A + 7) 5 + 1) rfl rfl ?_
            refine v_pi (z := 5) rfl rfl (ck_p7 hA) (a68 hA rfl) rfl rfl rfl (by decide) ?_
            refine q_vret rfl rfl ?_
            refine bk_inl ?_
            refine v_iinc (v := v + 1) rfl rfl (by decide) rfl ?_
            refine q_goto (t := 8) rfl (by decide) ?_
            have h_717 := ir_1_4 hI_475
            by_cases h_718 : c_474 1 4 = 0
            · skip
              have hI_719 := iw_lg (j := c_474 (A + 7) 5) (v := 2003) hI_475 (lgp (k := 9) hA (by decide)) ⟨by decide, by decide⟩ (by omega)
              have hI_720 := iw_p7_5 (v := c_474 (A + 7) 5 + 1) hI_719 hA ⟨by first | exact rgp_l h_478.1 (by decide) | omega, by first | (clear ha2 hq0 hq1 hq2 hq3 hq4 hq5 h_1 h_2 h_3 h_4 h_5 h_6 h_7 h_8 h_9 h_10 h_11 h_12 h_13 h_14 h_15 h_16 h_69 h_70 h_71 h_81 h_478 h_717 h_718 h_72; omega) | omega⟩
              refine Wp_ls [(0, .ref (A + 7)), (1, .ref 1), (2, vi a2), (3, vi (v + 1))] (lsub_cons rfl (lsub_cons rfl (lsub_cons rfl (lsub_cons rfl lsub_nil)))) ?_
              refine gh_stop ((s_12_l (sc := sc) (d := dh + 22) (c := (up (up c_474 (A + 9) (c_474 (A + 7) 5) 2003) (A + 7) 5 (c_474 (A + 7) 5 + 1))) (a2 := a2) (Z := fun _ => True) hI_720 hA ha2 (fun c9 Z9 h hI9 K9 => r_13 (d := dh + 1) hI9 hA ⟨by omega, h⟩ K9) (fun _ _ _ => trivial) 304) (up (up c_474 (A + 9) (c_474 (A + 7) 5) 2003) (A + 7) 5 (c_474 (A + 7) 5 + 1)) (v + 1) hI_720 (fun a j hm => rfl) ⟨by omega, by omega⟩ (by omega)) (fun hG_721 => ?_)
              refine q_aload_n rfl rfl ?_
              refine v_cv rfl rfl rfl rfl (by decide) ⟨⟨rfl, rfl⟩, by decide, rfl⟩ (Nat.le_of_ble_eq_true rfl) (Nat.le_of_ble_eq_true rfl) ?_
              refine q_aload_n rfl rfl ?_
              refine v_gi (z := 5) (v := (-1)) rfl rfl rfl (by decide) rfl rfl (hc_1) ?_
              refine q_iconst rfl ?_
              refine v_ic_ne_f (t := 12) rfl (by decide) (by decide) ?_
              refine q_iconst rfl ?_
              refine q_goto (t := 13) rfl (by decide) ?_
              refine v_zret rfl rfl (by decide) ?_
              refine bk_inl ?_
              refine v_if_eq_f (t := 90) rfl (by decide) (by decide) ?_
              refine q_aload_n rfl rfl ?_
              have kn_722 : Hid (c2 41 3 = e1) := (hFc 41 3 (fun q => q.elim (fun h => absurd h.2 (ni rfl)) (fun q => q.elim (fun h => absurd h.2 (ni rfl)) (fun q => q.elim (fun h => absurd h.2 (ni rfl)) (fun q => q.elim (fun h => absurd h.2 (ni rfl)) (fun q => q.elim (fun h => absurd h.2 (ni rfl)) (fun q => q.elim (fun h => absurd h (nn rfl)) (fun h => absurd h (nn rfl))))))))).trans (hr_e1)
              have h_723 : -2147483648 ≤ (H (nx F e1 a)) ∧ (H (nx F e1 a)) ≤ 2147483647 := by rw [← hH (nx F e1 a)]; exact ir_43 hI (nx F e1 a)
              have h_724 := hU (nx F e1 a) (by omega) (by omega)
              have h_725 := hb_or (b := H) (e := e1) (r := (nx F e1 a))
              have h_726 := hb_bd (b := H) (e := e1) (r := (nx F e1 a)) (lo := -2147483648) (hi := 2147483647) h_723 (by decide)
              refine v_cv rfl rfl rfl rfl (by decide) ⟨⟨rfl, rfl⟩, by decide, rfl⟩ (Nat.le_of_ble_eq_true rfl) (Nat.le_of_ble_eq_true rfl) (f_154 (e1 := e1) (a9 := a) (B := H) (r8 := (nx F e1 a)) (r := (hb H e1 (nx F e1 a))) hI2 ((hid kn_722)) ((hr_a)) (fun j => (hFc 43 j (fun q => q.elim (fun h => absurd h.1 (nn rfl)) (fun q => q.elim (fun h => absurd h.1 (nn rfl)) (fun q => q.elim (fun h => absurd h.1 (nn rfl)) (fun q => q.elim (fun h => absurd h.1 (nn rfl)) (fun q => q.elim (fun h => absurd h.1 (nn rfl)) (fun q => q.elim (fun h => absurd h (nn rfl)) (fun h => absurd h (nn rfl))))))))).trans (hH j)) ((nx_tr hU (by first | (clear ha2 hq0 hq1 hq2 hq3 hq4 hq5 h_1 h_2 h_3 h_4 h_5 h_6 h_7 h_8 h_9 h_10 h_11 h_12 h_13 h_14 h_15 h_16 h_69 h_70 h_71 h_81 h_478 h_717 h_718 h_72; omega) | omega) (by first | (clear ha2 hq0 hq1 hq2 hq3 hq4 h_1 h_2 h_3 h_4 h_5 h_6 h_7 h_8 h_9 h_10 h_11 h_12 h_13 h_14 h_15 h_16 h_69 h_70 h_71 h_81 h_478 h_717 h_718 h_72; omega) | omega)).trans (rfl)) rfl (fun c_727 hI_728 hF_729 h_730 => ?_))
              refine bk_inl ?_
              refine v_bip rfl (by decide) ?_
              refine v_ic_eq_f (t := 38) rfl (by decide) ⟨by first | (clear ha2 hq0 hq1 hq2 hq3 h_3 h_4 h_5 h_6 h_7 h_8 h_9 h_10 h_11 h_12 h_13 h_14 h_15 h_69 h_71 h_478 h_717 h_718; omega) | omega, ⟨h_726.1, h_726.2⟩, by decide, by decide⟩ ?_
              refine q_aload_n rfl rfl ?_
              have kn_731 : Hid (c_727 41 3 = e1) := (hF_729 41 3 (fun h => absurd h.2 (ni rfl))).trans (hid kn_722)
              refine v_cv rfl rfl rfl rfl (by decide) ⟨⟨rfl, rfl⟩, by decide, rfl⟩ (Nat.le_of_ble_eq_true rfl) (Nat.le_of_ble_eq_true rfl) (f_154 (e1 := e1) (a9 := (nx F e1 a)) (B := H) (r8 := (nx F e1 a)) (r := (hb H e1 (nx F e1 a))) hI_728 ((hid kn_731)) ((h_730)) (fun j => ((hF_729 43 j (fun h => absurd h.1 (nn rfl))).trans (hFc 43 j (fun q => q.elim (fun h => absurd h.1 (nn rfl)) (fun q => q.elim (fun h => absurd h.1 (nn rfl)) (fun q => q.elim (fun h => absurd h.1 (nn rfl)) (fun q => q.elim (fun h => absurd h.1 (nn rfl)) (fun q => q.elim (fun h => absurd h.1 (nn rfl)) (fun q => q.elim (fun h => absurd h (nn rfl)) (fun h => absurd h (nn rfl)))))))))).trans (hH j)) ((nx_tr hU (by first | (clear ha2 hq0 hq1 hq2 hq3 hq4 hq5 h_1 h_2 h_3 h_4 h_5 h_6 h_7 h_8 h_9 h_10 h_11 h_12 h_13 h_14 h_15 h_16 h_69 h_71 h_81 h_478 h_717 h_718 h_723 h_724 h_726 h_72 h_725; omega) | omega) (by first | (clear ha2 hq0 hq1 hq2 hq3 hq4 h_1 h_2 h_3 h_4 h_5 h_6 h_7 h_8 h_9 h_10 h_11 h_12 h_13 h_14 h_15 h_16 h_69 h_70 h_71 h_81 h_478 h_717 h_718 h_723 h_724 h_726 h_72 h_725; omega) | omega)).trans ((nx_z (by omega)))) rfl (fun c_732 hI_733 hF_734 h_735 => ?_))
              refine bk_inl ?_
              refine v_bip rfl (by decide) ?_
              refine v_ic_eq_t (t := 38) rfl (by decide) (by first | (clear ha2 hq0 hq1 hq2 hq3 h_3 h_4 h_5 h_6 h_7 h_8 h_9 h_10 h_11 h_12 h_13 h_14 h_15 h_69 h_71 h_478 h_717 h_718; omega) | omega) ?_
              refine q_aload_n rfl rfl ?_
              have kn_736 : Hid (c_732 41 3 = e1) := (hF_734 41 3 (fun h => absurd h.2 (ni rfl))).trans (hid kn_731)
              refine v_cv rfl rfl rfl rfl (by decide) ⟨⟨rfl, rfl⟩, by decide, rfl⟩ (Nat.le_of_ble_eq_true rfl) (Nat.le_of_ble_eq_true rfl) (f_154 (e1 := e1) (a9 := (nx F e1 a)) (B := H) (r8 := (nx F e1 a)) (r := (hb H e1 (nx F e1 a))) hI_733 ((hid kn_736)) ((h_735)) (fun j => ((hF_734 43 j (fun h => absurd h.1 (nn rfl))).trans ((hF_729 43 j (fun h => absurd h.1 (nn rfl))).trans (hFc 43 j (fun q => q.elim (fun h => absurd h.1 (nn rfl)) (fun q => q.elim (fun h => absurd h.1 (nn rfl)) (fun q => q.elim (fun h => absurd h.1 (nn rfl)) (fun q => q.elim (fun h => absurd h.1 (nn rfl)) (fun q => q.elim (fun h => absurd h.1 (nn rfl)) (fun q => q.elim (fun h => absurd h (nn rfl)) (fun h => absurd h (nn rfl))))))))))).trans (hH j)) ((nx_tr hU (by first | (clear ha2 hq0 hq1 hq2 hq3 hq4 hq5 h_1 h_2 h_3 h_4 h_5 h_6 h_7 h_8 h_9 h_10 h_11 h_12 h_13 h_14 h_15 h_16 h_69 h_71 h_81 h_478 h_717 h_718 h_723 h_724 h_726 h_72 h_725; omega) | omega) (by first | (clear ha2 hq0 hq1 hq2 hq3 hq4 h_1 h_2 h_3 h_4 h_5 h_6 h_7 h_8 h_9 h_10 h_11 h_12 h_13 h_14 h_15 h_16 h_69 h_70 h_71 h_81 h_478 h_717 h_718 h_723 h_724 h_726 h_72 h_725; omega) | omega)).trans ((nx_z (by omega)))) rfl (fun c_737 hI_738 hF_739 h_740 => ?_))
              refine bk_inl ?_
              refine v_bip rfl (by decide) ?_
              refine v_ic_ne_t (t := 51) rfl (by decide) ⟨by first | (clear ha2 hq0 hq1 hq2 hq3 h_3 h_4 h_5 h_6 h_7 h_8 h_9 h_10 h_11 h_12 h_13 h_14 h_15 h_69 h_71 h_478 h_717 h_718; omega) | omega, ⟨h_726.1, h_726.2⟩, by decide, by decide⟩ ?_
              refine q_aload_n rfl rfl ?_
              have kn_741 : Hid (c_737 41 3 = e1) := (hF_739 41 3 (fun h => absurd h.2 (ni rfl))).trans (hid kn_736)
              refine v_cv rfl rfl rfl rfl (by decide) ⟨⟨rfl, rfl⟩, by decide, rfl⟩ (Nat.le_of_ble_eq_true rfl) (Nat.le_of_ble_eq_true rfl) (f_154 (e1 := e1) (a9 := (nx F e1 a)) (B := H) (r8 := (nx F e1 a)) (r := (hb H e1 (nx F e1 a))) hI_738 ((hid kn_741)) ((h_740)) (fun j => ((hF_739 43 j (fun h => absurd h.1 (nn rfl))).trans ((hF_734 43 j (fun h => absurd h.1 (nn rfl))).trans ((hF_729 43 j (fun h => absurd h.1 (nn rfl))).trans (hFc 43 j (fun q => q.elim (fun h => absurd h.1 (nn rfl)) (fun q => q.elim (fun h => absurd h.1 (nn rfl)) (fun q => q.elim (fun h => absurd h.1 (nn rfl)) (fun q => q.elim (fun h => absurd h.1 (nn rfl)) (fun q => q.elim (fun h => absurd h.1 (nn rfl)) (fun q => q.elim (fun h => absurd h (nn rfl)) (fun h => absurd h (nn rfl)))))))))))).trans (hH j)) ((nx_tr hU (by first | (clear ha2 hq0 hq1 hq2 hq3 hq4 hq5 h_1 h_2 h_3 h_4 h_5 h_6 h_7 h_8 h_9 h_10 h_11 h_12 h_13 h_14 h_15 h_16 h_69 h_71 h_81 h_478 h_717 h_718 h_723 h_724 h_726 h_72 h_725; omega) | omega) (by first | (clear ha2 hq0 hq1 hq2 hq3 hq4 h_1 h_2 h_3 h_4 h_5 h_6 h_7 h_8 h_9 h_10 h_11 h_12 h_13 h_14 h_15 h_16 h_69 h_70 h_71 h_81 h_478 h_717 h_718 h_723 h_724 h_726 h_72 h_725; omega) | omega)).trans ((nx_z (by omega)))) rfl (fun c_742 hI_743 hF_744 h_745 => ?_))
              refine bk_inl ?_
              refine v_bip rfl (by decide) ?_
              refine v_ic_ne_f (t := 64) rfl (by decide) (by first | (clear ha2 hq0 hq1 hq2 hq3 h_3 h_4 h_5 h_6 h_7 h_8 h_9 h_10 h_11 h_12 h_13 h_14 h_15 h_69 h_71 h_478 h_717 h_718; omega) | omega) ?_
              refine q_iconst rfl ?_
              refine q_goto (t := 66) rfl (by decide) ?_
              refine q_istore_n rfl (by decide) ?_
              refine q_aload_n rfl rfl ?_
              refine q_dup rfl rfl ?_
              refine v_gi (z := 4) (v := (nx F e1 a)) rfl rfl rfl (by decide) rfl rfl (h_745) ?_
              refine q_iconst rfl ?_
              refine v_iadd (v := (nx F e1 a) + 1) rfl rfl ?_
              refine v_pi (z := 4) rfl rfl rfl (by decide) rfl rfl rfl (by decide) ?_
              refine q_aload_n rfl rfl ?_
              have kn_746 : Hid (c_727 41 5 = (-1)) := (hF_729 41 5 (fun h => absurd h.2 (ni rfl))).trans (hc_1)
              have kn_747 : Hid (c_732 41 5 = (-1)) := (hF_734 41 5 (fun h => absurd h.2 (ni rfl))).trans (hid kn_746)
              have kn_748 : Hid (c_737 41 5 = (-1)) := (hF_739 41 5 (fun h => absurd h.2 (ni rfl))).trans (hid kn_747)
              have kn_749 : Hid (c_742 41 5 = (-1)) := (hF_744 41 5 (fun h => absurd h.2 (ni rfl))).trans (hid kn_748)
              have hI_750 := iw_41_4 (v := (nx F e1 a) + 1) hI_743 ⟨by first | exact rgp_l (rg_be h_70 (ha.1) ((rg_eq hg_e1 h_1).2)).1 (by decide) | omega, by first | exact rgp_h (rg_be h_70 (ha.1) ((rg_eq hg_e1 h_1).2)).2 (by decide) | omega⟩
              have kn_751 : Hid (c_78 1 1 = e1) := (hF_80 1 1 (fun h => absurd h.2 (ni rfl))).trans (hid kn_68)
              have kn_752 : Hid (c_742 41 3 = e1) := (hF_744 41 3 (fun h => absurd h.2 (ni rfl))).trans (hid kn_741)
              have kn_753 : Hid (c_78 1 5 = (-1)) := (hF_80 1 5 (fun h => absurd h.2 (ni rfl))).trans (hc_2)
              have kn_754 : Hid (c_78 (A + 7) 5 = nw) := (hF_80 (A + 7) 5 (fun h => absurd h.1 (np hA rfl rfl))).trans (hg_nw)
              have kn_755 : Hid (c_727 41 29 = nw) := (hF_729 41 29 (fun h => absurd h.2 (ni rfl))).trans (hr_nw)
              have kn_756 : Hid (c_732 41 29 = nw) := (hF_734 41 29 (fun h => absurd h.2 (ni rfl))).trans (hid kn_755)
              have kn_757 : Hid (c_737 41 29 = nw) := (hF_739 41 29 (fun h => absurd h.2 (ni rfl))).trans (hid kn_756)
              have kn_758 : Hid (c_742 41 29 = nw) := (hF_744 41 29 (fun h => absurd h.2 (ni rfl))).trans (hid kn_757)
              have kn_759 : Hid (c_727 41 7 = a2) := (hF_729 41 7 (fun h => absurd h.2 (ni rfl))).trans (hc_3)
              have kn_760 : Hid (c_732 41 7 = a2) := (hF_734 41 7 (fun h => absurd h.2 (ni rfl))).trans (hid kn_759)
              have kn_761 : Hid (c_737 41 7 = a2) := (hF_739 41 7 (fun h => absurd h.2 (ni rfl))).trans (hid kn_760)
              have kn_762 : Hid (c_742 41 7 = a2) := (hF_744 41 7 (fun h => absurd h.2 (ni rfl))).trans (hid kn_761)
              have h_763 : c_78 1 4 = 0 := (hid kn_473)
              have h_764 : c_78 1 2 = (nx F e1 a) + 1 := (hz_82)
              have h_765 : c_78 1 5 = (-1) := (hid kn_753)
              have h_766 : (up c_742 41 4 ((nx F e1 a) + 1)) 41 5 = (-1) := ((up_n (by decide)).trans (hid kn_749))
              have h_767 : (up c_742 41 4 ((nx F e1 a) + 1)) 41 4 = (nx F e1 a) + 1 := (up_e rfl)
              have h_768 := ir_41_6 hI2
              have kn_769 : Hid (c_727 41 6 = c2 41 6) := hF_729 41 6 (fun h => absurd h.2 (ni rfl))
              have kn_770 : Hid (c_732 41 6 = c2 41 6) := (hF_734 41 6 (fun h => absurd h.2 (ni rfl))).trans (hid kn_769)
              have kn_771 : Hid (c_737 41 6 = c2 41 6) := (hF_739 41 6 (fun h => absurd h.2 (ni rfl))).trans (hid kn_770)
              have kn_772 : Hid (c_742 41 6 = c2 41 6) := (hF_744 41 6 (fun h => absurd h.2 (ni rfl))).trans (hid kn_771)
              have h_773 : (up c_742 41 4 ((nx F e1 a) + 1)) 41 6 = c2 41 6 := ((up_n (by decide)).trans (hid kn_772))
              have hA_774 : Ce nw (c_78 (A + 9)) ((up c_742 41 4 ((nx F e1 a) + 1)) 50) ((up c_742 41 4 ((nx F e1 a) + 1)) 51) := ce_fr hrl0 (fun j => hF_80 (A + 9) j (fun h => absurd h.1 (np hA rfl rfl))) (fun j => (up_c (nn rfl)).trans ((hF_744 50 j (fun h => absurd h.1 (nn rfl))).trans ((hF_739 50 j (fun h => absurd h.1 (nn rfl))).trans ((hF_734 50 j (fun h => absurd h.1 (nn rfl))).trans (hF_729 50 j (fun h => absurd h.1 (nn rfl))))))) (fun j => (up_c (nn rfl)).trans ((hF_744 51 j (fun h => absurd h.1 (nn rfl))).trans ((hF_739 51 j (fun h => absurd h.1 (nn rfl))).trans ((hF_734 51 j (fun h => absurd h.1 (nn rfl))).trans (hF_729 51 j (fun h => absurd h.1 (nn rfl)))))))
              refine v_cv rfl rfl rfl rfl (by decide) ⟨⟨rfl, rfl⟩, by decide, rfl⟩ (Nat.le_of_ble_eq_true rfl) (Nat.le_of_ble_eq_true rfl) (L_14 (m := c_78) (a2 := a2) (e1 := e1) (f0 := 0) (g0 := (-1)) (p0 := (nx F e1 a) + 1) (n0 := nw) (o0 := a2) (F := F) (H := H) hI_750 hI_79 hI_475 hA (show 0 ≤ a2 ∧ a2 ≤ 6 from ha2) (by first | (clear ha2 hq0 hq1 hq2 hq3 hq4 hq5 h_1 h_2 h_3 h_4 h_5 h_6 h_7 h_8 h_9 h_10 h_11 h_12 h_13 h_14 h_15 h_16 h_69 h_70 h_71 h_81 h_478 h_717 h_718 h_723 h_724 h_726 h_72 h_725; omega) | omega) (by first | (clear ha2 hq0 hq1 hq2 hq3 hq4 hq5 h_1 h_2 h_3 h_4 h_5 h_6 h_7 h_8 h_9 h_10 h_11 h_12 h_13 h_14 h_15 h_16 h_69 h_70 h_71 h_81 h_478 h_717 h_718 h_723 h_724 h_726 h_72 h_725; omega) | omega) (by first | (clear ha2 hq0 hq1 hq2 hq3 hq4 hq5 h_1 h_2 h_3 h_4 h_5 h_6 h_7 h_8 h_9 h_10 h_11 h_12 h_13 h_14 h_15 h_16 h_69 h_70 h_71 h_81 h_478 h_717 h_718 h_723 h_724 h_726 h_72 h_725; omega) | omega) (by first | (clear ha2 hq0 hq1 hq2 hq4 hq5 h_1 h_2 h_3 h_4 h_5 h_6 h_7 h_8 h_9 h_10 h_11 h_12 h_13 h_14 h_15 h_69 h_71 h_81 h_478 h_717 h_718 h_723 h_724 h_726 h_72 h_725; omega) | omega) (by first | (clear ha2 hq0 hq1 hq2 hq3 hq4 hq5 h_1 h_2 h_3 h_4 h_5 h_6 h_7 h_8 h_9 h_10 h_11 h_12 h_13 h_14 h_15 h_16 h_69 h_70 h_71 h_478 h_717 h_718 h_723 h_724 h_726 h_72 h_725; omega) | omega) (by first | (clear ha2 hq0 hq1 hq2 hq3 hq4 h_1 h_2 h_3 h_4 h_5 h_6 h_7 h_8 h_9 h_10 h_11 h_12 h_13 h_14 h_15 h_16 h_69 h_70 h_71 h_81 h_478 h_717 h_718 h_723 h_724 h_726 h_72 h_725; omega) | omega) ((hid kn_751)) (((up_n (by decide)).trans (hid kn_752))) ((hid kn_473)) ((hid kn_753)) ((hz_82)) ((hid kn_754)) (((up_n (by decide)).trans (hid kn_758))) (((up_n (by decide)).trans (hid kn_762))) (fun j => ((hF_80 2 j (fun h => absurd h.1 (nn rfl))).trans (hFm 2 j (fun q => q.elim (fun h => absurd h.1 (nn rfl)) (fun q => q.elim (fun h => absurd h.1 (nn rfl)) (fun q => q.elim (fun h => absurd h.1 (nn rfl)) (fun q => q.elim (fun h => absurd h.1 (pn hA rfl rfl)) (fun h => absurd h (pn hA rfl rfl)))))))).trans (hF j)) (fun j => ((up_c (nn rfl)).trans ((hF_744 43 j (fun h => absurd h.1 (nn rfl))).trans ((hF_739 43 j (fun h => absurd h.1 (nn rfl))).trans ((hF_734 43 j (fun h => absurd h.1 (nn rfl))).trans ((hF_729 43 j (fun h => absurd h.1 (nn rfl))).trans (hFc 43 j (fun q => q.elim (fun h => absurd h.1 (nn rfl)) (fun q => q.elim (fun h => absurd h.1 (nn rfl)) (fun q => q.elim (fun h => absurd h.1 (nn rfl)) (fun q => q.elim (fun h => absurd h.1 (nn rfl)) (fun q => q.elim (fun h => absurd h.1 (nn rfl)) (fun q => q.elim (fun h => absurd h (nn rfl)) (fun h => absurd h (nn rfl)))))))))))))).trans (hH j)) hU (rt_i1 ⟨by first | (clear ha2 hq0 hq1 hq2 hq3 hq4 hq5 h_1 h_2 h_3 h_4 h_5 h_6 h_7 h_8 h_9 h_10 h_11 h_12 h_13 h_14 h_15 h_16 h_69 h_70 h_71 h_81 h_478 h_717 h_718 h_723 h_724 h_726 h_768 h_72 h_725; omega) | omega, by first | (clear ha2 hq0 hq1 hq2 hq3 hq4 hq5 h_1 h_2 h_3 h_4 h_5 h_6 h_7 h_8 h_9 h_10 h_11 h_12 h_13 h_14 h_15 h_16 h_69 h_70 h_71 h_81 h_478 h_717 h_718 h_723 h_724 h_726 h_768 h_72 h_725; omega) | omega, by first | (clear ha2 hq0 hq1 hq2 hq3 hq4 hq5 h_1 h_2 h_3 h_4 h_5 h_6 h_7 h_8 h_9 h_10 h_11 h_12 h_13 h_14 h_15 h_16 h_69 h_70 h_71 h_81 h_478 h_717 h_718 h_723 h_724 h_726 h_768 h_72 h_725; omega) | omega, by first | (clear ha2 hq0 hq1 hq2 hq3 hq4 hq5 h_1 h_2 h_3 h_4 h_5 h_6 h_7 h_8 h_9 h_10 h_11 h_12 h_13 h_14 h_15 h_16 h_69 h_70 h_71 h_81 h_478 h_717 h_718 h_723 h_724 h_726 h_768 h_72 h_725; omega) | omega⟩) (ce_le hA_774 (by omega)) H13 hG_477 (fun c_775 hI_776 hF_777 hR_779 h_780 h_781 hA_782 => ?_))
              refine bk_inl ?_
              have h_783 := ir_41_29 hI_776
              have h_784 := ir_1_2 hI_475
              have h_785 := ir_41_7 hI_776
              refine q_aload_n rfl rfl ?_
              refine q_iload_n rfl rfl ?_
              refine q_iconst rfl ?_
              refine v_cv rfl rfl rfl rfl (by decide) ⟨⟨rfl, rfl⟩, by decide, rfl⟩ (Nat.le_of_ble_eq_true rfl) (Nat.le_of_ble_eq_true rfl) ?_
              refine q_aload_n rfl rfl ?_
              refine v_cv rfl rfl rfl rfl (by decide) ⟨⟨rfl, rfl⟩, by decide, rfl⟩ (Nat.le_of_ble_eq_true rfl) (Nat.le_of_ble_eq_true rfl) ?_
              refine q_aload_n rfl rfl ?_
              have h_786 := ir_41_5 hI_776
              have h_787 := ir_1_5 hI_475
              have h_788 := ir_41_4 hI_776
              have h_789 := ir_41_6 hI_776
              have h_790 := rt_ok hR_779 (by omega)
              have hro_hR_779 := rt_ok hR_779 (by omega)
              refine v_gi (z := 5) (v := (-1)) rfl rfl rfl (by decide) rfl rfl hro_hR_779.2.1 ?_
              refine q_iconst rfl ?_
              refine v_ic_ne_f (t := 12) rfl (by decide) (by decide) ?_
              refine q_iconst rfl ?_
              refine q_goto (t := 13) rfl (by decide) ?_
              refine v_zret rfl rfl (by decide) ?_
              refine bk_inl ?_
              refine v_if_ne_t (t := 8) rfl (by decide) (by decide) ?_
              refine q_aload_n rfl rfl ?_
              refine v_gr (t := 50) rfl rfl rfl (by decide) rfl ?_
              refine q_aload_n rfl rfl ?_
              refine v_gi (z := 29) (v := c_775 41 29) rfl rfl rfl (by decide) rfl rfl rfl ?_
              refine q_iload_n rfl rfl ?_
              refine v_is rfl rfl (by decide) (by decide) (by omega) ?_
              refine q_aload_n rfl rfl ?_
              refine v_gr (t := 51) rfl rfl rfl (by decide) rfl ?_
              refine q_aload_n rfl rfl ?_
              refine v_gi (z := 29) (v := c_775 41 29) rfl rfl rfl (by decide) rfl rfl (up_c (nn rfl)) ?_
              refine q_iload_n rfl rfl ?_
              refine v_is rfl rfl (by decide) (by decide) (by omega) ?_
              refine q_aload_n rfl rfl ?_
              refine q_dup rfl rfl ?_
              refine v_gi (z := 29) (v := c_775 41 29) rfl rfl rfl (by decide) rfl rfl ((up_c (nn rfl)).trans (up_c (nn rfl))) ?_
              refine q_iconst rfl ?_
              refine v_iadd (v := c_775 41 29 + 1) rfl rfl ?_
              refine v_pi (z := 29) rfl rfl rfl (by decide) rfl rfl rfl (by decide) ?_
              refine q_vret rfl rfl ?_
              refine bk_inl ?_
              refine q_goto (t := 4) rfl (by decide) ?_
              have hI_791 := iw_50 (j := c_775 41 29) (v := 5) hI_776 ⟨by decide, by decide⟩
              have hI_792 := iw_51 (j := c_775 41 29) (v := 0) hI_791 ⟨by decide, by decide⟩
              have hI_793 := iw_41_29 (v := c_775 41 29 + 1) hI_792 ⟨by first | exact rgp_l h_783.1 (by decide) | omega, by first | (clear ha2 hq0 hq1 hq2 hq3 h_3 h_4 h_5 h_6 h_7 h_8 h_9 h_10 h_13 h_14 h_15 h_69 h_71 h_723 h_724 h_726 h_768 h_785 h_781 h_786 h_787 h_788 h_789; omega) | omega⟩
              refine Wp_ls [(0, .ref 41)] (lsub_cons rfl lsub_nil) ?_
              have hA_794 : Ce (c_775 41 29 + 1) ((up (up c_474 (A + 9) (c_474 (A + 7) 5) 2003) (A + 7) 5 (c_474 (A + 7) 5 + 1)) (A + 9)) ((up (up (up c_775 50 (c_775 41 29) 5) 51 (c_775 41 29) 0) 41 29 (c_775 41 29 + 1)) 50) ((up (up (up c_775 50 (c_775 41 29) 5) 51 (c_775 41 29) 0) 41 29 (c_775 41 29 + 1)) 51) := ce_w (i := c_474 (A + 7) 5) (v := 2003) (w := 5) (o := 0) (hA_782 (by omega)) (by omega) ((up_c (pp rfl)).trans (up_e rfl)) ((up_c (nn rfl)).trans ((up_c (nn rfl)).trans (up_e (by omega)))) ((up_c (nn rfl)).trans (up_e (by omega))) (fun j hj => (up_c (pp rfl)).trans (up_n hj)) (fun j hj => (up_c (nn rfl)).trans ((up_c (nn rfl)).trans (up_n (by omega)))) (fun j hj => (up_c (nn rfl)).trans ((up_n (by omega)).trans (up_c (nn rfl)))) (cr_i2 ⟨by decide, by decide, by decide, by decide⟩)
              have hA_795 : Ce (c_474 (A + 7) 5 + 1) ((up (up c_474 (A + 9) (c_474 (A + 7) 5) 2003) (A + 7) 5 (c_474 (A + 7) 5 + 1)) (A + 9)) ((up (up (up c_775 50 (c_775 41 29) 5) 51 (c_775 41 29) 0) 41 29 (c_775 41 29 + 1)) 50) ((up (up (up c_775 50 (c_775 41 29) 5) 51 (c_775 41 29) 0) 41 29 (c_775 41 29 + 1)) 51) := ce_le hA_794 (by omega)
              exact ih (up (up (up c_775 50 (c_775 41 29) 5) 51 (c_775 41 29) 0) 41 29 (c_775 41 29 + 1)) (up (up c_474 (A + 9) (c_474 (A + 7) 5) 2003) (A + 7) 5 (c_474 (A + 7) 5 + 1)) (v + 1) (c_474 1 2) (c_474 (A + 7) 5 + 1) hI_793 (fun a j hm => (up_b (Decidable.or_iff_not_imp_left.mpr (fun h1 h2 => hm (Or.inr (Or.inr (Or.inr (Or.inr (Or.inl ⟨Decidable.not_not.mp h1, h2⟩)))))))).trans ((up_b (Decidable.or_iff_not_imp_left.mpr (fun h1 h2 => hm (Or.inr (Or.inr (Or.inr (Or.inr (Or.inr (Or.inr (Decidable.not_not.mp h1)))))))))).trans ((up_b (Decidable.or_iff_not_imp_left.mpr (fun h1 h2 => hm (Or.inr (Or.inr (Or.inr (Or.inr (Or.inr (Or.inl (Decidable.not_not.mp h1)))))))))).trans ((hF_777 a j (fun q => q.elim (fun h => hm (Or.inl h)) (fun q => q.elim (fun h => hm (Or.inr (Or.inl h))) (fun q => q.elim (fun h => hm (Or.inr (Or.inr (Or.inl h)))) (fun q => q.elim (fun h => hm (Or.inr (Or.inr (Or.inr (Or.inl h))))) (fun q => q.elim (fun h => hm (Or.inr (Or.inr (Or.inr (Or.inr (Or.inl h)))))) (fun q => q.elim (fun h => hm (Or.inr (Or.inr (Or.inr (Or.inr (Or.inr (Or.inl h))))))) (fun h => hm (Or.inr (Or.inr (Or.inr (Or.inr (Or.inr (Or.inr h)))))))))))))).trans ((up_b (Decidable.or_iff_not_imp_left.mpr (fun h1 h2 => hm (Or.inl ⟨Decidable.not_not.mp h1, h2⟩)))).trans ((hF_744 a j (fun h => hm (Or.inl h))).trans ((hF_739 a j (fun h => hm (Or.inl h))).trans ((hF_734 a j (fun h => hm (Or.inl h))).trans ((hF_729 a j (fun h => hm (Or.inl h))).trans (hFc a j (fun q => q.elim (fun h => hm (Or.inl h)) (fun q => q.elim (fun h => hm (Or.inr (Or.inl h))) (fun q => q.elim (fun h => hm (Or.inr (Or.inr (Or.inl h)))) (fun q => q.elim (fun h => hm (Or.inr (Or.inr (Or.inr (Or.inl h))))) (fun q => q.elim (fun h => hm (Or.inr (Or.inr (Or.inr (Or.inr (Or.inl h)))))) (fun q => q.elim (fun h => hm (Or.inr (Or.inr (Or.inr (Or.inr (Or.inr (Or.inl h))))))) (fun h => hm (Or.inr (Or.inr (Or.inr (Or.inr (Or.inr (Or.inr h))))))))))))))))))))))) hI_720 (fun a j hm => (up_b (Decidable.or_iff_not_imp_left.mpr (fun h1 h2 => hm (Or.inr (Or.inr (Or.inr (Or.inl ⟨Decidable.not_not.mp h1, h2⟩))))))).trans ((up_b (Decidable.or_iff_not_imp_left.mpr (fun h1 h2 => hm (Or.inr (Or.inr (Or.inr (Or.inr (Decidable.not_not.mp h1)))))))).trans ((hF_476 a j (fun q => q.elim (fun h => hm (Or.inl h)) (fun q => q.elim (fun h => hm (Or.inr (Or.inl h))) (fun q => q.elim (fun h => hm (Or.inr (Or.inr (Or.inl h)))) (fun q => q.elim (fun h => hm (Or.inr (Or.inr (Or.inr (Or.inl h))))) (fun h => hm (Or.inr (Or.inr (Or.inr (Or.inr h)))))))))).trans ((hF_80 a j (fun h => hm (Or.inl h))).trans (hFm a j (fun q => q.elim (fun h => hm (Or.inl h)) (fun q => q.elim (fun h => hm (Or.inr (Or.inl h))) (fun q => q.elim (fun h => hm (Or.inr (Or.inr (Or.inl h)))) (fun q => q.elim (fun h => hm (Or.inr (Or.inr (Or.inr (Or.inl h))))) (fun h => hm (Or.inr (Or.inr (Or.inr (Or.inr h)))))))))))))) ⟨by omega, by omega⟩ ⟨by omega, by omega⟩ ⟨by omega, by omega⟩ (((up_c (pn hA rfl rfl)).trans (up_c (pn hA rfl rfl)))) (((((up_n (by decide)).trans ((up_c (nn rfl)).trans (up_c (nn rfl))))).trans (hro_hR_779.2.2.1))) ((up_e rfl)) ((show _ = c_775 41 29 + 1 from (up_e rfl)).trans (by omega)) ((show _ = c_474 1 4 from ((up_c (pn hA rfl rfl)).trans (up_c (pn hA rfl rfl)))).trans (by omega)) (((((up_n (by decide)).trans ((up_c (nn rfl)).trans (up_c (nn rfl))))).trans (hro_hR_779.2.1))) ((show _ = c_474 1 5 from ((up_c (pn hA rfl rfl)).trans (up_c (pn hA rfl rfl)))).trans (by omega)) ((show _ = c_775 41 7 from ((up_n (by decide)).trans ((up_c (nn rfl)).trans (up_c (nn rfl))))).trans (by omega)) (by first | (clear hq0 hq1 h_3 h_4 h_8 h_13 h_14 h_15 h_69 h_71 h_723 h_724 h_726 h_768 h_785 h_789; omega) | omega) (by first | (clear hq0 hq1 h_3 h_4 h_8 h_13 h_14 h_15 h_69 h_71 h_723 h_724 h_726 h_768 h_785 h_789; omega) | omega) (by first | (clear ha2 hq0 hq1 hq2 hq3 h_3 h_4 h_5 h_6 h_7 h_8 h_9 h_10 h_11 h_12 h_13 h_14 h_15 h_69 h_71 h_478 h_717 h_718 h_723 h_724 h_726 h_768 h_783 h_785 h_781 h_786 h_787 h_788 h_789; omega) | omega) (by first | (clear hq0 hq1 h_3 h_4 h_8 h_13 h_14 h_15 h_69 h_71 h_723 h_724 h_726 h_768 h_785 h_789; omega) | omega) (ce_le hA_795 (by omega)) hG_721 (by omega)
            · skip
              refine q_iload_n rfl rfl ?_
              refine v_sip rfl (by decide) ?_
              by_cases h_796 : v + 1 ≥ 150
              · refine v_ic_ge_t (t := 59) rfl (by decide) ⟨by decide, h_796, by first | exact rgp_h hv.2 (by decide) | omega⟩ ?_
                refine q_vret rfl rfl ?_
                have hI_797 := iw_lg (j := c_474 (A + 7) 5) (v := 2003) hI_475 (lgp (k := 9) hA (by decide)) ⟨by decide, by decide⟩ (by omega)
                have hI_798 := iw_p7_5 (v := c_474 (A + 7) 5 + 1) hI_797 hA ⟨by first | exact rgp_l h_478.1 (by decide) | omega, by first | (clear ha2 hq0 hq1 hq2 hq3 hq4 hq5 h_1 h_2 h_3 h_4 h_5 h_6 h_7 h_8 h_9 h_10 h_11 h_12 h_13 h_14 h_15 h_16 h_69 h_70 h_71 h_81 h_478 h_717 h_796 h_72; omega) | omega⟩
                intro hE_799
                have hW : Wd P Q P P (up (up c_474 (A + 9) (c_474 (A + 7) 5) 2003) (A + 7) 5 (c_474 (A + 7) 5 + 1)) = Wd P Q P P m9 := (Prod.mk.inj (Prod.mk.inj hE_799).2).1
                have h_800 := ir_1_4 hJ9
                have h_801 : m9 1 4 = c_474 1 4 := wd_fv (z := 4) 4 rfl hW rfl rfl rfl rfl (by decide) ((up_c (pn hA rfl rfl)).trans (up_c (pn hA rfl rfl))) ⟨(Int.le_trans (by decide) h_717.1), (Int.le_trans h_717.2 (by decide))⟩ ⟨(Int.le_trans (by decide) h_800.1), (Int.le_trans h_800.2 (by decide))⟩
                have h_802 := ir_1_2 hI_475
                have h_803 := ir_1_2 hJ9
                have h_804 : m9 1 2 = c_474 1 2 := wd_fv (z := 2) 2 rfl hW rfl rfl rfl rfl (by decide) ((up_c (pn hA rfl rfl)).trans (up_c (pn hA rfl rfl))) ⟨(Int.le_trans (by decide) h_802.1), (Int.le_trans h_802.2 (by decide))⟩ ⟨(Int.le_trans (by decide) h_803.1), (Int.le_trans h_803.2 (by decide))⟩
                have h_805 := ir_1_5 hI_475
                have h_806 := ir_1_5 hJ9
                have h_807 : m9 1 5 = c_474 1 5 := wd_fv (z := 5) 5 rfl hW rfl rfl rfl rfl (by decide) ((up_c (pn hA rfl rfl)).trans (up_c (pn hA rfl rfl))) ⟨(Int.le_trans (by decide) h_805.1), (Int.le_trans h_805.2 (by decide))⟩ ⟨(Int.le_trans (by decide) h_806.1), (Int.le_trans h_806.2 (by decide))⟩
                have h_808 := ir_p7_5 hJ9 hA
                have h_809 : m9 (A + 7) 5 = c_474 (A + 7) 5 + 1 := wd_fv (z := 5) 5 rfl hW (ck_p7 hA) (ck_p7 hA) rfl rfl (by omega) (up_e rfl) ⟨by first | exact rgp_l h_478.1 (by decide) | omega, by first | exact rgp_h h_478.2 (by decide) | omega⟩ ⟨(Int.le_trans (by decide) h_808.1), (Int.le_trans h_808.2 (by decide))⟩
                refine q_aload_n rfl rfl ?_
                refine v_cv rfl rfl rfl rfl (by decide) ⟨⟨rfl, rfl⟩, by decide, rfl⟩ (Nat.le_of_ble_eq_true rfl) (Nat.le_of_ble_eq_true rfl) ?_
                refine q_aload_n rfl rfl ?_
                refine v_gi (z := 5) (v := (-1)) rfl rfl rfl (by decide) rfl rfl (hc_1) ?_
                refine q_iconst rfl ?_
                refine v_ic_ne_f (t := 12) rfl (by decide) (by decide) ?_
                refine q_iconst rfl ?_
                refine q_goto (t := 13) rfl (by decide) ?_
                refine v_zret rfl rfl (by decide) ?_
                refine bk_inl ?_
                refine v_if_eq_f (t := 90) rfl (by decide) (by decide) ?_
                refine q_aload_n rfl rfl ?_
                have kn_810 : Hid (c2 41 3 = e1) := (hFc 41 3 (fun q => q.elim (fun h => absurd h.2 (ni rfl)) (fun q => q.elim (fun h => absurd h.2 (ni rfl)) (fun q => q.elim (fun h => absurd h.2 (ni rfl)) (fun q => q.elim (fun h => absurd h.2 (ni rfl)) (fun q => q.elim (fun h => absurd h.2 (ni rfl)) (fun q => q.elim (fun h => absurd h (nn rfl)) (fun h => absurd h (nn rfl))))))))).trans (hr_e1)
                have h_811 : -2147483648 ≤ (H (nx F e1 a)) ∧ (H (nx F e1 a)) ≤ 2147483647 := by rw [← hH (nx F e1 a)]; exact ir_43 hI (nx F e1 a)
                have h_812 := hU (nx F e1 a) (by omega) (by omega)
                have h_813 := hb_or (b := H) (e := e1) (r := (nx F e1 a))
                have h_814 := hb_bd (b := H) (e := e1) (r := (nx F e1 a)) (lo := -2147483648) (hi := 2147483647) h_811 (by decide)
                refine v_cv rfl rfl rfl rfl (by decide) ⟨⟨rfl, rfl⟩, by decide, rfl⟩ (Nat.le_of_ble_eq_true rfl) (Nat.le_of_ble_eq_true rfl) (f_154 (e1 := e1) (a9 := a) (B := H) (r8 := (nx F e1 a)) (r := (hb H e1 (nx F e1 a))) hI2 ((hid kn_810)) ((hr_a)) (fun j => (hFc 43 j (fun q => q.elim (fun h => absurd h.1 (nn rfl)) (fun q => q.elim (fun h => absurd h.1 (nn rfl)) (fun q => q.elim (fun h => absurd h.1 (nn rfl)) (fun q => q.elim (fun h => absurd h.1 (nn rfl)) (fun q => q.elim (fun h => absurd h.1 (nn rfl)) (fun q => q.elim (fun h => absurd h (nn rfl)) (fun h => absurd h (nn rfl))))))))).trans (hH j)) ((nx_tr hU (by first | (clear ha2 hq0 hq1 hq2 hq3 hq4 hq5 h_1 h_2 h_3 h_4 h_5 h_6 h_7 h_8 h_9 h_10 h_11 h_12 h_13 h_14 h_15 h_69 h_70 h_71 h_81 h_478 h_717 h_800 h_801 h_802 h_803 h_804 h_805 h_806 h_807 h_808 h_809 h_72; omega) | omega) (by first | (clear ha2 hq0 hq1 hq2 hq3 hq4 h_1 h_2 h_3 h_4 h_5 h_6 h_7 h_8 h_9 h_10 h_11 h_12 h_13 h_14 h_15 h_16 h_69 h_70 h_71 h_81 h_478 h_717 h_796 h_800 h_801 h_802 h_803 h_804 h_805 h_806 h_807 h_808 h_809 h_72; omega) | omega)).trans (rfl)) rfl (fun c_815 hI_816 hF_817 h_818 => ?_))
                refine bk_inl ?_
                refine v_bip rfl (by decide) ?_
                refine v_ic_eq_f (t := 38) rfl (by decide) ⟨by first | (clear ha2 hq0 hq1 hq2 hq3 h_3 h_4 h_5 h_6 h_7 h_8 h_9 h_10 h_11 h_12 h_13 h_14 h_15 h_69 h_71 h_478 h_717 h_796 h_800 h_801 h_802 h_803 h_804 h_805 h_806 h_807 h_808 h_809; omega) | omega, ⟨h_814.1, h_814.2⟩, by decide, by decide⟩ ?_
                refine q_aload_n rfl rfl ?_
                have kn_819 : Hid (c_815 41 3 = e1) := (hF_817 41 3 (fun h => absurd h.2 (ni rfl))).trans (hid kn_810)
                refine v_cv rfl rfl rfl rfl (by decide) ⟨⟨rfl, rfl⟩, by decide, rfl⟩ (Nat.le_of_ble_eq_true rfl) (Nat.le_of_ble_eq_true rfl) (f_154 (e1 := e1) (a9 := (nx F e1 a)) (B := H) (r8 := (nx F e1 a)) (r := (hb H e1 (nx F e1 a))) hI_816 ((hid kn_819)) ((h_818)) (fun j => ((hF_817 43 j (fun h => absurd h.1 (nn rfl))).trans (hFc 43 j (fun q => q.elim (fun h => absurd h.1 (nn rfl)) (fun q => q.elim (fun h => absurd h.1 (nn rfl)) (fun q => q.elim (fun h => absurd h.1 (nn rfl)) (fun q => q.elim (fun h => absurd h.1 (nn rfl)) (fun q => q.elim (fun h => absurd h.1 (nn rfl)) (fun q => q.elim (fun h => absurd h (nn rfl)) (fun h => absurd h (nn rfl)))))))))).trans (hH j)) ((nx_tr hU (by first | (clear ha2 hq0 hq1 hq2 hq3 hq4 hq5 h_1 h_2 h_3 h_4 h_5 h_6 h_7 h_8 h_9 h_10 h_11 h_12 h_13 h_14 h_15 h_69 h_71 h_81 h_478 h_717 h_800 h_801 h_802 h_803 h_804 h_805 h_806 h_807 h_808 h_809 h_811 h_812 h_814 h_72 h_813; omega) | omega) (by first | (clear ha2 hq0 hq1 hq2 hq3 hq4 h_1 h_2 h_3 h_4 h_5 h_6 h_7 h_8 h_9 h_10 h_11 h_12 h_13 h_14 h_15 h_16 h_69 h_70 h_71 h_81 h_478 h_717 h_796 h_800 h_801 h_802 h_803 h_804 h_805 h_806 h_807 h_808 h_809 h_811 h_812 h_814 h_72 h_813; omega) | omega)).trans ((nx_z (by omega)))) rfl (fun c_820 hI_821 hF_822 h_823 => ?_))
                refine bk_inl ?_
                refine v_bip rfl (by decide) ?_
                refine v_ic_eq_t (t := 38) rfl (by decide) (by first | (clear ha2 hq0 hq1 hq2 hq3 h_3 h_4 h_5 h_6 h_7 h_8 h_9 h_10 h_11 h_12 h_13 h_14 h_15 h_69 h_71 h_478 h_717 h_796 h_800 h_801 h_802 h_803 h_804 h_805 h_806 h_807 h_808 h_809; omega) | omega) ?_
                refine q_aload_n rfl rfl ?_
                have kn_824 : Hid (c_820 41 3 = e1) := (hF_822 41 3 (fun h => absurd h.2 (ni rfl))).trans (hid kn_819)
                refine v_cv rfl rfl rfl rfl (by decide) ⟨⟨rfl, rfl⟩, by decide, rfl⟩ (Nat.le_of_ble_eq_true rfl) (Nat.le_of_ble_eq_true rfl) (f_154 (e1 := e1) (a9 := (nx F e1 a)) (B := H) (r8 := (nx F e1 a)) (r := (hb H e1 (nx F e1 a))) hI_821 ((hid kn_824)) ((h_823)) (fun j => ((hF_822 43 j (fun h => absurd h.1 (nn rfl))).trans ((hF_817 43 j (fun h => absurd h.1 (nn rfl))).trans (hFc 43 j (fun q => q.elim (fun h => absurd h.1 (nn rfl)) (fun q => q.elim (fun h => absurd h.1 (nn rfl)) (fun q => q.elim (fun h => absurd h.1 (nn rfl)) (fun q => q.elim (fun h => absurd h.1 (nn rfl)) (fun q => q.elim (fun h => absurd h.1 (nn rfl)) (fun q => q.elim (fun h => absurd h (nn rfl)) (fun h => absurd h (nn rfl))))))))))).trans (hH j)) ((nx_tr hU (by first | (clear ha2 hq0 hq1 hq2 hq3 hq4 hq5 h_1 h_2 h_3 h_4 h_5 h_6 h_7 h_8 h_9 h_10 h_11 h_12 h_13 h_14 h_15 h_69 h_71 h_81 h_478 h_717 h_800 h_801 h_802 h_803 h_804 h_805 h_806 h_807 h_808 h_809 h_811 h_812 h_814 h_72 h_813; omega) | omega) (by first | (clear ha2 hq0 hq1 hq2 hq3 hq4 h_1 h_2 h_3 h_4 h_5 h_6 h_7 h_8 h_9 h_10 h_11 h_12 h_13 h_14 h_15 h_16 h_69 h_70 h_71 h_81 h_478 h_717 h_796 h_800 h_801 h_802 h_803 h_804 h_805 h_806 h_807 h_808 h_809 h_811 h_812 h_814 h_72 h_813; omega) | omega)).trans ((nx_z (by omega)))) rfl (fun c_825 hI_826 hF_827 h_828 => ?_))
                refine bk_inl ?_
                refine v_bip rfl (by decide) ?_
                refine v_ic_ne_t (t := 51) rfl (by decide) ⟨by first | (clear ha2 hq0 hq1 hq2 hq3 h_3 h_4 h_5 h_6 h_7 h_8 h_9 h_10 h_11 h_12 h_13 h_14 h_15 h_69 h_71 h_478 h_717 h_796 h_800 h_801 h_802 h_803 h_804 h_805 h_806 h_807 h_808 h_809; omega) | omega, ⟨h_814.1, h_814.2⟩, by decide, by decide⟩ ?_
                refine q_aload_n rfl rfl ?_
                have kn_829 : Hid (c_825 41 3 = e1) := (hF_827 41 3 (fun h => absurd h.2 (ni rfl))).trans (hid kn_824)
                refine v_cv rfl rfl rfl rfl (by decide) ⟨⟨rfl, rfl⟩, by decide, rfl⟩ (Nat.le_of_ble_eq_true rfl) (Nat.le_of_ble_eq_true rfl) (f_154 (e1 := e1) (a9 := (nx F e1 a)) (B := H) (r8 := (nx F e1 a)) (r := (hb H e1 (nx F e1 a))) hI_826 ((hid kn_829)) ((h_828)) (fun j => ((hF_827 43 j (fun h => absurd h.1 (nn rfl))).trans ((hF_822 43 j (fun h => absurd h.1 (nn rfl))).trans ((hF_817 43 j (fun h => absurd h.1 (nn rfl))).trans (hFc 43 j (fun q => q.elim (fun h => absurd h.1 (nn rfl)) (fun q => q.elim (fun h => absurd h.1 (nn rfl)) (fun q => q.elim (fun h => absurd h.1 (nn rfl)) (fun q => q.elim (fun h => absurd h.1 (nn rfl)) (fun q => q.elim (fun h => absurd h.1 (nn rfl)) (fun q => q.elim (fun h => absurd h (nn rfl)) (fun h => absurd h (nn rfl)))))))))))).trans (hH j)) ((nx_tr hU (by first | (clear ha2 hq0 hq1 hq2 hq3 hq4 hq5 h_1 h_2 h_3 h_4 h_5 h_6 h_7 h_8 h_9 h_10 h_11 h_12 h_13 h_14 h_15 h_69 h_71 h_81 h_478 h_717 h_800 h_801 h_802 h_803 h_804 h_805 h_806 h_807 h_808 h_809 h_811 h_812 h_814 h_72 h_813; omega) | omega) (by first | (clear ha2 hq0 hq1 hq2 hq3 hq4 h_1 h_2 h_3 h_4 h_5 h_6 h_7 h_8 h_9 h_10 h_11 h_12 h_13 h_14 h_15 h_16 h_69 h_70 h_71 h_81 h_478 h_717 h_796 h_800 h_801 h_802 h_803 h_804 h_805 h_806 h_807 h_808 h_809 h_811 h_812 h_814 h_72 h_813; omega) | omega)).trans ((nx_z (by omega)))) rfl (fun c_830 hI_831 hF_832 h_833 => ?_))
                refine bk_inl ?_
                refine v_bip rfl (by decide) ?_
                refine v_ic_ne_f (t := 64) rfl (by decide) (by first | (clear ha2 hq0 hq1 hq2 hq3 h_3 h_4 h_5 h_6 h_7 h_8 h_9 h_10 h_11 h_12 h_13 h_14 h_15 h_69 h_71 h_478 h_717 h_796 h_800 h_801 h_802 h_803 h_804 h_805 h_806 h_807 h_808 h_809; omega) | omega) ?_
                refine q_iconst rfl ?_
                refine q_goto (t := 66) rfl (by decide) ?_
                refine q_istore_n rfl (by decide) ?_
                refine q_aload_n rfl rfl ?_
                refine q_dup rfl rfl ?_
                refine v_gi (z := 4) (v := (nx F e1 a)) rfl rfl rfl (by decide) rfl rfl (h_833) ?_
                refine q_iconst rfl ?_
                refine v_iadd (v := (nx F e1 a) + 1) rfl rfl ?_
                refine v_pi (z := 4) rfl rfl rfl (by decide) rfl rfl rfl (by decide) ?_
                refine q_aload_n rfl rfl ?_
                have kn_834 : Hid (c_815 41 5 = (-1)) := (hF_817 41 5 (fun h => absurd h.2 (ni rfl))).trans (hc_1)
                have kn_835 : Hid (c_820 41 5 = (-1)) := (hF_822 41 5 (fun h => absurd h.2 (ni rfl))).trans (hid kn_834)
                have kn_836 : Hid (c_825 41 5 = (-1)) := (hF_827 41 5 (fun h => absurd h.2 (ni rfl))).trans (hid kn_835)
                have kn_837 : Hid (c_830 41 5 = (-1)) := (hF_832 41 5 (fun h => absurd h.2 (ni rfl))).trans (hid kn_836)
                have hI_838 := iw_41_4 (v := (nx F e1 a) + 1) hI_831 ⟨by first | exact rgp_l (rg_be h_70 (ha.1) ((rg_eq hg_e1 h_1).2)).1 (by decide) | omega, by first | exact rgp_h (rg_be h_70 (ha.1) ((rg_eq hg_e1 h_1).2)).2 (by decide) | omega⟩
                have kn_839 : Hid (c_78 1 1 = e1) := (hF_80 1 1 (fun h => absurd h.2 (ni rfl))).trans (hid kn_68)
                have kn_840 : Hid (c_830 41 3 = e1) := (hF_832 41 3 (fun h => absurd h.2 (ni rfl))).trans (hid kn_829)
                have kn_841 : Hid (c_78 1 5 = (-1)) := (hF_80 1 5 (fun h => absurd h.2 (ni rfl))).trans (hc_2)
                have kn_842 : Hid (c_78 (A + 7) 5 = nw) := (hF_80 (A + 7) 5 (fun h => absurd h.1 (np hA rfl rfl))).trans (hg_nw)
                have kn_843 : Hid (c_815 41 29 = nw) := (hF_817 41 29 (fun h => absurd h.2 (ni rfl))).trans (hr_nw)
                have kn_844 : Hid (c_820 41 29 = nw) := (hF_822 41 29 (fun h => absurd h.2 (ni rfl))).trans (hid kn_843)
                have kn_845 : Hid (c_825 41 29 = nw) := (hF_827 41 29 (fun h => absurd h.2 (ni rfl))).trans (hid kn_844)
                have kn_846 : Hid (c_830 41 29 = nw) := (hF_832 41 29 (fun h => absurd h.2 (ni rfl))).trans (hid kn_845)
                have kn_847 : Hid (c_815 41 7 = a2) := (hF_817 41 7 (fun h => absurd h.2 (ni rfl))).trans (hc_3)
                have kn_848 : Hid (c_820 41 7 = a2) := (hF_822 41 7 (fun h => absurd h.2 (ni rfl))).trans (hid kn_847)
                have kn_849 : Hid (c_825 41 7 = a2) := (hF_827 41 7 (fun h => absurd h.2 (ni rfl))).trans (hid kn_848)
                have kn_850 : Hid (c_830 41 7 = a2) := (hF_832 41 7 (fun h => absurd h.2 (ni rfl))).trans (hid kn_849)
                have h_851 : c_78 1 4 = 0 := (hid kn_473)
                have h_852 : c_78 1 2 = (nx F e1 a) + 1 := (hz_82)
                have h_853 : c_78 1 5 = (-1) := (hid kn_841)
                have h_854 : (up c_830 41 4 ((nx F e1 a) + 1)) 41 5 = (-1) := ((up_n (by decide)).trans (hid kn_837))
                have h_855 : (up c_830 41 4 ((nx F e1 a) + 1)) 41 4 = (nx F e1 a) + 1 := (up_e rfl)
                have h_856 := ir_41_6 hI2
                have kn_857 : Hid (c_815 41 6 = c2 41 6) := hF_817 41 6 (fun h => absurd h.2 (ni rfl))
                have kn_858 : Hid (c_820 41 6 = c2 41 6) := (hF_822 41 6 (fun h => absurd h.2 (ni rfl))).trans (hid kn_857)
                have kn_859 : Hid (c_825 41 6 = c2 41 6) := (hF_827 41 6 (fun h => absurd h.2 (ni rfl))).trans (hid kn_858)
                have kn_860 : Hid (c_830 41 6 = c2 41 6) := (hF_832 41 6 (fun h => absurd h.2 (ni rfl))).trans (hid kn_859)
                have h_861 : (up c_830 41 4 ((nx F e1 a) + 1)) 41 6 = c2 41 6 := ((up_n (by decide)).trans (hid kn_860))
                have hA_862 : Ce nw (c_78 (A + 9)) ((up c_830 41 4 ((nx F e1 a) + 1)) 50) ((up c_830 41 4 ((nx F e1 a) + 1)) 51) := ce_fr hrl0 (fun j => hF_80 (A + 9) j (fun h => absurd h.1 (np hA rfl rfl))) (fun j => (up_c (nn rfl)).trans ((hF_832 50 j (fun h => absurd h.1 (nn rfl))).trans ((hF_827 50 j (fun h => absurd h.1 (nn rfl))).trans ((hF_822 50 j (fun h => absurd h.1 (nn rfl))).trans (hF_817 50 j (fun h => absurd h.1 (nn rfl))))))) (fun j => (up_c (nn rfl)).trans ((hF_832 51 j (fun h => absurd h.1 (nn rfl))).trans ((hF_827 51 j (fun h => absurd h.1 (nn rfl))).trans ((hF_822 51 j (fun h => absurd h.1 (nn rfl))).trans (hF_817 51 j (fun h => absurd h.1 (nn rfl)))))))
                refine v_cv rfl rfl rfl rfl (by decide) ⟨⟨rfl, rfl⟩, by decide, rfl⟩ (Nat.le_of_ble_eq_true rfl) (Nat.le_of_ble_eq_true rfl) (L_14 (m := c_78) (a2 := a2) (e1 := e1) (f0 := 0) (g0 := (-1)) (p0 := (nx F e1 a) + 1) (n0 := nw) (o0 := a2) (F := F) (H := H) hI_838 hI_79 hI_475 hA (show 0 ≤ a2 ∧ a2 ≤ 6 from ha2) (by first | (clear ha2 hq0 hq1 hq2 hq3 hq4 hq5 h_1 h_2 h_3 h_4 h_5 h_6 h_7 h_8 h_9 h_10 h_11 h_12 h_13 h_14 h_15 h_16 h_69 h_70 h_71 h_81 h_478 h_717 h_796 h_800 h_801 h_802 h_803 h_804 h_805 h_806 h_807 h_808 h_809 h_811 h_812 h_814 h_72 h_813; omega) | omega) (by first | (clear ha2 hq0 hq1 hq2 hq3 hq4 hq5 h_1 h_2 h_3 h_4 h_5 h_6 h_7 h_8 h_9 h_10 h_11 h_12 h_13 h_14 h_15 h_16 h_69 h_70 h_71 h_81 h_478 h_717 h_796 h_800 h_801 h_802 h_803 h_804 h_805 h_806 h_807 h_808 h_809 h_811 h_812 h_814 h_72 h_813; omega) | omega) (by first | (clear ha2 hq0 hq1 hq2 hq3 hq4 hq5 h_1 h_2 h_3 h_4 h_5 h_6 h_7 h_8 h_9 h_10 h_11 h_12 h_13 h_14 h_15 h_16 h_69 h_70 h_71 h_81 h_478 h_717 h_796 h_800 h_801 h_802 h_803 h_804 h_805 h_806 h_807 h_808 h_809 h_811 h_812 h_814 h_72 h_813; omega) | omega) (by first | (clear ha2 hq0 hq1 hq2 hq4 hq5 h_1 h_2 h_3 h_4 h_5 h_6 h_7 h_8 h_9 h_10 h_11 h_12 h_13 h_14 h_15 h_69 h_71 h_81 h_478 h_717 h_796 h_800 h_801 h_802 h_803 h_804 h_805 h_806 h_807 h_808 h_809 h_811 h_812 h_814 h_72 h_813; omega) | omega) (by first | (clear ha2 hq0 hq1 hq2 hq3 hq4 hq5 h_1 h_2 h_3 h_4 h_5 h_6 h_7 h_8 h_9 h_10 h_11 h_12 h_13 h_14 h_15 h_16 h_69 h_70 h_71 h_478 h_717 h_796 h_800 h_801 h_802 h_803 h_804 h_805 h_806 h_807 h_808 h_809 h_811 h_812 h_814 h_72 h_813; omega) | omega) (by first | (clear ha2 hq0 hq1 hq2 hq3 hq4 h_1 h_2 h_3 h_4 h_5 h_6 h_7 h_8 h_9 h_10 h_11 h_12 h_13 h_14 h_15 h_16 h_69 h_70 h_71 h_81 h_478 h_717 h_796 h_800 h_801 h_802 h_803 h_804 h_805 h_806 h_807 h_808 h_809 h_811 h_812 h_814 h_72 h_813; omega) | omega) ((hid kn_839)) (((up_n (by decide)).trans (hid kn_840))) ((hid kn_473)) ((hid kn_841)) ((hz_82)) ((hid kn_842)) (((up_n (by decide)).trans (hid kn_846))) (((up_n (by decide)).trans (hid kn_850))) (fun j => ((hF_80 2 j (fun h => absurd h.1 (nn rfl))).trans (hFm 2 j (fun q => q.elim (fun h => absurd h.1 (nn rfl)) (fun q => q.elim (fun h => absurd h.1 (nn rfl)) (fun q => q.elim (fun h => absurd h.1 (nn rfl)) (fun q => q.elim (fun h => absurd h.1 (pn hA rfl rfl)) (fun h => absurd h (pn hA rfl rfl)))))))).trans (hF j)) (fun j => ((up_c (nn rfl)).trans ((hF_832 43 j (fun h => absurd h.1 (nn rfl))).trans ((hF_827 43 j (fun h => absurd h.1 (nn rfl))).trans ((hF_822 43 j (fun h => absurd h.1 (nn rfl))).trans ((hF_817 43 j (fun h => absurd h.1 (nn rfl))).trans (hFc 43 j (fun q => q.elim (fun h => absurd h.1 (nn rfl)) (fun q => q.elim (fun h => absurd h.1 (nn rfl)) (fun q => q.elim (fun h => absurd h.1 (nn rfl)) (fun q => q.elim (fun h => absurd h.1 (nn rfl)) (fun q => q.elim (fun h => absurd h.1 (nn rfl)) (fun q => q.elim (fun h => absurd h (nn rfl)) (fun h => absurd h (nn rfl)))))))))))))).trans (hH j)) hU (rt_i1 ⟨by first | (clear ha2 hq0 hq1 hq2 hq3 hq4 hq5 h_1 h_2 h_3 h_4 h_5 h_6 h_7 h_8 h_9 h_10 h_11 h_12 h_13 h_14 h_15 h_16 h_69 h_70 h_71 h_81 h_478 h_717 h_796 h_800 h_801 h_802 h_803 h_804 h_805 h_806 h_807 h_808 h_809 h_811 h_812 h_814 h_856 h_72 h_813; omega) | omega, by first | (clear ha2 hq0 hq1 hq2 hq3 hq4 hq5 h_1 h_2 h_3 h_4 h_5 h_6 h_7 h_8 h_9 h_10 h_11 h_12 h_13 h_14 h_15 h_16 h_69 h_70 h_71 h_81 h_478 h_717 h_796 h_800 h_801 h_802 h_803 h_804 h_805 h_806 h_807 h_808 h_809 h_811 h_812 h_814 h_856 h_72 h_813; omega) | omega, by first | (clear ha2 hq0 hq1 hq2 hq3 hq4 hq5 h_1 h_2 h_3 h_4 h_5 h_6 h_7 h_8 h_9 h_10 h_11 h_12 h_13 h_14 h_15 h_16 h_69 h_70 h_71 h_81 h_478 h_717 h_796 h_800 h_801 h_802 h_803 h_804 h_805 h_806 h_807 h_808 h_809 h_811 h_812 h_814 h_856 h_72 h_813; omega) | omega, by first | (clear ha2 hq0 hq1 hq2 hq3 hq4 hq5 h_1 h_2 h_3 h_4 h_5 h_6 h_7 h_8 h_9 h_10 h_11 h_12 h_13 h_14 h_15 h_16 h_69 h_70 h_71 h_81 h_478 h_717 h_796 h_800 h_801 h_802 h_803 h_804 h_805 h_806 h_807 h_808 h_809 h_811 h_812 h_814 h_856 h_72 h_813; omega) | omega⟩) (ce_le hA_862 (by omega)) H13 hG_477 (fun c_863 hI_864 hF_865 hR_867 h_868 h_869 hA_870 => ?_))
                refine bk_inl ?_
                have h_871 := ir_41_29 hI_864
                have h_872 := ir_41_7 hI_864
                refine q_aload_n rfl rfl ?_
                refine q_iload_n rfl rfl ?_
                refine q_iconst rfl ?_
                refine v_cv rfl rfl rfl rfl (by decide) ⟨⟨rfl, rfl⟩, by decide, rfl⟩ (Nat.le_of_ble_eq_true rfl) (Nat.le_of_ble_eq_true rfl) ?_
                refine q_aload_n rfl rfl ?_
                refine v_cv rfl rfl rfl rfl (by decide) ⟨⟨rfl, rfl⟩, by decide, rfl⟩ (Nat.le_of_ble_eq_true rfl) (Nat.le_of_ble_eq_true rfl) ?_
                refine q_aload_n rfl rfl ?_
                have h_873 := ir_41_5 hI_864
                have h_874 := ir_41_4 hI_864
                have h_875 := ir_41_6 hI_864
                have h_876 := rt_bad hR_867 (by omega)
                have hrb_hR_867 := rt_bad hR_867 (by omega)
                refine v_gi (z := 5) (v := c_474 1 5) rfl rfl rfl (by decide) rfl rfl hrb_hR_867.2.1 ?_
                refine q_iconst rfl ?_
                refine v_ic_ne_t (t := 12) rfl (by decide) ⟨by first | (clear ha2 hq0 hq1 hq2 hq3 hq4 hq5 h_1 h_2 h_3 h_4 h_5 h_6 h_7 h_8 h_9 h_10 h_11 h_12 h_13 h_14 h_15 h_16 h_69 h_70 h_71 h_81 h_478 h_717 h_796 h_800 h_801 h_802 h_803 h_804 h_805 h_806 h_807 h_808 h_809 h_811 h_812 h_814 h_856 h_871 h_872 h_869 h_873 h_874 h_875 h_72 h_813 h_868; omega) | omega, ⟨(Int.le_trans (by decide) h_805.1), (Int.le_trans h_805.2 (by decide))⟩, by decide, by decide⟩ ?_
                refine q_iconst rfl ?_
                refine v_zret rfl rfl (by decide) ?_
                refine bk_inl ?_
                refine v_if_ne_f (t := 8) rfl (by decide) (by decide) ?_
                refine q_vret rfl rfl ?_
                refine bk_inl ?_
                refine q_goto (t := 4) rfl (by decide) ?_
                refine q_aload_n rfl rfl ?_
                refine v_cv rfl rfl rfl rfl (by decide) ⟨⟨rfl, rfl⟩, by decide, rfl⟩ (Nat.le_of_ble_eq_true rfl) (Nat.le_of_ble_eq_true rfl) ?_
                refine q_aload_n rfl rfl ?_
                refine v_gi (z := 5) (v := c_474 1 5) rfl rfl rfl (by decide) rfl rfl hrb_hR_867.2.1 ?_
                refine q_iconst rfl ?_
                refine v_ic_ne_t (t := 12) rfl (by decide) ⟨by first | (clear ha2 hq0 hq1 hq2 hq3 hq4 hq5 h_1 h_2 h_3 h_4 h_5 h_6 h_7 h_8 h_9 h_10 h_11 h_12 h_13 h_14 h_15 h_16 h_69 h_70 h_71 h_81 h_478 h_717 h_796 h_800 h_801 h_802 h_803 h_804 h_805 h_806 h_807 h_808 h_809 h_811 h_812 h_814 h_856 h_871 h_872 h_869 h_873 h_874 h_875 h_72 h_813 h_868; omega) | omega, ⟨(Int.le_trans (by decide) h_805.1), (Int.le_trans h_805.2 (by decide))⟩, by decide, by decide⟩ ?_
                refine q_iconst rfl ?_
                refine v_zret rfl rfl (by decide) ?_
                refine bk_inl ?_
                refine v_if_eq_t (t := 90) rfl (by decide) (by decide) ?_
                refine q_vret rfl rfl ?_
                have h_877 : c_863 41 5 = c_474 1 5 := hrb_hR_867.2.1
                have h_878 : c_863 41 6 = c_474 1 4 := hrb_hR_867.2.2.2
                exact K c_863  hI_864 (fun a j hm => (hF_865 a j (fun q => q.elim (fun h => hm (Or.inl h)) (fun q => q.elim (fun h => hm (Or.inr (Or.inl h))) (fun q => q.elim (fun h => hm (Or.inr (Or.inr (Or.inl h)))) (fun q => q.elim (fun h => hm (Or.inr (Or.inr (Or.inr (Or.inl h))))) (fun q => q.elim (fun h => hm (Or.inr (Or.inr (Or.inr (Or.inr (Or.inl h)))))) (fun q => q.elim (fun h => hm (Or.inr (Or.inr (Or.inr (Or.inr (Or.inr (Or.inl h))))))) (fun h => hm (Or.inr (Or.inr (Or.inr (Or.inr (Or.inr (Or.inr h)))))))))))))).trans ((up_b (Decidable.or_iff_not_imp_left.mpr (fun h1 h2 => hm (Or.inl ⟨Decidable.not_not.mp h1, h2⟩)))).trans ((hF_832 a j (fun h => hm (Or.inl h))).trans ((hF_827 a j (fun h => hm (Or.inl h))).trans ((hF_822 a j (fun h => hm (Or.inl h))).trans ((hF_817 a j (fun h => hm (Or.inl h))).trans (hFc a j (fun q => q.elim (fun h => hm (Or.inl h)) (fun q => q.elim (fun h => hm (Or.inr (Or.inl h))) (fun q => q.elim (fun h => hm (Or.inr (Or.inr (Or.inl h)))) (fun q => q.elim (fun h => hm (Or.inr (Or.inr (Or.inr (Or.inl h))))) (fun q => q.elim (fun h => hm (Or.inr (Or.inr (Or.inr (Or.inr (Or.inl h)))))) (fun q => q.elim (fun h => hm (Or.inr (Or.inr (Or.inr (Or.inr (Or.inr (Or.inl h))))))) (fun h => hm (Or.inr (Or.inr (Or.inr (Or.inr (Or.inr (Or.inr h)))))))))))))))))))) (rt_i2 ⟨⟨by first | (clear ha2 hq0 hq1 hq2 hq3 hq4 hq5 h_1 h_2 h_3 h_4 h_5 h_6 h_7 h_8 h_9 h_10 h_11 h_12 h_13 h_14 h_15 h_16 h_69 h_70 h_71 h_81 h_478 h_717 h_796 h_800 h_802 h_803 h_804 h_805 h_806 h_807 h_808 h_809 h_811 h_812 h_814 h_856 h_871 h_872 h_869 h_873 h_874 h_875 h_72 h_813 h_868; omega) | omega, by first | (clear ha2 hq0 hq1 hq2 hq3 hq4 hq5 h_1 h_2 h_3 h_4 h_5 h_6 h_7 h_8 h_9 h_10 h_11 h_12 h_13 h_14 h_15 h_16 h_69 h_70 h_71 h_81 h_478 h_717 h_796 h_801 h_802 h_803 h_804 h_805 h_806 h_807 h_808 h_809 h_811 h_812 h_814 h_856 h_871 h_872 h_869 h_873 h_874 h_875 h_876 h_72 h_813 h_868; omega) | omega⟩, by first | (clear ha2 hq0 hq1 hq2 hq3 hq4 hq5 h_1 h_2 h_3 h_4 h_5 h_6 h_7 h_8 h_9 h_10 h_11 h_12 h_13 h_14 h_15 h_16 h_69 h_70 h_71 h_81 h_478 h_717 h_796 h_800 h_801 h_802 h_803 h_804 h_805 h_806 h_808 h_809 h_811 h_812 h_814 h_856 h_871 h_872 h_869 h_873 h_874 h_875 h_876 h_72 h_813 h_868; omega) | omega, by first | (clear ha2 hq0 hq1 hq2 hq3 hq4 hq5 h_1 h_2 h_3 h_4 h_5 h_6 h_7 h_8 h_9 h_10 h_11 h_12 h_13 h_14 h_15 h_16 h_69 h_70 h_71 h_81 h_478 h_717 h_796 h_800 h_801 h_802 h_803 h_804 h_805 h_806 h_808 h_809 h_811 h_812 h_814 h_856 h_871 h_872 h_869 h_873 h_874 h_875 h_72 h_813 h_868; omega) | omega, by first | (clear ha2 hq0 hq1 hq2 hq3 hq4 hq5 h_1 h_2 h_3 h_4 h_5 h_6 h_7 h_8 h_9 h_10 h_11 h_12 h_13 h_14 h_15 h_16 h_69 h_70 h_71 h_81 h_478 h_717 h_796 h_800 h_802 h_803 h_804 h_805 h_806 h_807 h_808 h_809 h_811 h_812 h_814 h_856 h_871 h_872 h_869 h_873 h_874 h_875 h_876 h_72 h_813 h_868; omega) | omega⟩) (Or.inr (Or.inl (by first | (clear ha2 hq0 hq1 hq2 hq3 hq4 hq5 h_1 h_2 h_3 h_4 h_5 h_6 h_7 h_8 h_9 h_10 h_11 h_12 h_13 h_14 h_15 h_16 h_69 h_70 h_71 h_81 h_478 h_717 h_796 h_800 h_802 h_803 h_804 h_805 h_806 h_807 h_808 h_809 h_811 h_812 h_814 h_856 h_871 h_872 h_869 h_873 h_874 h_875 h_72 h_813 h_868; omega) | omega))) (by first | (clear ha2 hq0 hq1 hq2 hq3 hq4 hq5 h_1 h_2 h_3 h_4 h_5 h_6 h_7 h_8 h_9 h_10 h_11 h_12 h_13 h_14 h_15 h_16 h_69 h_70 h_71 h_81 h_478 h_717 h_796 h_800 h_801 h_802 h_803 h_804 h_805 h_806 h_807 h_808 h_809 h_811 h_812 h_814 h_856 h_871 h_872 h_873 h_874 h_875 h_876 h_72 h_813 h_868; omega) | omega) (fun hz => absurd hz (by omega))
              · refine v_ic_ge_f (t := 59) rfl (by decide) ⟨by first | exact rgp_l hv.1 (by decide) | omega, (Int.not_le.mp h_796), by decide⟩ ?_
                refine q_aload_n rfl rfl ?_
                refine v_cv rfl rfl rfl rfl (by decide) ⟨⟨rfl, rfl⟩, by decide, rfl⟩ (Nat.le_of_ble_eq_true rfl) (Nat.le_of_ble_eq_true rfl) ?_
                refine q_aload_n rfl rfl ?_
                refine v_gi (z := 4) (v := c_474 1 4) rfl rfl rfl (by decide) rfl rfl ((up_c (pn hA rfl rfl)).trans (up_c (pn hA rfl rfl))) ?_
                refine v_if_ne_t (t := 11) rfl (by decide) ⟨by first | (clear ha2 hq0 hq1 hq2 hq3 hq4 hq5 h_1 h_2 h_3 h_4 h_5 h_6 h_7 h_8 h_9 h_10 h_11 h_12 h_13 h_14 h_15 h_16 h_69 h_70 h_71 h_81 h_478 h_717 h_72; omega) | omega, ⟨(Int.le_trans (by decide) h_717.1), (Int.le_trans h_717.2 (by decide))⟩, by decide, by decide⟩ ?_
                refine q_iconst rfl ?_
                refine v_zret rfl rfl (by decide) ?_
                refine bk_inl ?_
                refine v_if_eq_t (t := 59) rfl (by decide) (by decide) ?_
                refine q_vret rfl rfl ?_
                have hI_879 := iw_lg (j := c_474 (A + 7) 5) (v := 2003) hI_475 (lgp (k := 9) hA (by decide)) ⟨by decide, by decide⟩ (by omega)
                have hI_880 := iw_p7_5 (v := c_474 (A + 7) 5 + 1) hI_879 hA ⟨by first | exact rgp_l h_478.1 (by decide) | omega, by first | (clear ha2 hq0 hq1 hq2 hq3 hq4 hq5 h_1 h_2 h_3 h_4 h_5 h_6 h_7 h_8 h_9 h_10 h_11 h_12 h_13 h_14 h_15 h_16 h_69 h_70 h_71 h_81 h_478 h_717 h_72; omega) | omega⟩
                intro hE_881
                have hW : Wd P Q P P (up (up c_474 (A + 9) (c_474 (A + 7) 5) 2003) (A + 7) 5 (c_474 (A + 7) 5 + 1)) = Wd P Q P P m9 := (Prod.mk.inj (Prod.mk.inj hE_881).2).1
                have h_882 := ir_1_4 hJ9
                have h_883 : m9 1 4 = c_474 1 4 := wd_fv (z := 4) 4 rfl hW rfl rfl rfl rfl (by decide) ((up_c (pn hA rfl rfl)).trans (up_c (pn hA rfl rfl))) ⟨(Int.le_trans (by decide) h_717.1), (Int.le_trans h_717.2 (by decide))⟩ ⟨(Int.le_trans (by decide) h_882.1), (Int.le_trans h_882.2 (by decide))⟩
                have h_884 := ir_1_2 hI_475
                have h_885 := ir_1_2 hJ9
                have h_886 : m9 1 2 = c_474 1 2 := wd_fv (z := 2) 2 rfl hW rfl rfl rfl rfl (by decide) ((up_c (pn hA rfl rfl)).trans (up_c (pn hA rfl rfl))) ⟨(Int.le_trans (by decide) h_884.1), (Int.le_trans h_884.2 (by decide))⟩ ⟨(Int.le_trans (by decide) h_885.1), (Int.le_trans h_885.2 (by decide))⟩
                have h_887 := ir_1_5 hI_475
                have h_888 := ir_1_5 hJ9
                have h_889 : m9 1 5 = c_474 1 5 := wd_fv (z := 5) 5 rfl hW rfl rfl rfl rfl (by decide) ((up_c (pn hA rfl rfl)).trans (up_c (pn hA rfl rfl))) ⟨(Int.le_trans (by decide) h_887.1), (Int.le_trans h_887.2 (by decide))⟩ ⟨(Int.le_trans (by decide) h_888.1), (Int.le_trans h_888.2 (by decide))⟩
                have h_890 := ir_p7_5 hJ9 hA
                have h_891 : m9 (A + 7) 5 = c_474 (A + 7) 5 + 1 := wd_fv (z := 5) 5 rfl hW (ck_p7 hA) (ck_p7 hA) rfl rfl (by omega) (up_e rfl) ⟨by first | exact rgp_l h_478.1 (by decide) | omega, by first | exact rgp_h h_478.2 (by decide) | omega⟩ ⟨(Int.le_trans (by decide) h_890.1), (Int.le_trans h_890.2 (by decide))⟩
                refine q_aload_n rfl rfl ?_
                refine v_cv rfl rfl rfl rfl (by decide) ⟨⟨rfl, rfl⟩, by decide, rfl⟩ (Nat.le_of_ble_eq_true rfl) (Nat.le_of_ble_eq_true rfl) ?_
                refine q_aload_n rfl rfl ?_
                refine v_gi (z := 5) (v := (-1)) rfl rfl rfl (by decide) rfl rfl (hc_1) ?_
                refine q_iconst rfl ?_
                refine v_ic_ne_f (t := 12) rfl (by decide) (by decide) ?_
                refine q_iconst rfl ?_
                refine q_goto (t := 13) rfl (by decide) ?_
                refine v_zret rfl rfl (by decide) ?_
                refine bk_inl ?_
                refine v_if_eq_f (t := 90) rfl (by decide) (by decide) ?_
                refine q_aload_n rfl rfl ?_
                have kn_892 : Hid (c2 41 3 = e1) := (hFc 41 3 (fun q => q.elim (fun h => absurd h.2 (ni rfl)) (fun q => q.elim (fun h => absurd h.2 (ni rfl)) (fun q => q.elim (fun h => absurd h.2 (ni rfl)) (fun q => q.elim (fun h => absurd h.2 (ni rfl)) (fun q => q.elim (fun h => absurd h.2 (ni rfl)) (fun q => q.elim (fun h => absurd h (nn rfl)) (fun h => absurd h (nn rfl))))))))).trans (hr_e1)
                have h_893 : -2147483648 ≤ (H (nx F e1 a)) ∧ (H (nx F e1 a)) ≤ 2147483647 := by rw [← hH (nx F e1 a)]; exact ir_43 hI (nx F e1 a)
                have h_894 := hU (nx F e1 a) (by omega) (by omega)
                have h_895 := hb_or (b := H) (e := e1) (r := (nx F e1 a))
                have h_896 := hb_bd (b := H) (e := e1) (r := (nx F e1 a)) (lo := -2147483648) (hi := 2147483647) h_893 (by decide)
                refine v_cv rfl rfl rfl rfl (by decide) ⟨⟨rfl, rfl⟩, by decide, rfl⟩ (Nat.le_of_ble_eq_true rfl) (Nat.le_of_ble_eq_true rfl) (f_154 (e1 := e1) (a9 := a) (B := H) (r8 := (nx F e1 a)) (r := (hb H e1 (nx F e1 a))) hI2 ((hid kn_892)) ((hr_a)) (fun j => (hFc 43 j (fun q => q.elim (fun h => absurd h.1 (nn rfl)) (fun q => q.elim (fun h => absurd h.1 (nn rfl)) (fun q => q.elim (fun h => absurd h.1 (nn rfl)) (fun q => q.elim (fun h => absurd h.1 (nn rfl)) (fun q => q.elim (fun h => absurd h.1 (nn rfl)) (fun q => q.elim (fun h => absurd h (nn rfl)) (fun h => absurd h (nn rfl))))))))).trans (hH j)) ((nx_tr hU (by first | (clear ha2 hq0 hq1 hq2 hq3 hq4 hq5 h_1 h_2 h_3 h_4 h_5 h_6 h_7 h_8 h_9 h_10 h_11 h_12 h_13 h_14 h_15 h_16 h_69 h_70 h_71 h_81 h_478 h_717 h_882 h_883 h_884 h_885 h_886 h_887 h_888 h_889 h_890 h_891 h_72; omega) | omega) (by first | (clear ha2 hq0 hq1 hq2 hq3 hq4 h_1 h_2 h_3 h_4 h_5 h_6 h_7 h_8 h_9 h_10 h_11 h_12 h_13 h_14 h_15 h_16 h_69 h_70 h_71 h_81 h_478 h_717 h_882 h_883 h_884 h_885 h_886 h_887 h_888 h_889 h_890 h_891 h_72; omega) | omega)).trans (rfl)) rfl (fun c_897 hI_898 hF_899 h_900 => ?_))
                refine bk_inl ?_
                refine v_bip rfl (by decide) ?_
                refine v_ic_eq_f (t := 38) rfl (by decide) ⟨by first | (clear ha2 hq0 hq1 hq2 hq3 h_3 h_4 h_5 h_6 h_7 h_8 h_9 h_10 h_11 h_12 h_13 h_14 h_15 h_69 h_71 h_478 h_717 h_882 h_883 h_884 h_885 h_886 h_887 h_888 h_889 h_890 h_891; omega) | omega, ⟨h_896.1, h_896.2⟩, by decide, by decide⟩ ?_
                refine q_aload_n rfl rfl ?_
                have kn_901 : Hid (c_897 41 3 = e1) := (hF_899 41 3 (fun h => absurd h.2 (ni rfl))).trans (hid kn_892)
                refine v_cv rfl rfl rfl rfl (by decide) ⟨⟨rfl, rfl⟩, by decide, rfl⟩ (Nat.le_of_ble_eq_true rfl) (Nat.le_of_ble_eq_true rfl) (f_154 (e1 := e1) (a9 := (nx F e1 a)) (B := H) (r8 := (nx F e1 a)) (r := (hb H e1 (nx F e1 a))) hI_898 ((hid kn_901)) ((h_900)) (fun j => ((hF_899 43 j (fun h => absurd h.1 (nn rfl))).trans (hFc 43 j (fun q => q.elim (fun h => absurd h.1 (nn rfl)) (fun q => q.elim (fun h => absurd h.1 (nn rfl)) (fun q => q.elim (fun h => absurd h.1 (nn rfl)) (fun q => q.elim (fun h => absurd h.1 (nn rfl)) (fun q => q.elim (fun h => absurd h.1 (nn rfl)) (fun q => q.elim (fun h => absurd h (nn rfl)) (fun h => absurd h (nn rfl)))))))))).trans (hH j)) ((nx_tr hU (by first | (clear ha2 hq0 hq1 hq2 hq3 hq4 hq5 h_1 h_2 h_3 h_4 h_5 h_6 h_7 h_8 h_9 h_10 h_11 h_12 h_13 h_14 h_15 h_16 h_69 h_71 h_81 h_478 h_717 h_882 h_883 h_884 h_885 h_886 h_887 h_888 h_889 h_890 h_891 h_893 h_894 h_896 h_72 h_895; omega) | omega) (by first | (clear ha2 hq0 hq1 hq2 hq3 hq4 h_1 h_2 h_3 h_4 h_5 h_6 h_7 h_8 h_9 h_10 h_11 h_12 h_13 h_14 h_15 h_16 h_69 h_70 h_71 h_81 h_478 h_717 h_882 h_883 h_884 h_885 h_886 h_887 h_888 h_889 h_890 h_891 h_893 h_894 h_896 h_72 h_895; omega) | omega)).trans ((nx_z (by omega)))) rfl (fun c_902 hI_903 hF_904 h_905 => ?_))
                refine bk_inl ?_
                refine v_bip rfl (by decide) ?_
                refine v_ic_eq_t (t := 38) rfl (by decide) (by first | (clear ha2 hq0 hq1 hq2 hq3 h_3 h_4 h_5 h_6 h_7 h_8 h_9 h_10 h_11 h_12 h_13 h_14 h_15 h_69 h_71 h_478 h_717 h_882 h_883 h_884 h_885 h_886 h_887 h_888 h_889 h_890 h_891; omega) | omega) ?_
                refine q_aload_n rfl rfl ?_
                have kn_906 : Hid (c_902 41 3 = e1) := (hF_904 41 3 (fun h => absurd h.2 (ni rfl))).trans (hid kn_901)
                refine v_cv rfl rfl rfl rfl (by decide) ⟨⟨rfl, rfl⟩, by decide, rfl⟩ (Nat.le_of_ble_eq_true rfl) (Nat.le_of_ble_eq_true rfl) (f_154 (e1 := e1) (a9 := (nx F e1 a)) (B := H) (r8 := (nx F e1 a)) (r := (hb H e1 (nx F e1 a))) hI_903 ((hid kn_906)) ((h_905)) (fun j => ((hF_904 43 j (fun h => absurd h.1 (nn rfl))).trans ((hF_899 43 j (fun h => absurd h.1 (nn rfl))).trans (hFc 43 j (fun q => q.elim (fun h => absurd h.1 (nn rfl)) (fun q => q.elim (fun h => absurd h.1 (nn rfl)) (fun q => q.elim (fun h => absurd h.1 (nn rfl)) (fun q => q.elim (fun h => absurd h.1 (nn rfl)) (fun q => q.elim (fun h => absurd h.1 (nn rfl)) (fun q => q.elim (fun h => absurd h (nn rfl)) (fun h => absurd h (nn rfl))))))))))).trans (hH j)) ((nx_tr hU (by first | (clear ha2 hq0 hq1 hq2 hq3 hq4 hq5 h_1 h_2 h_3 h_4 h_5 h_6 h_7 h_8 h_9 h_10 h_11 h_12 h_13 h_14 h_15 h_16 h_69 h_71 h_81 h_478 h_717 h_882 h_883 h_884 h_885 h_886 h_887 h_888 h_889 h_890 h_891 h_893 h_894 h_896 h_72 h_895; omega) | omega) (by first | (clear ha2 hq0 hq1 hq2 hq3 hq4 h_1 h_2 h_3 h_4 h_5 h_6 h_7 h_8 h_9 h_10 h_11 h_12 h_13 h_14 h_15 h_16 h_69 h_70 h_71 h_81 h_478 h_717 h_882 h_883 h_884 h_885 h_886 h_887 h_888 h_889 h_890 h_891 h_893 h_894 h_896 h_72 h_895; omega) | omega)).trans ((nx_z (by omega)))) rfl (fun c_907 hI_908 hF_909 h_910 => ?_))
                refine bk_inl ?_
                refine v_bip rfl (by decide) ?_
                refine v_ic_ne_t (t := 51) rfl (by decide) ⟨by first | (clear ha2 hq0 hq1 hq2 hq3 h_3 h_4 h_5 h_6 h_7 h_8 h_9 h_10 h_11 h_12 h_13 h_14 h_15 h_69 h_71 h_478 h_717 h_882 h_883 h_884 h_885 h_886 h_887 h_888 h_889 h_890 h_891; omega) | omega, ⟨h_896.1, h_896.2⟩, by decide, by decide⟩ ?_
                refine q_aload_n rfl rfl ?_
                have kn_911 : Hid (c_907 41 3 = e1) := (hF_909 41 3 (fun h => absurd h.2 (ni rfl))).trans (hid kn_906)
                refine v_cv rfl rfl rfl rfl (by decide) ⟨⟨rfl, rfl⟩, by decide, rfl⟩ (Nat.le_of_ble_eq_true rfl) (Nat.le_of_ble_eq_true rfl) (f_154 (e1 := e1) (a9 := (nx F e1 a)) (B := H) (r8 := (nx F e1 a)) (r := (hb H e1 (nx F e1 a))) hI_908 ((hid kn_911)) ((h_910)) (fun j => ((hF_909 43 j (fun h => absurd h.1 (nn rfl))).trans ((hF_904 43 j (fun h => absurd h.1 (nn rfl))).trans ((hF_899 43 j (fun h => absurd h.1 (nn rfl))).trans (hFc 43 j (fun q => q.elim (fun h => absurd h.1 (nn rfl)) (fun q => q.elim (fun h => absurd h.1 (nn rfl)) (fun q => q.elim (fun h => absurd h.1 (nn rfl)) (fun q => q.elim (fun h => absurd h.1 (nn rfl)) (fun q => q.elim (fun h => absurd h.1 (nn rfl)) (fun q => q.elim (fun h => absurd h (nn rfl)) (fun h => absurd h (nn rfl)))))))))))).trans (hH j)) ((nx_tr hU (by first | (clear ha2 hq0 hq1 hq2 hq3 hq4 hq5 h_1 h_2 h_3 h_4 h_5 h_6 h_7 h_8 h_9 h_10 h_11 h_12 h_13 h_14 h_15 h_16 h_69 h_71 h_81 h_478 h_717 h_882 h_883 h_884 h_885 h_886 h_887 h_888 h_889 h_890 h_891 h_893 h_894 h_896 h_72 h_895; omega) | omega) (by first | (clear ha2 hq0 hq1 hq2 hq3 hq4 h_1 h_2 h_3 h_4 h_5 h_6 h_7 h_8 h_9 h_10 h_11 h_12 h_13 h_14 h_15 h_16 h_69 h_70 h_71 h_81 h_478 h_717 h_882 h_883 h_884 h_885 h_886 h_887 h_888 h_889 h_890 h_891 h_893 h_894 h_896 h_72 h_895; omega) | omega)).trans ((nx_z (by omega)))) rfl (fun c_912 hI_913 hF_914 h_915 => ?_))
                refine bk_inl ?_
                refine v_bip rfl (by decide) ?_
                refine v_ic_ne_f (t := 64) rfl (by decide) (by first | (clear ha2 hq0 hq1 hq2 hq3 h_3 h_4 h_5 h_6 h_7 h_8 h_9 h_10 h_11 h_12 h_13 h_14 h_15 h_69 h_71 h_478 h_717 h_882 h_883 h_884 h_885 h_886 h_887 h_888 h_889 h_890 h_891; omega) | omega) ?_
                refine q_iconst rfl ?_
                refine q_goto (t := 66) rfl (by decide) ?_
                refine q_istore_n rfl (by decide) ?_
                refine q_aload_n rfl rfl ?_
                refine q_dup rfl rfl ?_
                refine v_gi (z := 4) (v := (nx F e1 a)) rfl rfl rfl (by decide) rfl rfl (h_915) ?_
                refine q_iconst rfl ?_
                refine v_iadd (v := (nx F e1 a) + 1) rfl rfl ?_
                refine v_pi (z := 4) rfl rfl rfl (by decide) rfl rfl rfl (by decide) ?_
                refine q_aload_n rfl rfl ?_
                have kn_916 : Hid (c_897 41 5 = (-1)) := (hF_899 41 5 (fun h => absurd h.2 (ni rfl))).trans (hc_1)
                have kn_917 : Hid (c_902 41 5 = (-1)) := (hF_904 41 5 (fun h => absurd h.2 (ni rfl))).trans (hid kn_916)
                have kn_918 : Hid (c_907 41 5 = (-1)) := (hF_909 41 5 (fun h => absurd h.2 (ni rfl))).trans (hid kn_917)
                have kn_919 : Hid (c_912 41 5 = (-1)) := (hF_914 41 5 (fun h => absurd h.2 (ni rfl))).trans (hid kn_918)
                have hI_920 := iw_41_4 (v := (nx F e1 a) + 1) hI_913 ⟨by first | exact rgp_l (rg_be h_70 (ha.1) ((rg_eq hg_e1 h_1).2)).1 (by decide) | omega, by first | exact rgp_h (rg_be h_70 (ha.1) ((rg_eq hg_e1 h_1).2)).2 (by decide) | omega⟩
                have kn_921 : Hid (c_78 1 1 = e1) := (hF_80 1 1 (fun h => absurd h.2 (ni rfl))).trans (hid kn_68)
                have kn_922 : Hid (c_912 41 3 = e1) := (hF_914 41 3 (fun h => absurd h.2 (ni rfl))).trans (hid kn_911)
                have kn_923 : Hid (c_78 1 5 = (-1)) := (hF_80 1 5 (fun h => absurd h.2 (ni rfl))).trans (hc_2)
                have kn_924 : Hid (c_78 (A + 7) 5 = nw) := (hF_80 (A + 7) 5 (fun h => absurd h.1 (np hA rfl rfl))).trans (hg_nw)
                have kn_925 : Hid (c_897 41 29 = nw) := (hF_899 41 29 (fun h => absurd h.2 (ni rfl))).trans (hr_nw)
                have kn_926 : Hid (c_902 41 29 = nw) := (hF_904 41 29 (fun h => absurd h.2 (ni rfl))).trans (hid kn_925)
                have kn_927 : Hid (c_907 41 29 = nw) := (hF_909 41 29 (fun h => absurd h.2 (ni rfl))).trans (hid kn_926)
                have kn_928 : Hid (c_912 41 29 = nw) := (hF_914 41 29 (fun h => absurd h.2 (ni rfl))).trans (hid kn_927)
                have kn_929 : Hid (c_897 41 7 = a2) := (hF_899 41 7 (fun h => absurd h.2 (ni rfl))).trans (hc_3)
                have kn_930 : Hid (c_902 41 7 = a2) := (hF_904 41 7 (fun h => absurd h.2 (ni rfl))).trans (hid kn_929)
                have kn_931 : Hid (c_907 41 7 = a2) := (hF_909 41 7 (fun h => absurd h.2 (ni rfl))).trans (hid kn_930)
                have kn_932 : Hid (c_912 41 7 = a2) := (hF_914 41 7 (fun h => absurd h.2 (ni rfl))).trans (hid kn_931)
                have h_933 : c_78 1 4 = 0 := (hid kn_473)
                have h_934 : c_78 1 2 = (nx F e1 a) + 1 := (hz_82)
                have h_935 : c_78 1 5 = (-1) := (hid kn_923)
                have h_936 : (up c_912 41 4 ((nx F e1 a) + 1)) 41 5 = (-1) := ((up_n (by decide)).trans (hid kn_919))
                have h_937 : (up c_912 41 4 ((nx F e1 a) + 1)) 41 4 = (nx F e1 a) + 1 := (up_e rfl)
                have h_938 := ir_41_6 hI2
                have kn_939 : Hid (c_897 41 6 = c2 41 6) := hF_899 41 6 (fun h => absurd h.2 (ni rfl))
                have kn_940 : Hid (c_902 41 6 = c2 41 6) := (hF_904 41 6 (fun h => absurd h.2 (ni rfl))).trans (hid kn_939)
                have kn_941 : Hid (c_907 41 6 = c2 41 6) := (hF_909 41 6 (fun h => absurd h.2 (ni rfl))).trans (hid kn_940)
                have kn_942 : Hid (c_912 41 6 = c2 41 6) := (hF_914 41 6 (fun h => absurd h.2 (ni rfl))).trans (hid kn_941)
                have h_943 : (up c_912 41 4 ((nx F e1 a) + 1)) 41 6 = c2 41 6 := ((up_n (by decide)).trans (hid kn_942))
                have hA_944 : Ce nw (c_78 (A + 9)) ((up c_912 41 4 ((nx F e1 a) + 1)) 50) ((up c_912 41 4 ((nx F e1 a) + 1)) 51) := ce_fr hrl0 (fun j => hF_80 (A + 9) j (fun h => absurd h.1 (np hA rfl rfl))) (fun j => (up_c (nn rfl)).trans ((hF_914 50 j (fun h => absurd h.1 (nn rfl))).trans ((hF_909 50 j (fun h => absurd h.1 (nn rfl))).trans ((hF_904 50 j (fun h => absurd h.1 (nn rfl))).trans (hF_899 50 j (fun h => absurd h.1 (nn rfl))))))) (fun j => (up_c (nn rfl)).trans ((hF_914 51 j (fun h => absurd h.1 (nn rfl))).trans ((hF_909 51 j (fun h => absurd h.1 (nn rfl))).trans ((hF_904 51 j (fun h => absurd h.1 (nn rfl))).trans (hF_899 51 j (fun h => absurd h.1 (nn rfl)))))))
                refine v_cv rfl rfl rfl rfl (by decide) ⟨⟨rfl, rfl⟩, by decide, rfl⟩ (Nat.le_of_ble_eq_true rfl) (Nat.le_of_ble_eq_true rfl) (L_14 (m := c_78) (a2 := a2) (e1 := e1) (f0 := 0) (g0 := (-1)) (p0 := (nx F e1 a) + 1) (n0 := nw) (o0 := a2) (F := F) (H := H) hI_920 hI_79 hI_475 hA (show 0 ≤ a2 ∧ a2 ≤ 6 from ha2) (by first | (clear ha2 hq0 hq1 hq2 hq3 hq4 hq5 h_1 h_2 h_3 h_4 h_5 h_6 h_7 h_8 h_9 h_10 h_11 h_12 h_13 h_14 h_15 h_16 h_69 h_70 h_71 h_81 h_478 h_717 h_882 h_883 h_884 h_885 h_886 h_887 h_888 h_889 h_890 h_891 h_893 h_894 h_896 h_72 h_895; omega) | omega) (by first | (clear ha2 hq0 hq1 hq2 hq3 hq4 hq5 h_1 h_2 h_3 h_4 h_5 h_6 h_7 h_8 h_9 h_10 h_11 h_12 h_13 h_14 h_15 h_16 h_69 h_70 h_71 h_81 h_478 h_717 h_882 h_883 h_884 h_885 h_886 h_887 h_888 h_889 h_890 h_891 h_893 h_894 h_896 h_72 h_895; omega) | omega) (by first | (clear ha2 hq0 hq1 hq2 hq3 hq4 hq5 h_1 h_2 h_3 h_4 h_5 h_6 h_7 h_8 h_9 h_10 h_11 h_12 h_13 h_14 h_15 h_16 h_69 h_70 h_71 h_81 h_478 h_717 h_882 h_883 h_884 h_885 h_886 h_887 h_888 h_889 h_890 h_891 h_893 h_894 h_896 h_72 h_895; omega) | omega) (by first | (clear ha2 hq0 hq1 hq2 hq4 hq5 h_1 h_2 h_3 h_4 h_5 h_6 h_7 h_8 h_9 h_10 h_11 h_12 h_13 h_14 h_15 h_69 h_71 h_81 h_478 h_717 h_882 h_883 h_884 h_885 h_886 h_887 h_888 h_889 h_890 h_891 h_893 h_894 h_896 h_72 h_895; omega) | omega) (by first | (clear ha2 hq0 hq1 hq2 hq3 hq4 hq5 h_1 h_2 h_3 h_4 h_5 h_6 h_7 h_8 h_9 h_10 h_11 h_12 h_13 h_14 h_15 h_16 h_69 h_70 h_71 h_478 h_717 h_882 h_883 h_884 h_885 h_886 h_887 h_888 h_889 h_890 h_891 h_893 h_894 h_896 h_72 h_895; omega) | omega) (by first | (clear ha2 hq0 hq1 hq2 hq3 hq4 h_1 h_2 h_3 h_4 h_5 h_6 h_7 h_8 h_9 h_10 h_11 h_12 h_13 h_14 h_15 h_16 h_69 h_70 h_71 h_81 h_478 h_717 h_882 h_883 h_884 h_885 h_886 h_887 h_888 h_889 h_890 h_891 h_893 h_894 h_896 h_72 h_895; omega) | omega) ((hid kn_921)) (((up_n (by decide)).trans (hid kn_922))) ((hid kn_473)) ((hid kn_923)) ((hz_82)) ((hid kn_924)) (((up_n (by decide)).trans (hid kn_928))) (((up_n (by decide)).trans (hid kn_932))) (fun j => ((hF_80 2 j (fun h => absurd h.1 (nn rfl))).trans (hFm 2 j (fun q => q.elim (fun h => absurd h.1 (nn rfl)) (fun q => q.elim (fun h => absurd h.1 (nn rfl)) (fun q => q.elim (fun h => absurd h.1 (nn rfl)) (fun q => q.elim (fun h => absurd h.1 (pn hA rfl rfl)) (fun h => absurd h (pn hA rfl rfl)))))))).trans (hF j)) (fun j => ((up_c (nn rfl)).trans ((hF_914 43 j (fun h => absurd h.1 (nn rfl))).trans ((hF_909 43 j (fun h => absurd h.1 (nn rfl))).trans ((hF_904 43 j (fun h => absurd h.1 (nn rfl))).trans ((hF_899 43 j (fun h => absurd h.1 (nn rfl))).trans (hFc 43 j (fun q => q.elim (fun h => absurd h.1 (nn rfl)) (fun q => q.elim (fun h => absurd h.1 (nn rfl)) (fun q => q.elim (fun h => absurd h.1 (nn rfl)) (fun q => q.elim (fun h => absurd h.1 (nn rfl)) (fun q => q.elim (fun h => absurd h.1 (nn rfl)) (fun q => q.elim (fun h => absurd h (nn rfl)) (fun h => absurd h (nn rfl)))))))))))))).trans (hH j)) hU (rt_i1 ⟨by first | (clear ha2 hq0 hq1 hq2 hq3 hq4 hq5 h_1 h_2 h_3 h_4 h_5 h_6 h_7 h_8 h_9 h_10 h_11 h_12 h_13 h_14 h_15 h_16 h_69 h_70 h_71 h_81 h_478 h_717 h_882 h_883 h_884 h_885 h_886 h_887 h_888 h_889 h_890 h_891 h_893 h_894 h_896 h_938 h_72 h_895; omega) | omega, by first | (clear ha2 hq0 hq1 hq2 hq3 hq4 hq5 h_1 h_2 h_3 h_4 h_5 h_6 h_7 h_8 h_9 h_10 h_11 h_12 h_13 h_14 h_15 h_16 h_69 h_70 h_71 h_81 h_478 h_717 h_882 h_883 h_884 h_885 h_886 h_887 h_888 h_889 h_890 h_891 h_893 h_894 h_896 h_938 h_72 h_895; omega) | omega, by first | (clear ha2 hq0 hq1 hq2 hq3 hq4 hq5 h_1 h_2 h_3 h_4 h_5 h_6 h_7 h_8 h_9 h_10 h_11 h_12 h_13 h_14 h_15 h_16 h_69 h_70 h_71 h_81 h_478 h_717 h_882 h_883 h_884 h_885 h_886 h_887 h_888 h_889 h_890 h_891 h_893 h_894 h_896 h_938 h_72 h_895; omega) | omega, by first | (clear ha2 hq0 hq1 hq2 hq3 hq4 hq5 h_1 h_2 h_3 h_4 h_5 h_6 h_7 h_8 h_9 h_10 h_11 h_12 h_13 h_14 h_15 h_16 h_69 h_70 h_71 h_81 h_478 h_717 h_882 h_883 h_884 h_885 h_886 h_887 h_888 h_889 h_890 h_891 h_893 h_894 h_896 h_938 h_72 h_895; omega) | omega⟩) (ce_le hA_944 (by omega)) H13 hG_477 (fun c_945 hI_946 hF_947 hR_949 h_950 h_951 hA_952 => ?_))
                refine bk_inl ?_
                have h_953 := ir_41_29 hI_946
                have h_954 := ir_41_7 hI_946
                refine q_aload_n rfl rfl ?_
                refine q_iload_n rfl rfl ?_
                refine q_iconst rfl ?_
                refine v_cv rfl rfl rfl rfl (by decide) ⟨⟨rfl, rfl⟩, by decide, rfl⟩ (Nat.le_of_ble_eq_true rfl) (Nat.le_of_ble_eq_true rfl) ?_
                refine q_aload_n rfl rfl ?_
                refine v_cv rfl rfl rfl rfl (by decide) ⟨⟨rfl, rfl⟩, by decide, rfl⟩ (Nat.le_of_ble_eq_true rfl) (Nat.le_of_ble_eq_true rfl) ?_
                refine q_aload_n rfl rfl ?_
                have h_955 := ir_41_5 hI_946
                have h_956 := ir_41_4 hI_946
                have h_957 := ir_41_6 hI_946
                have h_958 := rt_bad hR_949 (by omega)
                have hrb_hR_949 := rt_bad hR_949 (by omega)
                refine v_gi (z := 5) (v := c_474 1 5) rfl rfl rfl (by decide) rfl rfl hrb_hR_949.2.1 ?_
                refine q_iconst rfl ?_
                refine v_ic_ne_t (t := 12) rfl (by decide) ⟨by first | (clear ha2 hq0 hq1 hq2 hq3 hq4 hq5 h_1 h_2 h_3 h_4 h_5 h_6 h_7 h_8 h_9 h_10 h_11 h_12 h_13 h_14 h_15 h_16 h_69 h_70 h_71 h_81 h_478 h_717 h_882 h_883 h_884 h_885 h_886 h_887 h_888 h_889 h_890 h_891 h_893 h_894 h_896 h_938 h_953 h_954 h_951 h_955 h_956 h_957 h_72 h_895 h_950; omega) | omega, ⟨(Int.le_trans (by decide) h_887.1), (Int.le_trans h_887.2 (by decide))⟩, by decide, by decide⟩ ?_
                refine q_iconst rfl ?_
                refine v_zret rfl rfl (by decide) ?_
                refine bk_inl ?_
                refine v_if_ne_f (t := 8) rfl (by decide) (by decide) ?_
                refine q_vret rfl rfl ?_
                refine bk_inl ?_
                refine q_goto (t := 4) rfl (by decide) ?_
                refine q_aload_n rfl rfl ?_
                refine v_cv rfl rfl rfl rfl (by decide) ⟨⟨rfl, rfl⟩, by decide, rfl⟩ (Nat.le_of_ble_eq_true rfl) (Nat.le_of_ble_eq_true rfl) ?_
                refine q_aload_n rfl rfl ?_
                refine v_gi (z := 5) (v := c_474 1 5) rfl rfl rfl (by decide) rfl rfl hrb_hR_949.2.1 ?_
                refine q_iconst rfl ?_
                refine v_ic_ne_t (t := 12) rfl (by decide) ⟨by first | (clear ha2 hq0 hq1 hq2 hq3 hq4 hq5 h_1 h_2 h_3 h_4 h_5 h_6 h_7 h_8 h_9 h_10 h_11 h_12 h_13 h_14 h_15 h_16 h_69 h_70 h_71 h_81 h_478 h_717 h_882 h_883 h_884 h_885 h_886 h_887 h_888 h_889 h_890 h_891 h_893 h_894 h_896 h_938 h_953 h_954 h_951 h_955 h_956 h_957 h_72 h_895 h_950; omega) | omega, ⟨(Int.le_trans (by decide) h_887.1), (Int.le_trans h_887.2 (by decide))⟩, by decide, by decide⟩ ?_
                refine q_iconst rfl ?_
                refine v_zret rfl rfl (by decide) ?_
                refine bk_inl ?_
                refine v_if_eq_t (t := 90) rfl (by decide) (by decide) ?_
                refine q_vret rfl rfl ?_
                have h_959 : c_945 41 5 = c_474 1 5 := hrb_hR_949.2.1
                have h_960 : c_945 41 6 = c_474 1 4 := hrb_hR_949.2.2.2
                exact K c_945  hI_946 (fun a j hm => (hF_947 a j (fun q => q.elim (fun h => hm (Or.inl h)) (fun q => q.elim (fun h => hm (Or.inr (Or.inl h))) (fun q => q.elim (fun h => hm (Or.inr (Or.inr (Or.inl h)))) (fun q => q.elim (fun h => hm (Or.inr (Or.inr (Or.inr (Or.inl h))))) (fun q => q.elim (fun h => hm (Or.inr (Or.inr (Or.inr (Or.inr (Or.inl h)))))) (fun q => q.elim (fun h => hm (Or.inr (Or.inr (Or.inr (Or.inr (Or.inr (Or.inl h))))))) (fun h => hm (Or.inr (Or.inr (Or.inr (Or.inr (Or.inr (Or.inr h)))))))))))))).trans ((up_b (Decidable.or_iff_not_imp_left.mpr (fun h1 h2 => hm (Or.inl ⟨Decidable.not_not.mp h1, h2⟩)))).trans ((hF_914 a j (fun h => hm (Or.inl h))).trans ((hF_909 a j (fun h => hm (Or.inl h))).trans ((hF_904 a j (fun h => hm (Or.inl h))).trans ((hF_899 a j (fun h => hm (Or.inl h))).trans (hFc a j (fun q => q.elim (fun h => hm (Or.inl h)) (fun q => q.elim (fun h => hm (Or.inr (Or.inl h))) (fun q => q.elim (fun h => hm (Or.inr (Or.inr (Or.inl h)))) (fun q => q.elim (fun h => hm (Or.inr (Or.inr (Or.inr (Or.inl h))))) (fun q => q.elim (fun h => hm (Or.inr (Or.inr (Or.inr (Or.inr (Or.inl h)))))) (fun q => q.elim (fun h => hm (Or.inr (Or.inr (Or.inr (Or.inr (Or.inr (Or.inl h))))))) (fun h => hm (Or.inr (Or.inr (Or.inr (Or.inr (Or.inr (Or.inr h)))))))))))))))))))) (rt_i2 ⟨⟨by first | (clear ha2 hq0 hq1 hq2 hq3 hq4 hq5 h_1 h_2 h_3 h_4 h_5 h_6 h_7 h_8 h_9 h_10 h_11 h_12 h_13 h_14 h_15 h_16 h_69 h_70 h_71 h_81 h_478 h_717 h_882 h_884 h_885 h_886 h_887 h_888 h_889 h_890 h_891 h_893 h_894 h_896 h_938 h_953 h_954 h_951 h_955 h_956 h_957 h_72 h_895 h_950; omega) | omega, by first | (clear ha2 hq0 hq1 hq2 hq3 hq4 hq5 h_1 h_2 h_3 h_4 h_5 h_6 h_7 h_8 h_9 h_10 h_11 h_12 h_13 h_14 h_15 h_16 h_69 h_70 h_71 h_81 h_478 h_717 h_883 h_884 h_885 h_886 h_887 h_888 h_889 h_890 h_891 h_893 h_894 h_896 h_938 h_953 h_954 h_951 h_955 h_956 h_957 h_958 h_72 h_895 h_950; omega) | omega⟩, by first | (clear ha2 hq0 hq1 hq2 hq3 hq4 hq5 h_1 h_2 h_3 h_4 h_5 h_6 h_7 h_8 h_9 h_10 h_11 h_12 h_13 h_14 h_15 h_16 h_69 h_70 h_71 h_81 h_478 h_717 h_882 h_883 h_884 h_885 h_886 h_887 h_888 h_890 h_891 h_893 h_894 h_896 h_938 h_953 h_954 h_951 h_955 h_956 h_957 h_958 h_72 h_895 h_950; omega) | omega, by first | (clear ha2 hq0 hq1 hq2 hq3 hq4 hq5 h_1 h_2 h_3 h_4 h_5 h_6 h_7 h_8 h_9 h_10 h_11 h_12 h_13 h_14 h_15 h_16 h_69 h_70 h_71 h_81 h_478 h_717 h_882 h_883 h_884 h_885 h_886 h_887 h_888 h_890 h_891 h_893 h_894 h_896 h_938 h_953 h_954 h_951 h_955 h_956 h_957 h_72 h_895 h_950; omega) | omega, by first | (clear ha2 hq0 hq1 hq2 hq3 hq4 hq5 h_1 h_2 h_3 h_4 h_5 h_6 h_7 h_8 h_9 h_10 h_11 h_12 h_13 h_14 h_15 h_16 h_69 h_70 h_71 h_81 h_478 h_717 h_882 h_884 h_885 h_886 h_887 h_888 h_889 h_890 h_891 h_893 h_894 h_896 h_938 h_953 h_954 h_951 h_955 h_956 h_957 h_958 h_72 h_895 h_950; omega) | omega⟩) (Or.inr (Or.inl (by first | (clear ha2 hq0 hq1 hq2 hq3 hq4 hq5 h_1 h_2 h_3 h_4 h_5 h_6 h_7 h_8 h_9 h_10 h_11 h_12 h_13 h_14 h_15 h_16 h_69 h_70 h_71 h_81 h_478 h_717 h_882 h_884 h_885 h_886 h_887 h_888 h_889 h_890 h_891 h_893 h_894 h_896 h_938 h_953 h_954 h_951 h_955 h_956 h_957 h_72 h_895 h_950; omega) | omega))) (by first | (clear ha2 hq0 hq1 hq2 hq3 hq4 hq5 h_1 h_2 h_3 h_4 h_5 h_6 h_7 h_8 h_9 h_10 h_11 h_12 h_13 h_14 h_15 h_16 h_69 h_70 h_71 h_81 h_478 h_717 h_882 h_883 h_884 h_885 h_886 h_887 h_888 h_889 h_890 h_891 h_893 h_894 h_896 h_938 h_953 h_954 h_955 h_956 h_957 h_958 h_72 h_895 h_950; omega) | omega) (fun hz => absurd hz (by omega))
      · skip
        refine bk_inl ?_
        refine q_istore rfl (by decide) ?_
        refine q_iload rfl rfl ?_
        refine q_iconst rfl ?_
        refine v_ic_ne_t (t := 37) rfl (by decide) (by decide) ?_
        refine q_aload_n rfl rfl ?_
        refine q_aload_n rfl rfl ?_
        refine q_iload_n rfl rfl ?_
        have kn_961 : Hid (c_83 1 4 = 0) := (hF_85 1 4 (fun h => absurd h.2 (ni rfl))).trans (hc_0)
        refine v_cv rfl rfl rfl (ck_p7 hA) (a68 hA rfl) ⟨⟨rfl, rfl⟩, by decide, rfl⟩ (Nat.le_of_ble_eq_true rfl) (Nat.le_of_ble_eq_true rfl) (fn_of (r_14 (a2 := a2) hI_84 hA (show 0 ≤ a2 ∧ a2 ≤ 6 from ha2) (fun c_962 hI_963 hF_964 => ?_)))
        intro hG_965
        refine bk_inl ?_
        refine q_aload_n rfl rfl ?_
        refine v_sip rfl (by decide) ?_
        refine q_iload rfl rfl ?_
        refine v_iadd (v := 2004) rfl (by decide) ?_
        refine v_cv rfl rfl rfl (ck_p7 hA) (a68 hA rfl) ⟨⟨rfl, rfl⟩, by decide, rfl⟩ (Nat.le_of_ble_eq_true rfl) (Nat.le_of_ble_eq_true rfl) ?_
        refine q_aload_n rfl rfl ?_
        have h_966 := ir_p7_5 hI_963 hA
        refine v_gi (z := 5) (v := c_962 (A + 7) 5) rfl rfl (ck_p7 hA) (a68 hA rfl) rfl rfl rfl ?_
        refine q_aload_n rfl rfl ?_
        refine v_gr (t := (A + 9)) rfl rfl (ck_p7 hA) (a68 hA rfl) rfl ?_
        refine v_al rfl (ck_p9 hA) (a68 hA rfl) (by decide) ?_
        by_cases h_967 : c_962 (A + 7) 5 ≥ 150
        · as_aux_lemma =>
            refine v_ic_ge_t (t := 32) rfl (by decide) ⟨by decide, h_967, (Int.le_trans h_966.2 (by decide))⟩ ?_
            refine q_vret rfl rfl ?_
            refine bk_inl ?_
            refine v_iinc (v := v + 1) rfl rfl (by decide) rfl ?_
            refine q_goto (t := 8) rfl (by decide) ?_
            have h_968 := ir_1_4 hI_963
            by_cases h_969 : c_962 1 4 = 0
            · skip
              refine Wp_ls [(0, .ref (A + 7)), (1, .ref 1), (2, vi a2), (3, vi (v + 1))] (lsub_cons rfl (lsub_cons rfl (lsub_cons rfl (lsub_cons rfl lsub_nil)))) ?_
              refine gh_stop ((s_12_l (sc := sc) (d := dh + 22) (c := c_962) (a2 := a2) (Z := fun _ => True) hI_963 hA ha2 (fun c9 Z9 h hI9 K9 => r_13 (d := dh + 1) hI9 hA ⟨by omega, h⟩ K9) (fun _ _ _ => trivial) 304) c_962 (v + 1) hI_963 (fun a j hm => rfl) ⟨by omega, by omega⟩ (by omega)) (fun hG_970 => ?_)
              refine q_aload_n rfl rfl ?_
              refine v_cv rfl rfl rfl rfl (by decide) ⟨⟨rfl, rfl⟩, by decide, rfl⟩ (Nat.le_of_ble_eq_true rfl) (Nat.le_of_ble_eq_true rfl) ?_
              refine q_aload_n rfl rfl ?_
              refine v_gi (z := 5) (v := (-1)) rfl rfl rfl (by decide) rfl rfl (hc_1) ?_
              refine q_iconst rfl ?_
              refine v_ic_ne_f (t := 12) rfl (by decide) (by decide) ?_
              refine q_iconst rfl ?_
              refine q_goto (t := 13) rfl (by decide) ?_
              refine v_zret rfl rfl (by decide) ?_
              refine bk_inl ?_
              refine v_if_eq_f (t := 90) rfl (by decide) (by decide) ?_
              refine q_aload_n rfl rfl ?_
              have kn_971 : Hid (c2 41 3 = e1) := (hFc 41 3 (fun q => q.elim (fun h => absurd h.2 (ni rfl)) (fun q => q.elim (fun h => absurd h.2 (ni rfl)) (fun q => q.elim (fun h => absurd h.2 (ni rfl)) (fun q => q.elim (fun h => absurd h.2 (ni rfl)) (fun q => q.elim (fun h => absurd h.2 (ni rfl)) (fun q => q.elim (fun h => absurd h (nn rfl)) (fun h => absurd h (nn rfl))))))))).trans (hr_e1)
              have h_972 : -2147483648 ≤ (H (nx F e1 a)) ∧ (H (nx F e1 a)) ≤ 2147483647 := by rw [← hH (nx F e1 a)]; exact ir_43 hI (nx F e1 a)
              have h_973 := hU (nx F e1 a) (by omega) (by omega)
              have h_974 := hb_or (b := H) (e := e1) (r := (nx F e1 a))
              have h_975 := hb_bd (b := H) (e := e1) (r := (nx F e1 a)) (lo := -2147483648) (hi := 2147483647) h_972 (by decide)
              refine v_cv rfl rfl rfl rfl (by decide) ⟨⟨rfl, rfl⟩, by decide, rfl⟩ (Nat.le_of_ble_eq_true rfl) (Nat.le_of_ble_eq_true rfl) (f_154 (e1 := e1) (a9 := a) (B := H) (r8 := (nx F e1 a)) (r := (hb H e1 (nx F e1 a))) hI2 ((hid kn_971)) ((hr_a)) (fun j => (hFc 43 j (fun q => q.elim (fun h => absurd h.1 (nn rfl)) (fun q => q.elim (fun h => absurd h.1 (nn rfl)) (fun q => q.elim (fun h => absurd h.1 (nn rfl)) (fun q => q.elim (fun h => absurd h.1 (nn rfl)) (fun q => q.elim (fun h => absurd h.1 (nn rfl)) (fun q => q.elim (fun h => absurd h (nn rfl)) (fun h => absurd h (nn rfl))))))))).trans (hH j)) ((nx_tr hU (by first | (clear ha2 hq0 hq1 hq2 hq3 hq4 hq5 h_1 h_2 h_3 h_4 h_5 h_6 h_7 h_8 h_9 h_10 h_11 h_12 h_13 h_14 h_15 h_16 h_69 h_70 h_71 h_86 h_966 h_967 h_968 h_969 h_72; omega) | omega) (by first | (clear ha2 hq0 hq1 hq2 hq3 hq4 h_1 h_2 h_3 h_4 h_5 h_6 h_7 h_8 h_9 h_10 h_11 h_12 h_13 h_14 h_15 h_16 h_69 h_70 h_71 h_86 h_966 h_967 h_968 h_969 h_72; omega) | omega)).trans (rfl)) rfl (fun c_976 hI_977 hF_978 h_979 => ?_))
              refine bk_inl ?_
              refine v_bip rfl (by decide) ?_
              refine v_ic_eq_f (t := 38) rfl (by decide) ⟨by first | (clear ha2 hq0 hq1 hq2 hq3 h_3 h_4 h_5 h_6 h_7 h_8 h_9 h_10 h_11 h_12 h_13 h_14 h_15 h_69 h_71 h_966 h_967 h_968 h_969; omega) | omega, ⟨h_975.1, h_975.2⟩, by decide, by decide⟩ ?_
              refine q_aload_n rfl rfl ?_
              have kn_980 : Hid (c_976 41 3 = e1) := (hF_978 41 3 (fun h => absurd h.2 (ni rfl))).trans (hid kn_971)
              refine v_cv rfl rfl rfl rfl (by decide) ⟨⟨rfl, rfl⟩, by decide, rfl⟩ (Nat.le_of_ble_eq_true rfl) (Nat.le_of_ble_eq_true rfl) (f_154 (e1 := e1) (a9 := (nx F e1 a)) (B := H) (r8 := (nx F e1 a)) (r := (hb H e1 (nx F e1 a))) hI_977 ((hid kn_980)) ((h_979)) (fun j => ((hF_978 43 j (fun h => absurd h.1 (nn rfl))).trans (hFc 43 j (fun q => q.elim (fun h => absurd h.1 (nn rfl)) (fun q => q.elim (fun h => absurd h.1 (nn rfl)) (fun q => q.elim (fun h => absurd h.1 (nn rfl)) (fun q => q.elim (fun h => absurd h.1 (nn rfl)) (fun q => q.elim (fun h => absurd h.1 (nn rfl)) (fun q => q.elim (fun h => absurd h (nn rfl)) (fun h => absurd h (nn rfl)))))))))).trans (hH j)) ((nx_tr hU (by first | (clear ha2 hq0 hq1 hq2 hq3 hq4 hq5 h_1 h_2 h_3 h_4 h_5 h_6 h_7 h_8 h_9 h_10 h_11 h_12 h_13 h_14 h_15 h_16 h_69 h_71 h_86 h_966 h_967 h_968 h_969 h_972 h_973 h_975 h_72 h_974; omega) | omega) (by first | (clear ha2 hq0 hq1 hq2 hq3 hq4 h_1 h_2 h_3 h_4 h_5 h_6 h_7 h_8 h_9 h_10 h_11 h_12 h_13 h_14 h_15 h_16 h_69 h_70 h_71 h_86 h_966 h_967 h_968 h_969 h_972 h_973 h_975 h_72 h_974; omega) | omega)).trans ((nx_z (by omega)))) rfl (fun c_981 hI_982 hF_983 h_984 => ?_))
              refine bk_inl ?_
              refine v_bip rfl (by decide) ?_
              refine v_ic_eq_f (t := 38) rfl (by decide) ⟨by first | (clear ha2 hq0 hq1 hq2 hq3 h_3 h_4 h_5 h_6 h_7 h_8 h_9 h_10 h_11 h_12 h_13 h_14 h_15 h_69 h_71 h_966 h_967 h_968 h_969; omega) | omega, ⟨h_975.1, h_975.2⟩, by decide, by decide⟩ ?_
              refine q_aload_n rfl rfl ?_
              have kn_985 : Hid (c_981 41 3 = e1) := (hF_983 41 3 (fun h => absurd h.2 (ni rfl))).trans (hid kn_980)
              refine v_cv rfl rfl rfl rfl (by decide) ⟨⟨rfl, rfl⟩, by decide, rfl⟩ (Nat.le_of_ble_eq_true rfl) (Nat.le_of_ble_eq_true rfl) (f_154 (e1 := e1) (a9 := (nx F e1 a)) (B := H) (r8 := (nx F e1 a)) (r := (hb H e1 (nx F e1 a))) hI_982 ((hid kn_985)) ((h_984)) (fun j => ((hF_983 43 j (fun h => absurd h.1 (nn rfl))).trans ((hF_978 43 j (fun h => absurd h.1 (nn rfl))).trans (hFc 43 j (fun q => q.elim (fun h => absurd h.1 (nn rfl)) (fun q => q.elim (fun h => absurd h.1 (nn rfl)) (fun q => q.elim (fun h => absurd h.1 (nn rfl)) (fun q => q.elim (fun h => absurd h.1 (nn rfl)) (fun q => q.elim (fun h => absurd h.1 (nn rfl)) (fun q => q.elim (fun h => absurd h (nn rfl)) (fun h => absurd h (nn rfl))))))))))).trans (hH j)) ((nx_tr hU (by first | (clear ha2 hq0 hq1 hq2 hq3 hq4 hq5 h_1 h_2 h_3 h_4 h_5 h_6 h_7 h_8 h_9 h_10 h_11 h_12 h_13 h_14 h_15 h_16 h_69 h_71 h_86 h_966 h_967 h_968 h_969 h_972 h_973 h_975 h_72 h_974; omega) | omega) (by first | (clear ha2 hq0 hq1 hq2 hq3 hq4 h_1 h_2 h_3 h_4 h_5 h_6 h_7 h_8 h_9 h_10 h_11 h_12 h_13 h_14 h_15 h_16 h_69 h_70 h_71 h_86 h_966 h_967 h_968 h_969 h_972 h_973 h_975 h_72 h_974; omega) | omega)).trans ((nx_z (by omega)))) rfl (fun c_986 hI_987 hF_988 h_989 => ?_))
              refine bk_inl ?_
              refine v_bip rfl (by decide) ?_
              refine v_ic_ne_f (t := 90) rfl (by decide) (by first | (clear ha2 hq0 hq1 hq2 hq3 h_3 h_4 h_5 h_6 h_7 h_8 h_9 h_10 h_11 h_12 h_13 h_14 h_15 h_69 h_71 h_966 h_967 h_968 h_969; omega) | omega) ?_
              refine q_aload_n rfl rfl ?_
              have kn_990 : Hid (c_986 41 3 = e1) := (hF_988 41 3 (fun h => absurd h.2 (ni rfl))).trans (hid kn_985)
              refine v_cv rfl rfl rfl rfl (by decide) ⟨⟨rfl, rfl⟩, by decide, rfl⟩ (Nat.le_of_ble_eq_true rfl) (Nat.le_of_ble_eq_true rfl) (f_154 (e1 := e1) (a9 := (nx F e1 a)) (B := H) (r8 := (nx F e1 a)) (r := (hb H e1 (nx F e1 a))) hI_987 ((hid kn_990)) ((h_989)) (fun j => ((hF_988 43 j (fun h => absurd h.1 (nn rfl))).trans ((hF_983 43 j (fun h => absurd h.1 (nn rfl))).trans ((hF_978 43 j (fun h => absurd h.1 (nn rfl))).trans (hFc 43 j (fun q => q.elim (fun h => absurd h.1 (nn rfl)) (fun q => q.elim (fun h => absurd h.1 (nn rfl)) (fun q => q.elim (fun h => absurd h.1 (nn rfl)) (fun q => q.elim (fun h => absurd h.1 (nn rfl)) (fun q => q.elim (fun h => absurd h.1 (nn rfl)) (fun q => q.elim (fun h => absurd h (nn rfl)) (fun h => absurd h (nn rfl)))))))))))).trans (hH j)) ((nx_tr hU (by first | (clear ha2 hq0 hq1 hq2 hq3 hq4 hq5 h_1 h_2 h_3 h_4 h_5 h_6 h_7 h_8 h_9 h_10 h_11 h_12 h_13 h_14 h_15 h_16 h_69 h_71 h_86 h_966 h_967 h_968 h_969 h_972 h_973 h_975 h_72 h_974; omega) | omega) (by first | (clear ha2 hq0 hq1 hq2 hq3 hq4 h_1 h_2 h_3 h_4 h_5 h_6 h_7 h_8 h_9 h_10 h_11 h_12 h_13 h_14 h_15 h_16 h_69 h_70 h_71 h_86 h_966 h_967 h_968 h_969 h_972 h_973 h_975 h_72 h_974; omega) | omega)).trans ((nx_z (by omega)))) rfl (fun c_991 hI_992 hF_993 h_994 => ?_))
              refine bk_inl ?_
              refine v_bip rfl (by decide) ?_
              refine v_ic_ne_t (t := 51) rfl (by decide) ⟨by first | (clear ha2 hq0 hq1 hq2 hq3 h_3 h_4 h_5 h_6 h_7 h_8 h_9 h_10 h_11 h_12 h_13 h_14 h_15 h_69 h_71 h_966 h_967 h_968 h_969; omega) | omega, ⟨h_975.1, h_975.2⟩, by decide, by decide⟩ ?_
              refine q_aload_n rfl rfl ?_
              have kn_995 : Hid (c_991 41 3 = e1) := (hF_993 41 3 (fun h => absurd h.2 (ni rfl))).trans (hid kn_990)
              refine v_cv rfl rfl rfl rfl (by decide) ⟨⟨rfl, rfl⟩, by decide, rfl⟩ (Nat.le_of_ble_eq_true rfl) (Nat.le_of_ble_eq_true rfl) (f_154 (e1 := e1) (a9 := (nx F e1 a)) (B := H) (r8 := (nx F e1 a)) (r := (hb H e1 (nx F e1 a))) hI_992 ((hid kn_995)) ((h_994)) (fun j => ((hF_993 43 j (fun h => absurd h.1 (nn rfl))).trans ((hF_988 43 j (fun h => absurd h.1 (nn rfl))).trans ((hF_983 43 j (fun h => absurd h.1 (nn rfl))).trans ((hF_978 43 j (fun h => absurd h.1 (nn rfl))).trans (hFc 43 j (fun q => q.elim (fun h => absurd h.1 (nn rfl)) (fun q => q.elim (fun h => absurd h.1 (nn rfl)) (fun q => q.elim (fun h => absurd h.1 (nn rfl)) (fun q => q.elim (fun h => absurd h.1 (nn rfl)) (fun q => q.elim (fun h => absurd h.1 (nn rfl)) (fun q => q.elim (fun h => absurd h (nn rfl)) (fun h => absurd h (nn rfl))))))))))))).trans (hH j)) ((nx_tr hU (by first | (clear ha2 hq0 hq1 hq2 hq3 hq4 hq5 h_1 h_2 h_3 h_4 h_5 h_6 h_7 h_8 h_9 h_10 h_11 h_12 h_13 h_14 h_15 h_16 h_69 h_71 h_86 h_966 h_967 h_968 h_969 h_972 h_973 h_975 h_72 h_974; omega) | omega) (by first | (clear ha2 hq0 hq1 hq2 hq3 hq4 h_1 h_2 h_3 h_4 h_5 h_6 h_7 h_8 h_9 h_10 h_11 h_12 h_13 h_14 h_15 h_16 h_69 h_70 h_71 h_86 h_966 h_967 h_968 h_969 h_972 h_973 h_975 h_72 h_974; omega) | omega)).trans ((nx_z (by omega)))) rfl (fun c_996 hI_997 hF_998 h_999 => ?_))
              refine bk_inl ?_
              refine v_bip rfl (by decide) ?_
              refine v_ic_ne_t (t := 64) rfl (by decide) ⟨by first | (clear ha2 hq0 hq1 hq2 hq3 h_3 h_4 h_5 h_6 h_7 h_8 h_9 h_10 h_11 h_12 h_13 h_14 h_15 h_69 h_71 h_966 h_967 h_968 h_969; omega) | omega, ⟨h_975.1, h_975.2⟩, by decide, by decide⟩ ?_
              refine v_bip rfl (by decide) ?_
              refine q_istore_n rfl (by decide) ?_
              refine q_aload_n rfl rfl ?_
              refine q_dup rfl rfl ?_
              refine v_gi (z := 4) (v := (nx F e1 a)) rfl rfl rfl (by decide) rfl rfl (h_999) ?_
              refine q_iconst rfl ?_
              refine v_iadd (v := (nx F e1 a) + 1) rfl rfl ?_
              refine v_pi (z := 4) rfl rfl rfl (by decide) rfl rfl rfl (by decide) ?_
              refine q_aload_n rfl rfl ?_
              have kn_1000 : Hid (c_976 41 5 = (-1)) := (hF_978 41 5 (fun h => absurd h.2 (ni rfl))).trans (hc_1)
              have kn_1001 : Hid (c_981 41 5 = (-1)) := (hF_983 41 5 (fun h => absurd h.2 (ni rfl))).trans (hid kn_1000)
              have kn_1002 : Hid (c_986 41 5 = (-1)) := (hF_988 41 5 (fun h => absurd h.2 (ni rfl))).trans (hid kn_1001)
              have kn_1003 : Hid (c_991 41 5 = (-1)) := (hF_993 41 5 (fun h => absurd h.2 (ni rfl))).trans (hid kn_1002)
              have kn_1004 : Hid (c_996 41 5 = (-1)) := (hF_998 41 5 (fun h => absurd h.2 (ni rfl))).trans (hid kn_1003)
              have hI_1005 := iw_41_4 (v := (nx F e1 a) + 1) hI_997 ⟨by first | exact rgp_l (rg_be h_70 (ha.1) ((rg_eq hg_e1 h_1).2)).1 (by decide) | omega, by first | exact rgp_h (rg_be h_70 (ha.1) ((rg_eq hg_e1 h_1).2)).2 (by decide) | omega⟩
              have kn_1006 : Hid (c_83 1 1 = e1) := (hF_85 1 1 (fun h => absurd h.2 (ni rfl))).trans (hid kn_68)
              have kn_1007 : Hid (c_996 41 3 = e1) := (hF_998 41 3 (fun h => absurd h.2 (ni rfl))).trans (hid kn_995)
              have kn_1008 : Hid (c_83 1 5 = (-1)) := (hF_85 1 5 (fun h => absurd h.2 (ni rfl))).trans (hc_2)
              have kn_1009 : Hid (c_83 (A + 7) 5 = nw) := (hF_85 (A + 7) 5 (fun h => absurd h.1 (np hA rfl rfl))).trans (hg_nw)
              have kn_1010 : Hid (c_976 41 29 = nw) := (hF_978 41 29 (fun h => absurd h.2 (ni rfl))).trans (hr_nw)
              have kn_1011 : Hid (c_981 41 29 = nw) := (hF_983 41 29 (fun h => absurd h.2 (ni rfl))).trans (hid kn_1010)
              have kn_1012 : Hid (c_986 41 29 = nw) := (hF_988 41 29 (fun h => absurd h.2 (ni rfl))).trans (hid kn_1011)
              have kn_1013 : Hid (c_991 41 29 = nw) := (hF_993 41 29 (fun h => absurd h.2 (ni rfl))).trans (hid kn_1012)
              have kn_1014 : Hid (c_996 41 29 = nw) := (hF_998 41 29 (fun h => absurd h.2 (ni rfl))).trans (hid kn_1013)
              have kn_1015 : Hid (c_976 41 7 = a2) := (hF_978 41 7 (fun h => absurd h.2 (ni rfl))).trans (hc_3)
              have kn_1016 : Hid (c_981 41 7 = a2) := (hF_983 41 7 (fun h => absurd h.2 (ni rfl))).trans (hid kn_1015)
              have kn_1017 : Hid (c_986 41 7 = a2) := (hF_988 41 7 (fun h => absurd h.2 (ni rfl))).trans (hid kn_1016)
              have kn_1018 : Hid (c_991 41 7 = a2) := (hF_993 41 7 (fun h => absurd h.2 (ni rfl))).trans (hid kn_1017)
              have kn_1019 : Hid (c_996 41 7 = a2) := (hF_998 41 7 (fun h => absurd h.2 (ni rfl))).trans (hid kn_1018)
              have h_1020 : c_83 1 4 = 0 := (hid kn_961)
              have h_1021 : c_83 1 2 = (nx F e1 a) + 1 := (hz_87)
              have h_1022 : c_83 1 5 = (-1) := (hid kn_1008)
              have h_1023 : (up c_996 41 4 ((nx F e1 a) + 1)) 41 5 = (-1) := ((up_n (by decide)).trans (hid kn_1004))
              have h_1024 : (up c_996 41 4 ((nx F e1 a) + 1)) 41 4 = (nx F e1 a) + 1 := (up_e rfl)
              have h_1025 := ir_41_6 hI2
              have kn_1026 : Hid (c_976 41 6 = c2 41 6) := hF_978 41 6 (fun h => absurd h.2 (ni rfl))
              have kn_1027 : Hid (c_981 41 6 = c2 41 6) := (hF_983 41 6 (fun h => absurd h.2 (ni rfl))).trans (hid kn_1026)
              have kn_1028 : Hid (c_986 41 6 = c2 41 6) := (hF_988 41 6 (fun h => absurd h.2 (ni rfl))).trans (hid kn_1027)
              have kn_1029 : Hid (c_991 41 6 = c2 41 6) := (hF_993 41 6 (fun h => absurd h.2 (ni rfl))).trans (hid kn_1028)
              have kn_1030 : Hid (c_996 41 6 = c2 41 6) := (hF_998 41 6 (fun h => absurd h.2 (ni rfl))).trans (hid kn_1029)
              have h_1031 : (up c_996 41 4 ((nx F e1 a) + 1)) 41 6 = c2 41 6 := ((up_n (by decide)).trans (hid kn_1030))
              have hA_1032 : Ce nw (c_83 (A + 9)) ((up c_996 41 4 ((nx F e1 a) + 1)) 50) ((up c_996 41 4 ((nx F e1 a) + 1)) 51) := ce_fr hrl0 (fun j => hF_85 (A + 9) j (fun h => absurd h.1 (np hA rfl rfl))) (fun j => (up_c (nn rfl)).trans ((hF_998 50 j (fun h => absurd h.1 (nn rfl))).trans ((hF_993 50 j (fun h => absurd h.1 (nn rfl))).trans ((hF_988 50 j (fun h => absurd h.1 (nn rfl))).trans ((hF_983 50 j (fun h => absurd h.1 (nn rfl))).trans (hF_978 50 j (fun h => absurd h.1 (nn rfl)))))))) (fun j => (up_c (nn rfl)).trans ((hF_998 51 j (fun h => absurd h.1 (nn rfl))).trans ((hF_993 51 j (fun h => absurd h.1 (nn rfl))).trans ((hF_988 51 j (fun h => absurd h.1 (nn rfl))).trans ((hF_983 51 j (fun h => absurd h.1 (nn rfl))).trans (hF_978 51 j (fun h => absurd h.1 (nn rfl))))))))
              refine v_cv rfl rfl rfl rfl (by decide) ⟨⟨rfl, rfl⟩, by decide, rfl⟩ (Nat.le_of_ble_eq_true rfl) (Nat.le_of_ble_eq_true rfl) (L_14 (m := c_83) (a2 := a2) (e1 := e1) (f0 := 0) (g0 := (-1)) (p0 := (nx F e1 a) + 1) (n0 := nw) (o0 := a2) (F := F) (H := H) hI_1005 hI_84 hI_963 hA (show 0 ≤ a2 ∧ a2 ≤ 6 from ha2) (by first | (clear ha2 hq0 hq1 hq2 hq3 hq4 hq5 h_1 h_2 h_3 h_4 h_5 h_6 h_7 h_8 h_9 h_10 h_11 h_12 h_13 h_14 h_15 h_16 h_69 h_70 h_71 h_86 h_966 h_967 h_968 h_969 h_972 h_973 h_975 h_72 h_974; omega) | omega) (by first | (clear ha2 hq0 hq1 hq2 hq3 hq4 hq5 h_1 h_2 h_3 h_4 h_5 h_6 h_7 h_8 h_9 h_10 h_11 h_12 h_13 h_14 h_15 h_16 h_69 h_70 h_71 h_86 h_966 h_967 h_968 h_969 h_972 h_973 h_975 h_72 h_974; omega) | omega) (by first | (clear ha2 hq0 hq1 hq2 hq3 hq4 hq5 h_1 h_2 h_3 h_4 h_5 h_6 h_7 h_8 h_9 h_10 h_11 h_12 h_13 h_14 h_15 h_16 h_69 h_70 h_71 h_86 h_966 h_967 h_968 h_969 h_972 h_973 h_975 h_72 h_974; omega) | omega) (by first | (clear ha2 hq0 hq1 hq2 hq4 hq5 h_1 h_2 h_3 h_4 h_5 h_6 h_7 h_8 h_9 h_10 h_11 h_12 h_13 h_14 h_15 h_69 h_71 h_86 h_966 h_967 h_968 h_969 h_972 h_973 h_975 h_72 h_974; omega) | omega) (by first | (clear ha2 hq0 hq1 hq2 hq3 hq4 hq5 h_1 h_2 h_3 h_4 h_5 h_6 h_7 h_8 h_9 h_10 h_11 h_12 h_13 h_14 h_15 h_16 h_69 h_70 h_71 h_966 h_967 h_968 h_969 h_972 h_973 h_975 h_72 h_974; omega) | omega) (by first | (clear ha2 hq0 hq1 hq2 hq3 hq4 h_1 h_2 h_3 h_4 h_5 h_6 h_7 h_8 h_9 h_10 h_11 h_12 h_13 h_14 h_15 h_16 h_69 h_70 h_71 h_86 h_966 h_967 h_968 h_969 h_972 h_973 h_975 h_72 h_974; omega) | omega) ((hid kn_1006)) (((up_n (by decide)).trans (hid kn_1007))) ((hid kn_961)) ((hid kn_1008)) ((hz_87)) ((hid kn_1009)) (((up_n (by decide)).trans (hid kn_1014))) (((up_n (by decide)).trans (hid kn_1019))) (fun j => ((hF_85 2 j (fun h => absurd h.1 (nn rfl))).trans (hFm 2 j (fun q => q.elim (fun h => absurd h.1 (nn rfl)) (fun q => q.elim (fun h => absurd h.1 (nn rfl)) (fun q => q.elim (fun h => absurd h.1 (nn rfl)) (fun q => q.elim (fun h => absurd h.1 (pn hA rfl rfl)) (fun h => absurd h (pn hA rfl rfl)))))))).trans (hF j)) (fun j => ((up_c (nn rfl)).trans ((hF_998 43 j (fun h => absurd h.1 (nn rfl))).trans ((hF_993 43 j (fun h => absurd h.1 (nn rfl))).trans ((hF_988 43 j (fun h => absurd h.1 (nn rfl))).trans ((hF_983 43 j (fun h => absurd h.1 (nn rfl))).trans ((hF_978 43 j (fun h => absurd h.1 (nn rfl))).trans (hFc 43 j (fun q => q.elim (fun h => absurd h.1 (nn rfl)) (fun q => q.elim (fun h => absurd h.1 (nn rfl)) (fun q => q.elim (fun h => absurd h.1 (nn rfl)) (fun q => q.elim (fun h => absurd h.1 (nn rfl)) (fun q => q.elim (fun h => absurd h.1 (nn rfl)) (fun q => q.elim (fun h => absurd h (nn rfl)) (fun h => absurd h (nn rfl))))))))))))))).trans (hH j)) hU (rt_i1 ⟨by first | (clear ha2 hq0 hq1 hq2 hq3 hq4 hq5 h_1 h_2 h_3 h_4 h_5 h_6 h_7 h_8 h_9 h_10 h_11 h_12 h_13 h_14 h_15 h_16 h_69 h_70 h_71 h_86 h_966 h_967 h_968 h_969 h_972 h_973 h_975 h_1025 h_72 h_974; omega) | omega, by first | (clear ha2 hq0 hq1 hq2 hq3 hq4 hq5 h_1 h_2 h_3 h_4 h_5 h_6 h_7 h_8 h_9 h_10 h_11 h_12 h_13 h_14 h_15 h_16 h_69 h_70 h_71 h_86 h_966 h_967 h_968 h_969 h_972 h_973 h_975 h_1025 h_72 h_974; omega) | omega, by first | (clear ha2 hq0 hq1 hq2 hq3 hq4 hq5 h_1 h_2 h_3 h_4 h_5 h_6 h_7 h_8 h_9 h_10 h_11 h_12 h_13 h_14 h_15 h_16 h_69 h_70 h_71 h_86 h_966 h_967 h_968 h_969 h_972 h_973 h_975 h_1025 h_72 h_974; omega) | omega, by first | (clear ha2 hq0 hq1 hq2 hq3 hq4 hq5 h_1 h_2 h_3 h_4 h_5 h_6 h_7 h_8 h_9 h_10 h_11 h_12 h_13 h_14 h_15 h_16 h_69 h_70 h_71 h_86 h_966 h_967 h_968 h_969 h_972 h_973 h_975 h_1025 h_72 h_974; omega) | omega⟩) (ce_le hA_1032 (by omega)) H13 hG_965 (fun c_1033 hI_1034 hF_1035 hR_1037 h_1038 h_1039 hA_1040 => ?_))
              refine bk_inl ?_
              have h_1041 := ir_41_29 hI_1034
              have h_1042 := ir_1_2 hI_963
              have h_1043 := ir_41_7 hI_1034
              refine q_aload_n rfl rfl ?_
              refine q_iload_n rfl rfl ?_
              refine q_iconst rfl ?_
              refine v_cv rfl rfl rfl rfl (by decide) ⟨⟨rfl, rfl⟩, by decide, rfl⟩ (Nat.le_of_ble_eq_true rfl) (Nat.le_of_ble_eq_true rfl) ?_
              refine q_aload_n rfl rfl ?_
              refine v_cv rfl rfl rfl rfl (by decide) ⟨⟨rfl, rfl⟩, by decide, rfl⟩ (Nat.le_of_ble_eq_true rfl) (Nat.le_of_ble_eq_true rfl) ?_
              refine q_aload_n rfl rfl ?_
              have h_1044 := ir_41_5 hI_1034
              have h_1045 := ir_1_5 hI_963
              have h_1046 := ir_41_4 hI_1034
              have h_1047 := ir_41_6 hI_1034
              have h_1048 := rt_ok hR_1037 (by omega)
              have hro_hR_1037 := rt_ok hR_1037 (by omega)
              refine v_gi (z := 5) (v := (-1)) rfl rfl rfl (by decide) rfl rfl hro_hR_1037.2.1 ?_
              refine q_iconst rfl ?_
              refine v_ic_ne_f (t := 12) rfl (by decide) (by decide) ?_
              refine q_iconst rfl ?_
              refine q_goto (t := 13) rfl (by decide) ?_
              refine v_zret rfl rfl (by decide) ?_
              refine bk_inl ?_
              refine v_if_ne_t (t := 8) rfl (by decide) (by decide) ?_
              refine q_aload_n rfl rfl ?_
              refine v_gr (t := 50) rfl rfl rfl (by decide) rfl ?_
              refine q_aload_n rfl rfl ?_
              refine v_gi (z := 29) (v := c_1033 41 29) rfl rfl rfl (by decide) rfl rfl rfl ?_
              refine q_iload_n rfl rfl ?_
              refine v_is rfl rfl (by decide) (by decide) (by omega) ?_
              refine q_aload_n rfl rfl ?_
              refine v_gr (t := 51) rfl rfl rfl (by decide) rfl ?_
              refine q_aload_n rfl rfl ?_
              refine v_gi (z := 29) (v := c_1033 41 29) rfl rfl rfl (by decide) rfl rfl (up_c (nn rfl)) ?_
              refine q_iload_n rfl rfl ?_
              refine v_is rfl rfl (by decide) (by decide) (by omega) ?_
              refine q_aload_n rfl rfl ?_
              refine q_dup rfl rfl ?_
              refine v_gi (z := 29) (v := c_1033 41 29) rfl rfl rfl (by decide) rfl rfl ((up_c (nn rfl)).trans (up_c (nn rfl))) ?_
              refine q_iconst rfl ?_
              refine v_iadd (v := c_1033 41 29 + 1) rfl rfl ?_
              refine v_pi (z := 29) rfl rfl rfl (by decide) rfl rfl rfl (by decide) ?_
              refine q_vret rfl rfl ?_
              refine bk_inl ?_
              refine q_goto (t := 4) rfl (by decide) ?_
              have hI_1049 := iw_50 (j := c_1033 41 29) (v := 8) hI_1034 ⟨by decide, by decide⟩
              have hI_1050 := iw_51 (j := c_1033 41 29) (v := 0) hI_1049 ⟨by decide, by decide⟩
              have hI_1051 := iw_41_29 (v := c_1033 41 29 + 1) hI_1050 ⟨by first | exact rgp_l h_1041.1 (by decide) | omega, by first | (clear hq0 hq1 h_3 h_4 h_8 h_13 h_14 h_15 h_69 h_1025 h_1043 h_1047; omega) | omega⟩
              refine Wp_ls [(0, .ref 41)] (lsub_cons rfl lsub_nil) ?_
              have hA_1052 : Ce (c_962 (A + 7) 5) (c_962 (A + 9)) ((up (up (up c_1033 50 (c_1033 41 29) 8) 51 (c_1033 41 29) 0) 41 29 (c_1033 41 29 + 1)) 50) ((up (up (up c_1033 50 (c_1033 41 29) 8) 51 (c_1033 41 29) 0) 41 29 (c_1033 41 29 + 1)) 51) := ce_z (by omega)
              exact ih (up (up (up c_1033 50 (c_1033 41 29) 8) 51 (c_1033 41 29) 0) 41 29 (c_1033 41 29 + 1)) c_962 (v + 1) (c_962 1 2) (c_962 (A + 7) 5) hI_1051 (fun a j hm => (up_b (Decidable.or_iff_not_imp_left.mpr (fun h1 h2 => hm (Or.inr (Or.inr (Or.inr (Or.inr (Or.inl ⟨Decidable.not_not.mp h1, h2⟩)))))))).trans ((up_b (Decidable.or_iff_not_imp_left.mpr (fun h1 h2 => hm (Or.inr (Or.inr (Or.inr (Or.inr (Or.inr (Or.inr (Decidable.not_not.mp h1)))))))))).trans ((up_b (Decidable.or_iff_not_imp_left.mpr (fun h1 h2 => hm (Or.inr (Or.inr (Or.inr (Or.inr (Or.inr (Or.inl (Decidable.not_not.mp h1)))))))))).trans ((hF_1035 a j (fun q => q.elim (fun h => hm (Or.inl h)) (fun q => q.elim (fun h => hm (Or.inr (Or.inl h))) (fun q => q.elim (fun h => hm (Or.inr (Or.inr (Or.inl h)))) (fun q => q.elim (fun h => hm (Or.inr (Or.inr (Or.inr (Or.inl h))))) (fun q => q.elim (fun h => hm (Or.inr (Or.inr (Or.inr (Or.inr (Or.inl h)))))) (fun q => q.elim (fun h => hm (Or.inr (Or.inr (Or.inr (Or.inr (Or.inr (Or.inl h))))))) (fun h => hm (Or.inr (Or.inr (Or.inr (Or.inr (Or.inr (Or.inr h)))))))))))))).trans ((up_b (Decidable.or_iff_not_imp_left.mpr (fun h1 h2 => hm (Or.inl ⟨Decidable.not_not.mp h1, h2⟩)))).trans ((hF_998 a j (fun h => hm (Or.inl h))).trans ((hF_993 a j (fun h => hm (Or.inl h))).trans ((hF_988 a j (fun h => hm (Or.inl h))).trans ((hF_983 a j (fun h => hm (Or.inl h))).trans ((hF_978 a j (fun h => hm (Or.inl h))).trans (hFc a j (fun q => q.elim (fun h => hm (Or.inl h)) (fun q => q.elim (fun h => hm (Or.inr (Or.inl h))) (fun q => q.elim (fun h => hm (Or.inr (Or.inr (Or.inl h)))) (fun q => q.elim (fun h => hm (Or.inr (Or.inr (Or.inr (Or.inl h))))) (fun q => q.elim (fun h => hm (Or.inr (Or.inr (Or.inr (Or.inr (Or.inl h)))))) (fun q => q.elim (fun h => hm (Or.inr (Or.inr (Or.inr (Or.inr (Or.inr (Or.inl h))))))) (fun h => hm (Or.inr (Or.inr (Or.inr (Or.inr (Or.inr (Or.inr h)))))))))))))))))))))))) hI_963 (fun a j hm => (hF_964 a j (fun q => q.elim (fun h => hm (Or.inl h)) (fun q => q.elim (fun h => hm (Or.inr (Or.inl h))) (fun q => q.elim (fun h => hm (Or.inr (Or.inr (Or.inl h)))) (fun q => q.elim (fun h => hm (Or.inr (Or.inr (Or.inr (Or.inl h))))) (fun h => hm (Or.inr (Or.inr (Or.inr (Or.inr h)))))))))).trans ((hF_85 a j (fun h => hm (Or.inl h))).trans (hFm a j (fun q => q.elim (fun h => hm (Or.inl h)) (fun q => q.elim (fun h => hm (Or.inr (Or.inl h))) (fun q => q.elim (fun h => hm (Or.inr (Or.inr (Or.inl h)))) (fun q => q.elim (fun h => hm (Or.inr (Or.inr (Or.inr (Or.inl h))))) (fun h => hm (Or.inr (Or.inr (Or.inr (Or.inr h)))))))))))) ⟨by omega, by omega⟩ ⟨by omega, by omega⟩ ⟨by omega, by omega⟩ (rfl) (((((up_n (by decide)).trans ((up_c (nn rfl)).trans (up_c (nn rfl))))).trans (hro_hR_1037.2.2.1))) (rfl) ((show _ = c_1033 41 29 + 1 from (up_e rfl)).trans (by omega)) ((show _ = c_962 1 4 from rfl).trans (by omega)) (((((up_n (by decide)).trans ((up_c (nn rfl)).trans (up_c (nn rfl))))).trans (hro_hR_1037.2.1))) ((show _ = c_962 1 5 from rfl).trans (by omega)) ((show _ = c_1033 41 7 from ((up_n (by decide)).trans ((up_c (nn rfl)).trans (up_c (nn rfl))))).trans (by omega)) (by first | (clear hq0 hq1 h_3 h_4 h_8 h_13 h_14 h_15 h_69 h_71 h_972 h_973 h_975 h_1025 h_1043 h_1047; omega) | omega) (by first | (clear hq0 hq1 h_3 h_4 h_8 h_13 h_14 h_15 h_69 h_71 h_972 h_973 h_975 h_1025 h_1043 h_1047; omega) | omega) (by first | (clear ha2 hq0 hq1 hq2 hq3 h_3 h_4 h_5 h_6 h_7 h_8 h_9 h_10 h_11 h_12 h_13 h_14 h_15 h_69 h_71 h_966 h_967 h_968 h_969 h_972 h_973 h_975 h_1025 h_1041 h_1043 h_1039 h_1044 h_1045 h_1046 h_1047; omega) | omega) (by first | (clear hq0 hq1 h_3 h_4 h_8 h_13 h_14 h_15 h_69 h_71 h_972 h_973 h_975 h_1025 h_1043 h_1047; omega) | omega) (ce_le hA_1052 (by omega)) hG_970 (by omega)
            · skip
              refine q_iload_n rfl rfl ?_
              refine v_sip rfl (by decide) ?_
              by_cases h_1053 : v + 1 ≥ 150
              · refine v_ic_ge_t (t := 59) rfl (by decide) ⟨by decide, h_1053, by first | exact rgp_h hv.2 (by decide) | omega⟩ ?_
                refine q_vret rfl rfl ?_
                intro hE_1054
                have hW : Wd P Q P P c_962 = Wd P Q P P m9 := (Prod.mk.inj (Prod.mk.inj hE_1054).2).1
                have h_1055 := ir_1_4 hJ9
                have h_1056 : m9 1 4 = c_962 1 4 := wd_fv (z := 4) 4 rfl hW rfl rfl rfl rfl (by decide) rfl ⟨(Int.le_trans (by decide) h_968.1), (Int.le_trans h_968.2 (by decide))⟩ ⟨(Int.le_trans (by decide) h_1055.1), (Int.le_trans h_1055.2 (by decide))⟩
                have h_1057 := ir_1_2 hI_963
                have h_1058 := ir_1_2 hJ9
                have h_1059 : m9 1 2 = c_962 1 2 := wd_fv (z := 2) 2 rfl hW rfl rfl rfl rfl (by decide) rfl ⟨(Int.le_trans (by decide) h_1057.1), (Int.le_trans h_1057.2 (by decide))⟩ ⟨(Int.le_trans (by decide) h_1058.1), (Int.le_trans h_1058.2 (by decide))⟩
                have h_1060 := ir_1_5 hI_963
                have h_1061 := ir_1_5 hJ9
                have h_1062 : m9 1 5 = c_962 1 5 := wd_fv (z := 5) 5 rfl hW rfl rfl rfl rfl (by decide) rfl ⟨(Int.le_trans (by decide) h_1060.1), (Int.le_trans h_1060.2 (by decide))⟩ ⟨(Int.le_trans (by decide) h_1061.1), (Int.le_trans h_1061.2 (by decide))⟩
                have h_1063 := ir_p7_5 hJ9 hA
                have h_1064 : m9 (A + 7) 5 = c_962 (A + 7) 5 := wd_fv (z := 5) 5 rfl hW (ck_p7 hA) (ck_p7 hA) rfl rfl (by omega) rfl ⟨(Int.le_trans (by decide) h_966.1), (Int.le_trans h_966.2 (by decide))⟩ ⟨(Int.le_trans (by decide) h_1063.1), (Int.le_trans h_1063.2 (by decide))⟩
                refine q_aload_n rfl rfl ?_
                refine v_cv rfl rfl rfl rfl (by decide) ⟨⟨rfl, rfl⟩, by decide, rfl⟩ (Nat.le_of_ble_eq_true rfl) (Nat.le_of_ble_eq_true rfl) ?_
                refine q_aload_n rfl rfl ?_
                refine v_gi (z := 5) (v := (-1)) rfl rfl rfl (by decide) rfl rfl (hc_1) ?_
                refine q_iconst rfl ?_
                refine v_ic_ne_f (t := 12) rfl (by decide) (by decide) ?_
                refine q_iconst rfl ?_
                refine q_goto (t := 13) rfl (by decide) ?_
                refine v_zret rfl rfl (by decide) ?_
                refine bk_inl ?_
                refine v_if_eq_f (t := 90) rfl (by decide) (by decide) ?_
                refine q_aload_n rfl rfl ?_
                have kn_1065 : Hid (c2 41 3 = e1) := (hFc 41 3 (fun q => q.elim (fun h => absurd h.2 (ni rfl)) (fun q => q.elim (fun h => absurd h.2 (ni rfl)) (fun q => q.elim (fun h => absurd h.2 (ni rfl)) (fun q => q.elim (fun h => absurd h.2 (ni rfl)) (fun q => q.elim (fun h => absurd h.2 (ni rfl)) (fun q => q.elim (fun h => absurd h (nn rfl)) (fun h => absurd h (nn rfl))))))))).trans (hr_e1)
                have h_1066 : -2147483648 ≤ (H (nx F e1 a)) ∧ (H (nx F e1 a)) ≤ 2147483647 := by rw [← hH (nx F e1 a)]; exact ir_43 hI (nx F e1 a)
                have h_1067 := hU (nx F e1 a) (by omega) (by omega)
                have h_1068 := hb_or (b := H) (e := e1) (r := (nx F e1 a))
                have h_1069 := hb_bd (b := H) (e := e1) (r := (nx F e1 a)) (lo := -2147483648) (hi := 2147483647) h_1066 (by decide)
                refine v_cv rfl rfl rfl rfl (by decide) ⟨⟨rfl, rfl⟩, by decide, rfl⟩ (Nat.le_of_ble_eq_true rfl) (Nat.le_of_ble_eq_true rfl) (f_154 (e1 := e1) (a9 := a) (B := H) (r8 := (nx F e1 a)) (r := (hb H e1 (nx F e1 a))) hI2 ((hid kn_1065)) ((hr_a)) (fun j => (hFc 43 j (fun q => q.elim (fun h => absurd h.1 (nn rfl)) (fun q => q.elim (fun h => absurd h.1 (nn rfl)) (fun q => q.elim (fun h => absurd h.1 (nn rfl)) (fun q => q.elim (fun h => absurd h.1 (nn rfl)) (fun q => q.elim (fun h => absurd h.1 (nn rfl)) (fun q => q.elim (fun h => absurd h (nn rfl)) (fun h => absurd h (nn rfl))))))))).trans (hH j)) ((nx_tr hU (by first | (clear ha2 hq0 hq1 hq2 hq3 hq4 hq5 h_1 h_2 h_3 h_4 h_5 h_6 h_7 h_8 h_9 h_10 h_11 h_12 h_13 h_14 h_15 h_69 h_70 h_71 h_86 h_966 h_967 h_968 h_1055 h_1056 h_1057 h_1058 h_1059 h_1060 h_1061 h_1062 h_1063 h_1064 h_72; omega) | omega) (by first | (clear ha2 hq0 hq1 hq2 hq3 hq4 h_1 h_2 h_3 h_4 h_5 h_6 h_7 h_8 h_9 h_10 h_11 h_12 h_13 h_14 h_15 h_16 h_69 h_70 h_71 h_86 h_966 h_967 h_968 h_1053 h_1055 h_1056 h_1057 h_1058 h_1059 h_1060 h_1061 h_1062 h_1063 h_1064 h_72; omega) | omega)).trans (rfl)) rfl (fun c_1070 hI_1071 hF_1072 h_1073 => ?_))
                refine bk_inl ?_
                refine v_bip rfl (by decide) ?_
                refine v_ic_eq_f (t := 38) rfl (by decide) ⟨by first | (clear ha2 hq0 hq1 hq2 hq3 h_3 h_4 h_5 h_6 h_7 h_8 h_9 h_10 h_11 h_12 h_13 h_14 h_15 h_69 h_71 h_966 h_967 h_968 h_1053 h_1055 h_1056 h_1057 h_1058 h_1059 h_1060 h_1061 h_1062 h_1063 h_1064; omega) | omega, ⟨h_1069.1, h_1069.2⟩, by decide, by decide⟩ ?_
                refine q_aload_n rfl rfl ?_
                have kn_1074 : Hid (c_1070 41 3 = e1) := (hF_1072 41 3 (fun h => absurd h.2 (ni rfl))).trans (hid kn_1065)
                refine v_cv rfl rfl rfl rfl (by decide) ⟨⟨rfl, rfl⟩, by decide, rfl⟩ (Nat.le_of_ble_eq_true rfl) (Nat.le_of_ble_eq_true rfl) (f_154 (e1 := e1) (a9 := (nx F e1 a)) (B := H) (r8 := (nx F e1 a)) (r := (hb H e1 (nx F e1 a))) hI_1071 ((hid kn_1074)) ((h_1073)) (fun j => ((hF_1072 43 j (fun h => absurd h.1 (nn rfl))).trans (hFc 43 j (fun q => q.elim (fun h => absurd h.1 (nn rfl)) (fun q => q.elim (fun h => absurd h.1 (nn rfl)) (fun q => q.elim (fun h => absurd h.1 (nn rfl)) (fun q => q.elim (fun h => absurd h.1 (nn rfl)) (fun q => q.elim (fun h => absurd h.1 (nn rfl)) (fun q => q.elim (fun h => absurd h (nn rfl)) (fun h => absurd h (nn rfl)))))))))).trans (hH j)) ((nx_tr hU (by first | (clear ha2 hq0 hq1 hq2 hq3 hq4 hq5 h_1 h_2 h_3 h_4 h_5 h_6 h_7 h_8 h_9 h_10 h_11 h_12 h_13 h_14 h_15 h_69 h_71 h_86 h_966 h_967 h_968 h_1055 h_1056 h_1057 h_1058 h_1059 h_1060 h_1061 h_1062 h_1063 h_1064 h_1066 h_1067 h_1069 h_72 h_1068; omega) | omega) (by first | (clear ha2 hq0 hq1 hq2 hq3 hq4 h_1 h_2 h_3 h_4 h_5 h_6 h_7 h_8 h_9 h_10 h_11 h_12 h_13 h_14 h_15 h_16 h_69 h_70 h_71 h_86 h_966 h_967 h_968 h_1053 h_1055 h_1056 h_1057 h_1058 h_1059 h_1060 h_1061 h_1062 h_1063 h_1064 h_1066 h_1067 h_1069 h_72 h_1068; omega) | omega)).trans ((nx_z (by omega)))) rfl (fun c_1075 hI_1076 hF_1077 h_1078 => ?_))
                refine bk_inl ?_
                refine v_bip rfl (by decide) ?_
                refine v_ic_eq_f (t := 38) rfl (by decide) ⟨by first | (clear ha2 hq0 hq1 hq2 hq3 h_3 h_4 h_5 h_6 h_7 h_8 h_9 h_10 h_11 h_12 h_13 h_14 h_15 h_69 h_71 h_966 h_967 h_968 h_1053 h_1055 h_1056 h_1057 h_1058 h_1059 h_1060 h_1061 h_1062 h_1063 h_1064; omega) | omega, ⟨h_1069.1, h_1069.2⟩, by decide, by decide⟩ ?_
                refine q_aload_n rfl rfl ?_
                have kn_1079 : Hid (c_1075 41 3 = e1) := (hF_1077 41 3 (fun h => absurd h.2 (ni rfl))).trans (hid kn_1074)
                refine v_cv rfl rfl rfl rfl (by decide) ⟨⟨rfl, rfl⟩, by decide, rfl⟩ (Nat.le_of_ble_eq_true rfl) (Nat.le_of_ble_eq_true rfl) (f_154 (e1 := e1) (a9 := (nx F e1 a)) (B := H) (r8 := (nx F e1 a)) (r := (hb H e1 (nx F e1 a))) hI_1076 ((hid kn_1079)) ((h_1078)) (fun j => ((hF_1077 43 j (fun h => absurd h.1 (nn rfl))).trans ((hF_1072 43 j (fun h => absurd h.1 (nn rfl))).trans (hFc 43 j (fun q => q.elim (fun h => absurd h.1 (nn rfl)) (fun q => q.elim (fun h => absurd h.1 (nn rfl)) (fun q => q.elim (fun h => absurd h.1 (nn rfl)) (fun q => q.elim (fun h => absurd h.1 (nn rfl)) (fun q => q.elim (fun h => absurd h.1 (nn rfl)) (fun q => q.elim (fun h => absurd h (nn rfl)) (fun h => absurd h (nn rfl))))))))))).trans (hH j)) ((nx_tr hU (by first | (clear ha2 hq0 hq1 hq2 hq3 hq4 hq5 h_1 h_2 h_3 h_4 h_5 h_6 h_7 h_8 h_9 h_10 h_11 h_12 h_13 h_14 h_15 h_69 h_71 h_86 h_966 h_967 h_968 h_1055 h_1056 h_1057 h_1058 h_1059 h_1060 h_1061 h_1062 h_1063 h_1064 h_1066 h_1067 h_1069 h_72 h_1068; omega) | omega) (by first | (clear ha2 hq0 hq1 hq2 hq3 hq4 h_1 h_2 h_3 h_4 h_5 h_6 h_7 h_8 h_9 h_10 h_11 h_12 h_13 h_14 h_15 h_16 h_69 h_70 h_71 h_86 h_966 h_967 h_968 h_1053 h_1055 h_1056 h_1057 h_1058 h_1059 h_1060 h_1061 h_1062 h_1063 h_1064 h_1066 h_1067 h_1069 h_72 h_1068; omega) | omega)).trans ((nx_z (by omega)))) rfl (fun c_1080 hI_1081 hF_1082 h_1083 => ?_))
                refine bk_inl ?_
                refine v_bip rfl (by decide) ?_
                refine v_ic_ne_f (t := 90) rfl (by decide) (by first | (clear ha2 hq0 hq1 hq2 hq3 h_3 h_4 h_5 h_6 h_7 h_8 h_9 h_10 h_11 h_12 h_13 h_14 h_15 h_69 h_71 h_966 h_967 h_968 h_1053 h_1055 h_1056 h_1057 h_1058 h_1059 h_1060 h_1061 h_1062 h_1063 h_1064; omega) | omega) ?_
                refine q_aload_n rfl rfl ?_
                have kn_1084 : Hid (c_1080 41 3 = e1) := (hF_1082 41 3 (fun h => absurd h.2 (ni rfl))).trans (hid kn_1079)
                refine v_cv rfl rfl rfl rfl (by decide) ⟨⟨rfl, rfl⟩, by decide, rfl⟩ (Nat.le_of_ble_eq_true rfl) (Nat.le_of_ble_eq_true rfl) (f_154 (e1 := e1) (a9 := (nx F e1 a)) (B := H) (r8 := (nx F e1 a)) (r := (hb H e1 (nx F e1 a))) hI_1081 ((hid kn_1084)) ((h_1083)) (fun j => ((hF_1082 43 j (fun h => absurd h.1 (nn rfl))).trans ((hF_1077 43 j (fun h => absurd h.1 (nn rfl))).trans ((hF_1072 43 j (fun h => absurd h.1 (nn rfl))).trans (hFc 43 j (fun q => q.elim (fun h => absurd h.1 (nn rfl)) (fun q => q.elim (fun h => absurd h.1 (nn rfl)) (fun q => q.elim (fun h => absurd h.1 (nn rfl)) (fun q => q.elim (fun h => absurd h.1 (nn rfl)) (fun q => q.elim (fun h => absurd h.1 (nn rfl)) (fun q => q.elim (fun h => absurd h (nn rfl)) (fun h => absurd h (nn rfl)))))))))))).trans (hH j)) ((nx_tr hU (by first | (clear ha2 hq0 hq1 hq2 hq3 hq4 hq5 h_1 h_2 h_3 h_4 h_5 h_6 h_7 h_8 h_9 h_10 h_11 h_12 h_13 h_14 h_15 h_69 h_71 h_86 h_966 h_967 h_968 h_1055 h_1056 h_1057 h_1058 h_1059 h_1060 h_1061 h_1062 h_1063 h_1064 h_1066 h_1067 h_1069 h_72 h_1068; omega) | omega) (by first | (clear ha2 hq0 hq1 hq2 hq3 hq4 h_1 h_2 h_3 h_4 h_5 h_6 h_7 h_8 h_9 h_10 h_11 h_12 h_13 h_14 h_15 h_16 h_69 h_70 h_71 h_86 h_966 h_967 h_968 h_1053 h_1055 h_1056 h_1057 h_1058 h_1059 h_1060 h_1061 h_1062 h_1063 h_1064 h_1066 h_1067 h_1069 h_72 h_1068; omega) | omega)).trans ((nx_z (by omega)))) rfl (fun c_1085 hI_1086 hF_1087 h_1088 => ?_))
                refine bk_inl ?_
                refine v_bip rfl (by decide) ?_
                refine v_ic_ne_t (t := 51) rfl (by decide) ⟨by first | (clear ha2 hq0 hq1 hq2 hq3 h_3 h_4 h_5 h_6 h_7 h_8 h_9 h_10 h_11 h_12 h_13 h_14 h_15 h_69 h_71 h_966 h_967 h_968 h_1053 h_1055 h_1056 h_1057 h_1058 h_1059 h_1060 h_1061 h_1062 h_1063 h_1064; omega) | omega, ⟨h_1069.1, h_1069.2⟩, by decide, by decide⟩ ?_
                refine q_aload_n rfl rfl ?_
                have kn_1089 : Hid (c_1085 41 3 = e1) := (hF_1087 41 3 (fun h => absurd h.2 (ni rfl))).trans (hid kn_1084)
                refine v_cv rfl rfl rfl rfl (by decide) ⟨⟨rfl, rfl⟩, by decide, rfl⟩ (Nat.le_of_ble_eq_true rfl) (Nat.le_of_ble_eq_true rfl) (f_154 (e1 := e1) (a9 := (nx F e1 a)) (B := H) (r8 := (nx F e1 a)) (r := (hb H e1 (nx F e1 a))) hI_1086 ((hid kn_1089)) ((h_1088)) (fun j => ((hF_1087 43 j (fun h => absurd h.1 (nn rfl))).trans ((hF_1082 43 j (fun h => absurd h.1 (nn rfl))).trans ((hF_1077 43 j (fun h => absurd h.1 (nn rfl))).trans ((hF_1072 43 j (fun h => absurd h.1 (nn rfl))).trans (hFc 43 j (fun q => q.elim (fun h => absurd h.1 (nn rfl)) (fun q => q.elim (fun h => absurd h.1 (nn rfl)) (fun q => q.elim (fun h => absurd h.1 (nn rfl)) (fun q => q.elim (fun h => absurd h.1 (nn rfl)) (fun q => q.elim (fun h => absurd h.1 (nn rfl)) (fun q => q.elim (fun h => absurd h (nn rfl)) (fun h => absurd h (nn rfl))))))))))))).trans (hH j)) ((nx_tr hU (by first | (clear ha2 hq0 hq1 hq2 hq3 hq4 hq5 h_1 h_2 h_3 h_4 h_5 h_6 h_7 h_8 h_9 h_10 h_11 h_12 h_13 h_14 h_15 h_69 h_71 h_86 h_966 h_967 h_968 h_1055 h_1056 h_1057 h_1058 h_1059 h_1060 h_1061 h_1062 h_1063 h_1064 h_1066 h_1067 h_1069 h_72 h_1068; omega) | omega) (by first | (clear ha2 hq0 hq1 hq2 hq3 hq4 h_1 h_2 h_3 h_4 h_5 h_6 h_7 h_8 h_9 h_10 h_11 h_12 h_13 h_14 h_15 h_16 h_69 h_70 h_71 h_86 h_966 h_967 h_968 h_1053 h_1055 h_1056 h_1057 h_1058 h_1059 h_1060 h_1061 h_1062 h_1063 h_1064 h_1066 h_1067 h_1069 h_72 h_1068; omega) | omega)).trans ((nx_z (by omega)))) rfl (fun c_1090 hI_1091 hF_1092 h_1093 => ?_))
                refine bk_inl ?_
                refine v_bip rfl (by decide) ?_
                refine v_ic_ne_t (t := 64) rfl (by decide) ⟨by first | (clear ha2 hq0 hq1 hq2 hq3 h_3 h_4 h_5 h_6 h_7 h_8 h_9 h_10 h_11 h_12 h_13 h_14 h_15 h_69 h_71 h_966 h_967 h_968 h_1053 h_1055 h_1056 h_1057 h_1058 h_1059 h_1060 h_1061 h_1062 h_1063 h_1064; omega) | omega, ⟨h_1069.1, h_1069.2⟩, by decide, by decide⟩ ?_
                refine v_bip rfl (by decide) ?_
                refine q_istore_n rfl (by decide) ?_
                refine q_aload_n rfl rfl ?_
                refine q_dup rfl rfl ?_
                refine v_gi (z := 4) (v := (nx F e1 a)) rfl rfl rfl (by decide) rfl rfl (h_1093) ?_
                refine q_iconst rfl ?_
                refine v_iadd (v := (nx F e1 a) + 1) rfl rfl ?_
                refine v_pi (z := 4) rfl rfl rfl (by decide) rfl rfl rfl (by decide) ?_
                refine q_aload_n rfl rfl ?_
                have kn_1094 : Hid (c_1070 41 5 = (-1)) := (hF_1072 41 5 (fun h => absurd h.2 (ni rfl))).trans (hc_1)
                have kn_1095 : Hid (c_1075 41 5 = (-1)) := (hF_1077 41 5 (fun h => absurd h.2 (ni rfl))).trans (hid kn_1094)
                have kn_1096 : Hid (c_1080 41 5 = (-1)) := (hF_1082 41 5 (fun h => absurd h.2 (ni rfl))).trans (hid kn_1095)
                have kn_1097 : Hid (c_1085 41 5 = (-1)) := (hF_1087 41 5 (fun h => absurd h.2 (ni rfl))).trans (hid kn_1096)
                have kn_1098 : Hid (c_1090 41 5 = (-1)) := (hF_1092 41 5 (fun h => absurd h.2 (ni rfl))).trans (hid kn_1097)
                have hI_1099 := iw_41_4 (v := (nx F e1 a) + 1) hI_1091 ⟨by first | exact rgp_l (rg_be h_70 (ha.1) ((rg_eq hg_e1 h_1).2)).1 (by decide) | omega, by first | exact rgp_h (rg_be h_70 (ha.1) ((rg_eq hg_e1 h_1).2)).2 (by decide) | omega⟩
                have kn_1100 : Hid (c_83 1 1 = e1) := (hF_85 1 1 (fun h => absurd h.2 (ni rfl))).trans (hid kn_68)
                have kn_1101 : Hid (c_1090 41 3 = e1) := (hF_1092 41 3 (fun h => absurd h.2 (ni rfl))).trans (hid kn_1089)
                have kn_1102 : Hid (c_83 1 5 = (-1)) := (hF_85 1 5 (fun h => absurd h.2 (ni rfl))).trans (hc_2)
                have kn_1103 : Hid (c_83 (A + 7) 5 = nw) := (hF_85 (A + 7) 5 (fun h => absurd h.1 (np hA rfl rfl))).trans (hg_nw)
                have kn_1104 : Hid (c_1070 41 29 = nw) := (hF_1072 41 29 (fun h => absurd h.2 (ni rfl))).trans (hr_nw)
                have kn_1105 : Hid (c_1075 41 29 = nw) := (hF_1077 41 29 (fun h => absurd h.2 (ni rfl))).trans (hid kn_1104)
                have kn_1106 : Hid (c_1080 41 29 = nw) := (hF_1082 41 29 (fun h => absurd h.2 (ni rfl))).trans (hid kn_1105)
                have kn_1107 : Hid (c_1085 41 29 = nw) := (hF_1087 41 29 (fun h => absurd h.2 (ni rfl))).trans (hid kn_1106)
                have kn_1108 : Hid (c_1090 41 29 = nw) := (hF_1092 41 29 (fun h => absurd h.2 (ni rfl))).trans (hid kn_1107)
                have kn_1109 : Hid (c_1070 41 7 = a2) := (hF_1072 41 7 (fun h => absurd h.2 (ni rfl))).trans (hc_3)
                have kn_1110 : Hid (c_1075 41 7 = a2) := (hF_1077 41 7 (fun h => absurd h.2 (ni rfl))).trans (hid kn_1109)
                have kn_1111 : Hid (c_1080 41 7 = a2) := (hF_1082 41 7 (fun h => absurd h.2 (ni rfl))).trans (hid kn_1110)
                have kn_1112 : Hid (c_1085 41 7 = a2) := (hF_1087 41 7 (fun h => absurd h.2 (ni rfl))).trans (hid kn_1111)
                have kn_1113 : Hid (c_1090 41 7 = a2) := (hF_1092 41 7 (fun h => absurd h.2 (ni rfl))).trans (hid kn_1112)
                have h_1114 : c_83 1 4 = 0 := (hid kn_961)
                have h_1115 : c_83 1 2 = (nx F e1 a) + 1 := (hz_87)
                have h_1116 : c_83 1 5 = (-1) := (hid kn_1102)
                have h_1117 : (up c_1090 41 4 ((nx F e1 a) + 1)) 41 5 = (-1) := ((up_n (by decide)).trans (hid kn_1098))
                have h_1118 : (up c_1090 41 4 ((nx F e1 a) + 1)) 41 4 = (nx F e1 a) + 1 := (up_e rfl)
                have h_1119 := ir_41_6 hI2
                have kn_1120 : Hid (c_1070 41 6 = c2 41 6) := hF_1072 41 6 (fun h => absurd h.2 (ni rfl))
                have kn_1121 : Hid (c_1075 41 6 = c2 41 6) := (hF_1077 41 6 (fun h => absurd h.2 (ni rfl))).trans (hid kn_1120)
                have kn_1122 : Hid (c_1080 41 6 = c2 41 6) := (hF_1082 41 6 (fun h => absurd h.2 (ni rfl))).trans (hid kn_1121)
                have kn_1123 : Hid (c_1085 41 6 = c2 41 6) := (hF_1087 41 6 (fun h => absurd h.2 (ni rfl))).trans (hid kn_1122)
                have kn_1124 : Hid (c_1090 41 6 = c2 41 6) := (hF_1092 41 6 (fun h => absurd h.2 (ni rfl))).trans (hid kn_1123)
                have h_1125 : (up c_1090 41 4 ((nx F e1 a) + 1)) 41 6 = c2 41 6 := ((up_n (by decide)).trans (hid kn_1124))
                have hA_1126 : Ce nw (c_83 (A + 9)) ((up c_1090 41 4 ((nx F e1 a) + 1)) 50) ((up c_1090 41 4 ((nx F e1 a) + 1)) 51) := ce_fr hrl0 (fun j => hF_85 (A + 9) j (fun h => absurd h.1 (np hA rfl rfl))) (fun j => (up_c (nn rfl)).trans ((hF_1092 50 j (fun h => absurd h.1 (nn rfl))).trans ((hF_1087 50 j (fun h => absurd h.1 (nn rfl))).trans ((hF_1082 50 j (fun h => absurd h.1 (nn rfl))).trans ((hF_1077 50 j (fun h => absurd h.1 (nn rfl))).trans (hF_1072 50 j (fun h => absurd h.1 (nn rfl)))))))) (fun j => (up_c (nn rfl)).trans ((hF_1092 51 j (fun h => absurd h.1 (nn rfl))).trans ((hF_1087 51 j (fun h => absurd h.1 (nn rfl))).trans ((hF_1082 51 j (fun h => absurd h.1 (nn rfl))).trans ((hF_1077 51 j (fun h => absurd h.1 (nn rfl))).trans (hF_1072 51 j (fun h => absurd h.1 (nn rfl))))))))
                refine v_cv rfl rfl rfl rfl (by decide) ⟨⟨rfl, rfl⟩, by decide, rfl⟩ (Nat.le_of_ble_eq_true rfl) (Nat.le_of_ble_eq_true rfl) (L_14 (m := c_83) (a2 := a2) (e1 := e1) (f0 := 0) (g0 := (-1)) (p0 := (nx F e1 a) + 1) (n0 := nw) (o0 := a2) (F := F) (H := H) hI_1099 hI_84 hI_963 hA (show 0 ≤ a2 ∧ a2 ≤ 6 from ha2) (by first | (clear ha2 hq0 hq1 hq2 hq3 hq4 hq5 h_1 h_2 h_3 h_4 h_5 h_6 h_7 h_8 h_9 h_10 h_11 h_12 h_13 h_14 h_15 h_16 h_69 h_70 h_71 h_86 h_966 h_967 h_968 h_1053 h_1055 h_1056 h_1057 h_1058 h_1059 h_1060 h_1061 h_1062 h_1063 h_1064 h_1066 h_1067 h_1069 h_72 h_1068; omega) | omega) (by first | (clear ha2 hq0 hq1 hq2 hq3 hq4 hq5 h_1 h_2 h_3 h_4 h_5 h_6 h_7 h_8 h_9 h_10 h_11 h_12 h_13 h_14 h_15 h_16 h_69 h_70 h_71 h_86 h_966 h_967 h_968 h_1053 h_1055 h_1056 h_1057 h_1058 h_1059 h_1060 h_1061 h_1062 h_1063 h_1064 h_1066 h_1067 h_1069 h_72 h_1068; omega) | omega) (by first | (clear ha2 hq0 hq1 hq2 hq3 hq4 hq5 h_1 h_2 h_3 h_4 h_5 h_6 h_7 h_8 h_9 h_10 h_11 h_12 h_13 h_14 h_15 h_16 h_69 h_70 h_71 h_86 h_966 h_967 h_968 h_1053 h_1055 h_1056 h_1057 h_1058 h_1059 h_1060 h_1061 h_1062 h_1063 h_1064 h_1066 h_1067 h_1069 h_72 h_1068; omega) | omega) (by first | (clear ha2 hq0 hq1 hq2 hq4 hq5 h_1 h_2 h_3 h_4 h_5 h_6 h_7 h_8 h_9 h_10 h_11 h_12 h_13 h_14 h_15 h_69 h_71 h_86 h_966 h_967 h_968 h_1053 h_1055 h_1056 h_1057 h_1058 h_1059 h_1060 h_1061 h_1062 h_1063 h_1064 h_1066 h_1067 h_1069 h_72 h_1068; omega) | omega) (by first | (clear ha2 hq0 hq1 hq2 hq3 hq4 hq5 h_1 h_2 h_3 h_4 h_5 h_6 h_7 h_8 h_9 h_10 h_11 h_12 h_13 h_14 h_15 h_16 h_69 h_70 h_71 h_966 h_967 h_968 h_1053 h_1055 h_1056 h_1057 h_1058 h_1059 h_1060 h_1061 h_1062 h_1063 h_1064 h_1066 h_1067 h_1069 h_72 h_1068; omega) | omega) (by first | (clear ha2 hq0 hq1 hq2 hq3 hq4 h_1 h_2 h_3 h_4 h_5 h_6 h_7 h_8 h_9 h_10 h_11 h_12 h_13 h_14 h_15 h_16 h_69 h_70 h_71 h_86 h_966 h_967 h_968 h_1053 h_1055 h_1056 h_1057 h_1058 h_1059 h_1060 h_1061 h_1062 h_1063 h_1064 h_1066 h_1067 h_1069 h_72 h_1068; omega) | omega) ((hid kn_1100)) (((up_n (by decide)).trans (hid kn_1101))) ((hid kn_961)) ((hid kn_1102)) ((hz_87)) ((hid kn_1103)) (((up_n (by decide)).trans (hid kn_1108))) (((up_n (by decide)).trans (hid kn_1113))) (fun j => ((hF_85 2 j (fun h => absurd h.1 (nn rfl))).trans (hFm 2 j (fun q => q.elim (fun h => absurd h.1 (nn rfl)) (fun q => q.elim (fun h => absurd h.1 (nn rfl)) (fun q => q.elim (fun h => absurd h.1 (nn rfl)) (fun q => q.elim (fun h => absurd h.1 (pn hA rfl rfl)) (fun h => absurd h (pn hA rfl rfl)))))))).trans (hF j)) (fun j => ((up_c (nn rfl)).trans ((hF_1092 43 j (fun h => absurd h.1 (nn rfl))).trans ((hF_1087 43 j (fun h => absurd h.1 (nn rfl))).trans ((hF_1082 43 j (fun h => absurd h.1 (nn rfl))).trans ((hF_1077 43 j (fun h => absurd h.1 (nn rfl))).trans ((hF_1072 43 j (fun h => absurd h.1 (nn rfl))).trans (hFc 43 j (fun q => q.elim (fun h => absurd h.1 (nn rfl)) (fun q => q.elim (fun h => absurd h.1 (nn rfl)) (fun q => q.elim (fun h => absurd h.1 (nn rfl)) (fun q => q.elim (fun h => absurd h.1 (nn rfl)) (fun q => q.elim (fun h => absurd h.1 (nn rfl)) (fun q => q.elim (fun h => absurd h (nn rfl)) (fun h => absurd h (nn rfl))))))))))))))).trans (hH j)) hU (rt_i1 ⟨by first | (clear ha2 hq0 hq1 hq2 hq3 hq4 hq5 h_1 h_2 h_3 h_4 h_5 h_6 h_7 h_8 h_9 h_10 h_11 h_12 h_13 h_14 h_15 h_16 h_69 h_70 h_71 h_86 h_966 h_967 h_968 h_1053 h_1055 h_1056 h_1057 h_1058 h_1059 h_1060 h_1061 h_1062 h_1063 h_1064 h_1066 h_1067 h_1069 h_1119 h_72 h_1068; omega) | omega, by first | (clear ha2 hq0 hq1 hq2 hq3 hq4 hq5 h_1 h_2 h_3 h_4 h_5 h_6 h_7 h_8 h_9 h_10 h_11 h_12 h_13 h_14 h_15 h_16 h_69 h_70 h_71 h_86 h_966 h_967 h_968 h_1053 h_1055 h_1056 h_1057 h_1058 h_1059 h_1060 h_1061 h_1062 h_1063 h_1064 h_1066 h_1067 h_1069 h_1119 h_72 h_1068; omega) | omega, by first | (clear ha2 hq0 hq1 hq2 hq3 hq4 hq5 h_1 h_2 h_3 h_4 h_5 h_6 h_7 h_8 h_9 h_10 h_11 h_12 h_13 h_14 h_15 h_16 h_69 h_70 h_71 h_86 h_966 h_967 h_968 h_1053 h_1055 h_1056 h_1057 h_1058 h_1059 h_1060 h_1061 h_1062 h_1063 h_1064 h_1066 h_1067 h_1069 h_1119 h_72 h_1068; omega) | omega, by first | (clear ha2 hq0 hq1 hq2 hq3 hq4 hq5 h_1 h_2 h_3 h_4 h_5 h_6 h_7 h_8 h_9 h_10 h_11 h_12 h_13 h_14 h_15 h_16 h_69 h_70 h_71 h_86 h_966 h_967 h_968 h_1053 h_1055 h_1056 h_1057 h_1058 h_1059 h_1060 h_1061 h_1062 h_1063 h_1064 h_1066 h_1067 h_1069 h_1119 h_72 h_1068; omega) | omega⟩) (ce_le hA_1126 (by omega)) H13 hG_965 (fun c_1127 hI_1128 hF_1129 hR_1131 h_1132 h_1133 hA_1134 => ?_))
                refine bk_inl ?_
                have h_1135 := ir_41_29 hI_1128
                have h_1136 := ir_41_7 hI_1128
                refine q_aload_n rfl rfl ?_
                refine q_iload_n rfl rfl ?_
                refine q_iconst rfl ?_
                refine v_cv rfl rfl rfl rfl (by decide) ⟨⟨rfl, rfl⟩, by decide, rfl⟩ (Nat.le_of_ble_eq_true rfl) (Nat.le_of_ble_eq_true rfl) ?_
                refine q_aload_n rfl rfl ?_
                refine v_cv rfl rfl rfl rfl (by decide) ⟨⟨rfl, rfl⟩, by decide, rfl⟩ (Nat.le_of_ble_eq_true rfl) (Nat.le_of_ble_eq_true rfl) ?_
                refine q_aload_n rfl rfl ?_
                have h_1137 := ir_41_5 hI_1128
                have h_1138 := ir_41_4 hI_1128
                have h_1139 := ir_41_6 hI_1128
                have h_1140 := rt_bad hR_1131 (by omega)
                have hrb_hR_1131 := rt_bad hR_1131 (by omega)
                refine v_gi (z := 5) (v := c_962 1 5) rfl rfl rfl (by decide) rfl rfl hrb_hR_1131.2.1 ?_
                refine q_iconst rfl ?_
                refine v_ic_ne_t (t := 12) rfl (by decide) ⟨by first | (clear ha2 hq0 hq1 hq2 hq3 hq4 hq5 h_1 h_2 h_3 h_4 h_5 h_6 h_7 h_8 h_9 h_10 h_11 h_12 h_13 h_14 h_15 h_16 h_69 h_70 h_71 h_86 h_966 h_967 h_968 h_1053 h_1055 h_1056 h_1057 h_1058 h_1059 h_1060 h_1061 h_1062 h_1063 h_1064 h_1066 h_1067 h_1069 h_1119 h_1135 h_1136 h_1133 h_1137 h_1138 h_1139 h_72 h_1068 h_1132; omega) | omega, ⟨(Int.le_trans (by decide) h_1060.1), (Int.le_trans h_1060.2 (by decide))⟩, by decide, by decide⟩ ?_
                refine q_iconst rfl ?_
                refine v_zret rfl rfl (by decide) ?_
                refine bk_inl ?_
                refine v_if_ne_f (t := 8) rfl (by decide) (by decide) ?_
                refine q_vret rfl rfl ?_
                refine bk_inl ?_
                refine q_goto (t := 4) rfl (by decide) ?_
                refine q_aload_n rfl rfl ?_
                refine v_cv rfl rfl rfl rfl (by decide) ⟨⟨rfl, rfl⟩, by decide, rfl⟩ (Nat.le_of_ble_eq_true rfl) (Nat.le_of_ble_eq_true rfl) ?_
                refine q_aload_n rfl rfl ?_
                refine v_gi (z := 5) (v := c_962 1 5) rfl rfl rfl (by decide) rfl rfl hrb_hR_1131.2.1 ?_
                refine q_iconst rfl ?_
                refine v_ic_ne_t (t := 12) rfl (by decide) ⟨by first | (clear ha2 hq0 hq1 hq2 hq3 hq4 hq5 h_1 h_2 h_3 h_4 h_5 h_6 h_7 h_8 h_9 h_10 h_11 h_12 h_13 h_14 h_15 h_16 h_69 h_70 h_71 h_86 h_966 h_967 h_968 h_1053 h_1055 h_1056 h_1057 h_1058 h_1059 h_1060 h_1061 h_1062 h_1063 h_1064 h_1066 h_1067 h_1069 h_1119 h_1135 h_1136 h_1133 h_1137 h_1138 h_1139 h_72 h_1068 h_1132; omega) | omega, ⟨(Int.le_trans (by decide) h_1060.1), (Int.le_trans h_1060.2 (by decide))⟩, by decide, by decide⟩ ?_
                refine q_iconst rfl ?_
                refine v_zret rfl rfl (by decide) ?_
                refine bk_inl ?_
                refine v_if_eq_t (t := 90) rfl (by decide) (by decide) ?_
                refine q_vret rfl rfl ?_
                have h_1141 : c_1127 41 5 = c_962 1 5 := hrb_hR_1131.2.1
                have h_1142 : c_1127 41 6 = c_962 1 4 := hrb_hR_1131.2.2.2
                exact K c_1127  hI_1128 (fun a j hm => (hF_1129 a j (fun q => q.elim (fun h => hm (Or.inl h)) (fun q => q.elim (fun h => hm (Or.inr (Or.inl h))) (fun q => q.elim (fun h => hm (Or.inr (Or.inr (Or.inl h)))) (fun q => q.elim (fun h => hm (Or.inr (Or.inr (Or.inr (Or.inl h))))) (fun q => q.elim (fun h => hm (Or.inr (Or.inr (Or.inr (Or.inr (Or.inl h)))))) (fun q => q.elim (fun h => hm (Or.inr (Or.inr (Or.inr (Or.inr (Or.inr (Or.inl h))))))) (fun h => hm (Or.inr (Or.inr (Or.inr (Or.inr (Or.inr (Or.inr h)))))))))))))).trans ((up_b (Decidable.or_iff_not_imp_left.mpr (fun h1 h2 => hm (Or.inl ⟨Decidable.not_not.mp h1, h2⟩)))).trans ((hF_1092 a j (fun h => hm (Or.inl h))).trans ((hF_1087 a j (fun h => hm (Or.inl h))).trans ((hF_1082 a j (fun h => hm (Or.inl h))).trans ((hF_1077 a j (fun h => hm (Or.inl h))).trans ((hF_1072 a j (fun h => hm (Or.inl h))).trans (hFc a j (fun q => q.elim (fun h => hm (Or.inl h)) (fun q => q.elim (fun h => hm (Or.inr (Or.inl h))) (fun q => q.elim (fun h => hm (Or.inr (Or.inr (Or.inl h)))) (fun q => q.elim (fun h => hm (Or.inr (Or.inr (Or.inr (Or.inl h))))) (fun q => q.elim (fun h => hm (Or.inr (Or.inr (Or.inr (Or.inr (Or.inl h)))))) (fun q => q.elim (fun h => hm (Or.inr (Or.inr (Or.inr (Or.inr (Or.inr (Or.inl h))))))) (fun h => hm (Or.inr (Or.inr (Or.inr (Or.inr (Or.inr (Or.inr h))))))))))))))))))))) (rt_i2 ⟨⟨by first | (clear ha2 hq0 hq1 hq2 hq3 hq4 hq5 h_1 h_2 h_3 h_4 h_5 h_6 h_7 h_8 h_9 h_10 h_11 h_12 h_13 h_14 h_15 h_16 h_69 h_70 h_71 h_86 h_966 h_967 h_968 h_1053 h_1055 h_1057 h_1058 h_1059 h_1060 h_1061 h_1062 h_1063 h_1064 h_1066 h_1067 h_1069 h_1119 h_1135 h_1136 h_1133 h_1137 h_1138 h_1139 h_72 h_1068 h_1132; omega) | omega, by first | (clear ha2 hq0 hq1 hq2 hq3 hq4 hq5 h_1 h_2 h_3 h_4 h_5 h_6 h_7 h_8 h_9 h_10 h_11 h_12 h_13 h_14 h_15 h_16 h_69 h_70 h_71 h_86 h_966 h_967 h_968 h_1053 h_1056 h_1057 h_1058 h_1059 h_1060 h_1061 h_1062 h_1063 h_1064 h_1066 h_1067 h_1069 h_1119 h_1135 h_1136 h_1133 h_1137 h_1138 h_1139 h_1140 h_72 h_1068 h_1132; omega) | omega⟩, by first | (clear ha2 hq0 hq1 hq2 hq3 hq4 hq5 h_1 h_2 h_3 h_4 h_5 h_6 h_7 h_8 h_9 h_10 h_11 h_12 h_13 h_14 h_15 h_16 h_69 h_70 h_71 h_86 h_966 h_967 h_968 h_1053 h_1055 h_1056 h_1057 h_1058 h_1059 h_1060 h_1061 h_1063 h_1064 h_1066 h_1067 h_1069 h_1119 h_1135 h_1136 h_1133 h_1137 h_1138 h_1139 h_1140 h_72 h_1068 h_1132; omega) | omega, by first | (clear ha2 hq0 hq1 hq2 hq3 hq4 hq5 h_1 h_2 h_3 h_4 h_5 h_6 h_7 h_8 h_9 h_10 h_11 h_12 h_13 h_14 h_15 h_16 h_69 h_70 h_71 h_86 h_966 h_967 h_968 h_1053 h_1055 h_1056 h_1057 h_1058 h_1059 h_1060 h_1061 h_1063 h_1064 h_1066 h_1067 h_1069 h_1119 h_1135 h_1136 h_1133 h_1137 h_1138 h_1139 h_72 h_1068 h_1132; omega) | omega, by first | (clear ha2 hq0 hq1 hq2 hq3 hq4 hq5 h_1 h_2 h_3 h_4 h_5 h_6 h_7 h_8 h_9 h_10 h_11 h_12 h_13 h_14 h_15 h_16 h_69 h_70 h_71 h_86 h_966 h_967 h_968 h_1053 h_1055 h_1057 h_1058 h_1059 h_1060 h_1061 h_1062 h_1063 h_1064 h_1066 h_1067 h_1069 h_1119 h_1135 h_1136 h_1133 h_1137 h_1138 h_1139 h_1140 h_72 h_1068 h_1132; omega) | omega⟩) (Or.inr (Or.inl (by first | (clear ha2 hq0 hq1 hq2 hq3 hq4 hq5 h_1 h_2 h_3 h_4 h_5 h_6 h_7 h_8 h_9 h_10 h_11 h_12 h_13 h_14 h_15 h_16 h_69 h_70 h_71 h_86 h_966 h_967 h_968 h_1053 h_1055 h_1057 h_1058 h_1059 h_1060 h_1061 h_1062 h_1063 h_1064 h_1066 h_1067 h_1069 h_1119 h_1135 h_1136 h_1133 h_1137 h_1138 h_1139 h_72 h_1068 h_1132; omega) | omega))) (by first | (clear ha2 hq0 hq1 hq2 hq3 hq4 hq5 h_1 h_2 h_3 h_4 h_5 h_6 h_7 h_8 h_9 h_10 h_11 h_12 h_13 h_14 h_15 h_16 h_69 h_70 h_71 h_86 h_966 h_967 h_968 h_1053 h_1055 h_1056 h_1057 h_1058 h_1059 h_1060 h_1061 h_1062 h_1063 h_1064 h_1066 h_1067 h_1069 h_1119 h_1135 h_1136 h_1137 h_1138 h_1139 h_1140 h_72 h_1068 h_1132; omega) | omega) (fun hz => absurd hz (by omega))
              · refine v_ic_ge_f (t := 59) rfl (by decide) ⟨by first | exact rgp_l hv.1 (by decide) | omega, (Int.not_le.mp h_1053), by decide⟩ ?_
                refine q_aload_n rfl rfl ?_
                refine v_cv rfl rfl rfl rfl (by decide) ⟨⟨rfl, rfl⟩, by decide, rfl⟩ (Nat.le_of_ble_eq_true rfl) (Nat.le_of_ble_eq_true rfl) ?_
                refine q_aload_n rfl rfl ?_
                refine v_gi (z := 4) (v := c_962 1 4) rfl rfl rfl (by decide) rfl rfl rfl ?_
                refine v_if_ne_t (t := 11) rfl (by decide) ⟨by first | (clear ha2 hq0 hq1 hq2 hq3 hq4 hq5 h_1 h_2 h_3 h_4 h_5 h_6 h_7 h_8 h_9 h_10 h_11 h_12 h_13 h_14 h_15 h_16 h_69 h_70 h_71 h_86 h_966 h_967 h_968 h_72; omega) | omega, ⟨(Int.le_trans (by decide) h_968.1), (Int.le_trans h_968.2 (by decide))⟩, by decide, by decide⟩ ?_
                refine q_iconst rfl ?_
                refine v_zret rfl rfl (by decide) ?_
                refine bk_inl ?_
                refine v_if_eq_t (t := 59) rfl (by decide) (by decide) ?_
                refine q_vret rfl rfl ?_
                intro hE_1143
                have hW : Wd P Q P P c_962 = Wd P Q P P m9 := (Prod.mk.inj (Prod.mk.inj hE_1143).2).1
                have h_1144 := ir_1_4 hJ9
                have h_1145 : m9 1 4 = c_962 1 4 := wd_fv (z := 4) 4 rfl hW rfl rfl rfl rfl (by decide) rfl ⟨(Int.le_trans (by decide) h_968.1), (Int.le_trans h_968.2 (by decide))⟩ ⟨(Int.le_trans (by decide) h_1144.1), (Int.le_trans h_1144.2 (by decide))⟩
                have h_1146 := ir_1_2 hI_963
                have h_1147 := ir_1_2 hJ9
                have h_1148 : m9 1 2 = c_962 1 2 := wd_fv (z := 2) 2 rfl hW rfl rfl rfl rfl (by decide) rfl ⟨(Int.le_trans (by decide) h_1146.1), (Int.le_trans h_1146.2 (by decide))⟩ ⟨(Int.le_trans (by decide) h_1147.1), (Int.le_trans h_1147.2 (by decide))⟩
                have h_1149 := ir_1_5 hI_963
                have h_1150 := ir_1_5 hJ9
                have h_1151 : m9 1 5 = c_962 1 5 := wd_fv (z := 5) 5 rfl hW rfl rfl rfl rfl (by decide) rfl ⟨(Int.le_trans (by decide) h_1149.1), (Int.le_trans h_1149.2 (by decide))⟩ ⟨(Int.le_trans (by decide) h_1150.1), (Int.le_trans h_1150.2 (by decide))⟩
                have h_1152 := ir_p7_5 hJ9 hA
                have h_1153 : m9 (A + 7) 5 = c_962 (A + 7) 5 := wd_fv (z := 5) 5 rfl hW (ck_p7 hA) (ck_p7 hA) rfl rfl (by omega) rfl ⟨(Int.le_trans (by decide) h_966.1), (Int.le_trans h_966.2 (by decide))⟩ ⟨(Int.le_trans (by decide) h_1152.1), (Int.le_trans h_1152.2 (by decide))⟩
                refine q_aload_n rfl rfl ?_
                refine v_cv rfl rfl rfl rfl (by decide) ⟨⟨rfl, rfl⟩, by decide, rfl⟩ (Nat.le_of_ble_eq_true rfl) (Nat.le_of_ble_eq_true rfl) ?_
                refine q_aload_n rfl rfl ?_
                refine v_gi (z := 5) (v := (-1)) rfl rfl rfl (by decide) rfl rfl (hc_1) ?_
                refine q_iconst rfl ?_
                refine v_ic_ne_f (t := 12) rfl (by decide) (by decide) ?_
                refine q_iconst rfl ?_
                refine q_goto (t := 13) rfl (by decide) ?_
                refine v_zret rfl rfl (by decide) ?_
                refine bk_inl ?_
                refine v_if_eq_f (t := 90) rfl (by decide) (by decide) ?_
                refine q_aload_n rfl rfl ?_
                have kn_1154 : Hid (c2 41 3 = e1) := (hFc 41 3 (fun q => q.elim (fun h => absurd h.2 (ni rfl)) (fun q => q.elim (fun h => absurd h.2 (ni rfl)) (fun q => q.elim (fun h => absurd h.2 (ni rfl)) (fun q => q.elim (fun h => absurd h.2 (ni rfl)) (fun q => q.elim (fun h => absurd h.2 (ni rfl)) (fun q => q.elim (fun h => absurd h (nn rfl)) (fun h => absurd h (nn rfl))))))))).trans (hr_e1)
                have h_1155 : -2147483648 ≤ (H (nx F e1 a)) ∧ (H (nx F e1 a)) ≤ 2147483647 := by rw [← hH (nx F e1 a)]; exact ir_43 hI (nx F e1 a)
                have h_1156 := hU (nx F e1 a) (by omega) (by omega)
                have h_1157 := hb_or (b := H) (e := e1) (r := (nx F e1 a))
                have h_1158 := hb_bd (b := H) (e := e1) (r := (nx F e1 a)) (lo := -2147483648) (hi := 2147483647) h_1155 (by decide)
                refine v_cv rfl rfl rfl rfl (by decide) ⟨⟨rfl, rfl⟩, by decide, rfl⟩ (Nat.le_of_ble_eq_true rfl) (Nat.le_of_ble_eq_true rfl) (f_154 (e1 := e1) (a9 := a) (B := H) (r8 := (nx F e1 a)) (r := (hb H e1 (nx F e1 a))) hI2 ((hid kn_1154)) ((hr_a)) (fun j => (hFc 43 j (fun q => q.elim (fun h => absurd h.1 (nn rfl)) (fun q => q.elim (fun h => absurd h.1 (nn rfl)) (fun q => q.elim (fun h => absurd h.1 (nn rfl)) (fun q => q.elim (fun h => absurd h.1 (nn rfl)) (fun q => q.elim (fun h => absurd h.1 (nn rfl)) (fun q => q.elim (fun h => absurd h (nn rfl)) (fun h => absurd h (nn rfl))))))))).trans (hH j)) ((nx_tr hU (by first | (clear ha2 hq0 hq1 hq2 hq3 hq4 hq5 h_1 h_2 h_3 h_4 h_5 h_6 h_7 h_8 h_9 h_10 h_11 h_12 h_13 h_14 h_15 h_16 h_69 h_70 h_71 h_86 h_966 h_967 h_968 h_1144 h_1145 h_1146 h_1147 h_1148 h_1149 h_1150 h_1151 h_1152 h_1153 h_72; omega) | omega) (by first | (clear ha2 hq0 hq1 hq2 hq3 hq4 h_1 h_2 h_3 h_4 h_5 h_6 h_7 h_8 h_9 h_10 h_11 h_12 h_13 h_14 h_15 h_16 h_69 h_70 h_71 h_86 h_966 h_967 h_968 h_1144 h_1145 h_1146 h_1147 h_1148 h_1149 h_1150 h_1151 h_1152 h_1153 h_72; omega) | omega)).trans (rfl)) rfl (fun c_1159 hI_1160 hF_1161 h_1162 => ?_))
                refine bk_inl ?_
                refine v_bip rfl (by decide) ?_
                refine v_ic_eq_f (t := 38) rfl (by decide) ⟨by first | (clear ha2 hq0 hq1 hq2 hq3 h_3 h_4 h_5 h_6 h_7 h_8 h_9 h_10 h_11 h_12 h_13 h_14 h_15 h_69 h_71 h_966 h_967 h_968 h_1144 h_1145 h_1146 h_1147 h_1148 h_1149 h_1150 h_1151 h_1152 h_1153; omega) | omega, ⟨h_1158.1, h_1158.2⟩, by decide, by decide⟩ ?_
                refine q_aload_n rfl rfl ?_
                have kn_1163 : Hid (c_1159 41 3 = e1) := (hF_1161 41 3 (fun h => absurd h.2 (ni rfl))).trans (hid kn_1154)
                refine v_cv rfl rfl rfl rfl (by decide) ⟨⟨rfl, rfl⟩, by decide, rfl⟩ (Nat.le_of_ble_eq_true rfl) (Nat.le_of_ble_eq_true rfl) (f_154 (e1 := e1) (a9 := (nx F e1 a)) (B := H) (r8 := (nx F e1 a)) (r := (hb H e1 (nx F e1 a))) hI_1160 ((hid kn_1163)) ((h_1162)) (fun j => ((hF_1161 43 j (fun h => absurd h.1 (nn rfl))).trans (hFc 43 j (fun q => q.elim (fun h => absurd h.1 (nn rfl)) (fun q => q.elim (fun h => absurd h.1 (nn rfl)) (fun q => q.elim (fun h => absurd h.1 (nn rfl)) (fun q => q.elim (fun h => absurd h.1 (nn rfl)) (fun q => q.elim (fun h => absurd h.1 (nn rfl)) (fun q => q.elim (fun h => absurd h (nn rfl)) (fun h => absurd h (nn rfl)))))))))).trans (hH j)) ((nx_tr hU (by first | (clear ha2 hq0 hq1 hq2 hq3 hq4 hq5 h_1 h_2 h_3 h_4 h_5 h_6 h_7 h_8 h_9 h_10 h_11 h_12 h_13 h_14 h_15 h_16 h_69 h_71 h_86 h_966 h_967 h_968 h_1144 h_1145 h_1146 h_1147 h_1148 h_1149 h_1150 h_1151 h_1152 h_1153 h_1155 h_1156 h_1158 h_72 h_1157; omega) | omega) (by first | (clear ha2 hq0 hq1 hq2 hq3 hq4 h_1 h_2 h_3 h_4 h_5 h_6 h_7 h_8 h_9 h_10 h_11 h_12 h_13 h_14 h_15 h_16 h_69 h_70 h_71 h_86 h_966 h_967 h_968 h_1144 h_1145 h_1146 h_1147 h_1148 h_1149 h_1150 h_1151 h_1152 h_1153 h_1155 h_1156 h_1158 h_72 h_1157; omega) | omega)).trans ((nx_z (by omega)))) rfl (fun c_1164 hI_1165 hF_1166 h_1167 => ?_))
                refine bk_inl ?_
                refine v_bip rfl (by decide) ?_
                refine v_ic_eq_f (t := 38) rfl (by decide) ⟨by first | (clear ha2 hq0 hq1 hq2 hq3 h_3 h_4 h_5 h_6 h_7 h_8 h_9 h_10 h_11 h_12 h_13 h_14 h_15 h_69 h_71 h_966 h_967 h_968 h_1144 h_1145 h_1146 h_1147 h_1148 h_1149 h_1150 h_1151 h_1152 h_1153; omega) | omega, ⟨h_1158.1, h_1158.2⟩, by decide, by decide⟩ ?_
                refine q_aload_n rfl rfl ?_
                have kn_1168 : Hid (c_1164 41 3 = e1) := (hF_1166 41 3 (fun h => absurd h.2 (ni rfl))).trans (hid kn_1163)
                refine v_cv rfl rfl rfl rfl (by decide) ⟨⟨rfl, rfl⟩, by decide, rfl⟩ (Nat.le_of_ble_eq_true rfl) (Nat.le_of_ble_eq_true rfl) (f_154 (e1 := e1) (a9 := (nx F e1 a)) (B := H) (r8 := (nx F e1 a)) (r := (hb H e1 (nx F e1 a))) hI_1165 ((hid kn_1168)) ((h_1167)) (fun j => ((hF_1166 43 j (fun h => absurd h.1 (nn rfl))).trans ((hF_1161 43 j (fun h => absurd h.1 (nn rfl))).trans (hFc 43 j (fun q => q.elim (fun h => absurd h.1 (nn rfl)) (fun q => q.elim (fun h => absurd h.1 (nn rfl)) (fun q => q.elim (fun h => absurd h.1 (nn rfl)) (fun q => q.elim (fun h => absurd h.1 (nn rfl)) (fun q => q.elim (fun h => absurd h.1 (nn rfl)) (fun q => q.elim (fun h => absurd h (nn rfl)) (fun h => absurd h (nn rfl))))))))))).trans (hH j)) ((nx_tr hU (by first | (clear ha2 hq0 hq1 hq2 hq3 hq4 hq5 h_1 h_2 h_3 h_4 h_5 h_6 h_7 h_8 h_9 h_10 h_11 h_12 h_13 h_14 h_15 h_16 h_69 h_71 h_86 h_966 h_967 h_968 h_1144 h_1145 h_1146 h_1147 h_1148 h_1149 h_1150 h_1151 h_1152 h_1153 h_1155 h_1156 h_1158 h_72 h_1157; omega) | omega) (by first | (clear ha2 hq0 hq1 hq2 hq3 hq4 h_1 h_2 h_3 h_4 h_5 h_6 h_7 h_8 h_9 h_10 h_11 h_12 h_13 h_14 h_15 h_16 h_69 h_70 h_71 h_86 h_966 h_967 h_968 h_1144 h_1145 h_1146 h_1147 h_1148 h_1149 h_1150 h_1151 h_1152 h_1153 h_1155 h_1156 h_1158 h_72 h_1157; omega) | omega)).trans ((nx_z (by omega)))) rfl (fun c_1169 hI_1170 hF_1171 h_1172 => ?_))
                refine bk_inl ?_
                refine v_bip rfl (by decide) ?_
                refine v_ic_ne_f (t := 90) rfl (by decide) (by first | (clear ha2 hq0 hq1 hq2 hq3 h_3 h_4 h_5 h_6 h_7 h_8 h_9 h_10 h_11 h_12 h_13 h_14 h_15 h_69 h_71 h_966 h_967 h_968 h_1144 h_1145 h_1146 h_1147 h_1148 h_1149 h_1150 h_1151 h_1152 h_1153; omega) | omega) ?_
                refine q_aload_n rfl rfl ?_
                have kn_1173 : Hid (c_1169 41 3 = e1) := (hF_1171 41 3 (fun h => absurd h.2 (ni rfl))).trans (hid kn_1168)
                refine v_cv rfl rfl rfl rfl (by decide) ⟨⟨rfl, rfl⟩, by decide, rfl⟩ (Nat.le_of_ble_eq_true rfl) (Nat.le_of_ble_eq_true rfl) (f_154 (e1 := e1) (a9 := (nx F e1 a)) (B := H) (r8 := (nx F e1 a)) (r := (hb H e1 (nx F e1 a))) hI_1170 ((hid kn_1173)) ((h_1172)) (fun j => ((hF_1171 43 j (fun h => absurd h.1 (nn rfl))).trans ((hF_1166 43 j (fun h => absurd h.1 (nn rfl))).trans ((hF_1161 43 j (fun h => absurd h.1 (nn rfl))).trans (hFc 43 j (fun q => q.elim (fun h => absurd h.1 (nn rfl)) (fun q => q.elim (fun h => absurd h.1 (nn rfl)) (fun q => q.elim (fun h => absurd h.1 (nn rfl)) (fun q => q.elim (fun h => absurd h.1 (nn rfl)) (fun q => q.elim (fun h => absurd h.1 (nn rfl)) (fun q => q.elim (fun h => absurd h (nn rfl)) (fun h => absurd h (nn rfl)))))))))))).trans (hH j)) ((nx_tr hU (by first | (clear ha2 hq0 hq1 hq2 hq3 hq4 hq5 h_1 h_2 h_3 h_4 h_5 h_6 h_7 h_8 h_9 h_10 h_11 h_12 h_13 h_14 h_15 h_16 h_69 h_71 h_86 h_966 h_967 h_968 h_1144 h_1145 h_1146 h_1147 h_1148 h_1149 h_1150 h_1151 h_1152 h_1153 h_1155 h_1156 h_1158 h_72 h_1157; omega) | omega) (by first | (clear ha2 hq0 hq1 hq2 hq3 hq4 h_1 h_2 h_3 h_4 h_5 h_6 h_7 h_8 h_9 h_10 h_11 h_12 h_13 h_14 h_15 h_16 h_69 h_70 h_71 h_86 h_966 h_967 h_968 h_1144 h_1145 h_1146 h_1147 h_1148 h_1149 h_1150 h_1151 h_1152 h_1153 h_1155 h_1156 h_1158 h_72 h_1157; omega) | omega)).trans ((nx_z (by omega)))) rfl (fun c_1174 hI_1175 hF_1176 h_1177 => ?_))
                refine bk_inl ?_
                refine v_bip rfl (by decide) ?_
                refine v_ic_ne_t (t := 51) rfl (by decide) ⟨by first | (clear ha2 hq0 hq1 hq2 hq3 h_3 h_4 h_5 h_6 h_7 h_8 h_9 h_10 h_11 h_12 h_13 h_14 h_15 h_69 h_71 h_966 h_967 h_968 h_1144 h_1145 h_1146 h_1147 h_1148 h_1149 h_1150 h_1151 h_1152 h_1153; omega) | omega, ⟨h_1158.1, h_1158.2⟩, by decide, by decide⟩ ?_
                refine q_aload_n rfl rfl ?_
                have kn_1178 : Hid (c_1174 41 3 = e1) := (hF_1176 41 3 (fun h => absurd h.2 (ni rfl))).trans (hid kn_1173)
                refine v_cv rfl rfl rfl rfl (by decide) ⟨⟨rfl, rfl⟩, by decide, rfl⟩ (Nat.le_of_ble_eq_true rfl) (Nat.le_of_ble_eq_true rfl) (f_154 (e1 := e1) (a9 := (nx F e1 a)) (B := H) (r8 := (nx F e1 a)) (r := (hb H e1 (nx F e1 a))) hI_1175 ((hid kn_1178)) ((h_1177)) (fun j => ((hF_1176 43 j (fun h => absurd h.1 (nn rfl))).trans ((hF_1171 43 j (fun h => absurd h.1 (nn rfl))).trans ((hF_1166 43 j (fun h => absurd h.1 (nn rfl))).trans ((hF_1161 43 j (fun h => absurd h.1 (nn rfl))).trans (hFc 43 j (fun q => q.elim (fun h => absurd h.1 (nn rfl)) (fun q => q.elim (fun h => absurd h.1 (nn rfl)) (fun q => q.elim (fun h => absurd h.1 (nn rfl)) (fun q => q.elim (fun h => absurd h.1 (nn rfl)) (fun q => q.elim (fun h => absurd h.1 (nn rfl)) (fun q => q.elim (fun h => absurd h (nn rfl)) (fun h => absurd h (nn rfl))))))))))))).trans (hH j)) ((nx_tr hU (by first | (clear ha2 hq0 hq1 hq2 hq3 hq4 hq5 h_1 h_2 h_3 h_4 h_5 h_6 h_7 h_8 h_9 h_10 h_11 h_12 h_13 h_14 h_15 h_16 h_69 h_71 h_86 h_966 h_967 h_968 h_1144 h_1145 h_1146 h_1147 h_1148 h_1149 h_1150 h_1151 h_1152 h_1153 h_1155 h_1156 h_1158 h_72 h_1157; omega) | omega) (by first | (clear ha2 hq0 hq1 hq2 hq3 hq4 h_1 h_2 h_3 h_4 h_5 h_6 h_7 h_8 h_9 h_10 h_11 h_12 h_13 h_14 h_15 h_16 h_69 h_70 h_71 h_86 h_966 h_967 h_968 h_1144 h_1145 h_1146 h_1147 h_1148 h_1149 h_1150 h_1151 h_1152 h_1153 h_1155 h_1156 h_1158 h_72 h_1157; omega) | omega)).trans ((nx_z (by omega)))) rfl (fun c_1179 hI_1180 hF_1181 h_1182 => ?_))
                refine bk_inl ?_
                refine v_bip rfl (by decide) ?_
                refine v_ic_ne_t (t := 64) rfl (by decide) ⟨by first | (clear ha2 hq0 hq1 hq2 hq3 h_3 h_4 h_5 h_6 h_7 h_8 h_9 h_10 h_11 h_12 h_13 h_14 h_15 h_69 h_71 h_966 h_967 h_968 h_1144 h_1145 h_1146 h_1147 h_1148 h_1149 h_1150 h_1151 h_1152 h_1153; omega) | omega, ⟨h_1158.1, h_1158.2⟩, by decide, by decide⟩ ?_
                refine v_bip rfl (by decide) ?_
                refine q_istore_n rfl (by decide) ?_
                refine q_aload_n rfl rfl ?_
                refine q_dup rfl rfl ?_
                refine v_gi (z := 4) (v := (nx F e1 a)) rfl rfl rfl (by decide) rfl rfl (h_1182) ?_
                refine q_iconst rfl ?_
                refine v_iadd (v := (nx F e1 a) + 1) rfl rfl ?_
                refine v_pi (z := 4) rfl rfl rfl (by decide) rfl rfl rfl (by decide) ?_
                refine q_aload_n rfl rfl ?_
                have kn_1183 : Hid (c_1159 41 5 = (-1)) := (hF_1161 41 5 (fun h => absurd h.2 (ni rfl))).trans (hc_1)
                have kn_1184 : Hid (c_1164 41 5 = (-1)) := (hF_1166 41 5 (fun h => absurd h.2 (ni rfl))).trans (hid kn_1183)
                have kn_1185 : Hid (c_1169 41 5 = (-1)) := (hF_1171 41 5 (fun h => absurd h.2 (ni rfl))).trans (hid kn_1184)
                have kn_1186 : Hid (c_1174 41 5 = (-1)) := (hF_1176 41 5 (fun h => absurd h.2 (ni rfl))).trans (hid kn_1185)
                have kn_1187 : Hid (c_1179 41 5 = (-1)) := (hF_1181 41 5 (fun h => absurd h.2 (ni rfl))).trans (hid kn_1186)
                have hI_1188 := iw_41_4 (v := (nx F e1 a) + 1) hI_1180 ⟨by first | exact rgp_l (rg_be h_70 (ha.1) ((rg_eq hg_e1 h_1).2)).1 (by decide) | omega, by first | exact rgp_h (rg_be h_70 (ha.1) ((rg_eq hg_e1 h_1).2)).2 (by decide) | omega⟩
                have kn_1189 : Hid (c_83 1 1 = e1) := (hF_85 1 1 (fun h => absurd h.2 (ni rfl))).trans (hid kn_68)
                have kn_1190 : Hid (c_1179 41 3 = e1) := (hF_1181 41 3 (fun h => absurd h.2 (ni rfl))).trans (hid kn_1178)
                have kn_1191 : Hid (c_83 1 5 = (-1)) := (hF_85 1 5 (fun h => absurd h.2 (ni rfl))).trans (hc_2)
                have kn_1192 : Hid (c_83 (A + 7) 5 = nw) := (hF_85 (A + 7) 5 (fun h => absurd h.1 (np hA rfl rfl))).trans (hg_nw)
                have kn_1193 : Hid (c_1159 41 29 = nw) := (hF_1161 41 29 (fun h => absurd h.2 (ni rfl))).trans (hr_nw)
                have kn_1194 : Hid (c_1164 41 29 = nw) := (hF_1166 41 29 (fun h => absurd h.2 (ni rfl))).trans (hid kn_1193)
                have kn_1195 : Hid (c_1169 41 29 = nw) := (hF_1171 41 29 (fun h => absurd h.2 (ni rfl))).trans (hid kn_1194)
                have kn_1196 : Hid (c_1174 41 29 = nw) := (hF_1176 41 29 (fun h => absurd h.2 (ni rfl))).trans (hid kn_1195)
                have kn_1197 : Hid (c_1179 41 29 = nw) := (hF_1181 41 29 (fun h => absurd h.2 (ni rfl))).trans (hid kn_1196)
                have kn_1198 : Hid (c_1159 41 7 = a2) := (hF_1161 41 7 (fun h => absurd h.2 (ni rfl))).trans (hc_3)
                have kn_1199 : Hid (c_1164 41 7 = a2) := (hF_1166 41 7 (fun h => absurd h.2 (ni rfl))).trans (hid kn_1198)
                have kn_1200 : Hid (c_1169 41 7 = a2) := (hF_1171 41 7 (fun h => absurd h.2 (ni rfl))).trans (hid kn_1199)
                have kn_1201 : Hid (c_1174 41 7 = a2) := (hF_1176 41 7 (fun h => absurd h.2 (ni rfl))).trans (hid kn_1200)
                have kn_1202 : Hid (c_1179 41 7 = a2) := (hF_1181 41 7 (fun h => absurd h.2 (ni rfl))).trans (hid kn_1201)
                have h_1203 : c_83 1 4 = 0 := (hid kn_961)
                have h_1204 : c_83 1 2 = (nx F e1 a) + 1 := (hz_87)
                have h_1205 : c_83 1 5 = (-1) := (hid kn_1191)
                have h_1206 : (up c_1179 41 4 ((nx F e1 a) + 1)) 41 5 = (-1) := ((up_n (by decide)).trans (hid kn_1187))
                have h_1207 : (up c_1179 41 4 ((nx F e1 a) + 1)) 41 4 = (nx F e1 a) + 1 := (up_e rfl)
                have h_1208 := ir_41_6 hI2
                have kn_1209 : Hid (c_1159 41 6 = c2 41 6) := hF_1161 41 6 (fun h => absurd h.2 (ni rfl))
                have kn_1210 : Hid (c_1164 41 6 = c2 41 6) := (hF_1166 41 6 (fun h => absurd h.2 (ni rfl))).trans (hid kn_1209)
                have kn_1211 : Hid (c_1169 41 6 = c2 41 6) := (hF_1171 41 6 (fun h => absurd h.2 (ni rfl))).trans (hid kn_1210)
                have kn_1212 : Hid (c_1174 41 6 = c2 41 6) := (hF_1176 41 6 (fun h => absurd h.2 (ni rfl))).trans (hid kn_1211)
                have kn_1213 : Hid (c_1179 41 6 = c2 41 6) := (hF_1181 41 6 (fun h => absurd h.2 (ni rfl))).trans (hid kn_1212)
                have h_1214 : (up c_1179 41 4 ((nx F e1 a) + 1)) 41 6 = c2 41 6 := ((up_n (by decide)).trans (hid kn_1213))
                have hA_1215 : Ce nw (c_83 (A + 9)) ((up c_1179 41 4 ((nx F e1 a) + 1)) 50) ((up c_1179 41 4 ((nx F e1 a) + 1)) 51) := ce_fr hrl0 (fun j => hF_85 (A + 9) j (fun h => absurd h.1 (np hA rfl rfl))) (fun j => (up_c (nn rfl)).trans ((hF_1181 50 j (fun h => absurd h.1 (nn rfl))).trans ((hF_1176 50 j (fun h => absurd h.1 (nn rfl))).trans ((hF_1171 50 j (fun h => absurd h.1 (nn rfl))).trans ((hF_1166 50 j (fun h => absurd h.1 (nn rfl))).trans (hF_1161 50 j (fun h => absurd h.1 (nn rfl)))))))) (fun j => (up_c (nn rfl)).trans ((hF_1181 51 j (fun h => absurd h.1 (nn rfl))).trans ((hF_1176 51 j (fun h => absurd h.1 (nn rfl))).trans ((hF_1171 51 j (fun h => absurd h.1 (nn rfl))).trans ((hF_1166 51 j (fun h => absurd h.1 (nn rfl))).trans (hF_1161 51 j (fun h => absurd h.1 (nn rfl))))))))
                refine v_cv rfl rfl rfl rfl (by decide) ⟨⟨rfl, rfl⟩, by decide, rfl⟩ (Nat.le_of_ble_eq_true rfl) (Nat.le_of_ble_eq_true rfl) (L_14 (m := c_83) (a2 := a2) (e1 := e1) (f0 := 0) (g0 := (-1)) (p0 := (nx F e1 a) + 1) (n0 := nw) (o0 := a2) (F := F) (H := H) hI_1188 hI_84 hI_963 hA (show 0 ≤ a2 ∧ a2 ≤ 6 from ha2) (by first | (clear ha2 hq0 hq1 hq2 hq3 hq4 hq5 h_1 h_2 h_3 h_4 h_5 h_6 h_7 h_8 h_9 h_10 h_11 h_12 h_13 h_14 h_15 h_16 h_69 h_70 h_71 h_86 h_966 h_967 h_968 h_1144 h_1145 h_1146 h_1147 h_1148 h_1149 h_1150 h_1151 h_1152 h_1153 h_1155 h_1156 h_1158 h_72 h_1157; omega) | omega) (by first | (clear ha2 hq0 hq1 hq2 hq3 hq4 hq5 h_1 h_2 h_3 h_4 h_5 h_6 h_7 h_8 h_9 h_10 h_11 h_12 h_13 h_14 h_15 h_16 h_69 h_70 h_71 h_86 h_966 h_967 h_968 h_1144 h_1145 h_1146 h_1147 h_1148 h_1149 h_1150 h_1151 h_1152 h_1153 h_1155 h_1156 h_1158 h_72 h_1157; omega) | omega) (by first | (clear ha2 hq0 hq1 hq2 hq3 hq4 hq5 h_1 h_2 h_3 h_4 h_5 h_6 h_7 h_8 h_9 h_10 h_11 h_12 h_13 h_14 h_15 h_16 h_69 h_70 h_71 h_86 h_966 h_967 h_968 h_1144 h_1145 h_1146 h_1147 h_1148 h_1149 h_1150 h_1151 h_1152 h_1153 h_1155 h_1156 h_1158 h_72 h_1157; omega) | omega) (by first | (clear ha2 hq0 hq1 hq2 hq4 hq5 h_1 h_2 h_3 h_4 h_5 h_6 h_7 h_8 h_9 h_10 h_11 h_12 h_13 h_14 h_15 h_69 h_71 h_86 h_966 h_967 h_968 h_1144 h_1145 h_1146 h_1147 h_1148 h_1149 h_1150 h_1151 h_1152 h_1153 h_1155 h_1156 h_1158 h_72 h_1157; omega) | omega) (by first | (clear ha2 hq0 hq1 hq2 hq3 hq4 hq5 h_1 h_2 h_3 h_4 h_5 h_6 h_7 h_8 h_9 h_10 h_11 h_12 h_13 h_14 h_15 h_16 h_69 h_70 h_71 h_966 h_967 h_968 h_1144 h_1145 h_1146 h_1147 h_1148 h_1149 h_1150 h_1151 h_1152 h_1153 h_1155 h_1156 h_1158 h_72 h_1157; omega) | omega) (by first | (clear ha2 hq0 hq1 hq2 hq3 hq4 h_1 h_2 h_3 h_4 h_5 h_6 h_7 h_8 h_9 h_10 h_11 h_12 h_13 h_14 h_15 h_16 h_69 h_70 h_71 h_86 h_966 h_967 h_968 h_1144 h_1145 h_1146 h_1147 h_1148 h_1149 h_1150 h_1151 h_1152 h_1153 h_1155 h_1156 h_1158 h_72 h_1157; omega) | omega) ((hid kn_1189)) (((up_n (by decide)).trans (hid kn_1190))) ((hid kn_961)) ((hid kn_1191)) ((hz_87)) ((hid kn_1192)) (((up_n (by decide)).trans (hid kn_1197))) (((up_n (by decide)).trans (hid kn_1202))) (fun j => ((hF_85 2 j (fun h => absurd h.1 (nn rfl))).trans (hFm 2 j (fun q => q.elim (fun h => absurd h.1 (nn rfl)) (fun q => q.elim (fun h => absurd h.1 (nn rfl)) (fun q => q.elim (fun h => absurd h.1 (nn rfl)) (fun q => q.elim (fun h => absurd h.1 (pn hA rfl rfl)) (fun h => absurd h (pn hA rfl rfl)))))))).trans (hF j)) (fun j => ((up_c (nn rfl)).trans ((hF_1181 43 j (fun h => absurd h.1 (nn rfl))).trans ((hF_1176 43 j (fun h => absurd h.1 (nn rfl))).trans ((hF_1171 43 j (fun h => absurd h.1 (nn rfl))).trans ((hF_1166 43 j (fun h => absurd h.1 (nn rfl))).trans ((hF_1161 43 j (fun h => absurd h.1 (nn rfl))).trans (hFc 43 j (fun q => q.elim (fun h => absurd h.1 (nn rfl)) (fun q => q.elim (fun h => absurd h.1 (nn rfl)) (fun q => q.elim (fun h => absurd h.1 (nn rfl)) (fun q => q.elim (fun h => absurd h.1 (nn rfl)) (fun q => q.elim (fun h => absurd h.1 (nn rfl)) (fun q => q.elim (fun h => absurd h (nn rfl)) (fun h => absurd h (nn rfl))))))))))))))).trans (hH j)) hU (rt_i1 ⟨by first | (clear ha2 hq0 hq1 hq2 hq3 hq4 hq5 h_1 h_2 h_3 h_4 h_5 h_6 h_7 h_8 h_9 h_10 h_11 h_12 h_13 h_14 h_15 h_16 h_69 h_70 h_71 h_86 h_966 h_967 h_968 h_1144 h_1145 h_1146 h_1147 h_1148 h_1149 h_1150 h_1151 h_1152 h_1153 h_1155 h_1156 h_1158 h_1208 h_72 h_1157; omega) | omega, by first | (clear ha2 hq0 hq1 hq2 hq3 hq4 hq5 h_1 h_2 h_3 h_4 h_5 h_6 h_7 h_8 h_9 h_10 h_11 h_12 h_13 h_14 h_15 h_16 h_69 h_70 h_71 h_86 h_966 h_967 h_968 h_1144 h_1145 h_1146 h_1147 h_1148 h_1149 h_1150 h_1151 h_1152 h_1153 h_1155 h_1156 h_1158 h_1208 h_72 h_1157; omega) | omega, by first | (clear ha2 hq0 hq1 hq2 hq3 hq4 hq5 h_1 h_2 h_3 h_4 h_5 h_6 h_7 h_8 h_9 h_10 h_11 h_12 h_13 h_14 h_15 h_16 h_69 h_70 h_71 h_86 h_966 h_967 h_968 h_1144 h_1145 h_1146 h_1147 h_1148 h_1149 h_1150 h_1151 h_1152 h_1153 h_1155 h_1156 h_1158 h_1208 h_72 h_1157; omega) | omega, by first | (clear ha2 hq0 hq1 hq2 hq3 hq4 hq5 h_1 h_2 h_3 h_4 h_5 h_6 h_7 h_8 h_9 h_10 h_11 h_12 h_13 h_14 h_15 h_16 h_69 h_70 h_71 h_86 h_966 h_967 h_968 h_1144 h_1145 h_1146 h_1147 h_1148 h_1149 h_1150 h_1151 h_1152 h_1153 h_1155 h_1156 h_1158 h_1208 h_72 h_1157; omega) | omega⟩) (ce_le hA_1215 (by omega)) H13 hG_965 (fun c_1216 hI_1217 hF_1218 hR_1220 h_1221 h_1222 hA_1223 => ?_))
                refine bk_inl ?_
                have h_1224 := ir_41_29 hI_1217
                have h_1225 := ir_41_7 hI_1217
                refine q_aload_n rfl rfl ?_
                refine q_iload_n rfl rfl ?_
                refine q_iconst rfl ?_
                refine v_cv rfl rfl rfl rfl (by decide) ⟨⟨rfl, rfl⟩, by decide, rfl⟩ (Nat.le_of_ble_eq_true rfl) (Nat.le_of_ble_eq_true rfl) ?_
                refine q_aload_n rfl rfl ?_
                refine v_cv rfl rfl rfl rfl (by decide) ⟨⟨rfl, rfl⟩, by decide, rfl⟩ (Nat.le_of_ble_eq_true rfl) (Nat.le_of_ble_eq_true rfl) ?_
                refine q_aload_n rfl rfl ?_
                have h_1226 := ir_41_5 hI_1217
                have h_1227 := ir_41_4 hI_1217
                have h_1228 := ir_41_6 hI_1217
                have h_1229 := rt_bad hR_1220 (by omega)
                have hrb_hR_1220 := rt_bad hR_1220 (by omega)
                refine v_gi (z := 5) (v := c_962 1 5) rfl rfl rfl (by decide) rfl rfl hrb_hR_1220.2.1 ?_
                refine q_iconst rfl ?_
                refine v_ic_ne_t (t := 12) rfl (by decide) ⟨by first | (clear ha2 hq0 hq1 hq2 hq3 hq4 hq5 h_1 h_2 h_3 h_4 h_5 h_6 h_7 h_8 h_9 h_10 h_11 h_12 h_13 h_14 h_15 h_16 h_69 h_70 h_71 h_86 h_966 h_967 h_968 h_1144 h_1145 h_1146 h_1147 h_1148 h_1149 h_1150 h_1151 h_1152 h_1153 h_1155 h_1156 h_1158 h_1208 h_1224 h_1225 h_1222 h_1226 h_1227 h_1228 h_72 h_1157 h_1221; omega) | omega, ⟨(Int.le_trans (by decide) h_1149.1), (Int.le_trans h_1149.2 (by decide))⟩, by decide, by decide⟩ ?_
                refine q_iconst rfl ?_
                refine v_zret rfl rfl (by decide) ?_
                refine bk_inl ?_
                refine v_if_ne_f (t := 8) rfl (by decide) (by decide) ?_
                refine q_vret rfl rfl ?_
                refine bk_inl ?_
                refine q_goto (t := 4) rfl (by decide) ?_
                refine q_aload_n rfl rfl ?_
                refine v_cv rfl rfl rfl rfl (by decide) ⟨⟨rfl, rfl⟩, by decide, rfl⟩ (Nat.le_of_ble_eq_true rfl) (Nat.le_of_ble_eq_true rfl) ?_
                refine q_aload_n rfl rfl ?_
                refine v_gi (z := 5) (v := c_962 1 5) rfl rfl rfl (by decide) rfl rfl hrb_hR_1220.2.1 ?_
                refine q_iconst rfl ?_
                refine v_ic_ne_t (t := 12) rfl (by decide) ⟨by first | (clear ha2 hq0 hq1 hq2 hq3 hq4 hq5 h_1 h_2 h_3 h_4 h_5 h_6 h_7 h_8 h_9 h_10 h_11 h_12 h_13 h_14 h_15 h_16 h_69 h_70 h_71 h_86 h_966 h_967 h_968 h_1144 h_1145 h_1146 h_1147 h_1148 h_1149 h_1150 h_1151 h_1152 h_1153 h_1155 h_1156 h_1158 h_1208 h_1224 h_1225 h_1222 h_1226 h_1227 h_1228 h_72 h_1157 h_1221; omega) | omega, ⟨(Int.le_trans (by decide) h_1149.1), (Int.le_trans h_1149.2 (by decide))⟩, by decide, by decide⟩ ?_
                refine q_iconst rfl ?_
                refine v_zret rfl rfl (by decide) ?_
                refine bk_inl ?_
                refine v_if_eq_t (t := 90) rfl (by decide) (by decide) ?_
                refine q_vret rfl rfl ?_
                have h_1230 : c_1216 41 5 = c_962 1 5 := hrb_hR_1220.2.1
                have h_1231 : c_1216 41 6 = c_962 1 4 := hrb_hR_1220.2.2.2
                exact K c_1216  hI_1217 (fun a j hm => (hF_1218 a j (fun q => q.elim (fun h => hm (Or.inl h)) (fun q => q.elim (fun h => hm (Or.inr (Or.inl h))) (fun q => q.elim (fun h => hm (Or.inr (Or.inr (Or.inl h)))) (fun q => q.elim (fun h => hm (Or.inr (Or.inr (Or.inr (Or.inl h))))) (fun q => q.elim (fun h => hm (Or.inr (Or.inr (Or.inr (Or.inr (Or.inl h)))))) (fun q => q.elim (fun h => hm (Or.inr (Or.inr (Or.inr (Or.inr (Or.inr (Or.inl h))))))) (fun h => hm (Or.inr (Or.inr (Or.inr (Or.inr (Or.inr (Or.inr h)))))))))))))).trans ((up_b (Decidable.or_iff_not_imp_left.mpr (fun h1 h2 => hm (Or.inl ⟨Decidable.not_not.mp h1, h2⟩)))).trans ((hF_1181 a j (fun h => hm (Or.inl h))).trans ((hF_1176 a j (fun h => hm (Or.inl h))).trans ((hF_1171 a j (fun h => hm (Or.inl h))).trans ((hF_1166 a j (fun h => hm (Or.inl h))).trans ((hF_1161 a j (fun h => hm (Or.inl h))).trans (hFc a j (fun q => q.elim (fun h => hm (Or.inl h)) (fun q => q.elim (fun h => hm (Or.inr (Or.inl h))) (fun q => q.elim (fun h => hm (Or.inr (Or.inr (Or.inl h)))) (fun q => q.elim (fun h => hm (Or.inr (Or.inr (Or.inr (Or.inl h))))) (fun q => q.elim (fun h => hm (Or.inr (Or.inr (Or.inr (Or.inr (Or.inl h)))))) (fun q => q.elim (fun h => hm (Or.inr (Or.inr (Or.inr (Or.inr (Or.inr (Or.inl h))))))) (fun h => hm (Or.inr (Or.inr (Or.inr (Or.inr (Or.inr (Or.inr h))))))))))))))))))))) (rt_i2 ⟨⟨by first | (clear ha2 hq0 hq1 hq2 hq3 hq4 hq5 h_1 h_2 h_3 h_4 h_5 h_6 h_7 h_8 h_9 h_10 h_11 h_12 h_13 h_14 h_15 h_16 h_69 h_70 h_71 h_86 h_966 h_967 h_968 h_1144 h_1146 h_1147 h_1148 h_1149 h_1150 h_1151 h_1152 h_1153 h_1155 h_1156 h_1158 h_1208 h_1224 h_1225 h_1222 h_1226 h_1227 h_1228 h_72 h_1157 h_1221; omega) | omega, by first | (clear ha2 hq0 hq1 hq2 hq3 hq4 hq5 h_1 h_2 h_3 h_4 h_5 h_6 h_7 h_8 h_9 h_10 h_11 h_12 h_13 h_14 h_15 h_16 h_69 h_70 h_71 h_86 h_966 h_967 h_968 h_1145 h_1146 h_1147 h_1148 h_1149 h_1150 h_1151 h_1152 h_1153 h_1155 h_1156 h_1158 h_1208 h_1224 h_1225 h_1222 h_1226 h_1227 h_1228 h_1229 h_72 h_1157 h_1221; omega) | omega⟩, by first | (clear ha2 hq0 hq1 hq2 hq3 hq4 hq5 h_1 h_2 h_3 h_4 h_5 h_6 h_7 h_8 h_9 h_10 h_11 h_12 h_13 h_14 h_15 h_16 h_69 h_70 h_71 h_86 h_966 h_967 h_968 h_1144 h_1145 h_1146 h_1147 h_1148 h_1149 h_1150 h_1152 h_1153 h_1155 h_1156 h_1158 h_1208 h_1224 h_1225 h_1222 h_1226 h_1227 h_1228 h_1229 h_72 h_1157 h_1221; omega) | omega, by first | (clear ha2 hq0 hq1 hq2 hq3 hq4 hq5 h_1 h_2 h_3 h_4 h_5 h_6 h_7 h_8 h_9 h_10 h_11 h_12 h_13 h_14 h_15 h_16 h_69 h_70 h_71 h_86 h_966 h_967 h_968 h_1144 h_1145 h_1146 h_1147 h_1148 h_1149 h_1150 h_1152 h_1153 h_1155 h_1156 h_1158 h_1208 h_1224 h_1225 h_1222 h_1226 h_1227 h_1228 h_72 h_1157 h_1221; omega) | omega, by first | (clear ha2 hq0 hq1 hq2 hq3 hq4 hq5 h_1 h_2 h_3 h_4 h_5 h_6 h_7 h_8 h_9 h_10 h_11 h_12 h_13 h_14 h_15 h_16 h_69 h_70 h_71 h_86 h_966 h_967 h_968 h_1144 h_1146 h_1147 h_1148 h_1149 h_1150 h_1151 h_1152 h_1153 h_1155 h_1156 h_1158 h_1208 h_1224 h_1225 h_1222 h_1226 h_1227 h_1228 h_1229 h_72 h_1157 h_1221; omega) | omega⟩) (Or.inr (Or.inl (by first | (clear ha2 hq0 hq1 hq2 hq3 hq4 hq5 h_1 h_2 h_3 h_4 h_5 h_6 h_7 h_8 h_9 h_10 h_11 h_12 h_13 h_14 h_15 h_16 h_69 h_70 h_71 h_86 h_966 h_967 h_968 h_1144 h_1146 h_1147 h_1148 h_1149 h_1150 h_1151 h_1152 h_1153 h_1155 h_1156 h_1158 h_1208 h_1224 h_1225 h_1222 h_1226 h_1227 h_1228 h_72 h_1157 h_1221; omega) | omega))) (by first | (clear ha2 hq0 hq1 hq2 hq3 hq4 hq5 h_1 h_2 h_3 h_4 h_5 h_6 h_7 h_8 h_9 h_10 h_11 h_12 h_13 h_14 h_15 h_16 h_69 h_70 h_71 h_86 h_966 h_967 h_968 h_1144 h_1145 h_1146 h_1147 h_1148 h_1149 h_1150 h_1151 h_1152 h_1153 h_1155 h_1156 h_1158 h_1208 h_1224 h_1225 h_1226 h_1227 h_1228 h_1229 h_72 h_1157 h_1221; omega) | omega) (fun hz => absurd hz (by omega))
        · as_aux_lemma =>
            refine v_ic_ge_f (t := 32) rfl (by decide) ⟨(Int.le_trans (by decide) h_966.1), (Int.not_le.mp h_967), by decide⟩ ?_
            refine q_aload_n rfl rfl ?_
            refine v_gr (t := (A + 9)) rfl rfl (ck_p7 hA) (a68 hA rfl) rfl ?_
            refine q_aload_n rfl rfl ?_
            refine v_gi (z := 5) (v := c_962 (A + 7) 5) rfl rfl (ck_p7 hA) (a68 hA rfl) rfl rfl rfl ?_
            refine q_iload_n rfl rfl ?_
            refine v_is rfl (ck_p9 hA) (a68 hA rfl) (by decide) (by omega) ?_
            refine q_aload_n rfl rfl ?_
            refine q_dup rfl rfl ?_
            refine v_gi (z := 5) (v := c_962 (A + 7) 5) rfl rfl (ck_p7 hA) (a68 hA rfl) rfl rfl (up_c (pp rfl)) ?_
            refine q_iconst rfl ?_
            refine v_iadd (v := c_962 (A + 7) 5 + 1) rfl rfl ?_
            refine v_pi (z := 5) rfl rfl (ck_p7 hA) (a68 hA rfl) rfl rfl rfl (by decide) ?_
            refine q_vret rfl rfl ?_
            refine bk_inl ?_
            refine v_iinc (v := v + 1) rfl rfl (by decide) rfl ?_
            refine q_goto (t := 8) rfl (by decide) ?_
            have h_1232 := ir_1_4 hI_963
            by_cases h_1233 : c_962 1 4 = 0
            · skip
              have hI_1234 := iw_lg (j := c_962 (A + 7) 5) (v := 2004) hI_963 (lgp (k := 9) hA (by decide)) ⟨by decide, by decide⟩ (by omega)
              have hI_1235 := iw_p7_5 (v := c_962 (A + 7) 5 + 1) hI_1234 hA ⟨by first | exact rgp_l h_966.1 (by decide) | omega, by first | (clear ha2 hq0 hq1 hq2 hq3 hq4 hq5 h_1 h_2 h_3 h_4 h_5 h_6 h_7 h_8 h_9 h_10 h_11 h_12 h_13 h_14 h_15 h_16 h_69 h_70 h_71 h_86 h_966 h_1232 h_1233 h_72; omega) | omega⟩
              refine Wp_ls [(0, .ref (A + 7)), (1, .ref 1), (2, vi a2), (3, vi (v + 1))] (lsub_cons rfl (lsub_cons rfl (lsub_cons rfl (lsub_cons rfl lsub_nil)))) ?_
              refine gh_stop ((s_12_l (sc := sc) (d := dh + 22) (c := (up (up c_962 (A + 9) (c_962 (A + 7) 5) 2004) (A + 7) 5 (c_962 (A + 7) 5 + 1))) (a2 := a2) (Z := fun _ => True) hI_1235 hA ha2 (fun c9 Z9 h hI9 K9 => r_13 (d := dh + 1) hI9 hA ⟨by omega, h⟩ K9) (fun _ _ _ => trivial) 304) (up (up c_962 (A + 9) (c_962 (A + 7) 5) 2004) (A + 7) 5 (c_962 (A + 7) 5 + 1)) (v + 1) hI_1235 (fun a j hm => rfl) ⟨by omega, by omega⟩ (by omega)) (fun hG_1236 => ?_)
              refine q_aload_n rfl rfl ?_
              refine v_cv rfl rfl rfl rfl (by decide) ⟨⟨rfl, rfl⟩, by decide, rfl⟩ (Nat.le_of_ble_eq_true rfl) (Nat.le_of_ble_eq_true rfl) ?_
              refine q_aload_n rfl rfl ?_
              refine v_gi (z := 5) (v := (-1)) rfl rfl rfl (by decide) rfl rfl (hc_1) ?_
              refine q_iconst rfl ?_
              refine v_ic_ne_f (t := 12) rfl (by decide) (by decide) ?_
              refine q_iconst rfl ?_
              refine q_goto (t := 13) rfl (by decide) ?_
              refine v_zret rfl rfl (by decide) ?_
              refine bk_inl ?_
              refine v_if_eq_f (t := 90) rfl (by decide) (by decide) ?_
              refine q_aload_n rfl rfl ?_
              have kn_1237 : Hid (c2 41 3 = e1) := (hFc 41 3 (fun q => q.elim (fun h => absurd h.2 (ni rfl)) (fun q => q.elim (fun h => absurd h.2 (ni rfl)) (fun q => q.elim (fun h => absurd h.2 (ni rfl)) (fun q => q.elim (fun h => absurd h.2 (ni rfl)) (fun q => q.elim (fun h => absurd h.2 (ni rfl)) (fun q => q.elim (fun h => absurd h (nn rfl)) (fun h => absurd h (nn rfl))))))))).trans (hr_e1)
              have h_1238 : -2147483648 ≤ (H (nx F e1 a)) ∧ (H (nx F e1 a)) ≤ 2147483647 := by rw [← hH (nx F e1 a)]; exact ir_43 hI (nx F e1 a)
              have h_1239 := hU (nx F e1 a) (by omega) (by omega)
              have h_1240 := hb_or (b := H) (e := e1) (r := (nx F e1 a))
              have h_1241 := hb_bd (b := H) (e := e1) (r := (nx F e1 a)) (lo := -2147483648) (hi := 2147483647) h_1238 (by decide)
              refine v_cv rfl rfl rfl rfl (by decide) ⟨⟨rfl, rfl⟩, by decide, rfl⟩ (Nat.le_of_ble_eq_true rfl) (Nat.le_of_ble_eq_true rfl) (f_154 (e1 := e1) (a9 := a) (B := H) (r8 := (nx F e1 a)) (r := (hb H e1 (nx F e1 a))) hI2 ((hid kn_1237)) ((hr_a)) (fun j => (hFc 43 j (fun q => q.elim (fun h => absurd h.1 (nn rfl)) (fun q => q.elim (fun h => absurd h.1 (nn rfl)) (fun q => q.elim (fun h => absurd h.1 (nn rfl)) (fun q => q.elim (fun h => absurd h.1 (nn rfl)) (fun q => q.elim (fun h => absurd h.1 (nn rfl)) (fun q => q.elim (fun h => absurd h (nn rfl)) (fun h => absurd h (nn rfl))))))))).trans (hH j)) ((nx_tr hU (by first | (clear ha2 hq0 hq1 hq2 hq3 hq4 hq5 h_1 h_2 h_3 h_4 h_5 h_6 h_7 h_8 h_9 h_10 h_11 h_12 h_13 h_14 h_15 h_16 h_69 h_70 h_71 h_86 h_966 h_1232 h_1233 h_72; omega) | omega) (by first | (clear ha2 hq0 hq1 hq2 hq3 hq4 h_1 h_2 h_3 h_4 h_5 h_6 h_7 h_8 h_9 h_10 h_11 h_12 h_13 h_14 h_15 h_16 h_69 h_70 h_71 h_86 h_966 h_1232 h_1233 h_72; omega) | omega)).trans (rfl)) rfl (fun c_1242 hI_1243 hF_1244 h_1245 => ?_))
              refine bk_inl ?_
              refine v_bip rfl (by decide) ?_
              refine v_ic_eq_f (t := 38) rfl (by decide) ⟨by first | (clear ha2 hq0 hq1 hq2 hq3 h_3 h_4 h_5 h_6 h_7 h_8 h_9 h_10 h_11 h_12 h_13 h_14 h_15 h_69 h_71 h_966 h_1232 h_1233; omega) | omega, ⟨h_1241.1, h_1241.2⟩, by decide, by decide⟩ ?_
              refine q_aload_n rfl rfl ?_
              have kn_1246 : Hid (c_1242 41 3 = e1) := (hF_1244 41 3 (fun h => absurd h.2 (ni rfl))).trans (hid kn_1237)
              refine v_cv rfl rfl rfl rfl (by decide) ⟨⟨rfl, rfl⟩, by decide, rfl⟩ (Nat.le_of_ble_eq_true rfl) (Nat.le_of_ble_eq_true rfl) (f_154 (e1 := e1) (a9 := (nx F e1 a)) (B := H) (r8 := (nx F e1 a)) (r := (hb H e1 (nx F e1 a))) hI_1243 ((hid kn_1246)) ((h_1245)) (fun j => ((hF_1244 43 j (fun h => absurd h.1 (nn rfl))).trans (hFc 43 j (fun q => q.elim (fun h => absurd h.1 (nn rfl)) (fun q => q.elim (fun h => absurd h.1 (nn rfl)) (fun q => q.elim (fun h => absurd h.1 (nn rfl)) (fun q => q.elim (fun h => absurd h.1 (nn rfl)) (fun q => q.elim (fun h => absurd h.1 (nn rfl)) (fun q => q.elim (fun h => absurd h (nn rfl)) (fun h => absurd h (nn rfl)))))))))).trans (hH j)) ((nx_tr hU (by first | (clear ha2 hq0 hq1 hq2 hq3 hq4 hq5 h_1 h_2 h_3 h_4 h_5 h_6 h_7 h_8 h_9 h_10 h_11 h_12 h_13 h_14 h_15 h_16 h_69 h_71 h_86 h_966 h_1232 h_1233 h_1238 h_1239 h_1241 h_72 h_1240; omega) | omega) (by first | (clear ha2 hq0 hq1 hq2 hq3 hq4 h_1 h_2 h_3 h_4 h_5 h_6 h_7 h_8 h_9 h_10 h_11 h_12 h_13 h_14 h_15 h_16 h_69 h_70 h_71 h_86 h_966 h_1232 h_1233 h_1238 h_1239 h_1241 h_72 h_1240; omega) | omega)).trans ((nx_z (by omega)))) rfl (fun c_1247 hI_1248 hF_1249 h_1250 => ?_))
              refine bk_inl ?_
              refine v_bip rfl (by decide) ?_
              refine v_ic_eq_f (t := 38) rfl (by decide) ⟨by first | (clear ha2 hq0 hq1 hq2 hq3 h_3 h_4 h_5 h_6 h_7 h_8 h_9 h_10 h_11 h_12 h_13 h_14 h_15 h_69 h_71 h_966 h_1232 h_1233; omega) | omega, ⟨h_1241.1, h_1241.2⟩, by decide, by decide⟩ ?_
              refine q_aload_n rfl rfl ?_
              have kn_1251 : Hid (c_1247 41 3 = e1) := (hF_1249 41 3 (fun h => absurd h.2 (ni rfl))).trans (hid kn_1246)
              refine v_cv rfl rfl rfl rfl (by decide) ⟨⟨rfl, rfl⟩, by decide, rfl⟩ (Nat.le_of_ble_eq_true rfl) (Nat.le_of_ble_eq_true rfl) (f_154 (e1 := e1) (a9 := (nx F e1 a)) (B := H) (r8 := (nx F e1 a)) (r := (hb H e1 (nx F e1 a))) hI_1248 ((hid kn_1251)) ((h_1250)) (fun j => ((hF_1249 43 j (fun h => absurd h.1 (nn rfl))).trans ((hF_1244 43 j (fun h => absurd h.1 (nn rfl))).trans (hFc 43 j (fun q => q.elim (fun h => absurd h.1 (nn rfl)) (fun q => q.elim (fun h => absurd h.1 (nn rfl)) (fun q => q.elim (fun h => absurd h.1 (nn rfl)) (fun q => q.elim (fun h => absurd h.1 (nn rfl)) (fun q => q.elim (fun h => absurd h.1 (nn rfl)) (fun q => q.elim (fun h => absurd h (nn rfl)) (fun h => absurd h (nn rfl))))))))))).trans (hH j)) ((nx_tr hU (by first | (clear ha2 hq0 hq1 hq2 hq3 hq4 hq5 h_1 h_2 h_3 h_4 h_5 h_6 h_7 h_8 h_9 h_10 h_11 h_12 h_13 h_14 h_15 h_16 h_69 h_71 h_86 h_966 h_1232 h_1233 h_1238 h_1239 h_1241 h_72 h_1240; omega) | omega) (by first | (clear ha2 hq0 hq1 hq2 hq3 hq4 h_1 h_2 h_3 h_4 h_5 h_6 h_7 h_8 h_9 h_10 h_11 h_12 h_13 h_14 h_15 h_16 h_69 h_70 h_71 h_86 h_966 h_1232 h_1233 h_1238 h_1239 h_1241 h_72 h_1240; omega) | omega)).trans ((nx_z (by omega)))) rfl (fun c_1252 hI_1253 hF_1254 h_1255 => ?_))
              refine bk_inl ?_
              refine v_bip rfl (by decide) ?_
              refine v_ic_ne_f (t := 90) rfl (by decide) (by first | (clear ha2 hq0 hq1 hq2 hq3 h_3 h_4 h_5 h_6 h_7 h_8 h_9 h_10 h_11 h_12 h_13 h_14 h_15 h_69 h_71 h_966 h_1232 h_1233; omega) | omega) ?_
              refine q_aload_n rfl rfl ?_
              have kn_1256 : Hid (c_1252 41 3 = e1) := (hF_1254 41 3 (fun h => absurd h.2 (ni rfl))).trans (hid kn_1251)
              refine v_cv rfl rfl rfl rfl (by decide) ⟨⟨rfl, rfl⟩, by decide, rfl⟩ (Nat.le_of_ble_eq_true rfl) (Nat.le_of_ble_eq_true rfl) (f_154 (e1 := e1) (a9 := (nx F e1 a)) (B := H) (r8 := (nx F e1 a)) (r := (hb H e1 (nx F e1 a))) hI_1253 ((hid kn_1256)) ((h_1255)) (fun j => ((hF_1254 43 j (fun h => absurd h.1 (nn rfl))).trans ((hF_1249 43 j (fun h => absurd h.1 (nn rfl))).trans ((hF_1244 43 j (fun h => absurd h.1 (nn rfl))).trans (hFc 43 j (fun q => q.elim (fun h => absurd h.1 (nn rfl)) (fun q => q.elim (fun h => absurd h.1 (nn rfl)) (fun q => q.elim (fun h => absurd h.1 (nn rfl)) (fun q => q.elim (fun h => absurd h.1 (nn rfl)) (fun q => q.elim (fun h => absurd h.1 (nn rfl)) (fun q => q.elim (fun h => absurd h (nn rfl)) (fun h => absurd h (nn rfl)))))))))))).trans (hH j)) ((nx_tr hU (by first | (clear ha2 hq0 hq1 hq2 hq3 hq4 hq5 h_1 h_2 h_3 h_4 h_5 h_6 h_7 h_8 h_9 h_10 h_11 h_12 h_13 h_14 h_15 h_16 h_69 h_71 h_86 h_966 h_1232 h_1233 h_1238 h_1239 h_1241 h_72 h_1240; omega) | omega) (by first | (clear ha2 hq0 hq1 hq2 hq3 hq4 h_1 h_2 h_3 h_4 h_5 h_6 h_7 h_8 h_9 h_10 h_11 h_12 h_13 h_14 h_15 h_16 h_69 h_70 h_71 h_86 h_966 h_1232 h_1233 h_1238 h_1239 h_1241 h_72 h_1240; omega) | omega)).trans ((nx_z (by omega)))) rfl (fun c_1257 hI_1258 hF_1259 h_1260 => ?_))
              refine bk_inl ?_
              refine v_bip rfl (by decide) ?_
              refine v_ic_ne_t (t := 51) rfl (by decide) ⟨by first | (clear ha2 hq0 hq1 hq2 hq3 h_3 h_4 h_5 h_6 h_7 h_8 h_9 h_10 h_11 h_12 h_13 h_14 h_15 h_69 h_71 h_966 h_1232 h_1233; omega) | omega, ⟨h_1241.1, h_1241.2⟩, by decide, by decide⟩ ?_
              refine q_aload_n rfl rfl ?_
              have kn_1261 : Hid (c_1257 41 3 = e1) := (hF_1259 41 3 (fun h => absurd h.2 (ni rfl))).trans (hid kn_1256)
              refine v_cv rfl rfl rfl rfl (by decide) ⟨⟨rfl, rfl⟩, by decide, rfl⟩ (Nat.le_of_ble_eq_true rfl) (Nat.le_of_ble_eq_true rfl) (f_154 (e1 := e1) (a9 := (nx F e1 a)) (B := H) (r8 := (nx F e1 a)) (r := (hb H e1 (nx F e1 a))) hI_1258 ((hid kn_1261)) ((h_1260)) (fun j => ((hF_1259 43 j (fun h => absurd h.1 (nn rfl))).trans ((hF_1254 43 j (fun h => absurd h.1 (nn rfl))).trans ((hF_1249 43 j (fun h => absurd h.1 (nn rfl))).trans ((hF_1244 43 j (fun h => absurd h.1 (nn rfl))).trans (hFc 43 j (fun q => q.elim (fun h => absurd h.1 (nn rfl)) (fun q => q.elim (fun h => absurd h.1 (nn rfl)) (fun q => q.elim (fun h => absurd h.1 (nn rfl)) (fun q => q.elim (fun h => absurd h.1 (nn rfl)) (fun q => q.elim (fun h => absurd h.1 (nn rfl)) (fun q => q.elim (fun h => absurd h (nn rfl)) (fun h => absurd h (nn rfl))))))))))))).trans (hH j)) ((nx_tr hU (by first | (clear ha2 hq0 hq1 hq2 hq3 hq4 hq5 h_1 h_2 h_3 h_4 h_5 h_6 h_7 h_8 h_9 h_10 h_11 h_12 h_13 h_14 h_15 h_16 h_69 h_71 h_86 h_966 h_1232 h_1233 h_1238 h_1239 h_1241 h_72 h_1240; omega) | omega) (by first | (clear ha2 hq0 hq1 hq2 hq3 hq4 h_1 h_2 h_3 h_4 h_5 h_6 h_7 h_8 h_9 h_10 h_11 h_12 h_13 h_14 h_15 h_16 h_69 h_70 h_71 h_86 h_966 h_1232 h_1233 h_1238 h_1239 h_1241 h_72 h_1240; omega) | omega)).trans ((nx_z (by omega)))) rfl (fun c_1262 hI_1263 hF_1264 h_1265 => ?_))
              refine bk_inl ?_
              refine v_bip rfl (by decide) ?_
              refine v_ic_ne_t (t := 64) rfl (by decide) ⟨by first | (clear ha2 hq0 hq1 hq2 hq3 h_3 h_4 h_5 h_6 h_7 h_8 h_9 h_10 h_11 h_12 h_13 h_14 h_15 h_69 h_71 h_966 h_1232 h_1233; omega) | omega, ⟨h_1241.1, h_1241.2⟩, by decide, by decide⟩ ?_
              refine v_bip rfl (by decide) ?_
              refine q_istore_n rfl (by decide) ?_
              refine q_aload_n rfl rfl ?_
              refine q_dup rfl rfl ?_
              refine v_gi (z := 4) (v := (nx F e1 a)) rfl rfl rfl (by decide) rfl rfl (h_1265) ?_
              refine q_iconst rfl ?_
              refine v_iadd (v := (nx F e1 a) + 1) rfl rfl ?_
              refine v_pi (z := 4) rfl rfl rfl (by decide) rfl rfl rfl (by decide) ?_
              refine q_aload_n rfl rfl ?_
              have kn_1266 : Hid (c_1242 41 5 = (-1)) := (hF_1244 41 5 (fun h => absurd h.2 (ni rfl))).trans (hc_1)
              have kn_1267 : Hid (c_1247 41 5 = (-1)) := (hF_1249 41 5 (fun h => absurd h.2 (ni rfl))).trans (hid kn_1266)
              have kn_1268 : Hid (c_1252 41 5 = (-1)) := (hF_1254 41 5 (fun h => absurd h.2 (ni rfl))).trans (hid kn_1267)
              have kn_1269 : Hid (c_1257 41 5 = (-1)) := (hF_1259 41 5 (fun h => absurd h.2 (ni rfl))).trans (hid kn_1268)
              have kn_1270 : Hid (c_1262 41 5 = (-1)) := (hF_1264 41 5 (fun h => absurd h.2 (ni rfl))).trans (hid kn_1269)
              have hI_1271 := iw_41_4 (v := (nx F e1 a) + 1) hI_1263 ⟨by first | exact rgp_l (rg_be h_70 (ha.1) ((rg_eq hg_e1 h_1).2)).1 (by decide) | omega, by first | exact rgp_h (rg_be h_70 (ha.1) ((rg_eq hg_e1 h_1).2)).2 (by decide) | omega⟩
              have kn_1272 : Hid (c_83 1 1 = e1) := (hF_85 1 1 (fun h => absurd h.2 (ni rfl))).trans (hid kn_68)
              have kn_1273 : Hid (c_1262 41 3 = e1) := (hF_1264 41 3 (fun h => absurd h.2 (ni rfl))).trans (hid kn_1261)
              have kn_1274 : Hid (c_83 1 5 = (-1)) := (hF_85 1 5 (fun h => absurd h.2 (ni rfl))).trans (hc_2)
              have kn_1275 : Hid (c_83 (A + 7) 5 = nw) := (hF_85 (A + 7) 5 (fun h => absurd h.1 (np hA rfl rfl))).trans (hg_nw)
              have kn_1276 : Hid (c_1242 41 29 = nw) := (hF_1244 41 29 (fun h => absurd h.2 (ni rfl))).trans (hr_nw)
              have kn_1277 : Hid (c_1247 41 29 = nw) := (hF_1249 41 29 (fun h => absurd h.2 (ni rfl))).trans (hid kn_1276)
              have kn_1278 : Hid (c_1252 41 29 = nw) := (hF_1254 41 29 (fun h => absurd h.2 (ni rfl))).trans (hid kn_1277)
              have kn_1279 : Hid (c_1257 41 29 = nw) := (hF_1259 41 29 (fun h => absurd h.2 (ni rfl))).trans (hid kn_1278)
              have kn_1280 : Hid (c_1262 41 29 = nw) := (hF_1264 41 29 (fun h => absurd h.2 (ni rfl))).trans (hid kn_1279)
              have kn_1281 : Hid (c_1242 41 7 = a2) := (hF_1244 41 7 (fun h => absurd h.2 (ni rfl))).trans (hc_3)
              have kn_1282 : Hid (c_1247 41 7 = a2) := (hF_1249 41 7 (fun h => absurd h.2 (ni rfl))).trans (hid kn_1281)
              have kn_1283 : Hid (c_1252 41 7 = a2) := (hF_1254 41 7 (fun h => absurd h.2 (ni rfl))).trans (hid kn_1282)
              have kn_1284 : Hid (c_1257 41 7 = a2) := (hF_1259 41 7 (fun h => absurd h.2 (ni rfl))).trans (hid kn_1283)
              have kn_1285 : Hid (c_1262 41 7 = a2) := (hF_1264 41 7 (fun h => absurd h.2 (ni rfl))).trans (hid kn_1284)
              have h_1286 : c_83 1 4 = 0 := (hid kn_961)
              have h_1287 : c_83 1 2 = (nx F e1 a) + 1 := (hz_87)
              have h_1288 : c_83 1 5 = (-1) := (hid kn_1274)
              have h_1289 : (up c_1262 41 4 ((nx F e1 a) + 1)) 41 5 = (-1) := ((up_n (by decide)).trans (hid kn_1270))
              have h_1290 : (up c_1262 41 4 ((nx F e1 a) + 1)) 41 4 = (nx F e1 a) + 1 := (up_e rfl)
              have h_1291 := ir_41_6 hI2
              have kn_1292 : Hid (c_1242 41 6 = c2 41 6) := hF_1244 41 6 (fun h => absurd h.2 (ni rfl))
              have kn_1293 : Hid (c_1247 41 6 = c2 41 6) := (hF_1249 41 6 (fun h => absurd h.2 (ni rfl))).trans (hid kn_1292)
              have kn_1294 : Hid (c_1252 41 6 = c2 41 6) := (hF_1254 41 6 (fun h => absurd h.2 (ni rfl))).trans (hid kn_1293)
              have kn_1295 : Hid (c_1257 41 6 = c2 41 6) := (hF_1259 41 6 (fun h => absurd h.2 (ni rfl))).trans (hid kn_1294)
              have kn_1296 : Hid (c_1262 41 6 = c2 41 6) := (hF_1264 41 6 (fun h => absurd h.2 (ni rfl))).trans (hid kn_1295)
              have h_1297 : (up c_1262 41 4 ((nx F e1 a) + 1)) 41 6 = c2 41 6 := ((up_n (by decide)).trans (hid kn_1296))
              have hA_1298 : Ce nw (c_83 (A + 9)) ((up c_1262 41 4 ((nx F e1 a) + 1)) 50) ((up c_1262 41 4 ((nx F e1 a) + 1)) 51) := ce_fr hrl0 (fun j => hF_85 (A + 9) j (fun h => absurd h.1 (np hA rfl rfl))) (fun j => (up_c (nn rfl)).trans ((hF_1264 50 j (fun h => absurd h.1 (nn rfl))).trans ((hF_1259 50 j (fun h => absurd h.1 (nn rfl))).trans ((hF_1254 50 j (fun h => absurd h.1 (nn rfl))).trans ((hF_1249 50 j (fun h => absurd h.1 (nn rfl))).trans (hF_1244 50 j (fun h => absurd h.1 (nn rfl)))))))) (fun j => (up_c (nn rfl)).trans ((hF_1264 51 j (fun h => absurd h.1 (nn rfl))).trans ((hF_1259 51 j (fun h => absurd h.1 (nn rfl))).trans ((hF_1254 51 j (fun h => absurd h.1 (nn rfl))).trans ((hF_1249 51 j (fun h => absurd h.1 (nn rfl))).trans (hF_1244 51 j (fun h => absurd h.1 (nn rfl))))))))
              refine v_cv rfl rfl rfl rfl (by decide) ⟨⟨rfl, rfl⟩, by decide, rfl⟩ (Nat.le_of_ble_eq_true rfl) (Nat.le_of_ble_eq_true rfl) (L_14 (m := c_83) (a2 := a2) (e1 := e1) (f0 := 0) (g0 := (-1)) (p0 := (nx F e1 a) + 1) (n0 := nw) (o0 := a2) (F := F) (H := H) hI_1271 hI_84 hI_963 hA (show 0 ≤ a2 ∧ a2 ≤ 6 from ha2) (by first | (clear ha2 hq0 hq1 hq2 hq3 hq4 hq5 h_1 h_2 h_3 h_4 h_5 h_6 h_7 h_8 h_9 h_10 h_11 h_12 h_13 h_14 h_15 h_16 h_69 h_70 h_71 h_86 h_966 h_1232 h_1233 h_1238 h_1239 h_1241 h_72 h_1240; omega) | omega) (by first | (clear ha2 hq0 hq1 hq2 hq3 hq4 hq5 h_1 h_2 h_3 h_4 h_5 h_6 h_7 h_8 h_9 h_10 h_11 h_12 h_13 h_14 h_15 h_16 h_69 h_70 h_71 h_86 h_966 h_1232 h_1233 h_1238 h_1239 h_1241 h_72 h_1240; omega) | omega) (by first | (clear ha2 hq0 hq1 hq2 hq3 hq4 hq5 h_1 h_2 h_3 h_4 h_5 h_6 h_7 h_8 h_9 h_10 h_11 h_12 h_13 h_14 h_15 h_16 h_69 h_70 h_71 h_86 h_966 h_1232 h_1233 h_1238 h_1239 h_1241 h_72 h_1240; omega) | omega) (by first | (clear ha2 hq0 hq1 hq2 hq4 hq5 h_1 h_2 h_3 h_4 h_5 h_6 h_7 h_8 h_9 h_10 h_11 h_12 h_13 h_14 h_15 h_69 h_71 h_86 h_966 h_1232 h_1233 h_1238 h_1239 h_1241 h_72 h_1240; omega) | omega) (by first | (clear ha2 hq0 hq1 hq2 hq3 hq4 hq5 h_1 h_2 h_3 h_4 h_5 h_6 h_7 h_8 h_9 h_10 h_11 h_12 h_13 h_14 h_15 h_16 h_69 h_70 h_71 h_966 h_1232 h_1233 h_1238 h_1239 h_1241 h_72 h_1240; omega) | omega) (by first | (clear ha2 hq0 hq1 hq2 hq3 hq4 h_1 h_2 h_3 h_4 h_5 h_6 h_7 h_8 h_9 h_10 h_11 h_12 h_13 h_14 h_15 h_16 h_69 h_70 h_71 h_86 h_966 h_1232 h_1233 h_1238 h_1239 h_1241 h_72 h_1240; omega) | omega) ((hid kn_1272)) (((up_n (by decide)).trans (hid kn_1273))) ((hid kn_961)) ((hid kn_1274)) ((hz_87)) ((hid kn_1275)) (((up_n (by decide)).trans (hid kn_1280))) (((up_n (by decide)).trans (hid kn_1285))) (fun j => ((hF_85 2 j (fun h => absurd h.1 (nn rfl))).trans (hFm 2 j (fun q => q.elim (fun h => absurd h.1 (nn rfl)) (fun q => q.elim (fun h => absurd h.1 (nn rfl)) (fun q => q.elim (fun h => absurd h.1 (nn rfl)) (fun q => q.elim (fun h => absurd h.1 (pn hA rfl rfl)) (fun h => absurd h (pn hA rfl rfl)))))))).trans (hF j)) (fun j => ((up_c (nn rfl)).trans ((hF_1264 43 j (fun h => absurd h.1 (nn rfl))).trans ((hF_1259 43 j (fun h => absurd h.1 (nn rfl))).trans ((hF_1254 43 j (fun h => absurd h.1 (nn rfl))).trans ((hF_1249 43 j (fun h => absurd h.1 (nn rfl))).trans ((hF_1244 43 j (fun h => absurd h.1 (nn rfl))).trans (hFc 43 j (fun q => q.elim (fun h => absurd h.1 (nn rfl)) (fun q => q.elim (fun h => absurd h.1 (nn rfl)) (fun q => q.elim (fun h => absurd h.1 (nn rfl)) (fun q => q.elim (fun h => absurd h.1 (nn rfl)) (fun q => q.elim (fun h => absurd h.1 (nn rfl)) (fun q => q.elim (fun h => absurd h (nn rfl)) (fun h => absurd h (nn rfl))))))))))))))).trans (hH j)) hU (rt_i1 ⟨by first | (clear ha2 hq0 hq1 hq2 hq3 hq4 hq5 h_1 h_2 h_3 h_4 h_5 h_6 h_7 h_8 h_9 h_10 h_11 h_12 h_13 h_14 h_15 h_16 h_69 h_70 h_71 h_86 h_966 h_1232 h_1233 h_1238 h_1239 h_1241 h_1291 h_72 h_1240; omega) | omega, by first | (clear ha2 hq0 hq1 hq2 hq3 hq4 hq5 h_1 h_2 h_3 h_4 h_5 h_6 h_7 h_8 h_9 h_10 h_11 h_12 h_13 h_14 h_15 h_16 h_69 h_70 h_71 h_86 h_966 h_1232 h_1233 h_1238 h_1239 h_1241 h_1291 h_72 h_1240; omega) | omega, by first | (clear ha2 hq0 hq1 hq2 hq3 hq4 hq5 h_1 h_2 h_3 h_4 h_5 h_6 h_7 h_8 h_9 h_10 h_11 h_12 h_13 h_14 h_15 h_16 h_69 h_70 h_71 h_86 h_966 h_1232 h_1233 h_1238 h_1239 h_1241 h_1291 h_72 h_1240; omega) | omega, by first | (clear ha2 hq0 hq1 hq2 hq3 hq4 hq5 h_1 h_2 h_3 h_4 h_5 h_6 h_7 h_8 h_9 h_10 h_11 h_12 h_13 h_14 h_15 h_16 h_69 h_70 h_71 h_86 h_966 h_1232 h_1233 h_1238 h_1239 h_1241 h_1291 h_72 h_1240; omega) | omega⟩) (ce_le hA_1298 (by omega)) H13 hG_965 (fun c_1299 hI_1300 hF_1301 hR_1303 h_1304 h_1305 hA_1306 => ?_))
              refine bk_inl ?_
              have h_1307 := ir_41_29 hI_1300
              have h_1308 := ir_1_2 hI_963
              have h_1309 := ir_41_7 hI_1300
              refine q_aload_n rfl rfl ?_
              refine q_iload_n rfl rfl ?_
              refine q_iconst rfl ?_
              refine v_cv rfl rfl rfl rfl (by decide) ⟨⟨rfl, rfl⟩, by decide, rfl⟩ (Nat.le_of_ble_eq_true rfl) (Nat.le_of_ble_eq_true rfl) ?_
              refine q_aload_n rfl rfl ?_
              refine v_cv rfl rfl rfl rfl (by decide) ⟨⟨rfl, rfl⟩, by decide, rfl⟩ (Nat.le_of_ble_eq_true rfl) (Nat.le_of_ble_eq_true rfl) ?_
              refine q_aload_n rfl rfl ?_
              have h_1310 := ir_41_5 hI_1300
              have h_1311 := ir_1_5 hI_963
              have h_1312 := ir_41_4 hI_1300
              have h_1313 := ir_41_6 hI_1300
              have h_1314 := rt_ok hR_1303 (by omega)
              have hro_hR_1303 := rt_ok hR_1303 (by omega)
              refine v_gi (z := 5) (v := (-1)) rfl rfl rfl (by decide) rfl rfl hro_hR_1303.2.1 ?_
              refine q_iconst rfl ?_
              refine v_ic_ne_f (t := 12) rfl (by decide) (by decide) ?_
              refine q_iconst rfl ?_
              refine q_goto (t := 13) rfl (by decide) ?_
              refine v_zret rfl rfl (by decide) ?_
              refine bk_inl ?_
              refine v_if_ne_t (t := 8) rfl (by decide) (by decide) ?_
              refine q_aload_n rfl rfl ?_
              refine v_gr (t := 50) rfl rfl rfl (by decide) rfl ?_
              refine q_aload_n rfl rfl ?_
              refine v_gi (z := 29) (v := c_1299 41 29) rfl rfl rfl (by decide) rfl rfl rfl ?_
              refine q_iload_n rfl rfl ?_
              refine v_is rfl rfl (by decide) (by decide) (by omega) ?_
              refine q_aload_n rfl rfl ?_
              refine v_gr (t := 51) rfl rfl rfl (by decide) rfl ?_
              refine q_aload_n rfl rfl ?_
              refine v_gi (z := 29) (v := c_1299 41 29) rfl rfl rfl (by decide) rfl rfl (up_c (nn rfl)) ?_
              refine q_iload_n rfl rfl ?_
              refine v_is rfl rfl (by decide) (by decide) (by omega) ?_
              refine q_aload_n rfl rfl ?_
              refine q_dup rfl rfl ?_
              refine v_gi (z := 29) (v := c_1299 41 29) rfl rfl rfl (by decide) rfl rfl ((up_c (nn rfl)).trans (up_c (nn rfl))) ?_
              refine q_iconst rfl ?_
              refine v_iadd (v := c_1299 41 29 + 1) rfl rfl ?_
              refine v_pi (z := 29) rfl rfl rfl (by decide) rfl rfl rfl (by decide) ?_
              refine q_vret rfl rfl ?_
              refine bk_inl ?_
              refine q_goto (t := 4) rfl (by decide) ?_
              have hI_1315 := iw_50 (j := c_1299 41 29) (v := 8) hI_1300 ⟨by decide, by decide⟩
              have hI_1316 := iw_51 (j := c_1299 41 29) (v := 0) hI_1315 ⟨by decide, by decide⟩
              have hI_1317 := iw_41_29 (v := c_1299 41 29 + 1) hI_1316 ⟨by first | exact rgp_l h_1307.1 (by decide) | omega, by first | (clear ha2 hq0 hq1 hq2 hq3 h_3 h_4 h_5 h_6 h_7 h_8 h_9 h_10 h_13 h_14 h_15 h_69 h_71 h_1238 h_1239 h_1241 h_1291 h_1309 h_1305 h_1310 h_1311 h_1312 h_1313; omega) | omega⟩
              refine Wp_ls [(0, .ref 41)] (lsub_cons rfl lsub_nil) ?_
              have hA_1318 : Ce (c_1299 41 29 + 1) ((up (up c_962 (A + 9) (c_962 (A + 7) 5) 2004) (A + 7) 5 (c_962 (A + 7) 5 + 1)) (A + 9)) ((up (up (up c_1299 50 (c_1299 41 29) 8) 51 (c_1299 41 29) 0) 41 29 (c_1299 41 29 + 1)) 50) ((up (up (up c_1299 50 (c_1299 41 29) 8) 51 (c_1299 41 29) 0) 41 29 (c_1299 41 29 + 1)) 51) := ce_w (i := c_962 (A + 7) 5) (v := 2004) (w := 8) (o := 0) (hA_1306 (by omega)) (by omega) ((up_c (pp rfl)).trans (up_e rfl)) ((up_c (nn rfl)).trans ((up_c (nn rfl)).trans (up_e (by omega)))) ((up_c (nn rfl)).trans (up_e (by omega))) (fun j hj => (up_c (pp rfl)).trans (up_n hj)) (fun j hj => (up_c (nn rfl)).trans ((up_c (nn rfl)).trans (up_n (by omega)))) (fun j hj => (up_c (nn rfl)).trans ((up_n (by omega)).trans (up_c (nn rfl)))) (cr_i3 ⟨by decide, by decide, by decide⟩)
              have hA_1319 : Ce (c_962 (A + 7) 5 + 1) ((up (up c_962 (A + 9) (c_962 (A + 7) 5) 2004) (A + 7) 5 (c_962 (A + 7) 5 + 1)) (A + 9)) ((up (up (up c_1299 50 (c_1299 41 29) 8) 51 (c_1299 41 29) 0) 41 29 (c_1299 41 29 + 1)) 50) ((up (up (up c_1299 50 (c_1299 41 29) 8) 51 (c_1299 41 29) 0) 41 29 (c_1299 41 29 + 1)) 51) := ce_le hA_1318 (by omega)
              exact ih (up (up (up c_1299 50 (c_1299 41 29) 8) 51 (c_1299 41 29) 0) 41 29 (c_1299 41 29 + 1)) (up (up c_962 (A + 9) (c_962 (A + 7) 5) 2004) (A + 7) 5 (c_962 (A + 7) 5 + 1)) (v + 1) (c_962 1 2) (c_962 (A + 7) 5 + 1) hI_1317 (fun a j hm => (up_b (Decidable.or_iff_not_imp_left.mpr (fun h1 h2 => hm (Or.inr (Or.inr (Or.inr (Or.inr (Or.inl ⟨Decidable.not_not.mp h1, h2⟩)))))))).trans ((up_b (Decidable.or_iff_not_imp_left.mpr (fun h1 h2 => hm (Or.inr (Or.inr (Or.inr (Or.inr (Or.inr (Or.inr (Decidable.not_not.mp h1)))))))))).trans ((up_b (Decidable.or_iff_not_imp_left.mpr (fun h1 h2 => hm (Or.inr (Or.inr (Or.inr (Or.inr (Or.inr (Or.inl (Decidable.not_not.mp h1)))))))))).trans ((hF_1301 a j (fun q => q.elim (fun h => hm (Or.inl h)) (fun q => q.elim (fun h => hm (Or.inr (Or.inl h))) (fun q => q.elim (fun h => hm (Or.inr (Or.inr (Or.inl h)))) (fun q => q.elim (fun h => hm (Or.inr (Or.inr (Or.inr (Or.inl h))))) (fun q => q.elim (fun h => hm (Or.inr (Or.inr (Or.inr (Or.inr (Or.inl h)))))) (fun q => q.elim (fun h => hm (Or.inr (Or.inr (Or.inr (Or.inr (Or.inr (Or.inl h))))))) (fun h => hm (Or.inr (Or.inr (Or.inr (Or.inr (Or.inr (Or.inr h)))))))))))))).trans ((up_b (Decidable.or_iff_not_imp_left.mpr (fun h1 h2 => hm (Or.inl ⟨Decidable.not_not.mp h1, h2⟩)))).trans ((hF_1264 a j (fun h => hm (Or.inl h))).trans ((hF_1259 a j (fun h => hm (Or.inl h))).trans ((hF_1254 a j (fun h => hm (Or.inl h))).trans ((hF_1249 a j (fun h => hm (Or.inl h))).trans ((hF_1244 a j (fun h => hm (Or.inl h))).trans (hFc a j (fun q => q.elim (fun h => hm (Or.inl h)) (fun q => q.elim (fun h => hm (Or.inr (Or.inl h))) (fun q => q.elim (fun h => hm (Or.inr (Or.inr (Or.inl h)))) (fun q => q.elim (fun h => hm (Or.inr (Or.inr (Or.inr (Or.inl h))))) (fun q => q.elim (fun h => hm (Or.inr (Or.inr (Or.inr (Or.inr (Or.inl h)))))) (fun q => q.elim (fun h => hm (Or.inr (Or.inr (Or.inr (Or.inr (Or.inr (Or.inl h))))))) (fun h => hm (Or.inr (Or.inr (Or.inr (Or.inr (Or.inr (Or.inr h)))))))))))))))))))))))) hI_1235 (fun a j hm => (up_b (Decidable.or_iff_not_imp_left.mpr (fun h1 h2 => hm (Or.inr (Or.inr (Or.inr (Or.inl ⟨Decidable.not_not.mp h1, h2⟩))))))).trans ((up_b (Decidable.or_iff_not_imp_left.mpr (fun h1 h2 => hm (Or.inr (Or.inr (Or.inr (Or.inr (Decidable.not_not.mp h1)))))))).trans ((hF_964 a j (fun q => q.elim (fun h => hm (Or.inl h)) (fun q => q.elim (fun h => hm (Or.inr (Or.inl h))) (fun q => q.elim (fun h => hm (Or.inr (Or.inr (Or.inl h)))) (fun q => q.elim (fun h => hm (Or.inr (Or.inr (Or.inr (Or.inl h))))) (fun h => hm (Or.inr (Or.inr (Or.inr (Or.inr h)))))))))).trans ((hF_85 a j (fun h => hm (Or.inl h))).trans (hFm a j (fun q => q.elim (fun h => hm (Or.inl h)) (fun q => q.elim (fun h => hm (Or.inr (Or.inl h))) (fun q => q.elim (fun h => hm (Or.inr (Or.inr (Or.inl h)))) (fun q => q.elim (fun h => hm (Or.inr (Or.inr (Or.inr (Or.inl h))))) (fun h => hm (Or.inr (Or.inr (Or.inr (Or.inr h)))))))))))))) ⟨by omega, by omega⟩ ⟨by omega, by omega⟩ ⟨by omega, by omega⟩ (((up_c (pn hA rfl rfl)).trans (up_c (pn hA rfl rfl)))) (((((up_n (by decide)).trans ((up_c (nn rfl)).trans (up_c (nn rfl))))).trans (hro_hR_1303.2.2.1))) ((up_e rfl)) ((show _ = c_1299 41 29 + 1 from (up_e rfl)).trans (by omega)) ((show _ = c_962 1 4 from ((up_c (pn hA rfl rfl)).trans (up_c (pn hA rfl rfl)))).trans (by omega)) (((((up_n (by decide)).trans ((up_c (nn rfl)).trans (up_c (nn rfl))))).trans (hro_hR_1303.2.1))) ((show _ = c_962 1 5 from ((up_c (pn hA rfl rfl)).trans (up_c (pn hA rfl rfl)))).trans (by omega)) ((show _ = c_1299 41 7 from ((up_n (by decide)).trans ((up_c (nn rfl)).trans (up_c (nn rfl))))).trans (by omega)) (by first | (clear hq0 hq1 h_3 h_4 h_8 h_13 h_14 h_15 h_69 h_71 h_1238 h_1239 h_1241 h_1291 h_1309 h_1313; omega) | omega) (by first | (clear hq0 hq1 h_3 h_4 h_8 h_13 h_14 h_15 h_69 h_71 h_1238 h_1239 h_1241 h_1291 h_1309 h_1313; omega) | omega) (by first | (clear ha2 hq0 hq1 hq2 hq3 h_3 h_4 h_5 h_6 h_7 h_8 h_9 h_10 h_11 h_12 h_13 h_14 h_15 h_69 h_71 h_966 h_1232 h_1233 h_1238 h_1239 h_1241 h_1291 h_1307 h_1309 h_1305 h_1310 h_1311 h_1312 h_1313; omega) | omega) (by first | (clear hq0 hq1 h_3 h_4 h_8 h_13 h_14 h_15 h_69 h_71 h_1238 h_1239 h_1241 h_1291 h_1309 h_1313; omega) | omega) (ce_le hA_1319 (by omega)) hG_1236 (by omega)
            · skip
              refine q_iload_n rfl rfl ?_
              refine v_sip rfl (by decide) ?_
              by_cases h_1320 : v + 1 ≥ 150
              · refine v_ic_ge_t (t := 59) rfl (by decide) ⟨by decide, h_1320, by first | exact rgp_h hv.2 (by decide) | omega⟩ ?_
                refine q_vret rfl rfl ?_
                have hI_1321 := iw_lg (j := c_962 (A + 7) 5) (v := 2004) hI_963 (lgp (k := 9) hA (by decide)) ⟨by decide, by decide⟩ (by omega)
                have hI_1322 := iw_p7_5 (v := c_962 (A + 7) 5 + 1) hI_1321 hA ⟨by first | exact rgp_l h_966.1 (by decide) | omega, by first | (clear ha2 hq0 hq1 hq2 hq3 hq4 hq5 h_1 h_2 h_3 h_4 h_5 h_6 h_7 h_8 h_9 h_10 h_11 h_12 h_13 h_14 h_15 h_16 h_69 h_70 h_71 h_86 h_966 h_1232 h_1320 h_72; omega) | omega⟩
                intro hE_1323
                have hW : Wd P Q P P (up (up c_962 (A + 9) (c_962 (A + 7) 5) 2004) (A + 7) 5 (c_962 (A + 7) 5 + 1)) = Wd P Q P P m9 := (Prod.mk.inj (Prod.mk.inj hE_1323).2).1
                have h_1324 := ir_1_4 hJ9
                have h_1325 : m9 1 4 = c_962 1 4 := wd_fv (z := 4) 4 rfl hW rfl rfl rfl rfl (by decide) ((up_c (pn hA rfl rfl)).trans (up_c (pn hA rfl rfl))) ⟨(Int.le_trans (by decide) h_1232.1), (Int.le_trans h_1232.2 (by decide))⟩ ⟨(Int.le_trans (by decide) h_1324.1), (Int.le_trans h_1324.2 (by decide))⟩
                have h_1326 := ir_1_2 hI_963
                have h_1327 := ir_1_2 hJ9
                have h_1328 : m9 1 2 = c_962 1 2 := wd_fv (z := 2) 2 rfl hW rfl rfl rfl rfl (by decide) ((up_c (pn hA rfl rfl)).trans (up_c (pn hA rfl rfl))) ⟨(Int.le_trans (by decide) h_1326.1), (Int.le_trans h_1326.2 (by decide))⟩ ⟨(Int.le_trans (by decide) h_1327.1), (Int.le_trans h_1327.2 (by decide))⟩
                have h_1329 := ir_1_5 hI_963
                have h_1330 := ir_1_5 hJ9
                have h_1331 : m9 1 5 = c_962 1 5 := wd_fv (z := 5) 5 rfl hW rfl rfl rfl rfl (by decide) ((up_c (pn hA rfl rfl)).trans (up_c (pn hA rfl rfl))) ⟨(Int.le_trans (by decide) h_1329.1), (Int.le_trans h_1329.2 (by decide))⟩ ⟨(Int.le_trans (by decide) h_1330.1), (Int.le_trans h_1330.2 (by decide))⟩
                have h_1332 := ir_p7_5 hJ9 hA
                have h_1333 : m9 (A + 7) 5 = c_962 (A + 7) 5 + 1 := wd_fv (z := 5) 5 rfl hW (ck_p7 hA) (ck_p7 hA) rfl rfl (by omega) (up_e rfl) ⟨by first | exact rgp_l h_966.1 (by decide) | omega, by first | exact rgp_h h_966.2 (by decide) | omega⟩ ⟨(Int.le_trans (by decide) h_1332.1), (Int.le_trans h_1332.2 (by decide))⟩
                refine q_aload_n rfl rfl ?_
                refine v_cv rfl rfl rfl rfl (by decide) ⟨⟨rfl, rfl⟩, by decide, rfl⟩ (Nat.le_of_ble_eq_true rfl) (Nat.le_of_ble_eq_true rfl) ?_
                refine q_aload_n rfl rfl ?_
                refine v_gi (z := 5) (v := (-1)) rfl rfl rfl (by decide) rfl rfl (hc_1) ?_
                refine q_iconst rfl ?_
                refine v_ic_ne_f (t := 12) rfl (by decide) (by decide) ?_
                refine q_iconst rfl ?_
                refine q_goto (t := 13) rfl (by decide) ?_
                refine v_zret rfl rfl (by decide) ?_
                refine bk_inl ?_
                refine v_if_eq_f (t := 90) rfl (by decide) (by decide) ?_
                refine q_aload_n rfl rfl ?_
                have kn_1334 : Hid (c2 41 3 = e1) := (hFc 41 3 (fun q => q.elim (fun h => absurd h.2 (ni rfl)) (fun q => q.elim (fun h => absurd h.2 (ni rfl)) (fun q => q.elim (fun h => absurd h.2 (ni rfl)) (fun q => q.elim (fun h => absurd h.2 (ni rfl)) (fun q => q.elim (fun h => absurd h.2 (ni rfl)) (fun q => q.elim (fun h => absurd h (nn rfl)) (fun h => absurd h (nn rfl))))))))).trans (hr_e1)
                have h_1335 : -2147483648 ≤ (H (nx F e1 a)) ∧ (H (nx F e1 a)) ≤ 2147483647 := by rw [← hH (nx F e1 a)]; exact ir_43 hI (nx F e1 a)
                have h_1336 := hU (nx F e1 a) (by omega) (by omega)
                have h_1337 := hb_or (b := H) (e := e1) (r := (nx F e1 a))
                have h_1338 := hb_bd (b := H) (e := e1) (r := (nx F e1 a)) (lo := -2147483648) (hi := 2147483647) h_1335 (by decide)
                refine v_cv rfl rfl rfl rfl (by decide) ⟨⟨rfl, rfl⟩, by decide, rfl⟩ (Nat.le_of_ble_eq_true rfl) (Nat.le_of_ble_eq_true rfl) (f_154 (e1 := e1) (a9 := a) (B := H) (r8 := (nx F e1 a)) (r := (hb H e1 (nx F e1 a))) hI2 ((hid kn_1334)) ((hr_a)) (fun j => (hFc 43 j (fun q => q.elim (fun h => absurd h.1 (nn rfl)) (fun q => q.elim (fun h => absurd h.1 (nn rfl)) (fun q => q.elim (fun h => absurd h.1 (nn rfl)) (fun q => q.elim (fun h => absurd h.1 (nn rfl)) (fun q => q.elim (fun h => absurd h.1 (nn rfl)) (fun q => q.elim (fun h => absurd h (nn rfl)) (fun h => absurd h (nn rfl))))))))).trans (hH j)) ((nx_tr hU (by first | (clear ha2 hq0 hq1 hq2 hq3 hq4 hq5 h_1 h_2 h_3 h_4 h_5 h_6 h_7 h_8 h_9 h_10 h_11 h_12 h_13 h_14 h_15 h_69 h_70 h_71 h_86 h_966 h_1232 h_1324 h_1325 h_1326 h_1327 h_1328 h_1329 h_1330 h_1331 h_1332 h_1333 h_72; omega) | omega) (by first | (clear ha2 hq0 hq1 hq2 hq3 hq4 h_1 h_2 h_3 h_4 h_5 h_6 h_7 h_8 h_9 h_10 h_11 h_12 h_13 h_14 h_15 h_16 h_69 h_70 h_71 h_86 h_966 h_1232 h_1320 h_1324 h_1325 h_1326 h_1327 h_1328 h_1329 h_1330 h_1331 h_1332 h_1333 h_72; omega) | omega)).trans (rfl)) rfl (fun c_1339 hI_1340 hF_1341 h_1342 => ?_))
                refine bk_inl ?_
                refine v_bip rfl (by decide) ?_
                refine v_ic_eq_f (t := 38) rfl (by decide) ⟨by first | (clear ha2 hq0 hq1 hq2 hq3 h_3 h_4 h_5 h_6 h_7 h_8 h_9 h_10 h_11 h_12 h_13 h_14 h_15 h_69 h_71 h_966 h_1232 h_1320 h_1324 h_1325 h_1326 h_1327 h_1328 h_1329 h_1330 h_1331 h_1332 h_1333; omega) | omega, ⟨h_1338.1, h_1338.2⟩, by decide, by decide⟩ ?_
                refine q_aload_n rfl rfl ?_
                have kn_1343 : Hid (c_1339 41 3 = e1) := (hF_1341 41 3 (fun h => absurd h.2 (ni rfl))).trans (hid kn_1334)
                refine v_cv rfl rfl rfl rfl (by decide) ⟨⟨rfl, rfl⟩, by decide, rfl⟩ (Nat.le_of_ble_eq_true rfl) (Nat.le_of_ble_eq_true rfl) (f_154 (e1 := e1) (a9 := (nx F e1 a)) (B := H) (r8 := (nx F e1 a)) (r := (hb H e1 (nx F e1 a))) hI_1340 ((hid kn_1343)) ((h_1342)) (fun j => ((hF_1341 43 j (fun h => absurd h.1 (nn rfl))).trans (hFc 43 j (fun q => q.elim (fun h => absurd h.1 (nn rfl)) (fun q => q.elim (fun h => absurd h.1 (nn rfl)) (fun q => q.elim (fun h => absurd h.1 (nn rfl)) (fun q => q.elim (fun h => absurd h.1 (nn rfl)) (fun q => q.elim (fun h => absurd h.1 (nn rfl)) (fun q => q.elim (fun h => absurd h (nn rfl)) (fun h => absurd h (nn rfl)))))))))).trans (hH j)) ((nx_tr hU (by first | (clear ha2 hq0 hq1 hq2 hq3 hq4 hq5 h_1 h_2 h_3 h_4 h_5 h_6 h_7 h_8 h_9 h_10 h_11 h_12 h_13 h_14 h_15 h_69 h_71 h_86 h_966 h_1232 h_1324 h_1325 h_1326 h_1327 h_1328 h_1329 h_1330 h_1331 h_1332 h_1333 h_1335 h_1336 h_1338 h_72 h_1337; omega) | omega) (by first | (clear ha2 hq0 hq1 hq2 hq3 hq4 h_1 h_2 h_3 h_4 h_5 h_6 h_7 h_8 h_9 h_10 h_11 h_12 h_13 h_14 h_15 h_16 h_69 h_70 h_71 h_86 h_966 h_1232 h_1320 h_1324 h_1325 h_1326 h_1327 h_1328 h_1329 h_1330 h_1331 h_1332 h_1333 h_1335 h_1336 h_1338 h_72 h_1337; omega) | omega)).trans ((nx_z (by omega)))) rfl (fun c_1344 hI_1345 hF_1346 h_1347 => ?_))
                refine bk_inl ?_
                refine v_bip rfl (by decide) ?_
                refine v_ic_eq_f (t := 38) rfl (by decide) ⟨by first | (clear ha2 hq0 hq1 hq2 hq3 h_3 h_4 h_5 h_6 h_7 h_8 h_9 h_10 h_11 h_12 h_13 h_14 h_15 h_69 h_71 h_966 h_1232 h_1320 h_1324 h_1325 h_1326 h_1327 h_1328 h_1329 h_1330 h_1331 h_1332 h_1333; omega) | omega, ⟨h_1338.1, h_1338.2⟩, by decide, by decide⟩ ?_
                refine q_aload_n rfl rfl ?_
                have kn_1348 : Hid (c_1344 41 3 = e1) := (hF_1346 41 3 (fun h => absurd h.2 (ni rfl))).trans (hid kn_1343)
                refine v_cv rfl rfl rfl rfl (by decide) ⟨⟨rfl, rfl⟩, by decide, rfl⟩ (Nat.le_of_ble_eq_true rfl) (Nat.le_of_ble_eq_true rfl) (f_154 (e1 := e1) (a9 := (nx F e1 a)) (B := H) (r8 := (nx F e1 a)) (r := (hb H e1 (nx F e1 a))) hI_1345 ((hid kn_1348)) ((h_1347)) (fun j => ((hF_1346 43 j (fun h => absurd h.1 (nn rfl))).trans ((hF_1341 43 j (fun h => absurd h.1 (nn rfl))).trans (hFc 43 j (fun q => q.elim (fun h => absurd h.1 (nn rfl)) (fun q => q.elim (fun h => absurd h.1 (nn rfl)) (fun q => q.elim (fun h => absurd h.1 (nn rfl)) (fun q => q.elim (fun h => absurd h.1 (nn rfl)) (fun q => q.elim (fun h => absurd h.1 (nn rfl)) (fun q => q.elim (fun h => absurd h (nn rfl)) (fun h => absurd h (nn rfl))))))))))).trans (hH j)) ((nx_tr hU (by first | (clear ha2 hq0 hq1 hq2 hq3 hq4 hq5 h_1 h_2 h_3 h_4 h_5 h_6 h_7 h_8 h_9 h_10 h_11 h_12 h_13 h_14 h_15 h_69 h_71 h_86 h_966 h_1232 h_1324 h_1325 h_1326 h_1327 h_1328 h_1329 h_1330 h_1331 h_1332 h_1333 h_1335 h_1336 h_1338 h_72 h_1337; omega) | omega) (by first | (clear ha2 hq0 hq1 hq2 hq3 hq4 h_1 h_2 h_3 h_4 h_5 h_6 h_7 h_8 h_9 h_10 h_11 h_12 h_13 h_14 h_15 h_16 h_69 h_70 h_71 h_86 h_966 h_1232 h_1320 h_1324 h_1325 h_1326 h_1327 h_1328 h_1329 h_1330 h_1331 h_1332 h_1333 h_1335 h_1336 h_1338 h_72 h_1337; omega) | omega)).trans ((nx_z (by omega)))) rfl (fun c_1349 hI_1350 hF_1351 h_1352 => ?_))
                refine bk_inl ?_
                refine v_bip rfl (by decide) ?_
                refine v_ic_ne_f (t := 90) rfl (by decide) (by first | (clear ha2 hq0 hq1 hq2 hq3 h_3 h_4 h_5 h_6 h_7 h_8 h_9 h_10 h_11 h_12 h_13 h_14 h_15 h_69 h_71 h_966 h_1232 h_1320 h_1324 h_1325 h_1326 h_1327 h_1328 h_1329 h_1330 h_1331 h_1332 h_1333; omega) | omega) ?_
                refine q_aload_n rfl rfl ?_
                have kn_1353 : Hid (c_1349 41 3 = e1) := (hF_1351 41 3 (fun h => absurd h.2 (ni rfl))).trans (hid kn_1348)
                refine v_cv rfl rfl rfl rfl (by decide) ⟨⟨rfl, rfl⟩, by decide, rfl⟩ (Nat.le_of_ble_eq_true rfl) (Nat.le_of_ble_eq_true rfl) (f_154 (e1 := e1) (a9 := (nx F e1 a)) (B := H) (r8 := (nx F e1 a)) (r := (hb H e1 (nx F e1 a))) hI_1350 ((hid kn_1353)) ((h_1352)) (fun j => ((hF_1351 43 j (fun h => absurd h.1 (nn rfl))).trans ((hF_1346 43 j (fun h => absurd h.1 (nn rfl))).trans ((hF_1341 43 j (fun h => absurd h.1 (nn rfl))).trans (hFc 43 j (fun q => q.elim (fun h => absurd h.1 (nn rfl)) (fun q => q.elim (fun h => absurd h.1 (nn rfl)) (fun q => q.elim (fun h => absurd h.1 (nn rfl)) (fun q => q.elim (fun h => absurd h.1 (nn rfl)) (fun q => q.elim (fun h => absurd h.1 (nn rfl)) (fun q => q.elim (fun h => absurd h (nn rfl)) (fun h => absurd h (nn rfl)))))))))))).trans (hH j)) ((nx_tr hU (by first | (clear ha2 hq0 hq1 hq2 hq3 hq4 hq5 h_1 h_2 h_3 h_4 h_5 h_6 h_7 h_8 h_9 h_10 h_11 h_12 h_13 h_14 h_15 h_69 h_71 h_86 h_966 h_1232 h_1324 h_1325 h_1326 h_1327 h_1328 h_1329 h_1330 h_1331 h_1332 h_1333 h_1335 h_1336 h_1338 h_72 h_1337; omega) | omega) (by first | (clear ha2 hq0 hq1 hq2 hq3 hq4 h_1 h_2 h_3 h_4 h_5 h_6 h_7 h_8 h_9 h_10 h_11 h_12 h_13 h_14 h_15 h_16 h_69 h_70 h_71 h_86 h_966 h_1232 h_1320 h_1324 h_1325 h_1326 h_1327 h_1328 h_1329 h_1330 h_1331 h_1332 h_1333 h_1335 h_1336 h_1338 h_72 h_1337; omega) | omega)).trans ((nx_z (by omega)))) rfl (fun c_1354 hI_1355 hF_1356 h_1357 => ?_))
                refine bk_inl ?_
                refine v_bip rfl (by decide) ?_
                refine v_ic_ne_t (t := 51) rfl (by decide) ⟨by first | (clear ha2 hq0 hq1 hq2 hq3 h_3 h_4 h_5 h_6 h_7 h_8 h_9 h_10 h_11 h_12 h_13 h_14 h_15 h_69 h_71 h_966 h_1232 h_1320 h_1324 h_1325 h_1326 h_1327 h_1328 h_1329 h_1330 h_1331 h_1332 h_1333; omega) | omega, ⟨h_1338.1, h_1338.2⟩, by decide, by decide⟩ ?_
                refine q_aload_n rfl rfl ?_
                have kn_1358 : Hid (c_1354 41 3 = e1) := (hF_1356 41 3 (fun h => absurd h.2 (ni rfl))).trans (hid kn_1353)
                refine v_cv rfl rfl rfl rfl (by decide) ⟨⟨rfl, rfl⟩, by decide, rfl⟩ (Nat.le_of_ble_eq_true rfl) (Nat.le_of_ble_eq_true rfl) (f_154 (e1 := e1) (a9 := (nx F e1 a)) (B := H) (r8 := (nx F e1 a)) (r := (hb H e1 (nx F e1 a))) hI_1355 ((hid kn_1358)) ((h_1357)) (fun j => ((hF_1356 43 j (fun h => absurd h.1 (nn rfl))).trans ((hF_1351 43 j (fun h => absurd h.1 (nn rfl))).trans ((hF_1346 43 j (fun h => absurd h.1 (nn rfl))).trans ((hF_1341 43 j (fun h => absurd h.1 (nn rfl))).trans (hFc 43 j (fun q => q.elim (fun h => absurd h.1 (nn rfl)) (fun q => q.elim (fun h => absurd h.1 (nn rfl)) (fun q => q.elim (fun h => absurd h.1 (nn rfl)) (fun q => q.elim (fun h => absurd h.1 (nn rfl)) (fun q => q.elim (fun h => absurd h.1 (nn rfl)) (fun q => q.elim (fun h => absurd h (nn rfl)) (fun h => absurd h (nn rfl))))))))))))).trans (hH j)) ((nx_tr hU (by first | (clear ha2 hq0 hq1 hq2 hq3 hq4 hq5 h_1 h_2 h_3 h_4 h_5 h_6 h_7 h_8 h_9 h_10 h_11 h_12 h_13 h_14 h_15 h_69 h_71 h_86 h_966 h_1232 h_1324 h_1325 h_1326 h_1327 h_1328 h_1329 h_1330 h_1331 h_1332 h_1333 h_1335 h_1336 h_1338 h_72 h_1337; omega) | omega) (by first | (clear ha2 hq0 hq1 hq2 hq3 hq4 h_1 h_2 h_3 h_4 h_5 h_6 h_7 h_8 h_9 h_10 h_11 h_12 h_13 h_14 h_15 h_16 h_69 h_70 h_71 h_86 h_966 h_1232 h_1320 h_1324 h_1325 h_1326 h_1327 h_1328 h_1329 h_1330 h_1331 h_1332 h_1333 h_1335 h_1336 h_1338 h_72 h_1337; omega) | omega)).trans ((nx_z (by omega)))) rfl (fun c_1359 hI_1360 hF_1361 h_1362 => ?_))
                refine bk_inl ?_
                refine v_bip rfl (by decide) ?_
                refine v_ic_ne_t (t := 64) rfl (by decide) ⟨by first | (clear ha2 hq0 hq1 hq2 hq3 h_3 h_4 h_5 h_6 h_7 h_8 h_9 h_10 h_11 h_12 h_13 h_14 h_15 h_69 h_71 h_966 h_1232 h_1320 h_1324 h_1325 h_1326 h_1327 h_1328 h_1329 h_1330 h_1331 h_1332 h_1333; omega) | omega, ⟨h_1338.1, h_1338.2⟩, by decide, by decide⟩ ?_
                refine v_bip rfl (by decide) ?_
                refine q_istore_n rfl (by decide) ?_
                refine q_aload_n rfl rfl ?_
                refine q_dup rfl rfl ?_
                refine v_gi (z := 4) (v := (nx F e1 a)) rfl rfl rfl (by decide) rfl rfl (h_1362) ?_
                refine q_iconst rfl ?_
                refine v_iadd (v := (nx F e1 a) + 1) rfl rfl ?_
                refine v_pi (z := 4) rfl rfl rfl (by decide) rfl rfl rfl (by decide) ?_
                refine q_aload_n rfl rfl ?_
                have kn_1363 : Hid (c_1339 41 5 = (-1)) := (hF_1341 41 5 (fun h => absurd h.2 (ni rfl))).trans (hc_1)
                have kn_1364 : Hid (c_1344 41 5 = (-1)) := (hF_1346 41 5 (fun h => absurd h.2 (ni rfl))).trans (hid kn_1363)
                have kn_1365 : Hid (c_1349 41 5 = (-1)) := (hF_1351 41 5 (fun h => absurd h.2 (ni rfl))).trans (hid kn_1364)
                have kn_1366 : Hid (c_1354 41 5 = (-1)) := (hF_1356 41 5 (fun h => absurd h.2 (ni rfl))).trans (hid kn_1365)
                have kn_1367 : Hid (c_1359 41 5 = (-1)) := (hF_1361 41 5 (fun h => absurd h.2 (ni rfl))).trans (hid kn_1366)
                have hI_1368 := iw_41_4 (v := (nx F e1 a) + 1) hI_1360 ⟨by first | exact rgp_l (rg_be h_70 (ha.1) ((rg_eq hg_e1 h_1).2)).1 (by decide) | omega, by first | exact rgp_h (rg_be h_70 (ha.1) ((rg_eq hg_e1 h_1).2)).2 (by decide) | omega⟩
                have kn_1369 : Hid (c_83 1 1 = e1) := (hF_85 1 1 (fun h => absurd h.2 (ni rfl))).trans (hid kn_68)
                have kn_1370 : Hid (c_1359 41 3 = e1) := (hF_1361 41 3 (fun h => absurd h.2 (ni rfl))).trans (hid kn_1358)
                have kn_1371 : Hid (c_83 1 5 = (-1)) := (hF_85 1 5 (fun h => absurd h.2 (ni rfl))).trans (hc_2)
                have kn_1372 : Hid (c_83 (A + 7) 5 = nw) := (hF_85 (A + 7) 5 (fun h => absurd h.1 (np hA rfl rfl))).trans (hg_nw)
                have kn_1373 : Hid (c_1339 41 29 = nw) := (hF_1341 41 29 (fun h => absurd h.2 (ni rfl))).trans (hr_nw)
                have kn_1374 : Hid (c_1344 41 29 = nw) := (hF_1346 41 29 (fun h => absurd h.2 (ni rfl))).trans (hid kn_1373)
                have kn_1375 : Hid (c_1349 41 29 = nw) := (hF_1351 41 29 (fun h => absurd h.2 (ni rfl))).trans (hid kn_1374)
                have kn_1376 : Hid (c_1354 41 29 = nw) := (hF_1356 41 29 (fun h => absurd h.2 (ni rfl))).trans (hid kn_1375)
                have kn_1377 : Hid (c_1359 41 29 = nw) := (hF_1361 41 29 (fun h => absurd h.2 (ni rfl))).trans (hid kn_1376)
                have kn_1378 : Hid (c_1339 41 7 = a2) := (hF_1341 41 7 (fun h => absurd h.2 (ni rfl))).trans (hc_3)
                have kn_1379 : Hid (c_1344 41 7 = a2) := (hF_1346 41 7 (fun h => absurd h.2 (ni rfl))).trans (hid kn_1378)
                have kn_1380 : Hid (c_1349 41 7 = a2) := (hF_1351 41 7 (fun h => absurd h.2 (ni rfl))).trans (hid kn_1379)
                have kn_1381 : Hid (c_1354 41 7 = a2) := (hF_1356 41 7 (fun h => absurd h.2 (ni rfl))).trans (hid kn_1380)
                have kn_1382 : Hid (c_1359 41 7 = a2) := (hF_1361 41 7 (fun h => absurd h.2 (ni rfl))).trans (hid kn_1381)
                have h_1383 : c_83 1 4 = 0 := (hid kn_961)
                have h_1384 : c_83 1 2 = (nx F e1 a) + 1 := (hz_87)
                have h_1385 : c_83 1 5 = (-1) := (hid kn_1371)
                have h_1386 : (up c_1359 41 4 ((nx F e1 a) + 1)) 41 5 = (-1) := ((up_n (by decide)).trans (hid kn_1367))
                have h_1387 : (up c_1359 41 4 ((nx F e1 a) + 1)) 41 4 = (nx F e1 a) + 1 := (up_e rfl)
                have h_1388 := ir_41_6 hI2
                have kn_1389 : Hid (c_1339 41 6 = c2 41 6) := hF_1341 41 6 (fun h => absurd h.2 (ni rfl))
                have kn_1390 : Hid (c_1344 41 6 = c2 41 6) := (hF_1346 41 6 (fun h => absurd h.2 (ni rfl))).trans (hid kn_1389)
                have kn_1391 : Hid (c_1349 41 6 = c2 41 6) := (hF_1351 41 6 (fun h => absurd h.2 (ni rfl))).trans (hid kn_1390)
                have kn_1392 : Hid (c_1354 41 6 = c2 41 6) := (hF_1356 41 6 (fun h => absurd h.2 (ni rfl))).trans (hid kn_1391)
                have kn_1393 : Hid (c_1359 41 6 = c2 41 6) := (hF_1361 41 6 (fun h => absurd h.2 (ni rfl))).trans (hid kn_1392)
                have h_1394 : (up c_1359 41 4 ((nx F e1 a) + 1)) 41 6 = c2 41 6 := ((up_n (by decide)).trans (hid kn_1393))
                have hA_1395 : Ce nw (c_83 (A + 9)) ((up c_1359 41 4 ((nx F e1 a) + 1)) 50) ((up c_1359 41 4 ((nx F e1 a) + 1)) 51) := ce_fr hrl0 (fun j => hF_85 (A + 9) j (fun h => absurd h.1 (np hA rfl rfl))) (fun j => (up_c (nn rfl)).trans ((hF_1361 50 j (fun h => absurd h.1 (nn rfl))).trans ((hF_1356 50 j (fun h => absurd h.1 (nn rfl))).trans ((hF_1351 50 j (fun h => absurd h.1 (nn rfl))).trans ((hF_1346 50 j (fun h => absurd h.1 (nn rfl))).trans (hF_1341 50 j (fun h => absurd h.1 (nn rfl)))))))) (fun j => (up_c (nn rfl)).trans ((hF_1361 51 j (fun h => absurd h.1 (nn rfl))).trans ((hF_1356 51 j (fun h => absurd h.1 (nn rfl))).trans ((hF_1351 51 j (fun h => absurd h.1 (nn rfl))).trans ((hF_1346 51 j (fun h => absurd h.1 (nn rfl))).trans (hF_1341 51 j (fun h => absurd h.1 (nn rfl))))))))
                refine v_cv rfl rfl rfl rfl (by decide) ⟨⟨rfl, rfl⟩, by decide, rfl⟩ (Nat.le_of_ble_eq_true rfl) (Nat.le_of_ble_eq_true rfl) (L_14 (m := c_83) (a2 := a2) (e1 := e1) (f0 := 0) (g0 := (-1)) (p0 := (nx F e1 a) + 1) (n0 := nw) (o0 := a2) (F := F) (H := H) hI_1368 hI_84 hI_963 hA (show 0 ≤ a2 ∧ a2 ≤ 6 from ha2) (by first | (clear ha2 hq0 hq1 hq2 hq3 hq4 hq5 h_1 h_2 h_3 h_4 h_5 h_6 h_7 h_8 h_9 h_10 h_11 h_12 h_13 h_14 h_15 h_16 h_69 h_70 h_71 h_86 h_966 h_1232 h_1320 h_1324 h_1325 h_1326 h_1327 h_1328 h_1329 h_1330 h_1331 h_1332 h_1333 h_1335 h_1336 h_1338 h_72 h_1337; omega) | omega) (by first | (clear ha2 hq0 hq1 hq2 hq3 hq4 hq5 h_1 h_2 h_3 h_4 h_5 h_6 h_7 h_8 h_9 h_10 h_11 h_12 h_13 h_14 h_15 h_16 h_69 h_70 h_71 h_86 h_966 h_1232 h_1320 h_1324 h_1325 h_1326 h_1327 h_1328 h_1329 h_1330 h_1331 h_1332 h_1333 h_1335 h_1336 h_1338 h_72 h_1337; omega) | omega) (by first | (clear ha2 hq0 hq1 hq2 hq3 hq4 hq5 h_1 h_2 h_3 h_4 h_5 h_6 h_7 h_8 h_9 h_10 h_11 h_12 h_13 h_14 h_15 h_16 h_69 h_70 h_71 h_86 h_966 h_1232 h_1320 h_1324 h_1325 h_1326 h_1327 h_1328 h_1329 h_1330 h_1331 h_1332 h_1333 h_1335 h_1336 h_1338 h_72 h_1337; omega) | omega) (by first | (clear ha2 hq0 hq1 hq2 hq4 hq5 h_1 h_2 h_3 h_4 h_5 h_6 h_7 h_8 h_9 h_10 h_11 h_12 h_13 h_14 h_15 h_69 h_71 h_86 h_966 h_1232 h_1320 h_1324 h_1325 h_1326 h_1327 h_1328 h_1329 h_1330 h_1331 h_1332 h_1333 h_1335 h_1336 h_1338 h_72 h_1337; omega) | omega) (by first | (clear ha2 hq0 hq1 hq2 hq3 hq4 hq5 h_1 h_2 h_3 h_4 h_5 h_6 h_7 h_8 h_9 h_10 h_11 h_12 h_13 h_14 h_15 h_16 h_69 h_70 h_71 h_966 h_1232 h_1320 h_1324 h_1325 h_1326 h_1327 h_1328 h_1329 h_1330 h_1331 h_1332 h_1333 h_1335 h_1336 h_1338 h_72 h_1337; omega) | omega) (by first | (clear ha2 hq0 hq1 hq2 hq3 hq4 h_1 h_2 h_3 h_4 h_5 h_6 h_7 h_8 h_9 h_10 h_11 h_12 h_13 h_14 h_15 h_16 h_69 h_70 h_71 h_86 h_966 h_1232 h_1320 h_1324 h_1325 h_1326 h_1327 h_1328 h_1329 h_1330 h_1331 h_1332 h_1333 h_1335 h_1336 h_1338 h_72 h_1337; omega) | omega) ((hid kn_1369)) (((up_n (by decide)).trans (hid kn_1370))) ((hid kn_961)) ((hid kn_1371)) ((hz_87)) ((hid kn_1372)) (((up_n (by decide)).trans (hid kn_1377))) (((up_n (by decide)).trans (hid kn_1382))) (fun j => ((hF_85 2 j (fun h => absurd h.1 (nn rfl))).trans (hFm 2 j (fun q => q.elim (fun h => absurd h.1 (nn rfl)) (fun q => q.elim (fun h => absurd h.1 (nn rfl)) (fun q => q.elim (fun h => absurd h.1 (nn rfl)) (fun q => q.elim (fun h => absurd h.1 (pn hA rfl rfl)) (fun h => absurd h (pn hA rfl rfl)))))))).trans (hF j)) (fun j => ((up_c (nn rfl)).trans ((hF_1361 43 j (fun h => absurd h.1 (nn rfl))).trans ((hF_1356 43 j (fun h => absurd h.1 (nn rfl))).trans ((hF_1351 43 j (fun h => absurd h.1 (nn rfl))).trans ((hF_1346 43 j (fun h => absurd h.1 (nn rfl))).trans ((hF_1341 43 j (fun h => absurd h.1 (nn rfl))).trans (hFc 43 j (fun q => q.elim (fun h => absurd h.1 (nn rfl)) (fun q => q.elim (fun h => absurd h.1 (nn rfl)) (fun q => q.elim (fun h => absurd h.1 (nn rfl)) (fun q => q.elim (fun h => absurd h.1 (nn rfl)) (fun q => q.elim (fun h => absurd h.1 (nn rfl)) (fun q => q.elim (fun h => absurd h (nn rfl)) (fun h => absurd h (nn rfl))))))))))))))).trans (hH j)) hU (rt_i1 ⟨by first | (clear ha2 hq0 hq1 hq2 hq3 hq4 hq5 h_1 h_2 h_3 h_4 h_5 h_6 h_7 h_8 h_9 h_10 h_11 h_12 h_13 h_14 h_15 h_16 h_69 h_70 h_71 h_86 h_966 h_1232 h_1320 h_1324 h_1325 h_1326 h_1327 h_1328 h_1329 h_1330 h_1331 h_1332 h_1333 h_1335 h_1336 h_1338 h_1388 h_72 h_1337; omega) | omega, by first | (clear ha2 hq0 hq1 hq2 hq3 hq4 hq5 h_1 h_2 h_3 h_4 h_5 h_6 h_7 h_8 h_9 h_10 h_11 h_12 h_13 h_14 h_15 h_16 h_69 h_70 h_71 h_86 h_966 h_1232 h_1320 h_1324 h_1325 h_1326 h_1327 h_1328 h_1329 h_1330 h_1331 h_1332 h_1333 h_1335 h_1336 h_1338 h_1388 h_72 h_1337; omega) | omega, by first | (clear ha2 hq0 hq1 hq2 hq3 hq4 hq5 h_1 h_2 h_3 h_4 h_5 h_6 h_7 h_8 h_9 h_10 h_11 h_12 h_13 h_14 h_15 h_16 h_69 h_70 h_71 h_86 h_966 h_1232 h_1320 h_1324 h_1325 h_1326 h_1327 h_1328 h_1329 h_1330 h_1331 h_1332 h_1333 h_1335 h_1336 h_1338 h_1388 h_72 h_1337; omega) | omega, by first | (clear ha2 hq0 hq1 hq2 hq3 hq4 hq5 h_1 h_2 h_3 h_4 h_5 h_6 h_7 h_8 h_9 h_10 h_11 h_12 h_13 h_14 h_15 h_16 h_69 h_70 h_71 h_86 h_966 h_1232 h_1320 h_1324 h_1325 h_1326 h_1327 h_1328 h_1329 h_1330 h_1331 h_1332 h_1333 h_1335 h_1336 h_1338 h_1388 h_72 h_1337; omega) | omega⟩) (ce_le hA_1395 (by omega)) H13 hG_965 (fun c_1396 hI_1397 hF_1398 hR_1400 h_1401 h_1402 hA_1403 => ?_))
                refine bk_inl ?_
                have h_1404 := ir_41_29 hI_1397
                have h_1405 := ir_41_7 hI_1397
                refine q_aload_n rfl rfl ?_
                refine q_iload_n rfl rfl ?_
                refine q_iconst rfl ?_
                refine v_cv rfl rfl rfl rfl (by decide) ⟨⟨rfl, rfl⟩, by decide, rfl⟩ (Nat.le_of_ble_eq_true rfl) (Nat.le_of_ble_eq_true rfl) ?_
                refine q_aload_n rfl rfl ?_
                refine v_cv rfl rfl rfl rfl (by decide) ⟨⟨rfl, rfl⟩, by decide, rfl⟩ (Nat.le_of_ble_eq_true rfl) (Nat.le_of_ble_eq_true rfl) ?_
                refine q_aload_n rfl rfl ?_
                have h_1406 := ir_41_5 hI_1397
                have h_1407 := ir_41_4 hI_1397
                have h_1408 := ir_41_6 hI_1397
                have h_1409 := rt_bad hR_1400 (by omega)
                have hrb_hR_1400 := rt_bad hR_1400 (by omega)
                refine v_gi (z := 5) (v := c_962 1 5) rfl rfl rfl (by decide) rfl rfl hrb_hR_1400.2.1 ?_
                refine q_iconst rfl ?_
                refine v_ic_ne_t (t := 12) rfl (by decide) ⟨by first | (clear ha2 hq0 hq1 hq2 hq3 hq4 hq5 h_1 h_2 h_3 h_4 h_5 h_6 h_7 h_8 h_9 h_10 h_11 h_12 h_13 h_14 h_15 h_16 h_69 h_70 h_71 h_86 h_966 h_1232 h_1320 h_1324 h_1325 h_1326 h_1327 h_1328 h_1329 h_1330 h_1331 h_1332 h_1333 h_1335 h_1336 h_1338 h_1388 h_1404 h_1405 h_1402 h_1406 h_1407 h_1408 h_72 h_1337 h_1401; omega) | omega, ⟨(Int.le_trans (by decide) h_1329.1), (Int.le_trans h_1329.2 (by decide))⟩, by decide, by decide⟩ ?_
                refine q_iconst rfl ?_
                refine v_zret rfl rfl (by decide) ?_
                refine bk_inl ?_
                refine v_if_ne_f (t := 8) rfl (by decide) (by decide) ?_
                refine q_vret rfl rfl ?_
                refine bk_inl ?_
                refine q_goto (t := 4) rfl (by decide) ?_
                refine q_aload_n rfl rfl ?_
                refine v_cv rfl rfl rfl rfl (by decide) ⟨⟨rfl, rfl⟩, by decide, rfl⟩ (Nat.le_of_ble_eq_true rfl) (Nat.le_of_ble_eq_true rfl) ?_
                refine q_aload_n rfl rfl ?_
                refine v_gi (z := 5) (v := c_962 1 5) rfl rfl rfl (by decide) rfl rfl hrb_hR_1400.2.1 ?_
                refine q_iconst rfl ?_
                refine v_ic_ne_t (t := 12) rfl (by decide) ⟨by first | (clear ha2 hq0 hq1 hq2 hq3 hq4 hq5 h_1 h_2 h_3 h_4 h_5 h_6 h_7 h_8 h_9 h_10 h_11 h_12 h_13 h_14 h_15 h_16 h_69 h_70 h_71 h_86 h_966 h_1232 h_1320 h_1324 h_1325 h_1326 h_1327 h_1328 h_1329 h_1330 h_1331 h_1332 h_1333 h_1335 h_1336 h_1338 h_1388 h_1404 h_1405 h_1402 h_1406 h_1407 h_1408 h_72 h_1337 h_1401; omega) | omega, ⟨(Int.le_trans (by decide) h_1329.1), (Int.le_trans h_1329.2 (by decide))⟩, by decide, by decide⟩ ?_
                refine q_iconst rfl ?_
                refine v_zret rfl rfl (by decide) ?_
                refine bk_inl ?_
                refine v_if_eq_t (t := 90) rfl (by decide) (by decide) ?_
                refine q_vret rfl rfl ?_
                have h_1410 : c_1396 41 5 = c_962 1 5 := hrb_hR_1400.2.1
                have h_1411 : c_1396 41 6 = c_962 1 4 := hrb_hR_1400.2.2.2
                exact K c_1396  hI_1397 (fun a j hm => (hF_1398 a j (fun q => q.elim (fun h => hm (Or.inl h)) (fun q => q.elim (fun h => hm (Or.inr (Or.inl h))) (fun q => q.elim (fun h => hm (Or.inr (Or.inr (Or.inl h)))) (fun q => q.elim (fun h => hm (Or.inr (Or.inr (Or.inr (Or.inl h))))) (fun q => q.elim (fun h => hm (Or.inr (Or.inr (Or.inr (Or.inr (Or.inl h)))))) (fun q => q.elim (fun h => hm (Or.inr (Or.inr (Or.inr (Or.inr (Or.inr (Or.inl h))))))) (fun h => hm (Or.inr (Or.inr (Or.inr (Or.inr (Or.inr (Or.inr h)))))))))))))).trans ((up_b (Decidable.or_iff_not_imp_left.mpr (fun h1 h2 => hm (Or.inl ⟨Decidable.not_not.mp h1, h2⟩)))).trans ((hF_1361 a j (fun h => hm (Or.inl h))).trans ((hF_1356 a j (fun h => hm (Or.inl h))).trans ((hF_1351 a j (fun h => hm (Or.inl h))).trans ((hF_1346 a j (fun h => hm (Or.inl h))).trans ((hF_1341 a j (fun h => hm (Or.inl h))).trans (hFc a j (fun q => q.elim (fun h => hm (Or.inl h)) (fun q => q.elim (fun h => hm (Or.inr (Or.inl h))) (fun q => q.elim (fun h => hm (Or.inr (Or.inr (Or.inl h)))) (fun q => q.elim (fun h => hm (Or.inr (Or.inr (Or.inr (Or.inl h))))) (fun q => q.elim (fun h => hm (Or.inr (Or.inr (Or.inr (Or.inr (Or.inl h)))))) (fun q => q.elim (fun h => hm (Or.inr (Or.inr (Or.inr (Or.inr (Or.inr (Or.inl h))))))) (fun h => hm (Or.inr (Or.inr (Or.inr (Or.inr (Or.inr (Or.inr h))))))))))))))))))))) (rt_i2 ⟨⟨by first | (clear ha2 hq0 hq1 hq2 hq3 hq4 hq5 h_1 h_2 h_3 h_4 h_5 h_6 h_7 h_8 h_9 h_10 h_11 h_12 h_13 h_14 h_15 h_16 h_69 h_70 h_71 h_86 h_966 h_1232 h_1320 h_1324 h_1326 h_1327 h_1328 h_1329 h_1330 h_1331 h_1332 h_1333 h_1335 h_1336 h_1338 h_1388 h_1404 h_1405 h_1402 h_1406 h_1407 h_1408 h_72 h_1337 h_1401; omega) | omega, by first | (clear ha2 hq0 hq1 hq2 hq3 hq4 hq5 h_1 h_2 h_3 h_4 h_5 h_6 h_7 h_8 h_9 h_10 h_11 h_12 h_13 h_14 h_15 h_16 h_69 h_70 h_71 h_86 h_966 h_1232 h_1320 h_1325 h_1326 h_1327 h_1328 h_1329 h_1330 h_1331 h_1332 h_1333 h_1335 h_1336 h_1338 h_1388 h_1404 h_1405 h_1402 h_1406 h_1407 h_1408 h_1409 h_72 h_1337 h_1401; omega) | omega⟩, by first | (clear ha2 hq0 hq1 hq2 hq3 hq4 hq5 h_1 h_2 h_3 h_4 h_5 h_6 h_7 h_8 h_9 h_10 h_11 h_12 h_13 h_14 h_15 h_16 h_69 h_70 h_71 h_86 h_966 h_1232 h_1320 h_1324 h_1325 h_1326 h_1327 h_1328 h_1329 h_1330 h_1332 h_1333 h_1335 h_1336 h_1338 h_1388 h_1404 h_1405 h_1402 h_1406 h_1407 h_1408 h_1409 h_72 h_1337 h_1401; omega) | omega, by first | (clear ha2 hq0 hq1 hq2 hq3 hq4 hq5 h_1 h_2 h_3 h_4 h_5 h_6 h_7 h_8 h_9 h_10 h_11 h_12 h_13 h_14 h_15 h_16 h_69 h_70 h_71 h_86 h_966 h_1232 h_1320 h_1324 h_1325 h_1326 h_1327 h_1328 h_1329 h_1330 h_1332 h_1333 h_1335 h_1336 h_1338 h_1388 h_1404 h_1405 h_1402 h_1406 h_1407 h_1408 h_72 h_1337 h_1401; omega) | omega, by first | (clear ha2 hq0 hq1 hq2 hq3 hq4 hq5 h_1 h_2 h_3 h_4 h_5 h_6 h_7 h_8 h_9 h_10 h_11 h_12 h_13 h_14 h_15 h_16 h_69 h_70 h_71 h_86 h_966 h_1232 h_1320 h_1324 h_1326 h_1327 h_1328 h_1329 h_1330 h_1331 h_1332 h_1333 h_1335 h_1336 h_1338 h_1388 h_1404 h_1405 h_1402 h_1406 h_1407 h_1408 h_1409 h_72 h_1337 h_1401; omega) | omega⟩) (Or.inr (Or.inl (by first | (clear ha2 hq0 hq1 hq2 hq3 hq4 hq5 h_1 h_2 h_3 h_4 h_5 h_6 h_7 h_8 h_9 h_10 h_11 h_12 h_13 h_14 h_15 h_16 h_69 h_70 h_71 h_86 h_966 h_1232 h_1320 h_1324 h_1326 h_1327 h_1328 h_1329 h_1330 h_1331 h_1332 h_1333 h_1335 h_1336 h_1338 h_1388 h_1404 h_1405 h_1402 h_1406 h_1407 h_1408 h_72 h_1337 h_1401; omega) | omega))) (by first | (clear ha2 hq0 hq1 hq2 hq3 hq4 hq5 h_1 h_2 h_3 h_4 h_5 h_6 h_7 h_8 h_9 h_10 h_11 h_12 h_13 h_14 h_15 h_16 h_69 h_70 h_71 h_86 h_966 h_1232 h_1320 h_1324 h_1325 h_1326 h_1327 h_1328 h_1329 h_1330 h_1331 h_1332 h_1333 h_1335 h_1336 h_1338 h_1388 h_1404 h_1405 h_1406 h_1407 h_1408 h_1409 h_72 h_1337 h_1401; omega) | omega) (fun hz => absurd hz (by omega))
              · refine v_ic_ge_f (t := 59) rfl (by decide) ⟨by first | exact rgp_l hv.1 (by decide) | omega, (Int.not_le.mp h_1320), by decide⟩ ?_
                refine q_aload_n rfl rfl ?_
                refine v_cv rfl rfl rfl rfl (by decide) ⟨⟨rfl, rfl⟩, by decide, rfl⟩ (Nat.le_of_ble_eq_true rfl) (Nat.le_of_ble_eq_true rfl) ?_
                refine q_aload_n rfl rfl ?_
                refine v_gi (z := 4) (v := c_962 1 4) rfl rfl rfl (by decide) rfl rfl ((up_c (pn hA rfl rfl)).trans (up_c (pn hA rfl rfl))) ?_
                refine v_if_ne_t (t := 11) rfl (by decide) ⟨by first | (clear ha2 hq0 hq1 hq2 hq3 hq4 hq5 h_1 h_2 h_3 h_4 h_5 h_6 h_7 h_8 h_9 h_10 h_11 h_12 h_13 h_14 h_15 h_16 h_69 h_70 h_71 h_86 h_966 h_1232 h_72; omega) | omega, ⟨(Int.le_trans (by decide) h_1232.1), (Int.le_trans h_1232.2 (by decide))⟩, by decide, by decide⟩ ?_
                refine q_iconst rfl ?_
                refine v_zret rfl rfl (by decide) ?_
                refine bk_inl ?_
                refine v_if_eq_t (t := 59) rfl (by decide) (by decide) ?_
                refine q_vret rfl rfl ?_
                have hI_1412 := iw_lg (j := c_962 (A + 7) 5) (v := 2004) hI_963 (lgp (k := 9) hA (by decide)) ⟨by decide, by decide⟩ (by omega)
                have hI_1413 := iw_p7_5 (v := c_962 (A + 7) 5 + 1) hI_1412 hA ⟨by first | exact rgp_l h_966.1 (by decide) | omega, by first | (clear ha2 hq0 hq1 hq2 hq3 hq4 hq5 h_1 h_2 h_3 h_4 h_5 h_6 h_7 h_8 h_9 h_10 h_11 h_12 h_13 h_14 h_15 h_16 h_69 h_70 h_71 h_86 h_966 h_1232 h_72; omega) | omega⟩
                intro hE_1414
                have hW : Wd P Q P P (up (up c_962 (A + 9) (c_962 (A + 7) 5) 2004) (A + 7) 5 (c_962 (A + 7) 5 + 1)) = Wd P Q P P m9 := (Prod.mk.inj (Prod.mk.inj hE_1414).2).1
                have h_1415 := ir_1_4 hJ9
                have h_1416 : m9 1 4 = c_962 1 4 := wd_fv (z := 4) 4 rfl hW rfl rfl rfl rfl (by decide) ((up_c (pn hA rfl rfl)).trans (up_c (pn hA rfl rfl))) ⟨(Int.le_trans (by decide) h_1232.1), (Int.le_trans h_1232.2 (by decide))⟩ ⟨(Int.le_trans (by decide) h_1415.1), (Int.le_trans h_1415.2 (by decide))⟩
                have h_1417 := ir_1_2 hI_963
                have h_1418 := ir_1_2 hJ9
                have h_1419 : m9 1 2 = c_962 1 2 := wd_fv (z := 2) 2 rfl hW rfl rfl rfl rfl (by decide) ((up_c (pn hA rfl rfl)).trans (up_c (pn hA rfl rfl))) ⟨(Int.le_trans (by decide) h_1417.1), (Int.le_trans h_1417.2 (by decide))⟩ ⟨(Int.le_trans (by decide) h_1418.1), (Int.le_trans h_1418.2 (by decide))⟩
                have h_1420 := ir_1_5 hI_963
                have h_1421 := ir_1_5 hJ9
                have h_1422 : m9 1 5 = c_962 1 5 := wd_fv (z := 5) 5 rfl hW rfl rfl rfl rfl (by decide) ((up_c (pn hA rfl rfl)).trans (up_c (pn hA rfl rfl))) ⟨(Int.le_trans (by decide) h_1420.1), (Int.le_trans h_1420.2 (by decide))⟩ ⟨(Int.le_trans (by decide) h_1421.1), (Int.le_trans h_1421.2 (by decide))⟩
                have h_1423 := ir_p7_5 hJ9 hA
                have h_1424 : m9 (A + 7) 5 = c_962 (A + 7) 5 + 1 := wd_fv (z := 5) 5 rfl hW (ck_p7 hA) (ck_p7 hA) rfl rfl (by omega) (up_e rfl) ⟨by first | exact rgp_l h_966.1 (by decide) | omega, by first | exact rgp_h h_966.2 (by decide) | omega⟩ ⟨(Int.le_trans (by decide) h_1423.1), (Int.le_trans h_1423.2 (by decide))⟩
                refine q_aload_n rfl rfl ?_
                refine v_cv rfl rfl rfl rfl (by decide) ⟨⟨rfl, rfl⟩, by decide, rfl⟩ (Nat.le_of_ble_eq_true rfl) (Nat.le_of_ble_eq_true rfl) ?_
                refine q_aload_n rfl rfl ?_
                refine v_gi (z := 5) (v := (-1)) rfl rfl rfl (by decide) rfl rfl (hc_1) ?_
                refine q_iconst rfl ?_
                refine v_ic_ne_f (t := 12) rfl (by decide) (by decide) ?_
                refine q_iconst rfl ?_
                refine q_goto (t := 13) rfl (by decide) ?_
                refine v_zret rfl rfl (by decide) ?_
                refine bk_inl ?_
                refine v_if_eq_f (t := 90) rfl (by decide) (by decide) ?_
                refine q_aload_n rfl rfl ?_
                have kn_1425 : Hid (c2 41 3 = e1) := (hFc 41 3 (fun q => q.elim (fun h => absurd h.2 (ni rfl)) (fun q => q.elim (fun h => absurd h.2 (ni rfl)) (fun q => q.elim (fun h => absurd h.2 (ni rfl)) (fun q => q.elim (fun h => absurd h.2 (ni rfl)) (fun q => q.elim (fun h => absurd h.2 (ni rfl)) (fun q => q.elim (fun h => absurd h (nn rfl)) (fun h => absurd h (nn rfl))))))))).trans (hr_e1)
                have h_1426 : -2147483648 ≤ (H (nx F e1 a)) ∧ (H (nx F e1 a)) ≤ 2147483647 := by rw [← hH (nx F e1 a)]; exact ir_43 hI (nx F e1 a)
                have h_1427 := hU (nx F e1 a) (by omega) (by omega)
                have h_1428 := hb_or (b := H) (e := e1) (r := (nx F e1 a))
                have h_1429 := hb_bd (b := H) (e := e1) (r := (nx F e1 a)) (lo := -2147483648) (hi := 2147483647) h_1426 (by decide)
                refine v_cv rfl rfl rfl rfl (by decide) ⟨⟨rfl, rfl⟩, by decide, rfl⟩ (Nat.le_of_ble_eq_true rfl) (Nat.le_of_ble_eq_true rfl) (f_154 (e1 := e1) (a9 := a) (B := H) (r8 := (nx F e1 a)) (r := (hb H e1 (nx F e1 a))) hI2 ((hid kn_1425)) ((hr_a)) (fun j => (hFc 43 j (fun q => q.elim (fun h => absurd h.1 (nn rfl)) (fun q => q.elim (fun h => absurd h.1 (nn rfl)) (fun q => q.elim (fun h => absurd h.1 (nn rfl)) (fun q => q.elim (fun h => absurd h.1 (nn rfl)) (fun q => q.elim (fun h => absurd h.1 (nn rfl)) (fun q => q.elim (fun h => absurd h (nn rfl)) (fun h => absurd h (nn rfl))))))))).trans (hH j)) ((nx_tr hU (by first | (clear ha2 hq0 hq1 hq2 hq3 hq4 hq5 h_1 h_2 h_3 h_4 h_5 h_6 h_7 h_8 h_9 h_10 h_11 h_12 h_13 h_14 h_15 h_16 h_69 h_70 h_71 h_86 h_966 h_1232 h_1415 h_1416 h_1417 h_1418 h_1419 h_1420 h_1421 h_1422 h_1423 h_1424 h_72; omega) | omega) (by first | (clear ha2 hq0 hq1 hq2 hq3 hq4 h_1 h_2 h_3 h_4 h_5 h_6 h_7 h_8 h_9 h_10 h_11 h_12 h_13 h_14 h_15 h_16 h_69 h_70 h_71 h_86 h_966 h_1232 h_1415 h_1416 h_1417 h_1418 h_1419 h_1420 h_1421 h_1422 h_1423 h_1424 h_72; omega) | omega)).trans (rfl)) rfl (fun c_1430 hI_1431 hF_1432 h_1433 => ?_))
                refine bk_inl ?_
                refine v_bip rfl (by decide) ?_
                refine v_ic_eq_f (t := 38) rfl (by decide) ⟨by first | (clear ha2 hq0 hq1 hq2 hq3 h_3 h_4 h_5 h_6 h_7 h_8 h_9 h_10 h_11 h_12 h_13 h_14 h_15 h_69 h_71 h_966 h_1232 h_1415 h_1416 h_1417 h_1418 h_1419 h_1420 h_1421 h_1422 h_1423 h_1424; omega) | omega, ⟨h_1429.1, h_1429.2⟩, by decide, by decide⟩ ?_
                refine q_aload_n rfl rfl ?_
                have kn_1434 : Hid (c_1430 41 3 = e1) := (hF_1432 41 3 (fun h => absurd h.2 (ni rfl))).trans (hid kn_1425)
                refine v_cv rfl rfl rfl rfl (by decide) ⟨⟨rfl, rfl⟩, by decide, rfl⟩ (Nat.le_of_ble_eq_true rfl) (Nat.le_of_ble_eq_true rfl) (f_154 (e1 := e1) (a9 := (nx F e1 a)) (B := H) (r8 := (nx F e1 a)) (r := (hb H e1 (nx F e1 a))) hI_1431 ((hid kn_1434)) ((h_1433)) (fun j => ((hF_1432 43 j (fun h => absurd h.1 (nn rfl))).trans (hFc 43 j (fun q => q.elim (fun h => absurd h.1 (nn rfl)) (fun q => q.elim (fun h => absurd h.1 (nn rfl)) (fun q => q.elim (fun h => absurd h.1 (nn rfl)) (fun q => q.elim (fun h => absurd h.1 (nn rfl)) (fun q => q.elim (fun h => absurd h.1 (nn rfl)) (fun q => q.elim (fun h => absurd h (nn rfl)) (fun h => absurd h (nn rfl)))))))))).trans (hH j)) ((nx_tr hU (by first | (clear ha2 hq0 hq1 hq2 hq3 hq4 hq5 h_1 h_2 h_3 h_4 h_5 h_6 h_7 h_8 h_9 h_10 h_11 h_12 h_13 h_14 h_15 h_16 h_69 h_71 h_86 h_966 h_1232 h_1415 h_1416 h_1417 h_1418 h_1419 h_1420 h_1421 h_1422 h_1423 h_1424 h_1426 h_1427 h_1429 h_72 h_1428; omega) | omega) (by first | (clear ha2 hq0 hq1 hq2 hq3 hq4 h_1 h_2 h_3 h_4 h_5 h_6 h_7 h_8 h_9 h_10 h_11 h_12 h_13 h_14 h_15 h_16 h_69 h_70 h_71 h_86 h_966 h_1232 h_1415 h_1416 h_1417 h_1418 h_1419 h_1420 h_1421 h_1422 h_1423 h_1424 h_1426 h_1427 h_1429 h_72 h_1428; omega) | omega)).trans ((nx_z (by omega)))) rfl (fun c_1435 hI_1436 hF_1437 h_1438 => ?_))
                refine bk_inl ?_
                refine v_bip rfl (by decide) ?_
                refine v_ic_eq_f (t := 38) rfl (by decide) ⟨by first | (clear ha2 hq0 hq1 hq2 hq3 h_3 h_4 h_5 h_6 h_7 h_8 h_9 h_10 h_11 h_12 h_13 h_14 h_15 h_69 h_71 h_966 h_1232 h_1415 h_1416 h_1417 h_1418 h_1419 h_1420 h_1421 h_1422 h_1423 h_1424; omega) | omega, ⟨h_1429.1, h_1429.2⟩, by decide, by decide⟩ ?_
                refine q_aload_n rfl rfl ?_
                have kn_1439 : Hid (c_1435 41 3 = e1) := (hF_1437 41 3 (fun h => absurd h.2 (ni rfl))).trans (hid kn_1434)
                refine v_cv rfl rfl rfl rfl (by decide) ⟨⟨rfl, rfl⟩, by decide, rfl⟩ (Nat.le_of_ble_eq_true rfl) (Nat.le_of_ble_eq_true rfl) (f_154 (e1 := e1) (a9 := (nx F e1 a)) (B := H) (r8 := (nx F e1 a)) (r := (hb H e1 (nx F e1 a))) hI_1436 ((hid kn_1439)) ((h_1438)) (fun j => ((hF_1437 43 j (fun h => absurd h.1 (nn rfl))).trans ((hF_1432 43 j (fun h => absurd h.1 (nn rfl))).trans (hFc 43 j (fun q => q.elim (fun h => absurd h.1 (nn rfl)) (fun q => q.elim (fun h => absurd h.1 (nn rfl)) (fun q => q.elim (fun h => absurd h.1 (nn rfl)) (fun q => q.elim (fun h => absurd h.1 (nn rfl)) (fun q => q.elim (fun h => absurd h.1 (nn rfl)) (fun q => q.elim (fun h => absurd h (nn rfl)) (fun h => absurd h (nn rfl))))))))))).trans (hH j)) ((nx_tr hU (by first | (clear ha2 hq0 hq1 hq2 hq3 hq4 hq5 h_1 h_2 h_3 h_4 h_5 h_6 h_7 h_8 h_9 h_10 h_11 h_12 h_13 h_14 h_15 h_16 h_69 h_71 h_86 h_966 h_1232 h_1415 h_1416 h_1417 h_1418 h_1419 h_1420 h_1421 h_1422 h_1423 h_1424 h_1426 h_1427 h_1429 h_72 h_1428; omega) | omega) (by first | (clear ha2 hq0 hq1 hq2 hq3 hq4 h_1 h_2 h_3 h_4 h_5 h_6 h_7 h_8 h_9 h_10 h_11 h_12 h_13 h_14 h_15 h_16 h_69 h_70 h_71 h_86 h_966 h_1232 h_1415 h_1416 h_1417 h_1418 h_1419 h_1420 h_1421 h_1422 h_1423 h_1424 h_1426 h_1427 h_1429 h_72 h_1428; omega) | omega)).trans ((nx_z (by omega)))) rfl (fun c_1440 hI_1441 hF_1442 h_1443 => ?_))
                refine bk_inl ?_
                refine v_bip rfl (by decide) ?_
                refine v_ic_ne_f (t := 90) rfl (by decide) (by first | (clear ha2 hq0 hq1 hq2 hq3 h_3 h_4 h_5 h_6 h_7 h_8 h_9 h_10 h_11 h_12 h_13 h_14 h_15 h_69 h_71 h_966 h_1232 h_1415 h_1416 h_1417 h_1418 h_1419 h_1420 h_1421 h_1422 h_1423 h_1424; omega) | omega) ?_
                refine q_aload_n rfl rfl ?_
                have kn_1444 : Hid (c_1440 41 3 = e1) := (hF_1442 41 3 (fun h => absurd h.2 (ni rfl))).trans (hid kn_1439)
                refine v_cv rfl rfl rfl rfl (by decide) ⟨⟨rfl, rfl⟩, by decide, rfl⟩ (Nat.le_of_ble_eq_true rfl) (Nat.le_of_ble_eq_true rfl) (f_154 (e1 := e1) (a9 := (nx F e1 a)) (B := H) (r8 := (nx F e1 a)) (r := (hb H e1 (nx F e1 a))) hI_1441 ((hid kn_1444)) ((h_1443)) (fun j => ((hF_1442 43 j (fun h => absurd h.1 (nn rfl))).trans ((hF_1437 43 j (fun h => absurd h.1 (nn rfl))).trans ((hF_1432 43 j (fun h => absurd h.1 (nn rfl))).trans (hFc 43 j (fun q => q.elim (fun h => absurd h.1 (nn rfl)) (fun q => q.elim (fun h => absurd h.1 (nn rfl)) (fun q => q.elim (fun h => absurd h.1 (nn rfl)) (fun q => q.elim (fun h => absurd h.1 (nn rfl)) (fun q => q.elim (fun h => absurd h.1 (nn rfl)) (fun q => q.elim (fun h => absurd h (nn rfl)) (fun h => absurd h (nn rfl)))))))))))).trans (hH j)) ((nx_tr hU (by first | (clear ha2 hq0 hq1 hq2 hq3 hq4 hq5 h_1 h_2 h_3 h_4 h_5 h_6 h_7 h_8 h_9 h_10 h_11 h_12 h_13 h_14 h_15 h_16 h_69 h_71 h_86 h_966 h_1232 h_1415 h_1416 h_1417 h_1418 h_1419 h_1420 h_1421 h_1422 h_1423 h_1424 h_1426 h_1427 h_1429 h_72 h_1428; omega) | omega) (by first | (clear ha2 hq0 hq1 hq2 hq3 hq4 h_1 h_2 h_3 h_4 h_5 h_6 h_7 h_8 h_9 h_10 h_11 h_12 h_13 h_14 h_15 h_16 h_69 h_70 h_71 h_86 h_966 h_1232 h_1415 h_1416 h_1417 h_1418 h_1419 h_1420 h_1421 h_1422 h_1423 h_1424 h_1426 h_1427 h_1429 h_72 h_1428; omega) | omega)).trans ((nx_z (by omega)))) rfl (fun c_1445 hI_1446 hF_1447 h_1448 => ?_))
                refine bk_inl ?_
                refine v_bip rfl (by decide) ?_
                refine v_ic_ne_t (t := 51) rfl (by decide) ⟨by first | (clear ha2 hq0 hq1 hq2 hq3 h_3 h_4 h_5 h_6 h_7 h_8 h_9 h_10 h_11 h_12 h_13 h_14 h_15 h_69 h_71 h_966 h_1232 h_1415 h_1416 h_1417 h_1418 h_1419 h_1420 h_1421 h_1422 h_1423 h_1424; omega) | omega, ⟨h_1429.1, h_1429.2⟩, by decide, by decide⟩ ?_
                refine q_aload_n rfl rfl ?_
                have kn_1449 : Hid (c_1445 41 3 = e1) := (hF_1447 41 3 (fun h => absurd h.2 (ni rfl))).trans (hid kn_1444)
                refine v_cv rfl rfl rfl rfl (by decide) ⟨⟨rfl, rfl⟩, by decide, rfl⟩ (Nat.le_of_ble_eq_true rfl) (Nat.le_of_ble_eq_true rfl) (f_154 (e1 := e1) (a9 := (nx F e1 a)) (B := H) (r8 := (nx F e1 a)) (r := (hb H e1 (nx F e1 a))) hI_1446 ((hid kn_1449)) ((h_1448)) (fun j => ((hF_1447 43 j (fun h => absurd h.1 (nn rfl))).trans ((hF_1442 43 j (fun h => absurd h.1 (nn rfl))).trans ((hF_1437 43 j (fun h => absurd h.1 (nn rfl))).trans ((hF_1432 43 j (fun h => absurd h.1 (nn rfl))).trans (hFc 43 j (fun q => q.elim (fun h => absurd h.1 (nn rfl)) (fun q => q.elim (fun h => absurd h.1 (nn rfl)) (fun q => q.elim (fun h => absurd h.1 (nn rfl)) (fun q => q.elim (fun h => absurd h.1 (nn rfl)) (fun q => q.elim (fun h => absurd h.1 (nn rfl)) (fun q => q.elim (fun h => absurd h (nn rfl)) (fun h => absurd h (nn rfl))))))))))))).trans (hH j)) ((nx_tr hU (by first | (clear ha2 hq0 hq1 hq2 hq3 hq4 hq5 h_1 h_2 h_3 h_4 h_5 h_6 h_7 h_8 h_9 h_10 h_11 h_12 h_13 h_14 h_15 h_16 h_69 h_71 h_86 h_966 h_1232 h_1415 h_1416 h_1417 h_1418 h_1419 h_1420 h_1421 h_1422 h_1423 h_1424 h_1426 h_1427 h_1429 h_72 h_1428; omega) | omega) (by first | (clear ha2 hq0 hq1 hq2 hq3 hq4 h_1 h_2 h_3 h_4 h_5 h_6 h_7 h_8 h_9 h_10 h_11 h_12 h_13 h_14 h_15 h_16 h_69 h_70 h_71 h_86 h_966 h_1232 h_1415 h_1416 h_1417 h_1418 h_1419 h_1420 h_1421 h_1422 h_1423 h_1424 h_1426 h_1427 h_1429 h_72 h_1428; omega) | omega)).trans ((nx_z (by omega)))) rfl (fun c_1450 hI_1451 hF_1452 h_1453 => ?_))
                refine bk_inl ?_
                refine v_bip rfl (by decide) ?_
                refine v_ic_ne_t (t := 64) rfl (by decide) ⟨by first | (clear ha2 hq0 hq1 hq2 hq3 h_3 h_4 h_5 h_6 h_7 h_8 h_9 h_10 h_11 h_12 h_13 h_14 h_15 h_69 h_71 h_966 h_1232 h_1415 h_1416 h_1417 h_1418 h_1419 h_1420 h_1421 h_1422 h_1423 h_1424; omega) | omega, ⟨h_1429.1, h_1429.2⟩, by decide, by decide⟩ ?_
                refine v_bip rfl (by decide) ?_
                refine q_istore_n rfl (by decide) ?_
                refine q_aload_n rfl rfl ?_
                refine q_dup rfl rfl ?_
                refine v_gi (z := 4) (v := (nx F e1 a)) rfl rfl rfl (by decide) rfl rfl (h_1453) ?_
                refine q_iconst rfl ?_
                refine v_iadd (v := (nx F e1 a) + 1) rfl rfl ?_
                refine v_pi (z := 4) rfl rfl rfl (by decide) rfl rfl rfl (by decide) ?_
                refine q_aload_n rfl rfl ?_
                have kn_1454 : Hid (c_1430 41 5 = (-1)) := (hF_1432 41 5 (fun h => absurd h.2 (ni rfl))).trans (hc_1)
                have kn_1455 : Hid (c_1435 41 5 = (-1)) := (hF_1437 41 5 (fun h => absurd h.2 (ni rfl))).trans (hid kn_1454)
                have kn_1456 : Hid (c_1440 41 5 = (-1)) := (hF_1442 41 5 (fun h => absurd h.2 (ni rfl))).trans (hid kn_1455)
                have kn_1457 : Hid (c_1445 41 5 = (-1)) := (hF_1447 41 5 (fun h => absurd h.2 (ni rfl))).trans (hid kn_1456)
                have kn_1458 : Hid (c_1450 41 5 = (-1)) := (hF_1452 41 5 (fun h => absurd h.2 (ni rfl))).trans (hid kn_1457)
                have hI_1459 := iw_41_4 (v := (nx F e1 a) + 1) hI_1451 ⟨by first | exact rgp_l (rg_be h_70 (ha.1) ((rg_eq hg_e1 h_1).2)).1 (by decide) | omega, by first | exact rgp_h (rg_be h_70 (ha.1) ((rg_eq hg_e1 h_1).2)).2 (by decide) | omega⟩
                have kn_1460 : Hid (c_83 1 1 = e1) := (hF_85 1 1 (fun h => absurd h.2 (ni rfl))).trans (hid kn_68)
                have kn_1461 : Hid (c_1450 41 3 = e1) := (hF_1452 41 3 (fun h => absurd h.2 (ni rfl))).trans (hid kn_1449)
                have kn_1462 : Hid (c_83 1 5 = (-1)) := (hF_85 1 5 (fun h => absurd h.2 (ni rfl))).trans (hc_2)
                have kn_1463 : Hid (c_83 (A + 7) 5 = nw) := (hF_85 (A + 7) 5 (fun h => absurd h.1 (np hA rfl rfl))).trans (hg_nw)
                have kn_1464 : Hid (c_1430 41 29 = nw) := (hF_1432 41 29 (fun h => absurd h.2 (ni rfl))).trans (hr_nw)
                have kn_1465 : Hid (c_1435 41 29 = nw) := (hF_1437 41 29 (fun h => absurd h.2 (ni rfl))).trans (hid kn_1464)
                have kn_1466 : Hid (c_1440 41 29 = nw) := (hF_1442 41 29 (fun h => absurd h.2 (ni rfl))).trans (hid kn_1465)
                have kn_1467 : Hid (c_1445 41 29 = nw) := (hF_1447 41 29 (fun h => absurd h.2 (ni rfl))).trans (hid kn_1466)
                have kn_1468 : Hid (c_1450 41 29 = nw) := (hF_1452 41 29 (fun h => absurd h.2 (ni rfl))).trans (hid kn_1467)
                have kn_1469 : Hid (c_1430 41 7 = a2) := (hF_1432 41 7 (fun h => absurd h.2 (ni rfl))).trans (hc_3)
                have kn_1470 : Hid (c_1435 41 7 = a2) := (hF_1437 41 7 (fun h => absurd h.2 (ni rfl))).trans (hid kn_1469)
                have kn_1471 : Hid (c_1440 41 7 = a2) := (hF_1442 41 7 (fun h => absurd h.2 (ni rfl))).trans (hid kn_1470)
                have kn_1472 : Hid (c_1445 41 7 = a2) := (hF_1447 41 7 (fun h => absurd h.2 (ni rfl))).trans (hid kn_1471)
                have kn_1473 : Hid (c_1450 41 7 = a2) := (hF_1452 41 7 (fun h => absurd h.2 (ni rfl))).trans (hid kn_1472)
                have h_1474 : c_83 1 4 = 0 := (hid kn_961)
                have h_1475 : c_83 1 2 = (nx F e1 a) + 1 := (hz_87)
                have h_1476 : c_83 1 5 = (-1) := (hid kn_1462)
                have h_1477 : (up c_1450 41 4 ((nx F e1 a) + 1)) 41 5 = (-1) := ((up_n (by decide)).trans (hid kn_1458))
                have h_1478 : (up c_1450 41 4 ((nx F e1 a) + 1)) 41 4 = (nx F e1 a) + 1 := (up_e rfl)
                have h_1479 := ir_41_6 hI2
                have kn_1480 : Hid (c_1430 41 6 = c2 41 6) := hF_1432 41 6 (fun h => absurd h.2 (ni rfl))
                have kn_1481 : Hid (c_1435 41 6 = c2 41 6) := (hF_1437 41 6 (fun h => absurd h.2 (ni rfl))).trans (hid kn_1480)
                have kn_1482 : Hid (c_1440 41 6 = c2 41 6) := (hF_1442 41 6 (fun h => absurd h.2 (ni rfl))).trans (hid kn_1481)
                have kn_1483 : Hid (c_1445 41 6 = c2 41 6) := (hF_1447 41 6 (fun h => absurd h.2 (ni rfl))).trans (hid kn_1482)
                have kn_1484 : Hid (c_1450 41 6 = c2 41 6) := (hF_1452 41 6 (fun h => absurd h.2 (ni rfl))).trans (hid kn_1483)
                have h_1485 : (up c_1450 41 4 ((nx F e1 a) + 1)) 41 6 = c2 41 6 := ((up_n (by decide)).trans (hid kn_1484))
                have hA_1486 : Ce nw (c_83 (A + 9)) ((up c_1450 41 4 ((nx F e1 a) + 1)) 50) ((up c_1450 41 4 ((nx F e1 a) + 1)) 51) := ce_fr hrl0 (fun j => hF_85 (A + 9) j (fun h => absurd h.1 (np hA rfl rfl))) (fun j => (up_c (nn rfl)).trans ((hF_1452 50 j (fun h => absurd h.1 (nn rfl))).trans ((hF_1447 50 j (fun h => absurd h.1 (nn rfl))).trans ((hF_1442 50 j (fun h => absurd h.1 (nn rfl))).trans ((hF_1437 50 j (fun h => absurd h.1 (nn rfl))).trans (hF_1432 50 j (fun h => absurd h.1 (nn rfl)))))))) (fun j => (up_c (nn rfl)).trans ((hF_1452 51 j (fun h => absurd h.1 (nn rfl))).trans ((hF_1447 51 j (fun h => absurd h.1 (nn rfl))).trans ((hF_1442 51 j (fun h => absurd h.1 (nn rfl))).trans ((hF_1437 51 j (fun h => absurd h.1 (nn rfl))).trans (hF_1432 51 j (fun h => absurd h.1 (nn rfl))))))))
                refine v_cv rfl rfl rfl rfl (by decide) ⟨⟨rfl, rfl⟩, by decide, rfl⟩ (Nat.le_of_ble_eq_true rfl) (Nat.le_of_ble_eq_true rfl) (L_14 (m := c_83) (a2 := a2) (e1 := e1) (f0 := 0) (g0 := (-1)) (p0 := (nx F e1 a) + 1) (n0 := nw) (o0 := a2) (F := F) (H := H) hI_1459 hI_84 hI_963 hA (show 0 ≤ a2 ∧ a2 ≤ 6 from ha2) (by first | (clear ha2 hq0 hq1 hq2 hq3 hq4 hq5 h_1 h_2 h_3 h_4 h_5 h_6 h_7 h_8 h_9 h_10 h_11 h_12 h_13 h_14 h_15 h_16 h_69 h_70 h_71 h_86 h_966 h_1232 h_1415 h_1416 h_1417 h_1418 h_1419 h_1420 h_1421 h_1422 h_1423 h_1424 h_1426 h_1427 h_1429 h_72 h_1428; omega) | omega) (by first | (clear ha2 hq0 hq1 hq2 hq3 hq4 hq5 h_1 h_2 h_3 h_4 h_5 h_6 h_7 h_8 h_9 h_10 h_11 h_12 h_13 h_14 h_15 h_16 h_69 h_70 h_71 h_86 h_966 h_1232 h_1415 h_1416 h_1417 h_1418 h_1419 h_1420 h_1421 h_1422 h_1423 h_1424 h_1426 h_1427 h_1429 h_72 h_1428; omega) | omega) (by first | (clear ha2 hq0 hq1 hq2 hq3 hq4 hq5 h_1 h_2 h_3 h_4 h_5 h_6 h_7 h_8 h_9 h_10 h_11 h_12 h_13 h_14 h_15 h_16 h_69 h_70 h_71 h_86 h_966 h_1232 h_1415 h_1416 h_1417 h_1418 h_1419 h_1420 h_1421 h_1422 h_1423 h_1424 h_1426 h_1427 h_1429 h_72 h_1428; omega) | omega) (by first | (clear ha2 hq0 hq1 hq2 hq4 hq5 h_1 h_2 h_3 h_4 h_5 h_6 h_7 h_8 h_9 h_10 h_11 h_12 h_13 h_14 h_15 h_69 h_71 h_86 h_966 h_1232 h_1415 h_1416 h_1417 h_1418 h_1419 h_1420 h_1421 h_1422 h_1423 h_1424 h_1426 h_1427 h_1429 h_72 h_1428; omega) | omega) (by first | (clear ha2 hq0 hq1 hq2 hq3 hq4 hq5 h_1 h_2 h_3 h_4 h_5 h_6 h_7 h_8 h_9 h_10 h_11 h_12 h_13 h_14 h_15 h_16 h_69 h_70 h_71 h_966 h_1232 h_1415 h_1416 h_1417 h_1418 h_1419 h_1420 h_1421 h_1422 h_1423 h_1424 h_1426 h_1427 h_1429 h_72 h_1428; omega) | omega) (by first | (clear ha2 hq0 hq1 hq2 hq3 hq4 h_1 h_2 h_3 h_4 h_5 h_6 h_7 h_8 h_9 h_10 h_11 h_12 h_13 h_14 h_15 h_16 h_69 h_70 h_71 h_86 h_966 h_1232 h_1415 h_1416 h_1417 h_1418 h_1419 h_1420 h_1421 h_1422 h_1423 h_1424 h_1426 h_1427 h_1429 h_72 h_1428; omega) | omega) ((hid kn_1460)) (((up_n (by decide)).trans (hid kn_1461))) ((hid kn_961)) ((hid kn_1462)) ((hz_87)) ((hid kn_1463)) (((up_n (by decide)).trans (hid kn_1468))) (((up_n (by decide)).trans (hid kn_1473))) (fun j => ((hF_85 2 j (fun h => absurd h.1 (nn rfl))).trans (hFm 2 j (fun q => q.elim (fun h => absurd h.1 (nn rfl)) (fun q => q.elim (fun h => absurd h.1 (nn rfl)) (fun q => q.elim (fun h => absurd h.1 (nn rfl)) (fun q => q.elim (fun h => absurd h.1 (pn hA rfl rfl)) (fun h => absurd h (pn hA rfl rfl)))))))).trans (hF j)) (fun j => ((up_c (nn rfl)).trans ((hF_1452 43 j (fun h => absurd h.1 (nn rfl))).trans ((hF_1447 43 j (fun h => absurd h.1 (nn rfl))).trans ((hF_1442 43 j (fun h => absurd h.1 (nn rfl))).trans ((hF_1437 43 j (fun h => absurd h.1 (nn rfl))).trans ((hF_1432 43 j (fun h => absurd h.1 (nn rfl))).trans (hFc 43 j (fun q => q.elim (fun h => absurd h.1 (nn rfl)) (fun q => q.elim (fun h => absurd h.1 (nn rfl)) (fun q => q.elim (fun h => absurd h.1 (nn rfl)) (fun q => q.elim (fun h => absurd h.1 (nn rfl)) (fun q => q.elim (fun h => absurd h.1 (nn rfl)) (fun q => q.elim (fun h => absurd h (nn rfl)) (fun h => absurd h (nn rfl))))))))))))))).trans (hH j)) hU (rt_i1 ⟨by first | (clear ha2 hq0 hq1 hq2 hq3 hq4 hq5 h_1 h_2 h_3 h_4 h_5 h_6 h_7 h_8 h_9 h_10 h_11 h_12 h_13 h_14 h_15 h_16 h_69 h_70 h_71 h_86 h_966 h_1232 h_1415 h_1416 h_1417 h_1418 h_1419 h_1420 h_1421 h_1422 h_1423 h_1424 h_1426 h_1427 h_1429 h_1479 h_72 h_1428; omega) | omega, by first | (clear ha2 hq0 hq1 hq2 hq3 hq4 hq5 h_1 h_2 h_3 h_4 h_5 h_6 h_7 h_8 h_9 h_10 h_11 h_12 h_13 h_14 h_15 h_16 h_69 h_70 h_71 h_86 h_966 h_1232 h_1415 h_1416 h_1417 h_1418 h_1419 h_1420 h_1421 h_1422 h_1423 h_1424 h_1426 h_1427 h_1429 h_1479 h_72 h_1428; omega) | omega, by first | (clear ha2 hq0 hq1 hq2 hq3 hq4 hq5 h_1 h_2 h_3 h_4 h_5 h_6 h_7 h_8 h_9 h_10 h_11 h_12 h_13 h_14 h_15 h_16 h_69 h_70 h_71 h_86 h_966 h_1232 h_1415 h_1416 h_1417 h_1418 h_1419 h_1420 h_1421 h_1422 h_1423 h_1424 h_1426 h_1427 h_1429 h_1479 h_72 h_1428; omega) | omega, by first | (clear ha2 hq0 hq1 hq2 hq3 hq4 hq5 h_1 h_2 h_3 h_4 h_5 h_6 h_7 h_8 h_9 h_10 h_11 h_12 h_13 h_14 h_15 h_16 h_69 h_70 h_71 h_86 h_966 h_1232 h_1415 h_1416 h_1417 h_1418 h_1419 h_1420 h_1421 h_1422 h_1423 h_1424 h_1426 h_1427 h_1429 h_1479 h_72 h_1428; omega) | omega⟩) (ce_le hA_1486 (by omega)) H13 hG_965 (fun c_1487 hI_1488 hF_1489 hR_1491 h_1492 h_1493 hA_1494 => ?_))
                refine bk_inl ?_
                have h_1495 := ir_41_29 hI_1488
                have h_1496 := ir_41_7 hI_1488
                refine q_aload_n rfl rfl ?_
                refine q_iload_n rfl rfl ?_
                refine q_iconst rfl ?_
                refine v_cv rfl rfl rfl rfl (by decide) ⟨⟨rfl, rfl⟩, by decide, rfl⟩ (Nat.le_of_ble_eq_true rfl) (Nat.le_of_ble_eq_true rfl) ?_
                refine q_aload_n rfl rfl ?_
                refine v_cv rfl rfl rfl rfl (by decide) ⟨⟨rfl, rfl⟩, by decide, rfl⟩ (Nat.le_of_ble_eq_true rfl) (Nat.le_of_ble_eq_true rfl) ?_
                refine q_aload_n rfl rfl ?_
                have h_1497 := ir_41_5 hI_1488
                have h_1498 := ir_41_4 hI_1488
                have h_1499 := ir_41_6 hI_1488
                have h_1500 := rt_bad hR_1491 (by omega)
                have hrb_hR_1491 := rt_bad hR_1491 (by omega)
                refine v_gi (z := 5) (v := c_962 1 5) rfl rfl rfl (by decide) rfl rfl hrb_hR_1491.2.1 ?_
                refine q_iconst rfl ?_
                refine v_ic_ne_t (t := 12) rfl (by decide) ⟨by first | (clear ha2 hq0 hq1 hq2 hq3 hq4 hq5 h_1 h_2 h_3 h_4 h_5 h_6 h_7 h_8 h_9 h_10 h_11 h_12 h_13 h_14 h_15 h_16 h_69 h_70 h_71 h_86 h_966 h_1232 h_1415 h_1416 h_1417 h_1418 h_1419 h_1420 h_1421 h_1422 h_1423 h_1424 h_1426 h_1427 h_1429 h_1479 h_1495 h_1496 h_1493 h_1497 h_1498 h_1499 h_72 h_1428 h_1492; omega) | omega, ⟨(Int.le_trans (by decide) h_1420.1), (Int.le_trans h_1420.2 (by decide))⟩, by decide, by decide⟩ ?_
                refine q_iconst rfl ?_
                refine v_zret rfl rfl (by decide) ?_
                refine bk_inl ?_
                refine v_if_ne_f (t := 8) rfl (by decide) (by decide) ?_
                refine q_vret rfl rfl ?_
                refine bk_inl ?_
                refine q_goto (t := 4) rfl (by decide) ?_
                refine q_aload_n rfl rfl ?_
                refine v_cv rfl rfl rfl rfl (by decide) ⟨⟨rfl, rfl⟩, by decide, rfl⟩ (Nat.le_of_ble_eq_true rfl) (Nat.le_of_ble_eq_true rfl) ?_
                refine q_aload_n rfl rfl ?_
                refine v_gi (z := 5) (v := c_962 1 5) rfl rfl rfl (by decide) rfl rfl hrb_hR_1491.2.1 ?_
                refine q_iconst rfl ?_
                refine v_ic_ne_t (t := 12) rfl (by decide) ⟨by first | (clear ha2 hq0 hq1 hq2 hq3 hq4 hq5 h_1 h_2 h_3 h_4 h_5 h_6 h_7 h_8 h_9 h_10 h_11 h_12 h_13 h_14 h_15 h_16 h_69 h_70 h_71 h_86 h_966 h_1232 h_1415 h_1416 h_1417 h_1418 h_1419 h_1420 h_1421 h_1422 h_1423 h_1424 h_1426 h_1427 h_1429 h_1479 h_1495 h_1496 h_1493 h_1497 h_1498 h_1499 h_72 h_1428 h_1492; omega) | omega, ⟨(Int.le_trans (by decide) h_1420.1), (Int.le_trans h_1420.2 (by decide))⟩, by decide, by decide⟩ ?_
                refine q_iconst rfl ?_
                refine v_zret rfl rfl (by decide) ?_
                refine bk_inl ?_
                refine v_if_eq_t (t := 90) rfl (by decide) (by decide) ?_
                refine q_vret rfl rfl ?_
                have h_1501 : c_1487 41 5 = c_962 1 5 := hrb_hR_1491.2.1
                have h_1502 : c_1487 41 6 = c_962 1 4 := hrb_hR_1491.2.2.2
                exact K c_1487  hI_1488 (fun a j hm => (hF_1489 a j (fun q => q.elim (fun h => hm (Or.inl h)) (fun q => q.elim (fun h => hm (Or.inr (Or.inl h))) (fun q => q.elim (fun h => hm (Or.inr (Or.inr (Or.inl h)))) (fun q => q.elim (fun h => hm (Or.inr (Or.inr (Or.inr (Or.inl h))))) (fun q => q.elim (fun h => hm (Or.inr (Or.inr (Or.inr (Or.inr (Or.inl h)))))) (fun q => q.elim (fun h => hm (Or.inr (Or.inr (Or.inr (Or.inr (Or.inr (Or.inl h))))))) (fun h => hm (Or.inr (Or.inr (Or.inr (Or.inr (Or.inr (Or.inr h)))))))))))))).trans ((up_b (Decidable.or_iff_not_imp_left.mpr (fun h1 h2 => hm (Or.inl ⟨Decidable.not_not.mp h1, h2⟩)))).trans ((hF_1452 a j (fun h => hm (Or.inl h))).trans ((hF_1447 a j (fun h => hm (Or.inl h))).trans ((hF_1442 a j (fun h => hm (Or.inl h))).trans ((hF_1437 a j (fun h => hm (Or.inl h))).trans ((hF_1432 a j (fun h => hm (Or.inl h))).trans (hFc a j (fun q => q.elim (fun h => hm (Or.inl h)) (fun q => q.elim (fun h => hm (Or.inr (Or.inl h))) (fun q => q.elim (fun h => hm (Or.inr (Or.inr (Or.inl h)))) (fun q => q.elim (fun h => hm (Or.inr (Or.inr (Or.inr (Or.inl h))))) (fun q => q.elim (fun h => hm (Or.inr (Or.inr (Or.inr (Or.inr (Or.inl h)))))) (fun q => q.elim (fun h => hm (Or.inr (Or.inr (Or.inr (Or.inr (Or.inr (Or.inl h))))))) (fun h => hm (Or.inr (Or.inr (Or.inr (Or.inr (Or.inr (Or.inr h))))))))))))))))))))) (rt_i2 ⟨⟨by first | (clear ha2 hq0 hq1 hq2 hq3 hq4 hq5 h_1 h_2 h_3 h_4 h_5 h_6 h_7 h_8 h_9 h_10 h_11 h_12 h_13 h_14 h_15 h_16 h_69 h_70 h_71 h_86 h_966 h_1232 h_1415 h_1417 h_1418 h_1419 h_1420 h_1421 h_1422 h_1423 h_1424 h_1426 h_1427 h_1429 h_1479 h_1495 h_1496 h_1493 h_1497 h_1498 h_1499 h_72 h_1428 h_1492; omega) | omega, by first | (clear ha2 hq0 hq1 hq2 hq3 hq4 hq5 h_1 h_2 h_3 h_4 h_5 h_6 h_7 h_8 h_9 h_10 h_11 h_12 h_13 h_14 h_15 h_16 h_69 h_70 h_71 h_86 h_966 h_1232 h_1416 h_1417 h_1418 h_1419 h_1420 h_1421 h_1422 h_1423 h_1424 h_1426 h_1427 h_1429 h_1479 h_1495 h_1496 h_1493 h_1497 h_1498 h_1499 h_1500 h_72 h_1428 h_1492; omega) | omega⟩, by first | (clear ha2 hq0 hq1 hq2 hq3 hq4 hq5 h_1 h_2 h_3 h_4 h_5 h_6 h_7 h_8 h_9 h_10 h_11 h_12 h_13 h_14 h_15 h_16 h_69 h_70 h_71 h_86 h_966 h_1232 h_1415 h_1416 h_1417 h_1418 h_1419 h_1420 h_1421 h_1423 h_1424 h_1426 h_1427 h_1429 h_1479 h_1495 h_1496 h_1493 h_1497 h_1498 h_1499 h_1500 h_72 h_1428 h_1492; omega) | omega, by first | (clear ha2 hq0 hq1 hq2 hq3 hq4 hq5 h_1 h_2 h_3 h_4 h_5 h_6 h_7 h_8 h_9 h_10 h_11 h_12 h_13 h_14 h_15 h_16 h_69 h_70 h_71 h_86 h_966 h_1232 h_1415 h_1416 h_1417 h_1418 h_1419 h_1420 h_1421 h_1423 h_1424 h_1426 h_1427 h_1429 h_1479 h_1495 h_1496 h_1493 h_1497 h_1498 h_1499 h_72 h_1428 h_1492; omega) | omega, by first | (clear ha2 hq0 hq1 hq2 hq3 hq4 hq5 h_1 h_2 h_3 h_4 h_5 h_6 h_7 h_8 h_9 h_10 h_11 h_12 h_13 h_14 h_15 h_16 h_69 h_70 h_71 h_86 h_966 h_1232 h_1415 h_1417 h_1418 h_1419 h_1420 h_1421 h_1422 h_1423 h_1424 h_1426 h_1427 h_1429 h_1479 h_1495 h_1496 h_1493 h_1497 h_1498 h_1499 h_1500 h_72 h_1428 h_1492; omega) | omega⟩) (Or.inr (Or.inl (by first | (clear ha2 hq0 hq1 hq2 hq3 hq4 hq5 h_1 h_2 h_3 h_4 h_5 h_6 h_7 h_8 h_9 h_10 h_11 h_12 h_13 h_14 h_15 h_16 h_69 h_70 h_71 h_86 h_966 h_1232 h_1415 h_1417 h_1418 h_1419 h_1420 h_1421 h_1422 h_1423 h_1424 h_1426 h_1427 h_1429 h_1479 h_1495 h_1496 h_1493 h_1497 h_1498 h_1499 h_72 h_1428 h_1492; omega) | omega))) (by first | (clear ha2 hq0 hq1 hq2 hq3 hq4 hq5 h_1 h_2 h_3 h_4 h_5 h_6 h_7 h_8 h_9 h_10 h_11 h_12 h_13 h_14 h_15 h_16 h_69 h_70 h_71 h_86 h_966 h_1232 h_1415 h_1416 h_1417 h_1418 h_1419 h_1420 h_1421 h_1422 h_1423 h_1424 h_1426 h_1427 h_1429 h_1479 h_1495 h_1496 h_1497 h_1498 h_1499 h_1500 h_72 h_1428 h_1492; omega) | omega) (fun hz => absurd hz (by omega))
      · skip
        refine bk_inl ?_
        refine q_istore rfl (by decide) ?_
        refine q_iload rfl rfl ?_
        refine q_iconst rfl ?_
        refine v_ic_ne_f (t := 37) rfl (by decide) (by decide) ?_
        refine q_vret rfl rfl ?_
        intro hE_1503
        have hW : Wd P Q P P c_88 = Wd P Q P P m9 := (Prod.mk.inj (Prod.mk.inj hE_1503).2).1
        have kn_1504 : Hid (c_88 1 4 = 0) := (hF_90 1 4 (fun h => absurd h.2 (ni rfl))).trans (hc_0)
        have h_1505 := ir_1_4 hJ9
        have h_1506 : m9 1 4 = 0 := wd_fv (z := 4) 4 rfl hW rfl rfl rfl rfl (by decide) (hid kn_1504) ⟨by decide, by decide⟩ ⟨(Int.le_trans (by decide) h_1505.1), (Int.le_trans h_1505.2 (by decide))⟩
        have h_1507 := ir_1_2 hJ9
        have h_1508 : m9 1 2 = (nx F e1 a) := wd_fv (z := 2) 2 rfl hW rfl rfl rfl rfl (by decide) (hz_92) ⟨(Int.le_trans (by decide) (rg_be h_70 (ha.1) ((rg_eq hg_e1 h_1).2)).1), (Int.le_trans (rg_be h_70 (ha.1) ((rg_eq hg_e1 h_1).2)).2 (by decide))⟩ ⟨(Int.le_trans (by decide) h_1507.1), (Int.le_trans h_1507.2 (by decide))⟩
        have kn_1509 : Hid (c_88 1 5 = (-1)) := (hF_90 1 5 (fun h => absurd h.2 (ni rfl))).trans (hc_2)
        have h_1510 := ir_1_5 hJ9
        have h_1511 : m9 1 5 = (-1) := wd_fv (z := 5) 5 rfl hW rfl rfl rfl rfl (by decide) (hid kn_1509) ⟨by decide, by decide⟩ ⟨(Int.le_trans (by decide) h_1510.1), (Int.le_trans h_1510.2 (by decide))⟩
        have kn_1512 : Hid (c_88 (A + 7) 5 = nw) := (hF_90 (A + 7) 5 (fun h => absurd h.1 (np hA rfl rfl))).trans (hg_nw)
        have h_1513 := ir_p7_5 hJ9 hA
        have h_1514 : m9 (A + 7) 5 = nw := wd_fv (z := 5) 5 rfl hW (ck_p7 hA) (ck_p7 hA) rfl rfl (by omega) (hid kn_1512) ⟨(Int.le_trans (by decide) hnw.1), (Int.le_trans hnw.2 (by decide))⟩ ⟨(Int.le_trans (by decide) h_1513.1), (Int.le_trans h_1513.2 (by decide))⟩
        refine q_aload_n rfl rfl ?_
        refine v_cv rfl rfl rfl rfl (by decide) ⟨⟨rfl, rfl⟩, by decide, rfl⟩ (Nat.le_of_ble_eq_true rfl) (Nat.le_of_ble_eq_true rfl) ?_
        refine q_aload_n rfl rfl ?_
        refine v_gi (z := 5) (v := (-1)) rfl rfl rfl (by decide) rfl rfl (hc_1) ?_
        refine q_iconst rfl ?_
        refine v_ic_ne_f (t := 12) rfl (by decide) (by decide) ?_
        refine q_iconst rfl ?_
        refine q_goto (t := 13) rfl (by decide) ?_
        refine v_zret rfl rfl (by decide) ?_
        refine bk_inl ?_
        refine v_if_eq_f (t := 90) rfl (by decide) (by decide) ?_
        refine q_aload_n rfl rfl ?_
        have kn_1515 : Hid (c2 41 3 = e1) := (hFc 41 3 (fun q => q.elim (fun h => absurd h.2 (ni rfl)) (fun q => q.elim (fun h => absurd h.2 (ni rfl)) (fun q => q.elim (fun h => absurd h.2 (ni rfl)) (fun q => q.elim (fun h => absurd h.2 (ni rfl)) (fun q => q.elim (fun h => absurd h.2 (ni rfl)) (fun q => q.elim (fun h => absurd h (nn rfl)) (fun h => absurd h (nn rfl))))))))).trans (hr_e1)
        have h_1516 : -2147483648 ≤ (H (nx F e1 a)) ∧ (H (nx F e1 a)) ≤ 2147483647 := by rw [← hH (nx F e1 a)]; exact ir_43 hI (nx F e1 a)
        have h_1517 := hU (nx F e1 a) (by omega) (by omega)
        have h_1518 := hb_or (b := H) (e := e1) (r := (nx F e1 a))
        have h_1519 := hb_bd (b := H) (e := e1) (r := (nx F e1 a)) (lo := -2147483648) (hi := 2147483647) h_1516 (by decide)
        refine v_cv rfl rfl rfl rfl (by decide) ⟨⟨rfl, rfl⟩, by decide, rfl⟩ (Nat.le_of_ble_eq_true rfl) (Nat.le_of_ble_eq_true rfl) (f_154 (e1 := e1) (a9 := a) (B := H) (r8 := (nx F e1 a)) (r := (hb H e1 (nx F e1 a))) hI2 ((hid kn_1515)) ((hr_a)) (fun j => (hFc 43 j (fun q => q.elim (fun h => absurd h.1 (nn rfl)) (fun q => q.elim (fun h => absurd h.1 (nn rfl)) (fun q => q.elim (fun h => absurd h.1 (nn rfl)) (fun q => q.elim (fun h => absurd h.1 (nn rfl)) (fun q => q.elim (fun h => absurd h.1 (nn rfl)) (fun q => q.elim (fun h => absurd h (nn rfl)) (fun h => absurd h (nn rfl))))))))).trans (hH j)) ((nx_tr hU (by first | (clear ha2 hq0 hq1 hq2 hq3 hq4 hq5 h_1 h_2 h_3 h_4 h_5 h_6 h_7 h_8 h_9 h_10 h_11 h_12 h_13 h_14 h_15 h_16 h_69 h_70 h_71 h_1505 h_1506 h_1507 h_1508 h_1510 h_1511 h_1513 h_1514 h_72 h_91; omega) | omega) (by first | (clear ha2 hq0 hq1 hq2 hq3 hq4 h_1 h_2 h_3 h_4 h_5 h_6 h_7 h_8 h_9 h_10 h_11 h_12 h_13 h_14 h_15 h_16 h_69 h_70 h_71 h_1505 h_1506 h_1507 h_1508 h_1510 h_1511 h_1513 h_1514 h_72 h_91; omega) | omega)).trans (rfl)) rfl (fun c_1520 hI_1521 hF_1522 h_1523 => ?_))
        refine bk_inl ?_
        refine v_bip rfl (by decide) ?_
        refine v_ic_eq_f (t := 38) rfl (by decide) ⟨by first | (clear ha2 hq0 hq1 hq2 hq3 h_3 h_4 h_5 h_6 h_7 h_8 h_9 h_10 h_11 h_12 h_13 h_14 h_15 h_69 h_71 h_1505 h_1506 h_1507 h_1510 h_1511 h_1513 h_1514; omega) | omega, ⟨h_1519.1, h_1519.2⟩, by decide, by decide⟩ ?_
        refine q_aload_n rfl rfl ?_
        have kn_1524 : Hid (c_1520 41 3 = e1) := (hF_1522 41 3 (fun h => absurd h.2 (ni rfl))).trans (hid kn_1515)
        refine v_cv rfl rfl rfl rfl (by decide) ⟨⟨rfl, rfl⟩, by decide, rfl⟩ (Nat.le_of_ble_eq_true rfl) (Nat.le_of_ble_eq_true rfl) (f_154 (e1 := e1) (a9 := (nx F e1 a)) (B := H) (r8 := (nx F e1 a)) (r := (hb H e1 (nx F e1 a))) hI_1521 ((hid kn_1524)) ((h_1523)) (fun j => ((hF_1522 43 j (fun h => absurd h.1 (nn rfl))).trans (hFc 43 j (fun q => q.elim (fun h => absurd h.1 (nn rfl)) (fun q => q.elim (fun h => absurd h.1 (nn rfl)) (fun q => q.elim (fun h => absurd h.1 (nn rfl)) (fun q => q.elim (fun h => absurd h.1 (nn rfl)) (fun q => q.elim (fun h => absurd h.1 (nn rfl)) (fun q => q.elim (fun h => absurd h (nn rfl)) (fun h => absurd h (nn rfl)))))))))).trans (hH j)) ((nx_tr hU (by first | (clear ha2 hq0 hq1 hq2 hq3 hq4 hq5 h_1 h_2 h_3 h_4 h_5 h_6 h_7 h_8 h_9 h_10 h_11 h_12 h_13 h_14 h_15 h_16 h_69 h_70 h_71 h_1505 h_1506 h_1510 h_1511 h_1513 h_1514 h_1516 h_1517 h_1519 h_72 h_91 h_1518; omega) | omega) (by first | (clear ha2 hq0 hq1 hq2 hq3 hq4 h_1 h_2 h_3 h_4 h_5 h_6 h_7 h_8 h_9 h_10 h_11 h_12 h_13 h_14 h_15 h_16 h_69 h_70 h_71 h_1505 h_1506 h_1507 h_1508 h_1510 h_1511 h_1513 h_1514 h_1516 h_1517 h_1519 h_72 h_91 h_1518; omega) | omega)).trans ((nx_z (by omega)))) rfl (fun c_1525 hI_1526 hF_1527 h_1528 => ?_))
        refine bk_inl ?_
        refine v_bip rfl (by decide) ?_
        refine v_ic_eq_f (t := 38) rfl (by decide) ⟨by first | (clear ha2 hq0 hq1 hq2 hq3 h_3 h_4 h_5 h_6 h_7 h_8 h_9 h_10 h_11 h_12 h_13 h_14 h_15 h_69 h_71 h_1505 h_1506 h_1507 h_1510 h_1511 h_1513 h_1514; omega) | omega, ⟨h_1519.1, h_1519.2⟩, by decide, by decide⟩ ?_
        refine q_aload_n rfl rfl ?_
        have kn_1529 : Hid (c_1525 41 3 = e1) := (hF_1527 41 3 (fun h => absurd h.2 (ni rfl))).trans (hid kn_1524)
        refine v_cv rfl rfl rfl rfl (by decide) ⟨⟨rfl, rfl⟩, by decide, rfl⟩ (Nat.le_of_ble_eq_true rfl) (Nat.le_of_ble_eq_true rfl) (f_154 (e1 := e1) (a9 := (nx F e1 a)) (B := H) (r8 := (nx F e1 a)) (r := (hb H e1 (nx F e1 a))) hI_1526 ((hid kn_1529)) ((h_1528)) (fun j => ((hF_1527 43 j (fun h => absurd h.1 (nn rfl))).trans ((hF_1522 43 j (fun h => absurd h.1 (nn rfl))).trans (hFc 43 j (fun q => q.elim (fun h => absurd h.1 (nn rfl)) (fun q => q.elim (fun h => absurd h.1 (nn rfl)) (fun q => q.elim (fun h => absurd h.1 (nn rfl)) (fun q => q.elim (fun h => absurd h.1 (nn rfl)) (fun q => q.elim (fun h => absurd h.1 (nn rfl)) (fun q => q.elim (fun h => absurd h (nn rfl)) (fun h => absurd h (nn rfl))))))))))).trans (hH j)) ((nx_tr hU (by first | (clear ha2 hq0 hq1 hq2 hq3 hq4 hq5 h_1 h_2 h_3 h_4 h_5 h_6 h_7 h_8 h_9 h_10 h_11 h_12 h_13 h_14 h_15 h_16 h_69 h_70 h_71 h_1505 h_1506 h_1510 h_1511 h_1513 h_1514 h_1516 h_1517 h_1519 h_72 h_91 h_1518; omega) | omega) (by first | (clear ha2 hq0 hq1 hq2 hq3 hq4 h_1 h_2 h_3 h_4 h_5 h_6 h_7 h_8 h_9 h_10 h_11 h_12 h_13 h_14 h_15 h_16 h_69 h_70 h_71 h_1505 h_1506 h_1507 h_1508 h_1510 h_1511 h_1513 h_1514 h_1516 h_1517 h_1519 h_72 h_91 h_1518; omega) | omega)).trans ((nx_z (by omega)))) rfl (fun c_1530 hI_1531 hF_1532 h_1533 => ?_))
        refine bk_inl ?_
        refine v_bip rfl (by decide) ?_
        refine v_ic_ne_t (t := 90) rfl (by decide) ⟨by first | (clear ha2 hq0 hq1 hq2 hq3 h_3 h_4 h_5 h_6 h_7 h_8 h_9 h_10 h_11 h_12 h_13 h_14 h_15 h_69 h_71 h_1505 h_1506 h_1507 h_1510 h_1511 h_1513 h_1514; omega) | omega, ⟨h_1519.1, h_1519.2⟩, by decide, by decide⟩ ?_
        refine q_vret rfl rfl ?_
        have kn_1534 : Hid (c_1520 41 5 = (-1)) := (hF_1522 41 5 (fun h => absurd h.2 (ni rfl))).trans (hc_1)
        have kn_1535 : Hid (c_1525 41 5 = (-1)) := (hF_1527 41 5 (fun h => absurd h.2 (ni rfl))).trans (hid kn_1534)
        have kn_1536 : Hid (c_1530 41 5 = (-1)) := (hF_1532 41 5 (fun h => absurd h.2 (ni rfl))).trans (hid kn_1535)
        have h_1537 : c_1530 41 5 = (-1) := (hid kn_1536)
        have h_1538 : c_1530 41 4 = (nx F e1 a) := (h_1533)
        have h_1539 := ir_41_6 hI2
        have kn_1540 : Hid (c_1520 41 6 = c2 41 6) := hF_1522 41 6 (fun h => absurd h.2 (ni rfl))
        have kn_1541 : Hid (c_1525 41 6 = c2 41 6) := (hF_1527 41 6 (fun h => absurd h.2 (ni rfl))).trans (hid kn_1540)
        have kn_1542 : Hid (c_1530 41 6 = c2 41 6) := (hF_1532 41 6 (fun h => absurd h.2 (ni rfl))).trans (hid kn_1541)
        have h_1543 : c_1530 41 6 = c2 41 6 := (hid kn_1542)
        have kn_1544 : Hid (c_1520 41 29 = nw) := (hF_1522 41 29 (fun h => absurd h.2 (ni rfl))).trans (hr_nw)
        have kn_1545 : Hid (c_1525 41 29 = nw) := (hF_1527 41 29 (fun h => absurd h.2 (ni rfl))).trans (hid kn_1544)
        have kn_1546 : Hid (c_1530 41 29 = nw) := (hF_1532 41 29 (fun h => absurd h.2 (ni rfl))).trans (hid kn_1545)
        have h_1547 : c_1530 41 29 = nw := (hid kn_1546)
        have kn_1548 : Hid (c_1520 41 7 = a2) := (hF_1522 41 7 (fun h => absurd h.2 (ni rfl))).trans (hc_3)
        have kn_1549 : Hid (c_1525 41 7 = a2) := (hF_1527 41 7 (fun h => absurd h.2 (ni rfl))).trans (hid kn_1548)
        have kn_1550 : Hid (c_1530 41 7 = a2) := (hF_1532 41 7 (fun h => absurd h.2 (ni rfl))).trans (hid kn_1549)
        have h_1551 : c_1530 41 7 = a2 := (hid kn_1550)
        have h_1552 : c_1530 41 29 = nw := (hid kn_1546)
        have hA_1553 : Ce nw (c_88 (A + 9)) (c_1530 50) (c_1530 51) := ce_fr hrl0 (fun j => hF_90 (A + 9) j (fun h => absurd h.1 (np hA rfl rfl))) (fun j => (hF_1532 50 j (fun h => absurd h.1 (nn rfl))).trans ((hF_1527 50 j (fun h => absurd h.1 (nn rfl))).trans (hF_1522 50 j (fun h => absurd h.1 (nn rfl))))) (fun j => (hF_1532 51 j (fun h => absurd h.1 (nn rfl))).trans ((hF_1527 51 j (fun h => absurd h.1 (nn rfl))).trans (hF_1522 51 j (fun h => absurd h.1 (nn rfl)))))
        have hA_1554 : Ce nw (m9 (A + 9)) (c_1530 50) (c_1530 51) := ce_l hA_1553 (fun j h1 h2 => wd_av hW (ck_p9 hA) (ck_p9 hA) (by decide) (a68 hA rfl) ⟨h1, by omega⟩ rfl (ir_p9 hI_89 hA j) (ir_p9 hJ9 hA j))
        exact K c_1530  hI_1531 (fun a j hm => (hF_1532 a j (fun h => hm (Or.inl h))).trans ((hF_1527 a j (fun h => hm (Or.inl h))).trans ((hF_1522 a j (fun h => hm (Or.inl h))).trans (hFc a j (fun q => q.elim (fun h => hm (Or.inl h)) (fun q => q.elim (fun h => hm (Or.inr (Or.inl h))) (fun q => q.elim (fun h => hm (Or.inr (Or.inr (Or.inl h)))) (fun q => q.elim (fun h => hm (Or.inr (Or.inr (Or.inr (Or.inl h))))) (fun q => q.elim (fun h => hm (Or.inr (Or.inr (Or.inr (Or.inr (Or.inl h)))))) (fun q => q.elim (fun h => hm (Or.inr (Or.inr (Or.inr (Or.inr (Or.inr (Or.inl h))))))) (fun h => hm (Or.inr (Or.inr (Or.inr (Or.inr (Or.inr (Or.inr h))))))))))))))))) (rt_i1 ⟨by first | (clear ha2 hq0 hq1 hq2 hq3 hq4 hq5 h_1 h_2 h_3 h_4 h_5 h_6 h_7 h_8 h_9 h_10 h_11 h_12 h_13 h_14 h_15 h_16 h_69 h_70 h_71 h_1507 h_1508 h_1510 h_1511 h_1513 h_1514 h_1516 h_1517 h_1519 h_1539 h_72 h_91 h_1518; omega) | omega, by first | (clear ha2 hq0 hq1 hq2 hq3 hq4 hq5 h_1 h_2 h_3 h_4 h_5 h_6 h_7 h_8 h_9 h_10 h_11 h_12 h_13 h_14 h_15 h_16 h_69 h_70 h_71 h_1505 h_1506 h_1507 h_1508 h_1510 h_1511 h_1513 h_1514 h_1516 h_1517 h_1519 h_1539 h_72 h_91 h_1518; omega) | omega, by first | (clear ha2 hq0 hq1 hq2 hq3 hq4 hq5 h_1 h_2 h_3 h_4 h_5 h_6 h_7 h_8 h_9 h_10 h_11 h_12 h_13 h_14 h_15 h_16 h_69 h_70 h_71 h_1505 h_1506 h_1507 h_1510 h_1511 h_1513 h_1514 h_1516 h_1517 h_1519 h_1539 h_72 h_91 h_1518; omega) | omega, by first | (clear ha2 hq0 hq1 hq2 hq3 hq4 hq5 h_1 h_2 h_3 h_4 h_5 h_6 h_7 h_8 h_9 h_10 h_11 h_12 h_13 h_14 h_15 h_16 h_69 h_70 h_71 h_1505 h_1506 h_1507 h_1508 h_1513 h_1514 h_1516 h_1517 h_1519 h_1539 h_72 h_91 h_1518; omega) | omega⟩) (Or.inr (Or.inr ⟨by first | (clear ha2 hq0 hq1 hq2 hq3 hq4 hq5 h_1 h_2 h_3 h_4 h_5 h_6 h_7 h_8 h_9 h_10 h_11 h_12 h_13 h_14 h_15 h_16 h_69 h_70 h_71 h_1505 h_1506 h_1507 h_1508 h_1510 h_1511 h_1513 h_1516 h_1517 h_1519 h_1539 h_72 h_91 h_1518; omega) | omega, by first | (clear ha2 hq0 hq1 hq2 hq3 hq4 hq5 h_1 h_2 h_3 h_4 h_5 h_6 h_7 h_8 h_9 h_10 h_11 h_12 h_13 h_14 h_15 h_69 h_71 h_1505 h_1506 h_1507 h_1510 h_1511 h_1513 h_1514 h_1516 h_1517 h_1519 h_1539 h_72 h_91 h_1518; omega) | omega, by first | (clear ha2 hq0 hq1 hq2 hq3 hq4 hq5 h_1 h_2 h_3 h_4 h_5 h_6 h_7 h_8 h_9 h_10 h_11 h_12 h_13 h_14 h_15 h_16 h_69 h_71 h_1505 h_1506 h_1507 h_1510 h_1511 h_1513 h_1514 h_1516 h_1517 h_1519 h_1539 h_72 h_91 h_1518; omega) | omega, by first | (clear ha2 hq0 hq1 hq2 hq3 hq4 hq5 h_1 h_2 h_3 h_4 h_5 h_6 h_7 h_8 h_9 h_10 h_11 h_12 h_13 h_14 h_15 h_69 h_71 h_1505 h_1506 h_1507 h_1510 h_1511 h_1513 h_1514 h_1516 h_1517 h_1519 h_1539 h_72 h_91 h_1518; omega) | omega⟩)) (by first | (clear ha2 hq0 hq1 hq2 hq3 hq4 hq5 h_1 h_2 h_3 h_4 h_5 h_6 h_7 h_8 h_9 h_10 h_11 h_12 h_13 h_14 h_15 h_16 h_69 h_70 h_71 h_1505 h_1506 h_1507 h_1508 h_1510 h_1511 h_1513 h_1514 h_1516 h_1517 h_1519 h_1539 h_72 h_91 h_1518; omega) | omega) (fun _ => ce_le hA_1554 (by omega))
set_option maxRecDepth 100000 in
set_option maxHeartbeats 4000000 in
theorem L_12 {sc : List Int32} {e eg : Int} {d dh u ug P Q P2 Q2 A : Nat} {c m m9 : ME} {a2 e1 f0 g0 p0 n0 o0 : Int} {F H : Int → Int} {Z : AR → Prop} (hI : Iv u e P2 Q2 c) (hJ : Iv ug eg P Q m) (hJ9 : Iv ug eg P Q m9) (hA : A = 13 ∨ A = 25) (ha2 : 0 ≤ a2 ∧ a2 ≤ 6) (hq0 : (f0 = 0)) (hq1 : (g0 = (-1))) (hq2 : (o0 = a2)) (hq3 : (n0 ≤ p0)) (hq4 : (p0 ≤ e1)) (hq5 : (e1 ≤ 150)) (hg_e1 : m 1 1 = e1) (hr_e1 : c 41 3 = e1) (hg_f0 : m 1 4 = f0) (hg_g0 : m 1 5 = g0) (hg_p0 : m 1 2 = p0) (hg_n0 : m (A + 7) 5 = n0) (hr_n0 : c 41 29 = n0) (hr_o0 : c 41 7 = o0) (hF : ∀ j : Int, m 2 j = F j) (hH : ∀ j : Int, c 43 j = H j) (hU : Ub F H) (hRt : Rt m c) (hr0 : Ce n0 (m (A + 9)) (c 50) (c 51)) (H13 : ∀ {d9 : Nat} {c m m9 : ME} {e1 f0 g0 p0 n0 o0 : Int} {Z : AR → Prop}, d ≤ d9 → a2 + 1 ≤ 6 → (Iv u e P2 Q2 c) → (Iv ug eg P Q m) → (Iv ug eg P Q m9) → (0 ≤ (a2 + 1) ∧ (a2 + 1) ≤ 6) → ((f0 = 0)) → ((g0 = (-1))) → ((o0 = (a2 + 1))) → ((n0 ≤ p0)) → ((p0 ≤ e1)) → ((e1 ≤ 150)) → (m 1 1 = e1) → (c 41 3 = e1) → (m 1 4 = f0) → (m 1 5 = g0) → (m 1 2 = p0) → (m (A + 7) 5 = n0) → (c 41 29 = n0) → (c 41 7 = o0) → (∀ j : Int, m 2 j = F j) → (∀ j : Int, c 43 j = H j) → (Ub F H) → (Rt m c) → (Ce n0 (m (A + 9)) (c 50) (c 51)) → (Wp sc (dh + 33) 13 0 [(0, .ref (A + 7)), (1, .ref 1), (2, vi (a2 + 1))] [] (Wd P Q P P m) 0 0 (fun q => q = (.inl (none), Wd P Q P P m9, 0, 0))) → (∀ (c2 : ME), Iv u e P2 Q2 c2 → (∀ (a : Nat) (j : Int), ¬ ((a = 41 ∧ j = 4) ∨ (a = 41 ∧ j = 5) ∨ (a = 41 ∧ j = 6) ∨ (a = 41 ∧ j = 7) ∨ (a = 41 ∧ j = 29) ∨ a = 50 ∨ a = 51) → c2 a j = c a j) → (Rt m9 c2) → ((m9 1 4 < 0) ∨ (m9 1 4 > 0) ∨ (m9 (A + 7) 5 = c2 41 29 ∧ c2 41 29 + p0 ≤ m9 1 2 + n0 ∧ m9 1 2 ≤ e1 ∧ m9 1 2 ≥ p0)) → ((c2 41 7 = (a2 + 1))) → (m9 1 4 = 0 → Ce (c2 41 29) (m9 (A + 9)) (c2 50) (c2 51)) → Z (.inl (none), Wd P2 Q2 P2 P2 c2, 0, 0)) → Wp sc (d9 + 32) 174 0 [(0, .ref 41)] [] (Wd P2 Q2 P2 P2 c) 0 0 Z) (hG : Wp sc (dh + 35) 12 0 [(0, .ref (A + 7)), (1, .ref 1), (2, vi a2)] [] (Wd P Q P P m) 0 0 (fun q => q = (.inl (none), Wd P Q P P m9, 0, 0))) (K : ∀ (c2 : ME), Iv u e P2 Q2 c2 → (∀ (a : Nat) (j : Int), ¬ ((a = 41 ∧ j = 4) ∨ (a = 41 ∧ j = 5) ∨ (a = 41 ∧ j = 6) ∨ (a = 41 ∧ j = 7) ∨ (a = 41 ∧ j = 29) ∨ a = 50 ∨ a = 51) → c2 a j = c a j) → (Rt m9 c2) → ((m9 1 4 < 0) ∨ (m9 1 4 > 0) ∨ (m9 (A + 7) 5 = c2 41 29 ∧ c2 41 29 + p0 ≤ m9 1 2 + n0 ∧ m9 1 2 ≤ e1 ∧ m9 1 2 ≥ p0)) → ((c2 41 7 = a2)) → (m9 1 4 = 0 → Ce (c2 41 29) (m9 (A + 9)) (c2 50) (c2 51)) → Z (.inl (none), Wd P2 Q2 P2 P2 c2, 0, 0)) : Wp sc (d + 35) 173 0 [(0, .ref 41)] [] (Wd P2 Q2 P2 P2 c) 0 0 Z := by
  have hP := iv_P hJ
  have hQ := iv_Q hJ
  have h_1555 := ir_1_1 hJ
  have h_1556 := ir_41_3 hI
  have h_1557 := ir_1_4 hJ
  have h_1558 := ir_1_5 hJ
  have h_1559 := ir_1_2 hJ
  have h_1560 := ir_p7_5 hJ hA
  have h_1561 := ir_41_29 hI
  have h_1562 := ir_41_7 hI
  refine gh hG ?_
  refine q_aload_n rfl rfl ?_
  refine q_aload_n rfl rfl ?_
  refine q_iload_n rfl rfl ?_
  refine v_cv rfl rfl rfl (ck_p7 hA) (a68 hA rfl) ⟨⟨rfl, rfl⟩, by decide, rfl⟩ (Nat.le_of_ble_eq_true rfl) (Nat.le_of_ble_eq_true rfl) (fn_of (r_14 (a2 := a2) hJ hA (show 0 ≤ a2 ∧ a2 ≤ 6 from ha2) (fun c_1563 hI_1564 hF_1565 => ?_)))
  intro hG_1566
  refine bk_inl ?_
  refine q_iconst rfl ?_
  refine q_istore_n rfl (by decide) ?_
  have h_1567 := ir_1_4 hI_1564
  by_cases h_1568 : c_1563 1 4 = 0
  · skip
    refine Wp_ls [(0, .ref (A + 7)), (1, .ref 1), (2, vi a2), (3, vi 0)] (lsub_cons rfl (lsub_cons rfl (lsub_cons rfl (lsub_cons rfl lsub_nil)))) ?_
    refine gh_stop ((s_12_l (sc := sc) (d := dh + 22) (c := c_1563) (a2 := a2) (Z := fun _ => True) hI_1564 hA ha2 (fun c9 Z9 h hI9 K9 => r_13 (d := dh + 1) hI9 hA ⟨by omega, h⟩ K9) (fun _ _ _ => trivial) 304) c_1563 0 hI_1564 (fun a j hm => rfl) ⟨by omega, by omega⟩ (by omega)) (fun hG_1569 => ?_)
    refine q_aload_n rfl rfl ?_
    have h_1570 := ir_41_5 hI
    have h_1571 := ir_41_4 hI
    have h_1572 := ir_41_6 hI
    have h_1573 := rt_ok hRt (by omega)
    have hro_hRt := rt_ok hRt (by omega)
    refine v_cv rfl rfl rfl rfl (by decide) ⟨⟨rfl, rfl⟩, by decide, rfl⟩ (Nat.le_of_ble_eq_true rfl) (Nat.le_of_ble_eq_true rfl) (L_14 (m := m) (a2 := a2) (e1 := e1) (f0 := f0) (g0 := g0) (p0 := p0) (n0 := n0) (o0 := o0) (F := F) (H := H) hI hJ hI_1564 hA (show 0 ≤ a2 ∧ a2 ≤ 6 from ha2) (by first | (clear ha2 hq1 hq2 hq3 hq4 hq5 h_1555 h_1556 h_1557 h_1558 h_1559 h_1560 h_1561 h_1562 h_1567 h_1568 h_1570 h_1571 h_1572 h_1573; omega) | omega) (by first | (clear ha2 hq0 hq2 hq3 hq4 hq5 h_1555 h_1556 h_1557 h_1558 h_1559 h_1560 h_1561 h_1562 h_1567 h_1568 h_1570 h_1571 h_1572 h_1573; omega) | omega) (by first | (clear ha2 hq0 hq1 hq3 hq4 hq5 h_1555 h_1556 h_1557 h_1558 h_1559 h_1560 h_1561 h_1562 h_1567 h_1568 h_1570 h_1571 h_1572 h_1573; omega) | omega) (by first | (clear ha2 hq0 hq1 hq2 hq4 hq5 h_1555 h_1556 h_1557 h_1558 h_1559 h_1560 h_1561 h_1562 h_1567 h_1568 h_1570 h_1571 h_1572 h_1573; omega) | omega) (by first | (clear ha2 hq0 hq1 hq2 hq3 hq5 h_1555 h_1556 h_1557 h_1558 h_1559 h_1560 h_1561 h_1562 h_1567 h_1568 h_1570 h_1571 h_1572 h_1573; omega) | omega) (by first | (clear ha2 hq0 hq1 hq2 hq3 hq4 h_1555 h_1556 h_1557 h_1558 h_1559 h_1560 h_1561 h_1562 h_1567 h_1568 h_1570 h_1571 h_1572 h_1573; omega) | omega) ((hg_e1)) ((hr_e1)) ((hg_f0)) ((hg_g0)) ((hg_p0)) ((hg_n0)) ((hr_n0)) ((hr_o0)) (fun j => hF j) (fun j => hH j) hU hRt (ce_le hr0 (by omega)) H13 hG_1566 (fun c_1574 hI_1575 hF_1576 hR_1578 h_1579 h_1580 hA_1581 => ?_))
    refine bk_inl ?_
    have h_1582 := ir_41_29 hI_1575
    have h_1583 := ir_p7_5 hI_1564 hA
    have h_1584 := ir_1_2 hI_1564
    have h_1585 := ir_41_7 hI_1575
    refine Wp_ls [(0, .ref 41)] (lsub_cons rfl lsub_nil) ?_
    have h_1586 := ir_41_4 hI_1575
    have h_1587 := ir_1_5 hI_1564
    have h_1588 := ir_41_5 hI_1575
    have h_1589 := ir_41_6 hI_1575
    have h_1590 := rt_ok hR_1578 (by omega)
    have hro_hR_1578 := rt_ok hR_1578 (by omega)
    have hA_1591 : Ce (c_1563 (A + 7) 5) (c_1563 (A + 9)) (c_1574 50) (c_1574 51) := ce_le (hA_1581 (by omega)) (by omega)
    exact (L_12_l (sc := sc) (d := d) (dh := dh) hI hJ hJ9 hA ha2 hq0 hq1 hq2 hq3 hq4 hq5 hg_e1 hr_e1 hg_f0 hg_g0 hg_p0 hg_n0 hr_n0 hr_o0 hF hH hU hRt hr0 H13 K 602) c_1574 c_1563 0 (c_1563 1 2) (c_1563 (A + 7) 5) hI_1575 (fun a j hm => hF_1576 a j (fun q => q.elim (fun h => hm (Or.inl h)) (fun q => q.elim (fun h => hm (Or.inr (Or.inl h))) (fun q => q.elim (fun h => hm (Or.inr (Or.inr (Or.inl h)))) (fun q => q.elim (fun h => hm (Or.inr (Or.inr (Or.inr (Or.inl h))))) (fun q => q.elim (fun h => hm (Or.inr (Or.inr (Or.inr (Or.inr (Or.inl h)))))) (fun q => q.elim (fun h => hm (Or.inr (Or.inr (Or.inr (Or.inr (Or.inr (Or.inl h))))))) (fun h => hm (Or.inr (Or.inr (Or.inr (Or.inr (Or.inr (Or.inr h)))))))))))))) hI_1564 (fun a j hm => hF_1565 a j (fun q => q.elim (fun h => hm (Or.inl h)) (fun q => q.elim (fun h => hm (Or.inr (Or.inl h))) (fun q => q.elim (fun h => hm (Or.inr (Or.inr (Or.inl h)))) (fun q => q.elim (fun h => hm (Or.inr (Or.inr (Or.inr (Or.inl h))))) (fun h => hm (Or.inr (Or.inr (Or.inr (Or.inr h)))))))))) ⟨by omega, by omega⟩ ⟨by omega, by omega⟩ ⟨by omega, by omega⟩ (rfl) (hro_hR_1578.2.2.1) (rfl) ((show _ = c_1574 41 29 from rfl).trans (by omega)) ((show _ = c_1563 1 4 from rfl).trans (by omega)) (hro_hR_1578.2.1) ((show _ = c_1563 1 5 from rfl).trans (by omega)) ((show _ = c_1574 41 7 from rfl).trans (by omega)) (by first | (clear ha2 hq0 hq1 hq2 hq5 h_1555 h_1556 h_1557 h_1558 h_1562 h_1567 h_1568 h_1570 h_1571 h_1572 h_1573 h_1582 h_1585 h_1580 h_1586 h_1587 h_1588 h_1589; omega) | omega) (by first | (clear ha2 hq0 hq1 hq2 hq5 h_1555 h_1556 h_1557 h_1558 h_1560 h_1561 h_1562 h_1567 h_1568 h_1570 h_1571 h_1572 h_1573 h_1582 h_1583 h_1585 h_1580 h_1586 h_1587 h_1588 h_1589; omega) | omega) (by first | (clear ha2 hq0 hq1 hq2 hq3 h_1557 h_1558 h_1559 h_1560 h_1561 h_1562 h_1567 h_1568 h_1570 h_1571 h_1572 h_1573 h_1582 h_1583 h_1585 h_1580 h_1586 h_1587 h_1588 h_1589; omega) | omega) (by first | (clear ha2 hq0 hq1 hq2 hq3 hq4 hq5 h_1555 h_1556 h_1557 h_1558 h_1559 h_1560 h_1561 h_1562 h_1567 h_1568 h_1570 h_1571 h_1572 h_1573 h_1582 h_1583 h_1585 h_1580 h_1586 h_1587 h_1588 h_1589 h_1590 h_1579; omega) | omega) (ce_le hA_1591 (by omega)) hG_1569 (by omega)
  · skip
    refine q_iload_n rfl rfl ?_
    refine v_sip rfl (by decide) ?_
    refine v_ic_ge_f (t := 59) rfl (by decide) (by decide) ?_
    refine q_aload_n rfl rfl ?_
    refine v_cv rfl rfl rfl rfl (by decide) ⟨⟨rfl, rfl⟩, by decide, rfl⟩ (Nat.le_of_ble_eq_true rfl) (Nat.le_of_ble_eq_true rfl) ?_
    refine q_aload_n rfl rfl ?_
    refine v_gi (z := 4) (v := c_1563 1 4) rfl rfl rfl (by decide) rfl rfl rfl ?_
    refine v_if_ne_t (t := 11) rfl (by decide) ⟨by first | (clear ha2 hq0 hq1 hq2 hq3 hq4 hq5 h_1555 h_1556 h_1557 h_1558 h_1559 h_1560 h_1561 h_1562 h_1567; omega) | omega, ⟨(Int.le_trans (by decide) h_1567.1), (Int.le_trans h_1567.2 (by decide))⟩, by decide, by decide⟩ ?_
    refine q_iconst rfl ?_
    refine v_zret rfl rfl (by decide) ?_
    refine bk_inl ?_
    refine v_if_eq_t (t := 59) rfl (by decide) (by decide) ?_
    refine q_vret rfl rfl ?_
    intro hE_1592
    have hW : Wd P Q P P c_1563 = Wd P Q P P m9 := (Prod.mk.inj (Prod.mk.inj hE_1592).2).1
    have h_1593 := ir_1_4 hJ9
    have h_1594 : m9 1 4 = c_1563 1 4 := wd_fv (z := 4) 4 rfl hW rfl rfl rfl rfl (by decide) rfl ⟨(Int.le_trans (by decide) h_1567.1), (Int.le_trans h_1567.2 (by decide))⟩ ⟨(Int.le_trans (by decide) h_1593.1), (Int.le_trans h_1593.2 (by decide))⟩
    have h_1595 := ir_1_2 hI_1564
    have h_1596 := ir_1_2 hJ9
    have h_1597 : m9 1 2 = c_1563 1 2 := wd_fv (z := 2) 2 rfl hW rfl rfl rfl rfl (by decide) rfl ⟨(Int.le_trans (by decide) h_1595.1), (Int.le_trans h_1595.2 (by decide))⟩ ⟨(Int.le_trans (by decide) h_1596.1), (Int.le_trans h_1596.2 (by decide))⟩
    have h_1598 := ir_1_5 hI_1564
    have h_1599 := ir_1_5 hJ9
    have h_1600 : m9 1 5 = c_1563 1 5 := wd_fv (z := 5) 5 rfl hW rfl rfl rfl rfl (by decide) rfl ⟨(Int.le_trans (by decide) h_1598.1), (Int.le_trans h_1598.2 (by decide))⟩ ⟨(Int.le_trans (by decide) h_1599.1), (Int.le_trans h_1599.2 (by decide))⟩
    have h_1601 := ir_p7_5 hI_1564 hA
    have h_1602 := ir_p7_5 hJ9 hA
    have h_1603 : m9 (A + 7) 5 = c_1563 (A + 7) 5 := wd_fv (z := 5) 5 rfl hW (ck_p7 hA) (ck_p7 hA) rfl rfl (by omega) rfl ⟨(Int.le_trans (by decide) h_1601.1), (Int.le_trans h_1601.2 (by decide))⟩ ⟨(Int.le_trans (by decide) h_1602.1), (Int.le_trans h_1602.2 (by decide))⟩
    refine q_aload_n rfl rfl ?_
    have h_1604 := ir_41_5 hI
    have h_1605 := ir_41_4 hI
    have h_1606 := ir_41_6 hI
    have h_1607 := rt_ok hRt (by omega)
    have hro_hRt := rt_ok hRt (by omega)
    refine v_cv rfl rfl rfl rfl (by decide) ⟨⟨rfl, rfl⟩, by decide, rfl⟩ (Nat.le_of_ble_eq_true rfl) (Nat.le_of_ble_eq_true rfl) (L_14 (m := m) (a2 := a2) (e1 := e1) (f0 := f0) (g0 := g0) (p0 := p0) (n0 := n0) (o0 := o0) (F := F) (H := H) hI hJ hI_1564 hA (show 0 ≤ a2 ∧ a2 ≤ 6 from ha2) (by first | (clear ha2 hq1 hq2 hq3 hq4 hq5 h_1555 h_1556 h_1557 h_1558 h_1559 h_1560 h_1561 h_1562 h_1567 h_1593 h_1594 h_1595 h_1596 h_1597 h_1598 h_1599 h_1600 h_1601 h_1602 h_1603 h_1604 h_1605 h_1606 h_1607; omega) | omega) (by first | (clear ha2 hq0 hq2 hq3 hq4 hq5 h_1555 h_1556 h_1557 h_1558 h_1559 h_1560 h_1561 h_1562 h_1567 h_1593 h_1594 h_1595 h_1596 h_1597 h_1598 h_1599 h_1600 h_1601 h_1602 h_1603 h_1604 h_1605 h_1606 h_1607; omega) | omega) (by first | (clear ha2 hq0 hq1 hq3 hq4 hq5 h_1555 h_1556 h_1557 h_1558 h_1559 h_1560 h_1561 h_1562 h_1567 h_1593 h_1594 h_1595 h_1596 h_1597 h_1598 h_1599 h_1600 h_1601 h_1602 h_1603 h_1604 h_1605 h_1606 h_1607; omega) | omega) (by first | (clear ha2 hq0 hq1 hq2 hq4 hq5 h_1555 h_1556 h_1557 h_1558 h_1559 h_1560 h_1561 h_1562 h_1567 h_1593 h_1594 h_1595 h_1596 h_1597 h_1598 h_1599 h_1600 h_1601 h_1602 h_1603 h_1604 h_1605 h_1606 h_1607; omega) | omega) (by first | (clear ha2 hq0 hq1 hq2 hq3 hq5 h_1555 h_1556 h_1557 h_1558 h_1559 h_1560 h_1561 h_1562 h_1567 h_1593 h_1594 h_1595 h_1596 h_1597 h_1598 h_1599 h_1600 h_1601 h_1602 h_1603 h_1604 h_1605 h_1606 h_1607; omega) | omega) (by first | (clear ha2 hq0 hq1 hq2 hq3 hq4 h_1555 h_1556 h_1557 h_1558 h_1559 h_1560 h_1561 h_1562 h_1567 h_1593 h_1594 h_1595 h_1596 h_1597 h_1598 h_1599 h_1600 h_1601 h_1602 h_1603 h_1604 h_1605 h_1606 h_1607; omega) | omega) ((hg_e1)) ((hr_e1)) ((hg_f0)) ((hg_g0)) ((hg_p0)) ((hg_n0)) ((hr_n0)) ((hr_o0)) (fun j => hF j) (fun j => hH j) hU hRt (ce_le hr0 (by omega)) H13 hG_1566 (fun c_1608 hI_1609 hF_1610 hR_1612 h_1613 h_1614 hA_1615 => ?_))
    refine bk_inl ?_
    have h_1616 := ir_41_29 hI_1609
    have h_1617 := ir_41_7 hI_1609
    refine q_aload_n rfl rfl ?_
    refine v_cv rfl rfl rfl rfl (by decide) ⟨⟨rfl, rfl⟩, by decide, rfl⟩ (Nat.le_of_ble_eq_true rfl) (Nat.le_of_ble_eq_true rfl) ?_
    refine q_aload_n rfl rfl ?_
    have h_1618 := ir_41_5 hI_1609
    have h_1619 := ir_41_4 hI_1609
    have h_1620 := ir_41_6 hI_1609
    have h_1621 := rt_bad hR_1612 (by omega)
    have hrb_hR_1612 := rt_bad hR_1612 (by omega)
    refine v_gi (z := 5) (v := c_1563 1 5) rfl rfl rfl (by decide) rfl rfl hrb_hR_1612.2.1 ?_
    refine q_iconst rfl ?_
    refine v_ic_ne_t (t := 12) rfl (by decide) ⟨by first | (clear ha2 hq0 hq1 hq2 hq3 hq4 hq5 h_1555 h_1556 h_1557 h_1558 h_1559 h_1560 h_1561 h_1562 h_1567 h_1593 h_1594 h_1595 h_1596 h_1597 h_1598 h_1599 h_1600 h_1601 h_1602 h_1603 h_1604 h_1605 h_1606 h_1607 h_1616 h_1617 h_1614 h_1618 h_1619 h_1620 h_1613; omega) | omega, ⟨(Int.le_trans (by decide) h_1598.1), (Int.le_trans h_1598.2 (by decide))⟩, by decide, by decide⟩ ?_
    refine q_iconst rfl ?_
    refine v_zret rfl rfl (by decide) ?_
    refine bk_inl ?_
    refine v_if_eq_t (t := 90) rfl (by decide) (by decide) ?_
    refine q_vret rfl rfl ?_
    have h_1622 : c_1608 41 5 = c_1563 1 5 := hrb_hR_1612.2.1
    have h_1623 : c_1608 41 6 = c_1563 1 4 := hrb_hR_1612.2.2.2
    exact K c_1608  hI_1609 (fun a j hm => hF_1610 a j (fun q => q.elim (fun h => hm (Or.inl h)) (fun q => q.elim (fun h => hm (Or.inr (Or.inl h))) (fun q => q.elim (fun h => hm (Or.inr (Or.inr (Or.inl h)))) (fun q => q.elim (fun h => hm (Or.inr (Or.inr (Or.inr (Or.inl h))))) (fun q => q.elim (fun h => hm (Or.inr (Or.inr (Or.inr (Or.inr (Or.inl h)))))) (fun q => q.elim (fun h => hm (Or.inr (Or.inr (Or.inr (Or.inr (Or.inr (Or.inl h))))))) (fun h => hm (Or.inr (Or.inr (Or.inr (Or.inr (Or.inr (Or.inr h)))))))))))))) (rt_i2 ⟨⟨by first | (clear ha2 hq0 hq1 hq2 hq3 hq4 hq5 h_1555 h_1556 h_1557 h_1558 h_1559 h_1560 h_1561 h_1562 h_1567 h_1593 h_1595 h_1596 h_1597 h_1598 h_1599 h_1600 h_1601 h_1602 h_1603 h_1604 h_1605 h_1606 h_1607 h_1616 h_1617 h_1614 h_1618 h_1619 h_1620 h_1613; omega) | omega, by first | (clear ha2 hq0 hq1 hq2 hq3 hq4 hq5 h_1555 h_1556 h_1557 h_1558 h_1559 h_1560 h_1561 h_1562 h_1567 h_1594 h_1595 h_1596 h_1597 h_1598 h_1599 h_1600 h_1601 h_1602 h_1603 h_1604 h_1605 h_1606 h_1607 h_1616 h_1617 h_1614 h_1618 h_1619 h_1620 h_1621 h_1613; omega) | omega⟩, by first | (clear ha2 hq0 hq1 hq2 hq3 hq4 hq5 h_1555 h_1556 h_1557 h_1558 h_1559 h_1560 h_1561 h_1562 h_1567 h_1593 h_1594 h_1595 h_1596 h_1597 h_1598 h_1599 h_1601 h_1602 h_1603 h_1604 h_1605 h_1606 h_1607 h_1616 h_1617 h_1614 h_1618 h_1619 h_1620 h_1621 h_1613; omega) | omega, by first | (clear ha2 hq0 hq1 hq2 hq3 hq4 hq5 h_1555 h_1556 h_1557 h_1558 h_1559 h_1560 h_1561 h_1562 h_1567 h_1593 h_1594 h_1595 h_1596 h_1597 h_1598 h_1599 h_1601 h_1602 h_1603 h_1604 h_1605 h_1606 h_1607 h_1616 h_1617 h_1614 h_1618 h_1619 h_1620 h_1613; omega) | omega, by first | (clear ha2 hq0 hq1 hq2 hq3 hq4 hq5 h_1555 h_1556 h_1557 h_1558 h_1559 h_1560 h_1561 h_1562 h_1567 h_1593 h_1595 h_1596 h_1597 h_1598 h_1599 h_1600 h_1601 h_1602 h_1603 h_1604 h_1605 h_1606 h_1607 h_1616 h_1617 h_1614 h_1618 h_1619 h_1620 h_1621 h_1613; omega) | omega⟩) (Or.inr (Or.inl (by first | (clear ha2 hq0 hq1 hq2 hq3 hq4 hq5 h_1555 h_1556 h_1557 h_1558 h_1559 h_1560 h_1561 h_1562 h_1567 h_1593 h_1595 h_1596 h_1597 h_1598 h_1599 h_1600 h_1601 h_1602 h_1603 h_1604 h_1605 h_1606 h_1607 h_1616 h_1617 h_1614 h_1618 h_1619 h_1620 h_1613; omega) | omega))) (by first | (clear ha2 hq0 hq1 hq2 hq3 hq4 hq5 h_1555 h_1556 h_1557 h_1558 h_1559 h_1560 h_1561 h_1562 h_1567 h_1593 h_1594 h_1595 h_1596 h_1597 h_1598 h_1599 h_1600 h_1601 h_1602 h_1603 h_1604 h_1605 h_1606 h_1607 h_1616 h_1617 h_1618 h_1619 h_1620 h_1621 h_1613; omega) | omega) (fun hz => absurd hz (by omega))

