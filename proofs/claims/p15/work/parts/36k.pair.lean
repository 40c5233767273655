/-! ===== class and reference side by side 12 ===== -/
set_option maxRecDepth 100000 in
set_option maxHeartbeats 4000000 in
theorem L_13_l {sc : List Int32} {e eg : Int} {d dh u ug P Q P2 Q2 A : Nat} {c m m9 : ME} {a2 e1 f0 g0 p0 n0 o0 : Int} {F H : Int → Int} {Z : AR → Prop} (hI : Iv u e P2 Q2 c) (hJ : Iv ug eg P Q m) (hJ9 : Iv ug eg P Q m9) (hA : A = 13 ∨ A = 25) (ha2 : 0 ≤ a2 ∧ a2 ≤ 6) (hq0 : (f0 = 0)) (hq1 : (g0 = (-1))) (hq2 : (o0 = a2)) (hq3 : (n0 ≤ p0)) (hq4 : (p0 ≤ e1)) (hq5 : (e1 ≤ 150)) (hg_e1 : m 1 1 = e1) (hr_e1 : c 41 3 = e1) (hg_f0 : m 1 4 = f0) (hg_g0 : m 1 5 = g0) (hg_p0 : m 1 2 = p0) (hg_n0 : m (A + 7) 5 = n0) (hr_n0 : c 41 29 = n0) (hr_o0 : c 41 7 = o0) (hF : ∀ j : Int, m 2 j = F j) (hH : ∀ j : Int, c 43 j = H j) (hU : Ub F H) (hRt : Rt m c) (hr0 : Ce n0 (m (A + 9)) (c 50) (c 51)) (H13 : ∀ {d9 : Nat} {c m m9 : ME} {e1 f0 g0 p0 n0 o0 : Int} {Z : AR → Prop}, d ≤ d9 → a2 + 1 ≤ 6 → (Iv u e P2 Q2 c) → (Iv ug eg P Q m) → (Iv ug eg P Q m9) → (0 ≤ (a2 + 1) ∧ (a2 + 1) ≤ 6) → ((f0 = 0)) → ((g0 = (-1))) → ((o0 = (a2 + 1))) → ((n0 ≤ p0)) → ((p0 ≤ e1)) → ((e1 ≤ 150)) → (m 1 1 = e1) → (c 41 3 = e1) → (m 1 4 = f0) → (m 1 5 = g0) → (m 1 2 = p0) → (m (A + 7) 5 = n0) → (c 41 29 = n0) → (c 41 7 = o0) → (∀ j : Int, m 2 j = F j) → (∀ j : Int, c 43 j = H j) → (Ub F H) → (Rt m c) → (Ce n0 (m (A + 9)) (c 50) (c 51)) → (Wp sc (dh + 33) 13 0 [(0, .ref (A + 7)), (1, .ref 1), (2, vi (a2 + 1))] [] (Wd P Q P P m) 0 0 (fun q => q = (.inl (none), Wd P Q P P m9, 0, 0))) → (∀ (c2 : ME), Iv u e P2 Q2 c2 → (∀ (a : Nat) (j : Int), ¬ ((a = 41 ∧ j = 4) ∨ (a = 41 ∧ j = 5) ∨ (a = 41 ∧ j = 6) ∨ (a = 41 ∧ j = 7) ∨ (a = 41 ∧ j = 29) ∨ a = 50 ∨ a = 51) → c2 a j = c a j) → (Rt m9 c2) → ((m9 1 4 < 0) ∨ (m9 1 4 > 0) ∨ (m9 (A + 7) 5 = c2 41 29 ∧ c2 41 29 + p0 ≤ m9 1 2 + n0 ∧ m9 1 2 ≤ e1 ∧ m9 1 2 ≥ p0)) → ((c2 41 7 = (a2 + 1))) → (m9 1 4 = 0 → Ce (c2 41 29) (m9 (A + 9)) (c2 50) (c2 51)) → Z (.inl (none), Wd P2 Q2 P2 P2 c2, 0, 0)) → Wp sc (d9 + 32) 174 0 [(0, .ref 41)] [] (Wd P2 Q2 P2 P2 c) 0 0 Z) (K : ∀ (c2 : ME), Iv u e P2 Q2 c2 → (∀ (a : Nat) (j : Int), ¬ ((a = 41 ∧ j = 4) ∨ (a = 41 ∧ j = 5) ∨ (a = 41 ∧ j = 6) ∨ (a = 41 ∧ j = 7) ∨ (a = 41 ∧ j = 29) ∨ a = 50 ∨ a = 51) → c2 a j = c a j) → (Rt m9 c2) → ((m9 1 4 < 0) ∨ (m9 1 4 > 0) ∨ (m9 (A + 7) 5 = c2 41 29 ∧ c2 41 29 + p0 ≤ m9 1 2 + n0 ∧ m9 1 2 ≤ e1 ∧ m9 1 2 ≥ p0)) → ((c2 41 7 = a2)) → (m9 1 4 = 0 → Ce (c2 41 29) (m9 (A + 9)) (c2 50) (c2 51)) → Z (.inl (none), Wd P2 Q2 P2 P2 c2, 0, 0)) : ∀ n : Nat, (∀ (c2 m2 : ME) (v : Int) (a : Int) (nw : Int), Iv u e P2 Q2 c2 → (∀ (a : Nat) (j : Int), ¬ ((a = 41 ∧ j = 4) ∨ (a = 41 ∧ j = 5) ∨ (a = 41 ∧ j = 6) ∨ (a = 41 ∧ j = 7) ∨ (a = 41 ∧ j = 29) ∨ a = 50 ∨ a = 51) → c2 a j = c a j) → Iv ug eg P Q m2 → (∀ (a : Nat) (j : Int), ¬ ((a = 1 ∧ j = 2) ∨ (a = 1 ∧ j = 4) ∨ (a = 1 ∧ j = 5) ∨ (a = (A + 7) ∧ j = 5) ∨ a = (A + 9)) → m2 a j = m a j) → 0 ≤ v ∧ v ≤ 150 → 0 ≤ a ∧ a ≤ 600 → 0 ≤ nw ∧ nw ≤ 150 → m2 1 2 = a → c2 41 4 = a → m2 (A + 7) 5 = nw → c2 41 29 = nw → m2 1 4 = 0 → c2 41 5 = (-1) → m2 1 5 = (-1) → c2 41 7 = a2 → ((nw + p0 ≤ a + n0)) → ((a ≥ p0)) → ((a ≤ e1)) → ((v ≤ a)) → (Ce nw (m2 (A + 9)) (c2 50) (c2 51)) → Wp sc (dh + 36) 13 8 [(0, .ref (A + 7)), (1, .ref 1), (2, vi a2), (3, vi v)] [] (Wd P Q P P m2) 0 0 (fun q => q = (.inl (none), Wd P Q P P m9, 0, 0)) → 601 - a < (n : Int) → Wp sc (d + 36) 174 4 [(0, .ref 41)] [] (Wd P2 Q2 P2 P2 c2) 0 0 Z)
  | 0 => by intro c2 m2 v a nw hI2 hFc hJ2 hFm hv ha hnw hg_a hr_a hg_nw hr_nw hc_0 hc_1 hc_2 hc_3 hx0 hx1 hx2 hx3 hrl0 hG2 hm9; exfalso; omega
  | n + 1 => by
    have hP := iv_P hJ
    have hQ := iv_Q hJ
    have ih := L_13_l (sc := sc) (d := d) (dh := dh) hI hJ hJ9 hA ha2 hq0 hq1 hq2 hq3 hq4 hq5 hg_e1 hr_e1 hg_f0 hg_g0 hg_p0 hg_n0 hr_n0 hr_o0 hF hH hU hRt hr0 H13 K n
    intro c2 m2 v a nw hI2 hFc hJ2 hFm hv ha hnw hg_a hr_a hg_nw hr_nw hc_0 hc_1 hc_2 hc_3 hx0 hx1 hx2 hx3 hrl0 hG2 hm9
    have h_1 := ir_1_1 hJ
    have h_2 := ir_41_3 hI
    have h_3 := ir_1_4 hJ
    have h_4 := ir_1_5 hJ
    have h_5 := ir_1_2 hJ
    have h_6 := ir_p7_5 hJ hA
    have h_7 := ir_41_29 hI
    have h_8 := ir_41_7 hI
    have h_9 := ir_1_2 hJ2
    have h_10 := ir_41_4 hI2
    have h_11 := ir_p7_5 hJ2 hA
    have h_12 := ir_41_29 hI2
    have h_13 := ir_1_4 hJ2
    have h_14 := ir_41_5 hI2
    have h_15 := ir_1_5 hJ2
    have h_16 := ir_41_7 hI2
    refine gh hG2 ?_
    refine q_iload_n rfl rfl ?_
    refine v_sip rfl (by decide) ?_
    by_cases h_17 : v ≥ 150
    · refine v_ic_ge_t (t := 59) rfl (by decide) ⟨by decide, h_17, (Int.le_trans hv.2 (by decide))⟩ ?_
      refine q_vret rfl rfl ?_
      intro hE_18
      have hW : Wd P Q P P m2 = Wd P Q P P m9 := (Prod.mk.inj (Prod.mk.inj hE_18).2).1
      have h_19 := ir_1_4 hJ9
      have h_20 : m9 1 4 = 0 := wd_fv (z := 4) 4 rfl hW rfl rfl rfl rfl (by decide) (hc_0) ⟨by decide, by decide⟩ ⟨(Int.le_trans (by decide) h_19.1), (Int.le_trans h_19.2 (by decide))⟩
      have h_21 := ir_1_2 hJ9
      have h_22 : m9 1 2 = a := wd_fv (z := 2) 2 rfl hW rfl rfl rfl rfl (by decide) (hg_a) ⟨(Int.le_trans (by decide) ha.1), (Int.le_trans ha.2 (by decide))⟩ ⟨(Int.le_trans (by decide) h_21.1), (Int.le_trans h_21.2 (by decide))⟩
      have h_23 := ir_1_5 hJ9
      have h_24 : m9 1 5 = (-1) := wd_fv (z := 5) 5 rfl hW rfl rfl rfl rfl (by decide) (hc_2) ⟨by decide, by decide⟩ ⟨(Int.le_trans (by decide) h_23.1), (Int.le_trans h_23.2 (by decide))⟩
      have h_25 := ir_p7_5 hJ9 hA
      have h_26 : m9 (A + 7) 5 = nw := wd_fv (z := 5) 5 rfl hW (ck_p7 hA) (ck_p7 hA) rfl rfl (by omega) (hg_nw) ⟨(Int.le_trans (by decide) hnw.1), (Int.le_trans hnw.2 (by decide))⟩ ⟨(Int.le_trans (by decide) h_25.1), (Int.le_trans h_25.2 (by decide))⟩
      refine q_aload_n rfl rfl ?_
      refine v_cv rfl rfl rfl rfl (by decide) ⟨⟨rfl, rfl⟩, by decide, rfl⟩ (Nat.le_of_ble_eq_true rfl) (Nat.le_of_ble_eq_true rfl) ?_
      refine q_aload_n rfl rfl ?_
      refine v_gi (z := 5) (v := (-1)) rfl rfl rfl (by decide) rfl rfl (hc_1) ?_
      refine q_iconst rfl ?_
      refine v_ic_ne_f (t := 12) rfl (by decide) (by decide) ?_
      refine q_iconst rfl ?_
      refine q_goto (t := 13) rfl (by decide) ?_
      refine v_zret rfl rfl (by decide) ?_
      refine bk_inl ?_
      refine v_if_eq_f (t := 67) rfl (by decide) (by decide) ?_
      refine q_aload_n rfl rfl ?_
      have kn_27 : Hid (c2 41 3 = e1) := (hFc 41 3 (fun q => q.elim (fun h => absurd h.2 (ni rfl)) (fun q => q.elim (fun h => absurd h.2 (ni rfl)) (fun q => q.elim (fun h => absurd h.2 (ni rfl)) (fun q => q.elim (fun h => absurd h.2 (ni rfl)) (fun q => q.elim (fun h => absurd h.2 (ni rfl)) (fun q => q.elim (fun h => absurd h (nn rfl)) (fun h => absurd h (nn rfl))))))))).trans (hr_e1)
      have h_28 : -2147483648 ≤ (F a) ∧ (F a) ≤ 2147483647 := by rw [← hF a]; exact ir_2 hJ a
      have h_29 : -2147483648 ≤ (H a) ∧ (H a) ≤ 2147483647 := by rw [← hH a]; exact ir_43 hI a
      have h_30 := hU a (by omega) (by omega)
      have h_31 := hb_or (b := H) (e := e1) (r := a)
      have h_32 := hb_bd (b := H) (e := e1) (r := a) (lo := -2147483648) (hi := 2147483647) h_29 (by decide)
      refine v_cv rfl rfl rfl rfl (by decide) ⟨⟨rfl, rfl⟩, by decide, rfl⟩ (Nat.le_of_ble_eq_true rfl) (Nat.le_of_ble_eq_true rfl) (f_154 (e1 := e1) (a9 := a) (B := H) (r8 := a) (r := (hb H e1 a)) hI2 ((hid kn_27)) ((hr_a)) (fun j => (hFc 43 j (fun q => q.elim (fun h => absurd h.1 (nn rfl)) (fun q => q.elim (fun h => absurd h.1 (nn rfl)) (fun q => q.elim (fun h => absurd h.1 (nn rfl)) (fun q => q.elim (fun h => absurd h.1 (nn rfl)) (fun q => q.elim (fun h => absurd h.1 (nn rfl)) (fun q => q.elim (fun h => absurd h (nn rfl)) (fun h => absurd h (nn rfl))))))))).trans (hH j)) ((nx_tr hU (by first | (clear ha2 hq0 hq1 hq2 hq3 hq4 hq5 h_1 h_2 h_3 h_4 h_5 h_6 h_7 h_8 h_9 h_10 h_11 h_12 h_13 h_14 h_15 h_19 h_20 h_21 h_22 h_23 h_24 h_25 h_26 h_28; omega) | omega) (by first | (clear ha2 hq0 hq1 hq2 hq3 hq4 h_1 h_2 h_3 h_4 h_5 h_6 h_7 h_8 h_9 h_10 h_11 h_12 h_13 h_14 h_15 h_16 h_17 h_19 h_20 h_21 h_22 h_23 h_24 h_25 h_26 h_28; omega) | omega)).trans ((nx_z (by omega)))) rfl (fun c_33 hI_34 hF_35 h_36 => ?_))
      refine bk_inl ?_
      refine v_bip rfl (by decide) ?_
      refine v_ic_eq_f (t := 29) rfl (by decide) ⟨by first | (clear hq0 hq1 h_3 h_4 h_8 h_13 h_14 h_15 h_19 h_20 h_23 h_24 h_25; omega) | omega, ⟨h_32.1, h_32.2⟩, by decide, by decide⟩ ?_
      refine q_aload_n rfl rfl ?_
      have kn_37 : Hid (c_33 41 3 = e1) := (hF_35 41 3 (fun h => absurd h.2 (ni rfl))).trans (hid kn_27)
      refine v_cv rfl rfl rfl rfl (by decide) ⟨⟨rfl, rfl⟩, by decide, rfl⟩ (Nat.le_of_ble_eq_true rfl) (Nat.le_of_ble_eq_true rfl) (f_154 (e1 := e1) (a9 := a) (B := H) (r8 := a) (r := (hb H e1 a)) hI_34 ((hid kn_37)) ((h_36)) (fun j => ((hF_35 43 j (fun h => absurd h.1 (nn rfl))).trans (hFc 43 j (fun q => q.elim (fun h => absurd h.1 (nn rfl)) (fun q => q.elim (fun h => absurd h.1 (nn rfl)) (fun q => q.elim (fun h => absurd h.1 (nn rfl)) (fun q => q.elim (fun h => absurd h.1 (nn rfl)) (fun q => q.elim (fun h => absurd h.1 (nn rfl)) (fun q => q.elim (fun h => absurd h (nn rfl)) (fun h => absurd h (nn rfl)))))))))).trans (hH j)) ((nx_tr hU (by first | (clear ha2 hq0 hq1 hq2 hq3 hq4 hq5 h_1 h_2 h_3 h_4 h_5 h_6 h_7 h_8 h_9 h_10 h_11 h_12 h_13 h_14 h_15 h_19 h_20 h_21 h_22 h_23 h_24 h_25 h_26 h_28 h_29 h_30 h_32 h_31; omega) | omega) (by first | (clear ha2 hq0 hq1 hq2 hq3 hq4 h_1 h_2 h_3 h_4 h_5 h_6 h_7 h_8 h_9 h_10 h_11 h_12 h_13 h_14 h_15 h_16 h_17 h_19 h_20 h_21 h_22 h_23 h_24 h_25 h_26 h_28 h_29 h_30 h_32 h_31; omega) | omega)).trans ((nx_z (by omega)))) rfl (fun c_38 hI_39 hF_40 h_41 => ?_))
      refine bk_inl ?_
      refine v_bip rfl (by decide) ?_
      refine v_ic_ne_t (t := 67) rfl (by decide) ⟨by first | (clear hq0 hq1 h_3 h_4 h_8 h_13 h_14 h_15 h_19 h_20 h_23 h_24 h_25; omega) | omega, ⟨h_32.1, h_32.2⟩, by decide, by decide⟩ ?_
      refine q_vret rfl rfl ?_
      have kn_42 : Hid (c_33 41 5 = (-1)) := (hF_35 41 5 (fun h => absurd h.2 (ni rfl))).trans (hc_1)
      have kn_43 : Hid (c_38 41 5 = (-1)) := (hF_40 41 5 (fun h => absurd h.2 (ni rfl))).trans (hid kn_42)
      have h_44 : c_38 41 5 = (-1) := (hid kn_43)
      have h_45 : c_38 41 4 = a := (h_41)
      have h_46 := ir_41_6 hI2
      have kn_47 : Hid (c_33 41 6 = c2 41 6) := hF_35 41 6 (fun h => absurd h.2 (ni rfl))
      have kn_48 : Hid (c_38 41 6 = c2 41 6) := (hF_40 41 6 (fun h => absurd h.2 (ni rfl))).trans (hid kn_47)
      have h_49 : c_38 41 6 = c2 41 6 := (hid kn_48)
      have kn_50 : Hid (c_33 41 29 = nw) := (hF_35 41 29 (fun h => absurd h.2 (ni rfl))).trans (hr_nw)
      have kn_51 : Hid (c_38 41 29 = nw) := (hF_40 41 29 (fun h => absurd h.2 (ni rfl))).trans (hid kn_50)
      have h_52 : c_38 41 29 = nw := (hid kn_51)
      have kn_53 : Hid (c_33 41 7 = a2) := (hF_35 41 7 (fun h => absurd h.2 (ni rfl))).trans (hc_3)
      have kn_54 : Hid (c_38 41 7 = a2) := (hF_40 41 7 (fun h => absurd h.2 (ni rfl))).trans (hid kn_53)
      have h_55 : c_38 41 7 = a2 := (hid kn_54)
      have h_56 : c_38 41 29 = nw := (hid kn_51)
      have hA_57 : Ce nw (m2 (A + 9)) (c_38 50) (c_38 51) := ce_fr hrl0 (fun j => rfl) (fun j => (hF_40 50 j (fun h => absurd h.1 (nn rfl))).trans (hF_35 50 j (fun h => absurd h.1 (nn rfl)))) (fun j => (hF_40 51 j (fun h => absurd h.1 (nn rfl))).trans (hF_35 51 j (fun h => absurd h.1 (nn rfl))))
      have hA_58 : Ce nw (m9 (A + 9)) (c_38 50) (c_38 51) := ce_l hA_57 (fun j h1 h2 => wd_av hW (ck_p9 hA) (ck_p9 hA) (by decide) (a68 hA rfl) ⟨h1, by omega⟩ rfl (ir_p9 hJ2 hA j) (ir_p9 hJ9 hA j))
      exact K c_38  hI_39 (fun a j hm => (hF_40 a j (fun h => hm (Or.inl h))).trans ((hF_35 a j (fun h => hm (Or.inl h))).trans (hFc a j (fun q => q.elim (fun h => hm (Or.inl h)) (fun q => q.elim (fun h => hm (Or.inr (Or.inl h))) (fun q => q.elim (fun h => hm (Or.inr (Or.inr (Or.inl h)))) (fun q => q.elim (fun h => hm (Or.inr (Or.inr (Or.inr (Or.inl h))))) (fun q => q.elim (fun h => hm (Or.inr (Or.inr (Or.inr (Or.inr (Or.inl h)))))) (fun q => q.elim (fun h => hm (Or.inr (Or.inr (Or.inr (Or.inr (Or.inr (Or.inl h))))))) (fun h => hm (Or.inr (Or.inr (Or.inr (Or.inr (Or.inr (Or.inr h)))))))))))))))) (rt_i1 ⟨by first | (clear ha2 hq0 hq1 hq2 hq3 hq4 hq5 h_1 h_2 h_3 h_4 h_5 h_6 h_7 h_8 h_9 h_10 h_11 h_12 h_13 h_14 h_15 h_16 h_17 h_21 h_22 h_23 h_24 h_25 h_26 h_28 h_29 h_30 h_32 h_46 h_31; omega) | omega, by first | (clear ha2 hq0 hq1 hq2 hq3 hq4 hq5 h_1 h_2 h_3 h_4 h_5 h_6 h_7 h_8 h_9 h_10 h_11 h_12 h_13 h_14 h_15 h_16 h_17 h_19 h_20 h_21 h_22 h_23 h_24 h_25 h_26 h_28 h_29 h_30 h_32 h_46 h_31; omega) | omega, by first | (clear ha2 hq0 hq1 hq2 hq3 hq4 hq5 h_1 h_2 h_3 h_4 h_5 h_6 h_7 h_8 h_9 h_10 h_11 h_12 h_13 h_14 h_15 h_16 h_17 h_19 h_20 h_21 h_23 h_24 h_25 h_26 h_28 h_29 h_30 h_32 h_46 h_31; omega) | omega, by first | (clear ha2 hq0 hq1 hq2 hq3 hq4 hq5 h_1 h_2 h_3 h_4 h_5 h_6 h_7 h_8 h_9 h_10 h_11 h_12 h_13 h_14 h_15 h_16 h_17 h_19 h_20 h_21 h_22 h_25 h_26 h_28 h_29 h_30 h_32 h_46 h_31; omega) | omega⟩) (Or.inr (Or.inr ⟨by first | (clear ha2 hq0 hq1 hq2 hq3 hq4 hq5 h_1 h_2 h_3 h_4 h_5 h_6 h_7 h_8 h_9 h_10 h_11 h_12 h_13 h_14 h_15 h_16 h_17 h_19 h_20 h_21 h_22 h_23 h_24 h_25 h_28 h_29 h_30 h_32 h_46 h_31; omega) | omega, by first | (clear ha2 hq0 hq1 hq2 hq3 hq4 hq5 h_1 h_2 h_3 h_4 h_5 h_6 h_7 h_8 h_9 h_10 h_11 h_12 h_13 h_14 h_15 h_17 h_19 h_20 h_21 h_23 h_24 h_25 h_26 h_28 h_29 h_30 h_32 h_46 h_31; omega) | omega, by first | (clear ha2 hq0 hq1 hq2 hq3 hq4 hq5 h_1 h_2 h_3 h_4 h_5 h_6 h_7 h_8 h_9 h_10 h_11 h_12 h_13 h_14 h_15 h_17 h_19 h_20 h_21 h_23 h_24 h_25 h_26 h_28 h_29 h_30 h_32 h_46 h_31; omega) | omega, by first | (clear ha2 hq0 hq1 hq2 hq3 hq4 hq5 h_1 h_2 h_3 h_4 h_5 h_6 h_7 h_8 h_9 h_10 h_11 h_12 h_13 h_14 h_15 h_17 h_19 h_20 h_21 h_23 h_24 h_25 h_26 h_28 h_29 h_30 h_32 h_46 h_31; omega) | omega⟩)) (by first | (clear ha2 hq0 hq1 hq2 hq3 hq4 hq5 h_1 h_2 h_3 h_4 h_5 h_6 h_7 h_8 h_9 h_10 h_11 h_12 h_13 h_14 h_15 h_16 h_17 h_19 h_20 h_21 h_22 h_23 h_24 h_25 h_26 h_28 h_29 h_30 h_32 h_46 h_31; omega) | omega) (fun _ => ce_le hA_58 (by omega))
    · refine v_ic_ge_f (t := 59) rfl (by decide) ⟨(Int.le_trans (by decide) hv.1), (Int.not_le.mp h_17), by decide⟩ ?_
      refine q_aload_n rfl rfl ?_
      refine v_cv rfl rfl rfl rfl (by decide) ⟨⟨rfl, rfl⟩, by decide, rfl⟩ (Nat.le_of_ble_eq_true rfl) (Nat.le_of_ble_eq_true rfl) ?_
      refine q_aload_n rfl rfl ?_
      refine v_gi (z := 4) (v := 0) rfl rfl rfl (by decide) rfl rfl (hc_0) ?_
      refine v_if_ne_f (t := 11) rfl (by decide) (by decide) ?_
      refine q_iconst rfl ?_
      refine q_goto (t := 12) rfl (by decide) ?_
      refine v_zret rfl rfl (by decide) ?_
      refine bk_inl ?_
      refine v_if_eq_f (t := 59) rfl (by decide) (by decide) ?_
      refine q_aload_n rfl rfl ?_
      refine q_ldc_s rfl rfl rfl (by decide) ?_
      have kn_59 : Hid (m2 1 1 = e1) := (hFm 1 1 (fun q => q.elim (fun h => absurd h.2 (ni rfl)) (fun q => q.elim (fun h => absurd h.2 (ni rfl)) (fun q => q.elim (fun h => absurd h.2 (ni rfl)) (fun q => q.elim (fun h => absurd h.1 (pn hA rfl rfl)) (fun h => absurd h (pn hA rfl rfl))))))).trans (hg_e1)
      have h_60 : -2147483648 ≤ (F a) ∧ (F a) ≤ 2147483647 := by rw [← hF a]; exact ir_2 hJ a
      have h_61 := nx_be (b := F) (e := e1) (a := a) (by first | (clear ha2 hq0 hq1 hq2 hq3 hq4 hq5 h_1 h_2 h_3 h_4 h_5 h_6 h_7 h_8 h_9 h_10 h_11 h_12 h_13 h_14 h_15 h_60; omega) | omega)
      have h_62 : -2147483648 ≤ (F (nx F e1 a)) ∧ (F (nx F e1 a)) ≤ 2147483647 := by rw [← hF (nx F e1 a)]; exact ir_2 hJ (nx F e1 a)
      have h_63 := nx_n (b := F) (e := e1) (a := a)
      refine v_cv rfl rfl rfl rfl (by decide) ⟨⟨rfl, rfl⟩, by decide, rfl⟩ (Nat.le_of_ble_eq_true rfl) (Nat.le_of_ble_eq_true rfl) (f_4_7 (e1 := e1) (a9 := a) (B := F) (r8 := (nx F e1 a)) hJ2 ((hid kn_59)) ((hg_a)) (fun j => (hFm 2 j (fun q => q.elim (fun h => absurd h.1 (nn rfl)) (fun q => q.elim (fun h => absurd h.1 (nn rfl)) (fun q => q.elim (fun h => absurd h.1 (nn rfl)) (fun q => q.elim (fun h => absurd h.1 (pn hA rfl rfl)) (fun h => absurd h (pn hA rfl rfl))))))).trans (hF j)) rfl (fun c_64 hI_65 hF_66 h_67 hz_68 => ?_) (fun c_69 hI_70 hF_71 h_72 hz_73 => ?_) (fun c_74 hI_75 hF_76 h_77 hz_78 => ?_))
      · as_aux_lemma =>
          skip
          refine bk_inl ?_
          refine q_istore rfl (by decide) ?_
          refine q_iload rfl rfl ?_
          refine q_iconst rfl ?_
          refine v_ic_ne_t (t := 37) rfl (by decide) (by decide) ?_
          refine q_aload_n rfl rfl ?_
          refine q_aload_n rfl rfl ?_
          refine q_iload_n rfl rfl ?_
          have kn_79 : Hid (c_64 1 4 = 0) := (hF_66 1 4 (fun h => absurd h.2 (ni rfl))).trans (hc_0)
          refine v_cv rfl rfl rfl (ck_p7 hA) (a68 hA rfl) ⟨⟨rfl, rfl⟩, by decide, rfl⟩ (Nat.le_of_ble_eq_true rfl) (Nat.le_of_ble_eq_true rfl) (fn_of (r_12 (a2 := a2) hI_65 hA (show 0 ≤ a2 ∧ a2 ≤ 6 from ha2) (fun c_80 hI_81 hF_82 => ?_)))
          intro hG_83
          refine bk_inl ?_
          refine q_aload_n rfl rfl ?_
          refine v_sip rfl (by decide) ?_
          refine q_iload rfl rfl ?_
          refine v_iadd (v := 2000) rfl (by decide) ?_
          refine v_cv rfl rfl rfl (ck_p7 hA) (a68 hA rfl) ⟨⟨rfl, rfl⟩, by decide, rfl⟩ (Nat.le_of_ble_eq_true rfl) (Nat.le_of_ble_eq_true rfl) ?_
          refine q_aload_n rfl rfl ?_
          have h_84 := ir_p7_5 hI_81 hA
          refine v_gi (z := 5) (v := c_80 (A + 7) 5) rfl rfl (ck_p7 hA) (a68 hA rfl) rfl rfl rfl ?_
          refine q_aload_n rfl rfl ?_
          refine v_gr (t := (A + 9)) rfl rfl (ck_p7 hA) (a68 hA rfl) rfl ?_
          refine v_al rfl (ck_p9 hA) (a68 hA rfl) (by decide) ?_
          by_cases h_85 : c_80 (A + 7) 5 ≥ 150
          · refine v_ic_ge_t (t := 32) rfl (by decide) ⟨by decide, h_85, (Int.le_trans h_84.2 (by decide))⟩ ?_
            refine q_vret rfl rfl ?_
            refine bk_inl ?_
            refine v_iinc (v := v + 1) rfl rfl (by decide) rfl ?_
            refine q_goto (t := 8) rfl (by decide) ?_
            have h_86 := ir_1_4 hI_81
            by_cases h_87 : c_80 1 4 = 0
            · skip
              refine Wp_ls [(0, .ref (A + 7)), (1, .ref 1), (2, vi a2), (3, vi (v + 1))] (lsub_cons rfl (lsub_cons rfl (lsub_cons rfl (lsub_cons rfl lsub_nil)))) ?_
              refine gh_stop ((s_13_l (sc := sc) (d := dh + 22) (c := c_80) (a2 := a2) (Z := fun _ => True) hI_81 hA ha2 (fun c9 Z9 h hI9 K9 => r_13 (d := dh + 1) hI9 hA ⟨by omega, h⟩ K9) (fun _ _ _ => trivial) 304) c_80 (v + 1) hI_81 (fun a j hm => rfl) ⟨by omega, by omega⟩ (by omega)) (fun hG_88 => ?_)
              refine q_aload_n rfl rfl ?_
              refine v_cv rfl rfl rfl rfl (by decide) ⟨⟨rfl, rfl⟩, by decide, rfl⟩ (Nat.le_of_ble_eq_true rfl) (Nat.le_of_ble_eq_true rfl) ?_
              refine q_aload_n rfl rfl ?_
              refine v_gi (z := 5) (v := (-1)) rfl rfl rfl (by decide) rfl rfl (hc_1) ?_
              refine q_iconst rfl ?_
              refine v_ic_ne_f (t := 12) rfl (by decide) (by decide) ?_
              refine q_iconst rfl ?_
              refine q_goto (t := 13) rfl (by decide) ?_
              refine v_zret rfl rfl (by decide) ?_
              refine bk_inl ?_
              refine v_if_eq_f (t := 67) rfl (by decide) (by decide) ?_
              refine q_aload_n rfl rfl ?_
              have kn_89 : Hid (c2 41 3 = e1) := (hFc 41 3 (fun q => q.elim (fun h => absurd h.2 (ni rfl)) (fun q => q.elim (fun h => absurd h.2 (ni rfl)) (fun q => q.elim (fun h => absurd h.2 (ni rfl)) (fun q => q.elim (fun h => absurd h.2 (ni rfl)) (fun q => q.elim (fun h => absurd h.2 (ni rfl)) (fun q => q.elim (fun h => absurd h (nn rfl)) (fun h => absurd h (nn rfl))))))))).trans (hr_e1)
              have h_90 : -2147483648 ≤ (H (nx F e1 a)) ∧ (H (nx F e1 a)) ≤ 2147483647 := by rw [← hH (nx F e1 a)]; exact ir_43 hI (nx F e1 a)
              have h_91 := hU (nx F e1 a) (by omega) (by omega)
              have h_92 := hb_or (b := H) (e := e1) (r := (nx F e1 a))
              have h_93 := hb_bd (b := H) (e := e1) (r := (nx F e1 a)) (lo := -2147483648) (hi := 2147483647) h_90 (by decide)
              refine v_cv rfl rfl rfl rfl (by decide) ⟨⟨rfl, rfl⟩, by decide, rfl⟩ (Nat.le_of_ble_eq_true rfl) (Nat.le_of_ble_eq_true rfl) (f_154 (e1 := e1) (a9 := a) (B := H) (r8 := (nx F e1 a)) (r := (hb H e1 (nx F e1 a))) hI2 ((hid kn_89)) ((hr_a)) (fun j => (hFc 43 j (fun q => q.elim (fun h => absurd h.1 (nn rfl)) (fun q => q.elim (fun h => absurd h.1 (nn rfl)) (fun q => q.elim (fun h => absurd h.1 (nn rfl)) (fun q => q.elim (fun h => absurd h.1 (nn rfl)) (fun q => q.elim (fun h => absurd h.1 (nn rfl)) (fun q => q.elim (fun h => absurd h (nn rfl)) (fun h => absurd h (nn rfl))))))))).trans (hH j)) ((nx_tr hU (by first | (clear ha2 hq0 hq1 hq2 hq3 hq4 hq5 h_1 h_2 h_3 h_4 h_5 h_6 h_7 h_8 h_9 h_10 h_11 h_12 h_13 h_14 h_15 h_16 h_60 h_61 h_62 h_67 h_84 h_85 h_86 h_87 h_63; omega) | omega) (by first | (clear ha2 hq0 hq1 hq2 hq3 hq4 h_1 h_2 h_3 h_4 h_5 h_6 h_7 h_8 h_9 h_10 h_11 h_12 h_13 h_14 h_15 h_16 h_60 h_61 h_62 h_67 h_84 h_85 h_86 h_87 h_63; omega) | omega)).trans (rfl)) rfl (fun c_94 hI_95 hF_96 h_97 => ?_))
              refine bk_inl ?_
              refine v_bip rfl (by decide) ?_
              refine v_ic_eq_t (t := 29) rfl (by decide) (by first | (clear ha2 hq0 hq1 hq2 hq3 h_3 h_4 h_5 h_6 h_7 h_8 h_9 h_10 h_11 h_12 h_13 h_14 h_15 h_60 h_62 h_84 h_85 h_86 h_87; omega) | omega) ?_
              refine q_aload_n rfl rfl ?_
              have kn_98 : Hid (c_94 41 3 = e1) := (hF_96 41 3 (fun h => absurd h.2 (ni rfl))).trans (hid kn_89)
              refine v_cv rfl rfl rfl rfl (by decide) ⟨⟨rfl, rfl⟩, by decide, rfl⟩ (Nat.le_of_ble_eq_true rfl) (Nat.le_of_ble_eq_true rfl) (f_154 (e1 := e1) (a9 := (nx F e1 a)) (B := H) (r8 := (nx F e1 a)) (r := (hb H e1 (nx F e1 a))) hI_95 ((hid kn_98)) ((h_97)) (fun j => ((hF_96 43 j (fun h => absurd h.1 (nn rfl))).trans (hFc 43 j (fun q => q.elim (fun h => absurd h.1 (nn rfl)) (fun q => q.elim (fun h => absurd h.1 (nn rfl)) (fun q => q.elim (fun h => absurd h.1 (nn rfl)) (fun q => q.elim (fun h => absurd h.1 (nn rfl)) (fun q => q.elim (fun h => absurd h.1 (nn rfl)) (fun q => q.elim (fun h => absurd h (nn rfl)) (fun h => absurd h (nn rfl)))))))))).trans (hH j)) ((nx_tr hU (by first | (clear ha2 hq0 hq1 hq2 hq3 hq4 hq5 h_1 h_2 h_3 h_4 h_5 h_6 h_7 h_8 h_9 h_10 h_11 h_12 h_13 h_14 h_15 h_16 h_60 h_62 h_67 h_84 h_85 h_86 h_87 h_90 h_91 h_93 h_63 h_92; omega) | omega) (by first | (clear ha2 hq0 hq1 hq2 hq3 hq4 h_1 h_2 h_3 h_4 h_5 h_6 h_7 h_8 h_9 h_10 h_11 h_12 h_13 h_14 h_15 h_16 h_60 h_61 h_62 h_67 h_84 h_85 h_86 h_87 h_90 h_91 h_93 h_63 h_92; omega) | omega)).trans ((nx_z (by omega)))) rfl (fun c_99 hI_100 hF_101 h_102 => ?_))
              refine bk_inl ?_
              refine v_bip rfl (by decide) ?_
              refine v_ic_ne_f (t := 42) rfl (by decide) (by first | (clear ha2 hq0 hq1 hq2 hq3 h_3 h_4 h_5 h_6 h_7 h_8 h_9 h_10 h_11 h_12 h_13 h_14 h_15 h_60 h_62 h_84 h_85 h_86 h_87; omega) | omega) ?_
              refine q_iconst rfl ?_
              refine q_goto (t := 43) rfl (by decide) ?_
              refine q_istore_n rfl (by decide) ?_
              refine q_aload_n rfl rfl ?_
              refine q_dup rfl rfl ?_
              refine v_gi (z := 4) (v := (nx F e1 a)) rfl rfl rfl (by decide) rfl rfl (h_102) ?_
              refine q_iconst rfl ?_
              refine v_iadd (v := (nx F e1 a) + 1) rfl rfl ?_
              refine v_pi (z := 4) rfl rfl rfl (by decide) rfl rfl rfl (by decide) ?_
              refine q_aload_n rfl rfl ?_
              have kn_103 : Hid (c_94 41 5 = (-1)) := (hF_96 41 5 (fun h => absurd h.2 (ni rfl))).trans (hc_1)
              have kn_104 : Hid (c_99 41 5 = (-1)) := (hF_101 41 5 (fun h => absurd h.2 (ni rfl))).trans (hid kn_103)
              have hI_105 := iw_41_4 (v := (nx F e1 a) + 1) hI_100 ⟨by first | exact rgp_l (rg_be h_61 (ha.1) ((rg_eq hg_e1 h_1).2)).1 (by decide) | omega, by first | exact rgp_h (rg_be h_61 (ha.1) ((rg_eq hg_e1 h_1).2)).2 (by decide) | omega⟩
              have kn_106 : Hid (c_64 1 1 = e1) := (hF_66 1 1 (fun h => absurd h.2 (ni rfl))).trans (hid kn_59)
              have kn_107 : Hid (c_99 41 3 = e1) := (hF_101 41 3 (fun h => absurd h.2 (ni rfl))).trans (hid kn_98)
              have kn_108 : Hid (c_64 1 5 = (-1)) := (hF_66 1 5 (fun h => absurd h.2 (ni rfl))).trans (hc_2)
              have kn_109 : Hid (c_64 (A + 7) 5 = nw) := (hF_66 (A + 7) 5 (fun h => absurd h.1 (np hA rfl rfl))).trans (hg_nw)
              have kn_110 : Hid (c_94 41 29 = nw) := (hF_96 41 29 (fun h => absurd h.2 (ni rfl))).trans (hr_nw)
              have kn_111 : Hid (c_99 41 29 = nw) := (hF_101 41 29 (fun h => absurd h.2 (ni rfl))).trans (hid kn_110)
              have kn_112 : Hid (c_94 41 7 = a2) := (hF_96 41 7 (fun h => absurd h.2 (ni rfl))).trans (hc_3)
              have kn_113 : Hid (c_99 41 7 = a2) := (hF_101 41 7 (fun h => absurd h.2 (ni rfl))).trans (hid kn_112)
              have h_114 : c_64 1 4 = 0 := (hid kn_79)
              have h_115 : c_64 1 2 = (nx F e1 a) + 1 := (hz_68)
              have h_116 : c_64 1 5 = (-1) := (hid kn_108)
              have h_117 : (up c_99 41 4 ((nx F e1 a) + 1)) 41 5 = (-1) := ((up_n (by decide)).trans (hid kn_104))
              have h_118 : (up c_99 41 4 ((nx F e1 a) + 1)) 41 4 = (nx F e1 a) + 1 := (up_e rfl)
              have h_119 := ir_41_6 hI2
              have kn_120 : Hid (c_94 41 6 = c2 41 6) := hF_96 41 6 (fun h => absurd h.2 (ni rfl))
              have kn_121 : Hid (c_99 41 6 = c2 41 6) := (hF_101 41 6 (fun h => absurd h.2 (ni rfl))).trans (hid kn_120)
              have h_122 : (up c_99 41 4 ((nx F e1 a) + 1)) 41 6 = c2 41 6 := ((up_n (by decide)).trans (hid kn_121))
              have hA_123 : Ce nw (c_64 (A + 9)) ((up c_99 41 4 ((nx F e1 a) + 1)) 50) ((up c_99 41 4 ((nx F e1 a) + 1)) 51) := ce_fr hrl0 (fun j => hF_66 (A + 9) j (fun h => absurd h.1 (np hA rfl rfl))) (fun j => (up_c (nn rfl)).trans ((hF_101 50 j (fun h => absurd h.1 (nn rfl))).trans (hF_96 50 j (fun h => absurd h.1 (nn rfl))))) (fun j => (up_c (nn rfl)).trans ((hF_101 51 j (fun h => absurd h.1 (nn rfl))).trans (hF_96 51 j (fun h => absurd h.1 (nn rfl)))))
              refine v_cv rfl rfl rfl rfl (by decide) ⟨⟨rfl, rfl⟩, by decide, rfl⟩ (Nat.le_of_ble_eq_true rfl) (Nat.le_of_ble_eq_true rfl) (L_12 (m := c_64) (a2 := a2) (e1 := e1) (f0 := 0) (g0 := (-1)) (p0 := (nx F e1 a) + 1) (n0 := nw) (o0 := a2) (F := F) (H := H) hI_105 hI_65 hI_81 hA (show 0 ≤ a2 ∧ a2 ≤ 6 from ha2) (by first | (clear ha2 hq0 hq1 hq2 hq3 hq4 hq5 h_1 h_2 h_3 h_4 h_5 h_6 h_7 h_8 h_9 h_10 h_11 h_12 h_13 h_14 h_15 h_16 h_60 h_61 h_62 h_67 h_84 h_85 h_86 h_87 h_90 h_91 h_93 h_63 h_92; omega) | omega) (by first | (clear ha2 hq0 hq1 hq2 hq3 hq4 hq5 h_1 h_2 h_3 h_4 h_5 h_6 h_7 h_8 h_9 h_10 h_11 h_12 h_13 h_14 h_15 h_16 h_60 h_61 h_62 h_67 h_84 h_85 h_86 h_87 h_90 h_91 h_93 h_63 h_92; omega) | omega) (by first | (clear ha2 hq0 hq1 hq2 hq3 hq4 hq5 h_1 h_2 h_3 h_4 h_5 h_6 h_7 h_8 h_9 h_10 h_11 h_12 h_13 h_14 h_15 h_16 h_60 h_61 h_62 h_67 h_84 h_85 h_86 h_87 h_90 h_91 h_93 h_63 h_92; omega) | omega) (by first | (clear ha2 hq0 hq1 hq2 hq4 hq5 h_1 h_2 h_3 h_4 h_5 h_6 h_7 h_8 h_9 h_10 h_11 h_12 h_13 h_14 h_15 h_60 h_62 h_67 h_84 h_85 h_86 h_87 h_90 h_91 h_93 h_63 h_92; omega) | omega) (by first | (clear ha2 hq0 hq1 hq2 hq3 hq4 hq5 h_1 h_2 h_3 h_4 h_5 h_6 h_7 h_8 h_9 h_10 h_11 h_12 h_13 h_14 h_15 h_16 h_60 h_61 h_62 h_84 h_85 h_86 h_87 h_90 h_91 h_93 h_63 h_92; omega) | omega) (by first | (clear ha2 hq0 hq1 hq2 hq3 hq4 h_1 h_2 h_3 h_4 h_5 h_6 h_7 h_8 h_9 h_10 h_11 h_12 h_13 h_14 h_15 h_16 h_60 h_61 h_62 h_67 h_84 h_85 h_86 h_87 h_90 h_91 h_93 h_63 h_92; omega) | omega) ((hid kn_106)) (((up_n (by decide)).trans (hid kn_107))) ((hid kn_79)) ((hid kn_108)) ((hz_68)) ((hid kn_109)) (((up_n (by decide)).trans (hid kn_111))) (((up_n (by decide)).trans (hid kn_113))) (fun j => ((hF_66 2 j (fun h => absurd h.1 (nn rfl))).trans (hFm 2 j (fun q => q.elim (fun h => absurd h.1 (nn rfl)) (fun q => q.elim (fun h => absurd h.1 (nn rfl)) (fun q => q.elim (fun h => absurd h.1 (nn rfl)) (fun q => q.elim (fun h => absurd h.1 (pn hA rfl rfl)) (fun h => absurd h (pn hA rfl rfl)))))))).trans (hF j)) (fun j => ((up_c (nn rfl)).trans ((hF_101 43 j (fun h => absurd h.1 (nn rfl))).trans ((hF_96 43 j (fun h => absurd h.1 (nn rfl))).trans (hFc 43 j (fun q => q.elim (fun h => absurd h.1 (nn rfl)) (fun q => q.elim (fun h => absurd h.1 (nn rfl)) (fun q => q.elim (fun h => absurd h.1 (nn rfl)) (fun q => q.elim (fun h => absurd h.1 (nn rfl)) (fun q => q.elim (fun h => absurd h.1 (nn rfl)) (fun q => q.elim (fun h => absurd h (nn rfl)) (fun h => absurd h (nn rfl)))))))))))).trans (hH j)) hU (rt_i1 ⟨by first | (clear ha2 hq0 hq1 hq2 hq3 hq4 hq5 h_1 h_2 h_3 h_4 h_5 h_6 h_7 h_8 h_9 h_10 h_11 h_12 h_13 h_14 h_15 h_16 h_60 h_61 h_62 h_67 h_84 h_85 h_86 h_87 h_90 h_91 h_93 h_119 h_63 h_92; omega) | omega, by first | (clear ha2 hq0 hq1 hq2 hq3 hq4 hq5 h_1 h_2 h_3 h_4 h_5 h_6 h_7 h_8 h_9 h_10 h_11 h_12 h_13 h_14 h_15 h_16 h_60 h_61 h_62 h_67 h_84 h_85 h_86 h_87 h_90 h_91 h_93 h_119 h_63 h_92; omega) | omega, by first | (clear ha2 hq0 hq1 hq2 hq3 hq4 hq5 h_1 h_2 h_3 h_4 h_5 h_6 h_7 h_8 h_9 h_10 h_11 h_12 h_13 h_14 h_15 h_16 h_60 h_61 h_62 h_67 h_84 h_85 h_86 h_87 h_90 h_91 h_93 h_119 h_63 h_92; omega) | omega, by first | (clear ha2 hq0 hq1 hq2 hq3 hq4 hq5 h_1 h_2 h_3 h_4 h_5 h_6 h_7 h_8 h_9 h_10 h_11 h_12 h_13 h_14 h_15 h_16 h_60 h_61 h_62 h_67 h_84 h_85 h_86 h_87 h_90 h_91 h_93 h_119 h_63 h_92; omega) | omega⟩) (ce_le hA_123 (by omega)) H13 hG_83 (fun c_124 hI_125 hF_126 hR_128 h_129 h_130 hA_131 => ?_))
              refine bk_inl ?_
              have h_132 := ir_41_29 hI_125
              have h_133 := ir_1_2 hI_81
              have h_134 := ir_41_7 hI_125
              refine q_aload_n rfl rfl ?_
              refine q_iload_n rfl rfl ?_
              refine q_iconst rfl ?_
              refine v_cv rfl rfl rfl rfl (by decide) ⟨⟨rfl, rfl⟩, by decide, rfl⟩ (Nat.le_of_ble_eq_true rfl) (Nat.le_of_ble_eq_true rfl) ?_
              refine q_aload_n rfl rfl ?_
              refine v_cv rfl rfl rfl rfl (by decide) ⟨⟨rfl, rfl⟩, by decide, rfl⟩ (Nat.le_of_ble_eq_true rfl) (Nat.le_of_ble_eq_true rfl) ?_
              refine q_aload_n rfl rfl ?_
              have h_135 := ir_41_5 hI_125
              have h_136 := ir_1_5 hI_81
              have h_137 := ir_41_4 hI_125
              have h_138 := ir_41_6 hI_125
              have h_139 := rt_ok hR_128 (by omega)
              have hro_hR_128 := rt_ok hR_128 (by omega)
              refine v_gi (z := 5) (v := (-1)) rfl rfl rfl (by decide) rfl rfl hro_hR_128.2.1 ?_
              refine q_iconst rfl ?_
              refine v_ic_ne_f (t := 12) rfl (by decide) (by decide) ?_
              refine q_iconst rfl ?_
              refine q_goto (t := 13) rfl (by decide) ?_
              refine v_zret rfl rfl (by decide) ?_
              refine bk_inl ?_
              refine v_if_ne_t (t := 8) rfl (by decide) (by decide) ?_
              refine q_aload_n rfl rfl ?_
              refine v_gr (t := 50) rfl rfl rfl (by decide) rfl ?_
              refine q_aload_n rfl rfl ?_
              refine v_gi (z := 29) (v := c_124 41 29) rfl rfl rfl (by decide) rfl rfl rfl ?_
              refine q_iload_n rfl rfl ?_
              refine v_is rfl rfl (by decide) (by decide) (by omega) ?_
              refine q_aload_n rfl rfl ?_
              refine v_gr (t := 51) rfl rfl rfl (by decide) rfl ?_
              refine q_aload_n rfl rfl ?_
              refine v_gi (z := 29) (v := c_124 41 29) rfl rfl rfl (by decide) rfl rfl (up_c (nn rfl)) ?_
              refine q_iload_n rfl rfl ?_
              refine v_is rfl rfl (by decide) (by decide) (by omega) ?_
              refine q_aload_n rfl rfl ?_
              refine q_dup rfl rfl ?_
              refine v_gi (z := 29) (v := c_124 41 29) rfl rfl rfl (by decide) rfl rfl ((up_c (nn rfl)).trans (up_c (nn rfl))) ?_
              refine q_iconst rfl ?_
              refine v_iadd (v := c_124 41 29 + 1) rfl rfl ?_
              refine v_pi (z := 29) rfl rfl rfl (by decide) rfl rfl rfl (by decide) ?_
              refine q_vret rfl rfl ?_
              refine bk_inl ?_
              refine q_goto (t := 4) rfl (by decide) ?_
              have hI_140 := iw_50 (j := c_124 41 29) (v := 2) hI_125 ⟨by decide, by decide⟩
              have hI_141 := iw_51 (j := c_124 41 29) (v := 0) hI_140 ⟨by decide, by decide⟩
              have hI_142 := iw_41_29 (v := c_124 41 29 + 1) hI_141 ⟨by first | exact rgp_l h_132.1 (by decide) | omega, by first | (clear hq0 hq1 h_3 h_4 h_8 h_13 h_14 h_15 h_60 h_119 h_134 h_138; omega) | omega⟩
              refine Wp_ls [(0, .ref 41)] (lsub_cons rfl lsub_nil) ?_
              have hA_143 : Ce (c_80 (A + 7) 5) (c_80 (A + 9)) ((up (up (up c_124 50 (c_124 41 29) 2) 51 (c_124 41 29) 0) 41 29 (c_124 41 29 + 1)) 50) ((up (up (up c_124 50 (c_124 41 29) 2) 51 (c_124 41 29) 0) 41 29 (c_124 41 29 + 1)) 51) := ce_z (by omega)
              exact ih (up (up (up c_124 50 (c_124 41 29) 2) 51 (c_124 41 29) 0) 41 29 (c_124 41 29 + 1)) c_80 (v + 1) (c_80 1 2) (c_80 (A + 7) 5) hI_142 (fun a j hm => (up_b (Decidable.or_iff_not_imp_left.mpr (fun h1 h2 => hm (Or.inr (Or.inr (Or.inr (Or.inr (Or.inl ⟨Decidable.not_not.mp h1, h2⟩)))))))).trans ((up_b (Decidable.or_iff_not_imp_left.mpr (fun h1 h2 => hm (Or.inr (Or.inr (Or.inr (Or.inr (Or.inr (Or.inr (Decidable.not_not.mp h1)))))))))).trans ((up_b (Decidable.or_iff_not_imp_left.mpr (fun h1 h2 => hm (Or.inr (Or.inr (Or.inr (Or.inr (Or.inr (Or.inl (Decidable.not_not.mp h1)))))))))).trans ((hF_126 a j (fun q => q.elim (fun h => hm (Or.inl h)) (fun q => q.elim (fun h => hm (Or.inr (Or.inl h))) (fun q => q.elim (fun h => hm (Or.inr (Or.inr (Or.inl h)))) (fun q => q.elim (fun h => hm (Or.inr (Or.inr (Or.inr (Or.inl h))))) (fun q => q.elim (fun h => hm (Or.inr (Or.inr (Or.inr (Or.inr (Or.inl h)))))) (fun q => q.elim (fun h => hm (Or.inr (Or.inr (Or.inr (Or.inr (Or.inr (Or.inl h))))))) (fun h => hm (Or.inr (Or.inr (Or.inr (Or.inr (Or.inr (Or.inr h)))))))))))))).trans ((up_b (Decidable.or_iff_not_imp_left.mpr (fun h1 h2 => hm (Or.inl ⟨Decidable.not_not.mp h1, h2⟩)))).trans ((hF_101 a j (fun h => hm (Or.inl h))).trans ((hF_96 a j (fun h => hm (Or.inl h))).trans (hFc a j (fun q => q.elim (fun h => hm (Or.inl h)) (fun q => q.elim (fun h => hm (Or.inr (Or.inl h))) (fun q => q.elim (fun h => hm (Or.inr (Or.inr (Or.inl h)))) (fun q => q.elim (fun h => hm (Or.inr (Or.inr (Or.inr (Or.inl h))))) (fun q => q.elim (fun h => hm (Or.inr (Or.inr (Or.inr (Or.inr (Or.inl h)))))) (fun q => q.elim (fun h => hm (Or.inr (Or.inr (Or.inr (Or.inr (Or.inr (Or.inl h))))))) (fun h => hm (Or.inr (Or.inr (Or.inr (Or.inr (Or.inr (Or.inr h))))))))))))))))))))) hI_81 (fun a j hm => (hF_82 a j (fun q => q.elim (fun h => hm (Or.inl h)) (fun q => q.elim (fun h => hm (Or.inr (Or.inl h))) (fun q => q.elim (fun h => hm (Or.inr (Or.inr (Or.inl h)))) (fun q => q.elim (fun h => hm (Or.inr (Or.inr (Or.inr (Or.inl h))))) (fun h => hm (Or.inr (Or.inr (Or.inr (Or.inr h)))))))))).trans ((hF_66 a j (fun h => hm (Or.inl h))).trans (hFm a j (fun q => q.elim (fun h => hm (Or.inl h)) (fun q => q.elim (fun h => hm (Or.inr (Or.inl h))) (fun q => q.elim (fun h => hm (Or.inr (Or.inr (Or.inl h)))) (fun q => q.elim (fun h => hm (Or.inr (Or.inr (Or.inr (Or.inl h))))) (fun h => hm (Or.inr (Or.inr (Or.inr (Or.inr h)))))))))))) ⟨by omega, by omega⟩ ⟨by omega, by omega⟩ ⟨by omega, by omega⟩ (rfl) (((((up_n (by decide)).trans ((up_c (nn rfl)).trans (up_c (nn rfl))))).trans (hro_hR_128.2.2.1))) (rfl) ((show _ = c_124 41 29 + 1 from (up_e rfl)).trans (by omega)) ((show _ = c_80 1 4 from rfl).trans (by omega)) (((((up_n (by decide)).trans ((up_c (nn rfl)).trans (up_c (nn rfl))))).trans (hro_hR_128.2.1))) ((show _ = c_80 1 5 from rfl).trans (by omega)) ((show _ = c_124 41 7 from ((up_n (by decide)).trans ((up_c (nn rfl)).trans (up_c (nn rfl))))).trans (by omega)) (by first | (clear hq0 hq1 h_3 h_4 h_8 h_13 h_14 h_15 h_60 h_62 h_90 h_91 h_93 h_119 h_134 h_138; omega) | omega) (by first | (clear hq0 hq1 h_3 h_4 h_8 h_13 h_14 h_15 h_60 h_62 h_90 h_91 h_93 h_119 h_134 h_138; omega) | omega) (by first | (clear ha2 hq0 hq1 hq2 hq3 h_3 h_4 h_5 h_6 h_7 h_8 h_9 h_10 h_11 h_12 h_13 h_14 h_15 h_60 h_62 h_84 h_85 h_86 h_87 h_90 h_91 h_93 h_119 h_132 h_134 h_130 h_135 h_136 h_137 h_138; omega) | omega) (by first | (clear hq0 hq1 h_3 h_4 h_8 h_13 h_14 h_15 h_60 h_62 h_90 h_91 h_93 h_119 h_134 h_138; omega) | omega) (ce_le hA_143 (by omega)) hG_88 (by omega)
            · skip
              refine q_iload_n rfl rfl ?_
              refine v_sip rfl (by decide) ?_
              by_cases h_144 : v + 1 ≥ 150
              · refine v_ic_ge_t (t := 59) rfl (by decide) ⟨by decide, h_144, by first | exact rgp_h hv.2 (by decide) | omega⟩ ?_
                refine q_vret rfl rfl ?_
                intro hE_145
                have hW : Wd P Q P P c_80 = Wd P Q P P m9 := (Prod.mk.inj (Prod.mk.inj hE_145).2).1
                have h_146 := ir_1_4 hJ9
                have h_147 : m9 1 4 = c_80 1 4 := wd_fv (z := 4) 4 rfl hW rfl rfl rfl rfl (by decide) rfl ⟨(Int.le_trans (by decide) h_86.1), (Int.le_trans h_86.2 (by decide))⟩ ⟨(Int.le_trans (by decide) h_146.1), (Int.le_trans h_146.2 (by decide))⟩
                have h_148 := ir_1_2 hI_81
                have h_149 := ir_1_2 hJ9
                have h_150 : m9 1 2 = c_80 1 2 := wd_fv (z := 2) 2 rfl hW rfl rfl rfl rfl (by decide) rfl ⟨(Int.le_trans (by decide) h_148.1), (Int.le_trans h_148.2 (by decide))⟩ ⟨(Int.le_trans (by decide) h_149.1), (Int.le_trans h_149.2 (by decide))⟩
                have h_151 := ir_1_5 hI_81
                have h_152 := ir_1_5 hJ9
                have h_153 : m9 1 5 = c_80 1 5 := wd_fv (z := 5) 5 rfl hW rfl rfl rfl rfl (by decide) rfl ⟨(Int.le_trans (by decide) h_151.1), (Int.le_trans h_151.2 (by decide))⟩ ⟨(Int.le_trans (by decide) h_152.1), (Int.le_trans h_152.2 (by decide))⟩
                have h_154 := ir_p7_5 hJ9 hA
                have h_155 : m9 (A + 7) 5 = c_80 (A + 7) 5 := wd_fv (z := 5) 5 rfl hW (ck_p7 hA) (ck_p7 hA) rfl rfl (by omega) rfl ⟨(Int.le_trans (by decide) h_84.1), (Int.le_trans h_84.2 (by decide))⟩ ⟨(Int.le_trans (by decide) h_154.1), (Int.le_trans h_154.2 (by decide))⟩
                refine q_aload_n rfl rfl ?_
                refine v_cv rfl rfl rfl rfl (by decide) ⟨⟨rfl, rfl⟩, by decide, rfl⟩ (Nat.le_of_ble_eq_true rfl) (Nat.le_of_ble_eq_true rfl) ?_
                refine q_aload_n rfl rfl ?_
                refine v_gi (z := 5) (v := (-1)) rfl rfl rfl (by decide) rfl rfl (hc_1) ?_
                refine q_iconst rfl ?_
                refine v_ic_ne_f (t := 12) rfl (by decide) (by decide) ?_
                refine q_iconst rfl ?_
                refine q_goto (t := 13) rfl (by decide) ?_
                refine v_zret rfl rfl (by decide) ?_
                refine bk_inl ?_
                refine v_if_eq_f (t := 67) rfl (by decide) (by decide) ?_
                refine q_aload_n rfl rfl ?_
                have kn_156 : Hid (c2 41 3 = e1) := (hFc 41 3 (fun q => q.elim (fun h => absurd h.2 (ni rfl)) (fun q => q.elim (fun h => absurd h.2 (ni rfl)) (fun q => q.elim (fun h => absurd h.2 (ni rfl)) (fun q => q.elim (fun h => absurd h.2 (ni rfl)) (fun q => q.elim (fun h => absurd h.2 (ni rfl)) (fun q => q.elim (fun h => absurd h (nn rfl)) (fun h => absurd h (nn rfl))))))))).trans (hr_e1)
                have h_157 : -2147483648 ≤ (H (nx F e1 a)) ∧ (H (nx F e1 a)) ≤ 2147483647 := by rw [← hH (nx F e1 a)]; exact ir_43 hI (nx F e1 a)
                have h_158 := hU (nx F e1 a) (by omega) (by omega)
                have h_159 := hb_or (b := H) (e := e1) (r := (nx F e1 a))
                have h_160 := hb_bd (b := H) (e := e1) (r := (nx F e1 a)) (lo := -2147483648) (hi := 2147483647) h_157 (by decide)
                refine v_cv rfl rfl rfl rfl (by decide) ⟨⟨rfl, rfl⟩, by decide, rfl⟩ (Nat.le_of_ble_eq_true rfl) (Nat.le_of_ble_eq_true rfl) (f_154 (e1 := e1) (a9 := a) (B := H) (r8 := (nx F e1 a)) (r := (hb H e1 (nx F e1 a))) hI2 ((hid kn_156)) ((hr_a)) (fun j => (hFc 43 j (fun q => q.elim (fun h => absurd h.1 (nn rfl)) (fun q => q.elim (fun h => absurd h.1 (nn rfl)) (fun q => q.elim (fun h => absurd h.1 (nn rfl)) (fun q => q.elim (fun h => absurd h.1 (nn rfl)) (fun q => q.elim (fun h => absurd h.1 (nn rfl)) (fun q => q.elim (fun h => absurd h (nn rfl)) (fun h => absurd h (nn rfl))))))))).trans (hH j)) ((nx_tr hU (by first | (clear ha2 hq0 hq1 hq2 hq3 hq4 hq5 h_1 h_2 h_3 h_4 h_5 h_6 h_7 h_8 h_9 h_10 h_11 h_12 h_13 h_14 h_15 h_60 h_61 h_62 h_67 h_84 h_85 h_86 h_146 h_147 h_148 h_149 h_150 h_151 h_152 h_153 h_154 h_155 h_63; omega) | omega) (by first | (clear ha2 hq0 hq1 hq2 hq3 hq4 h_1 h_2 h_3 h_4 h_5 h_6 h_7 h_8 h_9 h_10 h_11 h_12 h_13 h_14 h_15 h_16 h_60 h_61 h_62 h_67 h_84 h_85 h_86 h_144 h_146 h_147 h_148 h_149 h_150 h_151 h_152 h_153 h_154 h_155 h_63; omega) | omega)).trans (rfl)) rfl (fun c_161 hI_162 hF_163 h_164 => ?_))
                refine bk_inl ?_
                refine v_bip rfl (by decide) ?_
                refine v_ic_eq_t (t := 29) rfl (by decide) (by first | (clear ha2 hq0 hq1 hq2 hq3 h_3 h_4 h_5 h_6 h_7 h_8 h_9 h_10 h_11 h_12 h_13 h_14 h_15 h_60 h_62 h_84 h_85 h_86 h_144 h_146 h_147 h_148 h_149 h_150 h_151 h_152 h_153 h_154 h_155; omega) | omega) ?_
                refine q_aload_n rfl rfl ?_
                have kn_165 : Hid (c_161 41 3 = e1) := (hF_163 41 3 (fun h => absurd h.2 (ni rfl))).trans (hid kn_156)
                refine v_cv rfl rfl rfl rfl (by decide) ⟨⟨rfl, rfl⟩, by decide, rfl⟩ (Nat.le_of_ble_eq_true rfl) (Nat.le_of_ble_eq_true rfl) (f_154 (e1 := e1) (a9 := (nx F e1 a)) (B := H) (r8 := (nx F e1 a)) (r := (hb H e1 (nx F e1 a))) hI_162 ((hid kn_165)) ((h_164)) (fun j => ((hF_163 43 j (fun h => absurd h.1 (nn rfl))).trans (hFc 43 j (fun q => q.elim (fun h => absurd h.1 (nn rfl)) (fun q => q.elim (fun h => absurd h.1 (nn rfl)) (fun q => q.elim (fun h => absurd h.1 (nn rfl)) (fun q => q.elim (fun h => absurd h.1 (nn rfl)) (fun q => q.elim (fun h => absurd h.1 (nn rfl)) (fun q => q.elim (fun h => absurd h (nn rfl)) (fun h => absurd h (nn rfl)))))))))).trans (hH j)) ((nx_tr hU (by first | (clear ha2 hq0 hq1 hq2 hq3 hq4 hq5 h_1 h_2 h_3 h_4 h_5 h_6 h_7 h_8 h_9 h_10 h_11 h_12 h_13 h_14 h_15 h_60 h_62 h_67 h_84 h_85 h_86 h_146 h_147 h_148 h_149 h_150 h_151 h_152 h_153 h_154 h_155 h_157 h_158 h_160 h_63 h_159; omega) | omega) (by first | (clear ha2 hq0 hq1 hq2 hq3 hq4 h_1 h_2 h_3 h_4 h_5 h_6 h_7 h_8 h_9 h_10 h_11 h_12 h_13 h_14 h_15 h_16 h_60 h_61 h_62 h_67 h_84 h_85 h_86 h_144 h_146 h_147 h_148 h_149 h_150 h_151 h_152 h_153 h_154 h_155 h_157 h_158 h_160 h_63 h_159; omega) | omega)).trans ((nx_z (by omega)))) rfl (fun c_166 hI_167 hF_168 h_169 => ?_))
                refine bk_inl ?_
                refine v_bip rfl (by decide) ?_
                refine v_ic_ne_f (t := 42) rfl (by decide) (by first | (clear ha2 hq0 hq1 hq2 hq3 h_3 h_4 h_5 h_6 h_7 h_8 h_9 h_10 h_11 h_12 h_13 h_14 h_15 h_60 h_62 h_84 h_85 h_86 h_144 h_146 h_147 h_148 h_149 h_150 h_151 h_152 h_153 h_154 h_155; omega) | omega) ?_
                refine q_iconst rfl ?_
                refine q_goto (t := 43) rfl (by decide) ?_
                refine q_istore_n rfl (by decide) ?_
                refine q_aload_n rfl rfl ?_
                refine q_dup rfl rfl ?_
                refine v_gi (z := 4) (v := (nx F e1 a)) rfl rfl rfl (by decide) rfl rfl (h_169) ?_
                refine q_iconst rfl ?_
                refine v_iadd (v := (nx F e1 a) + 1) rfl rfl ?_
                refine v_pi (z := 4) rfl rfl rfl (by decide) rfl rfl rfl (by decide) ?_
                refine q_aload_n rfl rfl ?_
                have kn_170 : Hid (c_161 41 5 = (-1)) := (hF_163 41 5 (fun h => absurd h.2 (ni rfl))).trans (hc_1)
                have kn_171 : Hid (c_166 41 5 = (-1)) := (hF_168 41 5 (fun h => absurd h.2 (ni rfl))).trans (hid kn_170)
                have hI_172 := iw_41_4 (v := (nx F e1 a) + 1) hI_167 ⟨by first | exact rgp_l (rg_be h_61 (ha.1) ((rg_eq hg_e1 h_1).2)).1 (by decide) | omega, by first | exact rgp_h (rg_be h_61 (ha.1) ((rg_eq hg_e1 h_1).2)).2 (by decide) | omega⟩
                have kn_173 : Hid (c_64 1 1 = e1) := (hF_66 1 1 (fun h => absurd h.2 (ni rfl))).trans (hid kn_59)
                have kn_174 : Hid (c_166 41 3 = e1) := (hF_168 41 3 (fun h => absurd h.2 (ni rfl))).trans (hid kn_165)
                have kn_175 : Hid (c_64 1 5 = (-1)) := (hF_66 1 5 (fun h => absurd h.2 (ni rfl))).trans (hc_2)
                have kn_176 : Hid (c_64 (A + 7) 5 = nw) := (hF_66 (A + 7) 5 (fun h => absurd h.1 (np hA rfl rfl))).trans (hg_nw)
                have kn_177 : Hid (c_161 41 29 = nw) := (hF_163 41 29 (fun h => absurd h.2 (ni rfl))).trans (hr_nw)
                have kn_178 : Hid (c_166 41 29 = nw) := (hF_168 41 29 (fun h => absurd h.2 (ni rfl))).trans (hid kn_177)
                have kn_179 : Hid (c_161 41 7 = a2) := (hF_163 41 7 (fun h => absurd h.2 (ni rfl))).trans (hc_3)
                have kn_180 : Hid (c_166 41 7 = a2) := (hF_168 41 7 (fun h => absurd h.2 (ni rfl))).trans (hid kn_179)
                have h_181 : c_64 1 4 = 0 := (hid kn_79)
                have h_182 : c_64 1 2 = (nx F e1 a) + 1 := (hz_68)
                have h_183 : c_64 1 5 = (-1) := (hid kn_175)
                have h_184 : (up c_166 41 4 ((nx F e1 a) + 1)) 41 5 = (-1) := ((up_n (by decide)).trans (hid kn_171))
                have h_185 : (up c_166 41 4 ((nx F e1 a) + 1)) 41 4 = (nx F e1 a) + 1 := (up_e rfl)
                have h_186 := ir_41_6 hI2
                have kn_187 : Hid (c_161 41 6 = c2 41 6) := hF_163 41 6 (fun h => absurd h.2 (ni rfl))
                have kn_188 : Hid (c_166 41 6 = c2 41 6) := (hF_168 41 6 (fun h => absurd h.2 (ni rfl))).trans (hid kn_187)
                have h_189 : (up c_166 41 4 ((nx F e1 a) + 1)) 41 6 = c2 41 6 := ((up_n (by decide)).trans (hid kn_188))
                have hA_190 : Ce nw (c_64 (A + 9)) ((up c_166 41 4 ((nx F e1 a) + 1)) 50) ((up c_166 41 4 ((nx F e1 a) + 1)) 51) := ce_fr hrl0 (fun j => hF_66 (A + 9) j (fun h => absurd h.1 (np hA rfl rfl))) (fun j => (up_c (nn rfl)).trans ((hF_168 50 j (fun h => absurd h.1 (nn rfl))).trans (hF_163 50 j (fun h => absurd h.1 (nn rfl))))) (fun j => (up_c (nn rfl)).trans ((hF_168 51 j (fun h => absurd h.1 (nn rfl))).trans (hF_163 51 j (fun h => absurd h.1 (nn rfl)))))
                refine v_cv rfl rfl rfl rfl (by decide) ⟨⟨rfl, rfl⟩, by decide, rfl⟩ (Nat.le_of_ble_eq_true rfl) (Nat.le_of_ble_eq_true rfl) (L_12 (m := c_64) (a2 := a2) (e1 := e1) (f0 := 0) (g0 := (-1)) (p0 := (nx F e1 a) + 1) (n0 := nw) (o0 := a2) (F := F) (H := H) hI_172 hI_65 hI_81 hA (show 0 ≤ a2 ∧ a2 ≤ 6 from ha2) (by first | (clear ha2 hq0 hq1 hq2 hq3 hq4 hq5 h_1 h_2 h_3 h_4 h_5 h_6 h_7 h_8 h_9 h_10 h_11 h_12 h_13 h_14 h_15 h_16 h_60 h_61 h_62 h_67 h_84 h_85 h_86 h_144 h_146 h_147 h_148 h_149 h_150 h_151 h_152 h_153 h_154 h_155 h_157 h_158 h_160 h_63 h_159; omega) | omega) (by first | (clear ha2 hq0 hq1 hq2 hq3 hq4 hq5 h_1 h_2 h_3 h_4 h_5 h_6 h_7 h_8 h_9 h_10 h_11 h_12 h_13 h_14 h_15 h_16 h_60 h_61 h_62 h_67 h_84 h_85 h_86 h_144 h_146 h_147 h_148 h_149 h_150 h_151 h_152 h_153 h_154 h_155 h_157 h_158 h_160 h_63 h_159; omega) | omega) (by first | (clear ha2 hq0 hq1 hq2 hq3 hq4 hq5 h_1 h_2 h_3 h_4 h_5 h_6 h_7 h_8 h_9 h_10 h_11 h_12 h_13 h_14 h_15 h_16 h_60 h_61 h_62 h_67 h_84 h_85 h_86 h_144 h_146 h_147 h_148 h_149 h_150 h_151 h_152 h_153 h_154 h_155 h_157 h_158 h_160 h_63 h_159; omega) | omega) (by first | (clear ha2 hq0 hq1 hq2 hq4 hq5 h_1 h_2 h_3 h_4 h_5 h_6 h_7 h_8 h_9 h_10 h_11 h_12 h_13 h_14 h_15 h_60 h_62 h_67 h_84 h_85 h_86 h_144 h_146 h_147 h_148 h_149 h_150 h_151 h_152 h_153 h_154 h_155 h_157 h_158 h_160 h_63 h_159; omega) | omega) (by first | (clear ha2 hq0 hq1 hq2 hq3 hq4 hq5 h_1 h_2 h_3 h_4 h_5 h_6 h_7 h_8 h_9 h_10 h_11 h_12 h_13 h_14 h_15 h_16 h_60 h_61 h_62 h_84 h_85 h_86 h_144 h_146 h_147 h_148 h_149 h_150 h_151 h_152 h_153 h_154 h_155 h_157 h_158 h_160 h_63 h_159; omega) | omega) (by first | (clear ha2 hq0 hq1 hq2 hq3 hq4 h_1 h_2 h_3 h_4 h_5 h_6 h_7 h_8 h_9 h_10 h_11 h_12 h_13 h_14 h_15 h_16 h_60 h_61 h_62 h_67 h_84 h_85 h_86 h_144 h_146 h_147 h_148 h_149 h_150 h_151 h_152 h_153 h_154 h_155 h_157 h_158 h_160 h_63 h_159; omega) | omega) ((hid kn_173)) (((up_n (by decide)).trans (hid kn_174))) ((hid kn_79)) ((hid kn_175)) ((hz_68)) ((hid kn_176)) (((up_n (by decide)).trans (hid kn_178))) (((up_n (by decide)).trans (hid kn_180))) (fun j => ((hF_66 2 j (fun h => absurd h.1 (nn rfl))).trans (hFm 2 j (fun q => q.elim (fun h => absurd h.1 (nn rfl)) (fun q => q.elim (fun h => absurd h.1 (nn rfl)) (fun q => q.elim (fun h => absurd h.1 (nn rfl)) (fun q => q.elim (fun h => absurd h.1 (pn hA rfl rfl)) (fun h => absurd h (pn hA rfl rfl)))))))).trans (hF j)) (fun j => ((up_c (nn rfl)).trans ((hF_168 43 j (fun h => absurd h.1 (nn rfl))).trans ((hF_163 43 j (fun h => absurd h.1 (nn rfl))).trans (hFc 43 j (fun q => q.elim (fun h => absurd h.1 (nn rfl)) (fun q => q.elim (fun h => absurd h.1 (nn rfl)) (fun q => q.elim (fun h => absurd h.1 (nn rfl)) (fun q => q.elim (fun h => absurd h.1 (nn rfl)) (fun q => q.elim (fun h => absurd h.1 (nn rfl)) (fun q => q.elim (fun h => absurd h (nn rfl)) (fun h => absurd h (nn rfl)))))))))))).trans (hH j)) hU (rt_i1 ⟨by first | (clear ha2 hq0 hq1 hq2 hq3 hq4 hq5 h_1 h_2 h_3 h_4 h_5 h_6 h_7 h_8 h_9 h_10 h_11 h_12 h_13 h_14 h_15 h_16 h_60 h_61 h_62 h_67 h_84 h_85 h_86 h_144 h_146 h_147 h_148 h_149 h_150 h_151 h_152 h_153 h_154 h_155 h_157 h_158 h_160 h_186 h_63 h_159; omega) | omega, by first | (clear ha2 hq0 hq1 hq2 hq3 hq4 hq5 h_1 h_2 h_3 h_4 h_5 h_6 h_7 h_8 h_9 h_10 h_11 h_12 h_13 h_14 h_15 h_16 h_60 h_61 h_62 h_67 h_84 h_85 h_86 h_144 h_146 h_147 h_148 h_149 h_150 h_151 h_152 h_153 h_154 h_155 h_157 h_158 h_160 h_186 h_63 h_159; omega) | omega, by first | (clear ha2 hq0 hq1 hq2 hq3 hq4 hq5 h_1 h_2 h_3 h_4 h_5 h_6 h_7 h_8 h_9 h_10 h_11 h_12 h_13 h_14 h_15 h_16 h_60 h_61 h_62 h_67 h_84 h_85 h_86 h_144 h_146 h_147 h_148 h_149 h_150 h_151 h_152 h_153 h_154 h_155 h_157 h_158 h_160 h_186 h_63 h_159; omega) | omega, by first | (clear ha2 hq0 hq1 hq2 hq3 hq4 hq5 h_1 h_2 h_3 h_4 h_5 h_6 h_7 h_8 h_9 h_10 h_11 h_12 h_13 h_14 h_15 h_16 h_60 h_61 h_62 h_67 h_84 h_85 h_86 h_144 h_146 h_147 h_148 h_149 h_150 h_151 h_152 h_153 h_154 h_155 h_157 h_158 h_160 h_186 h_63 h_159; omega) | omega⟩) (ce_le hA_190 (by omega)) H13 hG_83 (fun c_191 hI_192 hF_193 hR_195 h_196 h_197 hA_198 => ?_))
                refine bk_inl ?_
                have h_199 := ir_41_29 hI_192
                have h_200 := ir_41_7 hI_192
                refine q_aload_n rfl rfl ?_
                refine q_iload_n rfl rfl ?_
                refine q_iconst rfl ?_
                refine v_cv rfl rfl rfl rfl (by decide) ⟨⟨rfl, rfl⟩, by decide, rfl⟩ (Nat.le_of_ble_eq_true rfl) (Nat.le_of_ble_eq_true rfl) ?_
                refine q_aload_n rfl rfl ?_
                refine v_cv rfl rfl rfl rfl (by decide) ⟨⟨rfl, rfl⟩, by decide, rfl⟩ (Nat.le_of_ble_eq_true rfl) (Nat.le_of_ble_eq_true rfl) ?_
                refine q_aload_n rfl rfl ?_
                have h_201 := ir_41_5 hI_192
                have h_202 := ir_41_4 hI_192
                have h_203 := ir_41_6 hI_192
                have h_204 := rt_bad hR_195 (by omega)
                have hrb_hR_195 := rt_bad hR_195 (by omega)
                refine v_gi (z := 5) (v := c_80 1 5) rfl rfl rfl (by decide) rfl rfl hrb_hR_195.2.1 ?_
                refine q_iconst rfl ?_
                refine v_ic_ne_t (t := 12) rfl (by decide) ⟨by first | (clear ha2 hq0 hq1 hq2 hq3 hq4 hq5 h_1 h_2 h_3 h_4 h_5 h_6 h_7 h_8 h_9 h_10 h_11 h_12 h_13 h_14 h_15 h_16 h_60 h_61 h_62 h_67 h_84 h_85 h_86 h_144 h_146 h_147 h_148 h_149 h_150 h_151 h_152 h_153 h_154 h_155 h_157 h_158 h_160 h_186 h_199 h_200 h_197 h_201 h_202 h_203 h_63 h_159 h_196; omega) | omega, ⟨(Int.le_trans (by decide) h_151.1), (Int.le_trans h_151.2 (by decide))⟩, by decide, by decide⟩ ?_
                refine q_iconst rfl ?_
                refine v_zret rfl rfl (by decide) ?_
                refine bk_inl ?_
                refine v_if_ne_f (t := 8) rfl (by decide) (by decide) ?_
                refine q_vret rfl rfl ?_
                refine bk_inl ?_
                refine q_goto (t := 4) rfl (by decide) ?_
                refine q_aload_n rfl rfl ?_
                refine v_cv rfl rfl rfl rfl (by decide) ⟨⟨rfl, rfl⟩, by decide, rfl⟩ (Nat.le_of_ble_eq_true rfl) (Nat.le_of_ble_eq_true rfl) ?_
                refine q_aload_n rfl rfl ?_
                refine v_gi (z := 5) (v := c_80 1 5) rfl rfl rfl (by decide) rfl rfl hrb_hR_195.2.1 ?_
                refine q_iconst rfl ?_
                refine v_ic_ne_t (t := 12) rfl (by decide) ⟨by first | (clear ha2 hq0 hq1 hq2 hq3 hq4 hq5 h_1 h_2 h_3 h_4 h_5 h_6 h_7 h_8 h_9 h_10 h_11 h_12 h_13 h_14 h_15 h_16 h_60 h_61 h_62 h_67 h_84 h_85 h_86 h_144 h_146 h_147 h_148 h_149 h_150 h_151 h_152 h_153 h_154 h_155 h_157 h_158 h_160 h_186 h_199 h_200 h_197 h_201 h_202 h_203 h_63 h_159 h_196; omega) | omega, ⟨(Int.le_trans (by decide) h_151.1), (Int.le_trans h_151.2 (by decide))⟩, by decide, by decide⟩ ?_
                refine q_iconst rfl ?_
                refine v_zret rfl rfl (by decide) ?_
                refine bk_inl ?_
                refine v_if_eq_t (t := 67) rfl (by decide) (by decide) ?_
                refine q_vret rfl rfl ?_
                have h_205 : c_191 41 5 = c_80 1 5 := hrb_hR_195.2.1
                have h_206 : c_191 41 6 = c_80 1 4 := hrb_hR_195.2.2.2
                exact K c_191  hI_192 (fun a j hm => (hF_193 a j (fun q => q.elim (fun h => hm (Or.inl h)) (fun q => q.elim (fun h => hm (Or.inr (Or.inl h))) (fun q => q.elim (fun h => hm (Or.inr (Or.inr (Or.inl h)))) (fun q => q.elim (fun h => hm (Or.inr (Or.inr (Or.inr (Or.inl h))))) (fun q => q.elim (fun h => hm (Or.inr (Or.inr (Or.inr (Or.inr (Or.inl h)))))) (fun q => q.elim (fun h => hm (Or.inr (Or.inr (Or.inr (Or.inr (Or.inr (Or.inl h))))))) (fun h => hm (Or.inr (Or.inr (Or.inr (Or.inr (Or.inr (Or.inr h)))))))))))))).trans ((up_b (Decidable.or_iff_not_imp_left.mpr (fun h1 h2 => hm (Or.inl ⟨Decidable.not_not.mp h1, h2⟩)))).trans ((hF_168 a j (fun h => hm (Or.inl h))).trans ((hF_163 a j (fun h => hm (Or.inl h))).trans (hFc a j (fun q => q.elim (fun h => hm (Or.inl h)) (fun q => q.elim (fun h => hm (Or.inr (Or.inl h))) (fun q => q.elim (fun h => hm (Or.inr (Or.inr (Or.inl h)))) (fun q => q.elim (fun h => hm (Or.inr (Or.inr (Or.inr (Or.inl h))))) (fun q => q.elim (fun h => hm (Or.inr (Or.inr (Or.inr (Or.inr (Or.inl h)))))) (fun q => q.elim (fun h => hm (Or.inr (Or.inr (Or.inr (Or.inr (Or.inr (Or.inl h))))))) (fun h => hm (Or.inr (Or.inr (Or.inr (Or.inr (Or.inr (Or.inr h)))))))))))))))))) (rt_i2 ⟨⟨by first | (clear ha2 hq0 hq1 hq2 hq3 hq4 hq5 h_1 h_2 h_3 h_4 h_5 h_6 h_7 h_8 h_9 h_10 h_11 h_12 h_13 h_14 h_15 h_16 h_60 h_61 h_62 h_67 h_84 h_85 h_86 h_144 h_146 h_148 h_149 h_150 h_151 h_152 h_153 h_154 h_155 h_157 h_158 h_160 h_186 h_199 h_200 h_197 h_201 h_202 h_203 h_63 h_159 h_196; omega) | omega, by first | (clear ha2 hq0 hq1 hq2 hq3 hq4 hq5 h_1 h_2 h_3 h_4 h_5 h_6 h_7 h_8 h_9 h_10 h_11 h_12 h_13 h_14 h_15 h_16 h_60 h_61 h_62 h_67 h_84 h_85 h_86 h_144 h_147 h_148 h_149 h_150 h_151 h_152 h_153 h_154 h_155 h_157 h_158 h_160 h_186 h_199 h_200 h_197 h_201 h_202 h_203 h_204 h_63 h_159 h_196; omega) | omega⟩, by first | (clear ha2 hq0 hq1 hq2 hq3 hq4 hq5 h_1 h_2 h_3 h_4 h_5 h_6 h_7 h_8 h_9 h_10 h_11 h_12 h_13 h_14 h_15 h_16 h_60 h_61 h_62 h_67 h_84 h_85 h_86 h_144 h_146 h_147 h_148 h_149 h_150 h_151 h_152 h_154 h_155 h_157 h_158 h_160 h_186 h_199 h_200 h_197 h_201 h_202 h_203 h_204 h_63 h_159 h_196; omega) | omega, by first | (clear ha2 hq0 hq1 hq2 hq3 hq4 hq5 h_1 h_2 h_3 h_4 h_5 h_6 h_7 h_8 h_9 h_10 h_11 h_12 h_13 h_14 h_15 h_16 h_60 h_61 h_62 h_67 h_84 h_85 h_86 h_144 h_146 h_147 h_148 h_149 h_150 h_151 h_152 h_154 h_155 h_157 h_158 h_160 h_186 h_199 h_200 h_197 h_201 h_202 h_203 h_63 h_159 h_196; omega) | omega, by first | (clear ha2 hq0 hq1 hq2 hq3 hq4 hq5 h_1 h_2 h_3 h_4 h_5 h_6 h_7 h_8 h_9 h_10 h_11 h_12 h_13 h_14 h_15 h_16 h_60 h_61 h_62 h_67 h_84 h_85 h_86 h_144 h_146 h_148 h_149 h_150 h_151 h_152 h_153 h_154 h_155 h_157 h_158 h_160 h_186 h_199 h_200 h_197 h_201 h_202 h_203 h_204 h_63 h_159 h_196; omega) | omega⟩) (Or.inr (Or.inl (by first | (clear ha2 hq0 hq1 hq2 hq3 hq4 hq5 h_1 h_2 h_3 h_4 h_5 h_6 h_7 h_8 h_9 h_10 h_11 h_12 h_13 h_14 h_15 h_16 h_60 h_61 h_62 h_67 h_84 h_85 h_86 h_144 h_146 h_148 h_149 h_150 h_151 h_152 h_153 h_154 h_155 h_157 h_158 h_160 h_186 h_199 h_200 h_197 h_201 h_202 h_203 h_63 h_159 h_196; omega) | omega))) (by first | (clear ha2 hq0 hq1 hq2 hq3 hq4 hq5 h_1 h_2 h_3 h_4 h_5 h_6 h_7 h_8 h_9 h_10 h_11 h_12 h_13 h_14 h_15 h_16 h_60 h_61 h_62 h_67 h_84 h_85 h_86 h_144 h_146 h_147 h_148 h_149 h_150 h_151 h_152 h_153 h_154 h_155 h_157 h_158 h_160 h_186 h_199 h_200 h_201 h_202 h_203 h_204 h_63 h_159 h_196; omega) | omega) (fun hz => absurd hz (by omega))
              · refine v_ic_ge_f (t := 59) rfl (by decide) ⟨by first | exact rgp_l hv.1 (by decide) | omega, (Int.not_le.mp h_144), by decide⟩ ?_
                refine q_aload_n rfl rfl ?_
                refine v_cv rfl rfl rfl rfl (by decide) ⟨⟨rfl, rfl⟩, by decide, rfl⟩ (Nat.le_of_ble_eq_true rfl) (Nat.le_of_ble_eq_true rfl) ?_
                refine q_aload_n rfl rfl ?_
                refine v_gi (z := 4) (v := c_80 1 4) rfl rfl rfl (by decide) rfl rfl rfl ?_
                refine v_if_ne_t (t := 11) rfl (by decide) ⟨by first | (clear ha2 hq0 hq1 hq2 hq3 hq4 hq5 h_1 h_2 h_3 h_4 h_5 h_6 h_7 h_8 h_9 h_10 h_11 h_12 h_13 h_14 h_15 h_16 h_60 h_61 h_62 h_67 h_84 h_85 h_86 h_63; omega) | omega, ⟨(Int.le_trans (by decide) h_86.1), (Int.le_trans h_86.2 (by decide))⟩, by decide, by decide⟩ ?_
                refine q_iconst rfl ?_
                refine v_zret rfl rfl (by decide) ?_
                refine bk_inl ?_
                refine v_if_eq_t (t := 59) rfl (by decide) (by decide) ?_
                refine q_vret rfl rfl ?_
                intro hE_207
                have hW : Wd P Q P P c_80 = Wd P Q P P m9 := (Prod.mk.inj (Prod.mk.inj hE_207).2).1
                have h_208 := ir_1_4 hJ9
                have h_209 : m9 1 4 = c_80 1 4 := wd_fv (z := 4) 4 rfl hW rfl rfl rfl rfl (by decide) rfl ⟨(Int.le_trans (by decide) h_86.1), (Int.le_trans h_86.2 (by decide))⟩ ⟨(Int.le_trans (by decide) h_208.1), (Int.le_trans h_208.2 (by decide))⟩
                have h_210 := ir_1_2 hI_81
                have h_211 := ir_1_2 hJ9
                have h_212 : m9 1 2 = c_80 1 2 := wd_fv (z := 2) 2 rfl hW rfl rfl rfl rfl (by decide) rfl ⟨(Int.le_trans (by decide) h_210.1), (Int.le_trans h_210.2 (by decide))⟩ ⟨(Int.le_trans (by decide) h_211.1), (Int.le_trans h_211.2 (by decide))⟩
                have h_213 := ir_1_5 hI_81
                have h_214 := ir_1_5 hJ9
                have h_215 : m9 1 5 = c_80 1 5 := wd_fv (z := 5) 5 rfl hW rfl rfl rfl rfl (by decide) rfl ⟨(Int.le_trans (by decide) h_213.1), (Int.le_trans h_213.2 (by decide))⟩ ⟨(Int.le_trans (by decide) h_214.1), (Int.le_trans h_214.2 (by decide))⟩
                have h_216 := ir_p7_5 hJ9 hA
                have h_217 : m9 (A + 7) 5 = c_80 (A + 7) 5 := wd_fv (z := 5) 5 rfl hW (ck_p7 hA) (ck_p7 hA) rfl rfl (by omega) rfl ⟨(Int.le_trans (by decide) h_84.1), (Int.le_trans h_84.2 (by decide))⟩ ⟨(Int.le_trans (by decide) h_216.1), (Int.le_trans h_216.2 (by decide))⟩
                refine q_aload_n rfl rfl ?_
                refine v_cv rfl rfl rfl rfl (by decide) ⟨⟨rfl, rfl⟩, by decide, rfl⟩ (Nat.le_of_ble_eq_true rfl) (Nat.le_of_ble_eq_true rfl) ?_
                refine q_aload_n rfl rfl ?_
                refine v_gi (z := 5) (v := (-1)) rfl rfl rfl (by decide) rfl rfl (hc_1) ?_
                refine q_iconst rfl ?_
                refine v_ic_ne_f (t := 12) rfl (by decide) (by decide) ?_
                refine q_iconst rfl ?_
                refine q_goto (t := 13) rfl (by decide) ?_
                refine v_zret rfl rfl (by decide) ?_
                refine bk_inl ?_
                refine v_if_eq_f (t := 67) rfl (by decide) (by decide) ?_
                refine q_aload_n rfl rfl ?_
                have kn_218 : Hid (c2 41 3 = e1) := (hFc 41 3 (fun q => q.elim (fun h => absurd h.2 (ni rfl)) (fun q => q.elim (fun h => absurd h.2 (ni rfl)) (fun q => q.elim (fun h => absurd h.2 (ni rfl)) (fun q => q.elim (fun h => absurd h.2 (ni rfl)) (fun q => q.elim (fun h => absurd h.2 (ni rfl)) (fun q => q.elim (fun h => absurd h (nn rfl)) (fun h => absurd h (nn rfl))))))))).trans (hr_e1)
                have h_219 : -2147483648 ≤ (H (nx F e1 a)) ∧ (H (nx F e1 a)) ≤ 2147483647 := by rw [← hH (nx F e1 a)]; exact ir_43 hI (nx F e1 a)
                have h_220 := hU (nx F e1 a) (by omega) (by omega)
                have h_221 := hb_or (b := H) (e := e1) (r := (nx F e1 a))
                have h_222 := hb_bd (b := H) (e := e1) (r := (nx F e1 a)) (lo := -2147483648) (hi := 2147483647) h_219 (by decide)
                refine v_cv rfl rfl rfl rfl (by decide) ⟨⟨rfl, rfl⟩, by decide, rfl⟩ (Nat.le_of_ble_eq_true rfl) (Nat.le_of_ble_eq_true rfl) (f_154 (e1 := e1) (a9 := a) (B := H) (r8 := (nx F e1 a)) (r := (hb H e1 (nx F e1 a))) hI2 ((hid kn_218)) ((hr_a)) (fun j => (hFc 43 j (fun q => q.elim (fun h => absurd h.1 (nn rfl)) (fun q => q.elim (fun h => absurd h.1 (nn rfl)) (fun q => q.elim (fun h => absurd h.1 (nn rfl)) (fun q => q.elim (fun h => absurd h.1 (nn rfl)) (fun q => q.elim (fun h => absurd h.1 (nn rfl)) (fun q => q.elim (fun h => absurd h (nn rfl)) (fun h => absurd h (nn rfl))))))))).trans (hH j)) ((nx_tr hU (by first | (clear ha2 hq0 hq1 hq2 hq3 hq4 hq5 h_1 h_2 h_3 h_4 h_5 h_6 h_7 h_8 h_9 h_10 h_11 h_12 h_13 h_14 h_15 h_16 h_60 h_61 h_62 h_67 h_84 h_85 h_86 h_208 h_209 h_210 h_211 h_212 h_213 h_214 h_215 h_216 h_217 h_63; omega) | omega) (by first | (clear ha2 hq0 hq1 hq2 hq3 hq4 h_1 h_2 h_3 h_4 h_5 h_6 h_7 h_8 h_9 h_10 h_11 h_12 h_13 h_14 h_15 h_16 h_60 h_61 h_62 h_67 h_84 h_85 h_86 h_208 h_209 h_210 h_211 h_212 h_213 h_214 h_215 h_216 h_217 h_63; omega) | omega)).trans (rfl)) rfl (fun c_223 hI_224 hF_225 h_226 => ?_))
                refine bk_inl ?_
                refine v_bip rfl (by decide) ?_
                refine v_ic_eq_t (t := 29) rfl (by decide) (by first | (clear ha2 hq0 hq1 hq2 hq3 h_3 h_4 h_5 h_6 h_7 h_8 h_9 h_10 h_11 h_12 h_13 h_14 h_15 h_60 h_62 h_84 h_85 h_86 h_208 h_209 h_210 h_211 h_212 h_213 h_214 h_215 h_216 h_217; omega) | omega) ?_
                refine q_aload_n rfl rfl ?_
                have kn_227 : Hid (c_223 41 3 = e1) := (hF_225 41 3 (fun h => absurd h.2 (ni rfl))).trans (hid kn_218)
                refine v_cv rfl rfl rfl rfl (by decide) ⟨⟨rfl, rfl⟩, by decide, rfl⟩ (Nat.le_of_ble_eq_true rfl) (Nat.le_of_ble_eq_true rfl) (f_154 (e1 := e1) (a9 := (nx F e1 a)) (B := H) (r8 := (nx F e1 a)) (r := (hb H e1 (nx F e1 a))) hI_224 ((hid kn_227)) ((h_226)) (fun j => ((hF_225 43 j (fun h => absurd h.1 (nn rfl))).trans (hFc 43 j (fun q => q.elim (fun h => absurd h.1 (nn rfl)) (fun q => q.elim (fun h => absurd h.1 (nn rfl)) (fun q => q.elim (fun h => absurd h.1 (nn rfl)) (fun q => q.elim (fun h => absurd h.1 (nn rfl)) (fun q => q.elim (fun h => absurd h.1 (nn rfl)) (fun q => q.elim (fun h => absurd h (nn rfl)) (fun h => absurd h (nn rfl)))))))))).trans (hH j)) ((nx_tr hU (by first | (clear ha2 hq0 hq1 hq2 hq3 hq4 hq5 h_1 h_2 h_3 h_4 h_5 h_6 h_7 h_8 h_9 h_10 h_11 h_12 h_13 h_14 h_15 h_16 h_60 h_62 h_67 h_84 h_85 h_86 h_208 h_209 h_210 h_211 h_212 h_213 h_214 h_215 h_216 h_217 h_219 h_220 h_222 h_63 h_221; omega) | omega) (by first | (clear ha2 hq0 hq1 hq2 hq3 hq4 h_1 h_2 h_3 h_4 h_5 h_6 h_7 h_8 h_9 h_10 h_11 h_12 h_13 h_14 h_15 h_16 h_60 h_61 h_62 h_67 h_84 h_85 h_86 h_208 h_209 h_210 h_211 h_212 h_213 h_214 h_215 h_216 h_217 h_219 h_220 h_222 h_63 h_221; omega) | omega)).trans ((nx_z (by omega)))) rfl (fun c_228 hI_229 hF_230 h_231 => ?_))
                refine bk_inl ?_
                refine v_bip rfl (by decide) ?_
                refine v_ic_ne_f (t := 42) rfl (by decide) (by first | (clear ha2 hq0 hq1 hq2 hq3 h_3 h_4 h_5 h_6 h_7 h_8 h_9 h_10 h_11 h_12 h_13 h_14 h_15 h_60 h_62 h_84 h_85 h_86 h_208 h_209 h_210 h_211 h_212 h_213 h_214 h_215 h_216 h_217; omega) | omega) ?_
                refine q_iconst rfl ?_
                refine q_goto (t := 43) rfl (by decide) ?_
                refine q_istore_n rfl (by decide) ?_
                refine q_aload_n rfl rfl ?_
                refine q_dup rfl rfl ?_
                refine v_gi (z := 4) (v := (nx F e1 a)) rfl rfl rfl (by decide) rfl rfl (h_231) ?_
                refine q_iconst rfl ?_
                refine v_iadd (v := (nx F e1 a) + 1) rfl rfl ?_
                refine v_pi (z := 4) rfl rfl rfl (by decide) rfl rfl rfl (by decide) ?_
                refine q_aload_n rfl rfl ?_
                have kn_232 : Hid (c_223 41 5 = (-1)) := (hF_225 41 5 (fun h => absurd h.2 (ni rfl))).trans (hc_1)
                have kn_233 : Hid (c_228 41 5 = (-1)) := (hF_230 41 5 (fun h => absurd h.2 (ni rfl))).trans (hid kn_232)
                have hI_234 := iw_41_4 (v := (nx F e1 a) + 1) hI_229 ⟨by first | exact rgp_l (rg_be h_61 (ha.1) ((rg_eq hg_e1 h_1).2)).1 (by decide) | omega, by first | exact rgp_h (rg_be h_61 (ha.1) ((rg_eq hg_e1 h_1).2)).2 (by decide) | omega⟩
                have kn_235 : Hid (c_64 1 1 = e1) := (hF_66 1 1 (fun h => absurd h.2 (ni rfl))).trans (hid kn_59)
                have kn_236 : Hid (c_228 41 3 = e1) := (hF_230 41 3 (fun h => absurd h.2 (ni rfl))).trans (hid kn_227)
                have kn_237 : Hid (c_64 1 5 = (-1)) := (hF_66 1 5 (fun h => absurd h.2 (ni rfl))).trans (hc_2)
                have kn_238 : Hid (c_64 (A + 7) 5 = nw) := (hF_66 (A + 7) 5 (fun h => absurd h.1 (np hA rfl rfl))).trans (hg_nw)
                have kn_239 : Hid (c_223 41 29 = nw) := (hF_225 41 29 (fun h => absurd h.2 (ni rfl))).trans (hr_nw)
                have kn_240 : Hid (c_228 41 29 = nw) := (hF_230 41 29 (fun h => absurd h.2 (ni rfl))).trans (hid kn_239)
                have kn_241 : Hid (c_223 41 7 = a2) := (hF_225 41 7 (fun h => absurd h.2 (ni rfl))).trans (hc_3)
                have kn_242 : Hid (c_228 41 7 = a2) := (hF_230 41 7 (fun h => absurd h.2 (ni rfl))).trans (hid kn_241)
                have h_243 : c_64 1 4 = 0 := (hid kn_79)
                have h_244 : c_64 1 2 = (nx F e1 a) + 1 := (hz_68)
                have h_245 : c_64 1 5 = (-1) := (hid kn_237)
                have h_246 : (up c_228 41 4 ((nx F e1 a) + 1)) 41 5 = (-1) := ((up_n (by decide)).trans (hid kn_233))
                have h_247 : (up c_228 41 4 ((nx F e1 a) + 1)) 41 4 = (nx F e1 a) + 1 := (up_e rfl)
                have h_248 := ir_41_6 hI2
                have kn_249 : Hid (c_223 41 6 = c2 41 6) := hF_225 41 6 (fun h => absurd h.2 (ni rfl))
                have kn_250 : Hid (c_228 41 6 = c2 41 6) := (hF_230 41 6 (fun h => absurd h.2 (ni rfl))).trans (hid kn_249)
                have h_251 : (up c_228 41 4 ((nx F e1 a) + 1)) 41 6 = c2 41 6 := ((up_n (by decide)).trans (hid kn_250))
                have hA_252 : Ce nw (c_64 (A + 9)) ((up c_228 41 4 ((nx F e1 a) + 1)) 50) ((up c_228 41 4 ((nx F e1 a) + 1)) 51) := ce_fr hrl0 (fun j => hF_66 (A + 9) j (fun h => absurd h.1 (np hA rfl rfl))) (fun j => (up_c (nn rfl)).trans ((hF_230 50 j (fun h => absurd h.1 (nn rfl))).trans (hF_225 50 j (fun h => absurd h.1 (nn rfl))))) (fun j => (up_c (nn rfl)).trans ((hF_230 51 j (fun h => absurd h.1 (nn rfl))).trans (hF_225 51 j (fun h => absurd h.1 (nn rfl)))))
                refine v_cv rfl rfl rfl rfl (by decide) ⟨⟨rfl, rfl⟩, by decide, rfl⟩ (Nat.le_of_ble_eq_true rfl) (Nat.le_of_ble_eq_true rfl) (L_12 (m := c_64) (a2 := a2) (e1 := e1) (f0 := 0) (g0 := (-1)) (p0 := (nx F e1 a) + 1) (n0 := nw) (o0 := a2) (F := F) (H := H) hI_234 hI_65 hI_81 hA (show 0 ≤ a2 ∧ a2 ≤ 6 from ha2) (by first | (clear ha2 hq0 hq1 hq2 hq3 hq4 hq5 h_1 h_2 h_3 h_4 h_5 h_6 h_7 h_8 h_9 h_10 h_11 h_12 h_13 h_14 h_15 h_16 h_60 h_61 h_62 h_67 h_84 h_85 h_86 h_208 h_209 h_210 h_211 h_212 h_213 h_214 h_215 h_216 h_217 h_219 h_220 h_222 h_63 h_221; omega) | omega) (by first | (clear ha2 hq0 hq1 hq2 hq3 hq4 hq5 h_1 h_2 h_3 h_4 h_5 h_6 h_7 h_8 h_9 h_10 h_11 h_12 h_13 h_14 h_15 h_16 h_60 h_61 h_62 h_67 h_84 h_85 h_86 h_208 h_209 h_210 h_211 h_212 h_213 h_214 h_215 h_216 h_217 h_219 h_220 h_222 h_63 h_221; omega) | omega) (by first | (clear ha2 hq0 hq1 hq2 hq3 hq4 hq5 h_1 h_2 h_3 h_4 h_5 h_6 h_7 h_8 h_9 h_10 h_11 h_12 h_13 h_14 h_15 h_16 h_60 h_61 h_62 h_67 h_84 h_85 h_86 h_208 h_209 h_210 h_211 h_212 h_213 h_214 h_215 h_216 h_217 h_219 h_220 h_222 h_63 h_221; omega) | omega) (by first | (clear ha2 hq0 hq1 hq2 hq4 hq5 h_1 h_2 h_3 h_4 h_5 h_6 h_7 h_8 h_9 h_10 h_11 h_12 h_13 h_14 h_15 h_60 h_62 h_67 h_84 h_85 h_86 h_208 h_209 h_210 h_211 h_212 h_213 h_214 h_215 h_216 h_217 h_219 h_220 h_222 h_63 h_221; omega) | omega) (by first | (clear ha2 hq0 hq1 hq2 hq3 hq4 hq5 h_1 h_2 h_3 h_4 h_5 h_6 h_7 h_8 h_9 h_10 h_11 h_12 h_13 h_14 h_15 h_16 h_60 h_61 h_62 h_84 h_85 h_86 h_208 h_209 h_210 h_211 h_212 h_213 h_214 h_215 h_216 h_217 h_219 h_220 h_222 h_63 h_221; omega) | omega) (by first | (clear ha2 hq0 hq1 hq2 hq3 hq4 h_1 h_2 h_3 h_4 h_5 h_6 h_7 h_8 h_9 h_10 h_11 h_12 h_13 h_14 h_15 h_16 h_60 h_61 h_62 h_67 h_84 h_85 h_86 h_208 h_209 h_210 h_211 h_212 h_213 h_214 h_215 h_216 h_217 h_219 h_220 h_222 h_63 h_221; omega) | omega) ((hid kn_235)) (((up_n (by decide)).trans (hid kn_236))) ((hid kn_79)) ((hid kn_237)) ((hz_68)) ((hid kn_238)) (((up_n (by decide)).trans (hid kn_240))) (((up_n (by decide)).trans (hid kn_242))) (fun j => ((hF_66 2 j (fun h => absurd h.1 (nn rfl))).trans (hFm 2 j (fun q => q.elim (fun h => absurd h.1 (nn rfl)) (fun q => q.elim (fun h => absurd h.1 (nn rfl)) (fun q => q.elim (fun h => absurd h.1 (nn rfl)) (fun q => q.elim (fun h => absurd h.1 (pn hA rfl rfl)) (fun h => absurd h (pn hA rfl rfl)))))))).trans (hF j)) (fun j => ((up_c (nn rfl)).trans ((hF_230 43 j (fun h => absurd h.1 (nn rfl))).trans ((hF_225 43 j (fun h => absurd h.1 (nn rfl))).trans (hFc 43 j (fun q => q.elim (fun h => absurd h.1 (nn rfl)) (fun q => q.elim (fun h => absurd h.1 (nn rfl)) (fun q => q.elim (fun h => absurd h.1 (nn rfl)) (fun q => q.elim (fun h => absurd h.1 (nn rfl)) (fun q => q.elim (fun h => absurd h.1 (nn rfl)) (fun q => q.elim (fun h => absurd h (nn rfl)) (fun h => absurd h (nn rfl)))))))))))).trans (hH j)) hU (rt_i1 ⟨by first | (clear ha2 hq0 hq1 hq2 hq3 hq4 hq5 h_1 h_2 h_3 h_4 h_5 h_6 h_7 h_8 h_9 h_10 h_11 h_12 h_13 h_14 h_15 h_16 h_60 h_61 h_62 h_67 h_84 h_85 h_86 h_208 h_209 h_210 h_211 h_212 h_213 h_214 h_215 h_216 h_217 h_219 h_220 h_222 h_248 h_63 h_221; omega) | omega, by first | (clear ha2 hq0 hq1 hq2 hq3 hq4 hq5 h_1 h_2 h_3 h_4 h_5 h_6 h_7 h_8 h_9 h_10 h_11 h_12 h_13 h_14 h_15 h_16 h_60 h_61 h_62 h_67 h_84 h_85 h_86 h_208 h_209 h_210 h_211 h_212 h_213 h_214 h_215 h_216 h_217 h_219 h_220 h_222 h_248 h_63 h_221; omega) | omega, by first | (clear ha2 hq0 hq1 hq2 hq3 hq4 hq5 h_1 h_2 h_3 h_4 h_5 h_6 h_7 h_8 h_9 h_10 h_11 h_12 h_13 h_14 h_15 h_16 h_60 h_61 h_62 h_67 h_84 h_85 h_86 h_208 h_209 h_210 h_211 h_212 h_213 h_214 h_215 h_216 h_217 h_219 h_220 h_222 h_248 h_63 h_221; omega) | omega, by first | (clear ha2 hq0 hq1 hq2 hq3 hq4 hq5 h_1 h_2 h_3 h_4 h_5 h_6 h_7 h_8 h_9 h_10 h_11 h_12 h_13 h_14 h_15 h_16 h_60 h_61 h_62 h_67 h_84 h_85 h_86 h_208 h_209 h_210 h_211 h_212 h_213 h_214 h_215 h_216 h_217 h_219 h_220 h_222 h_248 h_63 h_221; omega) | omega⟩) (ce_le hA_252 (by omega)) H13 hG_83 (fun c_253 hI_254 hF_255 hR_257 h_258 h_259 hA_260 => ?_))
                refine bk_inl ?_
                have h_261 := ir_41_29 hI_254
                have h_262 := ir_41_7 hI_254
                refine q_aload_n rfl rfl ?_
                refine q_iload_n rfl rfl ?_
                refine q_iconst rfl ?_
                refine v_cv rfl rfl rfl rfl (by decide) ⟨⟨rfl, rfl⟩, by decide, rfl⟩ (Nat.le_of_ble_eq_true rfl) (Nat.le_of_ble_eq_true rfl) ?_
                refine q_aload_n rfl rfl ?_
                refine v_cv rfl rfl rfl rfl (by decide) ⟨⟨rfl, rfl⟩, by decide, rfl⟩ (Nat.le_of_ble_eq_true rfl) (Nat.le_of_ble_eq_true rfl) ?_
                refine q_aload_n rfl rfl ?_
                have h_263 := ir_41_5 hI_254
                have h_264 := ir_41_4 hI_254
                have h_265 := ir_41_6 hI_254
                have h_266 := rt_bad hR_257 (by omega)
                have hrb_hR_257 := rt_bad hR_257 (by omega)
                refine v_gi (z := 5) (v := c_80 1 5) rfl rfl rfl (by decide) rfl rfl hrb_hR_257.2.1 ?_
                refine q_iconst rfl ?_
                refine v_ic_ne_t (t := 12) rfl (by decide) ⟨by first | (clear ha2 hq0 hq1 hq2 hq3 hq4 hq5 h_1 h_2 h_3 h_4 h_5 h_6 h_7 h_8 h_9 h_10 h_11 h_12 h_13 h_14 h_15 h_16 h_60 h_61 h_62 h_67 h_84 h_85 h_86 h_208 h_209 h_210 h_211 h_212 h_213 h_214 h_215 h_216 h_217 h_219 h_220 h_222 h_248 h_261 h_262 h_259 h_263 h_264 h_265 h_63 h_221 h_258; omega) | omega, ⟨(Int.le_trans (by decide) h_213.1), (Int.le_trans h_213.2 (by decide))⟩, by decide, by decide⟩ ?_
                refine q_iconst rfl ?_
                refine v_zret rfl rfl (by decide) ?_
                refine bk_inl ?_
                refine v_if_ne_f (t := 8) rfl (by decide) (by decide) ?_
                refine q_vret rfl rfl ?_
                refine bk_inl ?_
                refine q_goto (t := 4) rfl (by decide) ?_
                refine q_aload_n rfl rfl ?_
                refine v_cv rfl rfl rfl rfl (by decide) ⟨⟨rfl, rfl⟩, by decide, rfl⟩ (Nat.le_of_ble_eq_true rfl) (Nat.le_of_ble_eq_true rfl) ?_
                refine q_aload_n rfl rfl ?_
                refine v_gi (z := 5) (v := c_80 1 5) rfl rfl rfl (by decide) rfl rfl hrb_hR_257.2.1 ?_
                refine q_iconst rfl ?_
                refine v_ic_ne_t (t := 12) rfl (by decide) ⟨by first | (clear ha2 hq0 hq1 hq2 hq3 hq4 hq5 h_1 h_2 h_3 h_4 h_5 h_6 h_7 h_8 h_9 h_10 h_11 h_12 h_13 h_14 h_15 h_16 h_60 h_61 h_62 h_67 h_84 h_85 h_86 h_208 h_209 h_210 h_211 h_212 h_213 h_214 h_215 h_216 h_217 h_219 h_220 h_222 h_248 h_261 h_262 h_259 h_263 h_264 h_265 h_63 h_221 h_258; omega) | omega, ⟨(Int.le_trans (by decide) h_213.1), (Int.le_trans h_213.2 (by decide))⟩, by decide, by decide⟩ ?_
                refine q_iconst rfl ?_
                refine v_zret rfl rfl (by decide) ?_
                refine bk_inl ?_
                refine v_if_eq_t (t := 67) rfl (by decide) (by decide) ?_
                refine q_vret rfl rfl ?_
                have h_267 : c_253 41 5 = c_80 1 5 := hrb_hR_257.2.1
                have h_268 : c_253 41 6 = c_80 1 4 := hrb_hR_257.2.2.2
                exact K c_253  hI_254 (fun a j hm => (hF_255 a j (fun q => q.elim (fun h => hm (Or.inl h)) (fun q => q.elim (fun h => hm (Or.inr (Or.inl h))) (fun q => q.elim (fun h => hm (Or.inr (Or.inr (Or.inl h)))) (fun q => q.elim (fun h => hm (Or.inr (Or.inr (Or.inr (Or.inl h))))) (fun q => q.elim (fun h => hm (Or.inr (Or.inr (Or.inr (Or.inr (Or.inl h)))))) (fun q => q.elim (fun h => hm (Or.inr (Or.inr (Or.inr (Or.inr (Or.inr (Or.inl h))))))) (fun h => hm (Or.inr (Or.inr (Or.inr (Or.inr (Or.inr (Or.inr h)))))))))))))).trans ((up_b (Decidable.or_iff_not_imp_left.mpr (fun h1 h2 => hm (Or.inl ⟨Decidable.not_not.mp h1, h2⟩)))).trans ((hF_230 a j (fun h => hm (Or.inl h))).trans ((hF_225 a j (fun h => hm (Or.inl h))).trans (hFc a j (fun q => q.elim (fun h => hm (Or.inl h)) (fun q => q.elim (fun h => hm (Or.inr (Or.inl h))) (fun q => q.elim (fun h => hm (Or.inr (Or.inr (Or.inl h)))) (fun q => q.elim (fun h => hm (Or.inr (Or.inr (Or.inr (Or.inl h))))) (fun q => q.elim (fun h => hm (Or.inr (Or.inr (Or.inr (Or.inr (Or.inl h)))))) (fun q => q.elim (fun h => hm (Or.inr (Or.inr (Or.inr (Or.inr (Or.inr (Or.inl h))))))) (fun h => hm (Or.inr (Or.inr (Or.inr (Or.inr (Or.inr (Or.inr h)))))))))))))))))) (rt_i2 ⟨⟨by first | (clear ha2 hq0 hq1 hq2 hq3 hq4 hq5 h_1 h_2 h_3 h_4 h_5 h_6 h_7 h_8 h_9 h_10 h_11 h_12 h_13 h_14 h_15 h_16 h_60 h_61 h_62 h_67 h_84 h_85 h_86 h_208 h_210 h_211 h_212 h_213 h_214 h_215 h_216 h_217 h_219 h_220 h_222 h_248 h_261 h_262 h_259 h_263 h_264 h_265 h_63 h_221 h_258; omega) | omega, by first | (clear ha2 hq0 hq1 hq2 hq3 hq4 hq5 h_1 h_2 h_3 h_4 h_5 h_6 h_7 h_8 h_9 h_10 h_11 h_12 h_13 h_14 h_15 h_16 h_60 h_61 h_62 h_67 h_84 h_85 h_86 h_209 h_210 h_211 h_212 h_213 h_214 h_215 h_216 h_217 h_219 h_220 h_222 h_248 h_261 h_262 h_259 h_263 h_264 h_265 h_266 h_63 h_221 h_258; omega) | omega⟩, by first | (clear ha2 hq0 hq1 hq2 hq3 hq4 hq5 h_1 h_2 h_3 h_4 h_5 h_6 h_7 h_8 h_9 h_10 h_11 h_12 h_13 h_14 h_15 h_16 h_60 h_61 h_62 h_67 h_84 h_85 h_86 h_208 h_209 h_210 h_211 h_212 h_213 h_214 h_216 h_217 h_219 h_220 h_222 h_248 h_261 h_262 h_259 h_263 h_264 h_265 h_266 h_63 h_221 h_258; omega) | omega, by first | (clear ha2 hq0 hq1 hq2 hq3 hq4 hq5 h_1 h_2 h_3 h_4 h_5 h_6 h_7 h_8 h_9 h_10 h_11 h_12 h_13 h_14 h_15 h_16 h_60 h_61 h_62 h_67 h_84 h_85 h_86 h_208 h_209 h_210 h_211 h_212 h_213 h_214 h_216 h_217 h_219 h_220 h_222 h_248 h_261 h_262 h_259 h_263 h_264 h_265 h_63 h_221 h_258; omega) | omega, by first | (clear ha2 hq0 hq1 hq2 hq3 hq4 hq5 h_1 h_2 h_3 h_4 h_5 h_6 h_7 h_8 h_9 h_10 h_11 h_12 h_13 h_14 h_15 h_16 h_60 h_61 h_62 h_67 h_84 h_85 h_86 h_208 h_210 h_211 h_212 h_213 h_214 h_215 h_216 h_217 h_219 h_220 h_222 h_248 h_261 h_262 h_259 h_263 h_264 h_265 h_266 h_63 h_221 h_258; omega) | omega⟩) (Or.inr (Or.inl (by first | (clear ha2 hq0 hq1 hq2 hq3 hq4 hq5 h_1 h_2 h_3 h_4 h_5 h_6 h_7 h_8 h_9 h_10 h_11 h_12 h_13 h_14 h_15 h_16 h_60 h_61 h_62 h_67 h_84 h_85 h_86 h_208 h_210 h_211 h_212 h_213 h_214 h_215 h_216 h_217 h_219 h_220 h_222 h_248 h_261 h_262 h_259 h_263 h_264 h_265 h_63 h_221 h_258; omega) | omega))) (by first | (clear ha2 hq0 hq1 hq2 hq3 hq4 hq5 h_1 h_2 h_3 h_4 h_5 h_6 h_7 h_8 h_9 h_10 h_11 h_12 h_13 h_14 h_15 h_16 h_60 h_61 h_62 h_67 h_84 h_85 h_86 h_208 h_209 h_210 h_211 h_212 h_213 h_214 h_215 h_216 h_217 h_219 h_220 h_222 h_248 h_261 h_262 h_263 h_264 h_265 h_266 h_63 h_221 h_258; omega) | omega) (fun hz => absurd hz (by omega))
          · refine v_ic_ge_f (t := 32) rfl (by decide) ⟨(Int.le_trans (by decide) h_84.1), (Int.not_le.mp h_85), by decide⟩ ?_
            refine q_aload_n rfl rfl ?_
            refine v_gr (t := (A + 9)) rfl rfl (ck_p7 hA) (a68 hA rfl) rfl ?_
            refine q_aload_n rfl rfl ?_
            refine v_gi (z := 5) (v := c_80 (A + 7) 5) rfl rfl (ck_p7 hA) (a68 hA rfl) rfl rfl rfl ?_
            refine q_iload_n rfl rfl ?_
            refine v_is rfl (ck_p9 hA) (a68 hA rfl) (by decide) (by omega) ?_
            refine q_aload_n rfl rfl ?_
            refine q_dup rfl rfl ?_
            refine v_gi (z := 5) (v := c_80 (A + 7) 5) rfl rfl (ck_p7 hA) (a68 hA rfl) rfl rfl (up_c (pp rfl)) ?_
            refine q_iconst rfl ?_
            refine v_iadd (v := c_80 (A + 7) 5 + 1) rfl rfl ?_
            refine v_pi (z := 5) rfl rfl (ck_p7 hA) (a68 hA rfl) rfl rfl rfl (by decide) ?_
            refine q_vret rfl rfl ?_
            refine bk_inl ?_
            refine v_iinc (v := v + 1) rfl rfl (by decide) rfl ?_
            refine q_goto (t := 8) rfl (by decide) ?_
            have h_269 := ir_1_4 hI_81
            by_cases h_270 : c_80 1 4 = 0
            · skip
              have hI_271 := iw_lg (j := c_80 (A + 7) 5) (v := 2000) hI_81 (lgp (k := 9) hA (by decide)) ⟨by decide, by decide⟩ (by omega)
              have hI_272 := iw_p7_5 (v := c_80 (A + 7) 5 + 1) hI_271 hA ⟨by first | exact rgp_l h_84.1 (by decide) | omega, by first | (clear ha2 hq0 hq1 hq2 hq3 hq4 hq5 h_1 h_2 h_3 h_4 h_5 h_6 h_7 h_8 h_9 h_10 h_11 h_12 h_13 h_14 h_15 h_16 h_60 h_61 h_62 h_67 h_84 h_269 h_270 h_63; omega) | omega⟩
              refine Wp_ls [(0, .ref (A + 7)), (1, .ref 1), (2, vi a2), (3, vi (v + 1))] (lsub_cons rfl (lsub_cons rfl (lsub_cons rfl (lsub_cons rfl lsub_nil)))) ?_
              refine gh_stop ((s_13_l (sc := sc) (d := dh + 22) (c := (up (up c_80 (A + 9) (c_80 (A + 7) 5) 2000) (A + 7) 5 (c_80 (A + 7) 5 + 1))) (a2 := a2) (Z := fun _ => True) hI_272 hA ha2 (fun c9 Z9 h hI9 K9 => r_13 (d := dh + 1) hI9 hA ⟨by omega, h⟩ K9) (fun _ _ _ => trivial) 304) (up (up c_80 (A + 9) (c_80 (A + 7) 5) 2000) (A + 7) 5 (c_80 (A + 7) 5 + 1)) (v + 1) hI_272 (fun a j hm => rfl) ⟨by omega, by omega⟩ (by omega)) (fun hG_273 => ?_)
              refine q_aload_n rfl rfl ?_
              refine v_cv rfl rfl rfl rfl (by decide) ⟨⟨rfl, rfl⟩, by decide, rfl⟩ (Nat.le_of_ble_eq_true rfl) (Nat.le_of_ble_eq_true rfl) ?_
              refine q_aload_n rfl rfl ?_
              refine v_gi (z := 5) (v := (-1)) rfl rfl rfl (by decide) rfl rfl (hc_1) ?_
              refine q_iconst rfl ?_
              refine v_ic_ne_f (t := 12) rfl (by decide) (by decide) ?_
              refine q_iconst rfl ?_
              refine q_goto (t := 13) rfl (by decide) ?_
              refine v_zret rfl rfl (by decide) ?_
              refine bk_inl ?_
              refine v_if_eq_f (t := 67) rfl (by decide) (by decide) ?_
              refine q_aload_n rfl rfl ?_
              have kn_274 : Hid (c2 41 3 = e1) := (hFc 41 3 (fun q => q.elim (fun h => absurd h.2 (ni rfl)) (fun q => q.elim (fun h => absurd h.2 (ni rfl)) (fun q => q.elim (fun h => absurd h.2 (ni rfl)) (fun q => q.elim (fun h => absurd h.2 (ni rfl)) (fun q => q.elim (fun h => absurd h.2 (ni rfl)) (fun q => q.elim (fun h => absurd h (nn rfl)) (fun h => absurd h (nn rfl))))))))).trans (hr_e1)
              have h_275 : -2147483648 ≤ (H (nx F e1 a)) ∧ (H (nx F e1 a)) ≤ 2147483647 := by rw [← hH (nx F e1 a)]; exact ir_43 hI (nx F e1 a)
              have h_276 := hU (nx F e1 a) (by omega) (by omega)
              have h_277 := hb_or (b := H) (e := e1) (r := (nx F e1 a))
              have h_278 := hb_bd (b := H) (e := e1) (r := (nx F e1 a)) (lo := -2147483648) (hi := 2147483647) h_275 (by decide)
              refine v_cv rfl rfl rfl rfl (by decide) ⟨⟨rfl, rfl⟩, by decide, rfl⟩ (Nat.le_of_ble_eq_true rfl) (Nat.le_of_ble_eq_true rfl) (f_154 (e1 := e1) (a9 := a) (B := H) (r8 := (nx F e1 a)) (r := (hb H e1 (nx F e1 a))) hI2 ((hid kn_274)) ((hr_a)) (fun j => (hFc 43 j (fun q => q.elim (fun h => absurd h.1 (nn rfl)) (fun q => q.elim (fun h => absurd h.1 (nn rfl)) (fun q => q.elim (fun h => absurd h.1 (nn rfl)) (fun q => q.elim (fun h => absurd h.1 (nn rfl)) (fun q => q.elim (fun h => absurd h.1 (nn rfl)) (fun q => q.elim (fun h => absurd h (nn rfl)) (fun h => absurd h (nn rfl))))))))).trans (hH j)) ((nx_tr hU (by first | (clear ha2 hq0 hq1 hq2 hq3 hq4 hq5 h_1 h_2 h_3 h_4 h_5 h_6 h_7 h_8 h_9 h_10 h_11 h_12 h_13 h_14 h_15 h_16 h_60 h_61 h_62 h_67 h_84 h_269 h_270 h_63; omega) | omega) (by first | (clear ha2 hq0 hq1 hq2 hq3 hq4 h_1 h_2 h_3 h_4 h_5 h_6 h_7 h_8 h_9 h_10 h_11 h_12 h_13 h_14 h_15 h_16 h_60 h_61 h_62 h_67 h_84 h_269 h_270 h_63; omega) | omega)).trans (rfl)) rfl (fun c_279 hI_280 hF_281 h_282 => ?_))
              refine bk_inl ?_
              refine v_bip rfl (by decide) ?_
              refine v_ic_eq_t (t := 29) rfl (by decide) (by first | (clear ha2 hq0 hq1 hq2 hq3 h_3 h_4 h_5 h_6 h_7 h_8 h_9 h_10 h_11 h_12 h_13 h_14 h_15 h_60 h_62 h_84 h_269 h_270; omega) | omega) ?_
              refine q_aload_n rfl rfl ?_
              have kn_283 : Hid (c_279 41 3 = e1) := (hF_281 41 3 (fun h => absurd h.2 (ni rfl))).trans (hid kn_274)
              refine v_cv rfl rfl rfl rfl (by decide) ⟨⟨rfl, rfl⟩, by decide, rfl⟩ (Nat.le_of_ble_eq_true rfl) (Nat.le_of_ble_eq_true rfl) (f_154 (e1 := e1) (a9 := (nx F e1 a)) (B := H) (r8 := (nx F e1 a)) (r := (hb H e1 (nx F e1 a))) hI_280 ((hid kn_283)) ((h_282)) (fun j => ((hF_281 43 j (fun h => absurd h.1 (nn rfl))).trans (hFc 43 j (fun q => q.elim (fun h => absurd h.1 (nn rfl)) (fun q => q.elim (fun h => absurd h.1 (nn rfl)) (fun q => q.elim (fun h => absurd h.1 (nn rfl)) (fun q => q.elim (fun h => absurd h.1 (nn rfl)) (fun q => q.elim (fun h => absurd h.1 (nn rfl)) (fun q => q.elim (fun h => absurd h (nn rfl)) (fun h => absurd h (nn rfl)))))))))).trans (hH j)) ((nx_tr hU (by first | (clear ha2 hq0 hq1 hq2 hq3 hq4 hq5 h_1 h_2 h_3 h_4 h_5 h_6 h_7 h_8 h_9 h_10 h_11 h_12 h_13 h_14 h_15 h_16 h_60 h_62 h_67 h_84 h_269 h_270 h_275 h_276 h_278 h_63 h_277; omega) | omega) (by first | (clear ha2 hq0 hq1 hq2 hq3 hq4 h_1 h_2 h_3 h_4 h_5 h_6 h_7 h_8 h_9 h_10 h_11 h_12 h_13 h_14 h_15 h_16 h_60 h_61 h_62 h_67 h_84 h_269 h_270 h_275 h_276 h_278 h_63 h_277; omega) | omega)).trans ((nx_z (by omega)))) rfl (fun c_284 hI_285 hF_286 h_287 => ?_))
              refine bk_inl ?_
              refine v_bip rfl (by decide) ?_
              refine v_ic_ne_f (t := 42) rfl (by decide) (by first | (clear ha2 hq0 hq1 hq2 hq3 h_3 h_4 h_5 h_6 h_7 h_8 h_9 h_10 h_11 h_12 h_13 h_14 h_15 h_60 h_62 h_84 h_269 h_270; omega) | omega) ?_
              refine q_iconst rfl ?_
              refine q_goto (t := 43) rfl (by decide) ?_
              refine q_istore_n rfl (by decide) ?_
              refine q_aload_n rfl rfl ?_
              refine q_dup rfl rfl ?_
              refine v_gi (z := 4) (v := (nx F e1 a)) rfl rfl rfl (by decide) rfl rfl (h_287) ?_
              refine q_iconst rfl ?_
              refine v_iadd (v := (nx F e1 a) + 1) rfl rfl ?_
              refine v_pi (z := 4) rfl rfl rfl (by decide) rfl rfl rfl (by decide) ?_
              refine q_aload_n rfl rfl ?_
              have kn_288 : Hid (c_279 41 5 = (-1)) := (hF_281 41 5 (fun h => absurd h.2 (ni rfl))).trans (hc_1)
              have kn_289 : Hid (c_284 41 5 = (-1)) := (hF_286 41 5 (fun h => absurd h.2 (ni rfl))).trans (hid kn_288)
              have hI_290 := iw_41_4 (v := (nx F e1 a) + 1) hI_285 ⟨by first | exact rgp_l (rg_be h_61 (ha.1) ((rg_eq hg_e1 h_1).2)).1 (by decide) | omega, by first | exact rgp_h (rg_be h_61 (ha.1) ((rg_eq hg_e1 h_1).2)).2 (by decide) | omega⟩
              have kn_291 : Hid (c_64 1 1 = e1) := (hF_66 1 1 (fun h => absurd h.2 (ni rfl))).trans (hid kn_59)
              have kn_292 : Hid (c_284 41 3 = e1) := (hF_286 41 3 (fun h => absurd h.2 (ni rfl))).trans (hid kn_283)
              have kn_293 : Hid (c_64 1 5 = (-1)) := (hF_66 1 5 (fun h => absurd h.2 (ni rfl))).trans (hc_2)
              have kn_294 : Hid (c_64 (A + 7) 5 = nw) := (hF_66 (A + 7) 5 (fun h => absurd h.1 (np hA rfl rfl))).trans (hg_nw)
              have kn_295 : Hid (c_279 41 29 = nw) := (hF_281 41 29 (fun h => absurd h.2 (ni rfl))).trans (hr_nw)
              have kn_296 : Hid (c_284 41 29 = nw) := (hF_286 41 29 (fun h => absurd h.2 (ni rfl))).trans (hid kn_295)
              have kn_297 : Hid (c_279 41 7 = a2) := (hF_281 41 7 (fun h => absurd h.2 (ni rfl))).trans (hc_3)
              have kn_298 : Hid (c_284 41 7 = a2) := (hF_286 41 7 (fun h => absurd h.2 (ni rfl))).trans (hid kn_297)
              have h_299 : c_64 1 4 = 0 := (hid kn_79)
              have h_300 : c_64 1 2 = (nx F e1 a) + 1 := (hz_68)
              have h_301 : c_64 1 5 = (-1) := (hid kn_293)
              have h_302 : (up c_284 41 4 ((nx F e1 a) + 1)) 41 5 = (-1) := ((up_n (by decide)).trans (hid kn_289))
              have h_303 : (up c_284 41 4 ((nx F e1 a) + 1)) 41 4 = (nx F e1 a) + 1 := (up_e rfl)
              have h_304 := ir_41_6 hI2
              have kn_305 : Hid (c_279 41 6 = c2 41 6) := hF_281 41 6 (fun h => absurd h.2 (ni rfl))
              have kn_306 : Hid (c_284 41 6 = c2 41 6) := (hF_286 41 6 (fun h => absurd h.2 (ni rfl))).trans (hid kn_305)
              have h_307 : (up c_284 41 4 ((nx F e1 a) + 1)) 41 6 = c2 41 6 := ((up_n (by decide)).trans (hid kn_306))
              have hA_308 : Ce nw (c_64 (A + 9)) ((up c_284 41 4 ((nx F e1 a) + 1)) 50) ((up c_284 41 4 ((nx F e1 a) + 1)) 51) := ce_fr hrl0 (fun j => hF_66 (A + 9) j (fun h => absurd h.1 (np hA rfl rfl))) (fun j => (up_c (nn rfl)).trans ((hF_286 50 j (fun h => absurd h.1 (nn rfl))).trans (hF_281 50 j (fun h => absurd h.1 (nn rfl))))) (fun j => (up_c (nn rfl)).trans ((hF_286 51 j (fun h => absurd h.1 (nn rfl))).trans (hF_281 51 j (fun h => absurd h.1 (nn rfl)))))
              refine v_cv rfl rfl rfl rfl (by decide) ⟨⟨rfl, rfl⟩, by decide, rfl⟩ (Nat.le_of_ble_eq_true rfl) (Nat.le_of_ble_eq_true rfl) (L_12 (m := c_64) (a2 := a2) (e1 := e1) (f0 := 0) (g0 := (-1)) (p0 := (nx F e1 a) + 1) (n0 := nw) (o0 := a2) (F := F) (H := H) hI_290 hI_65 hI_81 hA (show 0 ≤ a2 ∧ a2 ≤ 6 from ha2) (by first | (clear ha2 hq0 hq1 hq2 hq3 hq4 hq5 h_1 h_2 h_3 h_4 h_5 h_6 h_7 h_8 h_9 h_10 h_11 h_12 h_13 h_14 h_15 h_16 h_60 h_61 h_62 h_67 h_84 h_269 h_270 h_275 h_276 h_278 h_63 h_277; omega) | omega) (by first | (clear ha2 hq0 hq1 hq2 hq3 hq4 hq5 h_1 h_2 h_3 h_4 h_5 h_6 h_7 h_8 h_9 h_10 h_11 h_12 h_13 h_14 h_15 h_16 h_60 h_61 h_62 h_67 h_84 h_269 h_270 h_275 h_276 h_278 h_63 h_277; omega) | omega) (by first | (clear ha2 hq0 hq1 hq2 hq3 hq4 hq5 h_1 h_2 h_3 h_4 h_5 h_6 h_7 h_8 h_9 h_10 h_11 h_12 h_13 h_14 h_15 h_16 h_60 h_61 h_62 h_67 h_84 h_269 h_270 h_275 h_276 h_278 h_63 h_277; omega) | omega) (by first | (clear ha2 hq0 hq1 hq2 hq4 hq5 h_1 h_2 h_3 h_4 h_5 h_6 h_7 h_8 h_9 h_10 h_11 h_12 h_13 h_14 h_15 h_60 h_62 h_67 h_84 h_269 h_270 h_275 h_276 h_278 h_63 h_277; omega) | omega) (by first | (clear ha2 hq0 hq1 hq2 hq3 hq4 hq5 h_1 h_2 h_3 h_4 h_5 h_6 h_7 h_8 h_9 h_10 h_11 h_12 h_13 h_14 h_15 h_16 h_60 h_61 h_62 h_84 h_269 h_270 h_275 h_276 h_278 h_63 h_277; omega) | omega) (by first | (clear ha2 hq0 hq1 hq2 hq3 hq4 h_1 h_2 h_3 h_4 h_5 h_6 h_7 h_8 h_9 h_10 h_11 h_12 h_13 h_14 h_15 h_16 h_60 h_61 h_62 h_67 h_84 h_269 h_270 h_275 h_276 h_278 h_63 h_277; omega) | omega) ((hid kn_291)) (((up_n (by decide)).trans (hid kn_292))) ((hid kn_79)) ((hid kn_293)) ((hz_68)) ((hid kn_294)) (((up_n (by decide)).trans (hid kn_296))) (((up_n (by decide)).trans (hid kn_298))) (fun j => ((hF_66 2 j (fun h => absurd h.1 (nn rfl))).trans (hFm 2 j (fun q => q.elim (fun h => absurd h.1 (nn rfl)) (fun q => q.elim (fun h => absurd h.1 (nn rfl)) (fun q => q.elim (fun h => absurd h.1 (nn rfl)) (fun q => q.elim (fun h => absurd h.1 (pn hA rfl rfl)) (fun h => absurd h (pn hA rfl rfl)))))))).trans (hF j)) (fun j => ((up_c (nn rfl)).trans ((hF_286 43 j (fun h => absurd h.1 (nn rfl))).trans ((hF_281 43 j (fun h => absurd h.1 (nn rfl))).trans (hFc 43 j (fun q => q.elim (fun h => absurd h.1 (nn rfl)) (fun q => q.elim (fun h => absurd h.1 (nn rfl)) (fun q => q.elim (fun h => absurd h.1 (nn rfl)) (fun q => q.elim (fun h => absurd h.1 (nn rfl)) (fun q => q.elim (fun h => absurd h.1 (nn rfl)) (fun q => q.elim (fun h => absurd h (nn rfl)) (fun h => absurd h (nn rfl)))))))))))).trans (hH j)) hU (rt_i1 ⟨by first | (clear ha2 hq0 hq1 hq2 hq3 hq4 hq5 h_1 h_2 h_3 h_4 h_5 h_6 h_7 h_8 h_9 h_10 h_11 h_12 h_13 h_14 h_15 h_16 h_60 h_61 h_62 h_67 h_84 h_269 h_270 h_275 h_276 h_278 h_304 h_63 h_277; omega) | omega, by first | (clear ha2 hq0 hq1 hq2 hq3 hq4 hq5 h_1 h_2 h_3 h_4 h_5 h_6 h_7 h_8 h_9 h_10 h_11 h_12 h_13 h_14 h_15 h_16 h_60 h_61 h_62 h_67 h_84 h_269 h_270 h_275 h_276 h_278 h_304 h_63 h_277; omega) | omega, by first | (clear ha2 hq0 hq1 hq2 hq3 hq4 hq5 h_1 h_2 h_3 h_4 h_5 h_6 h_7 h_8 h_9 h_10 h_11 h_12 h_13 h_14 h_15 h_16 h_60 h_61 h_62 h_67 h_84 h_269 h_270 h_275 h_276 h_278 h_304 h_63 h_277; omega) | omega, by first | (clear ha2 hq0 hq1 hq2 hq3 hq4 hq5 h_1 h_2 h_3 h_4 h_5 h_6 h_7 h_8 h_9 h_10 h_11 h_12 h_13 h_14 h_15 h_16 h_60 h_61 h_62 h_67 h_84 h_269 h_270 h_275 h_276 h_278 h_304 h_63 h_277; omega) | omega⟩) (ce_le hA_308 (by omega)) H13 hG_83 (fun c_309 hI_310 hF_311 hR_313 h_314 h_315 hA_316 => ?_))
              refine bk_inl ?_
              have h_317 := ir_41_29 hI_310
              have h_318 := ir_1_2 hI_81
              have h_319 := ir_41_7 hI_310
              refine q_aload_n rfl rfl ?_
              refine q_iload_n rfl rfl ?_
              refine q_iconst rfl ?_
              refine v_cv rfl rfl rfl rfl (by decide) ⟨⟨rfl, rfl⟩, by decide, rfl⟩ (Nat.le_of_ble_eq_true rfl) (Nat.le_of_ble_eq_true rfl) ?_
              refine q_aload_n rfl rfl ?_
              refine v_cv rfl rfl rfl rfl (by decide) ⟨⟨rfl, rfl⟩, by decide, rfl⟩ (Nat.le_of_ble_eq_true rfl) (Nat.le_of_ble_eq_true rfl) ?_
              refine q_aload_n rfl rfl ?_
              have h_320 := ir_41_5 hI_310
              have h_321 := ir_1_5 hI_81
              have h_322 := ir_41_4 hI_310
              have h_323 := ir_41_6 hI_310
              have h_324 := rt_ok hR_313 (by omega)
              have hro_hR_313 := rt_ok hR_313 (by omega)
              refine v_gi (z := 5) (v := (-1)) rfl rfl rfl (by decide) rfl rfl hro_hR_313.2.1 ?_
              refine q_iconst rfl ?_
              refine v_ic_ne_f (t := 12) rfl (by decide) (by decide) ?_
              refine q_iconst rfl ?_
              refine q_goto (t := 13) rfl (by decide) ?_
              refine v_zret rfl rfl (by decide) ?_
              refine bk_inl ?_
              refine v_if_ne_t (t := 8) rfl (by decide) (by decide) ?_
              refine q_aload_n rfl rfl ?_
              refine v_gr (t := 50) rfl rfl rfl (by decide) rfl ?_
              refine q_aload_n rfl rfl ?_
              refine v_gi (z := 29) (v := c_309 41 29) rfl rfl rfl (by decide) rfl rfl rfl ?_
              refine q_iload_n rfl rfl ?_
              refine v_is rfl rfl (by decide) (by decide) (by omega) ?_
              refine q_aload_n rfl rfl ?_
              refine v_gr (t := 51) rfl rfl rfl (by decide) rfl ?_
              refine q_aload_n rfl rfl ?_
              refine v_gi (z := 29) (v := c_309 41 29) rfl rfl rfl (by decide) rfl rfl (up_c (nn rfl)) ?_
              refine q_iload_n rfl rfl ?_
              refine v_is rfl rfl (by decide) (by decide) (by omega) ?_
              refine q_aload_n rfl rfl ?_
              refine q_dup rfl rfl ?_
              refine v_gi (z := 29) (v := c_309 41 29) rfl rfl rfl (by decide) rfl rfl ((up_c (nn rfl)).trans (up_c (nn rfl))) ?_
              refine q_iconst rfl ?_
              refine v_iadd (v := c_309 41 29 + 1) rfl rfl ?_
              refine v_pi (z := 29) rfl rfl rfl (by decide) rfl rfl rfl (by decide) ?_
              refine q_vret rfl rfl ?_
              refine bk_inl ?_
              refine q_goto (t := 4) rfl (by decide) ?_
              have hI_325 := iw_50 (j := c_309 41 29) (v := 2) hI_310 ⟨by decide, by decide⟩
              have hI_326 := iw_51 (j := c_309 41 29) (v := 0) hI_325 ⟨by decide, by decide⟩
              have hI_327 := iw_41_29 (v := c_309 41 29 + 1) hI_326 ⟨by first | exact rgp_l h_317.1 (by decide) | omega, by first | (clear ha2 hq0 hq1 hq2 hq3 h_3 h_4 h_5 h_6 h_7 h_8 h_9 h_10 h_13 h_14 h_15 h_60 h_62 h_275 h_276 h_278 h_304 h_319 h_315 h_320 h_321 h_322 h_323; omega) | omega⟩
              refine Wp_ls [(0, .ref 41)] (lsub_cons rfl lsub_nil) ?_
              have hA_328 : Ce (c_309 41 29 + 1) ((up (up c_80 (A + 9) (c_80 (A + 7) 5) 2000) (A + 7) 5 (c_80 (A + 7) 5 + 1)) (A + 9)) ((up (up (up c_309 50 (c_309 41 29) 2) 51 (c_309 41 29) 0) 41 29 (c_309 41 29 + 1)) 50) ((up (up (up c_309 50 (c_309 41 29) 2) 51 (c_309 41 29) 0) 41 29 (c_309 41 29 + 1)) 51) := ce_w (i := c_80 (A + 7) 5) (v := 2000) (w := 2) (o := 0) (hA_316 (by omega)) (by omega) ((up_c (pp rfl)).trans (up_e rfl)) ((up_c (nn rfl)).trans ((up_c (nn rfl)).trans (up_e (by omega)))) ((up_c (nn rfl)).trans (up_e (by omega))) (fun j hj => (up_c (pp rfl)).trans (up_n hj)) (fun j hj => (up_c (nn rfl)).trans ((up_c (nn rfl)).trans (up_n (by omega)))) (fun j hj => (up_c (nn rfl)).trans ((up_n (by omega)).trans (up_c (nn rfl)))) (cr_i2 ⟨by decide, by decide, by decide, by decide⟩)
              have hA_329 : Ce (c_80 (A + 7) 5 + 1) ((up (up c_80 (A + 9) (c_80 (A + 7) 5) 2000) (A + 7) 5 (c_80 (A + 7) 5 + 1)) (A + 9)) ((up (up (up c_309 50 (c_309 41 29) 2) 51 (c_309 41 29) 0) 41 29 (c_309 41 29 + 1)) 50) ((up (up (up c_309 50 (c_309 41 29) 2) 51 (c_309 41 29) 0) 41 29 (c_309 41 29 + 1)) 51) := ce_le hA_328 (by omega)
              exact ih (up (up (up c_309 50 (c_309 41 29) 2) 51 (c_309 41 29) 0) 41 29 (c_309 41 29 + 1)) (up (up c_80 (A + 9) (c_80 (A + 7) 5) 2000) (A + 7) 5 (c_80 (A + 7) 5 + 1)) (v + 1) (c_80 1 2) (c_80 (A + 7) 5 + 1) hI_327 (fun a j hm => (up_b (Decidable.or_iff_not_imp_left.mpr (fun h1 h2 => hm (Or.inr (Or.inr (Or.inr (Or.inr (Or.inl ⟨Decidable.not_not.mp h1, h2⟩)))))))).trans ((up_b (Decidable.or_iff_not_imp_left.mpr (fun h1 h2 => hm (Or.inr (Or.inr (Or.inr (Or.inr (Or.inr (Or.inr (Decidable.not_not.mp h1)))))))))).trans ((up_b (Decidable.or_iff_not_imp_left.mpr (fun h1 h2 => hm (Or.inr (Or.inr (Or.inr (Or.inr (Or.inr (Or.inl (Decidable.not_not.mp h1)))))))))).trans ((hF_311 a j (fun q => q.elim (fun h => hm (Or.inl h)) (fun q => q.elim (fun h => hm (Or.inr (Or.inl h))) (fun q => q.elim (fun h => hm (Or.inr (Or.inr (Or.inl h)))) (fun q => q.elim (fun h => hm (Or.inr (Or.inr (Or.inr (Or.inl h))))) (fun q => q.elim (fun h => hm (Or.inr (Or.inr (Or.inr (Or.inr (Or.inl h)))))) (fun q => q.elim (fun h => hm (Or.inr (Or.inr (Or.inr (Or.inr (Or.inr (Or.inl h))))))) (fun h => hm (Or.inr (Or.inr (Or.inr (Or.inr (Or.inr (Or.inr h)))))))))))))).trans ((up_b (Decidable.or_iff_not_imp_left.mpr (fun h1 h2 => hm (Or.inl ⟨Decidable.not_not.mp h1, h2⟩)))).trans ((hF_286 a j (fun h => hm (Or.inl h))).trans ((hF_281 a j (fun h => hm (Or.inl h))).trans (hFc a j (fun q => q.elim (fun h => hm (Or.inl h)) (fun q => q.elim (fun h => hm (Or.inr (Or.inl h))) (fun q => q.elim (fun h => hm (Or.inr (Or.inr (Or.inl h)))) (fun q => q.elim (fun h => hm (Or.inr (Or.inr (Or.inr (Or.inl h))))) (fun q => q.elim (fun h => hm (Or.inr (Or.inr (Or.inr (Or.inr (Or.inl h)))))) (fun q => q.elim (fun h => hm (Or.inr (Or.inr (Or.inr (Or.inr (Or.inr (Or.inl h))))))) (fun h => hm (Or.inr (Or.inr (Or.inr (Or.inr (Or.inr (Or.inr h))))))))))))))))))))) hI_272 (fun a j hm => (up_b (Decidable.or_iff_not_imp_left.mpr (fun h1 h2 => hm (Or.inr (Or.inr (Or.inr (Or.inl ⟨Decidable.not_not.mp h1, h2⟩))))))).trans ((up_b (Decidable.or_iff_not_imp_left.mpr (fun h1 h2 => hm (Or.inr (Or.inr (Or.inr (Or.inr (Decidable.not_not.mp h1)))))))).trans ((hF_82 a j (fun q => q.elim (fun h => hm (Or.inl h)) (fun q => q.elim (fun h => hm (Or.inr (Or.inl h))) (fun q => q.elim (fun h => hm (Or.inr (Or.inr (Or.inl h)))) (fun q => q.elim (fun h => hm (Or.inr (Or.inr (Or.inr (Or.inl h))))) (fun h => hm (Or.inr (Or.inr (Or.inr (Or.inr h)))))))))).trans ((hF_66 a j (fun h => hm (Or.inl h))).trans (hFm a j (fun q => q.elim (fun h => hm (Or.inl h)) (fun q => q.elim (fun h => hm (Or.inr (Or.inl h))) (fun q => q.elim (fun h => hm (Or.inr (Or.inr (Or.inl h)))) (fun q => q.elim (fun h => hm (Or.inr (Or.inr (Or.inr (Or.inl h))))) (fun h => hm (Or.inr (Or.inr (Or.inr (Or.inr h)))))))))))))) ⟨by omega, by omega⟩ ⟨by omega, by omega⟩ ⟨by omega, by omega⟩ (((up_c (pn hA rfl rfl)).trans (up_c (pn hA rfl rfl)))) (((((up_n (by decide)).trans ((up_c (nn rfl)).trans (up_c (nn rfl))))).trans (hro_hR_313.2.2.1))) ((up_e rfl)) ((show _ = c_309 41 29 + 1 from (up_e rfl)).trans (by omega)) ((show _ = c_80 1 4 from ((up_c (pn hA rfl rfl)).trans (up_c (pn hA rfl rfl)))).trans (by omega)) (((((up_n (by decide)).trans ((up_c (nn rfl)).trans (up_c (nn rfl))))).trans (hro_hR_313.2.1))) ((show _ = c_80 1 5 from ((up_c (pn hA rfl rfl)).trans (up_c (pn hA rfl rfl)))).trans (by omega)) ((show _ = c_309 41 7 from ((up_n (by decide)).trans ((up_c (nn rfl)).trans (up_c (nn rfl))))).trans (by omega)) (by first | (clear hq0 hq1 h_3 h_4 h_8 h_13 h_14 h_15 h_60 h_62 h_275 h_276 h_278 h_304 h_319 h_323; omega) | omega) (by first | (clear hq0 hq1 h_3 h_4 h_8 h_13 h_14 h_15 h_60 h_62 h_275 h_276 h_278 h_304 h_319 h_323; omega) | omega) (by first | (clear ha2 hq0 hq1 hq2 hq3 h_3 h_4 h_5 h_6 h_7 h_8 h_9 h_10 h_11 h_12 h_13 h_14 h_15 h_60 h_62 h_84 h_269 h_270 h_275 h_276 h_278 h_304 h_317 h_319 h_315 h_320 h_321 h_322 h_323; omega) | omega) (by first | (clear hq0 hq1 h_3 h_4 h_8 h_13 h_14 h_15 h_60 h_62 h_275 h_276 h_278 h_304 h_319 h_323; omega) | omega) (ce_le hA_329 (by omega)) hG_273 (by omega)
            · skip
              refine q_iload_n rfl rfl ?_
              refine v_sip rfl (by decide) ?_
              by_cases h_330 : v + 1 ≥ 150
              · refine v_ic_ge_t (t := 59) rfl (by decide) ⟨by decide, h_330, by first | exact rgp_h hv.2 (by decide) | omega⟩ ?_
                refine q_vret rfl rfl ?_
                have hI_331 := iw_lg (j := c_80 (A + 7) 5) (v := 2000) hI_81 (lgp (k := 9) hA (by decide)) ⟨by decide, by decide⟩ (by omega)
                have hI_332 := iw_p7_5 (v := c_80 (A + 7) 5 + 1) hI_331 hA ⟨by first | exact rgp_l h_84.1 (by decide) | omega, by first | (clear ha2 hq0 hq1 hq2 hq3 hq4 hq5 h_1 h_2 h_3 h_4 h_5 h_6 h_7 h_8 h_9 h_10 h_11 h_12 h_13 h_14 h_15 h_16 h_60 h_61 h_62 h_67 h_84 h_269 h_330 h_63; omega) | omega⟩
                intro hE_333
                have hW : Wd P Q P P (up (up c_80 (A + 9) (c_80 (A + 7) 5) 2000) (A + 7) 5 (c_80 (A + 7) 5 + 1)) = Wd P Q P P m9 := (Prod.mk.inj (Prod.mk.inj hE_333).2).1
                have h_334 := ir_1_4 hJ9
                have h_335 : m9 1 4 = c_80 1 4 := wd_fv (z := 4) 4 rfl hW rfl rfl rfl rfl (by decide) ((up_c (pn hA rfl rfl)).trans (up_c (pn hA rfl rfl))) ⟨(Int.le_trans (by decide) h_269.1), (Int.le_trans h_269.2 (by decide))⟩ ⟨(Int.le_trans (by decide) h_334.1), (Int.le_trans h_334.2 (by decide))⟩
                have h_336 := ir_1_2 hI_81
                have h_337 := ir_1_2 hJ9
                have h_338 : m9 1 2 = c_80 1 2 := wd_fv (z := 2) 2 rfl hW rfl rfl rfl rfl (by decide) ((up_c (pn hA rfl rfl)).trans (up_c (pn hA rfl rfl))) ⟨(Int.le_trans (by decide) h_336.1), (Int.le_trans h_336.2 (by decide))⟩ ⟨(Int.le_trans (by decide) h_337.1), (Int.le_trans h_337.2 (by decide))⟩
                have h_339 := ir_1_5 hI_81
                have h_340 := ir_1_5 hJ9
                have h_341 : m9 1 5 = c_80 1 5 := wd_fv (z := 5) 5 rfl hW rfl rfl rfl rfl (by decide) ((up_c (pn hA rfl rfl)).trans (up_c (pn hA rfl rfl))) ⟨(Int.le_trans (by decide) h_339.1), (Int.le_trans h_339.2 (by decide))⟩ ⟨(Int.le_trans (by decide) h_340.1), (Int.le_trans h_340.2 (by decide))⟩
                have h_342 := ir_p7_5 hJ9 hA
                have h_343 : m9 (A + 7) 5 = c_80 (A + 7) 5 + 1 := wd_fv (z := 5) 5 rfl hW (ck_p7 hA) (ck_p7 hA) rfl rfl (by omega) (up_e rfl) ⟨by first | exact rgp_l h_84.1 (by decide) | omega, by first | exact rgp_h h_84.2 (by decide) | omega⟩ ⟨(Int.le_trans (by decide) h_342.1), (Int.le_trans h_342.2 (by decide))⟩
                refine q_aload_n rfl rfl ?_
                refine v_cv rfl rfl rfl rfl (by decide) ⟨⟨rfl, rfl⟩, by decide, rfl⟩ (Nat.le_of_ble_eq_true rfl) (Nat.le_of_ble_eq_true rfl) ?_
                refine q_aload_n rfl rfl ?_
                refine v_gi (z := 5) (v := (-1)) rfl rfl rfl (by decide) rfl rfl (hc_1) ?_
                refine q_iconst rfl ?_
                refine v_ic_ne_f (t := 12) rfl (by decide) (by decide) ?_
                refine q_iconst rfl ?_
                refine q_goto (t := 13) rfl (by decide) ?_
                refine v_zret rfl rfl (by decide) ?_
                refine bk_inl ?_
                refine v_if_eq_f (t := 67) rfl (by decide) (by decide) ?_
                refine q_aload_n rfl rfl ?_
                have kn_344 : Hid (c2 41 3 = e1) := (hFc 41 3 (fun q => q.elim (fun h => absurd h.2 (ni rfl)) (fun q => q.elim (fun h => absurd h.2 (ni rfl)) (fun q => q.elim (fun h => absurd h.2 (ni rfl)) (fun q => q.elim (fun h => absurd h.2 (ni rfl)) (fun q => q.elim (fun h => absurd h.2 (ni rfl)) (fun q => q.elim (fun h => absurd h (nn rfl)) (fun h => absurd h (nn rfl))))))))).trans (hr_e1)
                have h_345 : -2147483648 ≤ (H (nx F e1 a)) ∧ (H (nx F e1 a)) ≤ 2147483647 := by rw [← hH (nx F e1 a)]; exact ir_43 hI (nx F e1 a)
                have h_346 := hU (nx F e1 a) (by omega) (by omega)
                have h_347 := hb_or (b := H) (e := e1) (r := (nx F e1 a))
                have h_348 := hb_bd (b := H) (e := e1) (r := (nx F e1 a)) (lo := -2147483648) (hi := 2147483647) h_345 (by decide)
                refine v_cv rfl rfl rfl rfl (by decide) ⟨⟨rfl, rfl⟩, by decide, rfl⟩ (Nat.le_of_ble_eq_true rfl) (Nat.le_of_ble_eq_true rfl) (f_154 (e1 := e1) (a9 := a) (B := H) (r8 := (nx F e1 a)) (r := (hb H e1 (nx F e1 a))) hI2 ((hid kn_344)) ((hr_a)) (fun j => (hFc 43 j (fun q => q.elim (fun h => absurd h.1 (nn rfl)) (fun q => q.elim (fun h => absurd h.1 (nn rfl)) (fun q => q.elim (fun h => absurd h.1 (nn rfl)) (fun q => q.elim (fun h => absurd h.1 (nn rfl)) (fun q => q.elim (fun h => absurd h.1 (nn rfl)) (fun q => q.elim (fun h => absurd h (nn rfl)) (fun h => absurd h (nn rfl))))))))).trans (hH j)) ((nx_tr hU (by first | (clear ha2 hq0 hq1 hq2 hq3 hq4 hq5 h_1 h_2 h_3 h_4 h_5 h_6 h_7 h_8 h_9 h_10 h_11 h_12 h_13 h_14 h_15 h_60 h_61 h_62 h_67 h_84 h_269 h_334 h_335 h_336 h_337 h_338 h_339 h_340 h_341 h_342 h_343 h_63; omega) | omega) (by first | (clear ha2 hq0 hq1 hq2 hq3 hq4 h_1 h_2 h_3 h_4 h_5 h_6 h_7 h_8 h_9 h_10 h_11 h_12 h_13 h_14 h_15 h_16 h_60 h_61 h_62 h_67 h_84 h_269 h_330 h_334 h_335 h_336 h_337 h_338 h_339 h_340 h_341 h_342 h_343 h_63; omega) | omega)).trans (rfl)) rfl (fun c_349 hI_350 hF_351 h_352 => ?_))
                refine bk_inl ?_
                refine v_bip rfl (by decide) ?_
                refine v_ic_eq_t (t := 29) rfl (by decide) (by first | (clear ha2 hq0 hq1 hq2 hq3 h_3 h_4 h_5 h_6 h_7 h_8 h_9 h_10 h_11 h_12 h_13 h_14 h_15 h_60 h_62 h_84 h_269 h_330 h_334 h_335 h_336 h_337 h_338 h_339 h_340 h_341 h_342 h_343; omega) | omega) ?_
                refine q_aload_n rfl rfl ?_
                have kn_353 : Hid (c_349 41 3 = e1) := (hF_351 41 3 (fun h => absurd h.2 (ni rfl))).trans (hid kn_344)
                refine v_cv rfl rfl rfl rfl (by decide) ⟨⟨rfl, rfl⟩, by decide, rfl⟩ (Nat.le_of_ble_eq_true rfl) (Nat.le_of_ble_eq_true rfl) (f_154 (e1 := e1) (a9 := (nx F e1 a)) (B := H) (r8 := (nx F e1 a)) (r := (hb H e1 (nx F e1 a))) hI_350 ((hid kn_353)) ((h_352)) (fun j => ((hF_351 43 j (fun h => absurd h.1 (nn rfl))).trans (hFc 43 j (fun q => q.elim (fun h => absurd h.1 (nn rfl)) (fun q => q.elim (fun h => absurd h.1 (nn rfl)) (fun q => q.elim (fun h => absurd h.1 (nn rfl)) (fun q => q.elim (fun h => absurd h.1 (nn rfl)) (fun q => q.elim (fun h => absurd h.1 (nn rfl)) (fun q => q.elim (fun h => absurd h (nn rfl)) (fun h => absurd h (nn rfl)))))))))).trans (hH j)) ((nx_tr hU (by first | (clear ha2 hq0 hq1 hq2 hq3 hq4 hq5 h_1 h_2 h_3 h_4 h_5 h_6 h_7 h_8 h_9 h_10 h_11 h_12 h_13 h_14 h_15 h_60 h_62 h_67 h_84 h_269 h_334 h_335 h_336 h_337 h_338 h_339 h_340 h_341 h_342 h_343 h_345 h_346 h_348 h_63 h_347; omega) | omega) (by first | (clear ha2 hq0 hq1 hq2 hq3 hq4 h_1 h_2 h_3 h_4 h_5 h_6 h_7 h_8 h_9 h_10 h_11 h_12 h_13 h_14 h_15 h_16 h_60 h_61 h_62 h_67 h_84 h_269 h_330 h_334 h_335 h_336 h_337 h_338 h_339 h_340 h_341 h_342 h_343 h_345 h_346 h_348 h_63 h_347; omega) | omega)).trans ((nx_z (by omega)))) rfl (fun c_354 hI_355 hF_356 h_357 => ?_))
                refine bk_inl ?_
                refine v_bip rfl (by decide) ?_
                refine v_ic_ne_f (t := 42) rfl (by decide) (by first | (clear ha2 hq0 hq1 hq2 hq3 h_3 h_4 h_5 h_6 h_7 h_8 h_9 h_10 h_11 h_12 h_13 h_14 h_15 h_60 h_62 h_84 h_269 h_330 h_334 h_335 h_336 h_337 h_338 h_339 h_340 h_341 h_342 h_343; omega) | omega) ?_
                refine q_iconst rfl ?_
                refine q_goto (t := 43) rfl (by decide) ?_
                refine q_istore_n rfl (by decide) ?_
                refine q_aload_n rfl rfl ?_
                refine q_dup rfl rfl ?_
                refine v_gi (z := 4) (v := (nx F e1 a)) rfl rfl rfl (by decide) rfl rfl (h_357) ?_
                refine q_iconst rfl ?_
                refine v_iadd (v := (nx F e1 a) + 1) rfl rfl ?_
                refine v_pi (z := 4) rfl rfl rfl (by decide) rfl rfl rfl (by decide) ?_
                refine q_aload_n rfl rfl ?_
                have kn_358 : Hid (c_349 41 5 = (-1)) := (hF_351 41 5 (fun h => absurd h.2 (ni rfl))).trans (hc_1)
                have kn_359 : Hid (c_354 41 5 = (-1)) := (hF_356 41 5 (fun h => absurd h.2 (ni rfl))).trans (hid kn_358)
                have hI_360 := iw_41_4 (v := (nx F e1 a) + 1) hI_355 ⟨by first | exact rgp_l (rg_be h_61 (ha.1) ((rg_eq hg_e1 h_1).2)).1 (by decide) | omega, by first | exact rgp_h (rg_be h_61 (ha.1) ((rg_eq hg_e1 h_1).2)).2 (by decide) | omega⟩
                have kn_361 : Hid (c_64 1 1 = e1) := (hF_66 1 1 (fun h => absurd h.2 (ni rfl))).trans (hid kn_59)
                have kn_362 : Hid (c_354 41 3 = e1) := (hF_356 41 3 (fun h => absurd h.2 (ni rfl))).trans (hid kn_353)
                have kn_363 : Hid (c_64 1 5 = (-1)) := (hF_66 1 5 (fun h => absurd h.2 (ni rfl))).trans (hc_2)
                have kn_364 : Hid (c_64 (A + 7) 5 = nw) := (hF_66 (A + 7) 5 (fun h => absurd h.1 (np hA rfl rfl))).trans (hg_nw)
                have kn_365 : Hid (c_349 41 29 = nw) := (hF_351 41 29 (fun h => absurd h.2 (ni rfl))).trans (hr_nw)
                have kn_366 : Hid (c_354 41 29 = nw) := (hF_356 41 29 (fun h => absurd h.2 (ni rfl))).trans (hid kn_365)
                have kn_367 : Hid (c_349 41 7 = a2) := (hF_351 41 7 (fun h => absurd h.2 (ni rfl))).trans (hc_3)
                have kn_368 : Hid (c_354 41 7 = a2) := (hF_356 41 7 (fun h => absurd h.2 (ni rfl))).trans (hid kn_367)
                have h_369 : c_64 1 4 = 0 := (hid kn_79)
                have h_370 : c_64 1 2 = (nx F e1 a) + 1 := (hz_68)
                have h_371 : c_64 1 5 = (-1) := (hid kn_363)
                have h_372 : (up c_354 41 4 ((nx F e1 a) + 1)) 41 5 = (-1) := ((up_n (by decide)).trans (hid kn_359))
                have h_373 : (up c_354 41 4 ((nx F e1 a) + 1)) 41 4 = (nx F e1 a) + 1 := (up_e rfl)
                have h_374 := ir_41_6 hI2
                have kn_375 : Hid (c_349 41 6 = c2 41 6) := hF_351 41 6 (fun h => absurd h.2 (ni rfl))
                have kn_376 : Hid (c_354 41 6 = c2 41 6) := (hF_356 41 6 (fun h => absurd h.2 (ni rfl))).trans (hid kn_375)
                have h_377 : (up c_354 41 4 ((nx F e1 a) + 1)) 41 6 = c2 41 6 := ((up_n (by decide)).trans (hid kn_376))
                have hA_378 : Ce nw (c_64 (A + 9)) ((up c_354 41 4 ((nx F e1 a) + 1)) 50) ((up c_354 41 4 ((nx F e1 a) + 1)) 51) := ce_fr hrl0 (fun j => hF_66 (A + 9) j (fun h => absurd h.1 (np hA rfl rfl))) (fun j => (up_c (nn rfl)).trans ((hF_356 50 j (fun h => absurd h.1 (nn rfl))).trans (hF_351 50 j (fun h => absurd h.1 (nn rfl))))) (fun j => (up_c (nn rfl)).trans ((hF_356 51 j (fun h => absurd h.1 (nn rfl))).trans (hF_351 51 j (fun h => absurd h.1 (nn rfl)))))
                refine v_cv rfl rfl rfl rfl (by decide) ⟨⟨rfl, rfl⟩, by decide, rfl⟩ (Nat.le_of_ble_eq_true rfl) (Nat.le_of_ble_eq_true rfl) (L_12 (m := c_64) (a2 := a2) (e1 := e1) (f0 := 0) (g0 := (-1)) (p0 := (nx F e1 a) + 1) (n0 := nw) (o0 := a2) (F := F) (H := H) hI_360 hI_65 hI_81 hA (show 0 ≤ a2 ∧ a2 ≤ 6 from ha2) (by first | (clear ha2 hq0 hq1 hq2 hq3 hq4 hq5 h_1 h_2 h_3 h_4 h_5 h_6 h_7 h_8 h_9 h_10 h_11 h_12 h_13 h_14 h_15 h_16 h_60 h_61 h_62 h_67 h_84 h_269 h_330 h_334 h_335 h_336 h_337 h_338 h_339 h_340 h_341 h_342 h_343 h_345 h_346 h_348 h_63 h_347; omega) | omega) (by first | (clear ha2 hq0 hq1 hq2 hq3 hq4 hq5 h_1 h_2 h_3 h_4 h_5 h_6 h_7 h_8 h_9 h_10 h_11 h_12 h_13 h_14 h_15 h_16 h_60 h_61 h_62 h_67 h_84 h_269 h_330 h_334 h_335 h_336 h_337 h_338 h_339 h_340 h_341 h_342 h_343 h_345 h_346 h_348 h_63 h_347; omega) | omega) (by first | (clear ha2 hq0 hq1 hq2 hq3 hq4 hq5 h_1 h_2 h_3 h_4 h_5 h_6 h_7 h_8 h_9 h_10 h_11 h_12 h_13 h_14 h_15 h_16 h_60 h_61 h_62 h_67 h_84 h_269 h_330 h_334 h_335 h_336 h_337 h_338 h_339 h_340 h_341 h_342 h_343 h_345 h_346 h_348 h_63 h_347; omega) | omega) (by first | (clear ha2 hq0 hq1 hq2 hq4 hq5 h_1 h_2 h_3 h_4 h_5 h_6 h_7 h_8 h_9 h_10 h_11 h_12 h_13 h_14 h_15 h_60 h_62 h_67 h_84 h_269 h_330 h_334 h_335 h_336 h_337 h_338 h_339 h_340 h_341 h_342 h_343 h_345 h_346 h_348 h_63 h_347; omega) | omega) (by first | (clear ha2 hq0 hq1 hq2 hq3 hq4 hq5 h_1 h_2 h_3 h_4 h_5 h_6 h_7 h_8 h_9 h_10 h_11 h_12 h_13 h_14 h_15 h_16 h_60 h_61 h_62 h_84 h_269 h_330 h_334 h_335 h_336 h_337 h_338 h_339 h_340 h_341 h_342 h_343 h_345 h_346 h_348 h_63 h_347; omega) | omega) (by first | (clear ha2 hq0 hq1 hq2 hq3 hq4 h_1 h_2 h_3 h_4 h_5 h_6 h_7 h_8 h_9 h_10 h_11 h_12 h_13 h_14 h_15 h_16 h_60 h_61 h_62 h_67 h_84 h_269 h_330 h_334 h_335 h_336 h_337 h_338 h_339 h_340 h_341 h_342 h_343 h_345 h_346 h_348 h_63 h_347; omega) | omega) ((hid kn_361)) (((up_n (by decide)).trans (hid kn_362))) ((hid kn_79)) ((hid kn_363)) ((hz_68)) ((hid kn_364)) (((up_n (by decide)).trans (hid kn_366))) (((up_n (by decide)).trans (hid kn_368))) (fun j => ((hF_66 2 j (fun h => absurd h.1 (nn rfl))).trans (hFm 2 j (fun q => q.elim (fun h => absurd h.1 (nn rfl)) (fun q => q.elim (fun h => absurd h.1 (nn rfl)) (fun q => q.elim (fun h => absurd h.1 (nn rfl)) (fun q => q.elim (fun h => absurd h.1 (pn hA rfl rfl)) (fun h => absurd h (pn hA rfl rfl)))))))).trans (hF j)) (fun j => ((up_c (nn rfl)).trans ((hF_356 43 j (fun h => absurd h.1 (nn rfl))).trans ((hF_351 43 j (fun h => absurd h.1 (nn rfl))).trans (hFc 43 j (fun q => q.elim (fun h => absurd h.1 (nn rfl)) (fun q => q.elim (fun h => absurd h.1 (nn rfl)) (fun q => q.elim (fun h => absurd h.1 (nn rfl)) (fun q => q.elim (fun h => absurd h.1 (nn rfl)) (fun q => q.elim (fun h => absurd h.1 (nn rfl)) (fun q => q.elim (fun h => absurd h (nn rfl)) (fun h => absurd h (nn rfl)))))))))))).trans (hH j)) hU (rt_i1 ⟨by first | (clear ha2 hq0 hq1 hq2 hq3 hq4 hq5 h_1 h_2 h_3 h_4 h_5 h_6 h_7 h_8 h_9 h_10 h_11 h_12 h_13 h_14 h_15 h_16 h_60 h_61 h_62 h_67 h_84 h_269 h_330 h_334 h_335 h_336 h_337 h_338 h_339 h_340 h_341 h_342 h_343 h_345 h_346 h_348 h_374 h_63 h_347; omega) | omega, by first | (clear ha2 hq0 hq1 hq2 hq3 hq4 hq5 h_1 h_2 h_3 h_4 h_5 h_6 h_7 h_8 h_9 h_10 h_11 h_12 h_13 h_14 h_15 h_16 h_60 h_61 h_62 h_67 h_84 h_269 h_330 h_334 h_335 h_336 h_337 h_338 h_339 h_340 h_341 h_342 h_343 h_345 h_346 h_348 h_374 h_63 h_347; omega) | omega, by first | (clear ha2 hq0 hq1 hq2 hq3 hq4 hq5 h_1 h_2 h_3 h_4 h_5 h_6 h_7 h_8 h_9 h_10 h_11 h_12 h_13 h_14 h_15 h_16 h_60 h_61 h_62 h_67 h_84 h_269 h_330 h_334 h_335 h_336 h_337 h_338 h_339 h_340 h_341 h_342 h_343 h_345 h_346 h_348 h_374 h_63 h_347; omega) | omega, by first | (clear ha2 hq0 hq1 hq2 hq3 hq4 hq5 h_1 h_2 h_3 h_4 h_5 h_6 h_7 h_8 h_9 h_10 h_11 h_12 h_13 h_14 h_15 h_16 h_60 h_61 h_62 h_67 h_84 h_269 h_330 h_334 h_335 h_336 h_337 h_338 h_339 h_340 h_341 h_342 h_343 h_345 h_346 h_348 h_374 h_63 h_347; omega) | omega⟩) (ce_le hA_378 (by omega)) H13 hG_83 (fun c_379 hI_380 hF_381 hR_383 h_384 h_385 hA_386 => ?_))
                refine bk_inl ?_
                have h_387 := ir_41_29 hI_380
                have h_388 := ir_41_7 hI_380
                refine q_aload_n rfl rfl ?_
                refine q_iload_n rfl rfl ?_
                refine q_iconst rfl ?_
                refine v_cv rfl rfl rfl rfl (by decide) ⟨⟨rfl, rfl⟩, by decide, rfl⟩ (Nat.le_of_ble_eq_true rfl) (Nat.le_of_ble_eq_true rfl) ?_
                refine q_aload_n rfl rfl ?_
                refine v_cv rfl rfl rfl rfl (by decide) ⟨⟨rfl, rfl⟩, by decide, rfl⟩ (Nat.le_of_ble_eq_true rfl) (Nat.le_of_ble_eq_true rfl) ?_
                refine q_aload_n rfl rfl ?_
                have h_389 := ir_41_5 hI_380
                have h_390 := ir_41_4 hI_380
                have h_391 := ir_41_6 hI_380
                have h_392 := rt_bad hR_383 (by omega)
                have hrb_hR_383 := rt_bad hR_383 (by omega)
                refine v_gi (z := 5) (v := c_80 1 5) rfl rfl rfl (by decide) rfl rfl hrb_hR_383.2.1 ?_
                refine q_iconst rfl ?_
                refine v_ic_ne_t (t := 12) rfl (by decide) ⟨by first | (clear ha2 hq0 hq1 hq2 hq3 hq4 hq5 h_1 h_2 h_3 h_4 h_5 h_6 h_7 h_8 h_9 h_10 h_11 h_12 h_13 h_14 h_15 h_16 h_60 h_61 h_62 h_67 h_84 h_269 h_330 h_334 h_335 h_336 h_337 h_338 h_339 h_340 h_341 h_342 h_343 h_345 h_346 h_348 h_374 h_387 h_388 h_385 h_389 h_390 h_391 h_63 h_347 h_384; omega) | omega, ⟨(Int.le_trans (by decide) h_339.1), (Int.le_trans h_339.2 (by decide))⟩, by decide, by decide⟩ ?_
                refine q_iconst rfl ?_
                refine v_zret rfl rfl (by decide) ?_
                refine bk_inl ?_
                refine v_if_ne_f (t := 8) rfl (by decide) (by decide) ?_
                refine q_vret rfl rfl ?_
                refine bk_inl ?_
                refine q_goto (t := 4) rfl (by decide) ?_
                refine q_aload_n rfl rfl ?_
                refine v_cv rfl rfl rfl rfl (by decide) ⟨⟨rfl, rfl⟩, by decide, rfl⟩ (Nat.le_of_ble_eq_true rfl) (Nat.le_of_ble_eq_true rfl) ?_
                refine q_aload_n rfl rfl ?_
                refine v_gi (z := 5) (v := c_80 1 5) rfl rfl rfl (by decide) rfl rfl hrb_hR_383.2.1 ?_
                refine q_iconst rfl ?_
                refine v_ic_ne_t (t := 12) rfl (by decide) ⟨by first | (clear ha2 hq0 hq1 hq2 hq3 hq4 hq5 h_1 h_2 h_3 h_4 h_5 h_6 h_7 h_8 h_9 h_10 h_11 h_12 h_13 h_14 h_15 h_16 h_60 h_61 h_62 h_67 h_84 h_269 h_330 h_334 h_335 h_336 h_337 h_338 h_339 h_340 h_341 h_342 h_343 h_345 h_346 h_348 h_374 h_387 h_388 h_385 h_389 h_390 h_391 h_63 h_347 h_384; omega) | omega, ⟨(Int.le_trans (by decide) h_339.1), (Int.le_trans h_339.2 (by decide))⟩, by decide, by decide⟩ ?_
                refine q_iconst rfl ?_
                refine v_zret rfl rfl (by decide) ?_
                refine bk_inl ?_
                refine v_if_eq_t (t := 67) rfl (by decide) (by decide) ?_
                refine q_vret rfl rfl ?_
                have h_393 : c_379 41 5 = c_80 1 5 := hrb_hR_383.2.1
                have h_394 : c_379 41 6 = c_80 1 4 := hrb_hR_383.2.2.2
                exact K c_379  hI_380 (fun a j hm => (hF_381 a j (fun q => q.elim (fun h => hm (Or.inl h)) (fun q => q.elim (fun h => hm (Or.inr (Or.inl h))) (fun q => q.elim (fun h => hm (Or.inr (Or.inr (Or.inl h)))) (fun q => q.elim (fun h => hm (Or.inr (Or.inr (Or.inr (Or.inl h))))) (fun q => q.elim (fun h => hm (Or.inr (Or.inr (Or.inr (Or.inr (Or.inl h)))))) (fun q => q.elim (fun h => hm (Or.inr (Or.inr (Or.inr (Or.inr (Or.inr (Or.inl h))))))) (fun h => hm (Or.inr (Or.inr (Or.inr (Or.inr (Or.inr (Or.inr h)))))))))))))).trans ((up_b (Decidable.or_iff_not_imp_left.mpr (fun h1 h2 => hm (Or.inl ⟨Decidable.not_not.mp h1, h2⟩)))).trans ((hF_356 a j (fun h => hm (Or.inl h))).trans ((hF_351 a j (fun h => hm (Or.inl h))).trans (hFc a j (fun q => q.elim (fun h => hm (Or.inl h)) (fun q => q.elim (fun h => hm (Or.inr (Or.inl h))) (fun q => q.elim (fun h => hm (Or.inr (Or.inr (Or.inl h)))) (fun q => q.elim (fun h => hm (Or.inr (Or.inr (Or.inr (Or.inl h))))) (fun q => q.elim (fun h => hm (Or.inr (Or.inr (Or.inr (Or.inr (Or.inl h)))))) (fun q => q.elim (fun h => hm (Or.inr (Or.inr (Or.inr (Or.inr (Or.inr (Or.inl h))))))) (fun h => hm (Or.inr (Or.inr (Or.inr (Or.inr (Or.inr (Or.inr h)))))))))))))))))) (rt_i2 ⟨⟨by first | (clear ha2 hq0 hq1 hq2 hq3 hq4 hq5 h_1 h_2 h_3 h_4 h_5 h_6 h_7 h_8 h_9 h_10 h_11 h_12 h_13 h_14 h_15 h_16 h_60 h_61 h_62 h_67 h_84 h_269 h_330 h_334 h_336 h_337 h_338 h_339 h_340 h_341 h_342 h_343 h_345 h_346 h_348 h_374 h_387 h_388 h_385 h_389 h_390 h_391 h_63 h_347 h_384; omega) | omega, by first | (clear ha2 hq0 hq1 hq2 hq3 hq4 hq5 h_1 h_2 h_3 h_4 h_5 h_6 h_7 h_8 h_9 h_10 h_11 h_12 h_13 h_14 h_15 h_16 h_60 h_61 h_62 h_67 h_84 h_269 h_330 h_335 h_336 h_337 h_338 h_339 h_340 h_341 h_342 h_343 h_345 h_346 h_348 h_374 h_387 h_388 h_385 h_389 h_390 h_391 h_392 h_63 h_347 h_384; omega) | omega⟩, by first | (clear ha2 hq0 hq1 hq2 hq3 hq4 hq5 h_1 h_2 h_3 h_4 h_5 h_6 h_7 h_8 h_9 h_10 h_11 h_12 h_13 h_14 h_15 h_16 h_60 h_61 h_62 h_67 h_84 h_269 h_330 h_334 h_335 h_336 h_337 h_338 h_339 h_340 h_342 h_343 h_345 h_346 h_348 h_374 h_387 h_388 h_385 h_389 h_390 h_391 h_392 h_63 h_347 h_384; omega) | omega, by first | (clear ha2 hq0 hq1 hq2 hq3 hq4 hq5 h_1 h_2 h_3 h_4 h_5 h_6 h_7 h_8 h_9 h_10 h_11 h_12 h_13 h_14 h_15 h_16 h_60 h_61 h_62 h_67 h_84 h_269 h_330 h_334 h_335 h_336 h_337 h_338 h_339 h_340 h_342 h_343 h_345 h_346 h_348 h_374 h_387 h_388 h_385 h_389 h_390 h_391 h_63 h_347 h_384; omega) | omega, by first | (clear ha2 hq0 hq1 hq2 hq3 hq4 hq5 h_1 h_2 h_3 h_4 h_5 h_6 h_7 h_8 h_9 h_10 h_11 h_12 h_13 h_14 h_15 h_16 h_60 h_61 h_62 h_67 h_84 h_269 h_330 h_334 h_336 h_337 h_338 h_339 h_340 h_341 h_342 h_343 h_345 h_346 h_348 h_374 h_387 h_388 h_385 h_389 h_390 h_391 h_392 h_63 h_347 h_384; omega) | omega⟩) (Or.inr (Or.inl (by first | (clear ha2 hq0 hq1 hq2 hq3 hq4 hq5 h_1 h_2 h_3 h_4 h_5 h_6 h_7 h_8 h_9 h_10 h_11 h_12 h_13 h_14 h_15 h_16 h_60 h_61 h_62 h_67 h_84 h_269 h_330 h_334 h_336 h_337 h_338 h_339 h_340 h_341 h_342 h_343 h_345 h_346 h_348 h_374 h_387 h_388 h_385 h_389 h_390 h_391 h_63 h_347 h_384; omega) | omega))) (by first | (clear ha2 hq0 hq1 hq2 hq3 hq4 hq5 h_1 h_2 h_3 h_4 h_5 h_6 h_7 h_8 h_9 h_10 h_11 h_12 h_13 h_14 h_15 h_16 h_60 h_61 h_62 h_67 h_84 h_269 h_330 h_334 h_335 h_336 h_337 h_338 h_339 h_340 h_341 h_342 h_343 h_345 h_346 h_348 h_374 h_387 h_388 h_389 h_390 h_391 h_392 h_63 h_347 h_384; omega) | omega) (fun hz => absurd hz (by omega))
              · refine v_ic_ge_f (t := 59) rfl (by decide) ⟨by first | exact rgp_l hv.1 (by decide) | omega, (Int.not_le.mp h_330), by decide⟩ ?_
                refine q_aload_n rfl rfl ?_
                refine v_cv rfl rfl rfl rfl (by decide) ⟨⟨rfl, rfl⟩, by decide, rfl⟩ (Nat.le_of_ble_eq_true rfl) (Nat.le_of_ble_eq_true rfl) ?_
                refine q_aload_n rfl rfl ?_
                refine v_gi (z := 4) (v := c_80 1 4) rfl rfl rfl (by decide) rfl rfl ((up_c (pn hA rfl rfl)).trans (up_c (pn hA rfl rfl))) ?_
                refine v_if_ne_t (t := 11) rfl (by decide) ⟨by first | (clear ha2 hq0 hq1 hq2 hq3 hq4 hq5 h_1 h_2 h_3 h_4 h_5 h_6 h_7 h_8 h_9 h_10 h_11 h_12 h_13 h_14 h_15 h_16 h_60 h_61 h_62 h_67 h_84 h_269 h_63; omega) | omega, ⟨(Int.le_trans (by decide) h_269.1), (Int.le_trans h_269.2 (by decide))⟩, by decide, by decide⟩ ?_
                refine q_iconst rfl ?_
                refine v_zret rfl rfl (by decide) ?_
                refine bk_inl ?_
                refine v_if_eq_t (t := 59) rfl (by decide) (by decide) ?_
                refine q_vret rfl rfl ?_
                have hI_395 := iw_lg (j := c_80 (A + 7) 5) (v := 2000) hI_81 (lgp (k := 9) hA (by decide)) ⟨by decide, by decide⟩ (by omega)
                have hI_396 := iw_p7_5 (v := c_80 (A + 7) 5 + 1) hI_395 hA ⟨by first | exact rgp_l h_84.1 (by decide) | omega, by first | (clear ha2 hq0 hq1 hq2 hq3 hq4 hq5 h_1 h_2 h_3 h_4 h_5 h_6 h_7 h_8 h_9 h_10 h_11 h_12 h_13 h_14 h_15 h_16 h_60 h_61 h_62 h_67 h_84 h_269 h_63; omega) | omega⟩
                intro hE_397
                have hW : Wd P Q P P (up (up c_80 (A + 9) (c_80 (A + 7) 5) 2000) (A + 7) 5 (c_80 (A + 7) 5 + 1)) = Wd P Q P P m9 := (Prod.mk.inj (Prod.mk.inj hE_397).2).1
                have h_398 := ir_1_4 hJ9
                have h_399 : m9 1 4 = c_80 1 4 := wd_fv (z := 4) 4 rfl hW rfl rfl rfl rfl (by decide) ((up_c (pn hA rfl rfl)).trans (up_c (pn hA rfl rfl))) ⟨(Int.le_trans (by decide) h_269.1), (Int.le_trans h_269.2 (by decide))⟩ ⟨(Int.le_trans (by decide) h_398.1), (Int.le_trans h_398.2 (by decide))⟩
                have h_400 := ir_1_2 hI_81
                have h_401 := ir_1_2 hJ9
                have h_402 : m9 1 2 = c_80 1 2 := wd_fv (z := 2) 2 rfl hW rfl rfl rfl rfl (by decide) ((up_c (pn hA rfl rfl)).trans (up_c (pn hA rfl rfl))) ⟨(Int.le_trans (by decide) h_400.1), (Int.le_trans h_400.2 (by decide))⟩ ⟨(Int.le_trans (by decide) h_401.1), (Int.le_trans h_401.2 (by decide))⟩
                have h_403 := ir_1_5 hI_81
                have h_404 := ir_1_5 hJ9
                have h_405 : m9 1 5 = c_80 1 5 := wd_fv (z := 5) 5 rfl hW rfl rfl rfl rfl (by decide) ((up_c (pn hA rfl rfl)).trans (up_c (pn hA rfl rfl))) ⟨(Int.le_trans (by decide) h_403.1), (Int.le_trans h_403.2 (by decide))⟩ ⟨(Int.le_trans (by decide) h_404.1), (Int.le_trans h_404.2 (by decide))⟩
                have h_406 := ir_p7_5 hJ9 hA
                have h_407 : m9 (A + 7) 5 = c_80 (A + 7) 5 + 1 := wd_fv (z := 5) 5 rfl hW (ck_p7 hA) (ck_p7 hA) rfl rfl (by omega) (up_e rfl) ⟨by first | exact rgp_l h_84.1 (by decide) | omega, by first | exact rgp_h h_84.2 (by decide) | omega⟩ ⟨(Int.le_trans (by decide) h_406.1), (Int.le_trans h_406.2 (by decide))⟩
                refine q_aload_n rfl rfl ?_
                refine v_cv rfl rfl rfl rfl (by decide) ⟨⟨rfl, rfl⟩, by decide, rfl⟩ (Nat.le_of_ble_eq_true rfl) (Nat.le_of_ble_eq_true rfl) ?_
                refine q_aload_n rfl rfl ?_
                refine v_gi (z := 5) (v := (-1)) rfl rfl rfl (by decide) rfl rfl (hc_1) ?_
                refine q_iconst rfl ?_
                refine v_ic_ne_f (t := 12) rfl (by decide) (by decide) ?_
                refine q_iconst rfl ?_
                refine q_goto (t := 13) rfl (by decide) ?_
                refine v_zret rfl rfl (by decide) ?_
                refine bk_inl ?_
                refine v_if_eq_f (t := 67) rfl (by decide) (by decide) ?_
                refine q_aload_n rfl rfl ?_
                have kn_408 : Hid (c2 41 3 = e1) := (hFc 41 3 (fun q => q.elim (fun h => absurd h.2 (ni rfl)) (fun q => q.elim (fun h => absurd h.2 (ni rfl)) (fun q => q.elim (fun h => absurd h.2 (ni rfl)) (fun q => q.elim (fun h => absurd h.2 (ni rfl)) (fun q => q.elim (fun h => absurd h.2 (ni rfl)) (fun q => q.elim (fun h => absurd h (nn rfl)) (fun h => absurd h (nn rfl))))))))).trans (hr_e1)
                have h_409 : -2147483648 ≤ (H (nx F e1 a)) ∧ (H (nx F e1 a)) ≤ 2147483647 := by rw [← hH (nx F e1 a)]; exact ir_43 hI (nx F e1 a)
                have h_410 := hU (nx F e1 a) (by omega) (by omega)
                have h_411 := hb_or (b := H) (e := e1) (r := (nx F e1 a))
                have h_412 := hb_bd (b := H) (e := e1) (r := (nx F e1 a)) (lo := -2147483648) (hi := 2147483647) h_409 (by decide)
                refine v_cv rfl rfl rfl rfl (by decide) ⟨⟨rfl, rfl⟩, by decide, rfl⟩ (Nat.le_of_ble_eq_true rfl) (Nat.le_of_ble_eq_true rfl) (f_154 (e1 := e1) (a9 := a) (B := H) (r8 := (nx F e1 a)) (r := (hb H e1 (nx F e1 a))) hI2 ((hid kn_408)) ((hr_a)) (fun j => (hFc 43 j (fun q => q.elim (fun h => absurd h.1 (nn rfl)) (fun q => q.elim (fun h => absurd h.1 (nn rfl)) (fun q => q.elim (fun h => absurd h.1 (nn rfl)) (fun q => q.elim (fun h => absurd h.1 (nn rfl)) (fun q => q.elim (fun h => absurd h.1 (nn rfl)) (fun q => q.elim (fun h => absurd h (nn rfl)) (fun h => absurd h (nn rfl))))))))).trans (hH j)) ((nx_tr hU (by first | (clear ha2 hq0 hq1 hq2 hq3 hq4 hq5 h_1 h_2 h_3 h_4 h_5 h_6 h_7 h_8 h_9 h_10 h_11 h_12 h_13 h_14 h_15 h_16 h_60 h_61 h_62 h_67 h_84 h_269 h_398 h_399 h_400 h_401 h_402 h_403 h_404 h_405 h_406 h_407 h_63; omega) | omega) (by first | (clear ha2 hq0 hq1 hq2 hq3 hq4 h_1 h_2 h_3 h_4 h_5 h_6 h_7 h_8 h_9 h_10 h_11 h_12 h_13 h_14 h_15 h_16 h_60 h_61 h_62 h_67 h_84 h_269 h_398 h_399 h_400 h_401 h_402 h_403 h_404 h_405 h_406 h_407 h_63; omega) | omega)).trans (rfl)) rfl (fun c_413 hI_414 hF_415 h_416 => ?_))
                refine bk_inl ?_
                refine v_bip rfl (by decide) ?_
                refine v_ic_eq_t (t := 29) rfl (by decide) (by first | (clear ha2 hq0 hq1 hq2 hq3 h_3 h_4 h_5 h_6 h_7 h_8 h_9 h_10 h_11 h_12 h_13 h_14 h_15 h_60 h_62 h_84 h_269 h_398 h_399 h_400 h_401 h_402 h_403 h_404 h_405 h_406 h_407; omega) | omega) ?_
                refine q_aload_n rfl rfl ?_
                have kn_417 : Hid (c_413 41 3 = e1) := (hF_415 41 3 (fun h => absurd h.2 (ni rfl))).trans (hid kn_408)
                refine v_cv rfl rfl rfl rfl (by decide) ⟨⟨rfl, rfl⟩, by decide, rfl⟩ (Nat.le_of_ble_eq_true rfl) (Nat.le_of_ble_eq_true rfl) (f_154 (e1 := e1) (a9 := (nx F e1 a)) (B := H) (r8 := (nx F e1 a)) (r := (hb H e1 (nx F e1 a))) hI_414 ((hid kn_417)) ((h_416)) (fun j => ((hF_415 43 j (fun h => absurd h.1 (nn rfl))).trans (hFc 43 j (fun q => q.elim (fun h => absurd h.1 (nn rfl)) (fun q => q.elim (fun h => absurd h.1 (nn rfl)) (fun q => q.elim (fun h => absurd h.1 (nn rfl)) (fun q => q.elim (fun h => absurd h.1 (nn rfl)) (fun q => q.elim (fun h => absurd h.1 (nn rfl)) (fun q => q.elim (fun h => absurd h (nn rfl)) (fun h => absurd h (nn rfl)))))))))).trans (hH j)) ((nx_tr hU (by first | (clear ha2 hq0 hq1 hq2 hq3 hq4 hq5 h_1 h_2 h_3 h_4 h_5 h_6 h_7 h_8 h_9 h_10 h_11 h_12 h_13 h_14 h_15 h_16 h_60 h_62 h_67 h_84 h_269 h_398 h_399 h_400 h_401 h_402 h_403 h_404 h_405 h_406 h_407 h_409 h_410 h_412 h_63 h_411; omega) | omega) (by first | (clear ha2 hq0 hq1 hq2 hq3 hq4 h_1 h_2 h_3 h_4 h_5 h_6 h_7 h_8 h_9 h_10 h_11 h_12 h_13 h_14 h_15 h_16 h_60 h_61 h_62 h_67 h_84 h_269 h_398 h_399 h_400 h_401 h_402 h_403 h_404 h_405 h_406 h_407 h_409 h_410 h_412 h_63 h_411; omega) | omega)).trans ((nx_z (by omega)))) rfl (fun c_418 hI_419 hF_420 h_421 => ?_))
                refine bk_inl ?_
                refine v_bip rfl (by decide) ?_
                refine v_ic_ne_f (t := 42) rfl (by decide) (by first | (clear ha2 hq0 hq1 hq2 hq3 h_3 h_4 h_5 h_6 h_7 h_8 h_9 h_10 h_11 h_12 h_13 h_14 h_15 h_60 h_62 h_84 h_269 h_398 h_399 h_400 h_401 h_402 h_403 h_404 h_405 h_406 h_407; omega) | omega) ?_
                refine q_iconst rfl ?_
                refine q_goto (t := 43) rfl (by decide) ?_
                refine q_istore_n rfl (by decide) ?_
                refine q_aload_n rfl rfl ?_
                refine q_dup rfl rfl ?_
                refine v_gi (z := 4) (v := (nx F e1 a)) rfl rfl rfl (by decide) rfl rfl (h_421) ?_
                refine q_iconst rfl ?_
                refine v_iadd (v := (nx F e1 a) + 1) rfl rfl ?_
                refine v_pi (z := 4) rfl rfl rfl (by decide) rfl rfl rfl (by decide) ?_
                refine q_aload_n rfl rfl ?_
                have kn_422 : Hid (c_413 41 5 = (-1)) := (hF_415 41 5 (fun h => absurd h.2 (ni rfl))).trans (hc_1)
                have kn_423 : Hid (c_418 41 5 = (-1)) := (hF_420 41 5 (fun h => absurd h.2 (ni rfl))).trans (hid kn_422)
                have hI_424 := iw_41_4 (v := (nx F e1 a) + 1) hI_419 ⟨by first | exact rgp_l (rg_be h_61 (ha.1) ((rg_eq hg_e1 h_1).2)).1 (by decide) | omega, by first | exact rgp_h (rg_be h_61 (ha.1) ((rg_eq hg_e1 h_1).2)).2 (by decide) | omega⟩
                have kn_425 : Hid (c_64 1 1 = e1) := (hF_66 1 1 (fun h => absurd h.2 (ni rfl))).trans (hid kn_59)
                have kn_426 : Hid (c_418 41 3 = e1) := (hF_420 41 3 (fun h => absurd h.2 (ni rfl))).trans (hid kn_417)
                have kn_427 : Hid (c_64 1 5 = (-1)) := (hF_66 1 5 (fun h => absurd h.2 (ni rfl))).trans (hc_2)
                have kn_428 : Hid (c_64 (A + 7) 5 = nw) := (hF_66 (A + 7) 5 (fun h => absurd h.1 (np hA rfl rfl))).trans (hg_nw)
                have kn_429 : Hid (c_413 41 29 = nw) := (hF_415 41 29 (fun h => absurd h.2 (ni rfl))).trans (hr_nw)
                have kn_430 : Hid (c_418 41 29 = nw) := (hF_420 41 29 (fun h => absurd h.2 (ni rfl))).trans (hid kn_429)
                have kn_431 : Hid (c_413 41 7 = a2) := (hF_415 41 7 (fun h => absurd h.2 (ni rfl))).trans (hc_3)
                have kn_432 : Hid (c_418 41 7 = a2) := (hF_420 41 7 (fun h => absurd h.2 (ni rfl))).trans (hid kn_431)
                have h_433 : c_64 1 4 = 0 := (hid kn_79)
                have h_434 : c_64 1 2 = (nx F e1 a) + 1 := (hz_68)
                have h_435 : c_64 1 5 = (-1) := (hid kn_427)
                have h_436 : (up c_418 41 4 ((nx F e1 a) + 1)) 41 5 = (-1) := ((up_n (by decide)).trans (hid kn_423))
                have h_437 : (up c_418 41 4 ((nx F e1 a) + 1)) 41 4 = (nx F e1 a) + 1 := (up_e rfl)
                have h_438 := ir_41_6 hI2
                have kn_439 : Hid (c_413 41 6 = c2 41 6) := hF_415 41 6 (fun h => absurd h.2 (ni rfl))
                have kn_440 : Hid (c_418 41 6 = c2 41 6) := (hF_420 41 6 (fun h => absurd h.2 (ni rfl))).trans (hid kn_439)
                have h_441 : (up c_418 41 4 ((nx F e1 a) + 1)) 41 6 = c2 41 6 := ((up_n (by decide)).trans (hid kn_440))
                have hA_442 : Ce nw (c_64 (A + 9)) ((up c_418 41 4 ((nx F e1 a) + 1)) 50) ((up c_418 41 4 ((nx F e1 a) + 1)) 51) := ce_fr hrl0 (fun j => hF_66 (A + 9) j (fun h => absurd h.1 (np hA rfl rfl))) (fun j => (up_c (nn rfl)).trans ((hF_420 50 j (fun h => absurd h.1 (nn rfl))).trans (hF_415 50 j (fun h => absurd h.1 (nn rfl))))) (fun j => (up_c (nn rfl)).trans ((hF_420 51 j (fun h => absurd h.1 (nn rfl))).trans (hF_415 51 j (fun h => absurd h.1 (nn rfl)))))
                refine v_cv rfl rfl rfl rfl (by decide) ⟨⟨rfl, rfl⟩, by decide, rfl⟩ (Nat.le_of_ble_eq_true rfl) (Nat.le_of_ble_eq_true rfl) (L_12 (m := c_64) (a2 := a2) (e1 := e1) (f0 := 0) (g0 := (-1)) (p0 := (nx F e1 a) + 1) (n0 := nw) (o0 := a2) (F := F) (H := H) hI_424 hI_65 hI_81 hA (show 0 ≤ a2 ∧ a2 ≤ 6 from ha2) (by first | (clear ha2 hq0 hq1 hq2 hq3 hq4 hq5 h_1 h_2 h_3 h_4 h_5 h_6 h_7 h_8 h_9 h_10 h_11 h_12 h_13 h_14 h_15 h_16 h_60 h_61 h_62 h_67 h_84 h_269 h_398 h_399 h_400 h_401 h_402 h_403 h_404 h_405 h_406 h_407 h_409 h_410 h_412 h_63 h_411; omega) | omega) (by first | (clear ha2 hq0 hq1 hq2 hq3 hq4 hq5 h_1 h_2 h_3 h_4 h_5 h_6 h_7 h_8 h_9 h_10 h_11 h_12 h_13 h_14 h_15 h_16 h_60 h_61 h_62 h_67 h_84 h_269 h_398 h_399 h_400 h_401 h_402 h_403 h_404 h_405 h_406 h_407 h_409 h_410 h_412 h_63 h_411; omega) | omega) (by first | (clear ha2 hq0 hq1 hq2 hq3 hq4 hq5 h_1 h_2 h_3 h_4 h_5 h_6 h_7 h_8 h_9 h_10 h_11 h_12 h_13 h_14 h_15 h_16 h_60 h_61 h_62 h_67 h_84 h_269 h_398 h_399 h_400 h_401 h_402 h_403 h_404 h_405 h_406 h_407 h_409 h_410 h_412 h_63 h_411; omega) | omega) (by first | (clear ha2 hq0 hq1 hq2 hq4 hq5 h_1 h_2 h_3 h_4 h_5 h_6 h_7 h_8 h_9 h_10 h_11 h_12 h_13 h_14 h_15 h_60 h_62 h_67 h_84 h_269 h_398 h_399 h_400 h_401 h_402 h_403 h_404 h_405 h_406 h_407 h_409 h_410 h_412 h_63 h_411; omega) | omega) (by first | (clear ha2 hq0 hq1 hq2 hq3 hq4 hq5 h_1 h_2 h_3 h_4 h_5 h_6 h_7 h_8 h_9 h_10 h_11 h_12 h_13 h_14 h_15 h_16 h_60 h_61 h_62 h_84 h_269 h_398 h_399 h_400 h_401 h_402 h_403 h_404 h_405 h_406 h_407 h_409 h_410 h_412 h_63 h_411; omega) | omega) (by first | (clear ha2 hq0 hq1 hq2 hq3 hq4 h_1 h_2 h_3 h_4 h_5 h_6 h_7 h_8 h_9 h_10 h_11 h_12 h_13 h_14 h_15 h_16 h_60 h_61 h_62 h_67 h_84 h_269 h_398 h_399 h_400 h_401 h_402 h_403 h_404 h_405 h_406 h_407 h_409 h_410 h_412 h_63 h_411; omega) | omega) ((hid kn_425)) (((up_n (by decide)).trans (hid kn_426))) ((hid kn_79)) ((hid kn_427)) ((hz_68)) ((hid kn_428)) (((up_n (by decide)).trans (hid kn_430))) (((up_n (by decide)).trans (hid kn_432))) (fun j => ((hF_66 2 j (fun h => absurd h.1 (nn rfl))).trans (hFm 2 j (fun q => q.elim (fun h => absurd h.1 (nn rfl)) (fun q => q.elim (fun h => absurd h.1 (nn rfl)) (fun q => q.elim (fun h => absurd h.1 (nn rfl)) (fun q => q.elim (fun h => absurd h.1 (pn hA rfl rfl)) (fun h => absurd h (pn hA rfl rfl)))))))).trans (hF j)) (fun j => ((up_c (nn rfl)).trans ((hF_420 43 j (fun h => absurd h.1 (nn rfl))).trans ((hF_415 43 j (fun h => absurd h.1 (nn rfl))).trans (hFc 43 j (fun q => q.elim (fun h => absurd h.1 (nn rfl)) (fun q => q.elim (fun h => absurd h.1 (nn rfl)) (fun q => q.elim (fun h => absurd h.1 (nn rfl)) (fun q => q.elim (fun h => absurd h.1 (nn rfl)) (fun q => q.elim (fun h => absurd h.1 (nn rfl)) (fun q => q.elim (fun h => absurd h (nn rfl)) (fun h => absurd h (nn rfl)))))))))))).trans (hH j)) hU (rt_i1 ⟨by first | (clear ha2 hq0 hq1 hq2 hq3 hq4 hq5 h_1 h_2 h_3 h_4 h_5 h_6 h_7 h_8 h_9 h_10 h_11 h_12 h_13 h_14 h_15 h_16 h_60 h_61 h_62 h_67 h_84 h_269 h_398 h_399 h_400 h_401 h_402 h_403 h_404 h_405 h_406 h_407 h_409 h_410 h_412 h_438 h_63 h_411; omega) | omega, by first | (clear ha2 hq0 hq1 hq2 hq3 hq4 hq5 h_1 h_2 h_3 h_4 h_5 h_6 h_7 h_8 h_9 h_10 h_11 h_12 h_13 h_14 h_15 h_16 h_60 h_61 h_62 h_67 h_84 h_269 h_398 h_399 h_400 h_401 h_402 h_403 h_404 h_405 h_406 h_407 h_409 h_410 h_412 h_438 h_63 h_411; omega) | omega, by first | (clear ha2 hq0 hq1 hq2 hq3 hq4 hq5 h_1 h_2 h_3 h_4 h_5 h_6 h_7 h_8 h_9 h_10 h_11 h_12 h_13 h_14 h_15 h_16 h_60 h_61 h_62 h_67 h_84 h_269 h_398 h_399 h_400 h_401 h_402 h_403 h_404 h_405 h_406 h_407 h_409 h_410 h_412 h_438 h_63 h_411; omega) | omega, by first | (clear ha2 hq0 hq1 hq2 hq3 hq4 hq5 h_1 h_2 h_3 h_4 h_5 h_6 h_7 h_8 h_9 h_10 h_11 h_12 h_13 h_14 h_15 h_16 h_60 h_61 h_62 h_67 h_84 h_269 h_398 h_399 h_400 h_401 h_402 h_403 h_404 h_405 h_406 h_407 h_409 h_410 h_412 h_438 h_63 h_411; omega) | omega⟩) (ce_le hA_442 (by omega)) H13 hG_83 (fun c_443 hI_444 hF_445 hR_447 h_448 h_449 hA_450 => ?_))
                refine bk_inl ?_
                have h_451 := ir_41_29 hI_444
                have h_452 := ir_41_7 hI_444
                refine q_aload_n rfl rfl ?_
                refine q_iload_n rfl rfl ?_
                refine q_iconst rfl ?_
                refine v_cv rfl rfl rfl rfl (by decide) ⟨⟨rfl, rfl⟩, by decide, rfl⟩ (Nat.le_of_ble_eq_true rfl) (Nat.le_of_ble_eq_true rfl) ?_
                refine q_aload_n rfl rfl ?_
                refine v_cv rfl rfl rfl rfl (by decide) ⟨⟨rfl, rfl⟩, by decide, rfl⟩ (Nat.le_of_ble_eq_true rfl) (Nat.le_of_ble_eq_true rfl) ?_
                refine q_aload_n rfl rfl ?_
                have h_453 := ir_41_5 hI_444
                have h_454 := ir_41_4 hI_444
                have h_455 := ir_41_6 hI_444
                have h_456 := rt_bad hR_447 (by omega)
                have hrb_hR_447 := rt_bad hR_447 (by omega)
                refine v_gi (z := 5) (v := c_80 1 5) rfl rfl rfl (by decide) rfl rfl hrb_hR_447.2.1 ?_
                refine q_iconst rfl ?_
                refine v_ic_ne_t (t := 12) rfl (by decide) ⟨by first | (clear ha2 hq0 hq1 hq2 hq3 hq4 hq5 h_1 h_2 h_3 h_4 h_5 h_6 h_7 h_8 h_9 h_10 h_11 h_12 h_13 h_14 h_15 h_16 h_60 h_61 h_62 h_67 h_84 h_269 h_398 h_399 h_400 h_401 h_402 h_403 h_404 h_405 h_406 h_407 h_409 h_410 h_412 h_438 h_451 h_452 h_449 h_453 h_454 h_455 h_63 h_411 h_448; omega) | omega, ⟨(Int.le_trans (by decide) h_403.1), (Int.le_trans h_403.2 (by decide))⟩, by decide, by decide⟩ ?_
                refine q_iconst rfl ?_
                refine v_zret rfl rfl (by decide) ?_
                refine bk_inl ?_
                refine v_if_ne_f (t := 8) rfl (by decide) (by decide) ?_
                refine q_vret rfl rfl ?_
                refine bk_inl ?_
                refine q_goto (t := 4) rfl (by decide) ?_
                refine q_aload_n rfl rfl ?_
                refine v_cv rfl rfl rfl rfl (by decide) ⟨⟨rfl, rfl⟩, by decide, rfl⟩ (Nat.le_of_ble_eq_true rfl) (Nat.le_of_ble_eq_true rfl) ?_
                refine q_aload_n rfl rfl ?_
                refine v_gi (z := 5) (v := c_80 1 5) rfl rfl rfl (by decide) rfl rfl hrb_hR_447.2.1 ?_
                refine q_iconst rfl ?_
                refine v_ic_ne_t (t := 12) rfl (by decide) ⟨by first | (clear ha2 hq0 hq1 hq2 hq3 hq4 hq5 h_1 h_2 h_3 h_4 h_5 h_6 h_7 h_8 h_9 h_10 h_11 h_12 h_13 h_14 h_15 h_16 h_60 h_61 h_62 h_67 h_84 h_269 h_398 h_399 h_400 h_401 h_402 h_403 h_404 h_405 h_406 h_407 h_409 h_410 h_412 h_438 h_451 h_452 h_449 h_453 h_454 h_455 h_63 h_411 h_448; omega) | omega, ⟨(Int.le_trans (by decide) h_403.1), (Int.le_trans h_403.2 (by decide))⟩, by decide, by decide⟩ ?_
                refine q_iconst rfl ?_
                refine v_zret rfl rfl (by decide) ?_
                refine bk_inl ?_
                refine v_if_eq_t (t := 67) rfl (by decide) (by decide) ?_
                refine q_vret rfl rfl ?_
                have h_457 : c_443 41 5 = c_80 1 5 := hrb_hR_447.2.1
                have h_458 : c_443 41 6 = c_80 1 4 := hrb_hR_447.2.2.2
                exact K c_443  hI_444 (fun a j hm => (hF_445 a j (fun q => q.elim (fun h => hm (Or.inl h)) (fun q => q.elim (fun h => hm (Or.inr (Or.inl h))) (fun q => q.elim (fun h => hm (Or.inr (Or.inr (Or.inl h)))) (fun q => q.elim (fun h => hm (Or.inr (Or.inr (Or.inr (Or.inl h))))) (fun q => q.elim (fun h => hm (Or.inr (Or.inr (Or.inr (Or.inr (Or.inl h)))))) (fun q => q.elim (fun h => hm (Or.inr (Or.inr (Or.inr (Or.inr (Or.inr (Or.inl h))))))) (fun h => hm (Or.inr (Or.inr (Or.inr (Or.inr (Or.inr (Or.inr h)))))))))))))).trans ((up_b (Decidable.or_iff_not_imp_left.mpr (fun h1 h2 => hm (Or.inl ⟨Decidable.not_not.mp h1, h2⟩)))).trans ((hF_420 a j (fun h => hm (Or.inl h))).trans ((hF_415 a j (fun h => hm (Or.inl h))).trans (hFc a j (fun q => q.elim (fun h => hm (Or.inl h)) (fun q => q.elim (fun h => hm (Or.inr (Or.inl h))) (fun q => q.elim (fun h => hm (Or.inr (Or.inr (Or.inl h)))) (fun q => q.elim (fun h => hm (Or.inr (Or.inr (Or.inr (Or.inl h))))) (fun q => q.elim (fun h => hm (Or.inr (Or.inr (Or.inr (Or.inr (Or.inl h)))))) (fun q => q.elim (fun h => hm (Or.inr (Or.inr (Or.inr (Or.inr (Or.inr (Or.inl h))))))) (fun h => hm (Or.inr (Or.inr (Or.inr (Or.inr (Or.inr (Or.inr h)))))))))))))))))) (rt_i2 ⟨⟨by first | (clear ha2 hq0 hq1 hq2 hq3 hq4 hq5 h_1 h_2 h_3 h_4 h_5 h_6 h_7 h_8 h_9 h_10 h_11 h_12 h_13 h_14 h_15 h_16 h_60 h_61 h_62 h_67 h_84 h_269 h_398 h_400 h_401 h_402 h_403 h_404 h_405 h_406 h_407 h_409 h_410 h_412 h_438 h_451 h_452 h_449 h_453 h_454 h_455 h_63 h_411 h_448; omega) | omega, by first | (clear ha2 hq0 hq1 hq2 hq3 hq4 hq5 h_1 h_2 h_3 h_4 h_5 h_6 h_7 h_8 h_9 h_10 h_11 h_12 h_13 h_14 h_15 h_16 h_60 h_61 h_62 h_67 h_84 h_269 h_399 h_400 h_401 h_402 h_403 h_404 h_405 h_406 h_407 h_409 h_410 h_412 h_438 h_451 h_452 h_449 h_453 h_454 h_455 h_456 h_63 h_411 h_448; omega) | omega⟩, by first | (clear ha2 hq0 hq1 hq2 hq3 hq4 hq5 h_1 h_2 h_3 h_4 h_5 h_6 h_7 h_8 h_9 h_10 h_11 h_12 h_13 h_14 h_15 h_16 h_60 h_61 h_62 h_67 h_84 h_269 h_398 h_399 h_400 h_401 h_402 h_403 h_404 h_406 h_407 h_409 h_410 h_412 h_438 h_451 h_452 h_449 h_453 h_454 h_455 h_456 h_63 h_411 h_448; omega) | omega, by first | (clear ha2 hq0 hq1 hq2 hq3 hq4 hq5 h_1 h_2 h_3 h_4 h_5 h_6 h_7 h_8 h_9 h_10 h_11 h_12 h_13 h_14 h_15 h_16 h_60 h_61 h_62 h_67 h_84 h_269 h_398 h_399 h_400 h_401 h_402 h_403 h_404 h_406 h_407 h_409 h_410 h_412 h_438 h_451 h_452 h_449 h_453 h_454 h_455 h_63 h_411 h_448; omega) | omega, by first | (clear ha2 hq0 hq1 hq2 hq3 hq4 hq5 h_1 h_2 h_3 h_4 h_5 h_6 h_7 h_8 h_9 h_10 h_11 h_12 h_13 h_14 h_15 h_16 h_60 h_61 h_62 h_67 h_84 h_269 h_398 h_400 h_401 h_402 h_403 h_404 h_405 h_406 h_407 h_409 h_410 h_412 h_438 h_451 h_452 h_449 h_453 h_454 h_455 h_456 h_63 h_411 h_448; omega) | omega⟩) (Or.inr (Or.inl (by first | (clear ha2 hq0 hq1 hq2 hq3 hq4 hq5 h_1 h_2 h_3 h_4 h_5 h_6 h_7 h_8 h_9 h_10 h_11 h_12 h_13 h_14 h_15 h_16 h_60 h_61 h_62 h_67 h_84 h_269 h_398 h_400 h_401 h_402 h_403 h_404 h_405 h_406 h_407 h_409 h_410 h_412 h_438 h_451 h_452 h_449 h_453 h_454 h_455 h_63 h_411 h_448; omega) | omega))) (by first | (clear ha2 hq0 hq1 hq2 hq3 hq4 hq5 h_1 h_2 h_3 h_4 h_5 h_6 h_7 h_8 h_9 h_10 h_11 h_12 h_13 h_14 h_15 h_16 h_60 h_61 h_62 h_67 h_84 h_269 h_398 h_399 h_400 h_401 h_402 h_403 h_404 h_405 h_406 h_407 h_409 h_410 h_412 h_438 h_451 h_452 h_453 h_454 h_455 h_456 h_63 h_411 h_448; omega) | omega) (fun hz => absurd hz (by omega))
      · as_aux_lemma =>
          skip
          refine bk_inl ?_
          refine q_istore rfl (by decide) ?_
          refine q_iload rfl rfl ?_
          refine q_iconst rfl ?_
          refine v_ic_ne_t (t := 37) rfl (by decide) (by decide) ?_
          refine q_aload_n rfl rfl ?_
          refine q_aload_n rfl rfl ?_
          refine q_iload_n rfl rfl ?_
          have kn_459 : Hid (c_69 1 4 = 0) := (hF_71 1 4 (fun h => absurd h.2 (ni rfl))).trans (hc_0)
          refine v_cv rfl rfl rfl (ck_p7 hA) (a68 hA rfl) ⟨⟨rfl, rfl⟩, by decide, rfl⟩ (Nat.le_of_ble_eq_true rfl) (Nat.le_of_ble_eq_true rfl) (fn_of (r_12 (a2 := a2) hI_70 hA (show 0 ≤ a2 ∧ a2 ≤ 6 from ha2) (fun c_460 hI_461 hF_462 => ?_)))
          intro hG_463
          refine bk_inl ?_
          refine q_aload_n rfl rfl ?_
          refine v_sip rfl (by decide) ?_
          refine q_iload rfl rfl ?_
          refine v_iadd (v := 2001) rfl (by decide) ?_
          refine v_cv rfl rfl rfl (ck_p7 hA) (a68 hA rfl) ⟨⟨rfl, rfl⟩, by decide, rfl⟩ (Nat.le_of_ble_eq_true rfl) (Nat.le_of_ble_eq_true rfl) ?_
          refine q_aload_n rfl rfl ?_
          have h_464 := ir_p7_5 hI_461 hA
          refine v_gi (z := 5) (v := c_460 (A + 7) 5) rfl rfl (ck_p7 hA) (a68 hA rfl) rfl rfl rfl ?_
          refine q_aload_n rfl rfl ?_
          refine v_gr (t := (A + 9)) rfl rfl (ck_p7 hA) (a68 hA rfl) rfl ?_
          refine v_al rfl (ck_p9 hA) (a68 hA rfl) (by decide) ?_
          by_cases h_465 : c_460 (A + 7) 5 ≥ 150
          · refine v_ic_ge_t (t := 32) rfl (by decide) ⟨by decide, h_465, (Int.le_trans h_464.2 (by decide))⟩ ?_
            refine q_vret rfl rfl ?_
            refine bk_inl ?_
            refine v_iinc (v := v + 1) rfl rfl (by decide) rfl ?_
            refine q_goto (t := 8) rfl (by decide) ?_
            have h_466 := ir_1_4 hI_461
            by_cases h_467 : c_460 1 4 = 0
            · skip
              refine Wp_ls [(0, .ref (A + 7)), (1, .ref 1), (2, vi a2), (3, vi (v + 1))] (lsub_cons rfl (lsub_cons rfl (lsub_cons rfl (lsub_cons rfl lsub_nil)))) ?_
              refine gh_stop ((s_13_l (sc := sc) (d := dh + 22) (c := c_460) (a2 := a2) (Z := fun _ => True) hI_461 hA ha2 (fun c9 Z9 h hI9 K9 => r_13 (d := dh + 1) hI9 hA ⟨by omega, h⟩ K9) (fun _ _ _ => trivial) 304) c_460 (v + 1) hI_461 (fun a j hm => rfl) ⟨by omega, by omega⟩ (by omega)) (fun hG_468 => ?_)
              refine q_aload_n rfl rfl ?_
              refine v_cv rfl rfl rfl rfl (by decide) ⟨⟨rfl, rfl⟩, by decide, rfl⟩ (Nat.le_of_ble_eq_true rfl) (Nat.le_of_ble_eq_true rfl) ?_
              refine q_aload_n rfl rfl ?_
              refine v_gi (z := 5) (v := (-1)) rfl rfl rfl (by decide) rfl rfl (hc_1) ?_
              refine q_iconst rfl ?_
              refine v_ic_ne_f (t := 12) rfl (by decide) (by decide) ?_
              refine q_iconst rfl ?_
              refine q_goto (t := 13) rfl (by decide) ?_
              refine v_zret rfl rfl (by decide) ?_
              refine bk_inl ?_
              refine v_if_eq_f (t := 67) rfl (by decide) (by decide) ?_
              refine q_aload_n rfl rfl ?_
              have kn_469 : Hid (c2 41 3 = e1) := (hFc 41 3 (fun q => q.elim (fun h => absurd h.2 (ni rfl)) (fun q => q.elim (fun h => absurd h.2 (ni rfl)) (fun q => q.elim (fun h => absurd h.2 (ni rfl)) (fun q => q.elim (fun h => absurd h.2 (ni rfl)) (fun q => q.elim (fun h => absurd h.2 (ni rfl)) (fun q => q.elim (fun h => absurd h (nn rfl)) (fun h => absurd h (nn rfl))))))))).trans (hr_e1)
              have h_470 : -2147483648 ≤ (H (nx F e1 a)) ∧ (H (nx F e1 a)) ≤ 2147483647 := by rw [← hH (nx F e1 a)]; exact ir_43 hI (nx F e1 a)
              have h_471 := hU (nx F e1 a) (by omega) (by omega)
              have h_472 := hb_or (b := H) (e := e1) (r := (nx F e1 a))
              have h_473 := hb_bd (b := H) (e := e1) (r := (nx F e1 a)) (lo := -2147483648) (hi := 2147483647) h_470 (by decide)
              refine v_cv rfl rfl rfl rfl (by decide) ⟨⟨rfl, rfl⟩, by decide, rfl⟩ (Nat.le_of_ble_eq_true rfl) (Nat.le_of_ble_eq_true rfl) (f_154 (e1 := e1) (a9 := a) (B := H) (r8 := (nx F e1 a)) (r := (hb H e1 (nx F e1 a))) hI2 ((hid kn_469)) ((hr_a)) (fun j => (hFc 43 j (fun q => q.elim (fun h => absurd h.1 (nn rfl)) (fun q => q.elim (fun h => absurd h.1 (nn rfl)) (fun q => q.elim (fun h => absurd h.1 (nn rfl)) (fun q => q.elim (fun h => absurd h.1 (nn rfl)) (fun q => q.elim (fun h => absurd h.1 (nn rfl)) (fun q => q.elim (fun h => absurd h (nn rfl)) (fun h => absurd h (nn rfl))))))))).trans (hH j)) ((nx_tr hU (by first | (clear ha2 hq0 hq1 hq2 hq3 hq4 hq5 h_1 h_2 h_3 h_4 h_5 h_6 h_7 h_8 h_9 h_10 h_11 h_12 h_13 h_14 h_15 h_16 h_60 h_61 h_62 h_72 h_464 h_465 h_466 h_467 h_63; omega) | omega) (by first | (clear ha2 hq0 hq1 hq2 hq3 hq4 h_1 h_2 h_3 h_4 h_5 h_6 h_7 h_8 h_9 h_10 h_11 h_12 h_13 h_14 h_15 h_16 h_60 h_61 h_62 h_72 h_464 h_465 h_466 h_467 h_63; omega) | omega)).trans (rfl)) rfl (fun c_474 hI_475 hF_476 h_477 => ?_))
              refine bk_inl ?_
              refine v_bip rfl (by decide) ?_
              refine v_ic_eq_f (t := 29) rfl (by decide) ⟨by first | (clear ha2 hq0 hq1 hq2 hq3 h_3 h_4 h_5 h_6 h_7 h_8 h_9 h_10 h_11 h_12 h_13 h_14 h_15 h_60 h_62 h_464 h_465 h_466 h_467; omega) | omega, ⟨h_473.1, h_473.2⟩, by decide, by decide⟩ ?_
              refine q_aload_n rfl rfl ?_
              have kn_478 : Hid (c_474 41 3 = e1) := (hF_476 41 3 (fun h => absurd h.2 (ni rfl))).trans (hid kn_469)
              refine v_cv rfl rfl rfl rfl (by decide) ⟨⟨rfl, rfl⟩, by decide, rfl⟩ (Nat.le_of_ble_eq_true rfl) (Nat.le_of_ble_eq_true rfl) (f_154 (e1 := e1) (a9 := (nx F e1 a)) (B := H) (r8 := (nx F e1 a)) (r := (hb H e1 (nx F e1 a))) hI_475 ((hid kn_478)) ((h_477)) (fun j => ((hF_476 43 j (fun h => absurd h.1 (nn rfl))).trans (hFc 43 j (fun q => q.elim (fun h => absurd h.1 (nn rfl)) (fun q => q.elim (fun h => absurd h.1 (nn rfl)) (fun q => q.elim (fun h => absurd h.1 (nn rfl)) (fun q => q.elim (fun h => absurd h.1 (nn rfl)) (fun q => q.elim (fun h => absurd h.1 (nn rfl)) (fun q => q.elim (fun h => absurd h (nn rfl)) (fun h => absurd h (nn rfl)))))))))).trans (hH j)) ((nx_tr hU (by first | (clear ha2 hq0 hq1 hq2 hq3 hq4 hq5 h_1 h_2 h_3 h_4 h_5 h_6 h_7 h_8 h_9 h_10 h_11 h_12 h_13 h_14 h_15 h_16 h_60 h_62 h_72 h_464 h_465 h_466 h_467 h_470 h_471 h_473 h_63 h_472; omega) | omega) (by first | (clear ha2 hq0 hq1 hq2 hq3 hq4 h_1 h_2 h_3 h_4 h_5 h_6 h_7 h_8 h_9 h_10 h_11 h_12 h_13 h_14 h_15 h_16 h_60 h_61 h_62 h_72 h_464 h_465 h_466 h_467 h_470 h_471 h_473 h_63 h_472; omega) | omega)).trans ((nx_z (by omega)))) rfl (fun c_479 hI_480 hF_481 h_482 => ?_))
              refine bk_inl ?_
              refine v_bip rfl (by decide) ?_
              refine v_ic_ne_f (t := 67) rfl (by decide) (by first | (clear ha2 hq0 hq1 hq2 hq3 h_3 h_4 h_5 h_6 h_7 h_8 h_9 h_10 h_11 h_12 h_13 h_14 h_15 h_60 h_62 h_464 h_465 h_466 h_467; omega) | omega) ?_
              refine q_aload_n rfl rfl ?_
              have kn_483 : Hid (c_479 41 3 = e1) := (hF_481 41 3 (fun h => absurd h.2 (ni rfl))).trans (hid kn_478)
              refine v_cv rfl rfl rfl rfl (by decide) ⟨⟨rfl, rfl⟩, by decide, rfl⟩ (Nat.le_of_ble_eq_true rfl) (Nat.le_of_ble_eq_true rfl) (f_154 (e1 := e1) (a9 := (nx F e1 a)) (B := H) (r8 := (nx F e1 a)) (r := (hb H e1 (nx F e1 a))) hI_480 ((hid kn_483)) ((h_482)) (fun j => ((hF_481 43 j (fun h => absurd h.1 (nn rfl))).trans ((hF_476 43 j (fun h => absurd h.1 (nn rfl))).trans (hFc 43 j (fun q => q.elim (fun h => absurd h.1 (nn rfl)) (fun q => q.elim (fun h => absurd h.1 (nn rfl)) (fun q => q.elim (fun h => absurd h.1 (nn rfl)) (fun q => q.elim (fun h => absurd h.1 (nn rfl)) (fun q => q.elim (fun h => absurd h.1 (nn rfl)) (fun q => q.elim (fun h => absurd h (nn rfl)) (fun h => absurd h (nn rfl))))))))))).trans (hH j)) ((nx_tr hU (by first | (clear ha2 hq0 hq1 hq2 hq3 hq4 hq5 h_1 h_2 h_3 h_4 h_5 h_6 h_7 h_8 h_9 h_10 h_11 h_12 h_13 h_14 h_15 h_16 h_60 h_62 h_72 h_464 h_465 h_466 h_467 h_470 h_471 h_473 h_63 h_472; omega) | omega) (by first | (clear ha2 hq0 hq1 hq2 hq3 hq4 h_1 h_2 h_3 h_4 h_5 h_6 h_7 h_8 h_9 h_10 h_11 h_12 h_13 h_14 h_15 h_16 h_60 h_61 h_62 h_72 h_464 h_465 h_466 h_467 h_470 h_471 h_473 h_63 h_472; omega) | omega)).trans ((nx_z (by omega)))) rfl (fun c_484 hI_485 hF_486 h_487 => ?_))
              refine bk_inl ?_
              refine v_bip rfl (by decide) ?_
              refine v_ic_ne_t (t := 42) rfl (by decide) ⟨by first | (clear ha2 hq0 hq1 hq2 hq3 h_3 h_4 h_5 h_6 h_7 h_8 h_9 h_10 h_11 h_12 h_13 h_14 h_15 h_60 h_62 h_464 h_465 h_466 h_467; omega) | omega, ⟨h_473.1, h_473.2⟩, by decide, by decide⟩ ?_
              refine q_iconst rfl ?_
              refine q_istore_n rfl (by decide) ?_
              refine q_aload_n rfl rfl ?_
              refine q_dup rfl rfl ?_
              refine v_gi (z := 4) (v := (nx F e1 a)) rfl rfl rfl (by decide) rfl rfl (h_487) ?_
              refine q_iconst rfl ?_
              refine v_iadd (v := (nx F e1 a) + 1) rfl rfl ?_
              refine v_pi (z := 4) rfl rfl rfl (by decide) rfl rfl rfl (by decide) ?_
              refine q_aload_n rfl rfl ?_
              have kn_488 : Hid (c_474 41 5 = (-1)) := (hF_476 41 5 (fun h => absurd h.2 (ni rfl))).trans (hc_1)
              have kn_489 : Hid (c_479 41 5 = (-1)) := (hF_481 41 5 (fun h => absurd h.2 (ni rfl))).trans (hid kn_488)
              have kn_490 : Hid (c_484 41 5 = (-1)) := (hF_486 41 5 (fun h => absurd h.2 (ni rfl))).trans (hid kn_489)
              have hI_491 := iw_41_4 (v := (nx F e1 a) + 1) hI_485 ⟨by first | exact rgp_l (rg_be h_61 (ha.1) ((rg_eq hg_e1 h_1).2)).1 (by decide) | omega, by first | exact rgp_h (rg_be h_61 (ha.1) ((rg_eq hg_e1 h_1).2)).2 (by decide) | omega⟩
              have kn_492 : Hid (c_69 1 1 = e1) := (hF_71 1 1 (fun h => absurd h.2 (ni rfl))).trans (hid kn_59)
              have kn_493 : Hid (c_484 41 3 = e1) := (hF_486 41 3 (fun h => absurd h.2 (ni rfl))).trans (hid kn_483)
              have kn_494 : Hid (c_69 1 5 = (-1)) := (hF_71 1 5 (fun h => absurd h.2 (ni rfl))).trans (hc_2)
              have kn_495 : Hid (c_69 (A + 7) 5 = nw) := (hF_71 (A + 7) 5 (fun h => absurd h.1 (np hA rfl rfl))).trans (hg_nw)
              have kn_496 : Hid (c_474 41 29 = nw) := (hF_476 41 29 (fun h => absurd h.2 (ni rfl))).trans (hr_nw)
              have kn_497 : Hid (c_479 41 29 = nw) := (hF_481 41 29 (fun h => absurd h.2 (ni rfl))).trans (hid kn_496)
              have kn_498 : Hid (c_484 41 29 = nw) := (hF_486 41 29 (fun h => absurd h.2 (ni rfl))).trans (hid kn_497)
              have kn_499 : Hid (c_474 41 7 = a2) := (hF_476 41 7 (fun h => absurd h.2 (ni rfl))).trans (hc_3)
              have kn_500 : Hid (c_479 41 7 = a2) := (hF_481 41 7 (fun h => absurd h.2 (ni rfl))).trans (hid kn_499)
              have kn_501 : Hid (c_484 41 7 = a2) := (hF_486 41 7 (fun h => absurd h.2 (ni rfl))).trans (hid kn_500)
              have h_502 : c_69 1 4 = 0 := (hid kn_459)
              have h_503 : c_69 1 2 = (nx F e1 a) + 1 := (hz_73)
              have h_504 : c_69 1 5 = (-1) := (hid kn_494)
              have h_505 : (up c_484 41 4 ((nx F e1 a) + 1)) 41 5 = (-1) := ((up_n (by decide)).trans (hid kn_490))
              have h_506 : (up c_484 41 4 ((nx F e1 a) + 1)) 41 4 = (nx F e1 a) + 1 := (up_e rfl)
              have h_507 := ir_41_6 hI2
              have kn_508 : Hid (c_474 41 6 = c2 41 6) := hF_476 41 6 (fun h => absurd h.2 (ni rfl))
              have kn_509 : Hid (c_479 41 6 = c2 41 6) := (hF_481 41 6 (fun h => absurd h.2 (ni rfl))).trans (hid kn_508)
              have kn_510 : Hid (c_484 41 6 = c2 41 6) := (hF_486 41 6 (fun h => absurd h.2 (ni rfl))).trans (hid kn_509)
              have h_511 : (up c_484 41 4 ((nx F e1 a) + 1)) 41 6 = c2 41 6 := ((up_n (by decide)).trans (hid kn_510))
              have hA_512 : Ce nw (c_69 (A + 9)) ((up c_484 41 4 ((nx F e1 a) + 1)) 50) ((up c_484 41 4 ((nx F e1 a) + 1)) 51) := ce_fr hrl0 (fun j => hF_71 (A + 9) j (fun h => absurd h.1 (np hA rfl rfl))) (fun j => (up_c (nn rfl)).trans ((hF_486 50 j (fun h => absurd h.1 (nn rfl))).trans ((hF_481 50 j (fun h => absurd h.1 (nn rfl))).trans (hF_476 50 j (fun h => absurd h.1 (nn rfl)))))) (fun j => (up_c (nn rfl)).trans ((hF_486 51 j (fun h => absurd h.1 (nn rfl))).trans ((hF_481 51 j (fun h => absurd h.1 (nn rfl))).trans (hF_476 51 j (fun h => absurd h.1 (nn rfl))))))
              refine v_cv rfl rfl rfl rfl (by decide) ⟨⟨rfl, rfl⟩, by decide, rfl⟩ (Nat.le_of_ble_eq_true rfl) (Nat.le_of_ble_eq_true rfl) (L_12 (m := c_69) (a2 := a2) (e1 := e1) (f0 := 0) (g0 := (-1)) (p0 := (nx F e1 a) + 1) (n0 := nw) (o0 := a2) (F := F) (H := H) hI_491 hI_70 hI_461 hA (show 0 ≤ a2 ∧ a2 ≤ 6 from ha2) (by first | (clear ha2 hq0 hq1 hq2 hq3 hq4 hq5 h_1 h_2 h_3 h_4 h_5 h_6 h_7 h_8 h_9 h_10 h_11 h_12 h_13 h_14 h_15 h_16 h_60 h_61 h_62 h_72 h_464 h_465 h_466 h_467 h_470 h_471 h_473 h_63 h_472; omega) | omega) (by first | (clear ha2 hq0 hq1 hq2 hq3 hq4 hq5 h_1 h_2 h_3 h_4 h_5 h_6 h_7 h_8 h_9 h_10 h_11 h_12 h_13 h_14 h_15 h_16 h_60 h_61 h_62 h_72 h_464 h_465 h_466 h_467 h_470 h_471 h_473 h_63 h_472; omega) | omega) (by first | (clear ha2 hq0 hq1 hq2 hq3 hq4 hq5 h_1 h_2 h_3 h_4 h_5 h_6 h_7 h_8 h_9 h_10 h_11 h_12 h_13 h_14 h_15 h_16 h_60 h_61 h_62 h_72 h_464 h_465 h_466 h_467 h_470 h_471 h_473 h_63 h_472; omega) | omega) (by first | (clear ha2 hq0 hq1 hq2 hq4 hq5 h_1 h_2 h_3 h_4 h_5 h_6 h_7 h_8 h_9 h_10 h_11 h_12 h_13 h_14 h_15 h_60 h_62 h_72 h_464 h_465 h_466 h_467 h_470 h_471 h_473 h_63 h_472; omega) | omega) (by first | (clear ha2 hq0 hq1 hq2 hq3 hq4 hq5 h_1 h_2 h_3 h_4 h_5 h_6 h_7 h_8 h_9 h_10 h_11 h_12 h_13 h_14 h_15 h_16 h_60 h_61 h_62 h_464 h_465 h_466 h_467 h_470 h_471 h_473 h_63 h_472; omega) | omega) (by first | (clear ha2 hq0 hq1 hq2 hq3 hq4 h_1 h_2 h_3 h_4 h_5 h_6 h_7 h_8 h_9 h_10 h_11 h_12 h_13 h_14 h_15 h_16 h_60 h_61 h_62 h_72 h_464 h_465 h_466 h_467 h_470 h_471 h_473 h_63 h_472; omega) | omega) ((hid kn_492)) (((up_n (by decide)).trans (hid kn_493))) ((hid kn_459)) ((hid kn_494)) ((hz_73)) ((hid kn_495)) (((up_n (by decide)).trans (hid kn_498))) (((up_n (by decide)).trans (hid kn_501))) (fun j => ((hF_71 2 j (fun h => absurd h.1 (nn rfl))).trans (hFm 2 j (fun q => q.elim (fun h => absurd h.1 (nn rfl)) (fun q => q.elim (fun h => absurd h.1 (nn rfl)) (fun q => q.elim (fun h => absurd h.1 (nn rfl)) (fun q => q.elim (fun h => absurd h.1 (pn hA rfl rfl)) (fun h => absurd h (pn hA rfl rfl)))))))).trans (hF j)) (fun j => ((up_c (nn rfl)).trans ((hF_486 43 j (fun h => absurd h.1 (nn rfl))).trans ((hF_481 43 j (fun h => absurd h.1 (nn rfl))).trans ((hF_476 43 j (fun h => absurd h.1 (nn rfl))).trans (hFc 43 j (fun q => q.elim (fun h => absurd h.1 (nn rfl)) (fun q => q.elim (fun h => absurd h.1 (nn rfl)) (fun q => q.elim (fun h => absurd h.1 (nn rfl)) (fun q => q.elim (fun h => absurd h.1 (nn rfl)) (fun q => q.elim (fun h => absurd h.1 (nn rfl)) (fun q => q.elim (fun h => absurd h (nn rfl)) (fun h => absurd h (nn rfl))))))))))))).trans (hH j)) hU (rt_i1 ⟨by first | (clear ha2 hq0 hq1 hq2 hq3 hq4 hq5 h_1 h_2 h_3 h_4 h_5 h_6 h_7 h_8 h_9 h_10 h_11 h_12 h_13 h_14 h_15 h_16 h_60 h_61 h_62 h_72 h_464 h_465 h_466 h_467 h_470 h_471 h_473 h_507 h_63 h_472; omega) | omega, by first | (clear ha2 hq0 hq1 hq2 hq3 hq4 hq5 h_1 h_2 h_3 h_4 h_5 h_6 h_7 h_8 h_9 h_10 h_11 h_12 h_13 h_14 h_15 h_16 h_60 h_61 h_62 h_72 h_464 h_465 h_466 h_467 h_470 h_471 h_473 h_507 h_63 h_472; omega) | omega, by first | (clear ha2 hq0 hq1 hq2 hq3 hq4 hq5 h_1 h_2 h_3 h_4 h_5 h_6 h_7 h_8 h_9 h_10 h_11 h_12 h_13 h_14 h_15 h_16 h_60 h_61 h_62 h_72 h_464 h_465 h_466 h_467 h_470 h_471 h_473 h_507 h_63 h_472; omega) | omega, by first | (clear ha2 hq0 hq1 hq2 hq3 hq4 hq5 h_1 h_2 h_3 h_4 h_5 h_6 h_7 h_8 h_9 h_10 h_11 h_12 h_13 h_14 h_15 h_16 h_60 h_61 h_62 h_72 h_464 h_465 h_466 h_467 h_470 h_471 h_473 h_507 h_63 h_472; omega) | omega⟩) (ce_le hA_512 (by omega)) H13 hG_463 (fun c_513 hI_514 hF_515 hR_517 h_518 h_519 hA_520 => ?_))
              refine bk_inl ?_
              have h_521 := ir_41_29 hI_514
              have h_522 := ir_1_2 hI_461
              have h_523 := ir_41_7 hI_514
              refine q_aload_n rfl rfl ?_
              refine q_iload_n rfl rfl ?_
              refine q_iconst rfl ?_
              refine v_cv rfl rfl rfl rfl (by decide) ⟨⟨rfl, rfl⟩, by decide, rfl⟩ (Nat.le_of_ble_eq_true rfl) (Nat.le_of_ble_eq_true rfl) ?_
              refine q_aload_n rfl rfl ?_
              refine v_cv rfl rfl rfl rfl (by decide) ⟨⟨rfl, rfl⟩, by decide, rfl⟩ (Nat.le_of_ble_eq_true rfl) (Nat.le_of_ble_eq_true rfl) ?_
              refine q_aload_n rfl rfl ?_
              have h_524 := ir_41_5 hI_514
              have h_525 := ir_1_5 hI_461
              have h_526 := ir_41_4 hI_514
              have h_527 := ir_41_6 hI_514
              have h_528 := rt_ok hR_517 (by omega)
              have hro_hR_517 := rt_ok hR_517 (by omega)
              refine v_gi (z := 5) (v := (-1)) rfl rfl rfl (by decide) rfl rfl hro_hR_517.2.1 ?_
              refine q_iconst rfl ?_
              refine v_ic_ne_f (t := 12) rfl (by decide) (by decide) ?_
              refine q_iconst rfl ?_
              refine q_goto (t := 13) rfl (by decide) ?_
              refine v_zret rfl rfl (by decide) ?_
              refine bk_inl ?_
              refine v_if_ne_t (t := 8) rfl (by decide) (by decide) ?_
              refine q_aload_n rfl rfl ?_
              refine v_gr (t := 50) rfl rfl rfl (by decide) rfl ?_
              refine q_aload_n rfl rfl ?_
              refine v_gi (z := 29) (v := c_513 41 29) rfl rfl rfl (by decide) rfl rfl rfl ?_
              refine q_iload_n rfl rfl ?_
              refine v_is rfl rfl (by decide) (by decide) (by omega) ?_
              refine q_aload_n rfl rfl ?_
              refine v_gr (t := 51) rfl rfl rfl (by decide) rfl ?_
              refine q_aload_n rfl rfl ?_
              refine v_gi (z := 29) (v := c_513 41 29) rfl rfl rfl (by decide) rfl rfl (up_c (nn rfl)) ?_
              refine q_iload_n rfl rfl ?_
              refine v_is rfl rfl (by decide) (by decide) (by omega) ?_
              refine q_aload_n rfl rfl ?_
              refine q_dup rfl rfl ?_
              refine v_gi (z := 29) (v := c_513 41 29) rfl rfl rfl (by decide) rfl rfl ((up_c (nn rfl)).trans (up_c (nn rfl))) ?_
              refine q_iconst rfl ?_
              refine v_iadd (v := c_513 41 29 + 1) rfl rfl ?_
              refine v_pi (z := 29) rfl rfl rfl (by decide) rfl rfl rfl (by decide) ?_
              refine q_vret rfl rfl ?_
              refine bk_inl ?_
              refine q_goto (t := 4) rfl (by decide) ?_
              have hI_529 := iw_50 (j := c_513 41 29) (v := 3) hI_514 ⟨by decide, by decide⟩
              have hI_530 := iw_51 (j := c_513 41 29) (v := 0) hI_529 ⟨by decide, by decide⟩
              have hI_531 := iw_41_29 (v := c_513 41 29 + 1) hI_530 ⟨by first | exact rgp_l h_521.1 (by decide) | omega, by first | (clear hq0 hq1 h_3 h_4 h_8 h_13 h_14 h_15 h_60 h_507 h_523 h_527; omega) | omega⟩
              refine Wp_ls [(0, .ref 41)] (lsub_cons rfl lsub_nil) ?_
              have hA_532 : Ce (c_460 (A + 7) 5) (c_460 (A + 9)) ((up (up (up c_513 50 (c_513 41 29) 3) 51 (c_513 41 29) 0) 41 29 (c_513 41 29 + 1)) 50) ((up (up (up c_513 50 (c_513 41 29) 3) 51 (c_513 41 29) 0) 41 29 (c_513 41 29 + 1)) 51) := ce_z (by omega)
              exact ih (up (up (up c_513 50 (c_513 41 29) 3) 51 (c_513 41 29) 0) 41 29 (c_513 41 29 + 1)) c_460 (v + 1) (c_460 1 2) (c_460 (A + 7) 5) hI_531 (fun a j hm => (up_b (Decidable.or_iff_not_imp_left.mpr (fun h1 h2 => hm (Or.inr (Or.inr (Or.inr (Or.inr (Or.inl ⟨Decidable.not_not.mp h1, h2⟩)))))))).trans ((up_b (Decidable.or_iff_not_imp_left.mpr (fun h1 h2 => hm (Or.inr (Or.inr (Or.inr (Or.inr (Or.inr (Or.inr (Decidable.not_not.mp h1)))))))))).trans ((up_b (Decidable.or_iff_not_imp_left.mpr (fun h1 h2 => hm (Or.inr (Or.inr (Or.inr (Or.inr (Or.inr (Or.inl (Decidable.not_not.mp h1)))))))))).trans ((hF_515 a j (fun q => q.elim (fun h => hm (Or.inl h)) (fun q => q.elim (fun h => hm (Or.inr (Or.inl h))) (fun q => q.elim (fun h => hm (Or.inr (Or.inr (Or.inl h)))) (fun q => q.elim (fun h => hm (Or.inr (Or.inr (Or.inr (Or.inl h))))) (fun q => q.elim (fun h => hm (Or.inr (Or.inr (Or.inr (Or.inr (Or.inl h)))))) (fun q => q.elim (fun h => hm (Or.inr (Or.inr (Or.inr (Or.inr (Or.inr (Or.inl h))))))) (fun h => hm (Or.inr (Or.inr (Or.inr (Or.inr (Or.inr (Or.inr h)))))))))))))).trans ((up_b (Decidable.or_iff_not_imp_left.mpr (fun h1 h2 => hm (Or.inl ⟨Decidable.not_not.mp h1, h2⟩)))).trans ((hF_486 a j (fun h => hm (Or.inl h))).trans ((hF_481 a j (fun h => hm (Or.inl h))).trans ((hF_476 a j (fun h => hm (Or.inl h))).trans (hFc a j (fun q => q.elim (fun h => hm (Or.inl h)) (fun q => q.elim (fun h => hm (Or.inr (Or.inl h))) (fun q => q.elim (fun h => hm (Or.inr (Or.inr (Or.inl h)))) (fun q => q.elim (fun h => hm (Or.inr (Or.inr (Or.inr (Or.inl h))))) (fun q => q.elim (fun h => hm (Or.inr (Or.inr (Or.inr (Or.inr (Or.inl h)))))) (fun q => q.elim (fun h => hm (Or.inr (Or.inr (Or.inr (Or.inr (Or.inr (Or.inl h))))))) (fun h => hm (Or.inr (Or.inr (Or.inr (Or.inr (Or.inr (Or.inr h)))))))))))))))))))))) hI_461 (fun a j hm => (hF_462 a j (fun q => q.elim (fun h => hm (Or.inl h)) (fun q => q.elim (fun h => hm (Or.inr (Or.inl h))) (fun q => q.elim (fun h => hm (Or.inr (Or.inr (Or.inl h)))) (fun q => q.elim (fun h => hm (Or.inr (Or.inr (Or.inr (Or.inl h))))) (fun h => hm (Or.inr (Or.inr (Or.inr (Or.inr h)))))))))).trans ((hF_71 a j (fun h => hm (Or.inl h))).trans (hFm a j (fun q => q.elim (fun h => hm (Or.inl h)) (fun q => q.elim (fun h => hm (Or.inr (Or.inl h))) (fun q => q.elim (fun h => hm (Or.inr (Or.inr (Or.inl h)))) (fun q => q.elim (fun h => hm (Or.inr (Or.inr (Or.inr (Or.inl h))))) (fun h => hm (Or.inr (Or.inr (Or.inr (Or.inr h)))))))))))) ⟨by omega, by omega⟩ ⟨by omega, by omega⟩ ⟨by omega, by omega⟩ (rfl) (((((up_n (by decide)).trans ((up_c (nn rfl)).trans (up_c (nn rfl))))).trans (hro_hR_517.2.2.1))) (rfl) ((show _ = c_513 41 29 + 1 from (up_e rfl)).trans (by omega)) ((show _ = c_460 1 4 from rfl).trans (by omega)) (((((up_n (by decide)).trans ((up_c (nn rfl)).trans (up_c (nn rfl))))).trans (hro_hR_517.2.1))) ((show _ = c_460 1 5 from rfl).trans (by omega)) ((show _ = c_513 41 7 from ((up_n (by decide)).trans ((up_c (nn rfl)).trans (up_c (nn rfl))))).trans (by omega)) (by first | (clear hq0 hq1 h_3 h_4 h_8 h_13 h_14 h_15 h_60 h_62 h_470 h_471 h_473 h_507 h_523 h_527; omega) | omega) (by first | (clear hq0 hq1 h_3 h_4 h_8 h_13 h_14 h_15 h_60 h_62 h_470 h_471 h_473 h_507 h_523 h_527; omega) | omega) (by first | (clear ha2 hq0 hq1 hq2 hq3 h_3 h_4 h_5 h_6 h_7 h_8 h_9 h_10 h_11 h_12 h_13 h_14 h_15 h_60 h_62 h_464 h_465 h_466 h_467 h_470 h_471 h_473 h_507 h_521 h_523 h_519 h_524 h_525 h_526 h_527; omega) | omega) (by first | (clear hq0 hq1 h_3 h_4 h_8 h_13 h_14 h_15 h_60 h_62 h_470 h_471 h_473 h_507 h_523 h_527; omega) | omega) (ce_le hA_532 (by omega)) hG_468 (by omega)
            · skip
              refine q_iload_n rfl rfl ?_
              refine v_sip rfl (by decide) ?_
              by_cases h_533 : v + 1 ≥ 150
              · refine v_ic_ge_t (t := 59) rfl (by decide) ⟨by decide, h_533, by first | exact rgp_h hv.2 (by decide) | omega⟩ ?_
                refine q_vret rfl rfl ?_
                intro hE_534
                have hW : Wd P Q P P c_460 = Wd P Q P P m9 := (Prod.mk.inj (Prod.mk.inj hE_534).2).1
                have h_535 := ir_1_4 hJ9
                have h_536 : m9 1 4 = c_460 1 4 := wd_fv (z := 4) 4 rfl hW rfl rfl rfl rfl (by decide) rfl ⟨(Int.le_trans (by decide) h_466.1), (Int.le_trans h_466.2 (by decide))⟩ ⟨(Int.le_trans (by decide) h_535.1), (Int.le_trans h_535.2 (by decide))⟩
                have h_537 := ir_1_2 hI_461
                have h_538 := ir_1_2 hJ9
                have h_539 : m9 1 2 = c_460 1 2 := wd_fv (z := 2) 2 rfl hW rfl rfl rfl rfl (by decide) rfl ⟨(Int.le_trans (by decide) h_537.1), (Int.le_trans h_537.2 (by decide))⟩ ⟨(Int.le_trans (by decide) h_538.1), (Int.le_trans h_538.2 (by decide))⟩
                have h_540 := ir_1_5 hI_461
                have h_541 := ir_1_5 hJ9
                have h_542 : m9 1 5 = c_460 1 5 := wd_fv (z := 5) 5 rfl hW rfl rfl rfl rfl (by decide) rfl ⟨(Int.le_trans (by decide) h_540.1), (Int.le_trans h_540.2 (by decide))⟩ ⟨(Int.le_trans (by decide) h_541.1), (Int.le_trans h_541.2 (by decide))⟩
                have h_543 := ir_p7_5 hJ9 hA
                have h_544 : m9 (A + 7) 5 = c_460 (A + 7) 5 := wd_fv (z := 5) 5 rfl hW (ck_p7 hA) (ck_p7 hA) rfl rfl (by omega) rfl ⟨(Int.le_trans (by decide) h_464.1), (Int.le_trans h_464.2 (by decide))⟩ ⟨(Int.le_trans (by decide) h_543.1), (Int.le_trans h_543.2 (by decide))⟩
                refine q_aload_n rfl rfl ?_
                refine v_cv rfl rfl rfl rfl (by decide) ⟨⟨rfl, rfl⟩, by decide, rfl⟩ (Nat.le_of_ble_eq_true rfl) (Nat.le_of_ble_eq_true rfl) ?_
                refine q_aload_n rfl rfl ?_
                refine v_gi (z := 5) (v := (-1)) rfl rfl rfl (by decide) rfl rfl (hc_1) ?_
                refine q_iconst rfl ?_
                refine v_ic_ne_f (t := 12) rfl (by decide) (by decide) ?_
                refine q_iconst rfl ?_
                refine q_goto (t := 13) rfl (by decide) ?_
                refine v_zret rfl rfl (by decide) ?_
                refine bk_inl ?_
                refine v_if_eq_f (t := 67) rfl (by decide) (by decide) ?_
                refine q_aload_n rfl rfl ?_
                have kn_545 : Hid (c2 41 3 = e1) := (hFc 41 3 (fun q => q.elim (fun h => absurd h.2 (ni rfl)) (fun q => q.elim (fun h => absurd h.2 (ni rfl)) (fun q => q.elim (fun h => absurd h.2 (ni rfl)) (fun q => q.elim (fun h => absurd h.2 (ni rfl)) (fun q => q.elim (fun h => absurd h.2 (ni rfl)) (fun q => q.elim (fun h => absurd h (nn rfl)) (fun h => absurd h (nn rfl))))))))).trans (hr_e1)
                have h_546 : -2147483648 ≤ (H (nx F e1 a)) ∧ (H (nx F e1 a)) ≤ 2147483647 := by rw [← hH (nx F e1 a)]; exact ir_43 hI (nx F e1 a)
                have h_547 := hU (nx F e1 a) (by omega) (by omega)
                have h_548 := hb_or (b := H) (e := e1) (r := (nx F e1 a))
                have h_549 := hb_bd (b := H) (e := e1) (r := (nx F e1 a)) (lo := -2147483648) (hi := 2147483647) h_546 (by decide)
                refine v_cv rfl rfl rfl rfl (by decide) ⟨⟨rfl, rfl⟩, by decide, rfl⟩ (Nat.le_of_ble_eq_true rfl) (Nat.le_of_ble_eq_true rfl) (f_154 (e1 := e1) (a9 := a) (B := H) (r8 := (nx F e1 a)) (r := (hb H e1 (nx F e1 a))) hI2 ((hid kn_545)) ((hr_a)) (fun j => (hFc 43 j (fun q => q.elim (fun h => absurd h.1 (nn rfl)) (fun q => q.elim (fun h => absurd h.1 (nn rfl)) (fun q => q.elim (fun h => absurd h.1 (nn rfl)) (fun q => q.elim (fun h => absurd h.1 (nn rfl)) (fun q => q.elim (fun h => absurd h.1 (nn rfl)) (fun q => q.elim (fun h => absurd h (nn rfl)) (fun h => absurd h (nn rfl))))))))).trans (hH j)) ((nx_tr hU (by first | (clear ha2 hq0 hq1 hq2 hq3 hq4 hq5 h_1 h_2 h_3 h_4 h_5 h_6 h_7 h_8 h_9 h_10 h_11 h_12 h_13 h_14 h_15 h_60 h_61 h_62 h_72 h_464 h_465 h_466 h_535 h_536 h_537 h_538 h_539 h_540 h_541 h_542 h_543 h_544 h_63; omega) | omega) (by first | (clear ha2 hq0 hq1 hq2 hq3 hq4 h_1 h_2 h_3 h_4 h_5 h_6 h_7 h_8 h_9 h_10 h_11 h_12 h_13 h_14 h_15 h_16 h_60 h_61 h_62 h_72 h_464 h_465 h_466 h_533 h_535 h_536 h_537 h_538 h_539 h_540 h_541 h_542 h_543 h_544 h_63; omega) | omega)).trans (rfl)) rfl (fun c_550 hI_551 hF_552 h_553 => ?_))
                refine bk_inl ?_
                refine v_bip rfl (by decide) ?_
                refine v_ic_eq_f (t := 29) rfl (by decide) ⟨by first | (clear ha2 hq0 hq1 hq2 hq3 h_3 h_4 h_5 h_6 h_7 h_8 h_9 h_10 h_11 h_12 h_13 h_14 h_15 h_60 h_62 h_464 h_465 h_466 h_533 h_535 h_536 h_537 h_538 h_539 h_540 h_541 h_542 h_543 h_544; omega) | omega, ⟨h_549.1, h_549.2⟩, by decide, by decide⟩ ?_
                refine q_aload_n rfl rfl ?_
                have kn_554 : Hid (c_550 41 3 = e1) := (hF_552 41 3 (fun h => absurd h.2 (ni rfl))).trans (hid kn_545)
                refine v_cv rfl rfl rfl rfl (by decide) ⟨⟨rfl, rfl⟩, by decide, rfl⟩ (Nat.le_of_ble_eq_true rfl) (Nat.le_of_ble_eq_true rfl) (f_154 (e1 := e1) (a9 := (nx F e1 a)) (B := H) (r8 := (nx F e1 a)) (r := (hb H e1 (nx F e1 a))) hI_551 ((hid kn_554)) ((h_553)) (fun j => ((hF_552 43 j (fun h => absurd h.1 (nn rfl))).trans (hFc 43 j (fun q => q.elim (fun h => absurd h.1 (nn rfl)) (fun q => q.elim (fun h => absurd h.1 (nn rfl)) (fun q => q.elim (fun h => absurd h.1 (nn rfl)) (fun q => q.elim (fun h => absurd h.1 (nn rfl)) (fun q => q.elim (fun h => absurd h.1 (nn rfl)) (fun q => q.elim (fun h => absurd h (nn rfl)) (fun h => absurd h (nn rfl)))))))))).trans (hH j)) ((nx_tr hU (by first | (clear ha2 hq0 hq1 hq2 hq3 hq4 hq5 h_1 h_2 h_3 h_4 h_5 h_6 h_7 h_8 h_9 h_10 h_11 h_12 h_13 h_14 h_15 h_60 h_62 h_72 h_464 h_465 h_466 h_535 h_536 h_537 h_538 h_539 h_540 h_541 h_542 h_543 h_544 h_546 h_547 h_549 h_63 h_548; omega) | omega) (by first | (clear ha2 hq0 hq1 hq2 hq3 hq4 h_1 h_2 h_3 h_4 h_5 h_6 h_7 h_8 h_9 h_10 h_11 h_12 h_13 h_14 h_15 h_16 h_60 h_61 h_62 h_72 h_464 h_465 h_466 h_533 h_535 h_536 h_537 h_538 h_539 h_540 h_541 h_542 h_543 h_544 h_546 h_547 h_549 h_63 h_548; omega) | omega)).trans ((nx_z (by omega)))) rfl (fun c_555 hI_556 hF_557 h_558 => ?_))
                refine bk_inl ?_
                refine v_bip rfl (by decide) ?_
                refine v_ic_ne_f (t := 67) rfl (by decide) (by first | (clear ha2 hq0 hq1 hq2 hq3 h_3 h_4 h_5 h_6 h_7 h_8 h_9 h_10 h_11 h_12 h_13 h_14 h_15 h_60 h_62 h_464 h_465 h_466 h_533 h_535 h_536 h_537 h_538 h_539 h_540 h_541 h_542 h_543 h_544; omega) | omega) ?_
                refine q_aload_n rfl rfl ?_
                have kn_559 : Hid (c_555 41 3 = e1) := (hF_557 41 3 (fun h => absurd h.2 (ni rfl))).trans (hid kn_554)
                refine v_cv rfl rfl rfl rfl (by decide) ⟨⟨rfl, rfl⟩, by decide, rfl⟩ (Nat.le_of_ble_eq_true rfl) (Nat.le_of_ble_eq_true rfl) (f_154 (e1 := e1) (a9 := (nx F e1 a)) (B := H) (r8 := (nx F e1 a)) (r := (hb H e1 (nx F e1 a))) hI_556 ((hid kn_559)) ((h_558)) (fun j => ((hF_557 43 j (fun h => absurd h.1 (nn rfl))).trans ((hF_552 43 j (fun h => absurd h.1 (nn rfl))).trans (hFc 43 j (fun q => q.elim (fun h => absurd h.1 (nn rfl)) (fun q => q.elim (fun h => absurd h.1 (nn rfl)) (fun q => q.elim (fun h => absurd h.1 (nn rfl)) (fun q => q.elim (fun h => absurd h.1 (nn rfl)) (fun q => q.elim (fun h => absurd h.1 (nn rfl)) (fun q => q.elim (fun h => absurd h (nn rfl)) (fun h => absurd h (nn rfl))))))))))).trans (hH j)) ((nx_tr hU (by first | (clear ha2 hq0 hq1 hq2 hq3 hq4 hq5 h_1 h_2 h_3 h_4 h_5 h_6 h_7 h_8 h_9 h_10 h_11 h_12 h_13 h_14 h_15 h_60 h_62 h_72 h_464 h_465 h_466 h_535 h_536 h_537 h_538 h_539 h_540 h_541 h_542 h_543 h_544 h_546 h_547 h_549 h_63 h_548; omega) | omega) (by first | (clear ha2 hq0 hq1 hq2 hq3 hq4 h_1 h_2 h_3 h_4 h_5 h_6 h_7 h_8 h_9 h_10 h_11 h_12 h_13 h_14 h_15 h_16 h_60 h_61 h_62 h_72 h_464 h_465 h_466 h_533 h_535 h_536 h_537 h_538 h_539 h_540 h_541 h_542 h_543 h_544 h_546 h_547 h_549 h_63 h_548; omega) | omega)).trans ((nx_z (by omega)))) rfl (fun c_560 hI_561 hF_562 h_563 => ?_))
                refine bk_inl ?_
                refine v_bip rfl (by decide) ?_
                refine v_ic_ne_t (t := 42) rfl (by decide) ⟨by first | (clear ha2 hq0 hq1 hq2 hq3 h_3 h_4 h_5 h_6 h_7 h_8 h_9 h_10 h_11 h_12 h_13 h_14 h_15 h_60 h_62 h_464 h_465 h_466 h_533 h_535 h_536 h_537 h_538 h_539 h_540 h_541 h_542 h_543 h_544; omega) | omega, ⟨h_549.1, h_549.2⟩, by decide, by decide⟩ ?_
                refine q_iconst rfl ?_
                refine q_istore_n rfl (by decide) ?_
                refine q_aload_n rfl rfl ?_
                refine q_dup rfl rfl ?_
                refine v_gi (z := 4) (v := (nx F e1 a)) rfl rfl rfl (by decide) rfl rfl (h_563) ?_
                refine q_iconst rfl ?_
                refine v_iadd (v := (nx F e1 a) + 1) rfl rfl ?_
                refine v_pi (z := 4) rfl rfl rfl (by decide) rfl rfl rfl (by decide) ?_
                refine q_aload_n rfl rfl ?_
                have kn_564 : Hid (c_550 41 5 = (-1)) := (hF_552 41 5 (fun h => absurd h.2 (ni rfl))).trans (hc_1)
                have kn_565 : Hid (c_555 41 5 = (-1)) := (hF_557 41 5 (fun h => absurd h.2 (ni rfl))).trans (hid kn_564)
                have kn_566 : Hid (c_560 41 5 = (-1)) := (hF_562 41 5 (fun h => absurd h.2 (ni rfl))).trans (hid kn_565)
                have hI_567 := iw_41_4 (v := (nx F e1 a) + 1) hI_561 ⟨by first | exact rgp_l (rg_be h_61 (ha.1) ((rg_eq hg_e1 h_1).2)).1 (by decide) | omega, by first | exact rgp_h (rg_be h_61 (ha.1) ((rg_eq hg_e1 h_1).2)).2 (by decide) | omega⟩
                have kn_568 : Hid (c_69 1 1 = e1) := (hF_71 1 1 (fun h => absurd h.2 (ni rfl))).trans (hid kn_59)
                have kn_569 : Hid (c_560 41 3 = e1) := (hF_562 41 3 (fun h => absurd h.2 (ni rfl))).trans (hid kn_559)
                have kn_570 : Hid (c_69 1 5 = (-1)) := (hF_71 1 5 (fun h => absurd h.2 (ni rfl))).trans (hc_2)
                have kn_571 : Hid (c_69 (A + 7) 5 = nw) := (hF_71 (A + 7) 5 (fun h => absurd h.1 (np hA rfl rfl))).trans (hg_nw)
                have kn_572 : Hid (c_550 41 29 = nw) := (hF_552 41 29 (fun h => absurd h.2 (ni rfl))).trans (hr_nw)
                have kn_573 : Hid (c_555 41 29 = nw) := (hF_557 41 29 (fun h => absurd h.2 (ni rfl))).trans (hid kn_572)
                have kn_574 : Hid (c_560 41 29 = nw) := (hF_562 41 29 (fun h => absurd h.2 (ni rfl))).trans (hid kn_573)
                have kn_575 : Hid (c_550 41 7 = a2) := (hF_552 41 7 (fun h => absurd h.2 (ni rfl))).trans (hc_3)
                have kn_576 : Hid (c_555 41 7 = a2) := (hF_557 41 7 (fun h => absurd h.2 (ni rfl))).trans (hid kn_575)
                have kn_577 : Hid (c_560 41 7 = a2) := (hF_562 41 7 (fun h => absurd h.2 (ni rfl))).trans (hid kn_576)
                have h_578 : c_69 1 4 = 0 := (hid kn_459)
                have h_579 : c_69 1 2 = (nx F e1 a) + 1 := (hz_73)
                have h_580 : c_69 1 5 = (-1) := (hid kn_570)
                have h_581 : (up c_560 41 4 ((nx F e1 a) + 1)) 41 5 = (-1) := ((up_n (by decide)).trans (hid kn_566))
                have h_582 : (up c_560 41 4 ((nx F e1 a) + 1)) 41 4 = (nx F e1 a) + 1 := (up_e rfl)
                have h_583 := ir_41_6 hI2
                have kn_584 : Hid (c_550 41 6 = c2 41 6) := hF_552 41 6 (fun h => absurd h.2 (ni rfl))
                have kn_585 : Hid (c_555 41 6 = c2 41 6) := (hF_557 41 6 (fun h => absurd h.2 (ni rfl))).trans (hid kn_584)
                have kn_586 : Hid (c_560 41 6 = c2 41 6) := (hF_562 41 6 (fun h => absurd h.2 (ni rfl))).trans (hid kn_585)
                have h_587 : (up c_560 41 4 ((nx F e1 a) + 1)) 41 6 = c2 41 6 := ((up_n (by decide)).trans (hid kn_586))
                have hA_588 : Ce nw (c_69 (A + 9)) ((up c_560 41 4 ((nx F e1 a) + 1)) 50) ((up c_560 41 4 ((nx F e1 a) + 1)) 51) := ce_fr hrl0 (fun j => hF_71 (A + 9) j (fun h => absurd h.1 (np hA rfl rfl))) (fun j => (up_c (nn rfl)).trans ((hF_562 50 j (fun h => absurd h.1 (nn rfl))).trans ((hF_557 50 j (fun h => absurd h.1 (nn rfl))).trans (hF_552 50 j (fun h => absurd h.1 (nn rfl)))))) (fun j => (up_c (nn rfl)).trans ((hF_562 51 j (fun h => absurd h.1 (nn rfl))).trans ((hF_557 51 j (fun h => absurd h.1 (nn rfl))).trans (hF_552 51 j (fun h => absurd h.1 (nn rfl))))))
                refine v_cv rfl rfl rfl rfl (by decide) ⟨⟨rfl, rfl⟩, by decide, rfl⟩ (Nat.le_of_ble_eq_true rfl) (Nat.le_of_ble_eq_true rfl) (L_12 (m := c_69) (a2 := a2) (e1 := e1) (f0 := 0) (g0 := (-1)) (p0 := (nx F e1 a) + 1) (n0 := nw) (o0 := a2) (F := F) (H := H) hI_567 hI_70 hI_461 hA (show 0 ≤ a2 ∧ a2 ≤ 6 from ha2) (by first | (clear ha2 hq0 hq1 hq2 hq3 hq4 hq5 h_1 h_2 h_3 h_4 h_5 h_6 h_7 h_8 h_9 h_10 h_11 h_12 h_13 h_14 h_15 h_16 h_60 h_61 h_62 h_72 h_464 h_465 h_466 h_533 h_535 h_536 h_537 h_538 h_539 h_540 h_541 h_542 h_543 h_544 h_546 h_547 h_549 h_63 h_548; omega) | omega) (by first | (clear ha2 hq0 hq1 hq2 hq3 hq4 hq5 h_1 h_2 h_3 h_4 h_5 h_6 h_7 h_8 h_9 h_10 h_11 h_12 h_13 h_14 h_15 h_16 h_60 h_61 h_62 h_72 h_464 h_465 h_466 h_533 h_535 h_536 h_537 h_538 h_539 h_540 h_541 h_542 h_543 h_544 h_546 h_547 h_549 h_63 h_548; omega) | omega) (by first | (clear ha2 hq0 hq1 hq2 hq3 hq4 hq5 h_1 h_2 h_3 h_4 h_5 h_6 h_7 h_8 h_9 h_10 h_11 h_12 h_13 h_14 h_15 h_16 h_60 h_61 h_62 h_72 h_464 h_465 h_466 h_533 h_535 h_536 h_537 h_538 h_539 h_540 h_541 h_542 h_543 h_544 h_546 h_547 h_549 h_63 h_548; omega) | omega) (by first | (clear ha2 hq0 hq1 hq2 hq4 hq5 h_1 h_2 h_3 h_4 h_5 h_6 h_7 h_8 h_9 h_10 h_11 h_12 h_13 h_14 h_15 h_60 h_62 h_72 h_464 h_465 h_466 h_533 h_535 h_536 h_537 h_538 h_539 h_540 h_541 h_542 h_543 h_544 h_546 h_547 h_549 h_63 h_548; omega) | omega) (by first | (clear ha2 hq0 hq1 hq2 hq3 hq4 hq5 h_1 h_2 h_3 h_4 h_5 h_6 h_7 h_8 h_9 h_10 h_11 h_12 h_13 h_14 h_15 h_16 h_60 h_61 h_62 h_464 h_465 h_466 h_533 h_535 h_536 h_537 h_538 h_539 h_540 h_541 h_542 h_543 h_544 h_546 h_547 h_549 h_63 h_548; omega) | omega) (by first | (clear ha2 hq0 hq1 hq2 hq3 hq4 h_1 h_2 h_3 h_4 h_5 h_6 h_7 h_8 h_9 h_10 h_11 h_12 h_13 h_14 h_15 h_16 h_60 h_61 h_62 h_72 h_464 h_465 h_466 h_533 h_535 h_536 h_537 h_538 h_539 h_540 h_541 h_542 h_543 h_544 h_546 h_547 h_549 h_63 h_548; omega) | omega) ((hid kn_568)) (((up_n (by decide)).trans (hid kn_569))) ((hid kn_459)) ((hid kn_570)) ((hz_73)) ((hid kn_571)) (((up_n (by decide)).trans (hid kn_574))) (((up_n (by decide)).trans (hid kn_577))) (fun j => ((hF_71 2 j (fun h => absurd h.1 (nn rfl))).trans (hFm 2 j (fun q => q.elim (fun h => absurd h.1 (nn rfl)) (fun q => q.elim (fun h => absurd h.1 (nn rfl)) (fun q => q.elim (fun h => absurd h.1 (nn rfl)) (fun q => q.elim (fun h => absurd h.1 (pn hA rfl rfl)) (fun h => absurd h (pn hA rfl rfl)))))))).trans (hF j)) (fun j => ((up_c (nn rfl)).trans ((hF_562 43 j (fun h => absurd h.1 (nn rfl))).trans ((hF_557 43 j (fun h => absurd h.1 (nn rfl))).trans ((hF_552 43 j (fun h => absurd h.1 (nn rfl))).trans (hFc 43 j (fun q => q.elim (fun h => absurd h.1 (nn rfl)) (fun q => q.elim (fun h => absurd h.1 (nn rfl)) (fun q => q.elim (fun h => absurd h.1 (nn rfl)) (fun q => q.elim (fun h => absurd h.1 (nn rfl)) (fun q => q.elim (fun h => absurd h.1 (nn rfl)) (fun q => q.elim (fun h => absurd h (nn rfl)) (fun h => absurd h (nn rfl))))))))))))).trans (hH j)) hU (rt_i1 ⟨by first | (clear ha2 hq0 hq1 hq2 hq3 hq4 hq5 h_1 h_2 h_3 h_4 h_5 h_6 h_7 h_8 h_9 h_10 h_11 h_12 h_13 h_14 h_15 h_16 h_60 h_61 h_62 h_72 h_464 h_465 h_466 h_533 h_535 h_536 h_537 h_538 h_539 h_540 h_541 h_542 h_543 h_544 h_546 h_547 h_549 h_583 h_63 h_548; omega) | omega, by first | (clear ha2 hq0 hq1 hq2 hq3 hq4 hq5 h_1 h_2 h_3 h_4 h_5 h_6 h_7 h_8 h_9 h_10 h_11 h_12 h_13 h_14 h_15 h_16 h_60 h_61 h_62 h_72 h_464 h_465 h_466 h_533 h_535 h_536 h_537 h_538 h_539 h_540 h_541 h_542 h_543 h_544 h_546 h_547 h_549 h_583 h_63 h_548; omega) | omega, by first | (clear ha2 hq0 hq1 hq2 hq3 hq4 hq5 h_1 h_2 h_3 h_4 h_5 h_6 h_7 h_8 h_9 h_10 h_11 h_12 h_13 h_14 h_15 h_16 h_60 h_61 h_62 h_72 h_464 h_465 h_466 h_533 h_535 h_536 h_537 h_538 h_539 h_540 h_541 h_542 h_543 h_544 h_546 h_547 h_549 h_583 h_63 h_548; omega) | omega, by first | (clear ha2 hq0 hq1 hq2 hq3 hq4 hq5 h_1 h_2 h_3 h_4 h_5 h_6 h_7 h_8 h_9 h_10 h_11 h_12 h_13 h_14 h_15 h_16 h_60 h_61 h_62 h_72 h_464 h_465 h_466 h_533 h_535 h_536 h_537 h_538 h_539 h_540 h_541 h_542 h_543 h_544 h_546 h_547 h_549 h_583 h_63 h_548; omega) | omega⟩) (ce_le hA_588 (by omega)) H13 hG_463 (fun c_589 hI_590 hF_591 hR_593 h_594 h_595 hA_596 => ?_))
                refine bk_inl ?_
                have h_597 := ir_41_29 hI_590
                have h_598 := ir_41_7 hI_590
                refine q_aload_n rfl rfl ?_
                refine q_iload_n rfl rfl ?_
                refine q_iconst rfl ?_
                refine v_cv rfl rfl rfl rfl (by decide) ⟨⟨rfl, rfl⟩, by decide, rfl⟩ (Nat.le_of_ble_eq_true rfl) (Nat.le_of_ble_eq_true rfl) ?_
                refine q_aload_n rfl rfl ?_
                refine v_cv rfl rfl rfl rfl (by decide) ⟨⟨rfl, rfl⟩, by decide, rfl⟩ (Nat.le_of_ble_eq_true rfl) (Nat.le_of_ble_eq_true rfl) ?_
                refine q_aload_n rfl rfl ?_
                have h_599 := ir_41_5 hI_590
                have h_600 := ir_41_4 hI_590
                have h_601 := ir_41_6 hI_590
                have h_602 := rt_bad hR_593 (by omega)
                have hrb_hR_593 := rt_bad hR_593 (by omega)
                refine v_gi (z := 5) (v := c_460 1 5) rfl rfl rfl (by decide) rfl rfl hrb_hR_593.2.1 ?_
                refine q_iconst rfl ?_
                refine v_ic_ne_t (t := 12) rfl (by decide) ⟨by first | (clear ha2 hq0 hq1 hq2 hq3 hq4 hq5 h_1 h_2 h_3 h_4 h_5 h_6 h_7 h_8 h_9 h_10 h_11 h_12 h_13 h_14 h_15 h_16 h_60 h_61 h_62 h_72 h_464 h_465 h_466 h_533 h_535 h_536 h_537 h_538 h_539 h_540 h_541 h_542 h_543 h_544 h_546 h_547 h_549 h_583 h_597 h_598 h_595 h_599 h_600 h_601 h_63 h_548 h_594; omega) | omega, ⟨(Int.le_trans (by decide) h_540.1), (Int.le_trans h_540.2 (by decide))⟩, by decide, by decide⟩ ?_
                refine q_iconst rfl ?_
                refine v_zret rfl rfl (by decide) ?_
                refine bk_inl ?_
                refine v_if_ne_f (t := 8) rfl (by decide) (by decide) ?_
                refine q_vret rfl rfl ?_
                refine bk_inl ?_
                refine q_goto (t := 4) rfl (by decide) ?_
                refine q_aload_n rfl rfl ?_
                refine v_cv rfl rfl rfl rfl (by decide) ⟨⟨rfl, rfl⟩, by decide, rfl⟩ (Nat.le_of_ble_eq_true rfl) (Nat.le_of_ble_eq_true rfl) ?_
                refine q_aload_n rfl rfl ?_
                refine v_gi (z := 5) (v := c_460 1 5) rfl rfl rfl (by decide) rfl rfl hrb_hR_593.2.1 ?_
                refine q_iconst rfl ?_
                refine v_ic_ne_t (t := 12) rfl (by decide) ⟨by first | (clear ha2 hq0 hq1 hq2 hq3 hq4 hq5 h_1 h_2 h_3 h_4 h_5 h_6 h_7 h_8 h_9 h_10 h_11 h_12 h_13 h_14 h_15 h_16 h_60 h_61 h_62 h_72 h_464 h_465 h_466 h_533 h_535 h_536 h_537 h_538 h_539 h_540 h_541 h_542 h_543 h_544 h_546 h_547 h_549 h_583 h_597 h_598 h_595 h_599 h_600 h_601 h_63 h_548 h_594; omega) | omega, ⟨(Int.le_trans (by decide) h_540.1), (Int.le_trans h_540.2 (by decide))⟩, by decide, by decide⟩ ?_
                refine q_iconst rfl ?_
                refine v_zret rfl rfl (by decide) ?_
                refine bk_inl ?_
                refine v_if_eq_t (t := 67) rfl (by decide) (by decide) ?_
                refine q_vret rfl rfl ?_
                have h_603 : c_589 41 5 = c_460 1 5 := hrb_hR_593.2.1
                have h_604 : c_589 41 6 = c_460 1 4 := hrb_hR_593.2.2.2
                exact K c_589  hI_590 (fun a j hm => (hF_591 a j (fun q => q.elim (fun h => hm (Or.inl h)) (fun q => q.elim (fun h => hm (Or.inr (Or.inl h))) (fun q => q.elim (fun h => hm (Or.inr (Or.inr (Or.inl h)))) (fun q => q.elim (fun h => hm (Or.inr (Or.inr (Or.inr (Or.inl h))))) (fun q => q.elim (fun h => hm (Or.inr (Or.inr (Or.inr (Or.inr (Or.inl h)))))) (fun q => q.elim (fun h => hm (Or.inr (Or.inr (Or.inr (Or.inr (Or.inr (Or.inl h))))))) (fun h => hm (Or.inr (Or.inr (Or.inr (Or.inr (Or.inr (Or.inr h)))))))))))))).trans ((up_b (Decidable.or_iff_not_imp_left.mpr (fun h1 h2 => hm (Or.inl ⟨Decidable.not_not.mp h1, h2⟩)))).trans ((hF_562 a j (fun h => hm (Or.inl h))).trans ((hF_557 a j (fun h => hm (Or.inl h))).trans ((hF_552 a j (fun h => hm (Or.inl h))).trans (hFc a j (fun q => q.elim (fun h => hm (Or.inl h)) (fun q => q.elim (fun h => hm (Or.inr (Or.inl h))) (fun q => q.elim (fun h => hm (Or.inr (Or.inr (Or.inl h)))) (fun q => q.elim (fun h => hm (Or.inr (Or.inr (Or.inr (Or.inl h))))) (fun q => q.elim (fun h => hm (Or.inr (Or.inr (Or.inr (Or.inr (Or.inl h)))))) (fun q => q.elim (fun h => hm (Or.inr (Or.inr (Or.inr (Or.inr (Or.inr (Or.inl h))))))) (fun h => hm (Or.inr (Or.inr (Or.inr (Or.inr (Or.inr (Or.inr h))))))))))))))))))) (rt_i2 ⟨⟨by first | (clear ha2 hq0 hq1 hq2 hq3 hq4 hq5 h_1 h_2 h_3 h_4 h_5 h_6 h_7 h_8 h_9 h_10 h_11 h_12 h_13 h_14 h_15 h_16 h_60 h_61 h_62 h_72 h_464 h_465 h_466 h_533 h_535 h_537 h_538 h_539 h_540 h_541 h_542 h_543 h_544 h_546 h_547 h_549 h_583 h_597 h_598 h_595 h_599 h_600 h_601 h_63 h_548 h_594; omega) | omega, by first | (clear ha2 hq0 hq1 hq2 hq3 hq4 hq5 h_1 h_2 h_3 h_4 h_5 h_6 h_7 h_8 h_9 h_10 h_11 h_12 h_13 h_14 h_15 h_16 h_60 h_61 h_62 h_72 h_464 h_465 h_466 h_533 h_536 h_537 h_538 h_539 h_540 h_541 h_542 h_543 h_544 h_546 h_547 h_549 h_583 h_597 h_598 h_595 h_599 h_600 h_601 h_602 h_63 h_548 h_594; omega) | omega⟩, by first | (clear ha2 hq0 hq1 hq2 hq3 hq4 hq5 h_1 h_2 h_3 h_4 h_5 h_6 h_7 h_8 h_9 h_10 h_11 h_12 h_13 h_14 h_15 h_16 h_60 h_61 h_62 h_72 h_464 h_465 h_466 h_533 h_535 h_536 h_537 h_538 h_539 h_540 h_541 h_543 h_544 h_546 h_547 h_549 h_583 h_597 h_598 h_595 h_599 h_600 h_601 h_602 h_63 h_548 h_594; omega) | omega, by first | (clear ha2 hq0 hq1 hq2 hq3 hq4 hq5 h_1 h_2 h_3 h_4 h_5 h_6 h_7 h_8 h_9 h_10 h_11 h_12 h_13 h_14 h_15 h_16 h_60 h_61 h_62 h_72 h_464 h_465 h_466 h_533 h_535 h_536 h_537 h_538 h_539 h_540 h_541 h_543 h_544 h_546 h_547 h_549 h_583 h_597 h_598 h_595 h_599 h_600 h_601 h_63 h_548 h_594; omega) | omega, by first | (clear ha2 hq0 hq1 hq2 hq3 hq4 hq5 h_1 h_2 h_3 h_4 h_5 h_6 h_7 h_8 h_9 h_10 h_11 h_12 h_13 h_14 h_15 h_16 h_60 h_61 h_62 h_72 h_464 h_465 h_466 h_533 h_535 h_537 h_538 h_539 h_540 h_541 h_542 h_543 h_544 h_546 h_547 h_549 h_583 h_597 h_598 h_595 h_599 h_600 h_601 h_602 h_63 h_548 h_594; omega) | omega⟩) (Or.inr (Or.inl (by first | (clear ha2 hq0 hq1 hq2 hq3 hq4 hq5 h_1 h_2 h_3 h_4 h_5 h_6 h_7 h_8 h_9 h_10 h_11 h_12 h_13 h_14 h_15 h_16 h_60 h_61 h_62 h_72 h_464 h_465 h_466 h_533 h_535 h_537 h_538 h_539 h_540 h_541 h_542 h_543 h_544 h_546 h_547 h_549 h_583 h_597 h_598 h_595 h_599 h_600 h_601 h_63 h_548 h_594; omega) | omega))) (by first | (clear ha2 hq0 hq1 hq2 hq3 hq4 hq5 h_1 h_2 h_3 h_4 h_5 h_6 h_7 h_8 h_9 h_10 h_11 h_12 h_13 h_14 h_15 h_16 h_60 h_61 h_62 h_72 h_464 h_465 h_466 h_533 h_535 h_536 h_537 h_538 h_539 h_540 h_541 h_542 h_543 h_544 h_546 h_547 h_549 h_583 h_597 h_598 h_599 h_600 h_601 h_602 h_63 h_548 h_594; omega) | omega) (fun hz => absurd hz (by omega))
              · refine v_ic_ge_f (t := 59) rfl (by decide) ⟨by first | exact rgp_l hv.1 (by decide) | omega, (Int.not_le.mp h_533), by decide⟩ ?_
                refine q_aload_n rfl rfl ?_
                refine v_cv rfl rfl rfl rfl (by decide) ⟨⟨rfl, rfl⟩, by decide, rfl⟩ (Nat.le_of_ble_eq_true rfl) (Nat.le_of_ble_eq_true rfl) ?_
                refine q_aload_n rfl rfl ?_
                refine v_gi (z := 4) (v := c_460 1 4) rfl rfl rfl (by decide) rfl rfl rfl ?_
                refine v_if_ne_t (t := 11) rfl (by decide) ⟨by first | (clear ha2 hq0 hq1 hq2 hq3 hq4 hq5 h_1 h_2 h_3 h_4 h_5 h_6 h_7 h_8 h_9 h_10 h_11 h_12 h_13 h_14 h_15 h_16 h_60 h_61 h_62 h_72 h_464 h_465 h_466 h_63; omega) | omega, ⟨(Int.le_trans (by decide) h_466.1), (Int.le_trans h_466.2 (by decide))⟩, by decide, by decide⟩ ?_
                refine q_iconst rfl ?_
                refine v_zret rfl rfl (by decide) ?_
                refine bk_inl ?_
                refine v_if_eq_t (t := 59) rfl (by decide) (by decide) ?_
                refine q_vret rfl rfl ?_
                intro hE_605
                have hW : Wd P Q P P c_460 = Wd P Q P P m9 := (Prod.mk.inj (Prod.mk.inj hE_605).2).1
                have h_606 := ir_1_4 hJ9
                have h_607 : m9 1 4 = c_460 1 4 := wd_fv (z := 4) 4 rfl hW rfl rfl rfl rfl (by decide) rfl ⟨(Int.le_trans (by decide) h_466.1), (Int.le_trans h_466.2 (by decide))⟩ ⟨(Int.le_trans (by decide) h_606.1), (Int.le_trans h_606.2 (by decide))⟩
                have h_608 := ir_1_2 hI_461
                have h_609 := ir_1_2 hJ9
                have h_610 : m9 1 2 = c_460 1 2 := wd_fv (z := 2) 2 rfl hW rfl rfl rfl rfl (by decide) rfl ⟨(Int.le_trans (by decide) h_608.1), (Int.le_trans h_608.2 (by decide))⟩ ⟨(Int.le_trans (by decide) h_609.1), (Int.le_trans h_609.2 (by decide))⟩
                have h_611 := ir_1_5 hI_461
                have h_612 := ir_1_5 hJ9
                have h_613 : m9 1 5 = c_460 1 5 := wd_fv (z := 5) 5 rfl hW rfl rfl rfl rfl (by decide) rfl ⟨(Int.le_trans (by decide) h_611.1), (Int.le_trans h_611.2 (by decide))⟩ ⟨(Int.le_trans (by decide) h_612.1), (Int.le_trans h_612.2 (by decide))⟩
                have h_614 := ir_p7_5 hJ9 hA
                have h_615 : m9 (A + 7) 5 = c_460 (A + 7) 5 := wd_fv (z := 5) 5 rfl hW (ck_p7 hA) (ck_p7 hA) rfl rfl (by omega) rfl ⟨(Int.le_trans (by decide) h_464.1), (Int.le_trans h_464.2 (by decide))⟩ ⟨(Int.le_trans (by decide) h_614.1), (Int.le_trans h_614.2 (by decide))⟩
                refine q_aload_n rfl rfl ?_
                refine v_cv rfl rfl rfl rfl (by decide) ⟨⟨rfl, rfl⟩, by decide, rfl⟩ (Nat.le_of_ble_eq_true rfl) (Nat.le_of_ble_eq_true rfl) ?_
                refine q_aload_n rfl rfl ?_
                refine v_gi (z := 5) (v := (-1)) rfl rfl rfl (by decide) rfl rfl (hc_1) ?_
                refine q_iconst rfl ?_
                refine v_ic_ne_f (t := 12) rfl (by decide) (by decide) ?_
                refine q_iconst rfl ?_
                refine q_goto (t := 13) rfl (by decide) ?_
                refine v_zret rfl rfl (by decide) ?_
                refine bk_inl ?_
                refine v_if_eq_f (t := 67) rfl (by decide) (by decide) ?_
                refine q_aload_n rfl rfl ?_
                have kn_616 : Hid (c2 41 3 = e1) := (hFc 41 3 (fun q => q.elim (fun h => absurd h.2 (ni rfl)) (fun q => q.elim (fun h => absurd h.2 (ni rfl)) (fun q => q.elim (fun h => absurd h.2 (ni rfl)) (fun q => q.elim (fun h => absurd h.2 (ni rfl)) (fun q => q.elim (fun h => absurd h.2 (ni rfl)) (fun q => q.elim (fun h => absurd h (nn rfl)) (fun h => absurd h (nn rfl))))))))).trans (hr_e1)
                have h_617 : -2147483648 ≤ (H (nx F e1 a)) ∧ (H (nx F e1 a)) ≤ 2147483647 := by rw [← hH (nx F e1 a)]; exact ir_43 hI (nx F e1 a)
                have h_618 := hU (nx F e1 a) (by omega) (by omega)
                have h_619 := hb_or (b := H) (e := e1) (r := (nx F e1 a))
                have h_620 := hb_bd (b := H) (e := e1) (r := (nx F e1 a)) (lo := -2147483648) (hi := 2147483647) h_617 (by decide)
                refine v_cv rfl rfl rfl rfl (by decide) ⟨⟨rfl, rfl⟩, by decide, rfl⟩ (Nat.le_of_ble_eq_true rfl) (Nat.le_of_ble_eq_true rfl) (f_154 (e1 := e1) (a9 := a) (B := H) (r8 := (nx F e1 a)) (r := (hb H e1 (nx F e1 a))) hI2 ((hid kn_616)) ((hr_a)) (fun j => (hFc 43 j (fun q => q.elim (fun h => absurd h.1 (nn rfl)) (fun q => q.elim (fun h => absurd h.1 (nn rfl)) (fun q => q.elim (fun h => absurd h.1 (nn rfl)) (fun q => q.elim (fun h => absurd h.1 (nn rfl)) (fun q => q.elim (fun h => absurd h.1 (nn rfl)) (fun q => q.elim (fun h => absurd h (nn rfl)) (fun h => absurd h (nn rfl))))))))).trans (hH j)) ((nx_tr hU (by first | (clear ha2 hq0 hq1 hq2 hq3 hq4 hq5 h_1 h_2 h_3 h_4 h_5 h_6 h_7 h_8 h_9 h_10 h_11 h_12 h_13 h_14 h_15 h_16 h_60 h_61 h_62 h_72 h_464 h_465 h_466 h_606 h_607 h_608 h_609 h_610 h_611 h_612 h_613 h_614 h_615 h_63; omega) | omega) (by first | (clear ha2 hq0 hq1 hq2 hq3 hq4 h_1 h_2 h_3 h_4 h_5 h_6 h_7 h_8 h_9 h_10 h_11 h_12 h_13 h_14 h_15 h_16 h_60 h_61 h_62 h_72 h_464 h_465 h_466 h_606 h_607 h_608 h_609 h_610 h_611 h_612 h_613 h_614 h_615 h_63; omega) | omega)).trans (rfl)) rfl (fun c_621 hI_622 hF_623 h_624 => ?_))
                refine bk_inl ?_
                refine v_bip rfl (by decide) ?_
                refine v_ic_eq_f (t := 29) rfl (by decide) ⟨by first | (clear ha2 hq0 hq1 hq2 hq3 h_3 h_4 h_5 h_6 h_7 h_8 h_9 h_10 h_11 h_12 h_13 h_14 h_15 h_60 h_62 h_464 h_465 h_466 h_606 h_607 h_608 h_609 h_610 h_611 h_612 h_613 h_614 h_615; omega) | omega, ⟨h_620.1, h_620.2⟩, by decide, by decide⟩ ?_
                refine q_aload_n rfl rfl ?_
                have kn_625 : Hid (c_621 41 3 = e1) := (hF_623 41 3 (fun h => absurd h.2 (ni rfl))).trans (hid kn_616)
                refine v_cv rfl rfl rfl rfl (by decide) ⟨⟨rfl, rfl⟩, by decide, rfl⟩ (Nat.le_of_ble_eq_true rfl) (Nat.le_of_ble_eq_true rfl) (f_154 (e1 := e1) (a9 := (nx F e1 a)) (B := H) (r8 := (nx F e1 a)) (r := (hb H e1 (nx F e1 a))) hI_622 ((hid kn_625)) ((h_624)) (fun j => ((hF_623 43 j (fun h => absurd h.1 (nn rfl))).trans (hFc 43 j (fun q => q.elim (fun h => absurd h.1 (nn rfl)) (fun q => q.elim (fun h => absurd h.1 (nn rfl)) (fun q => q.elim (fun h => absurd h.1 (nn rfl)) (fun q => q.elim (fun h => absurd h.1 (nn rfl)) (fun q => q.elim (fun h => absurd h.1 (nn rfl)) (fun q => q.elim (fun h => absurd h (nn rfl)) (fun h => absurd h (nn rfl)))))))))).trans (hH j)) ((nx_tr hU (by first | (clear ha2 hq0 hq1 hq2 hq3 hq4 hq5 h_1 h_2 h_3 h_4 h_5 h_6 h_7 h_8 h_9 h_10 h_11 h_12 h_13 h_14 h_15 h_16 h_60 h_62 h_72 h_464 h_465 h_466 h_606 h_607 h_608 h_609 h_610 h_611 h_612 h_613 h_614 h_615 h_617 h_618 h_620 h_63 h_619; omega) | omega) (by first | (clear ha2 hq0 hq1 hq2 hq3 hq4 h_1 h_2 h_3 h_4 h_5 h_6 h_7 h_8 h_9 h_10 h_11 h_12 h_13 h_14 h_15 h_16 h_60 h_61 h_62 h_72 h_464 h_465 h_466 h_606 h_607 h_608 h_609 h_610 h_611 h_612 h_613 h_614 h_615 h_617 h_618 h_620 h_63 h_619; omega) | omega)).trans ((nx_z (by omega)))) rfl (fun c_626 hI_627 hF_628 h_629 => ?_))
                refine bk_inl ?_
                refine v_bip rfl (by decide) ?_
                refine v_ic_ne_f (t := 67) rfl (by decide) (by first | (clear ha2 hq0 hq1 hq2 hq3 h_3 h_4 h_5 h_6 h_7 h_8 h_9 h_10 h_11 h_12 h_13 h_14 h_15 h_60 h_62 h_464 h_465 h_466 h_606 h_607 h_608 h_609 h_610 h_611 h_612 h_613 h_614 h_615; omega) | omega) ?_
                refine q_aload_n rfl rfl ?_
                have kn_630 : Hid (c_626 41 3 = e1) := (hF_628 41 3 (fun h => absurd h.2 (ni rfl))).trans (hid kn_625)
                refine v_cv rfl rfl rfl rfl (by decide) ⟨⟨rfl, rfl⟩, by decide, rfl⟩ (Nat.le_of_ble_eq_true rfl) (Nat.le_of_ble_eq_true rfl) (f_154 (e1 := e1) (a9 := (nx F e1 a)) (B := H) (r8 := (nx F e1 a)) (r := (hb H e1 (nx F e1 a))) hI_627 ((hid kn_630)) ((h_629)) (fun j => ((hF_628 43 j (fun h => absurd h.1 (nn rfl))).trans ((hF_623 43 j (fun h => absurd h.1 (nn rfl))).trans (hFc 43 j (fun q => q.elim (fun h => absurd h.1 (nn rfl)) (fun q => q.elim (fun h => absurd h.1 (nn rfl)) (fun q => q.elim (fun h => absurd h.1 (nn rfl)) (fun q => q.elim (fun h => absurd h.1 (nn rfl)) (fun q => q.elim (fun h => absurd h.1 (nn rfl)) (fun q => q.elim (fun h => absurd h (nn rfl)) (fun h => absurd h (nn rfl))))))))))).trans (hH j)) ((nx_tr hU (by first | (clear ha2 hq0 hq1 hq2 hq3 hq4 hq5 h_1 h_2 h_3 h_4 h_5 h_6 h_7 h_8 h_9 h_10 h_11 h_12 h_13 h_14 h_15 h_16 h_60 h_62 h_72 h_464 h_465 h_466 h_606 h_607 h_608 h_609 h_610 h_611 h_612 h_613 h_614 h_615 h_617 h_618 h_620 h_63 h_619; omega) | omega) (by first | (clear ha2 hq0 hq1 hq2 hq3 hq4 h_1 h_2 h_3 h_4 h_5 h_6 h_7 h_8 h_9 h_10 h_11 h_12 h_13 h_14 h_15 h_16 h_60 h_61 h_62 h_72 h_464 h_465 h_466 h_606 h_607 h_608 h_609 h_610 h_611 h_612 h_613 h_614 h_615 h_617 h_618 h_620 h_63 h_619; omega) | omega)).trans ((nx_z (by omega)))) rfl (fun c_631 hI_632 hF_633 h_634 => ?_))
                refine bk_inl ?_
                refine v_bip rfl (by decide) ?_
                refine v_ic_ne_t (t := 42) rfl (by decide) ⟨by first | (clear ha2 hq0 hq1 hq2 hq3 h_3 h_4 h_5 h_6 h_7 h_8 h_9 h_10 h_11 h_12 h_13 h_14 h_15 h_60 h_62 h_464 h_465 h_466 h_606 h_607 h_608 h_609 h_610 h_611 h_612 h_613 h_614 h_615; omega) | omega, ⟨h_620.1, h_620.2⟩, by decide, by decide⟩ ?_
                refine q_iconst rfl ?_
                refine q_istore_n rfl (by decide) ?_
                refine q_aload_n rfl rfl ?_
                refine q_dup rfl rfl ?_
                refine v_gi (z := 4) (v := (nx F e1 a)) rfl rfl rfl (by decide) rfl rfl (h_634) ?_
                refine q_iconst rfl ?_
                refine v_iadd (v := (nx F e1 a) + 1) rfl rfl ?_
                refine v_pi (z := 4) rfl rfl rfl (by decide) rfl rfl rfl (by decide) ?_
                refine q_aload_n rfl rfl ?_
                have kn_635 : Hid (c_621 41 5 = (-1)) := (hF_623 41 5 (fun h => absurd h.2 (ni rfl))).trans (hc_1)
                have kn_636 : Hid (c_626 41 5 = (-1)) := (hF_628 41 5 (fun h => absurd h.2 (ni rfl))).trans (hid kn_635)
                have kn_637 : Hid (c_631 41 5 = (-1)) := (hF_633 41 5 (fun h => absurd h.2 (ni rfl))).trans (hid kn_636)
                have hI_638 := iw_41_4 (v := (nx F e1 a) + 1) hI_632 ⟨by first | exact rgp_l (rg_be h_61 (ha.1) ((rg_eq hg_e1 h_1).2)).1 (by decide) | omega, by first | exact rgp_h (rg_be h_61 (ha.1) ((rg_eq hg_e1 h_1).2)).2 (by decide) | omega⟩
                have kn_639 : Hid (c_69 1 1 = e1) := (hF_71 1 1 (fun h => absurd h.2 (ni rfl))).trans (hid kn_59)
                have kn_640 : Hid (c_631 41 3 = e1) := (hF_633 41 3 (fun h => absurd h.2 (ni rfl))).trans (hid kn_630)
                have kn_641 : Hid (c_69 1 5 = (-1)) := (hF_71 1 5 (fun h => absurd h.2 (ni rfl))).trans (hc_2)
                have kn_642 : Hid (c_69 (A + 7) 5 = nw) := (hF_71 (A + 7) 5 (fun h => absurd h.1 (np hA rfl rfl))).trans (hg_nw)
                have kn_643 : Hid (c_621 41 29 = nw) := (hF_623 41 29 (fun h => absurd h.2 (ni rfl))).trans (hr_nw)
                have kn_644 : Hid (c_626 41 29 = nw) := (hF_628 41 29 (fun h => absurd h.2 (ni rfl))).trans (hid kn_643)
                have kn_645 : Hid (c_631 41 29 = nw) := (hF_633 41 29 (fun h => absurd h.2 (ni rfl))).trans (hid kn_644)
                have kn_646 : Hid (c_621 41 7 = a2) := (hF_623 41 7 (fun h => absurd h.2 (ni rfl))).trans (hc_3)
                have kn_647 : Hid (c_626 41 7 = a2) := (hF_628 41 7 (fun h => absurd h.2 (ni rfl))).trans (hid kn_646)
                have kn_648 : Hid (c_631 41 7 = a2) := (hF_633 41 7 (fun h => absurd h.2 (ni rfl))).trans (hid kn_647)
                have h_649 : c_69 1 4 = 0 := (hid kn_459)
                have h_650 : c_69 1 2 = (nx F e1 a) + 1 := (hz_73)
                have h_651 : c_69 1 5 = (-1) := (hid kn_641)
                have h_652 : (up c_631 41 4 ((nx F e1 a) + 1)) 41 5 = (-1) := ((up_n (by decide)).trans (hid kn_637))
                have h_653 : (up c_631 41 4 ((nx F e1 a) + 1)) 41 4 = (nx F e1 a) + 1 := (up_e rfl)
                have h_654 := ir_41_6 hI2
                have kn_655 : Hid (c_621 41 6 = c2 41 6) := hF_623 41 6 (fun h => absurd h.2 (ni rfl))
                have kn_656 : Hid (c_626 41 6 = c2 41 6) := (hF_628 41 6 (fun h => absurd h.2 (ni rfl))).trans (hid kn_655)
                have kn_657 : Hid (c_631 41 6 = c2 41 6) := (hF_633 41 6 (fun h => absurd h.2 (ni rfl))).trans (hid kn_656)
                have h_658 : (up c_631 41 4 ((nx F e1 a) + 1)) 41 6 = c2 41 6 := ((up_n (by decide)).trans (hid kn_657))
                have hA_659 : Ce nw (c_69 (A + 9)) ((up c_631 41 4 ((nx F e1 a) + 1)) 50) ((up c_631 41 4 ((nx F e1 a) + 1)) 51) := ce_fr hrl0 (fun j => hF_71 (A + 9) j (fun h => absurd h.1 (np hA rfl rfl))) (fun j => (up_c (nn rfl)).trans ((hF_633 50 j (fun h => absurd h.1 (nn rfl))).trans ((hF_628 50 j (fun h => absurd h.1 (nn rfl))).trans (hF_623 50 j (fun h => absurd h.1 (nn rfl)))))) (fun j => (up_c (nn rfl)).trans ((hF_633 51 j (fun h => absurd h.1 (nn rfl))).trans ((hF_628 51 j (fun h => absurd h.1 (nn rfl))).trans (hF_623 51 j (fun h => absurd h.1 (nn rfl))))))
                refine v_cv rfl rfl rfl rfl (by decide) ⟨⟨rfl, rfl⟩, by decide, rfl⟩ (Nat.le_of_ble_eq_true rfl) (Nat.le_of_ble_eq_true rfl) (L_12 (m := c_69) (a2 := a2) (e1 := e1) (f0 := 0) (g0 := (-1)) (p0 := (nx F e1 a) + 1) (n0 := nw) (o0 := a2) (F := F) (H := H) hI_638 hI_70 hI_461 hA (show 0 ≤ a2 ∧ a2 ≤ 6 from ha2) (by first | (clear ha2 hq0 hq1 hq2 hq3 hq4 hq5 h_1 h_2 h_3 h_4 h_5 h_6 h_7 h_8 h_9 h_10 h_11 h_12 h_13 h_14 h_15 h_16 h_60 h_61 h_62 h_72 h_464 h_465 h_466 h_606 h_607 h_608 h_609 h_610 h_611 h_612 h_613 h_614 h_615 h_617 h_618 h_620 h_63 h_619; omega) | omega) (by first | (clear ha2 hq0 hq1 hq2 hq3 hq4 hq5 h_1 h_2 h_3 h_4 h_5 h_6 h_7 h_8 h_9 h_10 h_11 h_12 h_13 h_14 h_15 h_16 h_60 h_61 h_62 h_72 h_464 h_465 h_466 h_606 h_607 h_608 h_609 h_610 h_611 h_612 h_613 h_614 h_615 h_617 h_618 h_620 h_63 h_619; omega) | omega) (by first | (clear ha2 hq0 hq1 hq2 hq3 hq4 hq5 h_1 h_2 h_3 h_4 h_5 h_6 h_7 h_8 h_9 h_10 h_11 h_12 h_13 h_14 h_15 h_16 h_60 h_61 h_62 h_72 h_464 h_465 h_466 h_606 h_607 h_608 h_609 h_610 h_611 h_612 h_613 h_614 h_615 h_617 h_618 h_620 h_63 h_619; omega) | omega) (by first | (clear ha2 hq0 hq1 hq2 hq4 hq5 h_1 h_2 h_3 h_4 h_5 h_6 h_7 h_8 h_9 h_10 h_11 h_12 h_13 h_14 h_15 h_60 h_62 h_72 h_464 h_465 h_466 h_606 h_607 h_608 h_609 h_610 h_611 h_612 h_613 h_614 h_615 h_617 h_618 h_620 h_63 h_619; omega) | omega) (by first | (clear ha2 hq0 hq1 hq2 hq3 hq4 hq5 h_1 h_2 h_3 h_4 h_5 h_6 h_7 h_8 h_9 h_10 h_11 h_12 h_13 h_14 h_15 h_16 h_60 h_61 h_62 h_464 h_465 h_466 h_606 h_607 h_608 h_609 h_610 h_611 h_612 h_613 h_614 h_615 h_617 h_618 h_620 h_63 h_619; omega) | omega) (by first | (clear ha2 hq0 hq1 hq2 hq3 hq4 h_1 h_2 h_3 h_4 h_5 h_6 h_7 h_8 h_9 h_10 h_11 h_12 h_13 h_14 h_15 h_16 h_60 h_61 h_62 h_72 h_464 h_465 h_466 h_606 h_607 h_608 h_609 h_610 h_611 h_612 h_613 h_614 h_615 h_617 h_618 h_620 h_63 h_619; omega) | omega) ((hid kn_639)) (((up_n (by decide)).trans (hid kn_640))) ((hid kn_459)) ((hid kn_641)) ((hz_73)) ((hid kn_642)) (((up_n (by decide)).trans (hid kn_645))) (((up_n (by decide)).trans (hid kn_648))) (fun j => ((hF_71 2 j (fun h => absurd h.1 (nn rfl))).trans (hFm 2 j (fun q => q.elim (fun h => absurd h.1 (nn rfl)) (fun q => q.elim (fun h => absurd h.1 (nn rfl)) (fun q => q.elim (fun h => absurd h.1 (nn rfl)) (fun q => q.elim (fun h => absurd h.1 (pn hA rfl rfl)) (fun h => absurd h (pn hA rfl rfl)))))))).trans (hF j)) (fun j => ((up_c (nn rfl)).trans ((hF_633 43 j (fun h => absurd h.1 (nn rfl))).trans ((hF_628 43 j (fun h => absurd h.1 (nn rfl))).trans ((hF_623 43 j (fun h => absurd h.1 (nn rfl))).trans (hFc 43 j (fun q => q.elim (fun h => absurd h.1 (nn rfl)) (fun q => q.elim (fun h => absurd h.1 (nn rfl)) (fun q => q.elim (fun h => absurd h.1 (nn rfl)) (fun q => q.elim (fun h => absurd h.1 (nn rfl)) (fun q => q.elim (fun h => absurd h.1 (nn rfl)) (fun q => q.elim (fun h => absurd h (nn rfl)) (fun h => absurd h (nn rfl))))))))))))).trans (hH j)) hU (rt_i1 ⟨by first | (clear ha2 hq0 hq1 hq2 hq3 hq4 hq5 h_1 h_2 h_3 h_4 h_5 h_6 h_7 h_8 h_9 h_10 h_11 h_12 h_13 h_14 h_15 h_16 h_60 h_61 h_62 h_72 h_464 h_465 h_466 h_606 h_607 h_608 h_609 h_610 h_611 h_612 h_613 h_614 h_615 h_617 h_618 h_620 h_654 h_63 h_619; omega) | omega, by first | (clear ha2 hq0 hq1 hq2 hq3 hq4 hq5 h_1 h_2 h_3 h_4 h_5 h_6 h_7 h_8 h_9 h_10 h_11 h_12 h_13 h_14 h_15 h_16 h_60 h_61 h_62 h_72 h_464 h_465 h_466 h_606 h_607 h_608 h_609 h_610 h_611 h_612 h_613 h_614 h_615 h_617 h_618 h_620 h_654 h_63 h_619; omega) | omega, by first | (clear ha2 hq0 hq1 hq2 hq3 hq4 hq5 h_1 h_2 h_3 h_4 h_5 h_6 h_7 h_8 h_9 h_10 h_11 h_12 h_13 h_14 h_15 h_16 h_60 h_61 h_62 h_72 h_464 h_465 h_466 h_606 h_607 h_608 h_609 h_610 h_611 h_612 h_613 h_614 h_615 h_617 h_618 h_620 h_654 h_63 h_619; omega) | omega, by first | (clear ha2 hq0 hq1 hq2 hq3 hq4 hq5 h_1 h_2 h_3 h_4 h_5 h_6 h_7 h_8 h_9 h_10 h_11 h_12 h_13 h_14 h_15 h_16 h_60 h_61 h_62 h_72 h_464 h_465 h_466 h_606 h_607 h_608 h_609 h_610 h_611 h_612 h_613 h_614 h_615 h_617 h_618 h_620 h_654 h_63 h_619; omega) | omega⟩) (ce_le hA_659 (by omega)) H13 hG_463 (fun c_660 hI_661 hF_662 hR_664 h_665 h_666 hA_667 => ?_))
                refine bk_inl ?_
                have h_668 := ir_41_29 hI_661
                have h_669 := ir_41_7 hI_661
                refine q_aload_n rfl rfl ?_
                refine q_iload_n rfl rfl ?_
                refine q_iconst rfl ?_
                refine v_cv rfl rfl rfl rfl (by decide) ⟨⟨rfl, rfl⟩, by decide, rfl⟩ (Nat.le_of_ble_eq_true rfl) (Nat.le_of_ble_eq_true rfl) ?_
                refine q_aload_n rfl rfl ?_
                refine v_cv rfl rfl rfl rfl (by decide) ⟨⟨rfl, rfl⟩, by decide, rfl⟩ (Nat.le_of_ble_eq_true rfl) (Nat.le_of_ble_eq_true rfl) ?_
                refine q_aload_n rfl rfl ?_
                have h_670 := ir_41_5 hI_661
                have h_671 := ir_41_4 hI_661
                have h_672 := ir_41_6 hI_661
                have h_673 := rt_bad hR_664 (by omega)
                have hrb_hR_664 := rt_bad hR_664 (by omega)
                refine v_gi (z := 5) (v := c_460 1 5) rfl rfl rfl (by decide) rfl rfl hrb_hR_664.2.1 ?_
                refine q_iconst rfl ?_
                refine v_ic_ne_t (t := 12) rfl (by decide) ⟨by first | (clear ha2 hq0 hq1 hq2 hq3 hq4 hq5 h_1 h_2 h_3 h_4 h_5 h_6 h_7 h_8 h_9 h_10 h_11 h_12 h_13 h_14 h_15 h_16 h_60 h_61 h_62 h_72 h_464 h_465 h_466 h_606 h_607 h_608 h_609 h_610 h_611 h_612 h_613 h_614 h_615 h_617 h_618 h_620 h_654 h_668 h_669 h_666 h_670 h_671 h_672 h_63 h_619 h_665; omega) | omega, ⟨(Int.le_trans (by decide) h_611.1), (Int.le_trans h_611.2 (by decide))⟩, by decide, by decide⟩ ?_
                refine q_iconst rfl ?_
                refine v_zret rfl rfl (by decide) ?_
                refine bk_inl ?_
                refine v_if_ne_f (t := 8) rfl (by decide) (by decide) ?_
                refine q_vret rfl rfl ?_
                refine bk_inl ?_
                refine q_goto (t := 4) rfl (by decide) ?_
                refine q_aload_n rfl rfl ?_
                refine v_cv rfl rfl rfl rfl (by decide) ⟨⟨rfl, rfl⟩, by decide, rfl⟩ (Nat.le_of_ble_eq_true rfl) (Nat.le_of_ble_eq_true rfl) ?_
                refine q_aload_n rfl rfl ?_
                refine v_gi (z := 5) (v := c_460 1 5) rfl rfl rfl (by decide) rfl rfl hrb_hR_664.2.1 ?_
                refine q_iconst rfl ?_
                refine v_ic_ne_t (t := 12) rfl (by decide) ⟨by first | (clear ha2 hq0 hq1 hq2 hq3 hq4 hq5 h_1 h_2 h_3 h_4 h_5 h_6 h_7 h_8 h_9 h_10 h_11 h_12 h_13 h_14 h_15 h_16 h_60 h_61 h_62 h_72 h_464 h_465 h_466 h_606 h_607 h_608 h_609 h_610 h_611 h_612 h_613 h_614 h_615 h_617 h_618 h_620 h_654 h_668 h_669 h_666 h_670 h_671 h_672 h_63 h_619 h_665; omega) | omega, ⟨(Int.le_trans (by decide) h_611.1), (Int.le_trans h_611.2 (by decide))⟩, by decide, by decide⟩ ?_
                refine q_iconst rfl ?_
                refine v_zret rfl rfl (by decide) ?_
                refine bk_inl ?_
                refine v_if_eq_t (t := 67) rfl (by decide) (by decide) ?_
                refine q_vret rfl rfl ?_
                have h_674 : c_660 41 5 = c_460 1 5 := hrb_hR_664.2.1
                have h_675 : c_660 41 6 = c_460 1 4 := hrb_hR_664.2.2.2
                exact K c_660  hI_661 (fun a j hm => (hF_662 a j (fun q => q.elim (fun h => hm (Or.inl h)) (fun q => q.elim (fun h => hm (Or.inr (Or.inl h))) (fun q => q.elim (fun h => hm (Or.inr (Or.inr (Or.inl h)))) (fun q => q.elim (fun h => hm (Or.inr (Or.inr (Or.inr (Or.inl h))))) (fun q => q.elim (fun h => hm (Or.inr (Or.inr (Or.inr (Or.inr (Or.inl h)))))) (fun q => q.elim (fun h => hm (Or.inr (Or.inr (Or.inr (Or.inr (Or.inr (Or.inl h))))))) (fun h => hm (Or.inr (Or.inr (Or.inr (Or.inr (Or.inr (Or.inr h)))))))))))))).trans ((up_b (Decidable.or_iff_not_imp_left.mpr (fun h1 h2 => hm (Or.inl ⟨Decidable.not_not.mp h1, h2⟩)))).trans ((hF_633 a j (fun h => hm (Or.inl h))).trans ((hF_628 a j (fun h => hm (Or.inl h))).trans ((hF_623 a j (fun h => hm (Or.inl h))).trans (hFc a j (fun q => q.elim (fun h => hm (Or.inl h)) (fun q => q.elim (fun h => hm (Or.inr (Or.inl h))) (fun q => q.elim (fun h => hm (Or.inr (Or.inr (Or.inl h)))) (fun q => q.elim (fun h => hm (Or.inr (Or.inr (Or.inr (Or.inl h))))) (fun q => q.elim (fun h => hm (Or.inr (Or.inr (Or.inr (Or.inr (Or.inl h)))))) (fun q => q.elim (fun h => hm (Or.inr (Or.inr (Or.inr (Or.inr (Or.inr (Or.inl h))))))) (fun h => hm (Or.inr (Or.inr (Or.inr (Or.inr (Or.inr (Or.inr h))))))))))))))))))) (rt_i2 ⟨⟨by first | (clear ha2 hq0 hq1 hq2 hq3 hq4 hq5 h_1 h_2 h_3 h_4 h_5 h_6 h_7 h_8 h_9 h_10 h_11 h_12 h_13 h_14 h_15 h_16 h_60 h_61 h_62 h_72 h_464 h_465 h_466 h_606 h_608 h_609 h_610 h_611 h_612 h_613 h_614 h_615 h_617 h_618 h_620 h_654 h_668 h_669 h_666 h_670 h_671 h_672 h_63 h_619 h_665; omega) | omega, by first | (clear ha2 hq0 hq1 hq2 hq3 hq4 hq5 h_1 h_2 h_3 h_4 h_5 h_6 h_7 h_8 h_9 h_10 h_11 h_12 h_13 h_14 h_15 h_16 h_60 h_61 h_62 h_72 h_464 h_465 h_466 h_607 h_608 h_609 h_610 h_611 h_612 h_613 h_614 h_615 h_617 h_618 h_620 h_654 h_668 h_669 h_666 h_670 h_671 h_672 h_673 h_63 h_619 h_665; omega) | omega⟩, by first | (clear ha2 hq0 hq1 hq2 hq3 hq4 hq5 h_1 h_2 h_3 h_4 h_5 h_6 h_7 h_8 h_9 h_10 h_11 h_12 h_13 h_14 h_15 h_16 h_60 h_61 h_62 h_72 h_464 h_465 h_466 h_606 h_607 h_608 h_609 h_610 h_611 h_612 h_614 h_615 h_617 h_618 h_620 h_654 h_668 h_669 h_666 h_670 h_671 h_672 h_673 h_63 h_619 h_665; omega) | omega, by first | (clear ha2 hq0 hq1 hq2 hq3 hq4 hq5 h_1 h_2 h_3 h_4 h_5 h_6 h_7 h_8 h_9 h_10 h_11 h_12 h_13 h_14 h_15 h_16 h_60 h_61 h_62 h_72 h_464 h_465 h_466 h_606 h_607 h_608 h_609 h_610 h_611 h_612 h_614 h_615 h_617 h_618 h_620 h_654 h_668 h_669 h_666 h_670 h_671 h_672 h_63 h_619 h_665; omega) | omega, by first | (clear ha2 hq0 hq1 hq2 hq3 hq4 hq5 h_1 h_2 h_3 h_4 h_5 h_6 h_7 h_8 h_9 h_10 h_11 h_12 h_13 h_14 h_15 h_16 h_60 h_61 h_62 h_72 h_464 h_465 h_466 h_606 h_608 h_609 h_610 h_611 h_612 h_613 h_614 h_615 h_617 h_618 h_620 h_654 h_668 h_669 h_666 h_670 h_671 h_672 h_673 h_63 h_619 h_665; omega) | omega⟩) (Or.inr (Or.inl (by first | (clear ha2 hq0 hq1 hq2 hq3 hq4 hq5 h_1 h_2 h_3 h_4 h_5 h_6 h_7 h_8 h_9 h_10 h_11 h_12 h_13 h_14 h_15 h_16 h_60 h_61 h_62 h_72 h_464 h_465 h_466 h_606 h_608 h_609 h_610 h_611 h_612 h_613 h_614 h_615 h_617 h_618 h_620 h_654 h_668 h_669 h_666 h_670 h_671 h_672 h_63 h_619 h_665; omega) | omega))) (by first | (clear ha2 hq0 hq1 hq2 hq3 hq4 hq5 h_1 h_2 h_3 h_4 h_5 h_6 h_7 h_8 h_9 h_10 h_11 h_12 h_13 h_14 h_15 h_16 h_60 h_61 h_62 h_72 h_464 h_465 h_466 h_606 h_607 h_608 h_609 h_610 h_611 h_612 h_613 h_614 h_615 h_617 h_618 h_620 h_654 h_668 h_669 h_670 h_671 h_672 h_673 h_63 h_619 h_665; omega) | omega) (fun hz => absurd hz (by omega))
          · refine v_ic_ge_f (t := 32) rfl (by decide) ⟨(Int.le_trans (by decide) h_464.1), (Int.not_le.mp h_465), by decide⟩ ?_
            refine q_aload_n rfl rfl ?_
            refine v_gr (t := (A + 9)) rfl rfl (ck_p7 hA) (a68 hA rfl) rfl ?_
            refine q_aload_n rfl rfl ?_
            refine v_gi (z := 5) (v := c_460 (A + 7) 5) rfl rfl (ck_p7 hA) (a68 hA rfl) rfl rfl rfl ?_
            refine q_iload_n rfl rfl ?_
            refine v_is rfl (ck_p9 hA) (a68 hA rfl) (by decide) (by omega) ?_
            refine q_aload_n rfl rfl ?_
            refine q_dup rfl rfl ?_
            refine v_gi (z := 5) (v := c_460 (A + 7) 5) rfl rfl (ck_p7 hA) (a68 hA rfl) rfl rfl (up_c (pp rfl)) ?_
            refine q_iconst rfl ?_
            refine v_iadd (v := c_460 (A + 7) 5 + 1) rfl rfl ?_
            refine v_pi (z := 5) rfl rfl (ck_p7 hA) (a68 hA rfl) rfl rfl rfl (by decide) ?_
            refine q_vret rfl rfl ?_
            refine bk_inl ?_
            refine v_iinc (v := v + 1) rfl rfl (by decide) rfl ?_
            refine q_goto (t := 8) rfl (by decide) ?_
            have h_676 := ir_1_4 hI_461
            by_cases h_677 : c_460 1 4 = 0
            · skip
              have hI_678 := iw_lg (j := c_460 (A + 7) 5) (v := 2001) hI_461 (lgp (k := 9) hA (by decide)) ⟨by decide, by decide⟩ (by omega)
              have hI_679 := iw_p7_5 (v := c_460 (A + 7) 5 + 1) hI_678 hA ⟨by first | exact rgp_l h_464.1 (by decide) | omega, by first | (clear ha2 hq0 hq1 hq2 hq3 hq4 hq5 h_1 h_2 h_3 h_4 h_5 h_6 h_7 h_8 h_9 h_10 h_11 h_12 h_13 h_14 h_15 h_16 h_60 h_61 h_62 h_72 h_464 h_676 h_677 h_63; omega) | omega⟩
              refine Wp_ls [(0, .ref (A + 7)), (1, .ref 1), (2, vi a2), (3, vi (v + 1))] (lsub_cons rfl (lsub_cons rfl (lsub_cons rfl (lsub_cons rfl lsub_nil)))) ?_
              refine gh_stop ((s_13_l (sc := sc) (d := dh + 22) (c := (up (up c_460 (A + 9) (c_460 (A + 7) 5) 2001) (A + 7) 5 (c_460 (A + 7) 5 + 1))) (a2 := a2) (Z := fun _ => True) hI_679 hA ha2 (fun c9 Z9 h hI9 K9 => r_13 (d := dh + 1) hI9 hA ⟨by omega, h⟩ K9) (fun _ _ _ => trivial) 304) (up (up c_460 (A + 9) (c_460 (A + 7) 5) 2001) (A + 7) 5 (c_460 (A + 7) 5 + 1)) (v + 1) hI_679 (fun a j hm => rfl) ⟨by omega, by omega⟩ (by omega)) (fun hG_680 => ?_)
              refine q_aload_n rfl rfl ?_
              refine v_cv rfl rfl rfl rfl (by decide) ⟨⟨rfl, rfl⟩, by decide, rfl⟩ (Nat.le_of_ble_eq_true rfl) (Nat.le_of_ble_eq_true rfl) ?_
              refine q_aload_n rfl rfl ?_
              refine v_gi (z := 5) (v := (-1)) rfl rfl rfl (by decide) rfl rfl (hc_1) ?_
              refine q_iconst rfl ?_
              refine v_ic_ne_f (t := 12) rfl (by decide) (by decide) ?_
              refine q_iconst rfl ?_
              refine q_goto (t := 13) rfl (by decide) ?_
              refine v_zret rfl rfl (by decide) ?_
              refine bk_inl ?_
              refine v_if_eq_f (t := 67) rfl (by decide) (by decide) ?_
              refine q_aload_n rfl rfl ?_
              have kn_681 : Hid (c2 41 3 = e1) := (hFc 41 3 (fun q => q.elim (fun h => absurd h.2 (ni rfl)) (fun q => q.elim (fun h => absurd h.2 (ni rfl)) (fun q => q.elim (fun h => absurd h.2 (ni rfl)) (fun q => q.elim (fun h => absurd h.2 (ni rfl)) (fun q => q.elim (fun h => absurd h.2 (ni rfl)) (fun q => q.elim (fun h => absurd h (nn rfl)) (fun h => absurd h (nn rfl))))))))).trans (hr_e1)
              have h_682 : -2147483648 ≤ (H (nx F e1 a)) ∧ (H (nx F e1 a)) ≤ 2147483647 := by rw [← hH (nx F e1 a)]; exact ir_43 hI (nx F e1 a)
              have h_683 := hU (nx F e1 a) (by omega) (by omega)
              have h_684 := hb_or (b := H) (e := e1) (r := (nx F e1 a))
              have h_685 := hb_bd (b := H) (e := e1) (r := (nx F e1 a)) (lo := -2147483648) (hi := 2147483647) h_682 (by decide)
              refine v_cv rfl rfl rfl rfl (by decide) ⟨⟨rfl, rfl⟩, by decide, rfl⟩ (Nat.le_of_ble_eq_true rfl) (Nat.le_of_ble_eq_true rfl) (f_154 (e1 := e1) (a9 := a) (B := H) (r8 := (nx F e1 a)) (r := (hb H e1 (nx F e1 a))) hI2 ((hid kn_681)) ((hr_a)) (fun j => (hFc 43 j (fun q => q.elim (fun h => absurd h.1 (nn rfl)) (fun q => q.elim (fun h => absurd h.1 (nn rfl)) (fun q => q.elim (fun h => absurd h.1 (nn rfl)) (fun q => q.elim (fun h => absurd h.1 (nn rfl)) (fun q => q.elim (fun h => absurd h.1 (nn rfl)) (fun q => q.elim (fun h => absurd h (nn rfl)) (fun h => absurd h (nn rfl))))))))).trans (hH j)) ((nx_tr hU (by first | (clear ha2 hq0 hq1 hq2 hq3 hq4 hq5 h_1 h_2 h_3 h_4 h_5 h_6 h_7 h_8 h_9 h_10 h_11 h_12 h_13 h_14 h_15 h_16 h_60 h_61 h_62 h_72 h_464 h_676 h_677 h_63; omega) | omega) (by first | (clear ha2 hq0 hq1 hq2 hq3 hq4 h_1 h_2 h_3 h_4 h_5 h_6 h_7 h_8 h_9 h_10 h_11 h_12 h_13 h_14 h_15 h_16 h_60 h_61 h_62 h_72 h_464 h_676 h_677 h_63; omega) | omega)).trans (rfl)) rfl (fun c_686 hI_687 hF_688 h_689 => ?_))
              refine bk_inl ?_
              refine v_bip rfl (by decide) ?_
              refine v_ic_eq_f (t := 29) rfl (by decide) ⟨by first | (clear ha2 hq0 hq1 hq2 hq3 h_3 h_4 h_5 h_6 h_7 h_8 h_9 h_10 h_11 h_12 h_13 h_14 h_15 h_60 h_62 h_464 h_676 h_677; omega) | omega, ⟨h_685.1, h_685.2⟩, by decide, by decide⟩ ?_
              refine q_aload_n rfl rfl ?_
              have kn_690 : Hid (c_686 41 3 = e1) := (hF_688 41 3 (fun h => absurd h.2 (ni rfl))).trans (hid kn_681)
              refine v_cv rfl rfl rfl rfl (by decide) ⟨⟨rfl, rfl⟩, by decide, rfl⟩ (Nat.le_of_ble_eq_true rfl) (Nat.le_of_ble_eq_true rfl) (f_154 (e1 := e1) (a9 := (nx F e1 a)) (B := H) (r8 := (nx F e1 a)) (r := (hb H e1 (nx F e1 a))) hI_687 ((hid kn_690)) ((h_689)) (fun j => ((hF_688 43 j (fun h => absurd h.1 (nn rfl))).trans (hFc 43 j (fun q => q.elim (fun h => absurd h.1 (nn rfl)) (fun q => q.elim (fun h => absurd h.1 (nn rfl)) (fun q => q.elim (fun h => absurd h.1 (nn rfl)) (fun q => q.elim (fun h => absurd h.1 (nn rfl)) (fun q => q.elim (fun h => absurd h.1 (nn rfl)) (fun q => q.elim (fun h => absurd h (nn rfl)) (fun h => absurd h (nn rfl)))))))))).trans (hH j)) ((nx_tr hU (by first | (clear ha2 hq0 hq1 hq2 hq3 hq4 hq5 h_1 h_2 h_3 h_4 h_5 h_6 h_7 h_8 h_9 h_10 h_11 h_12 h_13 h_14 h_15 h_16 h_60 h_62 h_72 h_464 h_676 h_677 h_682 h_683 h_685 h_63 h_684; omega) | omega) (by first | (clear ha2 hq0 hq1 hq2 hq3 hq4 h_1 h_2 h_3 h_4 h_5 h_6 h_7 h_8 h_9 h_10 h_11 h_12 h_13 h_14 h_15 h_16 h_60 h_61 h_62 h_72 h_464 h_676 h_677 h_682 h_683 h_685 h_63 h_684; omega) | omega)).trans ((nx_z (by omega)))) rfl (fun c_691 hI_692 hF_693 h_694 => ?_))
              refine bk_inl ?_
              refine v_bip rfl (by decide) ?_
              refine v_ic_ne_f (t := 67) rfl (by decide) (by first | (clear ha2 hq0 hq1 hq2 hq3 h_3 h_4 h_5 h_6 h_7 h_8 h_9 h_10 h_11 h_12 h_13 h_14 h_15 h_60 h_62 h_464 h_676 h_677; omega) | omega) ?_
              refine q_aload_n rfl rfl ?_
              have kn_695 : Hid (c_691 41 3 = e1) := (hF_693 41 3 (fun h => absurd h.2 (ni rfl))).trans (hid kn_690)
              refine v_cv rfl rfl rfl rfl (by decide) ⟨⟨rfl, rfl⟩, by decide, rfl⟩ (Nat.le_of_ble_eq_true rfl) (Nat.le_of_ble_eq_true rfl) (f_154 (e1 := e1) (a9 := (nx F e1 a)) (B := H) (r8 := (nx F e1 a)) (r := (hb H e1 (nx F e1 a))) hI_692 ((hid kn_695)) ((h_694)) (fun j => ((hF_693 43 j (fun h => absurd h.1 (nn rfl))).trans ((hF_688 43 j (fun h => absurd h.1 (nn rfl))).trans (hFc 43 j (fun q => q.elim (fun h => absurd h.1 (nn rfl)) (fun q => q.elim (fun h => absurd h.1 (nn rfl)) (fun q => q.elim (fun h => absurd h.1 (nn rfl)) (fun q => q.elim (fun h => absurd h.1 (nn rfl)) (fun q => q.elim (fun h => absurd h.1 (nn rfl)) (fun q => q.elim (fun h => absurd h (nn rfl)) (fun h => absurd h (nn rfl))))))))))).trans (hH j)) ((nx_tr hU (by first | (clear ha2 hq0 hq1 hq2 hq3 hq4 hq5 h_1 h_2 h_3 h_4 h_5 h_6 h_7 h_8 h_9 h_10 h_11 h_12 h_13 h_14 h_15 h_16 h_60 h_62 h_72 h_464 h_676 h_677 h_682 h_683 h_685 h_63 h_684; omega) | omega) (by first | (clear ha2 hq0 hq1 hq2 hq3 hq4 h_1 h_2 h_3 h_4 h_5 h_6 h_7 h_8 h_9 h_10 h_11 h_12 h_13 h_14 h_15 h_16 h_60 h_61 h_62 h_72 h_464 h_676 h_677 h_682 h_683 h_685 h_63 h_684; omega) | omega)).trans ((nx_z (by omega)))) rfl (fun c_696 hI_697 hF_698 h_699 => ?_))
              refine bk_inl ?_
              refine v_bip rfl (by decide) ?_
              refine v_ic_ne_t (t := 42) rfl (by decide) ⟨by first | (clear ha2 hq0 hq1 hq2 hq3 h_3 h_4 h_5 h_6 h_7 h_8 h_9 h_10 h_11 h_12 h_13 h_14 h_15 h_60 h_62 h_464 h_676 h_677; omega) | omega, ⟨h_685.1, h_685.2⟩, by decide, by decide⟩ ?_
              refine q_iconst rfl ?_
              refine q_istore_n rfl (by decide) ?_
              refine q_aload_n rfl rfl ?_
              refine q_dup rfl rfl ?_
              refine v_gi (z := 4) (v := (nx F e1 a)) rfl rfl rfl (by decide) rfl rfl (h_699) ?_
              refine q_iconst rfl ?_
              refine v_iadd (v := (nx F e1 a) + 1) rfl rfl ?_
              refine v_pi (z := 4) rfl rfl rfl (by decide) rfl rfl rfl (by decide) ?_
              refine q_aload_n rfl rfl ?_
              have kn_700 : Hid (c_686 41 5 = (-1)) := (hF_688 41 5 (fun h => absurd h.2 (ni rfl))).trans (hc_1)
              have kn_701 : Hid (c_691 41 5 = (-1)) := (hF_693 41 5 (fun h => absurd h.2 (ni rfl))).trans (hid kn_700)
              have kn_702 : Hid (c_696 41 5 = (-1)) := (hF_698 41 5 (fun h => absurd h.2 (ni rfl))).trans (hid kn_701)
              have hI_703 := iw_41_4 (v := (nx F e1 a) + 1) hI_697 ⟨by first | exact rgp_l (rg_be h_61 (ha.1) ((rg_eq hg_e1 h_1).2)).1 (by decide) | omega, by first | exact rgp_h (rg_be h_61 (ha.1) ((rg_eq hg_e1 h_1).2)).2 (by decide) | omega⟩
              have kn_704 : Hid (c_69 1 1 = e1) := (hF_71 1 1 (fun h => absurd h.2 (ni rfl))).trans (hid kn_59)
              have kn_705 : Hid (c_696 41 3 = e1) := (hF_698 41 3 (fun h => absurd h.2 (ni rfl))).trans (hid kn_695)
              have kn_706 : Hid (c_69 1 5 = (-1)) := (hF_71 1 5 (fun h => absurd h.2 (ni rfl))).trans (hc_2)
              have kn_707 : Hid (c_69 (A + 7) 5 = nw) := (hF_71 (A + 7) 5 (fun h => absurd h.1 (np hA rfl rfl))).trans (hg_nw)
              have kn_708 : Hid (c_686 41 29 = nw) := (hF_688 41 29 (fun h => absurd h.2 (ni rfl))).trans (hr_nw)
              have kn_709 : Hid (c_691 41 29 = nw) := (hF_693 41 29 (fun h => absurd h.2 (ni rfl))).trans (hid kn_708)
              have kn_710 : Hid (c_696 41 29 = nw) := (hF_698 41 29 (fun h => absurd h.2 (ni rfl))).trans (hid kn_709)
              have kn_711 : Hid (c_686 41 7 = a2) := (hF_688 41 7 (fun h => absurd h.2 (ni rfl))).trans (hc_3)
              have kn_712 : Hid (c_691 41 7 = a2) := (hF_693 41 7 (fun h => absurd h.2 (ni rfl))).trans (hid kn_711)
              have kn_713 : Hid (c_696 41 7 = a2) := (hF_698 41 7 (fun h => absurd h.2 (ni rfl))).trans (hid kn_712)
              have h_714 : c_69 1 4 = 0 := (hid kn_459)
              have h_715 : c_69 1 2 = (nx F e1 a) + 1 := (hz_73)
              have h_716 : c_69 1 5 = (-1) := (hid kn_706)
              have h_717 : (up c_696 41 4 ((nx F e1 a) + 1)) 41 5 = (-1) := ((up_n (by decide)).trans (hid kn_702))
              have h_718 : (up c_696 41 4 ((nx F e1 a) + 1)) 41 4 = (nx F e1 a) + 1 := (up_e rfl)
              have h_719 := ir_41_6 hI2
              have kn_720 : Hid (c_686 41 6 = c2 41 6) := hF_688 41 6 (fun h => absurd h.2 (ni rfl))
              have kn_721 : Hid (c_691 41 6 = c2 41 6) := (hF_693 41 6 (fun h => absurd h.2 (ni rfl))).trans (hid kn_720)
              have kn_722 : Hid (c_696 41 6 = c2 41 6) := (hF_698 41 6 (fun h => absurd h.2 (ni rfl))).trans (hid kn_721)
              have h_723 : (up c_696 41 4 ((nx F e1 a) + 1)) 41 6 = c2 41 6 := ((up_n (by decide)).trans (hid kn_722))
              have hA_724 : Ce nw (c_69 (A + 9)) ((up c_696 41 4 ((nx F e1 a) + 1)) 50) ((up c_696 41 4 ((nx F e1 a) + 1)) 51) := ce_fr hrl0 (fun j => hF_71 (A + 9) j (fun h => absurd h.1 (np hA rfl rfl))) (fun j => (up_c (nn rfl)).trans ((hF_698 50 j (fun h => absurd h.1 (nn rfl))).trans ((hF_693 50 j (fun h => absurd h.1 (nn rfl))).trans (hF_688 50 j (fun h => absurd h.1 (nn rfl)))))) (fun j => (up_c (nn rfl)).trans ((hF_698 51 j (fun h => absurd h.1 (nn rfl))).trans ((hF_693 51 j (fun h => absurd h.1 (nn rfl))).trans (hF_688 51 j (fun h => absurd h.1 (nn rfl))))))
              refine v_cv rfl rfl rfl rfl (by decide) ⟨⟨rfl, rfl⟩, by decide, rfl⟩ (Nat.le_of_ble_eq_true rfl) (Nat.le_of_ble_eq_true rfl) (L_12 (m := c_69) (a2 := a2) (e1 := e1) (f0 := 0) (g0 := (-1)) (p0 := (nx F e1 a) + 1) (n0 := nw) (o0 := a2) (F := F) (H := H) hI_703 hI_70 hI_461 hA (show 0 ≤ a2 ∧ a2 ≤ 6 from ha2) (by first | (clear ha2 hq0 hq1 hq2 hq3 hq4 hq5 h_1 h_2 h_3 h_4 h_5 h_6 h_7 h_8 h_9 h_10 h_11 h_12 h_13 h_14 h_15 h_16 h_60 h_61 h_62 h_72 h_464 h_676 h_677 h_682 h_683 h_685 h_63 h_684; omega) | omega) (by first | (clear ha2 hq0 hq1 hq2 hq3 hq4 hq5 h_1 h_2 h_3 h_4 h_5 h_6 h_7 h_8 h_9 h_10 h_11 h_12 h_13 h_14 h_15 h_16 h_60 h_61 h_62 h_72 h_464 h_676 h_677 h_682 h_683 h_685 h_63 h_684; omega) | omega) (by first | (clear ha2 hq0 hq1 hq2 hq3 hq4 hq5 h_1 h_2 h_3 h_4 h_5 h_6 h_7 h_8 h_9 h_10 h_11 h_12 h_13 h_14 h_15 h_16 h_60 h_61 h_62 h_72 h_464 h_676 h_677 h_682 h_683 h_685 h_63 h_684; omega) | omega) (by first | (clear ha2 hq0 hq1 hq2 hq4 hq5 h_1 h_2 h_3 h_4 h_5 h_6 h_7 h_8 h_9 h_10 h_11 h_12 h_13 h_14 h_15 h_60 h_62 h_72 h_464 h_676 h_677 h_682 h_683 h_685 h_63 h_684; omega) | omega) (by first | (clear ha2 hq0 hq1 hq2 hq3 hq4 hq5 h_1 h_2 h_3 h_4 h_5 h_6 h_7 h_8 h_9 h_10 h_11 h_12 h_13 h_14 h_15 h_16 h_60 h_61 h_62 h_464 h_676 h_677 h_682 h_683 h_685 h_63 h_684; omega) | omega) (by first | (clear ha2 hq0 hq1 hq2 hq3 hq4 h_1 h_2 h_3 h_4 h_5 h_6 h_7 h_8 h_9 h_10 h_11 h_12 h_13 h_14 h_15 h_16 h_60 h_61 h_62 h_72 h_464 h_676 h_677 h_682 h_683 h_685 h_63 h_684; omega) | omega) ((hid kn_704)) (((up_n (by decide)).trans (hid kn_705))) ((hid kn_459)) ((hid kn_706)) ((hz_73)) ((hid kn_707)) (((up_n (by decide)).trans (hid kn_710))) (((up_n (by decide)).trans (hid kn_713))) (fun j => ((hF_71 2 j (fun h => absurd h.1 (nn rfl))).trans (hFm 2 j (fun q => q.elim (fun h => absurd h.1 (nn rfl)) (fun q => q.elim (fun h => absurd h.1 (nn rfl)) (fun q => q.elim (fun h => absurd h.1 (nn rfl)) (fun q => q.elim (fun h => absurd h.1 (pn hA rfl rfl)) (fun h => absurd h (pn hA rfl rfl)))))))).trans (hF j)) (fun j => ((up_c (nn rfl)).trans ((hF_698 43 j (fun h => absurd h.1 (nn rfl))).trans ((hF_693 43 j (fun h => absurd h.1 (nn rfl))).trans ((hF_688 43 j (fun h => absurd h.1 (nn rfl))).trans (hFc 43 j (fun q => q.elim (fun h => absurd h.1 (nn rfl)) (fun q => q.elim (fun h => absurd h.1 (nn rfl)) (fun q => q.elim (fun h => absurd h.1 (nn rfl)) (fun q => q.elim (fun h => absurd h.1 (nn rfl)) (fun q => q.elim (fun h => absurd h.1 (nn rfl)) (fun q => q.elim (fun h => absurd h (nn rfl)) (fun h => absurd h (nn rfl))))))))))))).trans (hH j)) hU (rt_i1 ⟨by first | (clear ha2 hq0 hq1 hq2 hq3 hq4 hq5 h_1 h_2 h_3 h_4 h_5 h_6 h_7 h_8 h_9 h_10 h_11 h_12 h_13 h_14 h_15 h_16 h_60 h_61 h_62 h_72 h_464 h_676 h_677 h_682 h_683 h_685 h_719 h_63 h_684; omega) | omega, by first | (clear ha2 hq0 hq1 hq2 hq3 hq4 hq5 h_1 h_2 h_3 h_4 h_5 h_6 h_7 h_8 h_9 h_10 h_11 h_12 h_13 h_14 h_15 h_16 h_60 h_61 h_62 h_72 h_464 h_676 h_677 h_682 h_683 h_685 h_719 h_63 h_684; omega) | omega, by first | (clear ha2 hq0 hq1 hq2 hq3 hq4 hq5 h_1 h_2 h_3 h_4 h_5 h_6 h_7 h_8 h_9 h_10 h_11 h_12 h_13 h_14 h_15 h_16 h_60 h_61 h_62 h_72 h_464 h_676 h_677 h_682 h_683 h_685 h_719 h_63 h_684; omega) | omega, by first | (clear ha2 hq0 hq1 hq2 hq3 hq4 hq5 h_1 h_2 h_3 h_4 h_5 h_6 h_7 h_8 h_9 h_10 h_11 h_12 h_13 h_14 h_15 h_16 h_60 h_61 h_62 h_72 h_464 h_676 h_677 h_682 h_683 h_685 h_719 h_63 h_684; omega) | omega⟩) (ce_le hA_724 (by omega)) H13 hG_463 (fun c_725 hI_726 hF_727 hR_729 h_730 h_731 hA_732 => ?_))
              refine bk_inl ?_
              have h_733 := ir_41_29 hI_726
              have h_734 := ir_1_2 hI_461
              have h_735 := ir_41_7 hI_726
              refine q_aload_n rfl rfl ?_
              refine q_iload_n rfl rfl ?_
              refine q_iconst rfl ?_
              refine v_cv rfl rfl rfl rfl (by decide) ⟨⟨rfl, rfl⟩, by decide, rfl⟩ (Nat.le_of_ble_eq_true rfl) (Nat.le_of_ble_eq_true rfl) ?_
              refine q_aload_n rfl rfl ?_
              refine v_cv rfl rfl rfl rfl (by decide) ⟨⟨rfl, rfl⟩, by decide, rfl⟩ (Nat.le_of_ble_eq_true rfl) (Nat.le_of_ble_eq_true rfl) ?_
              refine q_aload_n rfl rfl ?_
              have h_736 := ir_41_5 hI_726
              have h_737 := ir_1_5 hI_461
              have h_738 := ir_41_4 hI_726
              have h_739 := ir_41_6 hI_726
              have h_740 := rt_ok hR_729 (by omega)
              have hro_hR_729 := rt_ok hR_729 (by omega)
              refine v_gi (z := 5) (v := (-1)) rfl rfl rfl (by decide) rfl rfl hro_hR_729.2.1 ?_
              refine q_iconst rfl ?_
              refine v_ic_ne_f (t := 12) rfl (by decide) (by decide) ?_
              refine q_iconst rfl ?_
              refine q_goto (t := 13) rfl (by decide) ?_
              refine v_zret rfl rfl (by decide) ?_
              refine bk_inl ?_
              refine v_if_ne_t (t := 8) rfl (by decide) (by decide) ?_
              refine q_aload_n rfl rfl ?_
              refine v_gr (t := 50) rfl rfl rfl (by decide) rfl ?_
              refine q_aload_n rfl rfl ?_
              refine v_gi (z := 29) (v := c_725 41 29) rfl rfl rfl (by decide) rfl rfl rfl ?_
              refine q_iload_n rfl rfl ?_
              refine v_is rfl rfl (by decide) (by decide) (by omega) ?_
              refine q_aload_n rfl rfl ?_
              refine v_gr (t := 51) rfl rfl rfl (by decide) rfl ?_
              refine q_aload_n rfl rfl ?_
              refine v_gi (z := 29) (v := c_725 41 29) rfl rfl rfl (by decide) rfl rfl (up_c (nn rfl)) ?_
              refine q_iload_n rfl rfl ?_
              refine v_is rfl rfl (by decide) (by decide) (by omega) ?_
              refine q_aload_n rfl rfl ?_
              refine q_dup rfl rfl ?_
              refine v_gi (z := 29) (v := c_725 41 29) rfl rfl rfl (by decide) rfl rfl ((up_c (nn rfl)).trans (up_c (nn rfl))) ?_
              refine q_iconst rfl ?_
              refine v_iadd (v := c_725 41 29 + 1) rfl rfl ?_
              refine v_pi (z := 29) rfl rfl rfl (by decide) rfl rfl rfl (by decide) ?_
              refine q_vret rfl rfl ?_
              refine bk_inl ?_
              refine q_goto (t := 4) rfl (by decide) ?_
              have hI_741 := iw_50 (j := c_725 41 29) (v := 3) hI_726 ⟨by decide, by decide⟩
              have hI_742 := iw_51 (j := c_725 41 29) (v := 0) hI_741 ⟨by decide, by decide⟩
              have hI_743 := iw_41_29 (v := c_725 41 29 + 1) hI_742 ⟨by first | exact rgp_l h_733.1 (by decide) | omega, by first | (clear ha2 hq0 hq1 hq2 hq3 h_3 h_4 h_5 h_6 h_7 h_8 h_9 h_10 h_13 h_14 h_15 h_60 h_62 h_682 h_683 h_685 h_719 h_735 h_731 h_736 h_737 h_738 h_739; omega) | omega⟩
              refine Wp_ls [(0, .ref 41)] (lsub_cons rfl lsub_nil) ?_
              have hA_744 : Ce (c_725 41 29 + 1) ((up (up c_460 (A + 9) (c_460 (A + 7) 5) 2001) (A + 7) 5 (c_460 (A + 7) 5 + 1)) (A + 9)) ((up (up (up c_725 50 (c_725 41 29) 3) 51 (c_725 41 29) 0) 41 29 (c_725 41 29 + 1)) 50) ((up (up (up c_725 50 (c_725 41 29) 3) 51 (c_725 41 29) 0) 41 29 (c_725 41 29 + 1)) 51) := ce_w (i := c_460 (A + 7) 5) (v := 2001) (w := 3) (o := 0) (hA_732 (by omega)) (by omega) ((up_c (pp rfl)).trans (up_e rfl)) ((up_c (nn rfl)).trans ((up_c (nn rfl)).trans (up_e (by omega)))) ((up_c (nn rfl)).trans (up_e (by omega))) (fun j hj => (up_c (pp rfl)).trans (up_n hj)) (fun j hj => (up_c (nn rfl)).trans ((up_c (nn rfl)).trans (up_n (by omega)))) (fun j hj => (up_c (nn rfl)).trans ((up_n (by omega)).trans (up_c (nn rfl)))) (cr_i2 ⟨by decide, by decide, by decide, by decide⟩)
              have hA_745 : Ce (c_460 (A + 7) 5 + 1) ((up (up c_460 (A + 9) (c_460 (A + 7) 5) 2001) (A + 7) 5 (c_460 (A + 7) 5 + 1)) (A + 9)) ((up (up (up c_725 50 (c_725 41 29) 3) 51 (c_725 41 29) 0) 41 29 (c_725 41 29 + 1)) 50) ((up (up (up c_725 50 (c_725 41 29) 3) 51 (c_725 41 29) 0) 41 29 (c_725 41 29 + 1)) 51) := ce_le hA_744 (by omega)
              exact ih (up (up (up c_725 50 (c_725 41 29) 3) 51 (c_725 41 29) 0) 41 29 (c_725 41 29 + 1)) (up (up c_460 (A + 9) (c_460 (A + 7) 5) 2001) (A + 7) 5 (c_460 (A + 7) 5 + 1)) (v + 1) (c_460 1 2) (c_460 (A + 7) 5 + 1) hI_743 (fun a j hm => (up_b (Decidable.or_iff_not_imp_left.mpr (fun h1 h2 => hm (Or.inr (Or.inr (Or.inr (Or.inr (Or.inl ⟨Decidable.not_not.mp h1, h2⟩)))))))).trans ((up_b (Decidable.or_iff_not_imp_left.mpr (fun h1 h2 => hm (Or.inr (Or.inr (Or.inr (Or.inr (Or.inr (Or.inr (Decidable.not_not.mp h1)))))))))).trans ((up_b (Decidable.or_iff_not_imp_left.mpr (fun h1 h2 => hm (Or.inr (Or.inr (Or.inr (Or.inr (Or.inr (Or.inl (Decidable.not_not.mp h1)))))))))).trans ((hF_727 a j (fun q => q.elim (fun h => hm (Or.inl h)) (fun q => q.elim (fun h => hm (Or.inr (Or.inl h))) (fun q => q.elim (fun h => hm (Or.inr (Or.inr (Or.inl h)))) (fun q => q.elim (fun h => hm (Or.inr (Or.inr (Or.inr (Or.inl h))))) (fun q => q.elim (fun h => hm (Or.inr (Or.inr (Or.inr (Or.inr (Or.inl h)))))) (fun q => q.elim (fun h => hm (Or.inr (Or.inr (Or.inr (Or.inr (Or.inr (Or.inl h))))))) (fun h => hm (Or.inr (Or.inr (Or.inr (Or.inr (Or.inr (Or.inr h)))))))))))))).trans ((up_b (Decidable.or_iff_not_imp_left.mpr (fun h1 h2 => hm (Or.inl ⟨Decidable.not_not.mp h1, h2⟩)))).trans ((hF_698 a j (fun h => hm (Or.inl h))).trans ((hF_693 a j (fun h => hm (Or.inl h))).trans ((hF_688 a j (fun h => hm (Or.inl h))).trans (hFc a j (fun q => q.elim (fun h => hm (Or.inl h)) (fun q => q.elim (fun h => hm (Or.inr (Or.inl h))) (fun q => q.elim (fun h => hm (Or.inr (Or.inr (Or.inl h)))) (fun q => q.elim (fun h => hm (Or.inr (Or.inr (Or.inr (Or.inl h))))) (fun q => q.elim (fun h => hm (Or.inr (Or.inr (Or.inr (Or.inr (Or.inl h)))))) (fun q => q.elim (fun h => hm (Or.inr (Or.inr (Or.inr (Or.inr (Or.inr (Or.inl h))))))) (fun h => hm (Or.inr (Or.inr (Or.inr (Or.inr (Or.inr (Or.inr h)))))))))))))))))))))) hI_679 (fun a j hm => (up_b (Decidable.or_iff_not_imp_left.mpr (fun h1 h2 => hm (Or.inr (Or.inr (Or.inr (Or.inl ⟨Decidable.not_not.mp h1, h2⟩))))))).trans ((up_b (Decidable.or_iff_not_imp_left.mpr (fun h1 h2 => hm (Or.inr (Or.inr (Or.inr (Or.inr (Decidable.not_not.mp h1)))))))).trans ((hF_462 a j (fun q => q.elim (fun h => hm (Or.inl h)) (fun q => q.elim (fun h => hm (Or.inr (Or.inl h))) (fun q => q.elim (fun h => hm (Or.inr (Or.inr (Or.inl h)))) (fun q => q.elim (fun h => hm (Or.inr (Or.inr (Or.inr (Or.inl h))))) (fun h => hm (Or.inr (Or.inr (Or.inr (Or.inr h)))))))))).trans ((hF_71 a j (fun h => hm (Or.inl h))).trans (hFm a j (fun q => q.elim (fun h => hm (Or.inl h)) (fun q => q.elim (fun h => hm (Or.inr (Or.inl h))) (fun q => q.elim (fun h => hm (Or.inr (Or.inr (Or.inl h)))) (fun q => q.elim (fun h => hm (Or.inr (Or.inr (Or.inr (Or.inl h))))) (fun h => hm (Or.inr (Or.inr (Or.inr (Or.inr h)))))))))))))) ⟨by omega, by omega⟩ ⟨by omega, by omega⟩ ⟨by omega, by omega⟩ (((up_c (pn hA rfl rfl)).trans (up_c (pn hA rfl rfl)))) (((((up_n (by decide)).trans ((up_c (nn rfl)).trans (up_c (nn rfl))))).trans (hro_hR_729.2.2.1))) ((up_e rfl)) ((show _ = c_725 41 29 + 1 from (up_e rfl)).trans (by omega)) ((show _ = c_460 1 4 from ((up_c (pn hA rfl rfl)).trans (up_c (pn hA rfl rfl)))).trans (by omega)) (((((up_n (by decide)).trans ((up_c (nn rfl)).trans (up_c (nn rfl))))).trans (hro_hR_729.2.1))) ((show _ = c_460 1 5 from ((up_c (pn hA rfl rfl)).trans (up_c (pn hA rfl rfl)))).trans (by omega)) ((show _ = c_725 41 7 from ((up_n (by decide)).trans ((up_c (nn rfl)).trans (up_c (nn rfl))))).trans (by omega)) (by first | (clear hq0 hq1 h_3 h_4 h_8 h_13 h_14 h_15 h_60 h_62 h_682 h_683 h_685 h_719 h_735 h_739; omega) | omega) (by first | (clear hq0 hq1 h_3 h_4 h_8 h_13 h_14 h_15 h_60 h_62 h_682 h_683 h_685 h_719 h_735 h_739; omega) | omega) (by first | (clear ha2 hq0 hq1 hq2 hq3 h_3 h_4 h_5 h_6 h_7 h_8 h_9 h_10 h_11 h_12 h_13 h_14 h_15 h_60 h_62 h_464 h_676 h_677 h_682 h_683 h_685 h_719 h_733 h_735 h_731 h_736 h_737 h_738 h_739; omega) | omega) (by first | (clear hq0 hq1 h_3 h_4 h_8 h_13 h_14 h_15 h_60 h_62 h_682 h_683 h_685 h_719 h_735 h_739; omega) | omega) (ce_le hA_745 (by omega)) hG_680 (by omega)
            · skip
              refine q_iload_n rfl rfl ?_
              refine v_sip rfl (by decide) ?_
              by_cases h_746 : v + 1 ≥ 150
              · refine v_ic_ge_t (t := 59) rfl (by decide) ⟨by decide, h_746, by first | exact rgp_h hv.2 (by decide) | omega⟩ ?_
                refine q_vret rfl rfl ?_
                have hI_747 := iw_lg (j := c_460 (A + 7) 5) (v := 2001) hI_461 (lgp (k := 9) hA (by decide)) ⟨by decide, by decide⟩ (by omega)
                have hI_748 := iw_p7_5 (v := c_460 (A + 7) 5 + 1) hI_747 hA ⟨by first | exact rgp_l h_464.1 (by decide) | omega, by first | (clear ha2 hq0 hq1 hq2 hq3 hq4 hq5 h_1 h_2 h_3 h_4 h_5 h_6 h_7 h_8 h_9 h_10 h_11 h_12 h_13 h_14 h_15 h_16 h_60 h_61 h_62 h_72 h_464 h_676 h_746 h_63; omega) | omega⟩
                intro hE_749
                have hW : Wd P Q P P (up (up c_460 (A + 9) (c_460 (A + 7) 5) 2001) (A + 7) 5 (c_460 (A + 7) 5 + 1)) = Wd P Q P P m9 := (Prod.mk.inj (Prod.mk.inj hE_749).2).1
                have h_750 := ir_1_4 hJ9
                have h_751 : m9 1 4 = c_460 1 4 := wd_fv (z := 4) 4 rfl hW rfl rfl rfl rfl (by decide) ((up_c (pn hA rfl rfl)).trans (up_c (pn hA rfl rfl))) ⟨(Int.le_trans (by decide) h_676.1), (Int.le_trans h_676.2 (by decide))⟩ ⟨(Int.le_trans (by decide) h_750.1), (Int.le_trans h_750.2 (by decide))⟩
                have h_752 := ir_1_2 hI_461
                have h_753 := ir_1_2 hJ9
                have h_754 : m9 1 2 = c_460 1 2 := wd_fv (z := 2) 2 rfl hW rfl rfl rfl rfl (by decide) ((up_c (pn hA rfl rfl)).trans (up_c (pn hA rfl rfl))) ⟨(Int.le_trans (by decide) h_752.1), (Int.le_trans h_752.2 (by decide))⟩ ⟨(Int.le_trans (by decide) h_753.1), (Int.le_trans h_753.2 (by decide))⟩
                have h_755 := ir_1_5 hI_461
                have h_756 := ir_1_5 hJ9
                have h_757 : m9 1 5 = c_460 1 5 := wd_fv (z := 5) 5 rfl hW rfl rfl rfl rfl (by decide) ((up_c (pn hA rfl rfl)).trans (up_c (pn hA rfl rfl))) ⟨(Int.le_trans (by decide) h_755.1), (Int.le_trans h_755.2 (by decide))⟩ ⟨(Int.le_trans (by decide) h_756.1), (Int.le_trans h_756.2 (by decide))⟩
                have h_758 := ir_p7_5 hJ9 hA
                have h_759 : m9 (A + 7) 5 = c_460 (A + 7) 5 + 1 := wd_fv (z := 5) 5 rfl hW (ck_p7 hA) (ck_p7 hA) rfl rfl (by omega) (up_e rfl) ⟨by first | exact rgp_l h_464.1 (by decide) | omega, by first | exact rgp_h h_464.2 (by decide) | omega⟩ ⟨(Int.le_trans (by decide) h_758.1), (Int.le_trans h_758.2 (by decide))⟩
                refine q_aload_n rfl rfl ?_
                refine v_cv rfl rfl rfl rfl (by decide) ⟨⟨rfl, rfl⟩, by decide, rfl⟩ (Nat.le_of_ble_eq_true rfl) (Nat.le_of_ble_eq_true rfl) ?_
                refine q_aload_n rfl rfl ?_
                refine v_gi (z := 5) (v := (-1)) rfl rfl rfl (by decide) rfl rfl (hc_1) ?_
                refine q_iconst rfl ?_
                refine v_ic_ne_f (t := 12) rfl (by decide) (by decide) ?_
                refine q_iconst rfl ?_
                refine q_goto (t := 13) rfl (by decide) ?_
                refine v_zret rfl rfl (by decide) ?_
                refine bk_inl ?_
                refine v_if_eq_f (t := 67) rfl (by decide) (by decide) ?_
                refine q_aload_n rfl rfl ?_
                have kn_760 : Hid (c2 41 3 = e1) := (hFc 41 3 (fun q => q.elim (fun h => absurd h.2 (ni rfl)) (fun q => q.elim (fun h => absurd h.2 (ni rfl)) (fun q => q.elim (fun h => absurd h.2 (ni rfl)) (fun q => q.elim (fun h => absurd h.2 (ni rfl)) (fun q => q.elim (fun h => absurd h.2 (ni rfl)) (fun q => q.elim (fun h => absurd h (nn rfl)) (fun h => absurd h (nn rfl))))))))).trans (hr_e1)
                have h_761 : -2147483648 ≤ (H (nx F e1 a)) ∧ (H (nx F e1 a)) ≤ 2147483647 := by rw [← hH (nx F e1 a)]; exact ir_43 hI (nx F e1 a)
                have h_762 := hU (nx F e1 a) (by omega) (by omega)
                have h_763 := hb_or (b := H) (e := e1) (r := (nx F e1 a))
                have h_764 := hb_bd (b := H) (e := e1) (r := (nx F e1 a)) (lo := -2147483648) (hi := 2147483647) h_761 (by decide)
                refine v_cv rfl rfl rfl rfl (by decide) ⟨⟨rfl, rfl⟩, by decide, rfl⟩ (Nat.le_of_ble_eq_true rfl) (Nat.le_of_ble_eq_true rfl) (f_154 (e1 := e1) (a9 := a) (B := H) (r8 := (nx F e1 a)) (r := (hb H e1 (nx F e1 a))) hI2 ((hid kn_760)) ((hr_a)) (fun j => (hFc 43 j (fun q => q.elim (fun h => absurd h.1 (nn rfl)) (fun q => q.elim (fun h => absurd h.1 (nn rfl)) (fun q => q.elim (fun h => absurd h.1 (nn rfl)) (fun q => q.elim (fun h => absurd h.1 (nn rfl)) (fun q => q.elim (fun h => absurd h.1 (nn rfl)) (fun q => q.elim (fun h => absurd h (nn rfl)) (fun h => absurd h (nn rfl))))))))).trans (hH j)) ((nx_tr hU (by first | (clear ha2 hq0 hq1 hq2 hq3 hq4 hq5 h_1 h_2 h_3 h_4 h_5 h_6 h_7 h_8 h_9 h_10 h_11 h_12 h_13 h_14 h_15 h_60 h_61 h_62 h_72 h_464 h_676 h_750 h_751 h_752 h_753 h_754 h_755 h_756 h_757 h_758 h_759 h_63; omega) | omega) (by first | (clear ha2 hq0 hq1 hq2 hq3 hq4 h_1 h_2 h_3 h_4 h_5 h_6 h_7 h_8 h_9 h_10 h_11 h_12 h_13 h_14 h_15 h_16 h_60 h_61 h_62 h_72 h_464 h_676 h_746 h_750 h_751 h_752 h_753 h_754 h_755 h_756 h_757 h_758 h_759 h_63; omega) | omega)).trans (rfl)) rfl (fun c_765 hI_766 hF_767 h_768 => ?_))
                refine bk_inl ?_
                refine v_bip rfl (by decide) ?_
                refine v_ic_eq_f (t := 29) rfl (by decide) ⟨by first | (clear ha2 hq0 hq1 hq2 hq3 h_3 h_4 h_5 h_6 h_7 h_8 h_9 h_10 h_11 h_12 h_13 h_14 h_15 h_60 h_62 h_464 h_676 h_746 h_750 h_751 h_752 h_753 h_754 h_755 h_756 h_757 h_758 h_759; omega) | omega, ⟨h_764.1, h_764.2⟩, by decide, by decide⟩ ?_
                refine q_aload_n rfl rfl ?_
                have kn_769 : Hid (c_765 41 3 = e1) := (hF_767 41 3 (fun h => absurd h.2 (ni rfl))).trans (hid kn_760)
                refine v_cv rfl rfl rfl rfl (by decide) ⟨⟨rfl, rfl⟩, by decide, rfl⟩ (Nat.le_of_ble_eq_true rfl) (Nat.le_of_ble_eq_true rfl) (f_154 (e1 := e1) (a9 := (nx F e1 a)) (B := H) (r8 := (nx F e1 a)) (r := (hb H e1 (nx F e1 a))) hI_766 ((hid kn_769)) ((h_768)) (fun j => ((hF_767 43 j (fun h => absurd h.1 (nn rfl))).trans (hFc 43 j (fun q => q.elim (fun h => absurd h.1 (nn rfl)) (fun q => q.elim (fun h => absurd h.1 (nn rfl)) (fun q => q.elim (fun h => absurd h.1 (nn rfl)) (fun q => q.elim (fun h => absurd h.1 (nn rfl)) (fun q => q.elim (fun h => absurd h.1 (nn rfl)) (fun q => q.elim (fun h => absurd h (nn rfl)) (fun h => absurd h (nn rfl)))))))))).trans (hH j)) ((nx_tr hU (by first | (clear ha2 hq0 hq1 hq2 hq3 hq4 hq5 h_1 h_2 h_3 h_4 h_5 h_6 h_7 h_8 h_9 h_10 h_11 h_12 h_13 h_14 h_15 h_60 h_62 h_72 h_464 h_676 h_750 h_751 h_752 h_753 h_754 h_755 h_756 h_757 h_758 h_759 h_761 h_762 h_764 h_63 h_763; omega) | omega) (by first | (clear ha2 hq0 hq1 hq2 hq3 hq4 h_1 h_2 h_3 h_4 h_5 h_6 h_7 h_8 h_9 h_10 h_11 h_12 h_13 h_14 h_15 h_16 h_60 h_61 h_62 h_72 h_464 h_676 h_746 h_750 h_751 h_752 h_753 h_754 h_755 h_756 h_757 h_758 h_759 h_761 h_762 h_764 h_63 h_763; omega) | omega)).trans ((nx_z (by omega)))) rfl (fun c_770 hI_771 hF_772 h_773 => ?_))
                refine bk_inl ?_
                refine v_bip rfl (by decide) ?_
                refine v_ic_ne_f (t := 67) rfl (by decide) (by first | (clear ha2 hq0 hq1 hq2 hq3 h_3 h_4 h_5 h_6 h_7 h_8 h_9 h_10 h_11 h_12 h_13 h_14 h_15 h_60 h_62 h_464 h_676 h_746 h_750 h_751 h_752 h_753 h_754 h_755 h_756 h_757 h_758 h_759; omega) | omega) ?_
                refine q_aload_n rfl rfl ?_
                have kn_774 : Hid (c_770 41 3 = e1) := (hF_772 41 3 (fun h => absurd h.2 (ni rfl))).trans (hid kn_769)
                refine v_cv rfl rfl rfl rfl (by decide) ⟨⟨rfl, rfl⟩, by decide, rfl⟩ (Nat.le_of_ble_eq_true rfl) (Nat.le_of_ble_eq_true rfl) (f_154 (e1 := e1) (a9 := (nx F e1 a)) (B := H) (r8 := (nx F e1 a)) (r := (hb H e1 (nx F e1 a))) hI_771 ((hid kn_774)) ((h_773)) (fun j => ((hF_772 43 j (fun h => absurd h.1 (nn rfl))).trans ((hF_767 43 j (fun h => absurd h.1 (nn rfl))).trans (hFc 43 j (fun q => q.elim (fun h => absurd h.1 (nn rfl)) (fun q => q.elim (fun h => absurd h.1 (nn rfl)) (fun q => q.elim (fun h => absurd h.1 (nn rfl)) (fun q => q.elim (fun h => absurd h.1 (nn rfl)) (fun q => q.elim (fun h => absurd h.1 (nn rfl)) (fun q => q.elim (fun h => absurd h (nn rfl)) (fun h => absurd h (nn rfl))))))))))).trans (hH j)) ((nx_tr hU (by first | (clear ha2 hq0 hq1 hq2 hq3 hq4 hq5 h_1 h_2 h_3 h_4 h_5 h_6 h_7 h_8 h_9 h_10 h_11 h_12 h_13 h_14 h_15 h_60 h_62 h_72 h_464 h_676 h_750 h_751 h_752 h_753 h_754 h_755 h_756 h_757 h_758 h_759 h_761 h_762 h_764 h_63 h_763; omega) | omega) (by first | (clear ha2 hq0 hq1 hq2 hq3 hq4 h_1 h_2 h_3 h_4 h_5 h_6 h_7 h_8 h_9 h_10 h_11 h_12 h_13 h_14 h_15 h_16 h_60 h_61 h_62 h_72 h_464 h_676 h_746 h_750 h_751 h_752 h_753 h_754 h_755 h_756 h_757 h_758 h_759 h_761 h_762 h_764 h_63 h_763; omega) | omega)).trans ((nx_z (by omega)))) rfl (fun c_775 hI_776 hF_777 h_778 => ?_))
                refine bk_inl ?_
                refine v_bip rfl (by decide) ?_
                refine v_ic_ne_t (t := 42) rfl (by decide) ⟨by first | (clear ha2 hq0 hq1 hq2 hq3 h_3 h_4 h_5 h_6 h_7 h_8 h_9 h_10 h_11 h_12 h_13 h_14 h_15 h_60 h_62 h_464 h_676 h_746 h_750 h_751 h_752 h_753 h_754 h_755 h_756 h_757 h_758 h_759; omega) | omega, ⟨h_764.1, h_764.2⟩, by decide, by decide⟩ ?_
                refine q_iconst rfl ?_
                refine q_istore_n rfl (by decide) ?_
                refine q_aload_n rfl rfl ?_
                refine q_dup rfl rfl ?_
                refine v_gi (z := 4) (v := (nx F e1 a)) rfl rfl rfl (by decide) rfl rfl (h_778) ?_
                refine q_iconst rfl ?_
                refine v_iadd (v := (nx F e1 a) + 1) rfl rfl ?_
                refine v_pi (z := 4) rfl rfl rfl (by decide) rfl rfl rfl (by decide) ?_
                refine q_aload_n rfl rfl ?_
                have kn_779 : Hid (c_765 41 5 = (-1)) := (hF_767 41 5 (fun h => absurd h.2 (ni rfl))).trans (hc_1)
                have kn_780 : Hid (c_770 41 5 = (-1)) := (hF_772 41 5 (fun h => absurd h.2 (ni rfl))).trans (hid kn_779)
                have kn_781 : Hid (c_775 41 5 = (-1)) := (hF_777 41 5 (fun h => absurd h.2 (ni rfl))).trans (hid kn_780)
                have hI_782 := iw_41_4 (v := (nx F e1 a) + 1) hI_776 ⟨by first | exact rgp_l (rg_be h_61 (ha.1) ((rg_eq hg_e1 h_1).2)).1 (by decide) | omega, by first | exact rgp_h (rg_be h_61 (ha.1) ((rg_eq hg_e1 h_1).2)).2 (by decide) | omega⟩
                have kn_783 : Hid (c_69 1 1 = e1) := (hF_71 1 1 (fun h => absurd h.2 (ni rfl))).trans (hid kn_59)
                have kn_784 : Hid (c_775 41 3 = e1) := (hF_777 41 3 (fun h => absurd h.2 (ni rfl))).trans (hid kn_774)
                have kn_785 : Hid (c_69 1 5 = (-1)) := (hF_71 1 5 (fun h => absurd h.2 (ni rfl))).trans (hc_2)
                have kn_786 : Hid (c_69 (A + 7) 5 = nw) := (hF_71 (A + 7) 5 (fun h => absurd h.1 (np hA rfl rfl))).trans (hg_nw)
                have kn_787 : Hid (c_765 41 29 = nw) := (hF_767 41 29 (fun h => absurd h.2 (ni rfl))).trans (hr_nw)
                have kn_788 : Hid (c_770 41 29 = nw) := (hF_772 41 29 (fun h => absurd h.2 (ni rfl))).trans (hid kn_787)
                have kn_789 : Hid (c_775 41 29 = nw) := (hF_777 41 29 (fun h => absurd h.2 (ni rfl))).trans (hid kn_788)
                have kn_790 : Hid (c_765 41 7 = a2) := (hF_767 41 7 (fun h => absurd h.2 (ni rfl))).trans (hc_3)
                have kn_791 : Hid (c_770 41 7 = a2) := (hF_772 41 7 (fun h => absurd h.2 (ni rfl))).trans (hid kn_790)
                have kn_792 : Hid (c_775 41 7 = a2) := (hF_777 41 7 (fun h => absurd h.2 (ni rfl))).trans (hid kn_791)
                have h_793 : c_69 1 4 = 0 := (hid kn_459)
                have h_794 : c_69 1 2 = (nx F e1 a) + 1 := (hz_73)
                have h_795 : c_69 1 5 = (-1) := (hid kn_785)
                have h_796 : (up c_775 41 4 ((nx F e1 a) + 1)) 41 5 = (-1) := ((up_n (by decide)).trans (hid kn_781))
                have h_797 : (up c_775 41 4 ((nx F e1 a) + 1)) 41 4 = (nx F e1 a) + 1 := (up_e rfl)
                have h_798 := ir_41_6 hI2
                have kn_799 : Hid (c_765 41 6 = c2 41 6) := hF_767 41 6 (fun h => absurd h.2 (ni rfl))
                have kn_800 : Hid (c_770 41 6 = c2 41 6) := (hF_772 41 6 (fun h => absurd h.2 (ni rfl))).trans (hid kn_799)
                have kn_801 : Hid (c_775 41 6 = c2 41 6) := (hF_777 41 6 (fun h => absurd h.2 (ni rfl))).trans (hid kn_800)
                have h_802 : (up c_775 41 4 ((nx F e1 a) + 1)) 41 6 = c2 41 6 := ((up_n (by decide)).trans (hid kn_801))
                have hA_803 : Ce nw (c_69 (A + 9)) ((up c_775 41 4 ((nx F e1 a) + 1)) 50) ((up c_775 41 4 ((nx F e1 a) + 1)) 51) := ce_fr hrl0 (fun j => hF_71 (A + 9) j (fun h => absurd h.1 (np hA rfl rfl))) (fun j => (up_c (nn rfl)).trans ((hF_777 50 j (fun h => absurd h.1 (nn rfl))).trans ((hF_772 50 j (fun h => absurd h.1 (nn rfl))).trans (hF_767 50 j (fun h => absurd h.1 (nn rfl)))))) (fun j => (up_c (nn rfl)).trans ((hF_777 51 j (fun h => absurd h.1 (nn rfl))).trans ((hF_772 51 j (fun h => absurd h.1 (nn rfl))).trans (hF_767 51 j (fun h => absurd h.1 (nn rfl))))))
                refine v_cv rfl rfl rfl rfl (by decide) ⟨⟨rfl, rfl⟩, by decide, rfl⟩ (Nat.le_of_ble_eq_true rfl) (Nat.le_of_ble_eq_true rfl) (L_12 (m := c_69) (a2 := a2) (e1 := e1) (f0 := 0) (g0 := (-1)) (p0 := (nx F e1 a) + 1) (n0 := nw) (o0 := a2) (F := F) (H := H) hI_782 hI_70 hI_461 hA (show 0 ≤ a2 ∧ a2 ≤ 6 from ha2) (by first | (clear ha2 hq0 hq1 hq2 hq3 hq4 hq5 h_1 h_2 h_3 h_4 h_5 h_6 h_7 h_8 h_9 h_10 h_11 h_12 h_13 h_14 h_15 h_16 h_60 h_61 h_62 h_72 h_464 h_676 h_746 h_750 h_751 h_752 h_753 h_754 h_755 h_756 h_757 h_758 h_759 h_761 h_762 h_764 h_63 h_763; omega) | omega) (by first | (clear ha2 hq0 hq1 hq2 hq3 hq4 hq5 h_1 h_2 h_3 h_4 h_5 h_6 h_7 h_8 h_9 h_10 h_11 h_12 h_13 h_14 h_15 h_16 h_60 h_61 h_62 h_72 h_464 h_676 h_746 h_750 h_751 h_752 h_753 h_754 h_755 h_756 h_757 h_758 h_759 h_761 h_762 h_764 h_63 h_763; omega) | omega) (by first | (clear ha2 hq0 hq1 hq2 hq3 hq4 hq5 h_1 h_2 h_3 h_4 h_5 h_6 h_7 h_8 h_9 h_10 h_11 h_12 h_13 h_14 h_15 h_16 h_60 h_61 h_62 h_72 h_464 h_676 h_746 h_750 h_751 h_752 h_753 h_754 h_755 h_756 h_757 h_758 h_759 h_761 h_762 h_764 h_63 h_763; omega) | omega) (by first | (clear ha2 hq0 hq1 hq2 hq4 hq5 h_1 h_2 h_3 h_4 h_5 h_6 h_7 h_8 h_9 h_10 h_11 h_12 h_13 h_14 h_15 h_60 h_62 h_72 h_464 h_676 h_746 h_750 h_751 h_752 h_753 h_754 h_755 h_756 h_757 h_758 h_759 h_761 h_762 h_764 h_63 h_763; omega) | omega) (by first | (clear ha2 hq0 hq1 hq2 hq3 hq4 hq5 h_1 h_2 h_3 h_4 h_5 h_6 h_7 h_8 h_9 h_10 h_11 h_12 h_13 h_14 h_15 h_16 h_60 h_61 h_62 h_464 h_676 h_746 h_750 h_751 h_752 h_753 h_754 h_755 h_756 h_757 h_758 h_759 h_761 h_762 h_764 h_63 h_763; omega) | omega) (by first | (clear ha2 hq0 hq1 hq2 hq3 hq4 h_1 h_2 h_3 h_4 h_5 h_6 h_7 h_8 h_9 h_10 h_11 h_12 h_13 h_14 h_15 h_16 h_60 h_61 h_62 h_72 h_464 h_676 h_746 h_750 h_751 h_752 h_753 h_754 h_755 h_756 h_757 h_758 h_759 h_761 h_762 h_764 h_63 h_763; omega) | omega) ((hid kn_783)) (((up_n (by decide)).trans (hid kn_784))) ((hid kn_459)) ((hid kn_785)) ((hz_73)) ((hid kn_786)) (((up_n (by decide)).trans (hid kn_789))) (((up_n (by decide)).trans (hid kn_792))) (fun j => ((hF_71 2 j (fun h => absurd h.1 (nn rfl))).trans (hFm 2 j (fun q => q.elim (fun h => absurd h.1 (nn rfl)) (fun q => q.elim (fun h => absurd h.1 (nn rfl)) (fun q => q.elim (fun h => absurd h.1 (nn rfl)) (fun q => q.elim (fun h => absurd h.1 (pn hA rfl rfl)) (fun h => absurd h (pn hA rfl rfl)))))))).trans (hF j)) (fun j => ((up_c (nn rfl)).trans ((hF_777 43 j (fun h => absurd h.1 (nn rfl))).trans ((hF_772 43 j (fun h => absurd h.1 (nn rfl))).trans ((hF_767 43 j (fun h => absurd h.1 (nn rfl))).trans (hFc 43 j (fun q => q.elim (fun h => absurd h.1 (nn rfl)) (fun q => q.elim (fun h => absurd h.1 (nn rfl)) (fun q => q.elim (fun h => absurd h.1 (nn rfl)) (fun q => q.elim (fun h => absurd h.1 (nn rfl)) (fun q => q.elim (fun h => absurd h.1 (nn rfl)) (fun q => q.elim (fun h => absurd h (nn rfl)) (fun h => absurd h (nn rfl))))))))))))).trans (hH j)) hU (rt_i1 ⟨by first | (clear ha2 hq0 hq1 hq2 hq3 hq4 hq5 h_1 h_2 h_3 h_4 h_5 h_6 h_7 h_8 h_9 h_10 h_11 h_12 h_13 h_14 h_15 h_16 h_60 h_61 h_62 h_72 h_464 h_676 h_746 h_750 h_751 h_752 h_753 h_754 h_755 h_756 h_757 h_758 h_759 h_761 h_762 h_764 h_798 h_63 h_763; omega) | omega, by first | (clear ha2 hq0 hq1 hq2 hq3 hq4 hq5 h_1 h_2 h_3 h_4 h_5 h_6 h_7 h_8 h_9 h_10 h_11 h_12 h_13 h_14 h_15 h_16 h_60 h_61 h_62 h_72 h_464 h_676 h_746 h_750 h_751 h_752 h_753 h_754 h_755 h_756 h_757 h_758 h_759 h_761 h_762 h_764 h_798 h_63 h_763; omega) | omega, by first | (clear ha2 hq0 hq1 hq2 hq3 hq4 hq5 h_1 h_2 h_3 h_4 h_5 h_6 h_7 h_8 h_9 h_10 h_11 h_12 h_13 h_14 h_15 h_16 h_60 h_61 h_62 h_72 h_464 h_676 h_746 h_750 h_751 h_752 h_753 h_754 h_755 h_756 h_757 h_758 h_759 h_761 h_762 h_764 h_798 h_63 h_763; omega) | omega, by first | (clear ha2 hq0 hq1 hq2 hq3 hq4 hq5 h_1 h_2 h_3 h_4 h_5 h_6 h_7 h_8 h_9 h_10 h_11 h_12 h_13 h_14 h_15 h_16 h_60 h_61 h_62 h_72 h_464 h_676 h_746 h_750 h_751 h_752 h_753 h_754 h_755 h_756 h_757 h_758 h_759 h_761 h_762 h_764 h_798 h_63 h_763; omega) | omega⟩) (ce_le hA_803 (by omega)) H13 hG_463 (fun c_804 hI_805 hF_806 hR_808 h_809 h_810 hA_811 => ?_))
                refine bk_inl ?_
                have h_812 := ir_41_29 hI_805
                have h_813 := ir_41_7 hI_805
                refine q_aload_n rfl rfl ?_
                refine q_iload_n rfl rfl ?_
                refine q_iconst rfl ?_
                refine v_cv rfl rfl rfl rfl (by decide) ⟨⟨rfl, rfl⟩, by decide, rfl⟩ (Nat.le_of_ble_eq_true rfl) (Nat.le_of_ble_eq_true rfl) ?_
                refine q_aload_n rfl rfl ?_
                refine v_cv rfl rfl rfl rfl (by decide) ⟨⟨rfl, rfl⟩, by decide, rfl⟩ (Nat.le_of_ble_eq_true rfl) (Nat.le_of_ble_eq_true rfl) ?_
                refine q_aload_n rfl rfl ?_
                have h_814 := ir_41_5 hI_805
                have h_815 := ir_41_4 hI_805
                have h_816 := ir_41_6 hI_805
                have h_817 := rt_bad hR_808 (by omega)
                have hrb_hR_808 := rt_bad hR_808 (by omega)
                refine v_gi (z := 5) (v := c_460 1 5) rfl rfl rfl (by decide) rfl rfl hrb_hR_808.2.1 ?_
                refine q_iconst rfl ?_
                refine v_ic_ne_t (t := 12) rfl (by decide) ⟨by first | (clear ha2 hq0 hq1 hq2 hq3 hq4 hq5 h_1 h_2 h_3 h_4 h_5 h_6 h_7 h_8 h_9 h_10 h_11 h_12 h_13 h_14 h_15 h_16 h_60 h_61 h_62 h_72 h_464 h_676 h_746 h_750 h_751 h_752 h_753 h_754 h_755 h_756 h_757 h_758 h_759 h_761 h_762 h_764 h_798 h_812 h_813 h_810 h_814 h_815 h_816 h_63 h_763 h_809; omega) | omega, ⟨(Int.le_trans (by decide) h_755.1), (Int.le_trans h_755.2 (by decide))⟩, by decide, by decide⟩ ?_
                refine q_iconst rfl ?_
                refine v_zret rfl rfl (by decide) ?_
                refine bk_inl ?_
                refine v_if_ne_f (t := 8) rfl (by decide) (by decide) ?_
                refine q_vret rfl rfl ?_
                refine bk_inl ?_
                refine q_goto (t := 4) rfl (by decide) ?_
                refine q_aload_n rfl rfl ?_
                refine v_cv rfl rfl rfl rfl (by decide) ⟨⟨rfl, rfl⟩, by decide, rfl⟩ (Nat.le_of_ble_eq_true rfl) (Nat.le_of_ble_eq_true rfl) ?_
                refine q_aload_n rfl rfl ?_
                refine v_gi (z := 5) (v := c_460 1 5) rfl rfl rfl (by decide) rfl rfl hrb_hR_808.2.1 ?_
                refine q_iconst rfl ?_
                refine v_ic_ne_t (t := 12) rfl (by decide) ⟨by first | (clear ha2 hq0 hq1 hq2 hq3 hq4 hq5 h_1 h_2 h_3 h_4 h_5 h_6 h_7 h_8 h_9 h_10 h_11 h_12 h_13 h_14 h_15 h_16 h_60 h_61 h_62 h_72 h_464 h_676 h_746 h_750 h_751 h_752 h_753 h_754 h_755 h_756 h_757 h_758 h_759 h_761 h_762 h_764 h_798 h_812 h_813 h_810 h_814 h_815 h_816 h_63 h_763 h_809; omega) | omega, ⟨(Int.le_trans (by decide) h_755.1), (Int.le_trans h_755.2 (by decide))⟩, by decide, by decide⟩ ?_
                refine q_iconst rfl ?_
                refine v_zret rfl rfl (by decide) ?_
                refine bk_inl ?_
                refine v_if_eq_t (t := 67) rfl (by decide) (by decide) ?_
                refine q_vret rfl rfl ?_
                have h_818 : c_804 41 5 = c_460 1 5 := hrb_hR_808.2.1
                have h_819 : c_804 41 6 = c_460 1 4 := hrb_hR_808.2.2.2
                exact K c_804  hI_805 (fun a j hm => (hF_806 a j (fun q => q.elim (fun h => hm (Or.inl h)) (fun q => q.elim (fun h => hm (Or.inr (Or.inl h))) (fun q => q.elim (fun h => hm (Or.inr (Or.inr (Or.inl h)))) (fun q => q.elim (fun h => hm (Or.inr (Or.inr (Or.inr (Or.inl h))))) (fun q => q.elim (fun h => hm (Or.inr (Or.inr (Or.inr (Or.inr (Or.inl h)))))) (fun q => q.elim (fun h => hm (Or.inr (Or.inr (Or.inr (Or.inr (Or.inr (Or.inl h))))))) (fun h => hm (Or.inr (Or.inr (Or.inr (Or.inr (Or.inr (Or.inr h)))))))))))))).trans ((up_b (Decidable.or_iff_not_imp_left.mpr (fun h1 h2 => hm (Or.inl ⟨Decidable.not_not.mp h1, h2⟩)))).trans ((hF_777 a j (fun h => hm (Or.inl h))).trans ((hF_772 a j (fun h => hm (Or.inl h))).trans ((hF_767 a j (fun h => hm (Or.inl h))).trans (hFc a j (fun q => q.elim (fun h => hm (Or.inl h)) (fun q => q.elim (fun h => hm (Or.inr (Or.inl h))) (fun q => q.elim (fun h => hm (Or.inr (Or.inr (Or.inl h)))) (fun q => q.elim (fun h => hm (Or.inr (Or.inr (Or.inr (Or.inl h))))) (fun q => q.elim (fun h => hm (Or.inr (Or.inr (Or.inr (Or.inr (Or.inl h)))))) (fun q => q.elim (fun h => hm (Or.inr (Or.inr (Or.inr (Or.inr (Or.inr (Or.inl h))))))) (fun h => hm (Or.inr (Or.inr (Or.inr (Or.inr (Or.inr (Or.inr h))))))))))))))))))) (rt_i2 ⟨⟨by first | (clear ha2 hq0 hq1 hq2 hq3 hq4 hq5 h_1 h_2 h_3 h_4 h_5 h_6 h_7 h_8 h_9 h_10 h_11 h_12 h_13 h_14 h_15 h_16 h_60 h_61 h_62 h_72 h_464 h_676 h_746 h_750 h_752 h_753 h_754 h_755 h_756 h_757 h_758 h_759 h_761 h_762 h_764 h_798 h_812 h_813 h_810 h_814 h_815 h_816 h_63 h_763 h_809; omega) | omega, by first | (clear ha2 hq0 hq1 hq2 hq3 hq4 hq5 h_1 h_2 h_3 h_4 h_5 h_6 h_7 h_8 h_9 h_10 h_11 h_12 h_13 h_14 h_15 h_16 h_60 h_61 h_62 h_72 h_464 h_676 h_746 h_751 h_752 h_753 h_754 h_755 h_756 h_757 h_758 h_759 h_761 h_762 h_764 h_798 h_812 h_813 h_810 h_814 h_815 h_816 h_817 h_63 h_763 h_809; omega) | omega⟩, by first | (clear ha2 hq0 hq1 hq2 hq3 hq4 hq5 h_1 h_2 h_3 h_4 h_5 h_6 h_7 h_8 h_9 h_10 h_11 h_12 h_13 h_14 h_15 h_16 h_60 h_61 h_62 h_72 h_464 h_676 h_746 h_750 h_751 h_752 h_753 h_754 h_755 h_756 h_758 h_759 h_761 h_762 h_764 h_798 h_812 h_813 h_810 h_814 h_815 h_816 h_817 h_63 h_763 h_809; omega) | omega, by first | (clear ha2 hq0 hq1 hq2 hq3 hq4 hq5 h_1 h_2 h_3 h_4 h_5 h_6 h_7 h_8 h_9 h_10 h_11 h_12 h_13 h_14 h_15 h_16 h_60 h_61 h_62 h_72 h_464 h_676 h_746 h_750 h_751 h_752 h_753 h_754 h_755 h_756 h_758 h_759 h_761 h_762 h_764 h_798 h_812 h_813 h_810 h_814 h_815 h_816 h_63 h_763 h_809; omega) | omega, by first | (clear ha2 hq0 hq1 hq2 hq3 hq4 hq5 h_1 h_2 h_3 h_4 h_5 h_6 h_7 h_8 h_9 h_10 h_11 h_12 h_13 h_14 h_15 h_16 h_60 h_61 h_62 h_72 h_464 h_676 h_746 h_750 h_752 h_753 h_754 h_755 h_756 h_757 h_758 h_759 h_761 h_762 h_764 h_798 h_812 h_813 h_810 h_814 h_815 h_816 h_817 h_63 h_763 h_809; omega) | omega⟩) (Or.inr (Or.inl (by first | (clear ha2 hq0 hq1 hq2 hq3 hq4 hq5 h_1 h_2 h_3 h_4 h_5 h_6 h_7 h_8 h_9 h_10 h_11 h_12 h_13 h_14 h_15 h_16 h_60 h_61 h_62 h_72 h_464 h_676 h_746 h_750 h_752 h_753 h_754 h_755 h_756 h_757 h_758 h_759 h_761 h_762 h_764 h_798 h_812 h_813 h_810 h_814 h_815 h_816 h_63 h_763 h_809; omega) | omega))) (by first | (clear ha2 hq0 hq1 hq2 hq3 hq4 hq5 h_1 h_2 h_3 h_4 h_5 h_6 h_7 h_8 h_9 h_10 h_11 h_12 h_13 h_14 h_15 h_16 h_60 h_61 h_62 h_72 h_464 h_676 h_746 h_750 h_751 h_752 h_753 h_754 h_755 h_756 h_757 h_758 h_759 h_761 h_762 h_764 h_798 h_812 h_813 h_814 h_815 h_816 h_817 h_63 h_763 h_809; omega) | omega) (fun hz => absurd hz (by omega))
              · refine v_ic_ge_f (t := 59) rfl (by decide) ⟨by first | exact rgp_l hv.1 (by decide) | omega, (Int.not_le.mp h_746), by decide⟩ ?_
                refine q_aload_n rfl rfl ?_
                refine v_cv rfl rfl rfl rfl (by decide) ⟨⟨rfl, rfl⟩, by decide, rfl⟩ (Nat.le_of_ble_eq_true rfl) (Nat.le_of_ble_eq_true rfl) ?_
                refine q_aload_n rfl rfl ?_
                refine v_gi (z := 4) (v := c_460 1 4) rfl rfl rfl (by decide) rfl rfl ((up_c (pn hA rfl rfl)).trans (up_c (pn hA rfl rfl))) ?_
                refine v_if_ne_t (t := 11) rfl (by decide) ⟨by first | (clear ha2 hq0 hq1 hq2 hq3 hq4 hq5 h_1 h_2 h_3 h_4 h_5 h_6 h_7 h_8 h_9 h_10 h_11 h_12 h_13 h_14 h_15 h_16 h_60 h_61 h_62 h_72 h_464 h_676 h_63; omega) | omega, ⟨(Int.le_trans (by decide) h_676.1), (Int.le_trans h_676.2 (by decide))⟩, by decide, by decide⟩ ?_
                refine q_iconst rfl ?_
                refine v_zret rfl rfl (by decide) ?_
                refine bk_inl ?_
                refine v_if_eq_t (t := 59) rfl (by decide) (by decide) ?_
                refine q_vret rfl rfl ?_
                have hI_820 := iw_lg (j := c_460 (A + 7) 5) (v := 2001) hI_461 (lgp (k := 9) hA (by decide)) ⟨by decide, by decide⟩ (by omega)
                have hI_821 := iw_p7_5 (v := c_460 (A + 7) 5 + 1) hI_820 hA ⟨by first | exact rgp_l h_464.1 (by decide) | omega, by first | (clear ha2 hq0 hq1 hq2 hq3 hq4 hq5 h_1 h_2 h_3 h_4 h_5 h_6 h_7 h_8 h_9 h_10 h_11 h_12 h_13 h_14 h_15 h_16 h_60 h_61 h_62 h_72 h_464 h_676 h_63; omega) | omega⟩
                intro hE_822
                have hW : Wd P Q P P (up (up c_460 (A + 9) (c_460 (A + 7) 5) 2001) (A + 7) 5 (c_460 (A + 7) 5 + 1)) = Wd P Q P P m9 := (Prod.mk.inj (Prod.mk.inj hE_822).2).1
                have h_823 := ir_1_4 hJ9
                have h_824 : m9 1 4 = c_460 1 4 := wd_fv (z := 4) 4 rfl hW rfl rfl rfl rfl (by decide) ((up_c (pn hA rfl rfl)).trans (up_c (pn hA rfl rfl))) ⟨(Int.le_trans (by decide) h_676.1), (Int.le_trans h_676.2 (by decide))⟩ ⟨(Int.le_trans (by decide) h_823.1), (Int.le_trans h_823.2 (by decide))⟩
                have h_825 := ir_1_2 hI_461
                have h_826 := ir_1_2 hJ9
                have h_827 : m9 1 2 = c_460 1 2 := wd_fv (z := 2) 2 rfl hW rfl rfl rfl rfl (by decide) ((up_c (pn hA rfl rfl)).trans (up_c (pn hA rfl rfl))) ⟨(Int.le_trans (by decide) h_825.1), (Int.le_trans h_825.2 (by decide))⟩ ⟨(Int.le_trans (by decide) h_826.1), (Int.le_trans h_826.2 (by decide))⟩
                have h_828 := ir_1_5 hI_461
                have h_829 := ir_1_5 hJ9
                have h_830 : m9 1 5 = c_460 1 5 := wd_fv (z := 5) 5 rfl hW rfl rfl rfl rfl (by decide) ((up_c (pn hA rfl rfl)).trans (up_c (pn hA rfl rfl))) ⟨(Int.le_trans (by decide) h_828.1), (Int.le_trans h_828.2 (by decide))⟩ ⟨(Int.le_trans (by decide) h_829.1), (Int.le_trans h_829.2 (by decide))⟩
                have h_831 := ir_p7_5 hJ9 hA
                have h_832 : m9 (A + 7) 5 = c_460 (A + 7) 5 + 1 := wd_fv (z := 5) 5 rfl hW (ck_p7 hA) (ck_p7 hA) rfl rfl (by omega) (up_e rfl) ⟨by first | exact rgp_l h_464.1 (by decide) | omega, by first | exact rgp_h h_464.2 (by decide) | omega⟩ ⟨(Int.le_trans (by decide) h_831.1), (Int.le_trans h_831.2 (by decide))⟩
                refine q_aload_n rfl rfl ?_
                refine v_cv rfl rfl rfl rfl (by decide) ⟨⟨rfl, rfl⟩, by decide, rfl⟩ (Nat.le_of_ble_eq_true rfl) (Nat.le_of_ble_eq_true rfl) ?_
                refine q_aload_n rfl rfl ?_
                refine v_gi (z := 5) (v := (-1)) rfl rfl rfl (by decide) rfl rfl (hc_1) ?_
                refine q_iconst rfl ?_
                refine v_ic_ne_f (t := 12) rfl (by decide) (by decide) ?_
                refine q_iconst rfl ?_
                refine q_goto (t := 13) rfl (by decide) ?_
                refine v_zret rfl rfl (by decide) ?_
                refine bk_inl ?_
                refine v_if_eq_f (t := 67) rfl (by decide) (by decide) ?_
                refine q_aload_n rfl rfl ?_
                have kn_833 : Hid (c2 41 3 = e1) := (hFc 41 3 (fun q => q.elim (fun h => absurd h.2 (ni rfl)) (fun q => q.elim (fun h => absurd h.2 (ni rfl)) (fun q => q.elim (fun h => absurd h.2 (ni rfl)) (fun q => q.elim (fun h => absurd h.2 (ni rfl)) (fun q => q.elim (fun h => absurd h.2 (ni rfl)) (fun q => q.elim (fun h => absurd h (nn rfl)) (fun h => absurd h (nn rfl))))))))).trans (hr_e1)
                have h_834 : -2147483648 ≤ (H (nx F e1 a)) ∧ (H (nx F e1 a)) ≤ 2147483647 := by rw [← hH (nx F e1 a)]; exact ir_43 hI (nx F e1 a)
                have h_835 := hU (nx F e1 a) (by omega) (by omega)
                have h_836 := hb_or (b := H) (e := e1) (r := (nx F e1 a))
                have h_837 := hb_bd (b := H) (e := e1) (r := (nx F e1 a)) (lo := -2147483648) (hi := 2147483647) h_834 (by decide)
                refine v_cv rfl rfl rfl rfl (by decide) ⟨⟨rfl, rfl⟩, by decide, rfl⟩ (Nat.le_of_ble_eq_true rfl) (Nat.le_of_ble_eq_true rfl) (f_154 (e1 := e1) (a9 := a) (B := H) (r8 := (nx F e1 a)) (r := (hb H e1 (nx F e1 a))) hI2 ((hid kn_833)) ((hr_a)) (fun j => (hFc 43 j (fun q => q.elim (fun h => absurd h.1 (nn rfl)) (fun q => q.elim (fun h => absurd h.1 (nn rfl)) (fun q => q.elim (fun h => absurd h.1 (nn rfl)) (fun q => q.elim (fun h => absurd h.1 (nn rfl)) (fun q => q.elim (fun h => absurd h.1 (nn rfl)) (fun q => q.elim (fun h => absurd h (nn rfl)) (fun h => absurd h (nn rfl))))))))).trans (hH j)) ((nx_tr hU (by first | (clear ha2 hq0 hq1 hq2 hq3 hq4 hq5 h_1 h_2 h_3 h_4 h_5 h_6 h_7 h_8 h_9 h_10 h_11 h_12 h_13 h_14 h_15 h_16 h_60 h_61 h_62 h_72 h_464 h_676 h_823 h_824 h_825 h_826 h_827 h_828 h_829 h_830 h_831 h_832 h_63; omega) | omega) (by first | (clear ha2 hq0 hq1 hq2 hq3 hq4 h_1 h_2 h_3 h_4 h_5 h_6 h_7 h_8 h_9 h_10 h_11 h_12 h_13 h_14 h_15 h_16 h_60 h_61 h_62 h_72 h_464 h_676 h_823 h_824 h_825 h_826 h_827 h_828 h_829 h_830 h_831 h_832 h_63; omega) | omega)).trans (rfl)) rfl (fun c_838 hI_839 hF_840 h_841 => ?_))
                refine bk_inl ?_
                refine v_bip rfl (by decide) ?_
                refine v_ic_eq_f (t := 29) rfl (by decide) ⟨by first | (clear ha2 hq0 hq1 hq2 hq3 h_3 h_4 h_5 h_6 h_7 h_8 h_9 h_10 h_11 h_12 h_13 h_14 h_15 h_60 h_62 h_464 h_676 h_823 h_824 h_825 h_826 h_827 h_828 h_829 h_830 h_831 h_832; omega) | omega, ⟨h_837.1, h_837.2⟩, by decide, by decide⟩ ?_
                refine q_aload_n rfl rfl ?_
                have kn_842 : Hid (c_838 41 3 = e1) := (hF_840 41 3 (fun h => absurd h.2 (ni rfl))).trans (hid kn_833)
                refine v_cv rfl rfl rfl rfl (by decide) ⟨⟨rfl, rfl⟩, by decide, rfl⟩ (Nat.le_of_ble_eq_true rfl) (Nat.le_of_ble_eq_true rfl) (f_154 (e1 := e1) (a9 := (nx F e1 a)) (B := H) (r8 := (nx F e1 a)) (r := (hb H e1 (nx F e1 a))) hI_839 ((hid kn_842)) ((h_841)) (fun j => ((hF_840 43 j (fun h => absurd h.1 (nn rfl))).trans (hFc 43 j (fun q => q.elim (fun h => absurd h.1 (nn rfl)) (fun q => q.elim (fun h => absurd h.1 (nn rfl)) (fun q => q.elim (fun h => absurd h.1 (nn rfl)) (fun q => q.elim (fun h => absurd h.1 (nn rfl)) (fun q => q.elim (fun h => absurd h.1 (nn rfl)) (fun q => q.elim (fun h => absurd h (nn rfl)) (fun h => absurd h (nn rfl)))))))))).trans (hH j)) ((nx_tr hU (by first | (clear ha2 hq0 hq1 hq2 hq3 hq4 hq5 h_1 h_2 h_3 h_4 h_5 h_6 h_7 h_8 h_9 h_10 h_11 h_12 h_13 h_14 h_15 h_16 h_60 h_62 h_72 h_464 h_676 h_823 h_824 h_825 h_826 h_827 h_828 h_829 h_830 h_831 h_832 h_834 h_835 h_837 h_63 h_836; omega) | omega) (by first | (clear ha2 hq0 hq1 hq2 hq3 hq4 h_1 h_2 h_3 h_4 h_5 h_6 h_7 h_8 h_9 h_10 h_11 h_12 h_13 h_14 h_15 h_16 h_60 h_61 h_62 h_72 h_464 h_676 h_823 h_824 h_825 h_826 h_827 h_828 h_829 h_830 h_831 h_832 h_834 h_835 h_837 h_63 h_836; omega) | omega)).trans ((nx_z (by omega)))) rfl (fun c_843 hI_844 hF_845 h_846 => ?_))
                refine bk_inl ?_
                refine v_bip rfl (by decide) ?_
                refine v_ic_ne_f (t := 67) rfl (by decide) (by first | (clear ha2 hq0 hq1 hq2 hq3 h_3 h_4 h_5 h_6 h_7 h_8 h_9 h_10 h_11 h_12 h_13 h_14 h_15 h_60 h_62 h_464 h_676 h_823 h_824 h_825 h_826 h_827 h_828 h_829 h_830 h_831 h_832; omega) | omega) ?_
                refine q_aload_n rfl rfl ?_
                have kn_847 : Hid (c_843 41 3 = e1) := (hF_845 41 3 (fun h => absurd h.2 (ni rfl))).trans (hid kn_842)
                refine v_cv rfl rfl rfl rfl (by decide) ⟨⟨rfl, rfl⟩, by decide, rfl⟩ (Nat.le_of_ble_eq_true rfl) (Nat.le_of_ble_eq_true rfl) (f_154 (e1 := e1) (a9 := (nx F e1 a)) (B := H) (r8 := (nx F e1 a)) (r := (hb H e1 (nx F e1 a))) hI_844 ((hid kn_847)) ((h_846)) (fun j => ((hF_845 43 j (fun h => absurd h.1 (nn rfl))).trans ((hF_840 43 j (fun h => absurd h.1 (nn rfl))).trans (hFc 43 j (fun q => q.elim (fun h => absurd h.1 (nn rfl)) (fun q => q.elim (fun h => absurd h.1 (nn rfl)) (fun q => q.elim (fun h => absurd h.1 (nn rfl)) (fun q => q.elim (fun h => absurd h.1 (nn rfl)) (fun q => q.elim (fun h => absurd h.1 (nn rfl)) (fun q => q.elim (fun h => absurd h (nn rfl)) (fun h => absurd h (nn rfl))))))))))).trans (hH j)) ((nx_tr hU (by first | (clear ha2 hq0 hq1 hq2 hq3 hq4 hq5 h_1 h_2 h_3 h_4 h_5 h_6 h_7 h_8 h_9 h_10 h_11 h_12 h_13 h_14 h_15 h_16 h_60 h_62 h_72 h_464 h_676 h_823 h_824 h_825 h_826 h_827 h_828 h_829 h_830 h_831 h_832 h_834 h_835 h_837 h_63 h_836; omega) | omega) (by first | (clear ha2 hq0 hq1 hq2 hq3 hq4 h_1 h_2 h_3 h_4 h_5 h_6 h_7 h_8 h_9 h_10 h_11 h_12 h_13 h_14 h_15 h_16 h_60 h_61 h_62 h_72 h_464 h_676 h_823 h_824 h_825 h_826 h_827 h_828 h_829 h_830 h_831 h_832 h_834 h_835 h_837 h_63 h_836; omega) | omega)).trans ((nx_z (by omega)))) rfl (fun c_848 hI_849 hF_850 h_851 => ?_))
                refine bk_inl ?_
                refine v_bip rfl (by decide) ?_
                refine v_ic_ne_t (t := 42) rfl (by decide) ⟨by first | (clear ha2 hq0 hq1 hq2 hq3 h_3 h_4 h_5 h_6 h_7 h_8 h_9 h_10 h_11 h_12 h_13 h_14 h_15 h_60 h_62 h_464 h_676 h_823 h_824 h_825 h_826 h_827 h_828 h_829 h_830 h_831 h_832; omega) | omega, ⟨h_837.1, h_837.2⟩, by decide, by decide⟩ ?_
                refine q_iconst rfl ?_
                refine q_istore_n rfl (by decide) ?_
                refine q_aload_n rfl rfl ?_
                refine q_dup rfl rfl ?_
                refine v_gi (z := 4) (v := (nx F e1 a)) rfl rfl rfl (by decide) rfl rfl (h_851) ?_
                refine q_iconst rfl ?_
                refine v_iadd (v := (nx F e1 a) + 1) rfl rfl ?_
                refine v_pi (z := 4) rfl rfl rfl (by decide) rfl rfl rfl (by decide) ?_
                refine q_aload_n rfl rfl ?_
                have kn_852 : Hid (c_838 41 5 = (-1)) := (hF_840 41 5 (fun h => absurd h.2 (ni rfl))).trans (hc_1)
                have kn_853 : Hid (c_843 41 5 = (-1)) := (hF_845 41 5 (fun h => absurd h.2 (ni rfl))).trans (hid kn_852)
                have kn_854 : Hid (c_848 41 5 = (-1)) := (hF_850 41 5 (fun h => absurd h.2 (ni rfl))).trans (hid kn_853)
                have hI_855 := iw_41_4 (v := (nx F e1 a) + 1) hI_849 ⟨by first | exact rgp_l (rg_be h_61 (ha.1) ((rg_eq hg_e1 h_1).2)).1 (by decide) | omega, by first | exact rgp_h (rg_be h_61 (ha.1) ((rg_eq hg_e1 h_1).2)).2 (by decide) | omega⟩
                have kn_856 : Hid (c_69 1 1 = e1) := (hF_71 1 1 (fun h => absurd h.2 (ni rfl))).trans (hid kn_59)
                have kn_857 : Hid (c_848 41 3 = e1) := (hF_850 41 3 (fun h => absurd h.2 (ni rfl))).trans (hid kn_847)
                have kn_858 : Hid (c_69 1 5 = (-1)) := (hF_71 1 5 (fun h => absurd h.2 (ni rfl))).trans (hc_2)
                have kn_859 : Hid (c_69 (A + 7) 5 = nw) := (hF_71 (A + 7) 5 (fun h => absurd h.1 (np hA rfl rfl))).trans (hg_nw)
                have kn_860 : Hid (c_838 41 29 = nw) := (hF_840 41 29 (fun h => absurd h.2 (ni rfl))).trans (hr_nw)
                have kn_861 : Hid (c_843 41 29 = nw) := (hF_845 41 29 (fun h => absurd h.2 (ni rfl))).trans (hid kn_860)
                have kn_862 : Hid (c_848 41 29 = nw) := (hF_850 41 29 (fun h => absurd h.2 (ni rfl))).trans (hid kn_861)
                have kn_863 : Hid (c_838 41 7 = a2) := (hF_840 41 7 (fun h => absurd h.2 (ni rfl))).trans (hc_3)
                have kn_864 : Hid (c_843 41 7 = a2) := (hF_845 41 7 (fun h => absurd h.2 (ni rfl))).trans (hid kn_863)
                have kn_865 : Hid (c_848 41 7 = a2) := (hF_850 41 7 (fun h => absurd h.2 (ni rfl))).trans (hid kn_864)
                have h_866 : c_69 1 4 = 0 := (hid kn_459)
                have h_867 : c_69 1 2 = (nx F e1 a) + 1 := (hz_73)
                have h_868 : c_69 1 5 = (-1) := (hid kn_858)
                have h_869 : (up c_848 41 4 ((nx F e1 a) + 1)) 41 5 = (-1) := ((up_n (by decide)).trans (hid kn_854))
                have h_870 : (up c_848 41 4 ((nx F e1 a) + 1)) 41 4 = (nx F e1 a) + 1 := (up_e rfl)
                have h_871 := ir_41_6 hI2
                have kn_872 : Hid (c_838 41 6 = c2 41 6) := hF_840 41 6 (fun h => absurd h.2 (ni rfl))
                have kn_873 : Hid (c_843 41 6 = c2 41 6) := (hF_845 41 6 (fun h => absurd h.2 (ni rfl))).trans (hid kn_872)
                have kn_874 : Hid (c_848 41 6 = c2 41 6) := (hF_850 41 6 (fun h => absurd h.2 (ni rfl))).trans (hid kn_873)
                have h_875 : (up c_848 41 4 ((nx F e1 a) + 1)) 41 6 = c2 41 6 := ((up_n (by decide)).trans (hid kn_874))
                have hA_876 : Ce nw (c_69 (A + 9)) ((up c_848 41 4 ((nx F e1 a) + 1)) 50) ((up c_848 41 4 ((nx F e1 a) + 1)) 51) := ce_fr hrl0 (fun j => hF_71 (A + 9) j (fun h => absurd h.1 (np hA rfl rfl))) (fun j => (up_c (nn rfl)).trans ((hF_850 50 j (fun h => absurd h.1 (nn rfl))).trans ((hF_845 50 j (fun h => absurd h.1 (nn rfl))).trans (hF_840 50 j (fun h => absurd h.1 (nn rfl)))))) (fun j => (up_c (nn rfl)).trans ((hF_850 51 j (fun h => absurd h.1 (nn rfl))).trans ((hF_845 51 j (fun h => absurd h.1 (nn rfl))).trans (hF_840 51 j (fun h => absurd h.1 (nn rfl))))))
                refine v_cv rfl rfl rfl rfl (by decide) ⟨⟨rfl, rfl⟩, by decide, rfl⟩ (Nat.le_of_ble_eq_true rfl) (Nat.le_of_ble_eq_true rfl) (L_12 (m := c_69) (a2 := a2) (e1 := e1) (f0 := 0) (g0 := (-1)) (p0 := (nx F e1 a) + 1) (n0 := nw) (o0 := a2) (F := F) (H := H) hI_855 hI_70 hI_461 hA (show 0 ≤ a2 ∧ a2 ≤ 6 from ha2) (by first | (clear ha2 hq0 hq1 hq2 hq3 hq4 hq5 h_1 h_2 h_3 h_4 h_5 h_6 h_7 h_8 h_9 h_10 h_11 h_12 h_13 h_14 h_15 h_16 h_60 h_61 h_62 h_72 h_464 h_676 h_823 h_824 h_825 h_826 h_827 h_828 h_829 h_830 h_831 h_832 h_834 h_835 h_837 h_63 h_836; omega) | omega) (by first | (clear ha2 hq0 hq1 hq2 hq3 hq4 hq5 h_1 h_2 h_3 h_4 h_5 h_6 h_7 h_8 h_9 h_10 h_11 h_12 h_13 h_14 h_15 h_16 h_60 h_61 h_62 h_72 h_464 h_676 h_823 h_824 h_825 h_826 h_827 h_828 h_829 h_830 h_831 h_832 h_834 h_835 h_837 h_63 h_836; omega) | omega) (by first | (clear ha2 hq0 hq1 hq2 hq3 hq4 hq5 h_1 h_2 h_3 h_4 h_5 h_6 h_7 h_8 h_9 h_10 h_11 h_12 h_13 h_14 h_15 h_16 h_60 h_61 h_62 h_72 h_464 h_676 h_823 h_824 h_825 h_826 h_827 h_828 h_829 h_830 h_831 h_832 h_834 h_835 h_837 h_63 h_836; omega) | omega) (by first | (clear ha2 hq0 hq1 hq2 hq4 hq5 h_1 h_2 h_3 h_4 h_5 h_6 h_7 h_8 h_9 h_10 h_11 h_12 h_13 h_14 h_15 h_60 h_62 h_72 h_464 h_676 h_823 h_824 h_825 h_826 h_827 h_828 h_829 h_830 h_831 h_832 h_834 h_835 h_837 h_63 h_836; omega) | omega) (by first | (clear ha2 hq0 hq1 hq2 hq3 hq4 hq5 h_1 h_2 h_3 h_4 h_5 h_6 h_7 h_8 h_9 h_10 h_11 h_12 h_13 h_14 h_15 h_16 h_60 h_61 h_62 h_464 h_676 h_823 h_824 h_825 h_826 h_827 h_828 h_829 h_830 h_831 h_832 h_834 h_835 h_837 h_63 h_836; omega) | omega) (by first | (clear ha2 hq0 hq1 hq2 hq3 hq4 h_1 h_2 h_3 h_4 h_5 h_6 h_7 h_8 h_9 h_10 h_11 h_12 h_13 h_14 h_15 h_16 h_60 h_61 h_62 h_72 h_464 h_676 h_823 h_824 h_825 h_826 h_827 h_828 h_829 h_830 h_831 h_832 h_834 h_835 h_837 h_63 h_836; omega) | omega) ((hid kn_856)) (((up_n (by decide)).trans (hid kn_857))) ((hid kn_459)) ((hid kn_858)) ((hz_73)) ((hid kn_859)) (((up_n (by decide)).trans (hid kn_862))) (((up_n (by decide)).trans (hid kn_865))) (fun j => ((hF_71 2 j (fun h => absurd h.1 (nn rfl))).trans (hFm 2 j (fun q => q.elim (fun h => absurd h.1 (nn rfl)) (fun q => q.elim (fun h => absurd h.1 (nn rfl)) (fun q => q.elim (fun h => absurd h.1 (nn rfl)) (fun q => q.elim (fun h => absurd h.1 (pn hA rfl rfl)) (fun h => absurd h (pn hA rfl rfl)))))))).trans (hF j)) (fun j => ((up_c (nn rfl)).trans ((hF_850 43 j (fun h => absurd h.1 (nn rfl))).trans ((hF_845 43 j (fun h => absurd h.1 (nn rfl))).trans ((hF_840 43 j (fun h => absurd h.1 (nn rfl))).trans (hFc 43 j (fun q => q.elim (fun h => absurd h.1 (nn rfl)) (fun q => q.elim (fun h => absurd h.1 (nn rfl)) (fun q => q.elim (fun h => absurd h.1 (nn rfl)) (fun q => q.elim (fun h => absurd h.1 (nn rfl)) (fun q => q.elim (fun h => absurd h.1 (nn rfl)) (fun q => q.elim (fun h => absurd h (nn rfl)) (fun h => absurd h (nn rfl))))))))))))).trans (hH j)) hU (rt_i1 ⟨by first | (clear ha2 hq0 hq1 hq2 hq3 hq4 hq5 h_1 h_2 h_3 h_4 h_5 h_6 h_7 h_8 h_9 h_10 h_11 h_12 h_13 h_14 h_15 h_16 h_60 h_61 h_62 h_72 h_464 h_676 h_823 h_824 h_825 h_826 h_827 h_828 h_829 h_830 h_831 h_832 h_834 h_835 h_837 h_871 h_63 h_836; omega) | omega, by first | (clear ha2 hq0 hq1 hq2 hq3 hq4 hq5 h_1 h_2 h_3 h_4 h_5 h_6 h_7 h_8 h_9 h_10 h_11 h_12 h_13 h_14 h_15 h_16 h_60 h_61 h_62 h_72 h_464 h_676 h_823 h_824 h_825 h_826 h_827 h_828 h_829 h_830 h_831 h_832 h_834 h_835 h_837 h_871 h_63 h_836; omega) | omega, by first | (clear ha2 hq0 hq1 hq2 hq3 hq4 hq5 h_1 h_2 h_3 h_4 h_5 h_6 h_7 h_8 h_9 h_10 h_11 h_12 h_13 h_14 h_15 h_16 h_60 h_61 h_62 h_72 h_464 h_676 h_823 h_824 h_825 h_826 h_827 h_828 h_829 h_830 h_831 h_832 h_834 h_835 h_837 h_871 h_63 h_836; omega) | omega, by first | (clear ha2 hq0 hq1 hq2 hq3 hq4 hq5 h_1 h_2 h_3 h_4 h_5 h_6 h_7 h_8 h_9 h_10 h_11 h_12 h_13 h_14 h_15 h_16 h_60 h_61 h_62 h_72 h_464 h_676 h_823 h_824 h_825 h_826 h_827 h_828 h_829 h_830 h_831 h_832 h_834 h_835 h_837 h_871 h_63 h_836; omega) | omega⟩) (ce_le hA_876 (by omega)) H13 hG_463 (fun c_877 hI_878 hF_879 hR_881 h_882 h_883 hA_884 => ?_))
                refine bk_inl ?_
                have h_885 := ir_41_29 hI_878
                have h_886 := ir_41_7 hI_878
                refine q_aload_n rfl rfl ?_
                refine q_iload_n rfl rfl ?_
                refine q_iconst rfl ?_
                refine v_cv rfl rfl rfl rfl (by decide) ⟨⟨rfl, rfl⟩, by decide, rfl⟩ (Nat.le_of_ble_eq_true rfl) (Nat.le_of_ble_eq_true rfl) ?_
                refine q_aload_n rfl rfl ?_
                refine v_cv rfl rfl rfl rfl (by decide) ⟨⟨rfl, rfl⟩, by decide, rfl⟩ (Nat.le_of_ble_eq_true rfl) (Nat.le_of_ble_eq_true rfl) ?_
                refine q_aload_n rfl rfl ?_
                have h_887 := ir_41_5 hI_878
                have h_888 := ir_41_4 hI_878
                have h_889 := ir_41_6 hI_878
                have h_890 := rt_bad hR_881 (by omega)
                have hrb_hR_881 := rt_bad hR_881 (by omega)
                refine v_gi (z := 5) (v := c_460 1 5) rfl rfl rfl (by decide) rfl rfl hrb_hR_881.2.1 ?_
                refine q_iconst rfl ?_
                refine v_ic_ne_t (t := 12) rfl (by decide) ⟨by first | (clear ha2 hq0 hq1 hq2 hq3 hq4 hq5 h_1 h_2 h_3 h_4 h_5 h_6 h_7 h_8 h_9 h_10 h_11 h_12 h_13 h_14 h_15 h_16 h_60 h_61 h_62 h_72 h_464 h_676 h_823 h_824 h_825 h_826 h_827 h_828 h_829 h_830 h_831 h_832 h_834 h_835 h_837 h_871 h_885 h_886 h_883 h_887 h_888 h_889 h_63 h_836 h_882; omega) | omega, ⟨(Int.le_trans (by decide) h_828.1), (Int.le_trans h_828.2 (by decide))⟩, by decide, by decide⟩ ?_
                refine q_iconst rfl ?_
                refine v_zret rfl rfl (by decide) ?_
                refine bk_inl ?_
                refine v_if_ne_f (t := 8) rfl (by decide) (by decide) ?_
                refine q_vret rfl rfl ?_
                refine bk_inl ?_
                refine q_goto (t := 4) rfl (by decide) ?_
                refine q_aload_n rfl rfl ?_
                refine v_cv rfl rfl rfl rfl (by decide) ⟨⟨rfl, rfl⟩, by decide, rfl⟩ (Nat.le_of_ble_eq_true rfl) (Nat.le_of_ble_eq_true rfl) ?_
                refine q_aload_n rfl rfl ?_
                refine v_gi (z := 5) (v := c_460 1 5) rfl rfl rfl (by decide) rfl rfl hrb_hR_881.2.1 ?_
                refine q_iconst rfl ?_
                refine v_ic_ne_t (t := 12) rfl (by decide) ⟨by first | (clear ha2 hq0 hq1 hq2 hq3 hq4 hq5 h_1 h_2 h_3 h_4 h_5 h_6 h_7 h_8 h_9 h_10 h_11 h_12 h_13 h_14 h_15 h_16 h_60 h_61 h_62 h_72 h_464 h_676 h_823 h_824 h_825 h_826 h_827 h_828 h_829 h_830 h_831 h_832 h_834 h_835 h_837 h_871 h_885 h_886 h_883 h_887 h_888 h_889 h_63 h_836 h_882; omega) | omega, ⟨(Int.le_trans (by decide) h_828.1), (Int.le_trans h_828.2 (by decide))⟩, by decide, by decide⟩ ?_
                refine q_iconst rfl ?_
                refine v_zret rfl rfl (by decide) ?_
                refine bk_inl ?_
                refine v_if_eq_t (t := 67) rfl (by decide) (by decide) ?_
                refine q_vret rfl rfl ?_
                have h_891 : c_877 41 5 = c_460 1 5 := hrb_hR_881.2.1
                have h_892 : c_877 41 6 = c_460 1 4 := hrb_hR_881.2.2.2
                exact K c_877  hI_878 (fun a j hm => (hF_879 a j (fun q => q.elim (fun h => hm (Or.inl h)) (fun q => q.elim (fun h => hm (Or.inr (Or.inl h))) (fun q => q.elim (fun h => hm (Or.inr (Or.inr (Or.inl h)))) (fun q => q.elim (fun h => hm (Or.inr (Or.inr (Or.inr (Or.inl h))))) (fun q => q.elim (fun h => hm (Or.inr (Or.inr (Or.inr (Or.inr (Or.inl h)))))) (fun q => q.elim (fun h => hm (Or.inr (Or.inr (Or.inr (Or.inr (Or.inr (Or.inl h))))))) (fun h => hm (Or.inr (Or.inr (Or.inr (Or.inr (Or.inr (Or.inr h)))))))))))))).trans ((up_b (Decidable.or_iff_not_imp_left.mpr (fun h1 h2 => hm (Or.inl ⟨Decidable.not_not.mp h1, h2⟩)))).trans ((hF_850 a j (fun h => hm (Or.inl h))).trans ((hF_845 a j (fun h => hm (Or.inl h))).trans ((hF_840 a j (fun h => hm (Or.inl h))).trans (hFc a j (fun q => q.elim (fun h => hm (Or.inl h)) (fun q => q.elim (fun h => hm (Or.inr (Or.inl h))) (fun q => q.elim (fun h => hm (Or.inr (Or.inr (Or.inl h)))) (fun q => q.elim (fun h => hm (Or.inr (Or.inr (Or.inr (Or.inl h))))) (fun q => q.elim (fun h => hm (Or.inr (Or.inr (Or.inr (Or.inr (Or.inl h)))))) (fun q => q.elim (fun h => hm (Or.inr (Or.inr (Or.inr (Or.inr (Or.inr (Or.inl h))))))) (fun h => hm (Or.inr (Or.inr (Or.inr (Or.inr (Or.inr (Or.inr h))))))))))))))))))) (rt_i2 ⟨⟨by first | (clear ha2 hq0 hq1 hq2 hq3 hq4 hq5 h_1 h_2 h_3 h_4 h_5 h_6 h_7 h_8 h_9 h_10 h_11 h_12 h_13 h_14 h_15 h_16 h_60 h_61 h_62 h_72 h_464 h_676 h_823 h_825 h_826 h_827 h_828 h_829 h_830 h_831 h_832 h_834 h_835 h_837 h_871 h_885 h_886 h_883 h_887 h_888 h_889 h_63 h_836 h_882; omega) | omega, by first | (clear ha2 hq0 hq1 hq2 hq3 hq4 hq5 h_1 h_2 h_3 h_4 h_5 h_6 h_7 h_8 h_9 h_10 h_11 h_12 h_13 h_14 h_15 h_16 h_60 h_61 h_62 h_72 h_464 h_676 h_824 h_825 h_826 h_827 h_828 h_829 h_830 h_831 h_832 h_834 h_835 h_837 h_871 h_885 h_886 h_883 h_887 h_888 h_889 h_890 h_63 h_836 h_882; omega) | omega⟩, by first | (clear ha2 hq0 hq1 hq2 hq3 hq4 hq5 h_1 h_2 h_3 h_4 h_5 h_6 h_7 h_8 h_9 h_10 h_11 h_12 h_13 h_14 h_15 h_16 h_60 h_61 h_62 h_72 h_464 h_676 h_823 h_824 h_825 h_826 h_827 h_828 h_829 h_831 h_832 h_834 h_835 h_837 h_871 h_885 h_886 h_883 h_887 h_888 h_889 h_890 h_63 h_836 h_882; omega) | omega, by first | (clear ha2 hq0 hq1 hq2 hq3 hq4 hq5 h_1 h_2 h_3 h_4 h_5 h_6 h_7 h_8 h_9 h_10 h_11 h_12 h_13 h_14 h_15 h_16 h_60 h_61 h_62 h_72 h_464 h_676 h_823 h_824 h_825 h_826 h_827 h_828 h_829 h_831 h_832 h_834 h_835 h_837 h_871 h_885 h_886 h_883 h_887 h_888 h_889 h_63 h_836 h_882; omega) | omega, by first | (clear ha2 hq0 hq1 hq2 hq3 hq4 hq5 h_1 h_2 h_3 h_4 h_5 h_6 h_7 h_8 h_9 h_10 h_11 h_12 h_13 h_14 h_15 h_16 h_60 h_61 h_62 h_72 h_464 h_676 h_823 h_825 h_826 h_827 h_828 h_829 h_830 h_831 h_832 h_834 h_835 h_837 h_871 h_885 h_886 h_883 h_887 h_888 h_889 h_890 h_63 h_836 h_882; omega) | omega⟩) (Or.inr (Or.inl (by first | (clear ha2 hq0 hq1 hq2 hq3 hq4 hq5 h_1 h_2 h_3 h_4 h_5 h_6 h_7 h_8 h_9 h_10 h_11 h_12 h_13 h_14 h_15 h_16 h_60 h_61 h_62 h_72 h_464 h_676 h_823 h_825 h_826 h_827 h_828 h_829 h_830 h_831 h_832 h_834 h_835 h_837 h_871 h_885 h_886 h_883 h_887 h_888 h_889 h_63 h_836 h_882; omega) | omega))) (by first | (clear ha2 hq0 hq1 hq2 hq3 hq4 hq5 h_1 h_2 h_3 h_4 h_5 h_6 h_7 h_8 h_9 h_10 h_11 h_12 h_13 h_14 h_15 h_16 h_60 h_61 h_62 h_72 h_464 h_676 h_823 h_824 h_825 h_826 h_827 h_828 h_829 h_830 h_831 h_832 h_834 h_835 h_837 h_871 h_885 h_886 h_887 h_888 h_889 h_890 h_63 h_836 h_882; omega) | omega) (fun hz => absurd hz (by omega))
      · skip
        refine bk_inl ?_
        refine q_istore rfl (by decide) ?_
        refine q_iload rfl rfl ?_
        refine q_iconst rfl ?_
        refine v_ic_ne_f (t := 37) rfl (by decide) (by decide) ?_
        refine q_vret rfl rfl ?_
        intro hE_893
        have hW : Wd P Q P P c_74 = Wd P Q P P m9 := (Prod.mk.inj (Prod.mk.inj hE_893).2).1
        have kn_894 : Hid (c_74 1 4 = 0) := (hF_76 1 4 (fun h => absurd h.2 (ni rfl))).trans (hc_0)
        have h_895 := ir_1_4 hJ9
        have h_896 : m9 1 4 = 0 := wd_fv (z := 4) 4 rfl hW rfl rfl rfl rfl (by decide) (hid kn_894) ⟨by decide, by decide⟩ ⟨(Int.le_trans (by decide) h_895.1), (Int.le_trans h_895.2 (by decide))⟩
        have h_897 := ir_1_2 hJ9
        have h_898 : m9 1 2 = (nx F e1 a) := wd_fv (z := 2) 2 rfl hW rfl rfl rfl rfl (by decide) (hz_78) ⟨(Int.le_trans (by decide) (rg_be h_61 (ha.1) ((rg_eq hg_e1 h_1).2)).1), (Int.le_trans (rg_be h_61 (ha.1) ((rg_eq hg_e1 h_1).2)).2 (by decide))⟩ ⟨(Int.le_trans (by decide) h_897.1), (Int.le_trans h_897.2 (by decide))⟩
        have kn_899 : Hid (c_74 1 5 = (-1)) := (hF_76 1 5 (fun h => absurd h.2 (ni rfl))).trans (hc_2)
        have h_900 := ir_1_5 hJ9
        have h_901 : m9 1 5 = (-1) := wd_fv (z := 5) 5 rfl hW rfl rfl rfl rfl (by decide) (hid kn_899) ⟨by decide, by decide⟩ ⟨(Int.le_trans (by decide) h_900.1), (Int.le_trans h_900.2 (by decide))⟩
        have kn_902 : Hid (c_74 (A + 7) 5 = nw) := (hF_76 (A + 7) 5 (fun h => absurd h.1 (np hA rfl rfl))).trans (hg_nw)
        have h_903 := ir_p7_5 hJ9 hA
        have h_904 : m9 (A + 7) 5 = nw := wd_fv (z := 5) 5 rfl hW (ck_p7 hA) (ck_p7 hA) rfl rfl (by omega) (hid kn_902) ⟨(Int.le_trans (by decide) hnw.1), (Int.le_trans hnw.2 (by decide))⟩ ⟨(Int.le_trans (by decide) h_903.1), (Int.le_trans h_903.2 (by decide))⟩
        refine q_aload_n rfl rfl ?_
        refine v_cv rfl rfl rfl rfl (by decide) ⟨⟨rfl, rfl⟩, by decide, rfl⟩ (Nat.le_of_ble_eq_true rfl) (Nat.le_of_ble_eq_true rfl) ?_
        refine q_aload_n rfl rfl ?_
        refine v_gi (z := 5) (v := (-1)) rfl rfl rfl (by decide) rfl rfl (hc_1) ?_
        refine q_iconst rfl ?_
        refine v_ic_ne_f (t := 12) rfl (by decide) (by decide) ?_
        refine q_iconst rfl ?_
        refine q_goto (t := 13) rfl (by decide) ?_
        refine v_zret rfl rfl (by decide) ?_
        refine bk_inl ?_
        refine v_if_eq_f (t := 67) rfl (by decide) (by decide) ?_
        refine q_aload_n rfl rfl ?_
        have kn_905 : Hid (c2 41 3 = e1) := (hFc 41 3 (fun q => q.elim (fun h => absurd h.2 (ni rfl)) (fun q => q.elim (fun h => absurd h.2 (ni rfl)) (fun q => q.elim (fun h => absurd h.2 (ni rfl)) (fun q => q.elim (fun h => absurd h.2 (ni rfl)) (fun q => q.elim (fun h => absurd h.2 (ni rfl)) (fun q => q.elim (fun h => absurd h (nn rfl)) (fun h => absurd h (nn rfl))))))))).trans (hr_e1)
        have h_906 : -2147483648 ≤ (H (nx F e1 a)) ∧ (H (nx F e1 a)) ≤ 2147483647 := by rw [← hH (nx F e1 a)]; exact ir_43 hI (nx F e1 a)
        have h_907 := hU (nx F e1 a) (by omega) (by omega)
        have h_908 := hb_or (b := H) (e := e1) (r := (nx F e1 a))
        have h_909 := hb_bd (b := H) (e := e1) (r := (nx F e1 a)) (lo := -2147483648) (hi := 2147483647) h_906 (by decide)
        refine v_cv rfl rfl rfl rfl (by decide) ⟨⟨rfl, rfl⟩, by decide, rfl⟩ (Nat.le_of_ble_eq_true rfl) (Nat.le_of_ble_eq_true rfl) (f_154 (e1 := e1) (a9 := a) (B := H) (r8 := (nx F e1 a)) (r := (hb H e1 (nx F e1 a))) hI2 ((hid kn_905)) ((hr_a)) (fun j => (hFc 43 j (fun q => q.elim (fun h => absurd h.1 (nn rfl)) (fun q => q.elim (fun h => absurd h.1 (nn rfl)) (fun q => q.elim (fun h => absurd h.1 (nn rfl)) (fun q => q.elim (fun h => absurd h.1 (nn rfl)) (fun q => q.elim (fun h => absurd h.1 (nn rfl)) (fun q => q.elim (fun h => absurd h (nn rfl)) (fun h => absurd h (nn rfl))))))))).trans (hH j)) ((nx_tr hU (by first | (clear ha2 hq0 hq1 hq2 hq3 hq4 hq5 h_1 h_2 h_3 h_4 h_5 h_6 h_7 h_8 h_9 h_10 h_11 h_12 h_13 h_14 h_15 h_16 h_60 h_61 h_62 h_895 h_896 h_897 h_898 h_900 h_901 h_903 h_904 h_63 h_77; omega) | omega) (by first | (clear ha2 hq0 hq1 hq2 hq3 hq4 h_1 h_2 h_3 h_4 h_5 h_6 h_7 h_8 h_9 h_10 h_11 h_12 h_13 h_14 h_15 h_16 h_60 h_61 h_62 h_895 h_896 h_897 h_898 h_900 h_901 h_903 h_904 h_63 h_77; omega) | omega)).trans (rfl)) rfl (fun c_910 hI_911 hF_912 h_913 => ?_))
        refine bk_inl ?_
        refine v_bip rfl (by decide) ?_
        refine v_ic_eq_f (t := 29) rfl (by decide) ⟨by first | (clear ha2 hq0 hq1 hq2 hq3 h_3 h_4 h_5 h_6 h_7 h_8 h_9 h_10 h_11 h_12 h_13 h_14 h_15 h_60 h_62 h_895 h_896 h_897 h_900 h_901 h_903 h_904; omega) | omega, ⟨h_909.1, h_909.2⟩, by decide, by decide⟩ ?_
        refine q_aload_n rfl rfl ?_
        have kn_914 : Hid (c_910 41 3 = e1) := (hF_912 41 3 (fun h => absurd h.2 (ni rfl))).trans (hid kn_905)
        refine v_cv rfl rfl rfl rfl (by decide) ⟨⟨rfl, rfl⟩, by decide, rfl⟩ (Nat.le_of_ble_eq_true rfl) (Nat.le_of_ble_eq_true rfl) (f_154 (e1 := e1) (a9 := (nx F e1 a)) (B := H) (r8 := (nx F e1 a)) (r := (hb H e1 (nx F e1 a))) hI_911 ((hid kn_914)) ((h_913)) (fun j => ((hF_912 43 j (fun h => absurd h.1 (nn rfl))).trans (hFc 43 j (fun q => q.elim (fun h => absurd h.1 (nn rfl)) (fun q => q.elim (fun h => absurd h.1 (nn rfl)) (fun q => q.elim (fun h => absurd h.1 (nn rfl)) (fun q => q.elim (fun h => absurd h.1 (nn rfl)) (fun q => q.elim (fun h => absurd h.1 (nn rfl)) (fun q => q.elim (fun h => absurd h (nn rfl)) (fun h => absurd h (nn rfl)))))))))).trans (hH j)) ((nx_tr hU (by first | (clear ha2 hq0 hq1 hq2 hq3 hq4 hq5 h_1 h_2 h_3 h_4 h_5 h_6 h_7 h_8 h_9 h_10 h_11 h_12 h_13 h_14 h_15 h_16 h_60 h_61 h_62 h_895 h_896 h_900 h_901 h_903 h_904 h_906 h_907 h_909 h_63 h_77 h_908; omega) | omega) (by first | (clear ha2 hq0 hq1 hq2 hq3 hq4 h_1 h_2 h_3 h_4 h_5 h_6 h_7 h_8 h_9 h_10 h_11 h_12 h_13 h_14 h_15 h_16 h_60 h_61 h_62 h_895 h_896 h_897 h_898 h_900 h_901 h_903 h_904 h_906 h_907 h_909 h_63 h_77 h_908; omega) | omega)).trans ((nx_z (by omega)))) rfl (fun c_915 hI_916 hF_917 h_918 => ?_))
        refine bk_inl ?_
        refine v_bip rfl (by decide) ?_
        refine v_ic_ne_t (t := 67) rfl (by decide) ⟨by first | (clear ha2 hq0 hq1 hq2 hq3 h_3 h_4 h_5 h_6 h_7 h_8 h_9 h_10 h_11 h_12 h_13 h_14 h_15 h_60 h_62 h_895 h_896 h_897 h_900 h_901 h_903 h_904; omega) | omega, ⟨h_909.1, h_909.2⟩, by decide, by decide⟩ ?_
        refine q_vret rfl rfl ?_
        have kn_919 : Hid (c_910 41 5 = (-1)) := (hF_912 41 5 (fun h => absurd h.2 (ni rfl))).trans (hc_1)
        have kn_920 : Hid (c_915 41 5 = (-1)) := (hF_917 41 5 (fun h => absurd h.2 (ni rfl))).trans (hid kn_919)
        have h_921 : c_915 41 5 = (-1) := (hid kn_920)
        have h_922 : c_915 41 4 = (nx F e1 a) := (h_918)
        have h_923 := ir_41_6 hI2
        have kn_924 : Hid (c_910 41 6 = c2 41 6) := hF_912 41 6 (fun h => absurd h.2 (ni rfl))
        have kn_925 : Hid (c_915 41 6 = c2 41 6) := (hF_917 41 6 (fun h => absurd h.2 (ni rfl))).trans (hid kn_924)
        have h_926 : c_915 41 6 = c2 41 6 := (hid kn_925)
        have kn_927 : Hid (c_910 41 29 = nw) := (hF_912 41 29 (fun h => absurd h.2 (ni rfl))).trans (hr_nw)
        have kn_928 : Hid (c_915 41 29 = nw) := (hF_917 41 29 (fun h => absurd h.2 (ni rfl))).trans (hid kn_927)
        have h_929 : c_915 41 29 = nw := (hid kn_928)
        have kn_930 : Hid (c_910 41 7 = a2) := (hF_912 41 7 (fun h => absurd h.2 (ni rfl))).trans (hc_3)
        have kn_931 : Hid (c_915 41 7 = a2) := (hF_917 41 7 (fun h => absurd h.2 (ni rfl))).trans (hid kn_930)
        have h_932 : c_915 41 7 = a2 := (hid kn_931)
        have h_933 : c_915 41 29 = nw := (hid kn_928)
        have hA_934 : Ce nw (c_74 (A + 9)) (c_915 50) (c_915 51) := ce_fr hrl0 (fun j => hF_76 (A + 9) j (fun h => absurd h.1 (np hA rfl rfl))) (fun j => (hF_917 50 j (fun h => absurd h.1 (nn rfl))).trans (hF_912 50 j (fun h => absurd h.1 (nn rfl)))) (fun j => (hF_917 51 j (fun h => absurd h.1 (nn rfl))).trans (hF_912 51 j (fun h => absurd h.1 (nn rfl))))
        have hA_935 : Ce nw (m9 (A + 9)) (c_915 50) (c_915 51) := ce_l hA_934 (fun j h1 h2 => wd_av hW (ck_p9 hA) (ck_p9 hA) (by decide) (a68 hA rfl) ⟨h1, by omega⟩ rfl (ir_p9 hI_75 hA j) (ir_p9 hJ9 hA j))
        exact K c_915  hI_916 (fun a j hm => (hF_917 a j (fun h => hm (Or.inl h))).trans ((hF_912 a j (fun h => hm (Or.inl h))).trans (hFc a j (fun q => q.elim (fun h => hm (Or.inl h)) (fun q => q.elim (fun h => hm (Or.inr (Or.inl h))) (fun q => q.elim (fun h => hm (Or.inr (Or.inr (Or.inl h)))) (fun q => q.elim (fun h => hm (Or.inr (Or.inr (Or.inr (Or.inl h))))) (fun q => q.elim (fun h => hm (Or.inr (Or.inr (Or.inr (Or.inr (Or.inl h)))))) (fun q => q.elim (fun h => hm (Or.inr (Or.inr (Or.inr (Or.inr (Or.inr (Or.inl h))))))) (fun h => hm (Or.inr (Or.inr (Or.inr (Or.inr (Or.inr (Or.inr h)))))))))))))))) (rt_i1 ⟨by first | (clear ha2 hq0 hq1 hq2 hq3 hq4 hq5 h_1 h_2 h_3 h_4 h_5 h_6 h_7 h_8 h_9 h_10 h_11 h_12 h_13 h_14 h_15 h_16 h_60 h_61 h_62 h_897 h_898 h_900 h_901 h_903 h_904 h_906 h_907 h_909 h_923 h_63 h_77 h_908; omega) | omega, by first | (clear ha2 hq0 hq1 hq2 hq3 hq4 hq5 h_1 h_2 h_3 h_4 h_5 h_6 h_7 h_8 h_9 h_10 h_11 h_12 h_13 h_14 h_15 h_16 h_60 h_61 h_62 h_895 h_896 h_897 h_898 h_900 h_901 h_903 h_904 h_906 h_907 h_909 h_923 h_63 h_77 h_908; omega) | omega, by first | (clear ha2 hq0 hq1 hq2 hq3 hq4 hq5 h_1 h_2 h_3 h_4 h_5 h_6 h_7 h_8 h_9 h_10 h_11 h_12 h_13 h_14 h_15 h_16 h_60 h_61 h_62 h_895 h_896 h_897 h_900 h_901 h_903 h_904 h_906 h_907 h_909 h_923 h_63 h_77 h_908; omega) | omega, by first | (clear ha2 hq0 hq1 hq2 hq3 hq4 hq5 h_1 h_2 h_3 h_4 h_5 h_6 h_7 h_8 h_9 h_10 h_11 h_12 h_13 h_14 h_15 h_16 h_60 h_61 h_62 h_895 h_896 h_897 h_898 h_903 h_904 h_906 h_907 h_909 h_923 h_63 h_77 h_908; omega) | omega⟩) (Or.inr (Or.inr ⟨by first | (clear ha2 hq0 hq1 hq2 hq3 hq4 hq5 h_1 h_2 h_3 h_4 h_5 h_6 h_7 h_8 h_9 h_10 h_11 h_12 h_13 h_14 h_15 h_16 h_60 h_61 h_62 h_895 h_896 h_897 h_898 h_900 h_901 h_903 h_906 h_907 h_909 h_923 h_63 h_77 h_908; omega) | omega, by first | (clear ha2 hq0 hq1 hq2 hq3 hq4 hq5 h_1 h_2 h_3 h_4 h_5 h_6 h_7 h_8 h_9 h_10 h_11 h_12 h_13 h_14 h_15 h_60 h_62 h_895 h_896 h_897 h_900 h_901 h_903 h_904 h_906 h_907 h_909 h_923 h_63 h_77 h_908; omega) | omega, by first | (clear ha2 hq0 hq1 hq2 hq3 hq4 hq5 h_1 h_2 h_3 h_4 h_5 h_6 h_7 h_8 h_9 h_10 h_11 h_12 h_13 h_14 h_15 h_16 h_60 h_62 h_895 h_896 h_897 h_900 h_901 h_903 h_904 h_906 h_907 h_909 h_923 h_63 h_77 h_908; omega) | omega, by first | (clear ha2 hq0 hq1 hq2 hq3 hq4 hq5 h_1 h_2 h_3 h_4 h_5 h_6 h_7 h_8 h_9 h_10 h_11 h_12 h_13 h_14 h_15 h_60 h_62 h_895 h_896 h_897 h_900 h_901 h_903 h_904 h_906 h_907 h_909 h_923 h_63 h_77 h_908; omega) | omega⟩)) (by first | (clear ha2 hq0 hq1 hq2 hq3 hq4 hq5 h_1 h_2 h_3 h_4 h_5 h_6 h_7 h_8 h_9 h_10 h_11 h_12 h_13 h_14 h_15 h_16 h_60 h_61 h_62 h_895 h_896 h_897 h_898 h_900 h_901 h_903 h_904 h_906 h_907 h_909 h_923 h_63 h_77 h_908; omega) | omega) (fun _ => ce_le hA_935 (by omega))
set_option maxRecDepth 100000 in
set_option maxHeartbeats 4000000 in
theorem L_13 {sc : List Int32} {e eg : Int} {d dh u ug P Q P2 Q2 A : Nat} {c m m9 : ME} {a2 e1 f0 g0 p0 n0 o0 : Int} {F H : Int → Int} {Z : AR → Prop} (hI : Iv u e P2 Q2 c) (hJ : Iv ug eg P Q m) (hJ9 : Iv ug eg P Q m9) (hA : A = 13 ∨ A = 25) (ha2 : 0 ≤ a2 ∧ a2 ≤ 6) (hq0 : (f0 = 0)) (hq1 : (g0 = (-1))) (hq2 : (o0 = a2)) (hq3 : (n0 ≤ p0)) (hq4 : (p0 ≤ e1)) (hq5 : (e1 ≤ 150)) (hg_e1 : m 1 1 = e1) (hr_e1 : c 41 3 = e1) (hg_f0 : m 1 4 = f0) (hg_g0 : m 1 5 = g0) (hg_p0 : m 1 2 = p0) (hg_n0 : m (A + 7) 5 = n0) (hr_n0 : c 41 29 = n0) (hr_o0 : c 41 7 = o0) (hF : ∀ j : Int, m 2 j = F j) (hH : ∀ j : Int, c 43 j = H j) (hU : Ub F H) (hRt : Rt m c) (hr0 : Ce n0 (m (A + 9)) (c 50) (c 51)) (H13 : ∀ {d9 : Nat} {c m m9 : ME} {e1 f0 g0 p0 n0 o0 : Int} {Z : AR → Prop}, d ≤ d9 → a2 + 1 ≤ 6 → (Iv u e P2 Q2 c) → (Iv ug eg P Q m) → (Iv ug eg P Q m9) → (0 ≤ (a2 + 1) ∧ (a2 + 1) ≤ 6) → ((f0 = 0)) → ((g0 = (-1))) → ((o0 = (a2 + 1))) → ((n0 ≤ p0)) → ((p0 ≤ e1)) → ((e1 ≤ 150)) → (m 1 1 = e1) → (c 41 3 = e1) → (m 1 4 = f0) → (m 1 5 = g0) → (m 1 2 = p0) → (m (A + 7) 5 = n0) → (c 41 29 = n0) → (c 41 7 = o0) → (∀ j : Int, m 2 j = F j) → (∀ j : Int, c 43 j = H j) → (Ub F H) → (Rt m c) → (Ce n0 (m (A + 9)) (c 50) (c 51)) → (Wp sc (dh + 33) 13 0 [(0, .ref (A + 7)), (1, .ref 1), (2, vi (a2 + 1))] [] (Wd P Q P P m) 0 0 (fun q => q = (.inl (none), Wd P Q P P m9, 0, 0))) → (∀ (c2 : ME), Iv u e P2 Q2 c2 → (∀ (a : Nat) (j : Int), ¬ ((a = 41 ∧ j = 4) ∨ (a = 41 ∧ j = 5) ∨ (a = 41 ∧ j = 6) ∨ (a = 41 ∧ j = 7) ∨ (a = 41 ∧ j = 29) ∨ a = 50 ∨ a = 51) → c2 a j = c a j) → (Rt m9 c2) → ((m9 1 4 < 0) ∨ (m9 1 4 > 0) ∨ (m9 (A + 7) 5 = c2 41 29 ∧ c2 41 29 + p0 ≤ m9 1 2 + n0 ∧ m9 1 2 ≤ e1 ∧ m9 1 2 ≥ p0)) → ((c2 41 7 = (a2 + 1))) → (m9 1 4 = 0 → Ce (c2 41 29) (m9 (A + 9)) (c2 50) (c2 51)) → Z (.inl (none), Wd P2 Q2 P2 P2 c2, 0, 0)) → Wp sc (d9 + 32) 174 0 [(0, .ref 41)] [] (Wd P2 Q2 P2 P2 c) 0 0 Z) (hG : Wp sc (dh + 36) 13 0 [(0, .ref (A + 7)), (1, .ref 1), (2, vi a2)] [] (Wd P Q P P m) 0 0 (fun q => q = (.inl (none), Wd P Q P P m9, 0, 0))) (K : ∀ (c2 : ME), Iv u e P2 Q2 c2 → (∀ (a : Nat) (j : Int), ¬ ((a = 41 ∧ j = 4) ∨ (a = 41 ∧ j = 5) ∨ (a = 41 ∧ j = 6) ∨ (a = 41 ∧ j = 7) ∨ (a = 41 ∧ j = 29) ∨ a = 50 ∨ a = 51) → c2 a j = c a j) → (Rt m9 c2) → ((m9 1 4 < 0) ∨ (m9 1 4 > 0) ∨ (m9 (A + 7) 5 = c2 41 29 ∧ c2 41 29 + p0 ≤ m9 1 2 + n0 ∧ m9 1 2 ≤ e1 ∧ m9 1 2 ≥ p0)) → ((c2 41 7 = a2)) → (m9 1 4 = 0 → Ce (c2 41 29) (m9 (A + 9)) (c2 50) (c2 51)) → Z (.inl (none), Wd P2 Q2 P2 P2 c2, 0, 0)) : Wp sc (d + 36) 174 0 [(0, .ref 41)] [] (Wd P2 Q2 P2 P2 c) 0 0 Z := by
  have hP := iv_P hJ
  have hQ := iv_Q hJ
  have h_936 := ir_1_1 hJ
  have h_937 := ir_41_3 hI
  have h_938 := ir_1_4 hJ
  have h_939 := ir_1_5 hJ
  have h_940 := ir_1_2 hJ
  have h_941 := ir_p7_5 hJ hA
  have h_942 := ir_41_29 hI
  have h_943 := ir_41_7 hI
  refine gh hG ?_
  refine q_aload_n rfl rfl ?_
  refine q_aload_n rfl rfl ?_
  refine q_iload_n rfl rfl ?_
  refine v_cv rfl rfl rfl (ck_p7 hA) (a68 hA rfl) ⟨⟨rfl, rfl⟩, by decide, rfl⟩ (Nat.le_of_ble_eq_true rfl) (Nat.le_of_ble_eq_true rfl) (fn_of (r_12 (a2 := a2) hJ hA (show 0 ≤ a2 ∧ a2 ≤ 6 from ha2) (fun c_944 hI_945 hF_946 => ?_)))
  intro hG_947
  refine bk_inl ?_
  refine q_iconst rfl ?_
  refine q_istore_n rfl (by decide) ?_
  have h_948 := ir_1_4 hI_945
  by_cases h_949 : c_944 1 4 = 0
  · skip
    refine Wp_ls [(0, .ref (A + 7)), (1, .ref 1), (2, vi a2), (3, vi 0)] (lsub_cons rfl (lsub_cons rfl (lsub_cons rfl (lsub_cons rfl lsub_nil)))) ?_
    refine gh_stop ((s_13_l (sc := sc) (d := dh + 22) (c := c_944) (a2 := a2) (Z := fun _ => True) hI_945 hA ha2 (fun c9 Z9 h hI9 K9 => r_13 (d := dh + 1) hI9 hA ⟨by omega, h⟩ K9) (fun _ _ _ => trivial) 304) c_944 0 hI_945 (fun a j hm => rfl) ⟨by omega, by omega⟩ (by omega)) (fun hG_950 => ?_)
    refine q_aload_n rfl rfl ?_
    have h_951 := ir_41_5 hI
    have h_952 := ir_41_4 hI
    have h_953 := ir_41_6 hI
    have h_954 := rt_ok hRt (by omega)
    have hro_hRt := rt_ok hRt (by omega)
    refine v_cv rfl rfl rfl rfl (by decide) ⟨⟨rfl, rfl⟩, by decide, rfl⟩ (Nat.le_of_ble_eq_true rfl) (Nat.le_of_ble_eq_true rfl) (L_12 (m := m) (a2 := a2) (e1 := e1) (f0 := f0) (g0 := g0) (p0 := p0) (n0 := n0) (o0 := o0) (F := F) (H := H) hI hJ hI_945 hA (show 0 ≤ a2 ∧ a2 ≤ 6 from ha2) (by first | (clear ha2 hq1 hq2 hq3 hq4 hq5 h_936 h_937 h_938 h_939 h_940 h_941 h_942 h_943 h_948 h_949 h_951 h_952 h_953 h_954; omega) | omega) (by first | (clear ha2 hq0 hq2 hq3 hq4 hq5 h_936 h_937 h_938 h_939 h_940 h_941 h_942 h_943 h_948 h_949 h_951 h_952 h_953 h_954; omega) | omega) (by first | (clear ha2 hq0 hq1 hq3 hq4 hq5 h_936 h_937 h_938 h_939 h_940 h_941 h_942 h_943 h_948 h_949 h_951 h_952 h_953 h_954; omega) | omega) (by first | (clear ha2 hq0 hq1 hq2 hq4 hq5 h_936 h_937 h_938 h_939 h_940 h_941 h_942 h_943 h_948 h_949 h_951 h_952 h_953 h_954; omega) | omega) (by first | (clear ha2 hq0 hq1 hq2 hq3 hq5 h_936 h_937 h_938 h_939 h_940 h_941 h_942 h_943 h_948 h_949 h_951 h_952 h_953 h_954; omega) | omega) (by first | (clear ha2 hq0 hq1 hq2 hq3 hq4 h_936 h_937 h_938 h_939 h_940 h_941 h_942 h_943 h_948 h_949 h_951 h_952 h_953 h_954; omega) | omega) ((hg_e1)) ((hr_e1)) ((hg_f0)) ((hg_g0)) ((hg_p0)) ((hg_n0)) ((hr_n0)) ((hr_o0)) (fun j => hF j) (fun j => hH j) hU hRt (ce_le hr0 (by omega)) H13 hG_947 (fun c_955 hI_956 hF_957 hR_959 h_960 h_961 hA_962 => ?_))
    refine bk_inl ?_
    have h_963 := ir_41_29 hI_956
    have h_964 := ir_p7_5 hI_945 hA
    have h_965 := ir_1_2 hI_945
    have h_966 := ir_41_7 hI_956
    refine Wp_ls [(0, .ref 41)] (lsub_cons rfl lsub_nil) ?_
    have h_967 := ir_41_4 hI_956
    have h_968 := ir_1_5 hI_945
    have h_969 := ir_41_5 hI_956
    have h_970 := ir_41_6 hI_956
    have h_971 := rt_ok hR_959 (by omega)
    have hro_hR_959 := rt_ok hR_959 (by omega)
    have hA_972 : Ce (c_944 (A + 7) 5) (c_944 (A + 9)) (c_955 50) (c_955 51) := ce_le (hA_962 (by omega)) (by omega)
    exact (L_13_l (sc := sc) (d := d) (dh := dh) hI hJ hJ9 hA ha2 hq0 hq1 hq2 hq3 hq4 hq5 hg_e1 hr_e1 hg_f0 hg_g0 hg_p0 hg_n0 hr_n0 hr_o0 hF hH hU hRt hr0 H13 K 602) c_955 c_944 0 (c_944 1 2) (c_944 (A + 7) 5) hI_956 (fun a j hm => hF_957 a j (fun q => q.elim (fun h => hm (Or.inl h)) (fun q => q.elim (fun h => hm (Or.inr (Or.inl h))) (fun q => q.elim (fun h => hm (Or.inr (Or.inr (Or.inl h)))) (fun q => q.elim (fun h => hm (Or.inr (Or.inr (Or.inr (Or.inl h))))) (fun q => q.elim (fun h => hm (Or.inr (Or.inr (Or.inr (Or.inr (Or.inl h)))))) (fun q => q.elim (fun h => hm (Or.inr (Or.inr (Or.inr (Or.inr (Or.inr (Or.inl h))))))) (fun h => hm (Or.inr (Or.inr (Or.inr (Or.inr (Or.inr (Or.inr h)))))))))))))) hI_945 (fun a j hm => hF_946 a j (fun q => q.elim (fun h => hm (Or.inl h)) (fun q => q.elim (fun h => hm (Or.inr (Or.inl h))) (fun q => q.elim (fun h => hm (Or.inr (Or.inr (Or.inl h)))) (fun q => q.elim (fun h => hm (Or.inr (Or.inr (Or.inr (Or.inl h))))) (fun h => hm (Or.inr (Or.inr (Or.inr (Or.inr h)))))))))) ⟨by omega, by omega⟩ ⟨by omega, by omega⟩ ⟨by omega, by omega⟩ (rfl) (hro_hR_959.2.2.1) (rfl) ((show _ = c_955 41 29 from rfl).trans (by omega)) ((show _ = c_944 1 4 from rfl).trans (by omega)) (hro_hR_959.2.1) ((show _ = c_944 1 5 from rfl).trans (by omega)) ((show _ = c_955 41 7 from rfl).trans (by omega)) (by first | (clear ha2 hq0 hq1 hq2 hq5 h_936 h_937 h_938 h_939 h_943 h_948 h_949 h_951 h_952 h_953 h_954 h_963 h_966 h_961 h_967 h_968 h_969 h_970; omega) | omega) (by first | (clear ha2 hq0 hq1 hq2 hq5 h_936 h_937 h_938 h_939 h_941 h_942 h_943 h_948 h_949 h_951 h_952 h_953 h_954 h_963 h_964 h_966 h_961 h_967 h_968 h_969 h_970; omega) | omega) (by first | (clear ha2 hq0 hq1 hq2 hq3 h_938 h_939 h_940 h_941 h_942 h_943 h_948 h_949 h_951 h_952 h_953 h_954 h_963 h_964 h_966 h_961 h_967 h_968 h_969 h_970; omega) | omega) (by first | (clear ha2 hq0 hq1 hq2 hq3 hq4 hq5 h_936 h_937 h_938 h_939 h_940 h_941 h_942 h_943 h_948 h_949 h_951 h_952 h_953 h_954 h_963 h_964 h_966 h_961 h_967 h_968 h_969 h_970 h_971 h_960; omega) | omega) (ce_le hA_972 (by omega)) hG_950 (by omega)
  · skip
    refine q_iload_n rfl rfl ?_
    refine v_sip rfl (by decide) ?_
    refine v_ic_ge_f (t := 59) rfl (by decide) (by decide) ?_
    refine q_aload_n rfl rfl ?_
    refine v_cv rfl rfl rfl rfl (by decide) ⟨⟨rfl, rfl⟩, by decide, rfl⟩ (Nat.le_of_ble_eq_true rfl) (Nat.le_of_ble_eq_true rfl) ?_
    refine q_aload_n rfl rfl ?_
    refine v_gi (z := 4) (v := c_944 1 4) rfl rfl rfl (by decide) rfl rfl rfl ?_
    refine v_if_ne_t (t := 11) rfl (by decide) ⟨by first | (clear ha2 hq0 hq1 hq2 hq3 hq4 hq5 h_936 h_937 h_938 h_939 h_940 h_941 h_942 h_943 h_948; omega) | omega, ⟨(Int.le_trans (by decide) h_948.1), (Int.le_trans h_948.2 (by decide))⟩, by decide, by decide⟩ ?_
    refine q_iconst rfl ?_
    refine v_zret rfl rfl (by decide) ?_
    refine bk_inl ?_
    refine v_if_eq_t (t := 59) rfl (by decide) (by decide) ?_
    refine q_vret rfl rfl ?_
    intro hE_973
    have hW : Wd P Q P P c_944 = Wd P Q P P m9 := (Prod.mk.inj (Prod.mk.inj hE_973).2).1
    have h_974 := ir_1_4 hJ9
    have h_975 : m9 1 4 = c_944 1 4 := wd_fv (z := 4) 4 rfl hW rfl rfl rfl rfl (by decide) rfl ⟨(Int.le_trans (by decide) h_948.1), (Int.le_trans h_948.2 (by decide))⟩ ⟨(Int.le_trans (by decide) h_974.1), (Int.le_trans h_974.2 (by decide))⟩
    have h_976 := ir_1_2 hI_945
    have h_977 := ir_1_2 hJ9
    have h_978 : m9 1 2 = c_944 1 2 := wd_fv (z := 2) 2 rfl hW rfl rfl rfl rfl (by decide) rfl ⟨(Int.le_trans (by decide) h_976.1), (Int.le_trans h_976.2 (by decide))⟩ ⟨(Int.le_trans (by decide) h_977.1), (Int.le_trans h_977.2 (by decide))⟩
    have h_979 := ir_1_5 hI_945
    have h_980 := ir_1_5 hJ9
    have h_981 : m9 1 5 = c_944 1 5 := wd_fv (z := 5) 5 rfl hW rfl rfl rfl rfl (by decide) rfl ⟨(Int.le_trans (by decide) h_979.1), (Int.le_trans h_979.2 (by decide))⟩ ⟨(Int.le_trans (by decide) h_980.1), (Int.le_trans h_980.2 (by decide))⟩
    have h_982 := ir_p7_5 hI_945 hA
    have h_983 := ir_p7_5 hJ9 hA
    have h_984 : m9 (A + 7) 5 = c_944 (A + 7) 5 := wd_fv (z := 5) 5 rfl hW (ck_p7 hA) (ck_p7 hA) rfl rfl (by omega) rfl ⟨(Int.le_trans (by decide) h_982.1), (Int.le_trans h_982.2 (by decide))⟩ ⟨(Int.le_trans (by decide) h_983.1), (Int.le_trans h_983.2 (by decide))⟩
    refine q_aload_n rfl rfl ?_
    have h_985 := ir_41_5 hI
    have h_986 := ir_41_4 hI
    have h_987 := ir_41_6 hI
    have h_988 := rt_ok hRt (by omega)
    have hro_hRt := rt_ok hRt (by omega)
    refine v_cv rfl rfl rfl rfl (by decide) ⟨⟨rfl, rfl⟩, by decide, rfl⟩ (Nat.le_of_ble_eq_true rfl) (Nat.le_of_ble_eq_true rfl) (L_12 (m := m) (a2 := a2) (e1 := e1) (f0 := f0) (g0 := g0) (p0 := p0) (n0 := n0) (o0 := o0) (F := F) (H := H) hI hJ hI_945 hA (show 0 ≤ a2 ∧ a2 ≤ 6 from ha2) (by first | (clear ha2 hq1 hq2 hq3 hq4 hq5 h_936 h_937 h_938 h_939 h_940 h_941 h_942 h_943 h_948 h_974 h_975 h_976 h_977 h_978 h_979 h_980 h_981 h_982 h_983 h_984 h_985 h_986 h_987 h_988; omega) | omega) (by first | (clear ha2 hq0 hq2 hq3 hq4 hq5 h_936 h_937 h_938 h_939 h_940 h_941 h_942 h_943 h_948 h_974 h_975 h_976 h_977 h_978 h_979 h_980 h_981 h_982 h_983 h_984 h_985 h_986 h_987 h_988; omega) | omega) (by first | (clear ha2 hq0 hq1 hq3 hq4 hq5 h_936 h_937 h_938 h_939 h_940 h_941 h_942 h_943 h_948 h_974 h_975 h_976 h_977 h_978 h_979 h_980 h_981 h_982 h_983 h_984 h_985 h_986 h_987 h_988; omega) | omega) (by first | (clear ha2 hq0 hq1 hq2 hq4 hq5 h_936 h_937 h_938 h_939 h_940 h_941 h_942 h_943 h_948 h_974 h_975 h_976 h_977 h_978 h_979 h_980 h_981 h_982 h_983 h_984 h_985 h_986 h_987 h_988; omega) | omega) (by first | (clear ha2 hq0 hq1 hq2 hq3 hq5 h_936 h_937 h_938 h_939 h_940 h_941 h_942 h_943 h_948 h_974 h_975 h_976 h_977 h_978 h_979 h_980 h_981 h_982 h_983 h_984 h_985 h_986 h_987 h_988; omega) | omega) (by first | (clear ha2 hq0 hq1 hq2 hq3 hq4 h_936 h_937 h_938 h_939 h_940 h_941 h_942 h_943 h_948 h_974 h_975 h_976 h_977 h_978 h_979 h_980 h_981 h_982 h_983 h_984 h_985 h_986 h_987 h_988; omega) | omega) ((hg_e1)) ((hr_e1)) ((hg_f0)) ((hg_g0)) ((hg_p0)) ((hg_n0)) ((hr_n0)) ((hr_o0)) (fun j => hF j) (fun j => hH j) hU hRt (ce_le hr0 (by omega)) H13 hG_947 (fun c_989 hI_990 hF_991 hR_993 h_994 h_995 hA_996 => ?_))
    refine bk_inl ?_
    have h_997 := ir_41_29 hI_990
    have h_998 := ir_41_7 hI_990
    refine q_aload_n rfl rfl ?_
    refine v_cv rfl rfl rfl rfl (by decide) ⟨⟨rfl, rfl⟩, by decide, rfl⟩ (Nat.le_of_ble_eq_true rfl) (Nat.le_of_ble_eq_true rfl) ?_
    refine q_aload_n rfl rfl ?_
    have h_999 := ir_41_5 hI_990
    have h_1000 := ir_41_4 hI_990
    have h_1001 := ir_41_6 hI_990
    have h_1002 := rt_bad hR_993 (by omega)
    have hrb_hR_993 := rt_bad hR_993 (by omega)
    refine v_gi (z := 5) (v := c_944 1 5) rfl rfl rfl (by decide) rfl rfl hrb_hR_993.2.1 ?_
    refine q_iconst rfl ?_
    refine v_ic_ne_t (t := 12) rfl (by decide) ⟨by first | (clear ha2 hq0 hq1 hq2 hq3 hq4 hq5 h_936 h_937 h_938 h_939 h_940 h_941 h_942 h_943 h_948 h_974 h_975 h_976 h_977 h_978 h_979 h_980 h_981 h_982 h_983 h_984 h_985 h_986 h_987 h_988 h_997 h_998 h_995 h_999 h_1000 h_1001 h_994; omega) | omega, ⟨(Int.le_trans (by decide) h_979.1), (Int.le_trans h_979.2 (by decide))⟩, by decide, by decide⟩ ?_
    refine q_iconst rfl ?_
    refine v_zret rfl rfl (by decide) ?_
    refine bk_inl ?_
    refine v_if_eq_t (t := 67) rfl (by decide) (by decide) ?_
    refine q_vret rfl rfl ?_
    have h_1003 : c_989 41 5 = c_944 1 5 := hrb_hR_993.2.1
    have h_1004 : c_989 41 6 = c_944 1 4 := hrb_hR_993.2.2.2
    exact K c_989  hI_990 (fun a j hm => hF_991 a j (fun q => q.elim (fun h => hm (Or.inl h)) (fun q => q.elim (fun h => hm (Or.inr (Or.inl h))) (fun q => q.elim (fun h => hm (Or.inr (Or.inr (Or.inl h)))) (fun q => q.elim (fun h => hm (Or.inr (Or.inr (Or.inr (Or.inl h))))) (fun q => q.elim (fun h => hm (Or.inr (Or.inr (Or.inr (Or.inr (Or.inl h)))))) (fun q => q.elim (fun h => hm (Or.inr (Or.inr (Or.inr (Or.inr (Or.inr (Or.inl h))))))) (fun h => hm (Or.inr (Or.inr (Or.inr (Or.inr (Or.inr (Or.inr h)))))))))))))) (rt_i2 ⟨⟨by first | (clear ha2 hq0 hq1 hq2 hq3 hq4 hq5 h_936 h_937 h_938 h_939 h_940 h_941 h_942 h_943 h_948 h_974 h_976 h_977 h_978 h_979 h_980 h_981 h_982 h_983 h_984 h_985 h_986 h_987 h_988 h_997 h_998 h_995 h_999 h_1000 h_1001 h_994; omega) | omega, by first | (clear ha2 hq0 hq1 hq2 hq3 hq4 hq5 h_936 h_937 h_938 h_939 h_940 h_941 h_942 h_943 h_948 h_975 h_976 h_977 h_978 h_979 h_980 h_981 h_982 h_983 h_984 h_985 h_986 h_987 h_988 h_997 h_998 h_995 h_999 h_1000 h_1001 h_1002 h_994; omega) | omega⟩, by first | (clear ha2 hq0 hq1 hq2 hq3 hq4 hq5 h_936 h_937 h_938 h_939 h_940 h_941 h_942 h_943 h_948 h_974 h_975 h_976 h_977 h_978 h_979 h_980 h_982 h_983 h_984 h_985 h_986 h_987 h_988 h_997 h_998 h_995 h_999 h_1000 h_1001 h_1002 h_994; omega) | omega, by first | (clear ha2 hq0 hq1 hq2 hq3 hq4 hq5 h_936 h_937 h_938 h_939 h_940 h_941 h_942 h_943 h_948 h_974 h_975 h_976 h_977 h_978 h_979 h_980 h_982 h_983 h_984 h_985 h_986 h_987 h_988 h_997 h_998 h_995 h_999 h_1000 h_1001 h_994; omega) | omega, by first | (clear ha2 hq0 hq1 hq2 hq3 hq4 hq5 h_936 h_937 h_938 h_939 h_940 h_941 h_942 h_943 h_948 h_974 h_976 h_977 h_978 h_979 h_980 h_981 h_982 h_983 h_984 h_985 h_986 h_987 h_988 h_997 h_998 h_995 h_999 h_1000 h_1001 h_1002 h_994; omega) | omega⟩) (Or.inr (Or.inl (by first | (clear ha2 hq0 hq1 hq2 hq3 hq4 hq5 h_936 h_937 h_938 h_939 h_940 h_941 h_942 h_943 h_948 h_974 h_976 h_977 h_978 h_979 h_980 h_981 h_982 h_983 h_984 h_985 h_986 h_987 h_988 h_997 h_998 h_995 h_999 h_1000 h_1001 h_994; omega) | omega))) (by first | (clear ha2 hq0 hq1 hq2 hq3 hq4 hq5 h_936 h_937 h_938 h_939 h_940 h_941 h_942 h_943 h_948 h_974 h_975 h_976 h_977 h_978 h_979 h_980 h_981 h_982 h_983 h_984 h_985 h_986 h_987 h_988 h_997 h_998 h_999 h_1000 h_1001 h_1002 h_994; omega) | omega) (fun hz => absurd hz (by omega))

