/-! ===== the texts, exactly ===== -/
set_option maxRecDepth 100000 in
set_option maxHeartbeats 4000000 in
theorem f_3_l {sc : List Int32} {e : Int} {d u P Q : Nat} {c : ME} {e1 a9 r8 : Int} {B : Int → Int} {Z : AR → Prop} (hI : Iv u e P Q c) (hv0 : c 1 1 = e1) (hv1 : c 1 2 = a9) (hB : ∀ j : Int, c 2 j = B j) (hdr8 : nx B e1 a9 = r8) (K0 : ∀ c2 : ME, Iv u e P Q c2 → (∀ (a : Nat) (j : Int), ¬ ((a = 1 ∧ j = 2)) → c2 a j = c a j) → (c2 1 2 = r8) → Z (.inl (some (vi r8)), Wd P Q P P c2, 0, 0)) : ∀ n : Nat, (∀ (c2 : ME), Iv u e P Q c2 → (∀ (a : Nat) (j : Int), ¬ ((a = 1 ∧ j = 2)) → c2 a j = c a j) → (nx B e1 (c2 1 2) = r8) → 600 - c2 1 2 < (n : Int) → Wp sc (d + 7) 3 0 [(0, .ref 1)] [] (Wd P Q P P c2) 0 0 Z)
  | 0 => by intro c2 hI2 hF hx0 hm9; have hP := iv_P hI; have hQ := iv_Q hI; have h_1 := ir_1_1 hI; have h_2 := ir_1_2 hI; have h_3 := ir_1_2 hI2; exfalso; omega
  | n + 1 => by
    have hP := iv_P hI
    have hQ := iv_Q hI
    have ih := f_3_l (sc := sc) (d := d) hI hv0 hv1 hB hdr8 K0 n
    intro c2 hI2 hF hx0 hm9
    have h_1 := ir_1_1 hI
    have h_2 := ir_1_2 hI
    have h_3 := ir_1_2 hI2
    refine q_aload_n rfl rfl ?_
    refine v_gi (z := 2) (v := c2 1 2) rfl rfl rfl (by decide) rfl rfl rfl ?_
    refine q_aload_n rfl rfl ?_
    have kn_4 : Hid (c2 1 1 = e1) := (hF 1 1 (fun h => absurd h.2 (ni rfl))).trans (hv0)
    refine v_gi (z := 1) (v := e1) rfl rfl rfl (by decide) rfl rfl (hid kn_4) ?_
    by_cases h_5 : c2 1 2 ≥ e1
    · refine v_ic_ge_t (t := 38) rfl (by decide) ⟨by omega, h_5, (Int.le_trans h_3.2 (by decide))⟩ ?_
      refine q_aload_n rfl rfl ?_
      refine v_gi (z := 2) (v := c2 1 2) rfl rfl rfl (by decide) rfl rfl rfl ?_
      refine q_iret rfl rfl ?_
      have hz8 : nx B e1 (c2 1 2) = c2 1 2 := nx_z (by omega)
      have hz9 : r8 = c2 1 2 := hx0.symm.trans hz8
      exact zv (by omega) (K0 c2 hI2 (fun a j hm => hF a j (fun h => hm h)) (by omega))
    · refine v_ic_ge_f (t := 38) rfl (by decide) ⟨(Int.le_trans (by decide) h_3.1), (Int.not_le.mp h_5), by omega⟩ ?_
      refine q_aload_n rfl rfl ?_
      refine v_gr (t := 2) rfl rfl rfl (by decide) rfl ?_
      refine q_aload_n rfl rfl ?_
      refine v_gi (z := 2) (v := c2 1 2) rfl rfl rfl (by decide) rfl rfl rfl ?_
      have h_6 : -2147483648 ≤ (B (c2 1 2)) ∧ (B (c2 1 2)) ≤ 2147483647 := by rw [← hB (c2 1 2)]; exact ir_2 hI (c2 1 2)
      have kn_7 : Hid (c2 2 (c2 1 2) = (B (c2 1 2))) := (hF 2 (c2 1 2) (fun h => absurd h.1 (nn rfl))).trans (hB (c2 1 2))
      refine v_ba (v := (B (c2 1 2))) rfl rfl (by decide) (by decide) (by omega) (hid kn_7) ?_
      refine v_bip rfl (by decide) ?_
      by_cases h_8 : (B (c2 1 2)) ≠ 32
      · refine v_ic_ne_t (t := 38) rfl (by decide) ⟨h_8, ⟨by omega, by omega⟩, by decide, by decide⟩ ?_
        refine q_aload_n rfl rfl ?_
        refine v_gi (z := 2) (v := c2 1 2) rfl rfl rfl (by decide) rfl rfl rfl ?_
        refine q_iret rfl rfl ?_
        have hz8 : nx B e1 (c2 1 2) = c2 1 2 := nx_z (by omega)
        have hz9 : r8 = c2 1 2 := hx0.symm.trans hz8
        exact zv (by omega) (K0 c2 hI2 (fun a j hm => hF a j (fun h => hm h)) (by omega))
      · refine v_ic_ne_f (t := 38) rfl (by decide) (Decidable.not_not.mp h_8) ?_
        refine q_aload_n rfl rfl ?_
        refine q_dup rfl rfl ?_
        refine v_gi (z := 2) (v := c2 1 2) rfl rfl rfl (by decide) rfl rfl rfl ?_
        refine q_iconst rfl ?_
        refine v_iadd (v := c2 1 2 + 1) rfl rfl ?_
        refine v_pi (z := 2) rfl rfl rfl (by decide) rfl rfl rfl (by decide) ?_
        refine q_goto (t := 0) rfl (by decide) ?_
        have hI_9 := iw_1_2 (v := c2 1 2 + 1) hI2 ⟨by first | exact rgp_l h_3.1 (by decide) | omega, by omega⟩
        refine Wp_ls [(0, .ref 1)] (lsub_cons rfl lsub_nil) ?_
        have h_10 : (up c2 1 2 (c2 1 2 + 1)) 1 2 = c2 1 2 + 1 := (up_e rfl)
        exact ih (up c2 1 2 (c2 1 2 + 1)) hI_9 (fun a j hm => (up_b (Decidable.or_iff_not_imp_left.mpr (fun h1 h2 => hm ⟨Decidable.not_not.mp h1, h2⟩))).trans (hF a j (fun h => hm h))) (by rw [show (up c2 1 2 (c2 1 2 + 1)) 1 2 = c2 1 2 + 1 from (up_e rfl)]; exact (nx_s (by omega) (by omega)).symm.trans hx0) (by omega)
set_option maxRecDepth 100000 in
set_option maxHeartbeats 4000000 in
theorem f_3 {sc : List Int32} {e : Int} {d u P Q : Nat} {c : ME} {e1 a9 r8 : Int} {B : Int → Int} {Z : AR → Prop} (hI : Iv u e P Q c) (hv0 : c 1 1 = e1) (hv1 : c 1 2 = a9) (hB : ∀ j : Int, c 2 j = B j) (hdr8 : nx B e1 a9 = r8) (K0 : ∀ c2 : ME, Iv u e P Q c2 → (∀ (a : Nat) (j : Int), ¬ ((a = 1 ∧ j = 2)) → c2 a j = c a j) → (c2 1 2 = r8) → Z (.inl (some (vi r8)), Wd P Q P P c2, 0, 0)) : Wp sc (d + 7) 3 0 [(0, .ref 1)] [] (Wd P Q P P c) 0 0 Z := by
  have hP := iv_P hI
  have hQ := iv_Q hI
  have h_11 := ir_1_1 hI
  have h_12 := ir_1_2 hI
  refine Wp_ls [(0, .ref 1)] (lsub_cons rfl lsub_nil) ?_
  have h_13 : c 1 2 = a9 := (hv1)
  exact (f_3_l (sc := sc) (d := d) hI hv0 hv1 hB hdr8 K0 601) c hI (fun a j hm => rfl) (by rw [hv1]; exact hdr8) (by omega)

set_option maxRecDepth 100000 in
set_option maxHeartbeats 4000000 in
theorem f_8_l {sc : List Int32} {e : Int} {d u P Q : Nat} {c : ME} {e1 a9 f9 p9 r8 D8 V8 a1 : Int} {B : Int → Int} {Z : AR → Prop} (hI : Iv u e P Q c) (ha1 : (-1) ≤ a1 ∧ a1 ≤ 9999) (hv0 : c 1 1 = e1) (hv1 : c 1 2 = a9) (hv2 : c 1 4 = f9) (hv3 : c 1 5 = p9) (hB : ∀ j : Int, c 2 j = B j) (hdr8 : nx B e1 a9 = r8) (hdD8 : (dg B e1 r8 0).1 = D8) (hdV8 : (dg B e1 r8 0).2 = V8) (K0 : ∀ c2 : ME, Iv u e P Q c2 → (∀ (a : Nat) (j : Int), ¬ ((a = 1 ∧ j = 2) ∨ (a = 1 ∧ j = 4) ∨ (a = 1 ∧ j = 5)) → c2 a j = c a j) → ((f9 ≠ 0)) → (c2 1 2 = a9) → (c2 1 4 = f9) → (c2 1 5 = p9) → Z (.inl (some (vi 0)), Wd P Q P P c2, 0, 0)) (K1 : ∀ c2 : ME, Iv u e P Q c2 → (∀ (a : Nat) (j : Int), ¬ ((a = 1 ∧ j = 2) ∨ (a = 1 ∧ j = 4) ∨ (a = 1 ∧ j = 5)) → c2 a j = c a j) → ((f9 = 0)) → ((r8 ≥ e1) ∨ ((B r8) < 48) ∨ ((B r8) > 57)) → (c2 1 2 = r8) → (c2 1 4 = 1) → (c2 1 5 = r8) → Z (.inl (some (vi 0)), Wd P Q P P c2, 0, 0)) (K2 : ∀ c2 : ME, Iv u e P Q c2 → (∀ (a : Nat) (j : Int), ¬ ((a = 1 ∧ j = 2) ∨ (a = 1 ∧ j = 4) ∨ (a = 1 ∧ j = 5)) → c2 a j = c a j) → ((f9 = 0)) → ((r8 < e1 ∧ (B r8) ≥ 48 ∧ (B r8) ≤ 57)) → ((V8 > a1)) → (c2 1 2 = D8) → (c2 1 4 = 2) → (c2 1 5 = r8) → Z (.inl (some (vi 0)), Wd P Q P P c2, 0, 0)) (K3 : ∀ c2 : ME, Iv u e P Q c2 → (∀ (a : Nat) (j : Int), ¬ ((a = 1 ∧ j = 2) ∨ (a = 1 ∧ j = 4) ∨ (a = 1 ∧ j = 5)) → c2 a j = c a j) → ((f9 = 0)) → ((r8 < e1 ∧ (B r8) ≥ 48 ∧ (B r8) ≤ 57)) → ((V8 ≤ a1)) → (c2 1 2 = D8) → (c2 1 4 = 0) → (c2 1 5 = p9) → Z (.inl (some (vi V8)), Wd P Q P P c2, 0, 0)) : ∀ n : Nat, (∀ (c2 : ME) (v3 : Int), Iv u e P Q c2 → (∀ (a : Nat) (j : Int), ¬ ((a = 1 ∧ j = 2) ∨ (a = 1 ∧ j = 4) ∨ (a = 1 ∧ j = 5)) → c2 a j = c a j) → 0 ≤ v3 ∧ v3 ≤ 99999 → (dg B e1 (c2 1 2) v3 = dg B e1 r8 0) → ((c2 1 4 = 0)) → ((c2 1 5 = p9)) → ((f9 = 0)) → ((c2 1 2 ≥ r8)) → ((r8 < e1 ∧ (B r8) ≥ 48 ∧ (B r8) ≤ 57)) → 600 - c2 1 2 < (n : Int) → Wp sc (d + 12) 8 34 [(0, .ref 1), (1, vi a1), (2, vi r8), (3, vi v3)] [] (Wd P Q P P c2) 0 0 Z)
  | 0 => by intro c2 v3 hI2 hF hv3 hx0 hx1 hx2 hx3 hx4 hx5 hm9; have hP := iv_P hI; have hQ := iv_Q hI; have h_1 := ir_1_1 hI; have h_2 := ir_1_2 hI; have h_3 := ir_1_4 hI; have h_4 := ir_1_5 hI; have h_5 : -2147483648 ≤ (B r8) ∧ (B r8) ≤ 2147483647 := (by rw [← hB r8]; exact ir_2 hI r8); have h_6 := ir_1_4 hI2; have h_7 := ir_1_5 hI2; have h_8 := ir_1_2 hI2; exfalso; omega
  | n + 1 => by
    have hP := iv_P hI
    have hQ := iv_Q hI
    have ih := f_8_l (sc := sc) (d := d) hI ha1 hv0 hv1 hv2 hv3 hB hdr8 hdD8 hdV8 K0 K1 K2 K3 n
    intro c2 v3 hI2 hF hv3 hx0 hx1 hx2 hx3 hx4 hx5 hm9
    have h_1 := ir_1_1 hI
    have h_2 := ir_1_2 hI
    have h_3 := ir_1_4 hI
    have h_4 := ir_1_5 hI
    have hn1 := nx_bd (b := B) (e := e1) (a := a9)
    rw [hdr8] at hn1
    have hn2 := dg_bd (b := B) (e := e1) (a := r8) (v := 0) (by decide)
    rw [hdD8, hdV8] at hn2
    have hn3 := nx_n (b := B) (e := e1) (a := a9)
    rw [hdr8] at hn3
    have h_5 : -2147483648 ≤ (B r8) ∧ (B r8) ≤ 2147483647 := by rw [← hB r8]; exact ir_2 hI r8
    have h_6 := ir_1_4 hI2
    have h_7 := ir_1_5 hI2
    have h_8 := ir_1_2 hI2
    refine q_aload_n rfl rfl ?_
    refine v_gi (z := 2) (v := c2 1 2) rfl rfl rfl (by decide) rfl rfl rfl ?_
    refine q_aload_n rfl rfl ?_
    have kn_9 : Hid (c2 1 1 = e1) := (hF 1 1 (fun q => q.elim (fun h => absurd h.2 (ni rfl)) (fun q => q.elim (fun h => absurd h.2 (ni rfl)) (fun h => absurd h.2 (ni rfl))))).trans (hv0)
    refine v_gi (z := 1) (v := e1) rfl rfl rfl (by decide) rfl rfl (hid kn_9) ?_
    by_cases h_10 : c2 1 2 ≥ e1
    · refine v_ic_ge_t (t := 109) rfl (by decide) ⟨by omega, h_10, (Int.le_trans h_8.2 (by decide))⟩ ?_
      refine q_iload_n rfl rfl ?_
      refine q_iload_n rfl rfl ?_
      by_cases h_11 : v3 ≤ a1
      · refine v_ic_le_t (t := 122) rfl (by decide) ⟨(Int.le_trans (by decide) hv3.1), h_11, (Int.le_trans ha1.2 (by decide))⟩ ?_
        refine q_iload_n rfl rfl ?_
        refine q_iret rfl rfl ?_
        have hz8 : dg B e1 (c2 1 2) v3 = (c2 1 2, v3) := dg_z (by omega)
        have hz9 : D8 = c2 1 2 := by rw [← hdD8, ← hx0, hz8]
        have hz10 : V8 = v3 := by rw [← hdV8, ← hx0, hz8]
        exact zv (by omega) (K3 c2 hI2 (fun a j hm => hF a j (fun q => q.elim (fun h => hm (Or.inl h)) (fun q => q.elim (fun h => hm (Or.inr (Or.inl h))) (fun h => hm (Or.inr (Or.inr h)))))) (by omega) (by omega) (by omega) (by omega) (by omega) (by omega))
      · refine v_ic_le_f (t := 122) rfl (by decide) ⟨(Int.le_trans (by decide) ha1.1), (Int.not_le.mp h_11), (Int.le_trans hv3.2 (by decide))⟩ ?_
        refine q_aload_n rfl rfl ?_
        refine q_iconst rfl ?_
        refine q_iload_n rfl rfl ?_
        refine v_cv rfl rfl rfl rfl (by decide) ⟨⟨rfl, rfl⟩, by decide, rfl⟩ (Nat.le_of_ble_eq_true rfl) (Nat.le_of_ble_eq_true rfl) ?_
        refine q_aload_n rfl rfl ?_
        refine v_gi (z := 4) (v := c2 1 4) rfl rfl rfl (by decide) rfl rfl rfl ?_
        refine v_if_ne_f (t := 17) rfl (by decide) (by omega) ?_
        refine q_aload_n rfl rfl ?_
        refine q_iload_n rfl rfl ?_
        refine v_pi (z := 4) rfl rfl rfl (by decide) rfl rfl rfl (by decide) ?_
        refine q_aload_n rfl rfl ?_
        refine q_iload_n rfl rfl ?_
        refine v_pi (z := 5) rfl rfl rfl (by decide) rfl rfl rfl (by decide) ?_
        refine q_vret rfl rfl ?_
        refine bk_inl ?_
        refine q_iconst rfl ?_
        refine q_iret rfl rfl ?_
        have hz8 : dg B e1 (c2 1 2) v3 = (c2 1 2, v3) := dg_z (by omega)
        have hz9 : D8 = c2 1 2 := by rw [← hdD8, ← hx0, hz8]
        have hz10 : V8 = v3 := by rw [← hdV8, ← hx0, hz8]
        have hI_12 := iw_1_4 (v := 2) hI2 ⟨by decide, by decide⟩
        have hI_13 := iw_1_5 (v := r8) hI_12 ⟨by omega, by omega⟩
        have h_14 : (up (up c2 1 4 2) 1 5 r8) 1 2 = c2 1 2 := ((up_n (by decide)).trans (up_n (by decide)))
        have h_15 : (up (up c2 1 4 2) 1 5 r8) 1 4 = 2 := ((up_n (by decide)).trans (up_e rfl))
        have h_16 : (up (up c2 1 4 2) 1 5 r8) 1 5 = r8 := (up_e rfl)
        exact zv (by omega) (K2 (up (up c2 1 4 2) 1 5 r8) hI_13 (fun a j hm => (up_b (Decidable.or_iff_not_imp_left.mpr (fun h1 h2 => hm (Or.inr (Or.inr ⟨Decidable.not_not.mp h1, h2⟩))))).trans ((up_b (Decidable.or_iff_not_imp_left.mpr (fun h1 h2 => hm (Or.inr (Or.inl ⟨Decidable.not_not.mp h1, h2⟩))))).trans (hF a j (fun q => q.elim (fun h => hm (Or.inl h)) (fun q => q.elim (fun h => hm (Or.inr (Or.inl h))) (fun h => hm (Or.inr (Or.inr h)))))))) (by omega) (by omega) (by omega) (by omega) (by omega) (by omega))
    · refine v_ic_ge_f (t := 109) rfl (by decide) ⟨(Int.le_trans (by decide) h_8.1), (Int.not_le.mp h_10), by omega⟩ ?_
      refine q_aload_n rfl rfl ?_
      refine v_gr (t := 2) rfl rfl rfl (by decide) rfl ?_
      refine q_aload_n rfl rfl ?_
      refine v_gi (z := 2) (v := c2 1 2) rfl rfl rfl (by decide) rfl rfl rfl ?_
      have h_17 : -2147483648 ≤ (B (c2 1 2)) ∧ (B (c2 1 2)) ≤ 2147483647 := by rw [← hB (c2 1 2)]; exact ir_2 hI (c2 1 2)
      have kn_18 : Hid (c2 2 (c2 1 2) = (B (c2 1 2))) := (hF 2 (c2 1 2) (fun q => q.elim (fun h => absurd h.1 (nn rfl)) (fun q => q.elim (fun h => absurd h.1 (nn rfl)) (fun h => absurd h.1 (nn rfl))))).trans (hB (c2 1 2))
      refine v_ba (v := (B (c2 1 2))) rfl rfl (by decide) (by decide) (by omega) (hid kn_18) ?_
      refine v_bip rfl (by decide) ?_
      by_cases h_19 : (B (c2 1 2)) < 48
      · refine v_ic_lt_t (t := 109) rfl (by decide) ⟨by omega, h_19, by decide⟩ ?_
        refine q_iload_n rfl rfl ?_
        refine q_iload_n rfl rfl ?_
        by_cases h_20 : v3 ≤ a1
        · refine v_ic_le_t (t := 122) rfl (by decide) ⟨(Int.le_trans (by decide) hv3.1), h_20, (Int.le_trans ha1.2 (by decide))⟩ ?_
          refine q_iload_n rfl rfl ?_
          refine q_iret rfl rfl ?_
          have hz8 : dg B e1 (c2 1 2) v3 = (c2 1 2, v3) := dg_z (by omega)
          have hz9 : D8 = c2 1 2 := by rw [← hdD8, ← hx0, hz8]
          have hz10 : V8 = v3 := by rw [← hdV8, ← hx0, hz8]
          exact zv (by omega) (K3 c2 hI2 (fun a j hm => hF a j (fun q => q.elim (fun h => hm (Or.inl h)) (fun q => q.elim (fun h => hm (Or.inr (Or.inl h))) (fun h => hm (Or.inr (Or.inr h)))))) (by omega) (by omega) (by omega) (by omega) (by omega) (by omega))
        · refine v_ic_le_f (t := 122) rfl (by decide) ⟨(Int.le_trans (by decide) ha1.1), (Int.not_le.mp h_20), (Int.le_trans hv3.2 (by decide))⟩ ?_
          refine q_aload_n rfl rfl ?_
          refine q_iconst rfl ?_
          refine q_iload_n rfl rfl ?_
          refine v_cv rfl rfl rfl rfl (by decide) ⟨⟨rfl, rfl⟩, by decide, rfl⟩ (Nat.le_of_ble_eq_true rfl) (Nat.le_of_ble_eq_true rfl) ?_
          refine q_aload_n rfl rfl ?_
          refine v_gi (z := 4) (v := c2 1 4) rfl rfl rfl (by decide) rfl rfl rfl ?_
          refine v_if_ne_f (t := 17) rfl (by decide) (by omega) ?_
          refine q_aload_n rfl rfl ?_
          refine q_iload_n rfl rfl ?_
          refine v_pi (z := 4) rfl rfl rfl (by decide) rfl rfl rfl (by decide) ?_
          refine q_aload_n rfl rfl ?_
          refine q_iload_n rfl rfl ?_
          refine v_pi (z := 5) rfl rfl rfl (by decide) rfl rfl rfl (by decide) ?_
          refine q_vret rfl rfl ?_
          refine bk_inl ?_
          refine q_iconst rfl ?_
          refine q_iret rfl rfl ?_
          have hz8 : dg B e1 (c2 1 2) v3 = (c2 1 2, v3) := dg_z (by omega)
          have hz9 : D8 = c2 1 2 := by rw [← hdD8, ← hx0, hz8]
          have hz10 : V8 = v3 := by rw [← hdV8, ← hx0, hz8]
          have hI_21 := iw_1_4 (v := 2) hI2 ⟨by decide, by decide⟩
          have hI_22 := iw_1_5 (v := r8) hI_21 ⟨by omega, by omega⟩
          have h_23 : (up (up c2 1 4 2) 1 5 r8) 1 2 = c2 1 2 := ((up_n (by decide)).trans (up_n (by decide)))
          have h_24 : (up (up c2 1 4 2) 1 5 r8) 1 4 = 2 := ((up_n (by decide)).trans (up_e rfl))
          have h_25 : (up (up c2 1 4 2) 1 5 r8) 1 5 = r8 := (up_e rfl)
          exact zv (by omega) (K2 (up (up c2 1 4 2) 1 5 r8) hI_22 (fun a j hm => (up_b (Decidable.or_iff_not_imp_left.mpr (fun h1 h2 => hm (Or.inr (Or.inr ⟨Decidable.not_not.mp h1, h2⟩))))).trans ((up_b (Decidable.or_iff_not_imp_left.mpr (fun h1 h2 => hm (Or.inr (Or.inl ⟨Decidable.not_not.mp h1, h2⟩))))).trans (hF a j (fun q => q.elim (fun h => hm (Or.inl h)) (fun q => q.elim (fun h => hm (Or.inr (Or.inl h))) (fun h => hm (Or.inr (Or.inr h)))))))) (by omega) (by omega) (by omega) (by omega) (by omega) (by omega))
      · refine v_ic_lt_f (t := 109) rfl (by decide) ⟨by decide, (Int.not_lt.mp h_19), by omega⟩ ?_
        refine q_aload_n rfl rfl ?_
        refine v_gr (t := 2) rfl rfl rfl (by decide) rfl ?_
        refine q_aload_n rfl rfl ?_
        refine v_gi (z := 2) (v := c2 1 2) rfl rfl rfl (by decide) rfl rfl rfl ?_
        refine v_ba (v := (B (c2 1 2))) rfl rfl (by decide) (by decide) (by omega) (hid kn_18) ?_
        refine v_bip rfl (by decide) ?_
        by_cases h_26 : (B (c2 1 2)) > 57
        · refine v_ic_gt_t (t := 109) rfl (by decide) ⟨by decide, h_26, by omega⟩ ?_
          refine q_iload_n rfl rfl ?_
          refine q_iload_n rfl rfl ?_
          by_cases h_27 : v3 ≤ a1
          · refine v_ic_le_t (t := 122) rfl (by decide) ⟨(Int.le_trans (by decide) hv3.1), h_27, (Int.le_trans ha1.2 (by decide))⟩ ?_
            refine q_iload_n rfl rfl ?_
            refine q_iret rfl rfl ?_
            have hz8 : dg B e1 (c2 1 2) v3 = (c2 1 2, v3) := dg_z (by omega)
            have hz9 : D8 = c2 1 2 := by rw [← hdD8, ← hx0, hz8]
            have hz10 : V8 = v3 := by rw [← hdV8, ← hx0, hz8]
            exact zv (by omega) (K3 c2 hI2 (fun a j hm => hF a j (fun q => q.elim (fun h => hm (Or.inl h)) (fun q => q.elim (fun h => hm (Or.inr (Or.inl h))) (fun h => hm (Or.inr (Or.inr h)))))) (by omega) (by omega) (by omega) (by omega) (by omega) (by omega))
          · refine v_ic_le_f (t := 122) rfl (by decide) ⟨(Int.le_trans (by decide) ha1.1), (Int.not_le.mp h_27), (Int.le_trans hv3.2 (by decide))⟩ ?_
            refine q_aload_n rfl rfl ?_
            refine q_iconst rfl ?_
            refine q_iload_n rfl rfl ?_
            refine v_cv rfl rfl rfl rfl (by decide) ⟨⟨rfl, rfl⟩, by decide, rfl⟩ (Nat.le_of_ble_eq_true rfl) (Nat.le_of_ble_eq_true rfl) ?_
            refine q_aload_n rfl rfl ?_
            refine v_gi (z := 4) (v := c2 1 4) rfl rfl rfl (by decide) rfl rfl rfl ?_
            refine v_if_ne_f (t := 17) rfl (by decide) (by omega) ?_
            refine q_aload_n rfl rfl ?_
            refine q_iload_n rfl rfl ?_
            refine v_pi (z := 4) rfl rfl rfl (by decide) rfl rfl rfl (by decide) ?_
            refine q_aload_n rfl rfl ?_
            refine q_iload_n rfl rfl ?_
            refine v_pi (z := 5) rfl rfl rfl (by decide) rfl rfl rfl (by decide) ?_
            refine q_vret rfl rfl ?_
            refine bk_inl ?_
            refine q_iconst rfl ?_
            refine q_iret rfl rfl ?_
            have hz8 : dg B e1 (c2 1 2) v3 = (c2 1 2, v3) := dg_z (by omega)
            have hz9 : D8 = c2 1 2 := by rw [← hdD8, ← hx0, hz8]
            have hz10 : V8 = v3 := by rw [← hdV8, ← hx0, hz8]
            have hI_28 := iw_1_4 (v := 2) hI2 ⟨by decide, by decide⟩
            have hI_29 := iw_1_5 (v := r8) hI_28 ⟨by omega, by omega⟩
            have h_30 : (up (up c2 1 4 2) 1 5 r8) 1 2 = c2 1 2 := ((up_n (by decide)).trans (up_n (by decide)))
            have h_31 : (up (up c2 1 4 2) 1 5 r8) 1 4 = 2 := ((up_n (by decide)).trans (up_e rfl))
            have h_32 : (up (up c2 1 4 2) 1 5 r8) 1 5 = r8 := (up_e rfl)
            exact zv (by omega) (K2 (up (up c2 1 4 2) 1 5 r8) hI_29 (fun a j hm => (up_b (Decidable.or_iff_not_imp_left.mpr (fun h1 h2 => hm (Or.inr (Or.inr ⟨Decidable.not_not.mp h1, h2⟩))))).trans ((up_b (Decidable.or_iff_not_imp_left.mpr (fun h1 h2 => hm (Or.inr (Or.inl ⟨Decidable.not_not.mp h1, h2⟩))))).trans (hF a j (fun q => q.elim (fun h => hm (Or.inl h)) (fun q => q.elim (fun h => hm (Or.inr (Or.inl h))) (fun h => hm (Or.inr (Or.inr h)))))))) (by omega) (by omega) (by omega) (by omega) (by omega) (by omega))
        · refine v_ic_gt_f (t := 109) rfl (by decide) ⟨by omega, (Int.not_lt.mp h_26), by decide⟩ ?_
          refine q_iload_n rfl rfl ?_
          refine v_bip rfl (by decide) ?_
          refine v_imul (v := 10 * v3) rfl (by omega) ?_
          refine q_aload_n rfl rfl ?_
          refine v_gr (t := 2) rfl rfl rfl (by decide) rfl ?_
          refine q_aload_n rfl rfl ?_
          refine v_gi (z := 2) (v := c2 1 2) rfl rfl rfl (by decide) rfl rfl rfl ?_
          refine v_ba (v := (B (c2 1 2))) rfl rfl (by decide) (by decide) (by omega) (hid kn_18) ?_
          refine v_iadd (v := (B (c2 1 2)) + 10 * v3) rfl (by omega) ?_
          refine v_bip rfl (by decide) ?_
          refine v_isub (v := (B (c2 1 2)) + 10 * v3 - 48) rfl rfl ?_
          refine v_ldc (n := 99999) rfl rfl (by decide +kernel) ?_
          refine v_minx rfl rfl (by omega) (Nat.le_of_ble_eq_true rfl) ⟨by omega, by omega, by omega, by omega⟩ (fun y_33 hy_33 => ?_)
          refine q_istore_n rfl (by decide) ?_
          refine q_aload_n rfl rfl ?_
          refine q_dup rfl rfl ?_
          refine v_gi (z := 2) (v := c2 1 2) rfl rfl rfl (by decide) rfl rfl rfl ?_
          refine q_iconst rfl ?_
          refine v_iadd (v := c2 1 2 + 1) rfl rfl ?_
          refine v_pi (z := 2) rfl rfl rfl (by decide) rfl rfl rfl (by decide) ?_
          refine q_goto (t := 34) rfl (by decide) ?_
          have hI_34 := iw_1_2 (v := c2 1 2 + 1) hI2 ⟨by first | exact rgp_l h_8.1 (by decide) | omega, by omega⟩
          refine Wp_ls [(0, .ref 1), (1, vi a1), (2, vi r8), (3, vi y_33)] (lsub_cons rfl (lsub_cons rfl (lsub_cons rfl (lsub_cons rfl lsub_nil)))) ?_
          have hc9 := cp_or (10 * v3 + (B (c2 1 2)) - 48)
          have hc8 : y_33 = cp (10 * v3 + (B (c2 1 2)) - 48) := by omega
          have h_35 : (up c2 1 2 (c2 1 2 + 1)) 1 4 = c2 1 4 := (up_n (by decide))
          have h_36 : (up c2 1 2 (c2 1 2 + 1)) 1 5 = c2 1 5 := (up_n (by decide))
          have h_37 : (up c2 1 2 (c2 1 2 + 1)) 1 2 = c2 1 2 + 1 := (up_e rfl)
          exact ih (up c2 1 2 (c2 1 2 + 1)) y_33 hI_34 (fun a j hm => (up_b (Decidable.or_iff_not_imp_left.mpr (fun h1 h2 => hm (Or.inl ⟨Decidable.not_not.mp h1, h2⟩)))).trans (hF a j (fun q => q.elim (fun h => hm (Or.inl h)) (fun q => q.elim (fun h => hm (Or.inr (Or.inl h))) (fun h => hm (Or.inr (Or.inr h))))))) ⟨by omega, by omega⟩ (by rw [show (up c2 1 2 (c2 1 2 + 1)) 1 2 = c2 1 2 + 1 from (up_e rfl), hc8]; exact (dg_s (by omega)).symm.trans hx0) (by omega) (by omega) (by omega) (by omega) (by omega) (by omega)
set_option maxRecDepth 100000 in
set_option maxHeartbeats 4000000 in
theorem f_8 {sc : List Int32} {e : Int} {d u P Q : Nat} {c : ME} {e1 a9 f9 p9 r8 D8 V8 a1 : Int} {B : Int → Int} {Z : AR → Prop} (hI : Iv u e P Q c) (ha1 : (-1) ≤ a1 ∧ a1 ≤ 9999) (hv0 : c 1 1 = e1) (hv1 : c 1 2 = a9) (hv2 : c 1 4 = f9) (hv3 : c 1 5 = p9) (hB : ∀ j : Int, c 2 j = B j) (hdr8 : nx B e1 a9 = r8) (hdD8 : (dg B e1 r8 0).1 = D8) (hdV8 : (dg B e1 r8 0).2 = V8) (K0 : ∀ c2 : ME, Iv u e P Q c2 → (∀ (a : Nat) (j : Int), ¬ ((a = 1 ∧ j = 2) ∨ (a = 1 ∧ j = 4) ∨ (a = 1 ∧ j = 5)) → c2 a j = c a j) → ((f9 ≠ 0)) → (c2 1 2 = a9) → (c2 1 4 = f9) → (c2 1 5 = p9) → Z (.inl (some (vi 0)), Wd P Q P P c2, 0, 0)) (K1 : ∀ c2 : ME, Iv u e P Q c2 → (∀ (a : Nat) (j : Int), ¬ ((a = 1 ∧ j = 2) ∨ (a = 1 ∧ j = 4) ∨ (a = 1 ∧ j = 5)) → c2 a j = c a j) → ((f9 = 0)) → ((r8 ≥ e1) ∨ ((B r8) < 48) ∨ ((B r8) > 57)) → (c2 1 2 = r8) → (c2 1 4 = 1) → (c2 1 5 = r8) → Z (.inl (some (vi 0)), Wd P Q P P c2, 0, 0)) (K2 : ∀ c2 : ME, Iv u e P Q c2 → (∀ (a : Nat) (j : Int), ¬ ((a = 1 ∧ j = 2) ∨ (a = 1 ∧ j = 4) ∨ (a = 1 ∧ j = 5)) → c2 a j = c a j) → ((f9 = 0)) → ((r8 < e1 ∧ (B r8) ≥ 48 ∧ (B r8) ≤ 57)) → ((V8 > a1)) → (c2 1 2 = D8) → (c2 1 4 = 2) → (c2 1 5 = r8) → Z (.inl (some (vi 0)), Wd P Q P P c2, 0, 0)) (K3 : ∀ c2 : ME, Iv u e P Q c2 → (∀ (a : Nat) (j : Int), ¬ ((a = 1 ∧ j = 2) ∨ (a = 1 ∧ j = 4) ∨ (a = 1 ∧ j = 5)) → c2 a j = c a j) → ((f9 = 0)) → ((r8 < e1 ∧ (B r8) ≥ 48 ∧ (B r8) ≤ 57)) → ((V8 ≤ a1)) → (c2 1 2 = D8) → (c2 1 4 = 0) → (c2 1 5 = p9) → Z (.inl (some (vi V8)), Wd P Q P P c2, 0, 0)) : Wp sc (d + 12) 8 0 [(0, .ref 1), (1, vi a1)] [] (Wd P Q P P c) 0 0 Z := by
  have hP := iv_P hI
  have hQ := iv_Q hI
  have h_38 := ir_1_1 hI
  have h_39 := ir_1_2 hI
  have h_40 := ir_1_4 hI
  have h_41 := ir_1_5 hI
  have hn1 := nx_bd (b := B) (e := e1) (a := a9)
  rw [hdr8] at hn1
  have hn2 := dg_bd (b := B) (e := e1) (a := r8) (v := 0) (by decide)
  rw [hdD8, hdV8] at hn2
  have hn3 := nx_n (b := B) (e := e1) (a := a9)
  rw [hdr8] at hn3
  have h_42 : -2147483648 ≤ (B r8) ∧ (B r8) ≤ 2147483647 := by rw [← hB r8]; exact ir_2 hI r8
  refine q_aload_n rfl rfl ?_
  refine v_cv rfl rfl rfl rfl (by decide) ⟨⟨rfl, rfl⟩, by decide, rfl⟩ (Nat.le_of_ble_eq_true rfl) (Nat.le_of_ble_eq_true rfl) ?_
  refine q_aload_n rfl rfl ?_
  refine v_gi (z := 4) (v := f9) rfl rfl rfl (by decide) rfl rfl (hv2) ?_
  by_cases h_43 : f9 ≠ 0
  · refine v_if_ne_t (t := 11) rfl (by decide) ⟨h_43, ⟨by omega, by omega⟩, by decide, by decide⟩ ?_
    refine q_iconst rfl ?_
    refine v_zret rfl rfl (by decide) ?_
    refine bk_inl ?_
    refine v_if_ne_f (t := 9) rfl (by decide) (by decide) ?_
    refine q_iconst rfl ?_
    refine q_iret rfl rfl ?_
    have h_44 : c 1 2 = a9 := (hv1)
    have h_45 : c 1 4 = f9 := (hv2)
    have h_46 : c 1 5 = p9 := (hv3)
    exact zv (by omega) (K0 c hI (fun a j hm => rfl) (by omega) (by omega) (by omega) (by omega))
  · refine v_if_ne_f (t := 11) rfl (by decide) (Decidable.not_not.mp h_43) ?_
    refine q_iconst rfl ?_
    refine q_goto (t := 12) rfl (by decide) ?_
    refine v_zret rfl rfl (by decide) ?_
    refine bk_inl ?_
    refine v_if_ne_t (t := 9) rfl (by decide) (by decide) ?_
    refine q_aload_n rfl rfl ?_
    refine v_cv rfl rfl rfl rfl (by decide) ⟨⟨rfl, rfl⟩, by decide, rfl⟩ (Nat.le_of_ble_eq_true rfl) (Nat.le_of_ble_eq_true rfl) ?_
    refine q_aload_n rfl rfl ?_
    have h_47 : -2147483648 ≤ (B a9) ∧ (B a9) ≤ 2147483647 := by rw [← hB a9]; exact ir_2 hI a9
    refine v_cv rfl rfl rfl rfl (by decide) ⟨⟨rfl, rfl⟩, by decide, rfl⟩ (Nat.le_of_ble_eq_true rfl) (Nat.le_of_ble_eq_true rfl) (f_3 (e1 := e1) (a9 := a9) (B := B) (r8 := r8) hI ((hv0)) ((hv1)) (fun j => hB j) hdr8 (fun c_48 hI_49 hF_50 hz_51 => ?_))
    refine bk_inl ?_
    refine q_istore_n rfl (by decide) ?_
    refine q_iload_n rfl rfl ?_
    refine q_aload_n rfl rfl ?_
    have kn_52 : Hid (c_48 1 1 = e1) := (hF_50 1 1 (fun h => absurd h.2 (ni rfl))).trans (hv0)
    refine v_gi (z := 1) (v := e1) rfl rfl rfl (by decide) rfl rfl (hid kn_52) ?_
    by_cases h_53 : r8 ≥ e1
    · refine v_ic_ge_t (t := 39) rfl (by decide) ⟨by omega, h_53, by omega⟩ ?_
      refine q_iconst rfl ?_
      refine v_zret rfl rfl (by decide) ?_
      refine bk_inl ?_
      refine v_if_ne_f (t := 27) rfl (by decide) (by decide) ?_
      refine q_aload_n rfl rfl ?_
      refine q_iconst rfl ?_
      refine q_aload_n rfl rfl ?_
      refine v_gi (z := 2) (v := r8) rfl rfl rfl (by decide) rfl rfl (hz_51) ?_
      refine v_cv rfl rfl rfl rfl (by decide) ⟨⟨rfl, rfl⟩, by decide, rfl⟩ (Nat.le_of_ble_eq_true rfl) (Nat.le_of_ble_eq_true rfl) ?_
      refine q_aload_n rfl rfl ?_
      have kn_54 : Hid (c_48 1 4 = f9) := (hF_50 1 4 (fun h => absurd h.2 (ni rfl))).trans (hv2)
      refine v_gi (z := 4) (v := f9) rfl rfl rfl (by decide) rfl rfl (hid kn_54) ?_
      refine v_if_ne_f (t := 17) rfl (by decide) (by omega) ?_
      refine q_aload_n rfl rfl ?_
      refine q_iload_n rfl rfl ?_
      refine v_pi (z := 4) rfl rfl rfl (by decide) rfl rfl rfl (by decide) ?_
      refine q_aload_n rfl rfl ?_
      refine q_iload_n rfl rfl ?_
      refine v_pi (z := 5) rfl rfl rfl (by decide) rfl rfl rfl (by decide) ?_
      refine q_vret rfl rfl ?_
      refine bk_inl ?_
      refine q_iconst rfl ?_
      refine q_iret rfl rfl ?_
      have hI_55 := iw_1_4 (v := 1) hI_49 ⟨by decide, by decide⟩
      have hI_56 := iw_1_5 (v := r8) hI_55 ⟨by omega, by omega⟩
      have h_57 : (up (up c_48 1 4 1) 1 5 r8) 1 2 = r8 := ((up_n (by decide)).trans ((up_n (by decide)).trans (hz_51)))
      have h_58 : (up (up c_48 1 4 1) 1 5 r8) 1 4 = 1 := ((up_n (by decide)).trans (up_e rfl))
      have h_59 : (up (up c_48 1 4 1) 1 5 r8) 1 5 = r8 := (up_e rfl)
      exact zv (by omega) (K1 (up (up c_48 1 4 1) 1 5 r8) hI_56 (fun a j hm => (up_b (Decidable.or_iff_not_imp_left.mpr (fun h1 h2 => hm (Or.inr (Or.inr ⟨Decidable.not_not.mp h1, h2⟩))))).trans ((up_b (Decidable.or_iff_not_imp_left.mpr (fun h1 h2 => hm (Or.inr (Or.inl ⟨Decidable.not_not.mp h1, h2⟩))))).trans (hF_50 a j (fun h => hm (Or.inl h))))) (by omega) (by omega) (by omega) (by omega) (by omega))
    · refine v_ic_ge_f (t := 39) rfl (by decide) ⟨by omega, (Int.not_le.mp h_53), by omega⟩ ?_
      refine q_aload_n rfl rfl ?_
      refine v_gr (t := 2) rfl rfl rfl (by decide) rfl ?_
      refine q_iload_n rfl rfl ?_
      have kn_60 : Hid (c_48 2 r8 = (B r8)) := (hF_50 2 r8 (fun h => absurd h.1 (nn rfl))).trans (hB r8)
      refine v_ba (v := (B r8)) rfl rfl (by decide) (by decide) (by omega) (hid kn_60) ?_
      refine v_bip rfl (by decide) ?_
      by_cases h_61 : (B r8) < 48
      · refine v_ic_lt_t (t := 39) rfl (by decide) ⟨h_42.1, h_61, by decide⟩ ?_
        refine q_iconst rfl ?_
        refine v_zret rfl rfl (by decide) ?_
        refine bk_inl ?_
        refine v_if_ne_f (t := 27) rfl (by decide) (by decide) ?_
        refine q_aload_n rfl rfl ?_
        refine q_iconst rfl ?_
        refine q_aload_n rfl rfl ?_
        refine v_gi (z := 2) (v := r8) rfl rfl rfl (by decide) rfl rfl (hz_51) ?_
        refine v_cv rfl rfl rfl rfl (by decide) ⟨⟨rfl, rfl⟩, by decide, rfl⟩ (Nat.le_of_ble_eq_true rfl) (Nat.le_of_ble_eq_true rfl) ?_
        refine q_aload_n rfl rfl ?_
        have kn_62 : Hid (c_48 1 4 = f9) := (hF_50 1 4 (fun h => absurd h.2 (ni rfl))).trans (hv2)
        refine v_gi (z := 4) (v := f9) rfl rfl rfl (by decide) rfl rfl (hid kn_62) ?_
        refine v_if_ne_f (t := 17) rfl (by decide) (by omega) ?_
        refine q_aload_n rfl rfl ?_
        refine q_iload_n rfl rfl ?_
        refine v_pi (z := 4) rfl rfl rfl (by decide) rfl rfl rfl (by decide) ?_
        refine q_aload_n rfl rfl ?_
        refine q_iload_n rfl rfl ?_
        refine v_pi (z := 5) rfl rfl rfl (by decide) rfl rfl rfl (by decide) ?_
        refine q_vret rfl rfl ?_
        refine bk_inl ?_
        refine q_iconst rfl ?_
        refine q_iret rfl rfl ?_
        have hI_63 := iw_1_4 (v := 1) hI_49 ⟨by decide, by decide⟩
        have hI_64 := iw_1_5 (v := r8) hI_63 ⟨by omega, by omega⟩
        have h_65 : (up (up c_48 1 4 1) 1 5 r8) 1 2 = r8 := ((up_n (by decide)).trans ((up_n (by decide)).trans (hz_51)))
        have h_66 : (up (up c_48 1 4 1) 1 5 r8) 1 4 = 1 := ((up_n (by decide)).trans (up_e rfl))
        have h_67 : (up (up c_48 1 4 1) 1 5 r8) 1 5 = r8 := (up_e rfl)
        exact zv (by omega) (K1 (up (up c_48 1 4 1) 1 5 r8) hI_64 (fun a j hm => (up_b (Decidable.or_iff_not_imp_left.mpr (fun h1 h2 => hm (Or.inr (Or.inr ⟨Decidable.not_not.mp h1, h2⟩))))).trans ((up_b (Decidable.or_iff_not_imp_left.mpr (fun h1 h2 => hm (Or.inr (Or.inl ⟨Decidable.not_not.mp h1, h2⟩))))).trans (hF_50 a j (fun h => hm (Or.inl h))))) (by omega) (by omega) (by omega) (by omega) (by omega))
      · refine v_ic_lt_f (t := 39) rfl (by decide) ⟨by decide, (Int.not_lt.mp h_61), h_42.2⟩ ?_
        refine q_aload_n rfl rfl ?_
        refine v_gr (t := 2) rfl rfl rfl (by decide) rfl ?_
        refine q_iload_n rfl rfl ?_
        refine v_ba (v := (B r8)) rfl rfl (by decide) (by decide) (by omega) (hid kn_60) ?_
        refine v_bip rfl (by decide) ?_
        by_cases h_68 : (B r8) > 57
        · refine v_ic_gt_t (t := 39) rfl (by decide) ⟨by decide, h_68, h_42.2⟩ ?_
          refine q_iconst rfl ?_
          refine v_zret rfl rfl (by decide) ?_
          refine bk_inl ?_
          refine v_if_ne_f (t := 27) rfl (by decide) (by decide) ?_
          refine q_aload_n rfl rfl ?_
          refine q_iconst rfl ?_
          refine q_aload_n rfl rfl ?_
          refine v_gi (z := 2) (v := r8) rfl rfl rfl (by decide) rfl rfl (hz_51) ?_
          refine v_cv rfl rfl rfl rfl (by decide) ⟨⟨rfl, rfl⟩, by decide, rfl⟩ (Nat.le_of_ble_eq_true rfl) (Nat.le_of_ble_eq_true rfl) ?_
          refine q_aload_n rfl rfl ?_
          have kn_69 : Hid (c_48 1 4 = f9) := (hF_50 1 4 (fun h => absurd h.2 (ni rfl))).trans (hv2)
          refine v_gi (z := 4) (v := f9) rfl rfl rfl (by decide) rfl rfl (hid kn_69) ?_
          refine v_if_ne_f (t := 17) rfl (by decide) (by omega) ?_
          refine q_aload_n rfl rfl ?_
          refine q_iload_n rfl rfl ?_
          refine v_pi (z := 4) rfl rfl rfl (by decide) rfl rfl rfl (by decide) ?_
          refine q_aload_n rfl rfl ?_
          refine q_iload_n rfl rfl ?_
          refine v_pi (z := 5) rfl rfl rfl (by decide) rfl rfl rfl (by decide) ?_
          refine q_vret rfl rfl ?_
          refine bk_inl ?_
          refine q_iconst rfl ?_
          refine q_iret rfl rfl ?_
          have hI_70 := iw_1_4 (v := 1) hI_49 ⟨by decide, by decide⟩
          have hI_71 := iw_1_5 (v := r8) hI_70 ⟨by omega, by omega⟩
          have h_72 : (up (up c_48 1 4 1) 1 5 r8) 1 2 = r8 := ((up_n (by decide)).trans ((up_n (by decide)).trans (hz_51)))
          have h_73 : (up (up c_48 1 4 1) 1 5 r8) 1 4 = 1 := ((up_n (by decide)).trans (up_e rfl))
          have h_74 : (up (up c_48 1 4 1) 1 5 r8) 1 5 = r8 := (up_e rfl)
          exact zv (by omega) (K1 (up (up c_48 1 4 1) 1 5 r8) hI_71 (fun a j hm => (up_b (Decidable.or_iff_not_imp_left.mpr (fun h1 h2 => hm (Or.inr (Or.inr ⟨Decidable.not_not.mp h1, h2⟩))))).trans ((up_b (Decidable.or_iff_not_imp_left.mpr (fun h1 h2 => hm (Or.inr (Or.inl ⟨Decidable.not_not.mp h1, h2⟩))))).trans (hF_50 a j (fun h => hm (Or.inl h))))) (by omega) (by omega) (by omega) (by omega) (by omega))
        · refine v_ic_gt_f (t := 39) rfl (by decide) ⟨h_42.1, (Int.not_lt.mp h_68), by decide⟩ ?_
          refine q_iconst rfl ?_
          refine q_goto (t := 40) rfl (by decide) ?_
          refine v_zret rfl rfl (by decide) ?_
          refine bk_inl ?_
          refine v_if_ne_t (t := 27) rfl (by decide) (by decide) ?_
          refine q_aload_n rfl rfl ?_
          refine v_gi (z := 2) (v := r8) rfl rfl rfl (by decide) rfl rfl (hz_51) ?_
          refine q_istore_n rfl (by decide) ?_
          refine q_iconst rfl ?_
          refine q_istore_n rfl (by decide) ?_
          refine Wp_ls [(0, .ref 1), (1, vi a1), (2, vi r8), (3, vi 0)] (lsub_cons rfl (lsub_cons rfl (lsub_cons rfl (lsub_cons rfl lsub_nil)))) ?_
          have kn_75 : Hid (c_48 1 4 = f9) := (hF_50 1 4 (fun h => absurd h.2 (ni rfl))).trans (hv2)
          have h_76 : c_48 1 4 = f9 := (hid kn_75)
          have kn_77 : Hid (c_48 1 5 = p9) := (hF_50 1 5 (fun h => absurd h.2 (ni rfl))).trans (hv3)
          have h_78 : c_48 1 5 = p9 := (hid kn_77)
          have h_79 : c_48 1 2 = r8 := (hz_51)
          exact (f_8_l (sc := sc) (d := d) hI ha1 hv0 hv1 hv2 hv3 hB hdr8 hdD8 hdV8 K0 K1 K2 K3 601) c_48 0 hI_49 (fun a j hm => hF_50 a j (fun h => hm (Or.inl h))) ⟨by omega, by omega⟩ (by rw [show c_48 1 2 = r8 from (hz_51)]) (by omega) (by omega) (by omega) (by omega) (by omega) (by omega)

set_option maxRecDepth 100000 in
set_option maxHeartbeats 4000000 in
theorem f_160_l {sc : List Int32} {e : Int} {d u P Q : Nat} {c : ME} {e1 a9 f9 k9 r8 D8 V8 a1 a2 : Int} {B : Int → Int} {Z : AR → Prop} (hI : Iv u e P Q c) (ha1 : 0 ≤ a1 ∧ a1 ≤ 1) (ha2 : (-1) ≤ a2 ∧ a2 ≤ 9999) (hv0 : c 41 3 = e1) (hv1 : c 41 4 = a9) (hv2 : c 41 5 = f9) (hv3 : c 41 6 = k9) (hB : ∀ j : Int, c 43 j = B j) (hdr8 : nx B e1 a9 = r8) (hdD8 : (dg B e1 r8 0).1 = D8) (hdV8 : (dg B e1 r8 0).2 = V8) (K0 : ∀ c2 : ME, Iv u e P Q c2 → (∀ (a : Nat) (j : Int), ¬ ((a = 41 ∧ j = 4) ∨ (a = 41 ∧ j = 5) ∨ (a = 41 ∧ j = 6)) → c2 a j = c a j) → ((f9 ≠ (-1))) → (c2 41 4 = a9) → (c2 41 5 = f9) → (c2 41 6 = k9) → Z (.inl (some (vi 0)), Wd P Q P P c2, 0, 0)) (K1 : ∀ c2 : ME, Iv u e P Q c2 → (∀ (a : Nat) (j : Int), ¬ ((a = 41 ∧ j = 4) ∨ (a = 41 ∧ j = 5) ∨ (a = 41 ∧ j = 6)) → c2 a j = c a j) → ((f9 = (-1))) → ((r8 ≥ e1) ∨ ((B r8) < 48) ∨ ((B r8) > 57)) → (c2 41 4 = r8) → (c2 41 5 = r8) → (c2 41 6 = 1) → Z (.inl (some (vi 0)), Wd P Q P P c2, 0, 0)) (K2 : ∀ c2 : ME, Iv u e P Q c2 → (∀ (a : Nat) (j : Int), ¬ ((a = 41 ∧ j = 4) ∨ (a = 41 ∧ j = 5) ∨ (a = 41 ∧ j = 6)) → c2 a j = c a j) → ((f9 = (-1))) → ((r8 < e1 ∧ (B r8) ≥ 48 ∧ (B r8) ≤ 57)) → ((V8 < a1) ∨ (V8 > a2)) → (c2 41 4 = D8) → (c2 41 5 = r8) → (c2 41 6 = 2) → Z (.inl (some (vi 0)), Wd P Q P P c2, 0, 0)) (K3 : ∀ c2 : ME, Iv u e P Q c2 → (∀ (a : Nat) (j : Int), ¬ ((a = 41 ∧ j = 4) ∨ (a = 41 ∧ j = 5) ∨ (a = 41 ∧ j = 6)) → c2 a j = c a j) → ((f9 = (-1))) → ((r8 < e1 ∧ (B r8) ≥ 48 ∧ (B r8) ≤ 57)) → ((V8 ≥ a1)) → ((V8 ≤ a2)) → (c2 41 4 = D8) → (c2 41 5 = (-1)) → (c2 41 6 = k9) → Z (.inl (some (vi V8)), Wd P Q P P c2, 0, 0)) : ∀ n : Nat, (∀ (c2 : ME) (v5 : Int) (u4 : Int), Iv u e P Q c2 → (∀ (a : Nat) (j : Int), ¬ ((a = 41 ∧ j = 4) ∨ (a = 41 ∧ j = 5) ∨ (a = 41 ∧ j = 6)) → c2 a j = c a j) → 0 ≤ v5 ∧ v5 ≤ 99999 → 0 ≤ u4 ∧ u4 ≤ 99999 → (dg B e1 (c2 41 4) u4 = dg B e1 r8 0) → ((v5 = u4) ∨ (v5 ≥ 10000 ∧ u4 ≥ 10000)) → ((c2 41 5 = (-1))) → ((c2 41 6 = k9)) → ((f9 = (-1))) → ((c2 41 4 ≥ r8)) → ((r8 < e1 ∧ (B r8) ≥ 48 ∧ (B r8) ≤ 57)) → 605 - c2 41 4 < (n : Int) → Wp sc (d + 12) 160 41 [(0, .ref 41), (1, vi a1), (2, vi a2), (4, vi r8), (5, vi v5)] [] (Wd P Q P P c2) 0 0 Z)
  | 0 => by intro c2 v5 u4 hI2 hF hv5 hu4 hx0 hx1 hx2 hx3 hx4 hx5 hx6 hm9; have hP := iv_P hI; have hQ := iv_Q hI; have h_1 := ir_41_3 hI; have h_2 := ir_41_4 hI; have h_3 := ir_41_5 hI; have h_4 := ir_41_6 hI; have h_5 : -2147483648 ≤ (B r8) ∧ (B r8) ≤ 2147483647 := (by rw [← hB r8]; exact ir_43 hI r8); have h_6 := ir_41_5 hI2; have h_7 := ir_41_6 hI2; have h_8 := ir_41_4 hI2; exfalso; omega
  | n + 1 => by
    have hP := iv_P hI
    have hQ := iv_Q hI
    have ih := f_160_l (sc := sc) (d := d) hI ha1 ha2 hv0 hv1 hv2 hv3 hB hdr8 hdD8 hdV8 K0 K1 K2 K3 n
    intro c2 v5 u4 hI2 hF hv5 hu4 hx0 hx1 hx2 hx3 hx4 hx5 hx6 hm9
    have h_1 := ir_41_3 hI
    have h_2 := ir_41_4 hI
    have h_3 := ir_41_5 hI
    have h_4 := ir_41_6 hI
    have hn1 := nx_bd (b := B) (e := e1) (a := a9)
    rw [hdr8] at hn1
    have hn2 := dg_bd (b := B) (e := e1) (a := r8) (v := 0) (by decide)
    rw [hdD8, hdV8] at hn2
    have hn3 := nx_n (b := B) (e := e1) (a := a9)
    rw [hdr8] at hn3
    have h_5 : -2147483648 ≤ (B r8) ∧ (B r8) ≤ 2147483647 := by rw [← hB r8]; exact ir_43 hI r8
    have h_6 := ir_41_5 hI2
    have h_7 := ir_41_6 hI2
    have h_8 := ir_41_4 hI2
    refine q_aload_n rfl rfl ?_
    refine v_gi (z := 4) (v := c2 41 4) rfl rfl rfl (by decide) rfl rfl rfl ?_
    refine q_aload_n rfl rfl ?_
    have kn_9 : Hid (c2 41 3 = e1) := (hF 41 3 (fun q => q.elim (fun h => absurd h.2 (ni rfl)) (fun q => q.elim (fun h => absurd h.2 (ni rfl)) (fun h => absurd h.2 (ni rfl))))).trans (hv0)
    refine v_gi (z := 3) (v := e1) rfl rfl rfl (by decide) rfl rfl (hid kn_9) ?_
    by_cases h_10 : c2 41 4 ≥ e1
    · refine v_ic_ge_t (t := 114) rfl (by decide) ⟨by omega, h_10, (Int.le_trans h_8.2 (by decide))⟩ ?_
      refine q_iload rfl rfl ?_
      refine q_iload_n rfl rfl ?_
      by_cases h_11 : v5 < a1
      · refine v_ic_lt_t (t := 126) rfl (by decide) ⟨(Int.le_trans (by decide) hv5.1), h_11, (Int.le_trans ha1.2 (by decide))⟩ ?_
        refine q_aload_n rfl rfl ?_
        refine q_iconst rfl ?_
        refine q_iload rfl rfl ?_
        refine v_cv rfl rfl rfl rfl (by decide) ⟨⟨rfl, rfl⟩, by decide, rfl⟩ (Nat.le_of_ble_eq_true rfl) (Nat.le_of_ble_eq_true rfl) ?_
        refine q_aload_n rfl rfl ?_
        refine v_gi (z := 5) (v := c2 41 5) rfl rfl rfl (by decide) rfl rfl rfl ?_
        refine q_iconst rfl ?_
        refine v_ic_eq_t (t := 9) rfl (by decide) (by omega) ?_
        refine q_aload_n rfl rfl ?_
        refine q_iload_n rfl rfl ?_
        refine v_pi (z := 5) rfl rfl rfl (by decide) rfl rfl rfl (by decide) ?_
        refine q_aload_n rfl rfl ?_
        refine q_iload_n rfl rfl ?_
        refine v_pi (z := 6) rfl rfl rfl (by decide) rfl rfl rfl (by decide) ?_
        refine q_vret rfl rfl ?_
        refine bk_inl ?_
        refine q_iconst rfl ?_
        refine q_iret rfl rfl ?_
        have hz8 : dg B e1 (c2 41 4) u4 = (c2 41 4, u4) := dg_z (by omega)
        have hz9 : D8 = c2 41 4 := by rw [← hdD8, ← hx0, hz8]
        have hz10 : V8 = u4 := by rw [← hdV8, ← hx0, hz8]
        have hI_12 := iw_41_5 (v := r8) hI2 ⟨by omega, by omega⟩
        have hI_13 := iw_41_6 (v := 2) hI_12 ⟨by decide, by decide⟩
        have h_14 : (up (up c2 41 5 r8) 41 6 2) 41 4 = c2 41 4 := ((up_n (by decide)).trans (up_n (by decide)))
        have h_15 : (up (up c2 41 5 r8) 41 6 2) 41 5 = r8 := ((up_n (by decide)).trans (up_e rfl))
        have h_16 : (up (up c2 41 5 r8) 41 6 2) 41 6 = 2 := (up_e rfl)
        exact zv (by omega) (K2 (up (up c2 41 5 r8) 41 6 2) hI_13 (fun a j hm => (up_b (Decidable.or_iff_not_imp_left.mpr (fun h1 h2 => hm (Or.inr (Or.inr ⟨Decidable.not_not.mp h1, h2⟩))))).trans ((up_b (Decidable.or_iff_not_imp_left.mpr (fun h1 h2 => hm (Or.inr (Or.inl ⟨Decidable.not_not.mp h1, h2⟩))))).trans (hF a j (fun q => q.elim (fun h => hm (Or.inl h)) (fun q => q.elim (fun h => hm (Or.inr (Or.inl h))) (fun h => hm (Or.inr (Or.inr h)))))))) (by omega) (by omega) (by omega) (by omega) (by omega) (by omega))
      · refine v_ic_lt_f (t := 126) rfl (by decide) ⟨(Int.le_trans (by decide) ha1.1), (Int.not_lt.mp h_11), (Int.le_trans hv5.2 (by decide))⟩ ?_
        refine q_iload rfl rfl ?_
        refine q_iload_n rfl rfl ?_
        by_cases h_17 : v5 ≤ a2
        · refine v_ic_le_t (t := 135) rfl (by decide) ⟨(Int.le_trans (by decide) hv5.1), h_17, (Int.le_trans ha2.2 (by decide))⟩ ?_
          refine q_iload rfl rfl ?_
          refine q_iret rfl rfl ?_
          have hz8 : dg B e1 (c2 41 4) u4 = (c2 41 4, u4) := dg_z (by omega)
          have hz9 : D8 = c2 41 4 := by rw [← hdD8, ← hx0, hz8]
          have hz10 : V8 = u4 := by rw [← hdV8, ← hx0, hz8]
          exact zv (by omega) (K3 c2 hI2 (fun a j hm => hF a j (fun q => q.elim (fun h => hm (Or.inl h)) (fun q => q.elim (fun h => hm (Or.inr (Or.inl h))) (fun h => hm (Or.inr (Or.inr h)))))) (by omega) (by omega) (by omega) (by omega) (by omega) (by omega) (by omega))
        · refine v_ic_le_f (t := 135) rfl (by decide) ⟨(Int.le_trans (by decide) ha2.1), (Int.not_le.mp h_17), (Int.le_trans hv5.2 (by decide))⟩ ?_
          refine q_aload_n rfl rfl ?_
          refine q_iconst rfl ?_
          refine q_iload rfl rfl ?_
          refine v_cv rfl rfl rfl rfl (by decide) ⟨⟨rfl, rfl⟩, by decide, rfl⟩ (Nat.le_of_ble_eq_true rfl) (Nat.le_of_ble_eq_true rfl) ?_
          refine q_aload_n rfl rfl ?_
          refine v_gi (z := 5) (v := c2 41 5) rfl rfl rfl (by decide) rfl rfl rfl ?_
          refine q_iconst rfl ?_
          refine v_ic_eq_t (t := 9) rfl (by decide) (by omega) ?_
          refine q_aload_n rfl rfl ?_
          refine q_iload_n rfl rfl ?_
          refine v_pi (z := 5) rfl rfl rfl (by decide) rfl rfl rfl (by decide) ?_
          refine q_aload_n rfl rfl ?_
          refine q_iload_n rfl rfl ?_
          refine v_pi (z := 6) rfl rfl rfl (by decide) rfl rfl rfl (by decide) ?_
          refine q_vret rfl rfl ?_
          refine bk_inl ?_
          refine q_iconst rfl ?_
          refine q_iret rfl rfl ?_
          have hz8 : dg B e1 (c2 41 4) u4 = (c2 41 4, u4) := dg_z (by omega)
          have hz9 : D8 = c2 41 4 := by rw [← hdD8, ← hx0, hz8]
          have hz10 : V8 = u4 := by rw [← hdV8, ← hx0, hz8]
          have hI_18 := iw_41_5 (v := r8) hI2 ⟨by omega, by omega⟩
          have hI_19 := iw_41_6 (v := 2) hI_18 ⟨by decide, by decide⟩
          have h_20 : (up (up c2 41 5 r8) 41 6 2) 41 4 = c2 41 4 := ((up_n (by decide)).trans (up_n (by decide)))
          have h_21 : (up (up c2 41 5 r8) 41 6 2) 41 5 = r8 := ((up_n (by decide)).trans (up_e rfl))
          have h_22 : (up (up c2 41 5 r8) 41 6 2) 41 6 = 2 := (up_e rfl)
          exact zv (by omega) (K2 (up (up c2 41 5 r8) 41 6 2) hI_19 (fun a j hm => (up_b (Decidable.or_iff_not_imp_left.mpr (fun h1 h2 => hm (Or.inr (Or.inr ⟨Decidable.not_not.mp h1, h2⟩))))).trans ((up_b (Decidable.or_iff_not_imp_left.mpr (fun h1 h2 => hm (Or.inr (Or.inl ⟨Decidable.not_not.mp h1, h2⟩))))).trans (hF a j (fun q => q.elim (fun h => hm (Or.inl h)) (fun q => q.elim (fun h => hm (Or.inr (Or.inl h))) (fun h => hm (Or.inr (Or.inr h)))))))) (by omega) (by omega) (by omega) (by omega) (by omega) (by omega))
    · refine v_ic_ge_f (t := 114) rfl (by decide) ⟨(Int.le_trans (by decide) h_8.1), (Int.not_le.mp h_10), by omega⟩ ?_
      refine q_aload_n rfl rfl ?_
      refine v_gr (t := 43) rfl rfl rfl (by decide) rfl ?_
      refine q_aload_n rfl rfl ?_
      refine v_gi (z := 4) (v := c2 41 4) rfl rfl rfl (by decide) rfl rfl rfl ?_
      have h_23 : -2147483648 ≤ (B (c2 41 4)) ∧ (B (c2 41 4)) ≤ 2147483647 := by rw [← hB (c2 41 4)]; exact ir_43 hI (c2 41 4)
      have kn_24 : Hid (c2 43 (c2 41 4) = (B (c2 41 4))) := (hF 43 (c2 41 4) (fun q => q.elim (fun h => absurd h.1 (nn rfl)) (fun q => q.elim (fun h => absurd h.1 (nn rfl)) (fun h => absurd h.1 (nn rfl))))).trans (hB (c2 41 4))
      refine v_ia (v := (B (c2 41 4))) rfl rfl (by decide) (by decide) (by omega) (hid kn_24) ?_
      refine q_call rfl rfl rfl rfl ?_
      refine q_iload_n rfl rfl ?_
      refine v_bip rfl (by decide) ?_
      by_cases h_25 : (B (c2 41 4)) < 48
      · refine v_ic_lt_t (t := 16) rfl (by decide) ⟨by omega, h_25, by decide⟩ ?_
        refine q_iconst rfl ?_
        refine v_zret rfl rfl (by decide) ?_
        refine bk_inl ?_
        refine v_if_eq_t (t := 114) rfl (by decide) (by decide) ?_
        refine q_iload rfl rfl ?_
        refine q_iload_n rfl rfl ?_
        by_cases h_26 : v5 < a1
        · refine v_ic_lt_t (t := 126) rfl (by decide) ⟨(Int.le_trans (by decide) hv5.1), h_26, (Int.le_trans ha1.2 (by decide))⟩ ?_
          refine q_aload_n rfl rfl ?_
          refine q_iconst rfl ?_
          refine q_iload rfl rfl ?_
          refine v_cv rfl rfl rfl rfl (by decide) ⟨⟨rfl, rfl⟩, by decide, rfl⟩ (Nat.le_of_ble_eq_true rfl) (Nat.le_of_ble_eq_true rfl) ?_
          refine q_aload_n rfl rfl ?_
          refine v_gi (z := 5) (v := c2 41 5) rfl rfl rfl (by decide) rfl rfl rfl ?_
          refine q_iconst rfl ?_
          refine v_ic_eq_t (t := 9) rfl (by decide) (by omega) ?_
          refine q_aload_n rfl rfl ?_
          refine q_iload_n rfl rfl ?_
          refine v_pi (z := 5) rfl rfl rfl (by decide) rfl rfl rfl (by decide) ?_
          refine q_aload_n rfl rfl ?_
          refine q_iload_n rfl rfl ?_
          refine v_pi (z := 6) rfl rfl rfl (by decide) rfl rfl rfl (by decide) ?_
          refine q_vret rfl rfl ?_
          refine bk_inl ?_
          refine q_iconst rfl ?_
          refine q_iret rfl rfl ?_
          have hz8 : dg B e1 (c2 41 4) u4 = (c2 41 4, u4) := dg_z (by omega)
          have hz9 : D8 = c2 41 4 := by rw [← hdD8, ← hx0, hz8]
          have hz10 : V8 = u4 := by rw [← hdV8, ← hx0, hz8]
          have hI_27 := iw_41_5 (v := r8) hI2 ⟨by omega, by omega⟩
          have hI_28 := iw_41_6 (v := 2) hI_27 ⟨by decide, by decide⟩
          have h_29 : (up (up c2 41 5 r8) 41 6 2) 41 4 = c2 41 4 := ((up_n (by decide)).trans (up_n (by decide)))
          have h_30 : (up (up c2 41 5 r8) 41 6 2) 41 5 = r8 := ((up_n (by decide)).trans (up_e rfl))
          have h_31 : (up (up c2 41 5 r8) 41 6 2) 41 6 = 2 := (up_e rfl)
          exact zv (by omega) (K2 (up (up c2 41 5 r8) 41 6 2) hI_28 (fun a j hm => (up_b (Decidable.or_iff_not_imp_left.mpr (fun h1 h2 => hm (Or.inr (Or.inr ⟨Decidable.not_not.mp h1, h2⟩))))).trans ((up_b (Decidable.or_iff_not_imp_left.mpr (fun h1 h2 => hm (Or.inr (Or.inl ⟨Decidable.not_not.mp h1, h2⟩))))).trans (hF a j (fun q => q.elim (fun h => hm (Or.inl h)) (fun q => q.elim (fun h => hm (Or.inr (Or.inl h))) (fun h => hm (Or.inr (Or.inr h)))))))) (by omega) (by omega) (by omega) (by omega) (by omega) (by omega))
        · refine v_ic_lt_f (t := 126) rfl (by decide) ⟨(Int.le_trans (by decide) ha1.1), (Int.not_lt.mp h_26), (Int.le_trans hv5.2 (by decide))⟩ ?_
          refine q_iload rfl rfl ?_
          refine q_iload_n rfl rfl ?_
          by_cases h_32 : v5 ≤ a2
          · refine v_ic_le_t (t := 135) rfl (by decide) ⟨(Int.le_trans (by decide) hv5.1), h_32, (Int.le_trans ha2.2 (by decide))⟩ ?_
            refine q_iload rfl rfl ?_
            refine q_iret rfl rfl ?_
            have hz8 : dg B e1 (c2 41 4) u4 = (c2 41 4, u4) := dg_z (by omega)
            have hz9 : D8 = c2 41 4 := by rw [← hdD8, ← hx0, hz8]
            have hz10 : V8 = u4 := by rw [← hdV8, ← hx0, hz8]
            exact zv (by omega) (K3 c2 hI2 (fun a j hm => hF a j (fun q => q.elim (fun h => hm (Or.inl h)) (fun q => q.elim (fun h => hm (Or.inr (Or.inl h))) (fun h => hm (Or.inr (Or.inr h)))))) (by omega) (by omega) (by omega) (by omega) (by omega) (by omega) (by omega))
          · refine v_ic_le_f (t := 135) rfl (by decide) ⟨(Int.le_trans (by decide) ha2.1), (Int.not_le.mp h_32), (Int.le_trans hv5.2 (by decide))⟩ ?_
            refine q_aload_n rfl rfl ?_
            refine q_iconst rfl ?_
            refine q_iload rfl rfl ?_
            refine v_cv rfl rfl rfl rfl (by decide) ⟨⟨rfl, rfl⟩, by decide, rfl⟩ (Nat.le_of_ble_eq_true rfl) (Nat.le_of_ble_eq_true rfl) ?_
            refine q_aload_n rfl rfl ?_
            refine v_gi (z := 5) (v := c2 41 5) rfl rfl rfl (by decide) rfl rfl rfl ?_
            refine q_iconst rfl ?_
            refine v_ic_eq_t (t := 9) rfl (by decide) (by omega) ?_
            refine q_aload_n rfl rfl ?_
            refine q_iload_n rfl rfl ?_
            refine v_pi (z := 5) rfl rfl rfl (by decide) rfl rfl rfl (by decide) ?_
            refine q_aload_n rfl rfl ?_
            refine q_iload_n rfl rfl ?_
            refine v_pi (z := 6) rfl rfl rfl (by decide) rfl rfl rfl (by decide) ?_
            refine q_vret rfl rfl ?_
            refine bk_inl ?_
            refine q_iconst rfl ?_
            refine q_iret rfl rfl ?_
            have hz8 : dg B e1 (c2 41 4) u4 = (c2 41 4, u4) := dg_z (by omega)
            have hz9 : D8 = c2 41 4 := by rw [← hdD8, ← hx0, hz8]
            have hz10 : V8 = u4 := by rw [← hdV8, ← hx0, hz8]
            have hI_33 := iw_41_5 (v := r8) hI2 ⟨by omega, by omega⟩
            have hI_34 := iw_41_6 (v := 2) hI_33 ⟨by decide, by decide⟩
            have h_35 : (up (up c2 41 5 r8) 41 6 2) 41 4 = c2 41 4 := ((up_n (by decide)).trans (up_n (by decide)))
            have h_36 : (up (up c2 41 5 r8) 41 6 2) 41 5 = r8 := ((up_n (by decide)).trans (up_e rfl))
            have h_37 : (up (up c2 41 5 r8) 41 6 2) 41 6 = 2 := (up_e rfl)
            exact zv (by omega) (K2 (up (up c2 41 5 r8) 41 6 2) hI_34 (fun a j hm => (up_b (Decidable.or_iff_not_imp_left.mpr (fun h1 h2 => hm (Or.inr (Or.inr ⟨Decidable.not_not.mp h1, h2⟩))))).trans ((up_b (Decidable.or_iff_not_imp_left.mpr (fun h1 h2 => hm (Or.inr (Or.inl ⟨Decidable.not_not.mp h1, h2⟩))))).trans (hF a j (fun q => q.elim (fun h => hm (Or.inl h)) (fun q => q.elim (fun h => hm (Or.inr (Or.inl h))) (fun h => hm (Or.inr (Or.inr h)))))))) (by omega) (by omega) (by omega) (by omega) (by omega) (by omega))
      · refine v_ic_lt_f (t := 16) rfl (by decide) ⟨by decide, (Int.not_lt.mp h_25), by omega⟩ ?_
        refine q_iload_n rfl rfl ?_
        refine v_bip rfl (by decide) ?_
        by_cases h_38 : (B (c2 41 4)) > 57
        · refine v_ic_gt_t (t := 16) rfl (by decide) ⟨by decide, h_38, by omega⟩ ?_
          refine q_iconst rfl ?_
          refine v_zret rfl rfl (by decide) ?_
          refine bk_inl ?_
          refine v_if_eq_t (t := 114) rfl (by decide) (by decide) ?_
          refine q_iload rfl rfl ?_
          refine q_iload_n rfl rfl ?_
          by_cases h_39 : v5 < a1
          · refine v_ic_lt_t (t := 126) rfl (by decide) ⟨(Int.le_trans (by decide) hv5.1), h_39, (Int.le_trans ha1.2 (by decide))⟩ ?_
            refine q_aload_n rfl rfl ?_
            refine q_iconst rfl ?_
            refine q_iload rfl rfl ?_
            refine v_cv rfl rfl rfl rfl (by decide) ⟨⟨rfl, rfl⟩, by decide, rfl⟩ (Nat.le_of_ble_eq_true rfl) (Nat.le_of_ble_eq_true rfl) ?_
            refine q_aload_n rfl rfl ?_
            refine v_gi (z := 5) (v := c2 41 5) rfl rfl rfl (by decide) rfl rfl rfl ?_
            refine q_iconst rfl ?_
            refine v_ic_eq_t (t := 9) rfl (by decide) (by omega) ?_
            refine q_aload_n rfl rfl ?_
            refine q_iload_n rfl rfl ?_
            refine v_pi (z := 5) rfl rfl rfl (by decide) rfl rfl rfl (by decide) ?_
            refine q_aload_n rfl rfl ?_
            refine q_iload_n rfl rfl ?_
            refine v_pi (z := 6) rfl rfl rfl (by decide) rfl rfl rfl (by decide) ?_
            refine q_vret rfl rfl ?_
            refine bk_inl ?_
            refine q_iconst rfl ?_
            refine q_iret rfl rfl ?_
            have hz8 : dg B e1 (c2 41 4) u4 = (c2 41 4, u4) := dg_z (by omega)
            have hz9 : D8 = c2 41 4 := by rw [← hdD8, ← hx0, hz8]
            have hz10 : V8 = u4 := by rw [← hdV8, ← hx0, hz8]
            have hI_40 := iw_41_5 (v := r8) hI2 ⟨by omega, by omega⟩
            have hI_41 := iw_41_6 (v := 2) hI_40 ⟨by decide, by decide⟩
            have h_42 : (up (up c2 41 5 r8) 41 6 2) 41 4 = c2 41 4 := ((up_n (by decide)).trans (up_n (by decide)))
            have h_43 : (up (up c2 41 5 r8) 41 6 2) 41 5 = r8 := ((up_n (by decide)).trans (up_e rfl))
            have h_44 : (up (up c2 41 5 r8) 41 6 2) 41 6 = 2 := (up_e rfl)
            exact zv (by omega) (K2 (up (up c2 41 5 r8) 41 6 2) hI_41 (fun a j hm => (up_b (Decidable.or_iff_not_imp_left.mpr (fun h1 h2 => hm (Or.inr (Or.inr ⟨Decidable.not_not.mp h1, h2⟩))))).trans ((up_b (Decidable.or_iff_not_imp_left.mpr (fun h1 h2 => hm (Or.inr (Or.inl ⟨Decidable.not_not.mp h1, h2⟩))))).trans (hF a j (fun q => q.elim (fun h => hm (Or.inl h)) (fun q => q.elim (fun h => hm (Or.inr (Or.inl h))) (fun h => hm (Or.inr (Or.inr h)))))))) (by omega) (by omega) (by omega) (by omega) (by omega) (by omega))
          · refine v_ic_lt_f (t := 126) rfl (by decide) ⟨(Int.le_trans (by decide) ha1.1), (Int.not_lt.mp h_39), (Int.le_trans hv5.2 (by decide))⟩ ?_
            refine q_iload rfl rfl ?_
            refine q_iload_n rfl rfl ?_
            by_cases h_45 : v5 ≤ a2
            · refine v_ic_le_t (t := 135) rfl (by decide) ⟨(Int.le_trans (by decide) hv5.1), h_45, (Int.le_trans ha2.2 (by decide))⟩ ?_
              refine q_iload rfl rfl ?_
              refine q_iret rfl rfl ?_
              have hz8 : dg B e1 (c2 41 4) u4 = (c2 41 4, u4) := dg_z (by omega)
              have hz9 : D8 = c2 41 4 := by rw [← hdD8, ← hx0, hz8]
              have hz10 : V8 = u4 := by rw [← hdV8, ← hx0, hz8]
              exact zv (by omega) (K3 c2 hI2 (fun a j hm => hF a j (fun q => q.elim (fun h => hm (Or.inl h)) (fun q => q.elim (fun h => hm (Or.inr (Or.inl h))) (fun h => hm (Or.inr (Or.inr h)))))) (by omega) (by omega) (by omega) (by omega) (by omega) (by omega) (by omega))
            · refine v_ic_le_f (t := 135) rfl (by decide) ⟨(Int.le_trans (by decide) ha2.1), (Int.not_le.mp h_45), (Int.le_trans hv5.2 (by decide))⟩ ?_
              refine q_aload_n rfl rfl ?_
              refine q_iconst rfl ?_
              refine q_iload rfl rfl ?_
              refine v_cv rfl rfl rfl rfl (by decide) ⟨⟨rfl, rfl⟩, by decide, rfl⟩ (Nat.le_of_ble_eq_true rfl) (Nat.le_of_ble_eq_true rfl) ?_
              refine q_aload_n rfl rfl ?_
              refine v_gi (z := 5) (v := c2 41 5) rfl rfl rfl (by decide) rfl rfl rfl ?_
              refine q_iconst rfl ?_
              refine v_ic_eq_t (t := 9) rfl (by decide) (by omega) ?_
              refine q_aload_n rfl rfl ?_
              refine q_iload_n rfl rfl ?_
              refine v_pi (z := 5) rfl rfl rfl (by decide) rfl rfl rfl (by decide) ?_
              refine q_aload_n rfl rfl ?_
              refine q_iload_n rfl rfl ?_
              refine v_pi (z := 6) rfl rfl rfl (by decide) rfl rfl rfl (by decide) ?_
              refine q_vret rfl rfl ?_
              refine bk_inl ?_
              refine q_iconst rfl ?_
              refine q_iret rfl rfl ?_
              have hz8 : dg B e1 (c2 41 4) u4 = (c2 41 4, u4) := dg_z (by omega)
              have hz9 : D8 = c2 41 4 := by rw [← hdD8, ← hx0, hz8]
              have hz10 : V8 = u4 := by rw [← hdV8, ← hx0, hz8]
              have hI_46 := iw_41_5 (v := r8) hI2 ⟨by omega, by omega⟩
              have hI_47 := iw_41_6 (v := 2) hI_46 ⟨by decide, by decide⟩
              have h_48 : (up (up c2 41 5 r8) 41 6 2) 41 4 = c2 41 4 := ((up_n (by decide)).trans (up_n (by decide)))
              have h_49 : (up (up c2 41 5 r8) 41 6 2) 41 5 = r8 := ((up_n (by decide)).trans (up_e rfl))
              have h_50 : (up (up c2 41 5 r8) 41 6 2) 41 6 = 2 := (up_e rfl)
              exact zv (by omega) (K2 (up (up c2 41 5 r8) 41 6 2) hI_47 (fun a j hm => (up_b (Decidable.or_iff_not_imp_left.mpr (fun h1 h2 => hm (Or.inr (Or.inr ⟨Decidable.not_not.mp h1, h2⟩))))).trans ((up_b (Decidable.or_iff_not_imp_left.mpr (fun h1 h2 => hm (Or.inr (Or.inl ⟨Decidable.not_not.mp h1, h2⟩))))).trans (hF a j (fun q => q.elim (fun h => hm (Or.inl h)) (fun q => q.elim (fun h => hm (Or.inr (Or.inl h))) (fun h => hm (Or.inr (Or.inr h)))))))) (by omega) (by omega) (by omega) (by omega) (by omega) (by omega))
        · refine v_ic_gt_f (t := 16) rfl (by decide) ⟨by omega, (Int.not_lt.mp h_38), by decide⟩ ?_
          refine q_iconst rfl ?_
          refine q_goto (t := 17) rfl (by decide) ?_
          refine v_zret rfl rfl (by decide) ?_
          refine bk_inl ?_
          refine v_if_eq_f (t := 114) rfl (by decide) (by decide) ?_
          refine q_iload rfl rfl ?_
          refine v_sip rfl (by decide) ?_
          by_cases h_51 : v5 ≤ 9999
          · refine v_ic_le_t (t := 81) rfl (by decide) ⟨(Int.le_trans (by decide) hv5.1), h_51, by decide⟩ ?_
            refine v_bip rfl (by decide) ?_
            refine q_iload rfl rfl ?_
            refine v_imul (v := 10 * v5) rfl rfl ?_
            refine q_aload_n rfl rfl ?_
            refine v_gr (t := 43) rfl rfl rfl (by decide) rfl ?_
            refine q_aload_n rfl rfl ?_
            refine v_gi (z := 4) (v := c2 41 4) rfl rfl rfl (by decide) rfl rfl rfl ?_
            refine v_ia (v := (B (c2 41 4))) rfl rfl (by decide) (by decide) (by omega) (hid kn_24) ?_
            refine v_iadd (v := (B (c2 41 4)) + 10 * v5) rfl (by omega) ?_
            refine v_bip rfl (by decide) ?_
            refine v_isub (v := (B (c2 41 4)) + 10 * v5 - 48) rfl rfl ?_
            refine q_istore rfl (by decide) ?_
            refine q_aload_n rfl rfl ?_
            refine q_dup rfl rfl ?_
            refine v_gi (z := 4) (v := c2 41 4) rfl rfl rfl (by decide) rfl rfl rfl ?_
            refine q_iconst rfl ?_
            refine v_iadd (v := c2 41 4 + 1) rfl rfl ?_
            refine v_pi (z := 4) rfl rfl rfl (by decide) rfl rfl rfl (by decide) ?_
            refine q_goto (t := 41) rfl (by decide) ?_
            have hI_52 := iw_41_4 (v := c2 41 4 + 1) hI2 ⟨by first | exact rgp_l h_8.1 (by decide) | omega, by omega⟩
            refine Wp_ls [(0, .ref 41), (1, vi a1), (2, vi a2), (4, vi r8), (5, vi ((B (c2 41 4)) + 10 * v5 - 48))] (lsub_cons rfl (lsub_cons rfl (lsub_cons rfl (lsub_cons rfl (lsub_cons rfl lsub_nil))))) ?_
            have hc9 := cp_or ((B (c2 41 4)) + 10 * u4 - 48)
            have hc8 : (cp ((B (c2 41 4)) + 10 * u4 - 48)) = cp (10 * u4 + (B (c2 41 4)) - 48) := congrArg cp (by omega)
            have h_53 : (up c2 41 4 (c2 41 4 + 1)) 41 5 = c2 41 5 := (up_n (by decide))
            have h_54 : (up c2 41 4 (c2 41 4 + 1)) 41 6 = c2 41 6 := (up_n (by decide))
            have h_55 : (up c2 41 4 (c2 41 4 + 1)) 41 4 = c2 41 4 + 1 := (up_e rfl)
            exact ih (up c2 41 4 (c2 41 4 + 1)) ((B (c2 41 4)) + 10 * v5 - 48) (cp ((B (c2 41 4)) + 10 * u4 - 48)) hI_52 (fun a j hm => (up_b (Decidable.or_iff_not_imp_left.mpr (fun h1 h2 => hm (Or.inl ⟨Decidable.not_not.mp h1, h2⟩)))).trans (hF a j (fun q => q.elim (fun h => hm (Or.inl h)) (fun q => q.elim (fun h => hm (Or.inr (Or.inl h))) (fun h => hm (Or.inr (Or.inr h))))))) ⟨by omega, by omega⟩ ⟨by omega, by omega⟩ (by rw [show (up c2 41 4 (c2 41 4 + 1)) 41 4 = c2 41 4 + 1 from (up_e rfl), hc8]; exact (dg_s (by omega)).symm.trans hx0) (by omega) (by omega) (by omega) (by omega) (by omega) (by omega) (by omega)
          · refine v_ic_le_f (t := 81) rfl (by decide) ⟨by decide, (Int.not_le.mp h_51), (Int.le_trans hv5.2 (by decide))⟩ ?_
            refine v_sip rfl (by decide) ?_
            refine q_goto (t := 99) rfl (by decide) ?_
            refine q_istore rfl (by decide) ?_
            refine q_aload_n rfl rfl ?_
            refine q_dup rfl rfl ?_
            refine v_gi (z := 4) (v := c2 41 4) rfl rfl rfl (by decide) rfl rfl rfl ?_
            refine q_iconst rfl ?_
            refine v_iadd (v := c2 41 4 + 1) rfl rfl ?_
            refine v_pi (z := 4) rfl rfl rfl (by decide) rfl rfl rfl (by decide) ?_
            refine q_goto (t := 41) rfl (by decide) ?_
            have hI_56 := iw_41_4 (v := c2 41 4 + 1) hI2 ⟨by first | exact rgp_l h_8.1 (by decide) | omega, by omega⟩
            refine Wp_ls [(0, .ref 41), (1, vi a1), (2, vi a2), (4, vi r8), (5, vi 10000)] (lsub_cons rfl (lsub_cons rfl (lsub_cons rfl (lsub_cons rfl (lsub_cons rfl lsub_nil))))) ?_
            have hc9 := cp_or ((B (c2 41 4)) + 10 * u4 - 48)
            have hc8 : (cp ((B (c2 41 4)) + 10 * u4 - 48)) = cp (10 * u4 + (B (c2 41 4)) - 48) := congrArg cp (by omega)
            have h_57 : (up c2 41 4 (c2 41 4 + 1)) 41 5 = c2 41 5 := (up_n (by decide))
            have h_58 : (up c2 41 4 (c2 41 4 + 1)) 41 6 = c2 41 6 := (up_n (by decide))
            have h_59 : (up c2 41 4 (c2 41 4 + 1)) 41 4 = c2 41 4 + 1 := (up_e rfl)
            exact ih (up c2 41 4 (c2 41 4 + 1)) 10000 (cp ((B (c2 41 4)) + 10 * u4 - 48)) hI_56 (fun a j hm => (up_b (Decidable.or_iff_not_imp_left.mpr (fun h1 h2 => hm (Or.inl ⟨Decidable.not_not.mp h1, h2⟩)))).trans (hF a j (fun q => q.elim (fun h => hm (Or.inl h)) (fun q => q.elim (fun h => hm (Or.inr (Or.inl h))) (fun h => hm (Or.inr (Or.inr h))))))) ⟨by omega, by omega⟩ ⟨by omega, by omega⟩ (by rw [show (up c2 41 4 (c2 41 4 + 1)) 41 4 = c2 41 4 + 1 from (up_e rfl), hc8]; exact (dg_s (by omega)).symm.trans hx0) (by omega) (by omega) (by omega) (by omega) (by omega) (by omega) (by omega)
set_option maxRecDepth 100000 in
set_option maxHeartbeats 4000000 in
theorem f_160 {sc : List Int32} {e : Int} {d u P Q : Nat} {c : ME} {e1 a9 f9 k9 r8 D8 V8 a1 a2 : Int} {B : Int → Int} {Z : AR → Prop} (hI : Iv u e P Q c) (ha1 : 0 ≤ a1 ∧ a1 ≤ 1) (ha2 : (-1) ≤ a2 ∧ a2 ≤ 9999) (hv0 : c 41 3 = e1) (hv1 : c 41 4 = a9) (hv2 : c 41 5 = f9) (hv3 : c 41 6 = k9) (hB : ∀ j : Int, c 43 j = B j) (hdr8 : nx B e1 a9 = r8) (hdD8 : (dg B e1 r8 0).1 = D8) (hdV8 : (dg B e1 r8 0).2 = V8) (K0 : ∀ c2 : ME, Iv u e P Q c2 → (∀ (a : Nat) (j : Int), ¬ ((a = 41 ∧ j = 4) ∨ (a = 41 ∧ j = 5) ∨ (a = 41 ∧ j = 6)) → c2 a j = c a j) → ((f9 ≠ (-1))) → (c2 41 4 = a9) → (c2 41 5 = f9) → (c2 41 6 = k9) → Z (.inl (some (vi 0)), Wd P Q P P c2, 0, 0)) (K1 : ∀ c2 : ME, Iv u e P Q c2 → (∀ (a : Nat) (j : Int), ¬ ((a = 41 ∧ j = 4) ∨ (a = 41 ∧ j = 5) ∨ (a = 41 ∧ j = 6)) → c2 a j = c a j) → ((f9 = (-1))) → ((r8 ≥ e1) ∨ ((B r8) < 48) ∨ ((B r8) > 57)) → (c2 41 4 = r8) → (c2 41 5 = r8) → (c2 41 6 = 1) → Z (.inl (some (vi 0)), Wd P Q P P c2, 0, 0)) (K2 : ∀ c2 : ME, Iv u e P Q c2 → (∀ (a : Nat) (j : Int), ¬ ((a = 41 ∧ j = 4) ∨ (a = 41 ∧ j = 5) ∨ (a = 41 ∧ j = 6)) → c2 a j = c a j) → ((f9 = (-1))) → ((r8 < e1 ∧ (B r8) ≥ 48 ∧ (B r8) ≤ 57)) → ((V8 < a1) ∨ (V8 > a2)) → (c2 41 4 = D8) → (c2 41 5 = r8) → (c2 41 6 = 2) → Z (.inl (some (vi 0)), Wd P Q P P c2, 0, 0)) (K3 : ∀ c2 : ME, Iv u e P Q c2 → (∀ (a : Nat) (j : Int), ¬ ((a = 41 ∧ j = 4) ∨ (a = 41 ∧ j = 5) ∨ (a = 41 ∧ j = 6)) → c2 a j = c a j) → ((f9 = (-1))) → ((r8 < e1 ∧ (B r8) ≥ 48 ∧ (B r8) ≤ 57)) → ((V8 ≥ a1)) → ((V8 ≤ a2)) → (c2 41 4 = D8) → (c2 41 5 = (-1)) → (c2 41 6 = k9) → Z (.inl (some (vi V8)), Wd P Q P P c2, 0, 0)) : Wp sc (d + 12) 160 0 [(0, .ref 41), (1, vi a1), (2, vi a2)] [] (Wd P Q P P c) 0 0 Z := by
  have hP := iv_P hI
  have hQ := iv_Q hI
  have h_60 := ir_41_3 hI
  have h_61 := ir_41_4 hI
  have h_62 := ir_41_5 hI
  have h_63 := ir_41_6 hI
  have hn1 := nx_bd (b := B) (e := e1) (a := a9)
  rw [hdr8] at hn1
  have hn2 := dg_bd (b := B) (e := e1) (a := r8) (v := 0) (by decide)
  rw [hdD8, hdV8] at hn2
  have hn3 := nx_n (b := B) (e := e1) (a := a9)
  rw [hdr8] at hn3
  have h_64 : -2147483648 ≤ (B r8) ∧ (B r8) ≤ 2147483647 := by rw [← hB r8]; exact ir_43 hI r8
  refine q_aload_n rfl rfl ?_
  refine v_cv rfl rfl rfl rfl (by decide) ⟨⟨rfl, rfl⟩, by decide, rfl⟩ (Nat.le_of_ble_eq_true rfl) (Nat.le_of_ble_eq_true rfl) ?_
  refine q_aload_n rfl rfl ?_
  refine v_gi (z := 5) (v := f9) rfl rfl rfl (by decide) rfl rfl (hv2) ?_
  refine q_iconst rfl ?_
  by_cases h_65 : f9 ≠ (-1)
  · refine v_ic_ne_t (t := 12) rfl (by decide) ⟨h_65, ⟨by omega, by omega⟩, by decide, by decide⟩ ?_
    refine q_iconst rfl ?_
    refine v_zret rfl rfl (by decide) ?_
    refine bk_inl ?_
    refine v_if_ne_f (t := 9) rfl (by decide) (by decide) ?_
    refine q_iconst rfl ?_
    refine q_iret rfl rfl ?_
    have h_66 : c 41 4 = a9 := (hv1)
    have h_67 : c 41 5 = f9 := (hv2)
    have h_68 : c 41 6 = k9 := (hv3)
    exact zv (by omega) (K0 c hI (fun a j hm => rfl) (by omega) (by omega) (by omega) (by omega))
  · refine v_ic_ne_f (t := 12) rfl (by decide) (Decidable.not_not.mp h_65) ?_
    refine q_iconst rfl ?_
    refine q_goto (t := 13) rfl (by decide) ?_
    refine v_zret rfl rfl (by decide) ?_
    refine bk_inl ?_
    refine v_if_ne_t (t := 9) rfl (by decide) (by decide) ?_
    refine q_aload_n rfl rfl ?_
    have h_69 : -2147483648 ≤ (B a9) ∧ (B a9) ≤ 2147483647 := by rw [← hB a9]; exact ir_43 hI a9
    have h_70 := hb_or (b := B) (e := e1) (r := r8)
    have h_71 := hb_bd (b := B) (e := e1) (r := r8) (lo := -2147483648) (hi := 2147483647) h_64 (by decide)
    refine v_cv rfl rfl rfl rfl (by decide) ⟨⟨rfl, rfl⟩, by decide, rfl⟩ (Nat.le_of_ble_eq_true rfl) (Nat.le_of_ble_eq_true rfl) (f_154 (e1 := e1) (a9 := a9) (B := B) (r8 := r8) (r := (hb B e1 r8)) hI ((hv0)) ((hv1)) (fun j => hB j) hdr8 rfl (fun c_72 hI_73 hF_74 h_75 => ?_))
    refine bk_inl ?_
    refine q_istore_n rfl (by decide) ?_
    refine q_aload_n rfl rfl ?_
    refine v_gi (z := 4) (v := r8) rfl rfl rfl (by decide) rfl rfl (h_75) ?_
    refine q_istore rfl (by decide) ?_
    refine q_iconst rfl ?_
    refine q_istore rfl (by decide) ?_
    refine q_iload_n rfl rfl ?_
    refine q_call rfl rfl rfl rfl ?_
    refine q_iload_n rfl rfl ?_
    refine v_bip rfl (by decide) ?_
    by_cases h_76 : (hb B e1 r8) < 48
    · refine v_ic_lt_t (t := 16) rfl (by decide) ⟨h_71.1, h_76, by decide⟩ ?_
      refine q_iconst rfl ?_
      refine v_zret rfl rfl (by decide) ?_
      refine bk_inl ?_
      refine v_if_ne_f (t := 41) rfl (by decide) (by decide) ?_
      refine q_aload_n rfl rfl ?_
      refine q_iconst rfl ?_
      refine q_aload_n rfl rfl ?_
      refine v_gi (z := 4) (v := r8) rfl rfl rfl (by decide) rfl rfl (h_75) ?_
      refine v_cv rfl rfl rfl rfl (by decide) ⟨⟨rfl, rfl⟩, by decide, rfl⟩ (Nat.le_of_ble_eq_true rfl) (Nat.le_of_ble_eq_true rfl) ?_
      refine q_aload_n rfl rfl ?_
      have kn_77 : Hid (c_72 41 5 = f9) := (hF_74 41 5 (fun h => absurd h.2 (ni rfl))).trans (hv2)
      refine v_gi (z := 5) (v := f9) rfl rfl rfl (by decide) rfl rfl (hid kn_77) ?_
      refine q_iconst rfl ?_
      refine v_ic_eq_t (t := 9) rfl (by decide) (by omega) ?_
      refine q_aload_n rfl rfl ?_
      refine q_iload_n rfl rfl ?_
      refine v_pi (z := 5) rfl rfl rfl (by decide) rfl rfl rfl (by decide) ?_
      refine q_aload_n rfl rfl ?_
      refine q_iload_n rfl rfl ?_
      refine v_pi (z := 6) rfl rfl rfl (by decide) rfl rfl rfl (by decide) ?_
      refine q_vret rfl rfl ?_
      refine bk_inl ?_
      refine q_iconst rfl ?_
      refine q_iret rfl rfl ?_
      have hI_78 := iw_41_5 (v := r8) hI_73 ⟨by omega, by omega⟩
      have hI_79 := iw_41_6 (v := 1) hI_78 ⟨by decide, by decide⟩
      have h_80 : (up (up c_72 41 5 r8) 41 6 1) 41 4 = r8 := ((up_n (by decide)).trans ((up_n (by decide)).trans (h_75)))
      have h_81 : (up (up c_72 41 5 r8) 41 6 1) 41 5 = r8 := ((up_n (by decide)).trans (up_e rfl))
      have h_82 : (up (up c_72 41 5 r8) 41 6 1) 41 6 = 1 := (up_e rfl)
      exact zv (by omega) (K1 (up (up c_72 41 5 r8) 41 6 1) hI_79 (fun a j hm => (up_b (Decidable.or_iff_not_imp_left.mpr (fun h1 h2 => hm (Or.inr (Or.inr ⟨Decidable.not_not.mp h1, h2⟩))))).trans ((up_b (Decidable.or_iff_not_imp_left.mpr (fun h1 h2 => hm (Or.inr (Or.inl ⟨Decidable.not_not.mp h1, h2⟩))))).trans (hF_74 a j (fun h => hm (Or.inl h))))) (by omega) (by omega) (by omega) (by omega) (by omega))
    · refine v_ic_lt_f (t := 16) rfl (by decide) ⟨by decide, (Int.not_lt.mp h_76), h_71.2⟩ ?_
      refine q_iload_n rfl rfl ?_
      refine v_bip rfl (by decide) ?_
      by_cases h_83 : (hb B e1 r8) > 57
      · refine v_ic_gt_t (t := 16) rfl (by decide) ⟨by decide, h_83, h_71.2⟩ ?_
        refine q_iconst rfl ?_
        refine v_zret rfl rfl (by decide) ?_
        refine bk_inl ?_
        refine v_if_ne_f (t := 41) rfl (by decide) (by decide) ?_
        refine q_aload_n rfl rfl ?_
        refine q_iconst rfl ?_
        refine q_aload_n rfl rfl ?_
        refine v_gi (z := 4) (v := r8) rfl rfl rfl (by decide) rfl rfl (h_75) ?_
        refine v_cv rfl rfl rfl rfl (by decide) ⟨⟨rfl, rfl⟩, by decide, rfl⟩ (Nat.le_of_ble_eq_true rfl) (Nat.le_of_ble_eq_true rfl) ?_
        refine q_aload_n rfl rfl ?_
        have kn_84 : Hid (c_72 41 5 = f9) := (hF_74 41 5 (fun h => absurd h.2 (ni rfl))).trans (hv2)
        refine v_gi (z := 5) (v := f9) rfl rfl rfl (by decide) rfl rfl (hid kn_84) ?_
        refine q_iconst rfl ?_
        refine v_ic_eq_t (t := 9) rfl (by decide) (by omega) ?_
        refine q_aload_n rfl rfl ?_
        refine q_iload_n rfl rfl ?_
        refine v_pi (z := 5) rfl rfl rfl (by decide) rfl rfl rfl (by decide) ?_
        refine q_aload_n rfl rfl ?_
        refine q_iload_n rfl rfl ?_
        refine v_pi (z := 6) rfl rfl rfl (by decide) rfl rfl rfl (by decide) ?_
        refine q_vret rfl rfl ?_
        refine bk_inl ?_
        refine q_iconst rfl ?_
        refine q_iret rfl rfl ?_
        have hI_85 := iw_41_5 (v := r8) hI_73 ⟨by omega, by omega⟩
        have hI_86 := iw_41_6 (v := 1) hI_85 ⟨by decide, by decide⟩
        have h_87 : (up (up c_72 41 5 r8) 41 6 1) 41 4 = r8 := ((up_n (by decide)).trans ((up_n (by decide)).trans (h_75)))
        have h_88 : (up (up c_72 41 5 r8) 41 6 1) 41 5 = r8 := ((up_n (by decide)).trans (up_e rfl))
        have h_89 : (up (up c_72 41 5 r8) 41 6 1) 41 6 = 1 := (up_e rfl)
        exact zv (by omega) (K1 (up (up c_72 41 5 r8) 41 6 1) hI_86 (fun a j hm => (up_b (Decidable.or_iff_not_imp_left.mpr (fun h1 h2 => hm (Or.inr (Or.inr ⟨Decidable.not_not.mp h1, h2⟩))))).trans ((up_b (Decidable.or_iff_not_imp_left.mpr (fun h1 h2 => hm (Or.inr (Or.inl ⟨Decidable.not_not.mp h1, h2⟩))))).trans (hF_74 a j (fun h => hm (Or.inl h))))) (by omega) (by omega) (by omega) (by omega) (by omega))
      · refine v_ic_gt_f (t := 16) rfl (by decide) ⟨h_71.1, (Int.not_lt.mp h_83), by decide⟩ ?_
        refine q_iconst rfl ?_
        refine q_goto (t := 17) rfl (by decide) ?_
        refine v_zret rfl rfl (by decide) ?_
        refine bk_inl ?_
        refine v_if_ne_t (t := 41) rfl (by decide) (by decide) ?_
        refine Wp_ls [(0, .ref 41), (1, vi a1), (2, vi a2), (4, vi r8), (5, vi 0)] (lsub_cons rfl (lsub_cons rfl (lsub_cons rfl (lsub_cons rfl (lsub_cons rfl lsub_nil))))) ?_
        have kn_90 : Hid (c_72 41 5 = f9) := (hF_74 41 5 (fun h => absurd h.2 (ni rfl))).trans (hv2)
        have h_91 : c_72 41 5 = f9 := (hid kn_90)
        have kn_92 : Hid (c_72 41 6 = k9) := (hF_74 41 6 (fun h => absurd h.2 (ni rfl))).trans (hv3)
        have h_93 : c_72 41 6 = k9 := (hid kn_92)
        have h_94 : c_72 41 4 = r8 := (h_75)
        exact (f_160_l (sc := sc) (d := d) hI ha1 ha2 hv0 hv1 hv2 hv3 hB hdr8 hdD8 hdV8 K0 K1 K2 K3 606) c_72 0 0 hI_73 (fun a j hm => hF_74 a j (fun h => hm (Or.inl h))) ⟨by omega, by omega⟩ ⟨by omega, by omega⟩ (by rw [show c_72 41 4 = r8 from (h_75)]) (by omega) (by omega) (by omega) (by omega) (by omega) (by omega) (by omega)

set_option maxRecDepth 100000 in
set_option maxHeartbeats 4000000 in
theorem f_157_l {sc : List Int32} {e : Int} {d u P Q : Nat} {c : ME} {e1 a9 r8 L8 W8 : Int} {B : Int → Int} {Z : AR → Prop} (hI : Iv u e P Q c) (hv0 : c 41 3 = e1) (hv1 : c 41 4 = a9) (hB : ∀ j : Int, c 43 j = B j) (hdr8 : nx B e1 a9 = r8) (hdL8 : ln B e1 r8 = L8) (hdW8 : wv B r8 L8 = W8) (K0 : ∀ c2 : ME, Iv u e P Q c2 → (∀ (a : Nat) (j : Int), ¬ ((a = 41 ∧ j = 4)) → c2 a j = c a j) → (c2 41 4 = r8) → Z (.inl (some (vi W8)), Wd P Q P P c2, 0, 0)) : ∀ n : Nat, (∀ (c2 : ME) (v1 : Int) (v2 : Int) (v3 : Int), Iv u e P Q c2 → (∀ (a : Nat) (j : Int), ¬ ((a = 41 ∧ j = 4)) → c2 a j = c a j) → 0 ≤ v1 ∧ v1 ≤ 1073741823 → 0 ≤ v2 ∧ v2 ≤ 605 → 0 ≤ v3 ∧ v3 ≤ 605 → (ln B e1 v3 = L8) → ((v3 = r8 + v2)) → (v1 = if v2 ≤ 6 then pv B r8 v2.toNat else 0) → ((c2 41 4 = r8)) → 605 - v3 < (n : Int) → Wp sc (d + 12) 157 14 [(0, .ref 41), (1, vi v1), (2, vi v2), (3, vi v3)] [] (Wd P Q P P c2) 0 0 Z)
  | 0 => by intro c2 v1 v2 v3 hI2 hF hv1 hv2 hv3 hx0 hx1 hx2 hx3 hm9; have hP := iv_P hI; have hQ := iv_Q hI; have h_1 := ir_41_3 hI; have h_2 := ir_41_4 hI; have h_3 := ir_41_4 hI2; exfalso; omega
  | n + 1 => by
    have hP := iv_P hI
    have hQ := iv_Q hI
    have ih := f_157_l (sc := sc) (d := d) hI hv0 hv1 hB hdr8 hdL8 hdW8 K0 n
    intro c2 v1 v2 v3 hI2 hF hv1 hv2 hv3 hx0 hx1 hx2 hx3 hm9
    have h_1 := ir_41_3 hI
    have h_2 := ir_41_4 hI
    have hn1 := nx_bd (b := B) (e := e1) (a := a9)
    rw [hdr8] at hn1
    have hn2 := ln_bd (b := B) (e := e1) (a := r8)
    rw [hdL8] at hn2
    have hw1 : 0 ≤ W8 ∧ W8 ≤ 1073741823 := by rw [← hdW8]; exact wv_bd (fun j h1 h2 => ⟨(ln_in (e := e1) (a := r8) h1 (by omega)).1, (ln_in (e := e1) (a := r8) h1 (by omega)).2.1⟩)
    have hn3 := ln_bd (b := B) (e := e1) (a := v3)
    rw [hx0] at hn3
    have hp1 := pv_bd (b := B) (r := r8) v2.toNat (fun j h1 h2 => ⟨(ln_in (e := e1) (a := r8) h1 (by omega)).1, (ln_in (e := e1) (a := r8) h1 (by omega)).2.1⟩)
    have hp2 : v2 ≤ 6 → v1 = pv B r8 v2.toNat := fun q => hx2.trans (if_pos q)
    have hp3 : ¬ v2 ≤ 6 → v1 = 0 := fun q => hx2.trans (if_neg q)
    have hp4 : v2 ≤ 5 → v1 ≤ 33554431 := fun q => by have := hp1.2.2.2.2.2.1 (by omega); have := hp2 (by omega); omega
    have h_3 := ir_41_4 hI2
    refine q_iload_n rfl rfl ?_
    refine q_aload_n rfl rfl ?_
    have kn_4 : Hid (c2 41 3 = e1) := (hF 41 3 (fun h => absurd h.2 (ni rfl))).trans (hv0)
    refine v_gi (z := 3) (v := e1) rfl rfl rfl (by decide) rfl rfl (hid kn_4) ?_
    by_cases h_5 : v3 ≥ e1
    · refine v_ic_ge_t (t := 67) rfl (by decide) ⟨by omega, h_5, (Int.le_trans hv3.2 (by decide))⟩ ?_
      refine q_iload_n rfl rfl ?_
      refine v_bip rfl (by decide) ?_
      by_cases h_6 : v2 ≤ 6
      · refine v_ic_le_t (t := 77) rfl (by decide) ⟨(Int.le_trans (by decide) hv2.1), h_6, by decide⟩ ?_
        refine q_iload_n rfl rfl ?_
        refine q_iret rfl rfl ?_
        have hz8 : ln B e1 v3 = v3 := ln_z (by omega)
        have hz9 : v3 = L8 := hz8.symm.trans hx0
        have hw9 : W8 = v1 := by rw [← hdW8]; unfold wv; rw [if_pos (by omega), show (L8 - r8).toNat = v2.toNat by omega]; exact (hp2 (by omega)).symm
        exact zv (by omega) (K0 c2 hI2 (fun a j hm => hF a j (fun h => hm h)) (by omega))
      · refine v_ic_le_f (t := 77) rfl (by decide) ⟨by decide, (Int.not_le.mp h_6), (Int.le_trans hv2.2 (by decide))⟩ ?_
        refine q_iconst rfl ?_
        refine q_goto (t := 78) rfl (by decide) ?_
        refine q_iret rfl rfl ?_
        have hz8 : ln B e1 v3 = v3 := ln_z (by omega)
        have hz9 : v3 = L8 := hz8.symm.trans hx0
        have hw9 : W8 = 0 := by rw [← hdW8]; unfold wv; exact if_neg (by omega)
        exact zv (by omega) (K0 c2 hI2 (fun a j hm => hF a j (fun h => hm h)) (by omega))
    · refine v_ic_ge_f (t := 67) rfl (by decide) ⟨(Int.le_trans (by decide) hv3.1), (Int.not_le.mp h_5), by omega⟩ ?_
      refine q_aload_n rfl rfl ?_
      refine v_gr (t := 43) rfl rfl rfl (by decide) rfl ?_
      refine q_iload_n rfl rfl ?_
      have h_7 : -2147483648 ≤ (B v3) ∧ (B v3) ≤ 2147483647 := by rw [← hB v3]; exact ir_43 hI v3
      have kn_8 : Hid (c2 43 v3 = (B v3)) := (hF 43 v3 (fun h => absurd h.1 (nn rfl))).trans (hB v3)
      refine v_ia (v := (B v3)) rfl rfl (by decide) (by decide) (by omega) (hid kn_8) ?_
      refine q_call rfl rfl rfl rfl ?_
      refine q_iload_n rfl rfl ?_
      refine v_bip rfl (by decide) ?_
      by_cases h_9 : (B v3) < 97
      · refine v_ic_lt_t (t := 16) rfl (by decide) ⟨by omega, h_9, by decide⟩ ?_
        refine q_iconst rfl ?_
        refine v_zret rfl rfl (by decide) ?_
        refine bk_inl ?_
        refine v_if_eq_t (t := 67) rfl (by decide) (by decide) ?_
        refine q_iload_n rfl rfl ?_
        refine v_bip rfl (by decide) ?_
        by_cases h_10 : v2 ≤ 6
        · refine v_ic_le_t (t := 77) rfl (by decide) ⟨(Int.le_trans (by decide) hv2.1), h_10, by decide⟩ ?_
          refine q_iload_n rfl rfl ?_
          refine q_iret rfl rfl ?_
          have hz8 : ln B e1 v3 = v3 := ln_z (by omega)
          have hz9 : v3 = L8 := hz8.symm.trans hx0
          have hw9 : W8 = v1 := by rw [← hdW8]; unfold wv; rw [if_pos (by omega), show (L8 - r8).toNat = v2.toNat by omega]; exact (hp2 (by omega)).symm
          exact zv (by omega) (K0 c2 hI2 (fun a j hm => hF a j (fun h => hm h)) (by omega))
        · refine v_ic_le_f (t := 77) rfl (by decide) ⟨by decide, (Int.not_le.mp h_10), (Int.le_trans hv2.2 (by decide))⟩ ?_
          refine q_iconst rfl ?_
          refine q_goto (t := 78) rfl (by decide) ?_
          refine q_iret rfl rfl ?_
          have hz8 : ln B e1 v3 = v3 := ln_z (by omega)
          have hz9 : v3 = L8 := hz8.symm.trans hx0
          have hw9 : W8 = 0 := by rw [← hdW8]; unfold wv; exact if_neg (by omega)
          exact zv (by omega) (K0 c2 hI2 (fun a j hm => hF a j (fun h => hm h)) (by omega))
      · refine v_ic_lt_f (t := 16) rfl (by decide) ⟨by decide, (Int.not_lt.mp h_9), by omega⟩ ?_
        refine q_iload_n rfl rfl ?_
        refine v_bip rfl (by decide) ?_
        by_cases h_11 : (B v3) > 122
        · refine v_ic_gt_t (t := 16) rfl (by decide) ⟨by decide, h_11, by omega⟩ ?_
          refine q_iconst rfl ?_
          refine v_zret rfl rfl (by decide) ?_
          refine bk_inl ?_
          refine v_if_eq_t (t := 67) rfl (by decide) (by decide) ?_
          refine q_iload_n rfl rfl ?_
          refine v_bip rfl (by decide) ?_
          by_cases h_12 : v2 ≤ 6
          · refine v_ic_le_t (t := 77) rfl (by decide) ⟨(Int.le_trans (by decide) hv2.1), h_12, by decide⟩ ?_
            refine q_iload_n rfl rfl ?_
            refine q_iret rfl rfl ?_
            have hz8 : ln B e1 v3 = v3 := ln_z (by omega)
            have hz9 : v3 = L8 := hz8.symm.trans hx0
            have hw9 : W8 = v1 := by rw [← hdW8]; unfold wv; rw [if_pos (by omega), show (L8 - r8).toNat = v2.toNat by omega]; exact (hp2 (by omega)).symm
            exact zv (by omega) (K0 c2 hI2 (fun a j hm => hF a j (fun h => hm h)) (by omega))
          · refine v_ic_le_f (t := 77) rfl (by decide) ⟨by decide, (Int.not_le.mp h_12), (Int.le_trans hv2.2 (by decide))⟩ ?_
            refine q_iconst rfl ?_
            refine q_goto (t := 78) rfl (by decide) ?_
            refine q_iret rfl rfl ?_
            have hz8 : ln B e1 v3 = v3 := ln_z (by omega)
            have hz9 : v3 = L8 := hz8.symm.trans hx0
            have hw9 : W8 = 0 := by rw [← hdW8]; unfold wv; exact if_neg (by omega)
            exact zv (by omega) (K0 c2 hI2 (fun a j hm => hF a j (fun h => hm h)) (by omega))
        · refine v_ic_gt_f (t := 16) rfl (by decide) ⟨by omega, (Int.not_lt.mp h_11), by decide⟩ ?_
          refine q_iconst rfl ?_
          refine q_goto (t := 17) rfl (by decide) ?_
          refine v_zret rfl rfl (by decide) ?_
          refine bk_inl ?_
          refine v_if_eq_f (t := 67) rfl (by decide) (by decide) ?_
          refine q_iload_n rfl rfl ?_
          refine v_bip rfl (by decide) ?_
          by_cases h_13 : v2 ≥ 6
          · refine v_ic_ge_t (t := 56) rfl (by decide) ⟨by decide, h_13, (Int.le_trans hv2.2 (by decide))⟩ ?_
            refine q_iconst rfl ?_
            refine q_istore_n rfl (by decide) ?_
            refine v_iinc (v := v2 + 1) rfl rfl (by decide) rfl ?_
            refine v_iinc (v := v3 + 1) rfl rfl (by decide) rfl ?_
            refine q_goto (t := 14) rfl (by decide) ?_
            refine Wp_ls [(0, .ref 41), (1, vi 0), (2, vi (v2 + 1)), (3, vi (v3 + 1))] (lsub_cons rfl (lsub_cons rfl (lsub_cons rfl (lsub_cons rfl lsub_nil)))) ?_
            exact ih c2 0 (v2 + 1) (v3 + 1) hI2 (fun a j hm => hF a j (fun h => hm h)) ⟨by omega, by omega⟩ ⟨by omega, by omega⟩ ⟨by omega, by omega⟩ ((ln_s (by omega)).symm.trans hx0) (by omega) (if_neg (by omega)).symm (by omega) (by omega)
          · refine v_ic_ge_f (t := 56) rfl (by decide) ⟨(Int.le_trans (by decide) hv2.1), (Int.not_le.mp h_13), by decide⟩ ?_
            refine q_iload_n rfl rfl ?_
            refine q_iconst rfl ?_
            refine v_shl5 (v := 32 * v1) rfl (by omega) ?_
            refine q_aload_n rfl rfl ?_
            refine v_gr (t := 43) rfl rfl rfl (by decide) rfl ?_
            refine q_iload_n rfl rfl ?_
            refine v_ia (v := (B v3)) rfl rfl (by decide) (by decide) (by omega) (hid kn_8) ?_
            refine v_bip rfl (by decide) ?_
            refine v_isub (v := (B v3) - 96) rfl rfl ?_
            refine v_or5 (m := v1) (v := (B v3) + 32 * v1 - 96) rfl (by omega) ⟨by omega, by omega, by omega, by omega⟩ (by omega) ?_
            refine q_goto (t := 57) rfl (by decide) ?_
            refine q_istore_n rfl (by decide) ?_
            refine v_iinc (v := v2 + 1) rfl rfl (by decide) rfl ?_
            refine v_iinc (v := v3 + 1) rfl rfl (by decide) rfl ?_
            refine q_goto (t := 14) rfl (by decide) ?_
            refine Wp_ls [(0, .ref 41), (1, vi ((B v3) + 32 * v1 - 96)), (2, vi (v2 + 1)), (3, vi (v3 + 1))] (lsub_cons rfl (lsub_cons rfl (lsub_cons rfl (lsub_cons rfl lsub_nil)))) ?_
            exact ih c2 ((B v3) + 32 * v1 - 96) (v2 + 1) (v3 + 1) hI2 (fun a j hm => hF a j (fun h => hm h)) ⟨by omega, by omega⟩ ⟨by omega, by omega⟩ ⟨by omega, by omega⟩ ((ln_s (by omega)).symm.trans hx0) (by omega) (by rw [if_pos (by omega), show (v2 + 1).toNat = v2.toNat + 1 by omega]; show _ = 32 * pv B r8 v2.toNat + (B (r8 + (v2.toNat : Int)) - 96); rw [show r8 + (v2.toNat : Int) = v3 by omega, ← hp2 (by omega)]; omega) (by omega) (by omega)
set_option maxRecDepth 100000 in
set_option maxHeartbeats 4000000 in
theorem f_157 {sc : List Int32} {e : Int} {d u P Q : Nat} {c : ME} {e1 a9 r8 L8 W8 : Int} {B : Int → Int} {Z : AR → Prop} (hI : Iv u e P Q c) (hv0 : c 41 3 = e1) (hv1 : c 41 4 = a9) (hB : ∀ j : Int, c 43 j = B j) (hdr8 : nx B e1 a9 = r8) (hdL8 : ln B e1 r8 = L8) (hdW8 : wv B r8 L8 = W8) (K0 : ∀ c2 : ME, Iv u e P Q c2 → (∀ (a : Nat) (j : Int), ¬ ((a = 41 ∧ j = 4)) → c2 a j = c a j) → (c2 41 4 = r8) → Z (.inl (some (vi W8)), Wd P Q P P c2, 0, 0)) : Wp sc (d + 12) 157 0 [(0, .ref 41)] [] (Wd P Q P P c) 0 0 Z := by
  have hP := iv_P hI
  have hQ := iv_Q hI
  have h_14 := ir_41_3 hI
  have h_15 := ir_41_4 hI
  have hn1 := nx_bd (b := B) (e := e1) (a := a9)
  rw [hdr8] at hn1
  have hn2 := ln_bd (b := B) (e := e1) (a := r8)
  rw [hdL8] at hn2
  have hw1 : 0 ≤ W8 ∧ W8 ≤ 1073741823 := by rw [← hdW8]; exact wv_bd (fun j h1 h2 => ⟨(ln_in (e := e1) (a := r8) h1 (by omega)).1, (ln_in (e := e1) (a := r8) h1 (by omega)).2.1⟩)
  refine q_aload_n rfl rfl ?_
  have h_16 : -2147483648 ≤ (B a9) ∧ (B a9) ≤ 2147483647 := by rw [← hB a9]; exact ir_43 hI a9
  have h_17 : -2147483648 ≤ (B r8) ∧ (B r8) ≤ 2147483647 := by rw [← hB r8]; exact ir_43 hI r8
  have h_18 := hb_or (b := B) (e := e1) (r := r8)
  have h_19 := hb_bd (b := B) (e := e1) (r := r8) (lo := -2147483648) (hi := 2147483647) h_17 (by decide)
  refine v_cv rfl rfl rfl rfl (by decide) ⟨⟨rfl, rfl⟩, by decide, rfl⟩ (Nat.le_of_ble_eq_true rfl) (Nat.le_of_ble_eq_true rfl) (f_154 (e1 := e1) (a9 := a9) (B := B) (r8 := r8) (r := (hb B e1 r8)) hI ((hv0)) ((hv1)) (fun j => hB j) hdr8 rfl (fun c_20 hI_21 hF_22 h_23 => ?_))
  refine bk_inl ?_
  refine q_pop rfl rfl ?_
  refine q_iconst rfl ?_
  refine q_istore_n rfl (by decide) ?_
  refine q_iconst rfl ?_
  refine q_istore_n rfl (by decide) ?_
  refine q_aload_n rfl rfl ?_
  refine v_gi (z := 4) (v := r8) rfl rfl rfl (by decide) rfl rfl (h_23) ?_
  refine q_istore_n rfl (by decide) ?_
  refine Wp_ls [(0, .ref 41), (1, vi 0), (2, vi 0), (3, vi r8)] (lsub_cons rfl (lsub_cons rfl (lsub_cons rfl (lsub_cons rfl lsub_nil)))) ?_
  have h_24 : c_20 41 4 = r8 := (h_23)
  exact (f_157_l (sc := sc) (d := d) hI hv0 hv1 hB hdr8 hdL8 hdW8 K0 606) c_20 0 0 r8 hI_21 (fun a j hm => hF_22 a j (fun h => hm h)) ⟨by omega, by omega⟩ ⟨by omega, by omega⟩ ⟨by omega, by omega⟩ hdL8 (by omega) (show (0 : Int) = if (0 : Int) ≤ 6 then pv B r8 (0 : Int).toNat else 0 from rfl) (by omega) (by omega)

set_option maxRecDepth 100000 in
set_option maxHeartbeats 4000000 in
theorem f_159_l {sc : List Int32} {e : Int} {d u P Q : Nat} {c : ME} {e1 a9 L8 : Int} {B : Int → Int} {Z : AR → Prop} (hI : Iv u e P Q c) (hv0 : c 41 3 = e1) (hv1 : c 41 4 = a9) (hB : ∀ j : Int, c 43 j = B j) (hdL8 : ln B e1 a9 = L8) (K0 : ∀ c2 : ME, Iv u e P Q c2 → (∀ (a : Nat) (j : Int), ¬ ((a = 41 ∧ j = 4)) → c2 a j = c a j) → (c2 41 4 = L8) → Z (.inl (none), Wd P Q P P c2, 0, 0)) : ∀ n : Nat, (∀ (c2 : ME), Iv u e P Q c2 → (∀ (a : Nat) (j : Int), ¬ ((a = 41 ∧ j = 4)) → c2 a j = c a j) → (ln B e1 (c2 41 4) = L8) → 605 - c2 41 4 < (n : Int) → Wp sc (d + 9) 159 0 [(0, .ref 41)] [] (Wd P Q P P c2) 0 0 Z)
  | 0 => by intro c2 hI2 hF hx0 hm9; have hP := iv_P hI; have hQ := iv_Q hI; have h_1 := ir_41_3 hI; have h_2 := ir_41_4 hI; have h_3 := ir_41_4 hI2; exfalso; omega
  | n + 1 => by
    have hP := iv_P hI
    have hQ := iv_Q hI
    have ih := f_159_l (sc := sc) (d := d) hI hv0 hv1 hB hdL8 K0 n
    intro c2 hI2 hF hx0 hm9
    have h_1 := ir_41_3 hI
    have h_2 := ir_41_4 hI
    have h_3 := ir_41_4 hI2
    refine q_aload_n rfl rfl ?_
    refine v_gi (z := 4) (v := c2 41 4) rfl rfl rfl (by decide) rfl rfl rfl ?_
    refine q_aload_n rfl rfl ?_
    have kn_4 : Hid (c2 41 3 = e1) := (hF 41 3 (fun h => absurd h.2 (ni rfl))).trans (hv0)
    refine v_gi (z := 3) (v := e1) rfl rfl rfl (by decide) rfl rfl (hid kn_4) ?_
    by_cases h_5 : c2 41 4 ≥ e1
    · refine v_ic_ge_t (t := 39) rfl (by decide) ⟨by omega, h_5, (Int.le_trans h_3.2 (by decide))⟩ ?_
      refine q_vret rfl rfl ?_
      have hz8 : ln B e1 (c2 41 4) = c2 41 4 := ln_z (by omega)
      have hz9 : L8 = c2 41 4 := hx0.symm.trans hz8
      exact K0 c2 hI2 (fun a j hm => hF a j (fun h => hm h)) (by omega)
    · refine v_ic_ge_f (t := 39) rfl (by decide) ⟨(Int.le_trans (by decide) h_3.1), (Int.not_le.mp h_5), by omega⟩ ?_
      refine q_aload_n rfl rfl ?_
      refine v_gr (t := 43) rfl rfl rfl (by decide) rfl ?_
      refine q_aload_n rfl rfl ?_
      refine v_gi (z := 4) (v := c2 41 4) rfl rfl rfl (by decide) rfl rfl rfl ?_
      have h_6 : -2147483648 ≤ (B (c2 41 4)) ∧ (B (c2 41 4)) ≤ 2147483647 := by rw [← hB (c2 41 4)]; exact ir_43 hI (c2 41 4)
      have kn_7 : Hid (c2 43 (c2 41 4) = (B (c2 41 4))) := (hF 43 (c2 41 4) (fun h => absurd h.1 (nn rfl))).trans (hB (c2 41 4))
      refine v_ia (v := (B (c2 41 4))) rfl rfl (by decide) (by decide) (by omega) (hid kn_7) ?_
      refine q_call rfl rfl rfl rfl ?_
      refine q_iload_n rfl rfl ?_
      refine v_bip rfl (by decide) ?_
      by_cases h_8 : (B (c2 41 4)) < 97
      · refine v_ic_lt_t (t := 16) rfl (by decide) ⟨by omega, h_8, by decide⟩ ?_
        refine q_iconst rfl ?_
        refine v_zret rfl rfl (by decide) ?_
        refine bk_inl ?_
        refine v_if_eq_t (t := 39) rfl (by decide) (by decide) ?_
        refine q_vret rfl rfl ?_
        have hz8 : ln B e1 (c2 41 4) = c2 41 4 := ln_z (by omega)
        have hz9 : L8 = c2 41 4 := hx0.symm.trans hz8
        exact K0 c2 hI2 (fun a j hm => hF a j (fun h => hm h)) (by omega)
      · refine v_ic_lt_f (t := 16) rfl (by decide) ⟨by decide, (Int.not_lt.mp h_8), by omega⟩ ?_
        refine q_iload_n rfl rfl ?_
        refine v_bip rfl (by decide) ?_
        by_cases h_9 : (B (c2 41 4)) > 122
        · refine v_ic_gt_t (t := 16) rfl (by decide) ⟨by decide, h_9, by omega⟩ ?_
          refine q_iconst rfl ?_
          refine v_zret rfl rfl (by decide) ?_
          refine bk_inl ?_
          refine v_if_eq_t (t := 39) rfl (by decide) (by decide) ?_
          refine q_vret rfl rfl ?_
          have hz8 : ln B e1 (c2 41 4) = c2 41 4 := ln_z (by omega)
          have hz9 : L8 = c2 41 4 := hx0.symm.trans hz8
          exact K0 c2 hI2 (fun a j hm => hF a j (fun h => hm h)) (by omega)
        · refine v_ic_gt_f (t := 16) rfl (by decide) ⟨by omega, (Int.not_lt.mp h_9), by decide⟩ ?_
          refine q_iconst rfl ?_
          refine q_goto (t := 17) rfl (by decide) ?_
          refine v_zret rfl rfl (by decide) ?_
          refine bk_inl ?_
          refine v_if_eq_f (t := 39) rfl (by decide) (by decide) ?_
          refine q_aload_n rfl rfl ?_
          refine q_dup rfl rfl ?_
          refine v_gi (z := 4) (v := c2 41 4) rfl rfl rfl (by decide) rfl rfl rfl ?_
          refine q_iconst rfl ?_
          refine v_iadd (v := c2 41 4 + 1) rfl rfl ?_
          refine v_pi (z := 4) rfl rfl rfl (by decide) rfl rfl rfl (by decide) ?_
          refine q_goto (t := 0) rfl (by decide) ?_
          have hI_10 := iw_41_4 (v := c2 41 4 + 1) hI2 ⟨by first | exact rgp_l h_3.1 (by decide) | omega, by omega⟩
          refine Wp_ls [(0, .ref 41)] (lsub_cons rfl lsub_nil) ?_
          have h_11 : (up c2 41 4 (c2 41 4 + 1)) 41 4 = c2 41 4 + 1 := (up_e rfl)
          exact ih (up c2 41 4 (c2 41 4 + 1)) hI_10 (fun a j hm => (up_b (Decidable.or_iff_not_imp_left.mpr (fun h1 h2 => hm ⟨Decidable.not_not.mp h1, h2⟩))).trans (hF a j (fun h => hm h))) (by rw [show (up c2 41 4 (c2 41 4 + 1)) 41 4 = c2 41 4 + 1 from (up_e rfl)]; exact (ln_s (by omega)).symm.trans hx0) (by omega)
set_option maxRecDepth 100000 in
set_option maxHeartbeats 4000000 in
theorem f_159 {sc : List Int32} {e : Int} {d u P Q : Nat} {c : ME} {e1 a9 L8 : Int} {B : Int → Int} {Z : AR → Prop} (hI : Iv u e P Q c) (hv0 : c 41 3 = e1) (hv1 : c 41 4 = a9) (hB : ∀ j : Int, c 43 j = B j) (hdL8 : ln B e1 a9 = L8) (K0 : ∀ c2 : ME, Iv u e P Q c2 → (∀ (a : Nat) (j : Int), ¬ ((a = 41 ∧ j = 4)) → c2 a j = c a j) → (c2 41 4 = L8) → Z (.inl (none), Wd P Q P P c2, 0, 0)) : Wp sc (d + 9) 159 0 [(0, .ref 41)] [] (Wd P Q P P c) 0 0 Z := by
  have hP := iv_P hI
  have hQ := iv_Q hI
  have h_12 := ir_41_3 hI
  have h_13 := ir_41_4 hI
  refine Wp_ls [(0, .ref 41)] (lsub_cons rfl lsub_nil) ?_
  have h_14 : c 41 4 = a9 := (hv1)
  exact (f_159_l (sc := sc) (d := d) hI hv0 hv1 hB hdL8 K0 606) c hI (fun a j hm => rfl) (by rw [hv1]; exact hdL8) (by omega)

set_option maxRecDepth 100000 in
set_option maxHeartbeats 4000000 in
theorem f_10_8_3 {sc : List Int32} {e : Int} {d u P Q : Nat} {c : ME} {e1 a9 f9 p9 W8 r8 L8 : Int} {B : Int → Int} {Z : AR → Prop} (hI : Iv u e P Q c) (hq0 : (f9 = 0)) (hq1 : (r8 ≥ 0 ∧ r8 ≤ L8 ∧ L8 ≤ 600)) (hv0 : c 1 1 = e1) (hv1 : c 1 2 = a9) (hv2 : c 1 4 = f9) (hv3 : c 1 5 = p9) (hB : ∀ j : Int, c 2 j = B j) (hdW8 : wd8_3 B r8 L8 = W8) (K0 : ∀ c2 : ME, Iv u e P Q c2 → (∀ (a : Nat) (j : Int), ¬ ((a = 1 ∧ j = 2) ∨ (a = 1 ∧ j = 4) ∨ (a = 1 ∧ j = 5)) → c2 a j = c a j) → ((W8 = (-1))) → (c2 1 2 = a9) → (c2 1 4 = 1) → (c2 1 5 = r8) → Z (.inl (some (vi (-1))), Wd P Q P P c2, 0, 0)) (K1 : ∀ c2 : ME, Iv u e P Q c2 → (∀ (a : Nat) (j : Int), ¬ ((a = 1 ∧ j = 2) ∨ (a = 1 ∧ j = 4) ∨ (a = 1 ∧ j = 5)) → c2 a j = c a j) → ((W8 ≥ 0 ∧ W8 ≤ 3)) → (c2 1 2 = L8) → (c2 1 4 = 0) → (c2 1 5 = p9) → Z (.inl (some (vi W8)), Wd P Q P P c2, 0, 0)) : Wp sc (d + 12) 10 52 [(0, .ref 1), (1, .ref (a_SB + 8)), (2, vi r8), (3, vi L8), (4, vi 3), (5, vi 16), (6, vi 16)] [] (Wd P Q P P c) 0 0 Z := by
  have hP := iv_P hI
  have hQ := iv_Q hI
  have h_1 := ir_1_1 hI
  have h_2 := ir_1_2 hI
  have h_3 := ir_1_4 hI
  have h_4 := ir_1_5 hI
  refine q_iload rfl rfl ?_
  refine q_aload_n rfl rfl ?_
  refine v_sln 20 rfl rfl (by omega) (Nat.le_of_ble_eq_true rfl) (by decide) (by decide) ?_
  refine v_ic_gt_f (t := 136) rfl (by decide) (by decide) ?_
  refine q_aload_n rfl rfl ?_
  refine v_cv rfl rfl rfl rfl (by decide) ⟨⟨rfl, rfl⟩, by decide, rfl⟩ (Nat.le_of_ble_eq_true rfl) (Nat.le_of_ble_eq_true rfl) ?_
  refine q_aload_n rfl rfl ?_
  refine v_gi (z := 4) (v := f9) rfl rfl rfl (by decide) rfl rfl (hv2) ?_
  refine v_if_ne_f (t := 11) rfl (by decide) (by omega) ?_
  refine q_iconst rfl ?_
  refine q_goto (t := 12) rfl (by decide) ?_
  refine v_zret rfl rfl (by decide) ?_
  refine bk_inl ?_
  refine v_if_eq_f (t := 136) rfl (by decide) (by decide) ?_
  refine q_iload rfl rfl ?_
  refine q_aload_n rfl rfl ?_
  refine v_sln 20 rfl rfl (by omega) (Nat.le_of_ble_eq_true rfl) (by decide) (by decide) ?_
  refine v_ic_eq_f (t := 88) rfl (by decide) (by decide) ?_
  refine q_aload_n rfl rfl ?_
  refine q_iload rfl rfl ?_
  refine v_sch 100 rfl rfl (by omega) (Nat.le_of_ble_eq_true rfl) (by decide) (by decide) (by decide) ?_
  refine v_bip rfl (by decide) ?_
  refine v_ic_ne_t (t := 130) rfl (by decide) (by decide) ?_
  refine v_iinc (v := 17) rfl rfl (by decide) (by decide) ?_
  refine q_goto (t := 52) rfl (by decide) ?_
  refine q_iload rfl rfl ?_
  refine q_aload_n rfl rfl ?_
  refine v_sln 20 rfl rfl (by omega) (Nat.le_of_ble_eq_true rfl) (by decide) (by decide) ?_
  refine v_ic_gt_f (t := 136) rfl (by decide) (by decide) ?_
  refine q_aload_n rfl rfl ?_
  refine v_cv rfl rfl rfl rfl (by decide) ⟨⟨rfl, rfl⟩, by decide, rfl⟩ (Nat.le_of_ble_eq_true rfl) (Nat.le_of_ble_eq_true rfl) ?_
  refine q_aload_n rfl rfl ?_
  refine v_gi (z := 4) (v := f9) rfl rfl rfl (by decide) rfl rfl (hv2) ?_
  refine v_if_ne_f (t := 11) rfl (by decide) (by omega) ?_
  refine q_iconst rfl ?_
  refine q_goto (t := 12) rfl (by decide) ?_
  refine v_zret rfl rfl (by decide) ?_
  refine bk_inl ?_
  refine v_if_eq_f (t := 136) rfl (by decide) (by decide) ?_
  refine q_iload rfl rfl ?_
  refine q_aload_n rfl rfl ?_
  refine v_sln 20 rfl rfl (by omega) (Nat.le_of_ble_eq_true rfl) (by decide) (by decide) ?_
  refine v_ic_eq_f (t := 88) rfl (by decide) (by decide) ?_
  refine q_aload_n rfl rfl ?_
  refine q_iload rfl rfl ?_
  refine v_sch 117 rfl rfl (by omega) (Nat.le_of_ble_eq_true rfl) (by decide) (by decide) (by decide) ?_
  refine v_bip rfl (by decide) ?_
  refine v_ic_ne_t (t := 130) rfl (by decide) (by decide) ?_
  refine v_iinc (v := 18) rfl rfl (by decide) (by decide) ?_
  refine q_goto (t := 52) rfl (by decide) ?_
  refine q_iload rfl rfl ?_
  refine q_aload_n rfl rfl ?_
  refine v_sln 20 rfl rfl (by omega) (Nat.le_of_ble_eq_true rfl) (by decide) (by decide) ?_
  refine v_ic_gt_f (t := 136) rfl (by decide) (by decide) ?_
  refine q_aload_n rfl rfl ?_
  refine v_cv rfl rfl rfl rfl (by decide) ⟨⟨rfl, rfl⟩, by decide, rfl⟩ (Nat.le_of_ble_eq_true rfl) (Nat.le_of_ble_eq_true rfl) ?_
  refine q_aload_n rfl rfl ?_
  refine v_gi (z := 4) (v := f9) rfl rfl rfl (by decide) rfl rfl (hv2) ?_
  refine v_if_ne_f (t := 11) rfl (by decide) (by omega) ?_
  refine q_iconst rfl ?_
  refine q_goto (t := 12) rfl (by decide) ?_
  refine v_zret rfl rfl (by decide) ?_
  refine bk_inl ?_
  refine v_if_eq_f (t := 136) rfl (by decide) (by decide) ?_
  refine q_iload rfl rfl ?_
  refine q_aload_n rfl rfl ?_
  refine v_sln 20 rfl rfl (by omega) (Nat.le_of_ble_eq_true rfl) (by decide) (by decide) ?_
  refine v_ic_eq_f (t := 88) rfl (by decide) (by decide) ?_
  refine q_aload_n rfl rfl ?_
  refine q_iload rfl rfl ?_
  refine v_sch 115 rfl rfl (by omega) (Nat.le_of_ble_eq_true rfl) (by decide) (by decide) (by decide) ?_
  refine v_bip rfl (by decide) ?_
  refine v_ic_ne_t (t := 130) rfl (by decide) (by decide) ?_
  refine v_iinc (v := 19) rfl rfl (by decide) (by decide) ?_
  refine q_goto (t := 52) rfl (by decide) ?_
  refine q_iload rfl rfl ?_
  refine q_aload_n rfl rfl ?_
  refine v_sln 20 rfl rfl (by omega) (Nat.le_of_ble_eq_true rfl) (by decide) (by decide) ?_
  refine v_ic_gt_f (t := 136) rfl (by decide) (by decide) ?_
  refine q_aload_n rfl rfl ?_
  refine v_cv rfl rfl rfl rfl (by decide) ⟨⟨rfl, rfl⟩, by decide, rfl⟩ (Nat.le_of_ble_eq_true rfl) (Nat.le_of_ble_eq_true rfl) ?_
  refine q_aload_n rfl rfl ?_
  refine v_gi (z := 4) (v := f9) rfl rfl rfl (by decide) rfl rfl (hv2) ?_
  refine v_if_ne_f (t := 11) rfl (by decide) (by omega) ?_
  refine q_iconst rfl ?_
  refine q_goto (t := 12) rfl (by decide) ?_
  refine v_zret rfl rfl (by decide) ?_
  refine bk_inl ?_
  refine v_if_eq_f (t := 136) rfl (by decide) (by decide) ?_
  refine q_iload rfl rfl ?_
  refine q_aload_n rfl rfl ?_
  refine v_sln 20 rfl rfl (by omega) (Nat.le_of_ble_eq_true rfl) (by decide) (by decide) ?_
  refine v_ic_eq_f (t := 88) rfl (by decide) (by decide) ?_
  refine q_aload_n rfl rfl ?_
  refine q_iload rfl rfl ?_
  refine v_sch 116 rfl rfl (by omega) (Nat.le_of_ble_eq_true rfl) (by decide) (by decide) (by decide) ?_
  refine v_bip rfl (by decide) ?_
  refine v_ic_ne_t (t := 130) rfl (by decide) (by decide) ?_
  refine v_iinc (v := 20) rfl rfl (by decide) (by decide) ?_
  refine q_goto (t := 52) rfl (by decide) ?_
  refine q_iload rfl rfl ?_
  refine q_aload_n rfl rfl ?_
  refine v_sln 20 rfl rfl (by omega) (Nat.le_of_ble_eq_true rfl) (by decide) (by decide) ?_
  refine v_ic_gt_f (t := 136) rfl (by decide) (by decide) ?_
  refine q_aload_n rfl rfl ?_
  refine v_cv rfl rfl rfl rfl (by decide) ⟨⟨rfl, rfl⟩, by decide, rfl⟩ (Nat.le_of_ble_eq_true rfl) (Nat.le_of_ble_eq_true rfl) ?_
  refine q_aload_n rfl rfl ?_
  refine v_gi (z := 4) (v := f9) rfl rfl rfl (by decide) rfl rfl (hv2) ?_
  refine v_if_ne_f (t := 11) rfl (by decide) (by omega) ?_
  refine q_iconst rfl ?_
  refine q_goto (t := 12) rfl (by decide) ?_
  refine v_zret rfl rfl (by decide) ?_
  refine bk_inl ?_
  refine v_if_eq_f (t := 136) rfl (by decide) (by decide) ?_
  refine q_iload rfl rfl ?_
  refine q_aload_n rfl rfl ?_
  refine v_sln 20 rfl rfl (by omega) (Nat.le_of_ble_eq_true rfl) (by decide) (by decide) ?_
  refine v_ic_eq_t (t := 88) rfl (by decide) (by decide) ?_
  refine q_iload rfl rfl ?_
  refine q_iload rfl rfl ?_
  refine v_isub (v := 4) rfl (by decide) ?_
  refine q_iload_n rfl rfl ?_
  refine q_iload_n rfl rfl ?_
  refine v_isub (v := L8 - r8) rfl rfl ?_
  by_cases h_5 : 4 ≠ L8 - r8
  · refine v_ic_ne_t (t := 121) rfl (by decide) ⟨h_5, ⟨by decide, by decide⟩, by omega, by omega⟩ ?_
    refine v_iinc (v := 4) rfl rfl (by decide) (by decide) ?_
    refine Wp_ls [(4, vi 4), (6, vi 20), (0, .ref 1), (1, .ref (a_SB + 8)), (2, vi r8), (3, vi L8), (5, vi 16)] (lsub_cons rfl (lsub_cons rfl (lsub_cons rfl (lsub_cons rfl (lsub_cons rfl (lsub_cons rfl (lsub_cons rfl lsub_nil))))))) ?_
    refine q_iload rfl rfl ?_
    refine q_iconst rfl ?_
    refine v_iadd (v := 21) rfl (by decide) ?_
    refine q_istore rfl (by decide) ?_
    refine v_iinc (v := 21) rfl rfl (by decide) (by decide) ?_
    refine q_goto (t := 52) rfl (by decide) ?_
    refine q_iload rfl rfl ?_
    refine q_aload_n rfl rfl ?_
    refine v_sln 20 rfl rfl (by omega) (Nat.le_of_ble_eq_true rfl) (by decide) (by decide) ?_
    refine v_ic_gt_t (t := 136) rfl (by decide) (by decide) ?_
    refine q_aload_n rfl rfl ?_
    refine q_iconst rfl ?_
    refine q_iload_n rfl rfl ?_
    refine v_cv rfl rfl rfl rfl (by decide) ⟨⟨rfl, rfl⟩, by decide, rfl⟩ (Nat.le_of_ble_eq_true rfl) (Nat.le_of_ble_eq_true rfl) ?_
    refine q_aload_n rfl rfl ?_
    refine v_gi (z := 4) (v := f9) rfl rfl rfl (by decide) rfl rfl (hv2) ?_
    refine v_if_ne_f (t := 17) rfl (by decide) (by omega) ?_
    refine q_aload_n rfl rfl ?_
    refine q_iload_n rfl rfl ?_
    refine v_pi (z := 4) rfl rfl rfl (by decide) rfl rfl rfl (by decide) ?_
    refine q_aload_n rfl rfl ?_
    refine q_iload_n rfl rfl ?_
    refine v_pi (z := 5) rfl rfl rfl (by decide) rfl rfl rfl (by decide) ?_
    refine q_vret rfl rfl ?_
    refine bk_inl ?_
    refine q_iconst rfl ?_
    refine q_iret rfl rfl ?_
    have hw9 : W8 = (-1) := hdW8.symm.trans (wd8_3_f (by omega))
    have hI_6 := iw_1_4 (v := 1) hI ⟨by decide, by decide⟩
    have hI_7 := iw_1_5 (v := r8) hI_6 ⟨by omega, by omega⟩
    have h_8 : (up (up c 1 4 1) 1 5 r8) 1 2 = a9 := ((up_n (by decide)).trans ((up_n (by decide)).trans (hv1)))
    have h_9 : (up (up c 1 4 1) 1 5 r8) 1 4 = 1 := ((up_n (by decide)).trans (up_e rfl))
    have h_10 : (up (up c 1 4 1) 1 5 r8) 1 5 = r8 := (up_e rfl)
    exact zv (by omega) (K0 (up (up c 1 4 1) 1 5 r8) hI_7 (fun a j hm => (up_b (Decidable.or_iff_not_imp_left.mpr (fun h1 h2 => hm (Or.inr (Or.inr ⟨Decidable.not_not.mp h1, h2⟩))))).trans (up_b (Decidable.or_iff_not_imp_left.mpr (fun h1 h2 => hm (Or.inr (Or.inl ⟨Decidable.not_not.mp h1, h2⟩)))))) (by omega) (by omega) (by omega) (by omega))
  · refine v_ic_ne_f (t := 121) rfl (by decide) (Decidable.not_not.mp h_5) ?_
    refine q_aload_n rfl rfl ?_
    refine q_aload_n rfl rfl ?_
    refine q_iload rfl rfl ?_
    refine q_iload_n rfl rfl ?_
    refine q_iload_n rfl rfl ?_
    refine q_iload_n rfl rfl ?_
    refine v_isub (v := L8 - r8) rfl rfl ?_
    refine v_cv rfl rfl rfl rfl (by decide) ⟨⟨rfl, rfl⟩, by decide, rfl⟩ (Nat.le_of_ble_eq_true rfl) (Nat.le_of_ble_eq_true rfl) ?_
    refine q_iconst rfl ?_
    refine q_istore rfl (by decide) ?_
    refine q_iload rfl rfl ?_
    refine q_iload rfl rfl ?_
    refine v_ic_ge_f (t := 38) rfl (by decide) (by omega) ?_
    refine q_aload_n rfl rfl ?_
    refine q_iload_n rfl rfl ?_
    refine q_iload rfl rfl ?_
    refine v_iadd (v := 16) rfl (by decide) ?_
    refine v_sch 100 rfl rfl (by omega) (Nat.le_of_ble_eq_true rfl) (by decide) (by decide) (by decide) ?_
    refine q_aload_n rfl rfl ?_
    refine v_gr (t := 2) rfl rfl rfl (by decide) rfl ?_
    refine q_iload_n rfl rfl ?_
    refine q_iload rfl rfl ?_
    refine v_iadd (v := r8) rfl (by omega) ?_
    have h_11 : -2147483648 ≤ (B r8) ∧ (B r8) ≤ 2147483647 := by rw [← hB r8]; exact ir_2 hI r8
    refine v_ba (v := (B r8)) rfl rfl (by decide) (by decide) (by omega) (hB r8) ?_
    by_cases h_12 : 100 = (B r8)
    · refine v_ic_eq_t (t := 32) rfl (by decide) h_12 ?_
      refine v_iinc (v := 1) rfl rfl (by decide) (by decide) ?_
      refine q_goto (t := 3) rfl (by decide) ?_
      refine q_iload rfl rfl ?_
      refine q_iload rfl rfl ?_
      refine v_ic_ge_f (t := 38) rfl (by decide) (by omega) ?_
      refine q_aload_n rfl rfl ?_
      refine q_iload_n rfl rfl ?_
      refine q_iload rfl rfl ?_
      refine v_iadd (v := 17) rfl (by decide) ?_
      refine v_sch 117 rfl rfl (by omega) (Nat.le_of_ble_eq_true rfl) (by decide) (by decide) (by decide) ?_
      refine q_aload_n rfl rfl ?_
      refine v_gr (t := 2) rfl rfl rfl (by decide) rfl ?_
      refine q_iload_n rfl rfl ?_
      refine q_iload rfl rfl ?_
      refine v_iadd (v := r8 + 1) rfl rfl ?_
      have h_13 : -2147483648 ≤ (B (r8 + 1)) ∧ (B (r8 + 1)) ≤ 2147483647 := by rw [← hB (r8 + 1)]; exact ir_2 hI (r8 + 1)
      refine v_ba (v := (B (r8 + 1))) rfl rfl (by decide) (by decide) (by omega) (hB (r8 + 1)) ?_
      by_cases h_14 : 117 = (B (r8 + 1))
      · refine v_ic_eq_t (t := 32) rfl (by decide) h_14 ?_
        refine v_iinc (v := 2) rfl rfl (by decide) (by decide) ?_
        refine q_goto (t := 3) rfl (by decide) ?_
        refine q_iload rfl rfl ?_
        refine q_iload rfl rfl ?_
        refine v_ic_ge_f (t := 38) rfl (by decide) (by omega) ?_
        refine q_aload_n rfl rfl ?_
        refine q_iload_n rfl rfl ?_
        refine q_iload rfl rfl ?_
        refine v_iadd (v := 18) rfl (by decide) ?_
        refine v_sch 115 rfl rfl (by omega) (Nat.le_of_ble_eq_true rfl) (by decide) (by decide) (by decide) ?_
        refine q_aload_n rfl rfl ?_
        refine v_gr (t := 2) rfl rfl rfl (by decide) rfl ?_
        refine q_iload_n rfl rfl ?_
        refine q_iload rfl rfl ?_
        refine v_iadd (v := r8 + 2) rfl rfl ?_
        have h_15 : -2147483648 ≤ (B (r8 + 2)) ∧ (B (r8 + 2)) ≤ 2147483647 := by rw [← hB (r8 + 2)]; exact ir_2 hI (r8 + 2)
        refine v_ba (v := (B (r8 + 2))) rfl rfl (by decide) (by decide) (by omega) (hB (r8 + 2)) ?_
        by_cases h_16 : 115 = (B (r8 + 2))
        · refine v_ic_eq_t (t := 32) rfl (by decide) h_16 ?_
          refine v_iinc (v := 3) rfl rfl (by decide) (by decide) ?_
          refine q_goto (t := 3) rfl (by decide) ?_
          refine q_iload rfl rfl ?_
          refine q_iload rfl rfl ?_
          refine v_ic_ge_f (t := 38) rfl (by decide) (by omega) ?_
          refine q_aload_n rfl rfl ?_
          refine q_iload_n rfl rfl ?_
          refine q_iload rfl rfl ?_
          refine v_iadd (v := 19) rfl (by decide) ?_
          refine v_sch 116 rfl rfl (by omega) (Nat.le_of_ble_eq_true rfl) (by decide) (by decide) (by decide) ?_
          refine q_aload_n rfl rfl ?_
          refine v_gr (t := 2) rfl rfl rfl (by decide) rfl ?_
          refine q_iload_n rfl rfl ?_
          refine q_iload rfl rfl ?_
          refine v_iadd (v := r8 + 3) rfl rfl ?_
          have h_17 : -2147483648 ≤ (B (r8 + 3)) ∧ (B (r8 + 3)) ≤ 2147483647 := by rw [← hB (r8 + 3)]; exact ir_2 hI (r8 + 3)
          refine v_ba (v := (B (r8 + 3))) rfl rfl (by decide) (by decide) (by omega) (hB (r8 + 3)) ?_
          by_cases h_18 : 116 = (B (r8 + 3))
          · refine v_ic_eq_t (t := 32) rfl (by decide) h_18 ?_
            refine v_iinc (v := 4) rfl rfl (by decide) (by decide) ?_
            refine Wp_ls [(5, vi 4), (0, .ref 1), (1, .ref (a_SB + 8)), (2, vi 16), (3, vi r8), (4, vi (L8 - r8))] (lsub_cons rfl (lsub_cons rfl (lsub_cons rfl (lsub_cons rfl (lsub_cons rfl (lsub_cons rfl lsub_nil)))))) ?_
            refine q_goto (t := 3) rfl (by decide) ?_
            refine q_iload rfl rfl ?_
            refine q_iload rfl rfl ?_
            refine v_ic_ge_t (t := 38) rfl (by decide) (by omega) ?_
            refine q_iconst rfl ?_
            refine v_zret rfl rfl (by decide) ?_
            refine bk_inl ?_
            refine v_if_eq_f (t := 121) rfl (by decide) (by decide) ?_
            refine q_aload_n rfl rfl ?_
            refine q_iload_n rfl rfl ?_
            refine v_pi (z := 2) rfl rfl rfl (by decide) rfl rfl rfl (by decide) ?_
            refine q_iload rfl rfl ?_
            refine q_iret rfl rfl ?_
            have hw9 : W8 = 3 := hdW8.symm.trans (wd8_3_t (by omega))
            have hI_19 := iw_1_2 (v := L8) hI ⟨by omega, by omega⟩
            have h_20 : (up c 1 2 L8) 1 2 = L8 := (up_e rfl)
            have h_21 : (up c 1 2 L8) 1 4 = f9 := ((up_n (by decide)).trans (hv2))
            have h_22 : (up c 1 2 L8) 1 5 = p9 := ((up_n (by decide)).trans (hv3))
            exact zv (by omega) (K1 (up c 1 2 L8) hI_19 (fun a j hm => up_b (Decidable.or_iff_not_imp_left.mpr (fun h1 h2 => hm (Or.inl ⟨Decidable.not_not.mp h1, h2⟩)))) (by omega) (by omega) (by omega) (by omega))
          · refine v_ic_eq_f (t := 32) rfl (by decide) ⟨h_18, ⟨by decide, by decide⟩, by omega, by omega⟩ ?_
            refine q_iconst rfl ?_
            refine v_zret rfl rfl (by decide) ?_
            refine bk_inl ?_
            refine v_if_eq_t (t := 121) rfl (by decide) (by decide) ?_
            refine v_iinc (v := 4) rfl rfl (by decide) (by decide) ?_
            refine Wp_ls [(4, vi 4), (6, vi 20), (0, .ref 1), (1, .ref (a_SB + 8)), (2, vi r8), (3, vi L8), (5, vi 16)] (lsub_cons rfl (lsub_cons rfl (lsub_cons rfl (lsub_cons rfl (lsub_cons rfl (lsub_cons rfl (lsub_cons rfl lsub_nil))))))) ?_
            refine q_iload rfl rfl ?_
            refine q_iconst rfl ?_
            refine v_iadd (v := 21) rfl (by decide) ?_
            refine q_istore rfl (by decide) ?_
            refine v_iinc (v := 21) rfl rfl (by decide) (by decide) ?_
            refine q_goto (t := 52) rfl (by decide) ?_
            refine q_iload rfl rfl ?_
            refine q_aload_n rfl rfl ?_
            refine v_sln 20 rfl rfl (by omega) (Nat.le_of_ble_eq_true rfl) (by decide) (by decide) ?_
            refine v_ic_gt_t (t := 136) rfl (by decide) (by decide) ?_
            refine q_aload_n rfl rfl ?_
            refine q_iconst rfl ?_
            refine q_iload_n rfl rfl ?_
            refine v_cv rfl rfl rfl rfl (by decide) ⟨⟨rfl, rfl⟩, by decide, rfl⟩ (Nat.le_of_ble_eq_true rfl) (Nat.le_of_ble_eq_true rfl) ?_
            refine q_aload_n rfl rfl ?_
            refine v_gi (z := 4) (v := f9) rfl rfl rfl (by decide) rfl rfl (hv2) ?_
            refine v_if_ne_f (t := 17) rfl (by decide) (by omega) ?_
            refine q_aload_n rfl rfl ?_
            refine q_iload_n rfl rfl ?_
            refine v_pi (z := 4) rfl rfl rfl (by decide) rfl rfl rfl (by decide) ?_
            refine q_aload_n rfl rfl ?_
            refine q_iload_n rfl rfl ?_
            refine v_pi (z := 5) rfl rfl rfl (by decide) rfl rfl rfl (by decide) ?_
            refine q_vret rfl rfl ?_
            refine bk_inl ?_
            refine q_iconst rfl ?_
            refine q_iret rfl rfl ?_
            have hw9 : W8 = (-1) := hdW8.symm.trans (wd8_3_f (by omega))
            have hI_23 := iw_1_4 (v := 1) hI ⟨by decide, by decide⟩
            have hI_24 := iw_1_5 (v := r8) hI_23 ⟨by omega, by omega⟩
            have h_25 : (up (up c 1 4 1) 1 5 r8) 1 2 = a9 := ((up_n (by decide)).trans ((up_n (by decide)).trans (hv1)))
            have h_26 : (up (up c 1 4 1) 1 5 r8) 1 4 = 1 := ((up_n (by decide)).trans (up_e rfl))
            have h_27 : (up (up c 1 4 1) 1 5 r8) 1 5 = r8 := (up_e rfl)
            exact zv (by omega) (K0 (up (up c 1 4 1) 1 5 r8) hI_24 (fun a j hm => (up_b (Decidable.or_iff_not_imp_left.mpr (fun h1 h2 => hm (Or.inr (Or.inr ⟨Decidable.not_not.mp h1, h2⟩))))).trans (up_b (Decidable.or_iff_not_imp_left.mpr (fun h1 h2 => hm (Or.inr (Or.inl ⟨Decidable.not_not.mp h1, h2⟩)))))) (by omega) (by omega) (by omega) (by omega))
        · refine v_ic_eq_f (t := 32) rfl (by decide) ⟨h_16, ⟨by decide, by decide⟩, by omega, by omega⟩ ?_
          refine q_iconst rfl ?_
          refine v_zret rfl rfl (by decide) ?_
          refine bk_inl ?_
          refine v_if_eq_t (t := 121) rfl (by decide) (by decide) ?_
          refine v_iinc (v := 4) rfl rfl (by decide) (by decide) ?_
          refine Wp_ls [(4, vi 4), (6, vi 20), (0, .ref 1), (1, .ref (a_SB + 8)), (2, vi r8), (3, vi L8), (5, vi 16)] (lsub_cons rfl (lsub_cons rfl (lsub_cons rfl (lsub_cons rfl (lsub_cons rfl (lsub_cons rfl (lsub_cons rfl lsub_nil))))))) ?_
          refine q_iload rfl rfl ?_
          refine q_iconst rfl ?_
          refine v_iadd (v := 21) rfl (by decide) ?_
          refine q_istore rfl (by decide) ?_
          refine v_iinc (v := 21) rfl rfl (by decide) (by decide) ?_
          refine q_goto (t := 52) rfl (by decide) ?_
          refine q_iload rfl rfl ?_
          refine q_aload_n rfl rfl ?_
          refine v_sln 20 rfl rfl (by omega) (Nat.le_of_ble_eq_true rfl) (by decide) (by decide) ?_
          refine v_ic_gt_t (t := 136) rfl (by decide) (by decide) ?_
          refine q_aload_n rfl rfl ?_
          refine q_iconst rfl ?_
          refine q_iload_n rfl rfl ?_
          refine v_cv rfl rfl rfl rfl (by decide) ⟨⟨rfl, rfl⟩, by decide, rfl⟩ (Nat.le_of_ble_eq_true rfl) (Nat.le_of_ble_eq_true rfl) ?_
          refine q_aload_n rfl rfl ?_
          refine v_gi (z := 4) (v := f9) rfl rfl rfl (by decide) rfl rfl (hv2) ?_
          refine v_if_ne_f (t := 17) rfl (by decide) (by omega) ?_
          refine q_aload_n rfl rfl ?_
          refine q_iload_n rfl rfl ?_
          refine v_pi (z := 4) rfl rfl rfl (by decide) rfl rfl rfl (by decide) ?_
          refine q_aload_n rfl rfl ?_
          refine q_iload_n rfl rfl ?_
          refine v_pi (z := 5) rfl rfl rfl (by decide) rfl rfl rfl (by decide) ?_
          refine q_vret rfl rfl ?_
          refine bk_inl ?_
          refine q_iconst rfl ?_
          refine q_iret rfl rfl ?_
          have hw9 : W8 = (-1) := hdW8.symm.trans (wd8_3_f (by omega))
          have hI_28 := iw_1_4 (v := 1) hI ⟨by decide, by decide⟩
          have hI_29 := iw_1_5 (v := r8) hI_28 ⟨by omega, by omega⟩
          have h_30 : (up (up c 1 4 1) 1 5 r8) 1 2 = a9 := ((up_n (by decide)).trans ((up_n (by decide)).trans (hv1)))
          have h_31 : (up (up c 1 4 1) 1 5 r8) 1 4 = 1 := ((up_n (by decide)).trans (up_e rfl))
          have h_32 : (up (up c 1 4 1) 1 5 r8) 1 5 = r8 := (up_e rfl)
          exact zv (by omega) (K0 (up (up c 1 4 1) 1 5 r8) hI_29 (fun a j hm => (up_b (Decidable.or_iff_not_imp_left.mpr (fun h1 h2 => hm (Or.inr (Or.inr ⟨Decidable.not_not.mp h1, h2⟩))))).trans (up_b (Decidable.or_iff_not_imp_left.mpr (fun h1 h2 => hm (Or.inr (Or.inl ⟨Decidable.not_not.mp h1, h2⟩)))))) (by omega) (by omega) (by omega) (by omega))
      · refine v_ic_eq_f (t := 32) rfl (by decide) ⟨h_14, ⟨by decide, by decide⟩, by omega, by omega⟩ ?_
        refine q_iconst rfl ?_
        refine v_zret rfl rfl (by decide) ?_
        refine bk_inl ?_
        refine v_if_eq_t (t := 121) rfl (by decide) (by decide) ?_
        refine v_iinc (v := 4) rfl rfl (by decide) (by decide) ?_
        refine Wp_ls [(4, vi 4), (6, vi 20), (0, .ref 1), (1, .ref (a_SB + 8)), (2, vi r8), (3, vi L8), (5, vi 16)] (lsub_cons rfl (lsub_cons rfl (lsub_cons rfl (lsub_cons rfl (lsub_cons rfl (lsub_cons rfl (lsub_cons rfl lsub_nil))))))) ?_
        refine q_iload rfl rfl ?_
        refine q_iconst rfl ?_
        refine v_iadd (v := 21) rfl (by decide) ?_
        refine q_istore rfl (by decide) ?_
        refine v_iinc (v := 21) rfl rfl (by decide) (by decide) ?_
        refine q_goto (t := 52) rfl (by decide) ?_
        refine q_iload rfl rfl ?_
        refine q_aload_n rfl rfl ?_
        refine v_sln 20 rfl rfl (by omega) (Nat.le_of_ble_eq_true rfl) (by decide) (by decide) ?_
        refine v_ic_gt_t (t := 136) rfl (by decide) (by decide) ?_
        refine q_aload_n rfl rfl ?_
        refine q_iconst rfl ?_
        refine q_iload_n rfl rfl ?_
        refine v_cv rfl rfl rfl rfl (by decide) ⟨⟨rfl, rfl⟩, by decide, rfl⟩ (Nat.le_of_ble_eq_true rfl) (Nat.le_of_ble_eq_true rfl) ?_
        refine q_aload_n rfl rfl ?_
        refine v_gi (z := 4) (v := f9) rfl rfl rfl (by decide) rfl rfl (hv2) ?_
        refine v_if_ne_f (t := 17) rfl (by decide) (by omega) ?_
        refine q_aload_n rfl rfl ?_
        refine q_iload_n rfl rfl ?_
        refine v_pi (z := 4) rfl rfl rfl (by decide) rfl rfl rfl (by decide) ?_
        refine q_aload_n rfl rfl ?_
        refine q_iload_n rfl rfl ?_
        refine v_pi (z := 5) rfl rfl rfl (by decide) rfl rfl rfl (by decide) ?_
        refine q_vret rfl rfl ?_
        refine bk_inl ?_
        refine q_iconst rfl ?_
        refine q_iret rfl rfl ?_
        have hw9 : W8 = (-1) := hdW8.symm.trans (wd8_3_f (by omega))
        have hI_33 := iw_1_4 (v := 1) hI ⟨by decide, by decide⟩
        have hI_34 := iw_1_5 (v := r8) hI_33 ⟨by omega, by omega⟩
        have h_35 : (up (up c 1 4 1) 1 5 r8) 1 2 = a9 := ((up_n (by decide)).trans ((up_n (by decide)).trans (hv1)))
        have h_36 : (up (up c 1 4 1) 1 5 r8) 1 4 = 1 := ((up_n (by decide)).trans (up_e rfl))
        have h_37 : (up (up c 1 4 1) 1 5 r8) 1 5 = r8 := (up_e rfl)
        exact zv (by omega) (K0 (up (up c 1 4 1) 1 5 r8) hI_34 (fun a j hm => (up_b (Decidable.or_iff_not_imp_left.mpr (fun h1 h2 => hm (Or.inr (Or.inr ⟨Decidable.not_not.mp h1, h2⟩))))).trans (up_b (Decidable.or_iff_not_imp_left.mpr (fun h1 h2 => hm (Or.inr (Or.inl ⟨Decidable.not_not.mp h1, h2⟩)))))) (by omega) (by omega) (by omega) (by omega))
    · refine v_ic_eq_f (t := 32) rfl (by decide) ⟨h_12, ⟨by decide, by decide⟩, by omega, by omega⟩ ?_
      refine q_iconst rfl ?_
      refine v_zret rfl rfl (by decide) ?_
      refine bk_inl ?_
      refine v_if_eq_t (t := 121) rfl (by decide) (by decide) ?_
      refine v_iinc (v := 4) rfl rfl (by decide) (by decide) ?_
      refine Wp_ls [(4, vi 4), (6, vi 20), (0, .ref 1), (1, .ref (a_SB + 8)), (2, vi r8), (3, vi L8), (5, vi 16)] (lsub_cons rfl (lsub_cons rfl (lsub_cons rfl (lsub_cons rfl (lsub_cons rfl (lsub_cons rfl (lsub_cons rfl lsub_nil))))))) ?_
      refine q_iload rfl rfl ?_
      refine q_iconst rfl ?_
      refine v_iadd (v := 21) rfl (by decide) ?_
      refine q_istore rfl (by decide) ?_
      refine v_iinc (v := 21) rfl rfl (by decide) (by decide) ?_
      refine q_goto (t := 52) rfl (by decide) ?_
      refine q_iload rfl rfl ?_
      refine q_aload_n rfl rfl ?_
      refine v_sln 20 rfl rfl (by omega) (Nat.le_of_ble_eq_true rfl) (by decide) (by decide) ?_
      refine v_ic_gt_t (t := 136) rfl (by decide) (by decide) ?_
      refine q_aload_n rfl rfl ?_
      refine q_iconst rfl ?_
      refine q_iload_n rfl rfl ?_
      refine v_cv rfl rfl rfl rfl (by decide) ⟨⟨rfl, rfl⟩, by decide, rfl⟩ (Nat.le_of_ble_eq_true rfl) (Nat.le_of_ble_eq_true rfl) ?_
      refine q_aload_n rfl rfl ?_
      refine v_gi (z := 4) (v := f9) rfl rfl rfl (by decide) rfl rfl (hv2) ?_
      refine v_if_ne_f (t := 17) rfl (by decide) (by omega) ?_
      refine q_aload_n rfl rfl ?_
      refine q_iload_n rfl rfl ?_
      refine v_pi (z := 4) rfl rfl rfl (by decide) rfl rfl rfl (by decide) ?_
      refine q_aload_n rfl rfl ?_
      refine q_iload_n rfl rfl ?_
      refine v_pi (z := 5) rfl rfl rfl (by decide) rfl rfl rfl (by decide) ?_
      refine q_vret rfl rfl ?_
      refine bk_inl ?_
      refine q_iconst rfl ?_
      refine q_iret rfl rfl ?_
      have hw9 : W8 = (-1) := hdW8.symm.trans (wd8_3_f (by omega))
      have hI_38 := iw_1_4 (v := 1) hI ⟨by decide, by decide⟩
      have hI_39 := iw_1_5 (v := r8) hI_38 ⟨by omega, by omega⟩
      have h_40 : (up (up c 1 4 1) 1 5 r8) 1 2 = a9 := ((up_n (by decide)).trans ((up_n (by decide)).trans (hv1)))
      have h_41 : (up (up c 1 4 1) 1 5 r8) 1 4 = 1 := ((up_n (by decide)).trans (up_e rfl))
      have h_42 : (up (up c 1 4 1) 1 5 r8) 1 5 = r8 := (up_e rfl)
      exact zv (by omega) (K0 (up (up c 1 4 1) 1 5 r8) hI_39 (fun a j hm => (up_b (Decidable.or_iff_not_imp_left.mpr (fun h1 h2 => hm (Or.inr (Or.inr ⟨Decidable.not_not.mp h1, h2⟩))))).trans (up_b (Decidable.or_iff_not_imp_left.mpr (fun h1 h2 => hm (Or.inr (Or.inl ⟨Decidable.not_not.mp h1, h2⟩)))))) (by omega) (by omega) (by omega) (by omega))

set_option maxRecDepth 100000 in
set_option maxHeartbeats 4000000 in
theorem f_10_8_2 {sc : List Int32} {e : Int} {d u P Q : Nat} {c : ME} {e1 a9 f9 p9 W8 r8 L8 : Int} {B : Int → Int} {Z : AR → Prop} (hI : Iv u e P Q c) (hq0 : (f9 = 0)) (hq1 : (r8 ≥ 0 ∧ r8 ≤ L8 ∧ L8 ≤ 600)) (hv0 : c 1 1 = e1) (hv1 : c 1 2 = a9) (hv2 : c 1 4 = f9) (hv3 : c 1 5 = p9) (hB : ∀ j : Int, c 2 j = B j) (hdW8 : wd8_2 B r8 L8 = W8) (K0 : ∀ c2 : ME, Iv u e P Q c2 → (∀ (a : Nat) (j : Int), ¬ ((a = 1 ∧ j = 2) ∨ (a = 1 ∧ j = 4) ∨ (a = 1 ∧ j = 5)) → c2 a j = c a j) → ((W8 = (-1))) → (c2 1 2 = a9) → (c2 1 4 = 1) → (c2 1 5 = r8) → Z (.inl (some (vi (-1))), Wd P Q P P c2, 0, 0)) (K1 : ∀ c2 : ME, Iv u e P Q c2 → (∀ (a : Nat) (j : Int), ¬ ((a = 1 ∧ j = 2) ∨ (a = 1 ∧ j = 4) ∨ (a = 1 ∧ j = 5)) → c2 a j = c a j) → ((W8 ≥ 0 ∧ W8 ≤ 3)) → (c2 1 2 = L8) → (c2 1 4 = 0) → (c2 1 5 = p9) → Z (.inl (some (vi W8)), Wd P Q P P c2, 0, 0)) : Wp sc (d + 12) 10 52 [(0, .ref 1), (1, .ref (a_SB + 8)), (2, vi r8), (3, vi L8), (4, vi 2), (5, vi 10), (6, vi 10)] [] (Wd P Q P P c) 0 0 Z := by
  have hP := iv_P hI
  have hQ := iv_Q hI
  have h_1 := ir_1_1 hI
  have h_2 := ir_1_2 hI
  have h_3 := ir_1_4 hI
  have h_4 := ir_1_5 hI
  refine q_iload rfl rfl ?_
  refine q_aload_n rfl rfl ?_
  refine v_sln 20 rfl rfl (by omega) (Nat.le_of_ble_eq_true rfl) (by decide) (by decide) ?_
  refine v_ic_gt_f (t := 136) rfl (by decide) (by decide) ?_
  refine q_aload_n rfl rfl ?_
  refine v_cv rfl rfl rfl rfl (by decide) ⟨⟨rfl, rfl⟩, by decide, rfl⟩ (Nat.le_of_ble_eq_true rfl) (Nat.le_of_ble_eq_true rfl) ?_
  refine q_aload_n rfl rfl ?_
  refine v_gi (z := 4) (v := f9) rfl rfl rfl (by decide) rfl rfl (hv2) ?_
  refine v_if_ne_f (t := 11) rfl (by decide) (by omega) ?_
  refine q_iconst rfl ?_
  refine q_goto (t := 12) rfl (by decide) ?_
  refine v_zret rfl rfl (by decide) ?_
  refine bk_inl ?_
  refine v_if_eq_f (t := 136) rfl (by decide) (by decide) ?_
  refine q_iload rfl rfl ?_
  refine q_aload_n rfl rfl ?_
  refine v_sln 20 rfl rfl (by omega) (Nat.le_of_ble_eq_true rfl) (by decide) (by decide) ?_
  refine v_ic_eq_f (t := 88) rfl (by decide) (by decide) ?_
  refine q_aload_n rfl rfl ?_
  refine q_iload rfl rfl ?_
  refine v_sch 115 rfl rfl (by omega) (Nat.le_of_ble_eq_true rfl) (by decide) (by decide) (by decide) ?_
  refine v_bip rfl (by decide) ?_
  refine v_ic_ne_t (t := 130) rfl (by decide) (by decide) ?_
  refine v_iinc (v := 11) rfl rfl (by decide) (by decide) ?_
  refine q_goto (t := 52) rfl (by decide) ?_
  refine q_iload rfl rfl ?_
  refine q_aload_n rfl rfl ?_
  refine v_sln 20 rfl rfl (by omega) (Nat.le_of_ble_eq_true rfl) (by decide) (by decide) ?_
  refine v_ic_gt_f (t := 136) rfl (by decide) (by decide) ?_
  refine q_aload_n rfl rfl ?_
  refine v_cv rfl rfl rfl rfl (by decide) ⟨⟨rfl, rfl⟩, by decide, rfl⟩ (Nat.le_of_ble_eq_true rfl) (Nat.le_of_ble_eq_true rfl) ?_
  refine q_aload_n rfl rfl ?_
  refine v_gi (z := 4) (v := f9) rfl rfl rfl (by decide) rfl rfl (hv2) ?_
  refine v_if_ne_f (t := 11) rfl (by decide) (by omega) ?_
  refine q_iconst rfl ?_
  refine q_goto (t := 12) rfl (by decide) ?_
  refine v_zret rfl rfl (by decide) ?_
  refine bk_inl ?_
  refine v_if_eq_f (t := 136) rfl (by decide) (by decide) ?_
  refine q_iload rfl rfl ?_
  refine q_aload_n rfl rfl ?_
  refine v_sln 20 rfl rfl (by omega) (Nat.le_of_ble_eq_true rfl) (by decide) (by decide) ?_
  refine v_ic_eq_f (t := 88) rfl (by decide) (by decide) ?_
  refine q_aload_n rfl rfl ?_
  refine q_iload rfl rfl ?_
  refine v_sch 105 rfl rfl (by omega) (Nat.le_of_ble_eq_true rfl) (by decide) (by decide) (by decide) ?_
  refine v_bip rfl (by decide) ?_
  refine v_ic_ne_t (t := 130) rfl (by decide) (by decide) ?_
  refine v_iinc (v := 12) rfl rfl (by decide) (by decide) ?_
  refine q_goto (t := 52) rfl (by decide) ?_
  refine q_iload rfl rfl ?_
  refine q_aload_n rfl rfl ?_
  refine v_sln 20 rfl rfl (by omega) (Nat.le_of_ble_eq_true rfl) (by decide) (by decide) ?_
  refine v_ic_gt_f (t := 136) rfl (by decide) (by decide) ?_
  refine q_aload_n rfl rfl ?_
  refine v_cv rfl rfl rfl rfl (by decide) ⟨⟨rfl, rfl⟩, by decide, rfl⟩ (Nat.le_of_ble_eq_true rfl) (Nat.le_of_ble_eq_true rfl) ?_
  refine q_aload_n rfl rfl ?_
  refine v_gi (z := 4) (v := f9) rfl rfl rfl (by decide) rfl rfl (hv2) ?_
  refine v_if_ne_f (t := 11) rfl (by decide) (by omega) ?_
  refine q_iconst rfl ?_
  refine q_goto (t := 12) rfl (by decide) ?_
  refine v_zret rfl rfl (by decide) ?_
  refine bk_inl ?_
  refine v_if_eq_f (t := 136) rfl (by decide) (by decide) ?_
  refine q_iload rfl rfl ?_
  refine q_aload_n rfl rfl ?_
  refine v_sln 20 rfl rfl (by omega) (Nat.le_of_ble_eq_true rfl) (by decide) (by decide) ?_
  refine v_ic_eq_f (t := 88) rfl (by decide) (by decide) ?_
  refine q_aload_n rfl rfl ?_
  refine q_iload rfl rfl ?_
  refine v_sch 101 rfl rfl (by omega) (Nat.le_of_ble_eq_true rfl) (by decide) (by decide) (by decide) ?_
  refine v_bip rfl (by decide) ?_
  refine v_ic_ne_t (t := 130) rfl (by decide) (by decide) ?_
  refine v_iinc (v := 13) rfl rfl (by decide) (by decide) ?_
  refine q_goto (t := 52) rfl (by decide) ?_
  refine q_iload rfl rfl ?_
  refine q_aload_n rfl rfl ?_
  refine v_sln 20 rfl rfl (by omega) (Nat.le_of_ble_eq_true rfl) (by decide) (by decide) ?_
  refine v_ic_gt_f (t := 136) rfl (by decide) (by decide) ?_
  refine q_aload_n rfl rfl ?_
  refine v_cv rfl rfl rfl rfl (by decide) ⟨⟨rfl, rfl⟩, by decide, rfl⟩ (Nat.le_of_ble_eq_true rfl) (Nat.le_of_ble_eq_true rfl) ?_
  refine q_aload_n rfl rfl ?_
  refine v_gi (z := 4) (v := f9) rfl rfl rfl (by decide) rfl rfl (hv2) ?_
  refine v_if_ne_f (t := 11) rfl (by decide) (by omega) ?_
  refine q_iconst rfl ?_
  refine q_goto (t := 12) rfl (by decide) ?_
  refine v_zret rfl rfl (by decide) ?_
  refine bk_inl ?_
  refine v_if_eq_f (t := 136) rfl (by decide) (by decide) ?_
  refine q_iload rfl rfl ?_
  refine q_aload_n rfl rfl ?_
  refine v_sln 20 rfl rfl (by omega) (Nat.le_of_ble_eq_true rfl) (by decide) (by decide) ?_
  refine v_ic_eq_f (t := 88) rfl (by decide) (by decide) ?_
  refine q_aload_n rfl rfl ?_
  refine q_iload rfl rfl ?_
  refine v_sch 118 rfl rfl (by omega) (Nat.le_of_ble_eq_true rfl) (by decide) (by decide) (by decide) ?_
  refine v_bip rfl (by decide) ?_
  refine v_ic_ne_t (t := 130) rfl (by decide) (by decide) ?_
  refine v_iinc (v := 14) rfl rfl (by decide) (by decide) ?_
  refine q_goto (t := 52) rfl (by decide) ?_
  refine q_iload rfl rfl ?_
  refine q_aload_n rfl rfl ?_
  refine v_sln 20 rfl rfl (by omega) (Nat.le_of_ble_eq_true rfl) (by decide) (by decide) ?_
  refine v_ic_gt_f (t := 136) rfl (by decide) (by decide) ?_
  refine q_aload_n rfl rfl ?_
  refine v_cv rfl rfl rfl rfl (by decide) ⟨⟨rfl, rfl⟩, by decide, rfl⟩ (Nat.le_of_ble_eq_true rfl) (Nat.le_of_ble_eq_true rfl) ?_
  refine q_aload_n rfl rfl ?_
  refine v_gi (z := 4) (v := f9) rfl rfl rfl (by decide) rfl rfl (hv2) ?_
  refine v_if_ne_f (t := 11) rfl (by decide) (by omega) ?_
  refine q_iconst rfl ?_
  refine q_goto (t := 12) rfl (by decide) ?_
  refine v_zret rfl rfl (by decide) ?_
  refine bk_inl ?_
  refine v_if_eq_f (t := 136) rfl (by decide) (by decide) ?_
  refine q_iload rfl rfl ?_
  refine q_aload_n rfl rfl ?_
  refine v_sln 20 rfl rfl (by omega) (Nat.le_of_ble_eq_true rfl) (by decide) (by decide) ?_
  refine v_ic_eq_f (t := 88) rfl (by decide) (by decide) ?_
  refine q_aload_n rfl rfl ?_
  refine q_iload rfl rfl ?_
  refine v_sch 101 rfl rfl (by omega) (Nat.le_of_ble_eq_true rfl) (by decide) (by decide) (by decide) ?_
  refine v_bip rfl (by decide) ?_
  refine v_ic_ne_t (t := 130) rfl (by decide) (by decide) ?_
  refine v_iinc (v := 15) rfl rfl (by decide) (by decide) ?_
  refine Wp_ls [(6, vi 15), (0, .ref 1), (1, .ref (a_SB + 8)), (2, vi r8), (3, vi L8), (4, vi 2), (5, vi 10)] (lsub_cons rfl (lsub_cons rfl (lsub_cons rfl (lsub_cons rfl (lsub_cons rfl (lsub_cons rfl (lsub_cons rfl lsub_nil))))))) ?_
  refine q_goto (t := 52) rfl (by decide) ?_
  refine q_iload rfl rfl ?_
  refine q_aload_n rfl rfl ?_
  refine v_sln 20 rfl rfl (by omega) (Nat.le_of_ble_eq_true rfl) (by decide) (by decide) ?_
  refine v_ic_gt_f (t := 136) rfl (by decide) (by decide) ?_
  refine q_aload_n rfl rfl ?_
  refine v_cv rfl rfl rfl rfl (by decide) ⟨⟨rfl, rfl⟩, by decide, rfl⟩ (Nat.le_of_ble_eq_true rfl) (Nat.le_of_ble_eq_true rfl) ?_
  refine q_aload_n rfl rfl ?_
  refine v_gi (z := 4) (v := f9) rfl rfl rfl (by decide) rfl rfl (hv2) ?_
  refine v_if_ne_f (t := 11) rfl (by decide) (by omega) ?_
  refine q_iconst rfl ?_
  refine q_goto (t := 12) rfl (by decide) ?_
  refine v_zret rfl rfl (by decide) ?_
  refine bk_inl ?_
  refine v_if_eq_f (t := 136) rfl (by decide) (by decide) ?_
  refine q_iload rfl rfl ?_
  refine q_aload_n rfl rfl ?_
  refine v_sln 20 rfl rfl (by omega) (Nat.le_of_ble_eq_true rfl) (by decide) (by decide) ?_
  refine v_ic_eq_f (t := 88) rfl (by decide) (by decide) ?_
  refine q_aload_n rfl rfl ?_
  refine q_iload rfl rfl ?_
  refine v_sch 32 rfl rfl (by omega) (Nat.le_of_ble_eq_true rfl) (by decide) (by decide) (by decide) ?_
  refine v_bip rfl (by decide) ?_
  refine v_ic_ne_f (t := 130) rfl (by decide) (by decide) ?_
  refine q_iload rfl rfl ?_
  refine q_iload rfl rfl ?_
  refine v_isub (v := 5) rfl (by decide) ?_
  refine q_iload_n rfl rfl ?_
  refine q_iload_n rfl rfl ?_
  refine v_isub (v := L8 - r8) rfl rfl ?_
  by_cases h_5 : 5 ≠ L8 - r8
  · refine v_ic_ne_t (t := 121) rfl (by decide) ⟨h_5, ⟨by decide, by decide⟩, by omega, by omega⟩ ?_
    refine v_iinc (v := 3) rfl rfl (by decide) (by decide) ?_
    refine q_iload rfl rfl ?_
    refine q_iconst rfl ?_
    refine v_iadd (v := 16) rfl (by decide) ?_
    refine q_istore rfl (by decide) ?_
    refine v_iinc (v := 16) rfl rfl (by decide) (by decide) ?_
    refine q_goto (t := 52) rfl (by decide) ?_
    refine Wp_ls [(0, .ref 1), (1, .ref (a_SB + 8)), (2, vi r8), (3, vi L8), (4, vi 3), (5, vi 16), (6, vi 16)] (lsub_cons rfl (lsub_cons rfl (lsub_cons rfl (lsub_cons rfl (lsub_cons rfl (lsub_cons rfl (lsub_cons rfl lsub_nil))))))) ?_
    exact f_10_8_3 (d := d) (r8 := r8) (L8 := L8) (W8 := W8) hI hq0 hq1 hv0 hv1 hv2 hv3 hB ((wd8_2_f (by omega)).symm.trans hdW8) K0 K1
  · refine v_ic_ne_f (t := 121) rfl (by decide) (Decidable.not_not.mp h_5) ?_
    refine q_aload_n rfl rfl ?_
    refine q_aload_n rfl rfl ?_
    refine q_iload rfl rfl ?_
    refine q_iload_n rfl rfl ?_
    refine q_iload_n rfl rfl ?_
    refine q_iload_n rfl rfl ?_
    refine v_isub (v := L8 - r8) rfl rfl ?_
    refine v_cv rfl rfl rfl rfl (by decide) ⟨⟨rfl, rfl⟩, by decide, rfl⟩ (Nat.le_of_ble_eq_true rfl) (Nat.le_of_ble_eq_true rfl) ?_
    refine q_iconst rfl ?_
    refine q_istore rfl (by decide) ?_
    refine q_iload rfl rfl ?_
    refine q_iload rfl rfl ?_
    refine v_ic_ge_f (t := 38) rfl (by decide) (by omega) ?_
    refine q_aload_n rfl rfl ?_
    refine q_iload_n rfl rfl ?_
    refine q_iload rfl rfl ?_
    refine v_iadd (v := 10) rfl (by decide) ?_
    refine v_sch 115 rfl rfl (by omega) (Nat.le_of_ble_eq_true rfl) (by decide) (by decide) (by decide) ?_
    refine q_aload_n rfl rfl ?_
    refine v_gr (t := 2) rfl rfl rfl (by decide) rfl ?_
    refine q_iload_n rfl rfl ?_
    refine q_iload rfl rfl ?_
    refine v_iadd (v := r8) rfl (by omega) ?_
    have h_6 : -2147483648 ≤ (B r8) ∧ (B r8) ≤ 2147483647 := by rw [← hB r8]; exact ir_2 hI r8
    refine v_ba (v := (B r8)) rfl rfl (by decide) (by decide) (by omega) (hB r8) ?_
    by_cases h_7 : 115 = (B r8)
    · refine v_ic_eq_t (t := 32) rfl (by decide) h_7 ?_
      refine v_iinc (v := 1) rfl rfl (by decide) (by decide) ?_
      refine q_goto (t := 3) rfl (by decide) ?_
      refine q_iload rfl rfl ?_
      refine q_iload rfl rfl ?_
      refine v_ic_ge_f (t := 38) rfl (by decide) (by omega) ?_
      refine q_aload_n rfl rfl ?_
      refine q_iload_n rfl rfl ?_
      refine q_iload rfl rfl ?_
      refine v_iadd (v := 11) rfl (by decide) ?_
      refine v_sch 105 rfl rfl (by omega) (Nat.le_of_ble_eq_true rfl) (by decide) (by decide) (by decide) ?_
      refine q_aload_n rfl rfl ?_
      refine v_gr (t := 2) rfl rfl rfl (by decide) rfl ?_
      refine q_iload_n rfl rfl ?_
      refine q_iload rfl rfl ?_
      refine v_iadd (v := r8 + 1) rfl rfl ?_
      have h_8 : -2147483648 ≤ (B (r8 + 1)) ∧ (B (r8 + 1)) ≤ 2147483647 := by rw [← hB (r8 + 1)]; exact ir_2 hI (r8 + 1)
      refine v_ba (v := (B (r8 + 1))) rfl rfl (by decide) (by decide) (by omega) (hB (r8 + 1)) ?_
      by_cases h_9 : 105 = (B (r8 + 1))
      · refine v_ic_eq_t (t := 32) rfl (by decide) h_9 ?_
        refine v_iinc (v := 2) rfl rfl (by decide) (by decide) ?_
        refine q_goto (t := 3) rfl (by decide) ?_
        refine q_iload rfl rfl ?_
        refine q_iload rfl rfl ?_
        refine v_ic_ge_f (t := 38) rfl (by decide) (by omega) ?_
        refine q_aload_n rfl rfl ?_
        refine q_iload_n rfl rfl ?_
        refine q_iload rfl rfl ?_
        refine v_iadd (v := 12) rfl (by decide) ?_
        refine v_sch 101 rfl rfl (by omega) (Nat.le_of_ble_eq_true rfl) (by decide) (by decide) (by decide) ?_
        refine q_aload_n rfl rfl ?_
        refine v_gr (t := 2) rfl rfl rfl (by decide) rfl ?_
        refine q_iload_n rfl rfl ?_
        refine q_iload rfl rfl ?_
        refine v_iadd (v := r8 + 2) rfl rfl ?_
        have h_10 : -2147483648 ≤ (B (r8 + 2)) ∧ (B (r8 + 2)) ≤ 2147483647 := by rw [← hB (r8 + 2)]; exact ir_2 hI (r8 + 2)
        refine v_ba (v := (B (r8 + 2))) rfl rfl (by decide) (by decide) (by omega) (hB (r8 + 2)) ?_
        by_cases h_11 : 101 = (B (r8 + 2))
        · refine v_ic_eq_t (t := 32) rfl (by decide) h_11 ?_
          refine v_iinc (v := 3) rfl rfl (by decide) (by decide) ?_
          refine q_goto (t := 3) rfl (by decide) ?_
          refine q_iload rfl rfl ?_
          refine q_iload rfl rfl ?_
          refine v_ic_ge_f (t := 38) rfl (by decide) (by omega) ?_
          refine q_aload_n rfl rfl ?_
          refine q_iload_n rfl rfl ?_
          refine q_iload rfl rfl ?_
          refine v_iadd (v := 13) rfl (by decide) ?_
          refine v_sch 118 rfl rfl (by omega) (Nat.le_of_ble_eq_true rfl) (by decide) (by decide) (by decide) ?_
          refine q_aload_n rfl rfl ?_
          refine v_gr (t := 2) rfl rfl rfl (by decide) rfl ?_
          refine q_iload_n rfl rfl ?_
          refine q_iload rfl rfl ?_
          refine v_iadd (v := r8 + 3) rfl rfl ?_
          have h_12 : -2147483648 ≤ (B (r8 + 3)) ∧ (B (r8 + 3)) ≤ 2147483647 := by rw [← hB (r8 + 3)]; exact ir_2 hI (r8 + 3)
          refine v_ba (v := (B (r8 + 3))) rfl rfl (by decide) (by decide) (by omega) (hB (r8 + 3)) ?_
          by_cases h_13 : 118 = (B (r8 + 3))
          · refine v_ic_eq_t (t := 32) rfl (by decide) h_13 ?_
            refine v_iinc (v := 4) rfl rfl (by decide) (by decide) ?_
            refine Wp_ls [(5, vi 4), (0, .ref 1), (1, .ref (a_SB + 8)), (2, vi 10), (3, vi r8), (4, vi (L8 - r8))] (lsub_cons rfl (lsub_cons rfl (lsub_cons rfl (lsub_cons rfl (lsub_cons rfl (lsub_cons rfl lsub_nil)))))) ?_
            refine q_goto (t := 3) rfl (by decide) ?_
            refine q_iload rfl rfl ?_
            refine q_iload rfl rfl ?_
            refine v_ic_ge_f (t := 38) rfl (by decide) (by omega) ?_
            refine q_aload_n rfl rfl ?_
            refine q_iload_n rfl rfl ?_
            refine q_iload rfl rfl ?_
            refine v_iadd (v := 14) rfl (by decide) ?_
            refine v_sch 101 rfl rfl (by omega) (Nat.le_of_ble_eq_true rfl) (by decide) (by decide) (by decide) ?_
            refine q_aload_n rfl rfl ?_
            refine v_gr (t := 2) rfl rfl rfl (by decide) rfl ?_
            refine q_iload_n rfl rfl ?_
            refine q_iload rfl rfl ?_
            refine v_iadd (v := r8 + 4) rfl rfl ?_
            have h_14 : -2147483648 ≤ (B (r8 + 4)) ∧ (B (r8 + 4)) ≤ 2147483647 := by rw [← hB (r8 + 4)]; exact ir_2 hI (r8 + 4)
            refine v_ba (v := (B (r8 + 4))) rfl rfl (by decide) (by decide) (by omega) (hB (r8 + 4)) ?_
            by_cases h_15 : 101 = (B (r8 + 4))
            · refine v_ic_eq_t (t := 32) rfl (by decide) h_15 ?_
              refine v_iinc (v := 5) rfl rfl (by decide) (by decide) ?_
              refine q_goto (t := 3) rfl (by decide) ?_
              refine q_iload rfl rfl ?_
              refine q_iload rfl rfl ?_
              refine v_ic_ge_t (t := 38) rfl (by decide) ⟨by first | (clear h_1 h_2 h_3 h_4 h_6 h_7 h_8 h_9 h_10 h_11 h_12 h_13 h_14 h_15; omega) | omega, by first | (clear h_1 h_2 h_3 h_4 h_6 h_7 h_8 h_9 h_10 h_11 h_12 h_13 h_14 h_15; omega) | omega, by decide⟩ ?_
              refine q_iconst rfl ?_
              refine v_zret rfl rfl (by decide) ?_
              refine bk_inl ?_
              refine v_if_eq_f (t := 121) rfl (by decide) (by decide) ?_
              refine q_aload_n rfl rfl ?_
              refine q_iload_n rfl rfl ?_
              refine v_pi (z := 2) rfl rfl rfl (by decide) rfl rfl rfl (by decide) ?_
              refine q_iload rfl rfl ?_
              refine q_iret rfl rfl ?_
              have hw9 : W8 = 2 := hdW8.symm.trans (wd8_2_t (by omega))
              have hI_16 := iw_1_2 (v := L8) hI ⟨by first | (clear h_1 h_2 h_3 h_4 h_6 h_7 h_8 h_9 h_10 h_11 h_12 h_13 h_14 h_15 hw9; omega) | omega, by first | (clear h_1 h_2 h_3 h_4 h_6 h_7 h_8 h_9 h_10 h_11 h_12 h_13 h_14 h_15 hw9; omega) | omega⟩
              have h_17 : (up c 1 2 L8) 1 2 = L8 := (up_e rfl)
              have h_18 : (up c 1 2 L8) 1 4 = f9 := ((up_n (by decide)).trans (hv2))
              have h_19 : (up c 1 2 L8) 1 5 = p9 := ((up_n (by decide)).trans (hv3))
              exact zv (by omega) (K1 (up c 1 2 L8) hI_16 (fun a j hm => up_b (Decidable.or_iff_not_imp_left.mpr (fun h1 h2 => hm (Or.inl ⟨Decidable.not_not.mp h1, h2⟩)))) (by omega) (by omega) (by omega) (by omega))
            · refine v_ic_eq_f (t := 32) rfl (by decide) ⟨h_15, ⟨by decide, by decide⟩, by omega, by omega⟩ ?_
              refine q_iconst rfl ?_
              refine v_zret rfl rfl (by decide) ?_
              refine bk_inl ?_
              refine v_if_eq_t (t := 121) rfl (by decide) (by decide) ?_
              refine v_iinc (v := 3) rfl rfl (by decide) (by decide) ?_
              refine q_iload rfl rfl ?_
              refine q_iconst rfl ?_
              refine v_iadd (v := 16) rfl (by decide) ?_
              refine q_istore rfl (by decide) ?_
              refine v_iinc (v := 16) rfl rfl (by decide) (by decide) ?_
              refine q_goto (t := 52) rfl (by decide) ?_
              refine Wp_ls [(0, .ref 1), (1, .ref (a_SB + 8)), (2, vi r8), (3, vi L8), (4, vi 3), (5, vi 16), (6, vi 16)] (lsub_cons rfl (lsub_cons rfl (lsub_cons rfl (lsub_cons rfl (lsub_cons rfl (lsub_cons rfl (lsub_cons rfl lsub_nil))))))) ?_
              exact f_10_8_3 (d := d) (r8 := r8) (L8 := L8) (W8 := W8) hI hq0 hq1 hv0 hv1 hv2 hv3 hB ((wd8_2_f (by omega)).symm.trans hdW8) K0 K1
          · refine v_ic_eq_f (t := 32) rfl (by decide) ⟨h_13, ⟨by decide, by decide⟩, by omega, by omega⟩ ?_
            refine q_iconst rfl ?_
            refine v_zret rfl rfl (by decide) ?_
            refine bk_inl ?_
            refine v_if_eq_t (t := 121) rfl (by decide) (by decide) ?_
            refine v_iinc (v := 3) rfl rfl (by decide) (by decide) ?_
            refine q_iload rfl rfl ?_
            refine q_iconst rfl ?_
            refine v_iadd (v := 16) rfl (by decide) ?_
            refine q_istore rfl (by decide) ?_
            refine v_iinc (v := 16) rfl rfl (by decide) (by decide) ?_
            refine q_goto (t := 52) rfl (by decide) ?_
            refine Wp_ls [(0, .ref 1), (1, .ref (a_SB + 8)), (2, vi r8), (3, vi L8), (4, vi 3), (5, vi 16), (6, vi 16)] (lsub_cons rfl (lsub_cons rfl (lsub_cons rfl (lsub_cons rfl (lsub_cons rfl (lsub_cons rfl (lsub_cons rfl lsub_nil))))))) ?_
            exact f_10_8_3 (d := d) (r8 := r8) (L8 := L8) (W8 := W8) hI hq0 hq1 hv0 hv1 hv2 hv3 hB ((wd8_2_f (by omega)).symm.trans hdW8) K0 K1
        · refine v_ic_eq_f (t := 32) rfl (by decide) ⟨h_11, ⟨by decide, by decide⟩, by omega, by omega⟩ ?_
          refine q_iconst rfl ?_
          refine v_zret rfl rfl (by decide) ?_
          refine bk_inl ?_
          refine v_if_eq_t (t := 121) rfl (by decide) (by decide) ?_
          refine v_iinc (v := 3) rfl rfl (by decide) (by decide) ?_
          refine q_iload rfl rfl ?_
          refine q_iconst rfl ?_
          refine v_iadd (v := 16) rfl (by decide) ?_
          refine q_istore rfl (by decide) ?_
          refine v_iinc (v := 16) rfl rfl (by decide) (by decide) ?_
          refine q_goto (t := 52) rfl (by decide) ?_
          refine Wp_ls [(0, .ref 1), (1, .ref (a_SB + 8)), (2, vi r8), (3, vi L8), (4, vi 3), (5, vi 16), (6, vi 16)] (lsub_cons rfl (lsub_cons rfl (lsub_cons rfl (lsub_cons rfl (lsub_cons rfl (lsub_cons rfl (lsub_cons rfl lsub_nil))))))) ?_
          exact f_10_8_3 (d := d) (r8 := r8) (L8 := L8) (W8 := W8) hI hq0 hq1 hv0 hv1 hv2 hv3 hB ((wd8_2_f (by omega)).symm.trans hdW8) K0 K1
      · refine v_ic_eq_f (t := 32) rfl (by decide) ⟨h_9, ⟨by decide, by decide⟩, by omega, by omega⟩ ?_
        refine q_iconst rfl ?_
        refine v_zret rfl rfl (by decide) ?_
        refine bk_inl ?_
        refine v_if_eq_t (t := 121) rfl (by decide) (by decide) ?_
        refine v_iinc (v := 3) rfl rfl (by decide) (by decide) ?_
        refine q_iload rfl rfl ?_
        refine q_iconst rfl ?_
        refine v_iadd (v := 16) rfl (by decide) ?_
        refine q_istore rfl (by decide) ?_
        refine v_iinc (v := 16) rfl rfl (by decide) (by decide) ?_
        refine q_goto (t := 52) rfl (by decide) ?_
        refine Wp_ls [(0, .ref 1), (1, .ref (a_SB + 8)), (2, vi r8), (3, vi L8), (4, vi 3), (5, vi 16), (6, vi 16)] (lsub_cons rfl (lsub_cons rfl (lsub_cons rfl (lsub_cons rfl (lsub_cons rfl (lsub_cons rfl (lsub_cons rfl lsub_nil))))))) ?_
        exact f_10_8_3 (d := d) (r8 := r8) (L8 := L8) (W8 := W8) hI hq0 hq1 hv0 hv1 hv2 hv3 hB ((wd8_2_f (by omega)).symm.trans hdW8) K0 K1
    · refine v_ic_eq_f (t := 32) rfl (by decide) ⟨h_7, ⟨by decide, by decide⟩, by omega, by omega⟩ ?_
      refine q_iconst rfl ?_
      refine v_zret rfl rfl (by decide) ?_
      refine bk_inl ?_
      refine v_if_eq_t (t := 121) rfl (by decide) (by decide) ?_
      refine v_iinc (v := 3) rfl rfl (by decide) (by decide) ?_
      refine q_iload rfl rfl ?_
      refine q_iconst rfl ?_
      refine v_iadd (v := 16) rfl (by decide) ?_
      refine q_istore rfl (by decide) ?_
      refine v_iinc (v := 16) rfl rfl (by decide) (by decide) ?_
      refine q_goto (t := 52) rfl (by decide) ?_
      refine Wp_ls [(0, .ref 1), (1, .ref (a_SB + 8)), (2, vi r8), (3, vi L8), (4, vi 3), (5, vi 16), (6, vi 16)] (lsub_cons rfl (lsub_cons rfl (lsub_cons rfl (lsub_cons rfl (lsub_cons rfl (lsub_cons rfl (lsub_cons rfl lsub_nil))))))) ?_
      exact f_10_8_3 (d := d) (r8 := r8) (L8 := L8) (W8 := W8) hI hq0 hq1 hv0 hv1 hv2 hv3 hB ((wd8_2_f (by omega)).symm.trans hdW8) K0 K1

set_option maxRecDepth 100000 in
set_option maxHeartbeats 4000000 in
theorem f_10_8_1 {sc : List Int32} {e : Int} {d u P Q : Nat} {c : ME} {e1 a9 f9 p9 W8 r8 L8 : Int} {B : Int → Int} {Z : AR → Prop} (hI : Iv u e P Q c) (hq0 : (f9 = 0)) (hq1 : (r8 ≥ 0 ∧ r8 ≤ L8 ∧ L8 ≤ 600)) (hv0 : c 1 1 = e1) (hv1 : c 1 2 = a9) (hv2 : c 1 4 = f9) (hv3 : c 1 5 = p9) (hB : ∀ j : Int, c 2 j = B j) (hdW8 : wd8_1 B r8 L8 = W8) (K0 : ∀ c2 : ME, Iv u e P Q c2 → (∀ (a : Nat) (j : Int), ¬ ((a = 1 ∧ j = 2) ∨ (a = 1 ∧ j = 4) ∨ (a = 1 ∧ j = 5)) → c2 a j = c a j) → ((W8 = (-1))) → (c2 1 2 = a9) → (c2 1 4 = 1) → (c2 1 5 = r8) → Z (.inl (some (vi (-1))), Wd P Q P P c2, 0, 0)) (K1 : ∀ c2 : ME, Iv u e P Q c2 → (∀ (a : Nat) (j : Int), ¬ ((a = 1 ∧ j = 2) ∨ (a = 1 ∧ j = 4) ∨ (a = 1 ∧ j = 5)) → c2 a j = c a j) → ((W8 ≥ 0 ∧ W8 ≤ 3)) → (c2 1 2 = L8) → (c2 1 4 = 0) → (c2 1 5 = p9) → Z (.inl (some (vi W8)), Wd P Q P P c2, 0, 0)) : Wp sc (d + 12) 10 52 [(0, .ref 1), (1, .ref (a_SB + 8)), (2, vi r8), (3, vi L8), (4, vi 1), (5, vi 4), (6, vi 4)] [] (Wd P Q P P c) 0 0 Z := by
  have hP := iv_P hI
  have hQ := iv_Q hI
  have h_1 := ir_1_1 hI
  have h_2 := ir_1_2 hI
  have h_3 := ir_1_4 hI
  have h_4 := ir_1_5 hI
  refine q_iload rfl rfl ?_
  refine q_aload_n rfl rfl ?_
  refine v_sln 20 rfl rfl (by omega) (Nat.le_of_ble_eq_true rfl) (by decide) (by decide) ?_
  refine v_ic_gt_f (t := 136) rfl (by decide) (by decide) ?_
  refine q_aload_n rfl rfl ?_
  refine v_cv rfl rfl rfl rfl (by decide) ⟨⟨rfl, rfl⟩, by decide, rfl⟩ (Nat.le_of_ble_eq_true rfl) (Nat.le_of_ble_eq_true rfl) ?_
  refine q_aload_n rfl rfl ?_
  refine v_gi (z := 4) (v := f9) rfl rfl rfl (by decide) rfl rfl (hv2) ?_
  refine v_if_ne_f (t := 11) rfl (by decide) (by omega) ?_
  refine q_iconst rfl ?_
  refine q_goto (t := 12) rfl (by decide) ?_
  refine v_zret rfl rfl (by decide) ?_
  refine bk_inl ?_
  refine v_if_eq_f (t := 136) rfl (by decide) (by decide) ?_
  refine q_iload rfl rfl ?_
  refine q_aload_n rfl rfl ?_
  refine v_sln 20 rfl rfl (by omega) (Nat.le_of_ble_eq_true rfl) (by decide) (by decide) ?_
  refine v_ic_eq_f (t := 88) rfl (by decide) (by decide) ?_
  refine q_aload_n rfl rfl ?_
  refine q_iload rfl rfl ?_
  refine v_sch 115 rfl rfl (by omega) (Nat.le_of_ble_eq_true rfl) (by decide) (by decide) (by decide) ?_
  refine v_bip rfl (by decide) ?_
  refine v_ic_ne_t (t := 130) rfl (by decide) (by decide) ?_
  refine v_iinc (v := 5) rfl rfl (by decide) (by decide) ?_
  refine q_goto (t := 52) rfl (by decide) ?_
  refine q_iload rfl rfl ?_
  refine q_aload_n rfl rfl ?_
  refine v_sln 20 rfl rfl (by omega) (Nat.le_of_ble_eq_true rfl) (by decide) (by decide) ?_
  refine v_ic_gt_f (t := 136) rfl (by decide) (by decide) ?_
  refine q_aload_n rfl rfl ?_
  refine v_cv rfl rfl rfl rfl (by decide) ⟨⟨rfl, rfl⟩, by decide, rfl⟩ (Nat.le_of_ble_eq_true rfl) (Nat.le_of_ble_eq_true rfl) ?_
  refine q_aload_n rfl rfl ?_
  refine v_gi (z := 4) (v := f9) rfl rfl rfl (by decide) rfl rfl (hv2) ?_
  refine v_if_ne_f (t := 11) rfl (by decide) (by omega) ?_
  refine q_iconst rfl ?_
  refine q_goto (t := 12) rfl (by decide) ?_
  refine v_zret rfl rfl (by decide) ?_
  refine bk_inl ?_
  refine v_if_eq_f (t := 136) rfl (by decide) (by decide) ?_
  refine q_iload rfl rfl ?_
  refine q_aload_n rfl rfl ?_
  refine v_sln 20 rfl rfl (by omega) (Nat.le_of_ble_eq_true rfl) (by decide) (by decide) ?_
  refine v_ic_eq_f (t := 88) rfl (by decide) (by decide) ?_
  refine q_aload_n rfl rfl ?_
  refine q_iload rfl rfl ?_
  refine v_sch 116 rfl rfl (by omega) (Nat.le_of_ble_eq_true rfl) (by decide) (by decide) (by decide) ?_
  refine v_bip rfl (by decide) ?_
  refine v_ic_ne_t (t := 130) rfl (by decide) (by decide) ?_
  refine v_iinc (v := 6) rfl rfl (by decide) (by decide) ?_
  refine q_goto (t := 52) rfl (by decide) ?_
  refine q_iload rfl rfl ?_
  refine q_aload_n rfl rfl ?_
  refine v_sln 20 rfl rfl (by omega) (Nat.le_of_ble_eq_true rfl) (by decide) (by decide) ?_
  refine v_ic_gt_f (t := 136) rfl (by decide) (by decide) ?_
  refine q_aload_n rfl rfl ?_
  refine v_cv rfl rfl rfl rfl (by decide) ⟨⟨rfl, rfl⟩, by decide, rfl⟩ (Nat.le_of_ble_eq_true rfl) (Nat.le_of_ble_eq_true rfl) ?_
  refine q_aload_n rfl rfl ?_
  refine v_gi (z := 4) (v := f9) rfl rfl rfl (by decide) rfl rfl (hv2) ?_
  refine v_if_ne_f (t := 11) rfl (by decide) (by omega) ?_
  refine q_iconst rfl ?_
  refine q_goto (t := 12) rfl (by decide) ?_
  refine v_zret rfl rfl (by decide) ?_
  refine bk_inl ?_
  refine v_if_eq_f (t := 136) rfl (by decide) (by decide) ?_
  refine q_iload rfl rfl ?_
  refine q_aload_n rfl rfl ?_
  refine v_sln 20 rfl rfl (by omega) (Nat.le_of_ble_eq_true rfl) (by decide) (by decide) ?_
  refine v_ic_eq_f (t := 88) rfl (by decide) (by decide) ?_
  refine q_aload_n rfl rfl ?_
  refine q_iload rfl rfl ?_
  refine v_sch 111 rfl rfl (by omega) (Nat.le_of_ble_eq_true rfl) (by decide) (by decide) (by decide) ?_
  refine v_bip rfl (by decide) ?_
  refine v_ic_ne_t (t := 130) rfl (by decide) (by decide) ?_
  refine v_iinc (v := 7) rfl rfl (by decide) (by decide) ?_
  refine q_goto (t := 52) rfl (by decide) ?_
  refine q_iload rfl rfl ?_
  refine q_aload_n rfl rfl ?_
  refine v_sln 20 rfl rfl (by omega) (Nat.le_of_ble_eq_true rfl) (by decide) (by decide) ?_
  refine v_ic_gt_f (t := 136) rfl (by decide) (by decide) ?_
  refine q_aload_n rfl rfl ?_
  refine v_cv rfl rfl rfl rfl (by decide) ⟨⟨rfl, rfl⟩, by decide, rfl⟩ (Nat.le_of_ble_eq_true rfl) (Nat.le_of_ble_eq_true rfl) ?_
  refine q_aload_n rfl rfl ?_
  refine v_gi (z := 4) (v := f9) rfl rfl rfl (by decide) rfl rfl (hv2) ?_
  refine v_if_ne_f (t := 11) rfl (by decide) (by omega) ?_
  refine q_iconst rfl ?_
  refine q_goto (t := 12) rfl (by decide) ?_
  refine v_zret rfl rfl (by decide) ?_
  refine bk_inl ?_
  refine v_if_eq_f (t := 136) rfl (by decide) (by decide) ?_
  refine q_iload rfl rfl ?_
  refine q_aload_n rfl rfl ?_
  refine v_sln 20 rfl rfl (by omega) (Nat.le_of_ble_eq_true rfl) (by decide) (by decide) ?_
  refine v_ic_eq_f (t := 88) rfl (by decide) (by decide) ?_
  refine q_aload_n rfl rfl ?_
  refine q_iload rfl rfl ?_
  refine v_sch 110 rfl rfl (by omega) (Nat.le_of_ble_eq_true rfl) (by decide) (by decide) (by decide) ?_
  refine v_bip rfl (by decide) ?_
  refine v_ic_ne_t (t := 130) rfl (by decide) (by decide) ?_
  refine v_iinc (v := 8) rfl rfl (by decide) (by decide) ?_
  refine q_goto (t := 52) rfl (by decide) ?_
  refine q_iload rfl rfl ?_
  refine q_aload_n rfl rfl ?_
  refine v_sln 20 rfl rfl (by omega) (Nat.le_of_ble_eq_true rfl) (by decide) (by decide) ?_
  refine v_ic_gt_f (t := 136) rfl (by decide) (by decide) ?_
  refine q_aload_n rfl rfl ?_
  refine v_cv rfl rfl rfl rfl (by decide) ⟨⟨rfl, rfl⟩, by decide, rfl⟩ (Nat.le_of_ble_eq_true rfl) (Nat.le_of_ble_eq_true rfl) ?_
  refine q_aload_n rfl rfl ?_
  refine v_gi (z := 4) (v := f9) rfl rfl rfl (by decide) rfl rfl (hv2) ?_
  refine v_if_ne_f (t := 11) rfl (by decide) (by omega) ?_
  refine q_iconst rfl ?_
  refine q_goto (t := 12) rfl (by decide) ?_
  refine v_zret rfl rfl (by decide) ?_
  refine bk_inl ?_
  refine v_if_eq_f (t := 136) rfl (by decide) (by decide) ?_
  refine q_iload rfl rfl ?_
  refine q_aload_n rfl rfl ?_
  refine v_sln 20 rfl rfl (by omega) (Nat.le_of_ble_eq_true rfl) (by decide) (by decide) ?_
  refine v_ic_eq_f (t := 88) rfl (by decide) (by decide) ?_
  refine q_aload_n rfl rfl ?_
  refine q_iload rfl rfl ?_
  refine v_sch 101 rfl rfl (by omega) (Nat.le_of_ble_eq_true rfl) (by decide) (by decide) (by decide) ?_
  refine v_bip rfl (by decide) ?_
  refine v_ic_ne_t (t := 130) rfl (by decide) (by decide) ?_
  refine v_iinc (v := 9) rfl rfl (by decide) (by decide) ?_
  refine Wp_ls [(6, vi 9), (0, .ref 1), (1, .ref (a_SB + 8)), (2, vi r8), (3, vi L8), (4, vi 1), (5, vi 4)] (lsub_cons rfl (lsub_cons rfl (lsub_cons rfl (lsub_cons rfl (lsub_cons rfl (lsub_cons rfl (lsub_cons rfl lsub_nil))))))) ?_
  refine q_goto (t := 52) rfl (by decide) ?_
  refine q_iload rfl rfl ?_
  refine q_aload_n rfl rfl ?_
  refine v_sln 20 rfl rfl (by omega) (Nat.le_of_ble_eq_true rfl) (by decide) (by decide) ?_
  refine v_ic_gt_f (t := 136) rfl (by decide) (by decide) ?_
  refine q_aload_n rfl rfl ?_
  refine v_cv rfl rfl rfl rfl (by decide) ⟨⟨rfl, rfl⟩, by decide, rfl⟩ (Nat.le_of_ble_eq_true rfl) (Nat.le_of_ble_eq_true rfl) ?_
  refine q_aload_n rfl rfl ?_
  refine v_gi (z := 4) (v := f9) rfl rfl rfl (by decide) rfl rfl (hv2) ?_
  refine v_if_ne_f (t := 11) rfl (by decide) (by omega) ?_
  refine q_iconst rfl ?_
  refine q_goto (t := 12) rfl (by decide) ?_
  refine v_zret rfl rfl (by decide) ?_
  refine bk_inl ?_
  refine v_if_eq_f (t := 136) rfl (by decide) (by decide) ?_
  refine q_iload rfl rfl ?_
  refine q_aload_n rfl rfl ?_
  refine v_sln 20 rfl rfl (by omega) (Nat.le_of_ble_eq_true rfl) (by decide) (by decide) ?_
  refine v_ic_eq_f (t := 88) rfl (by decide) (by decide) ?_
  refine q_aload_n rfl rfl ?_
  refine q_iload rfl rfl ?_
  refine v_sch 32 rfl rfl (by omega) (Nat.le_of_ble_eq_true rfl) (by decide) (by decide) (by decide) ?_
  refine v_bip rfl (by decide) ?_
  refine v_ic_ne_f (t := 130) rfl (by decide) (by decide) ?_
  refine q_iload rfl rfl ?_
  refine q_iload rfl rfl ?_
  refine v_isub (v := 5) rfl (by decide) ?_
  refine q_iload_n rfl rfl ?_
  refine q_iload_n rfl rfl ?_
  refine v_isub (v := L8 - r8) rfl rfl ?_
  by_cases h_5 : 5 ≠ L8 - r8
  · refine v_ic_ne_t (t := 121) rfl (by decide) ⟨h_5, ⟨by decide, by decide⟩, by omega, by omega⟩ ?_
    refine v_iinc (v := 2) rfl rfl (by decide) (by decide) ?_
    refine q_iload rfl rfl ?_
    refine q_iconst rfl ?_
    refine v_iadd (v := 10) rfl (by decide) ?_
    refine q_istore rfl (by decide) ?_
    refine v_iinc (v := 10) rfl rfl (by decide) (by decide) ?_
    refine q_goto (t := 52) rfl (by decide) ?_
    refine Wp_ls [(0, .ref 1), (1, .ref (a_SB + 8)), (2, vi r8), (3, vi L8), (4, vi 2), (5, vi 10), (6, vi 10)] (lsub_cons rfl (lsub_cons rfl (lsub_cons rfl (lsub_cons rfl (lsub_cons rfl (lsub_cons rfl (lsub_cons rfl lsub_nil))))))) ?_
    exact f_10_8_2 (d := d) (r8 := r8) (L8 := L8) (W8 := W8) hI hq0 hq1 hv0 hv1 hv2 hv3 hB ((wd8_1_f (by omega)).symm.trans hdW8) K0 K1
  · refine v_ic_ne_f (t := 121) rfl (by decide) (Decidable.not_not.mp h_5) ?_
    refine q_aload_n rfl rfl ?_
    refine q_aload_n rfl rfl ?_
    refine q_iload rfl rfl ?_
    refine q_iload_n rfl rfl ?_
    refine q_iload_n rfl rfl ?_
    refine q_iload_n rfl rfl ?_
    refine v_isub (v := L8 - r8) rfl rfl ?_
    refine v_cv rfl rfl rfl rfl (by decide) ⟨⟨rfl, rfl⟩, by decide, rfl⟩ (Nat.le_of_ble_eq_true rfl) (Nat.le_of_ble_eq_true rfl) ?_
    refine q_iconst rfl ?_
    refine q_istore rfl (by decide) ?_
    refine q_iload rfl rfl ?_
    refine q_iload rfl rfl ?_
    refine v_ic_ge_f (t := 38) rfl (by decide) (by omega) ?_
    refine q_aload_n rfl rfl ?_
    refine q_iload_n rfl rfl ?_
    refine q_iload rfl rfl ?_
    refine v_iadd (v := 4) rfl (by decide) ?_
    refine v_sch 115 rfl rfl (by omega) (Nat.le_of_ble_eq_true rfl) (by decide) (by decide) (by decide) ?_
    refine q_aload_n rfl rfl ?_
    refine v_gr (t := 2) rfl rfl rfl (by decide) rfl ?_
    refine q_iload_n rfl rfl ?_
    refine q_iload rfl rfl ?_
    refine v_iadd (v := r8) rfl (by omega) ?_
    have h_6 : -2147483648 ≤ (B r8) ∧ (B r8) ≤ 2147483647 := by rw [← hB r8]; exact ir_2 hI r8
    refine v_ba (v := (B r8)) rfl rfl (by decide) (by decide) (by omega) (hB r8) ?_
    by_cases h_7 : 115 = (B r8)
    · refine v_ic_eq_t (t := 32) rfl (by decide) h_7 ?_
      refine v_iinc (v := 1) rfl rfl (by decide) (by decide) ?_
      refine q_goto (t := 3) rfl (by decide) ?_
      refine q_iload rfl rfl ?_
      refine q_iload rfl rfl ?_
      refine v_ic_ge_f (t := 38) rfl (by decide) (by omega) ?_
      refine q_aload_n rfl rfl ?_
      refine q_iload_n rfl rfl ?_
      refine q_iload rfl rfl ?_
      refine v_iadd (v := 5) rfl (by decide) ?_
      refine v_sch 116 rfl rfl (by omega) (Nat.le_of_ble_eq_true rfl) (by decide) (by decide) (by decide) ?_
      refine q_aload_n rfl rfl ?_
      refine v_gr (t := 2) rfl rfl rfl (by decide) rfl ?_
      refine q_iload_n rfl rfl ?_
      refine q_iload rfl rfl ?_
      refine v_iadd (v := r8 + 1) rfl rfl ?_
      have h_8 : -2147483648 ≤ (B (r8 + 1)) ∧ (B (r8 + 1)) ≤ 2147483647 := by rw [← hB (r8 + 1)]; exact ir_2 hI (r8 + 1)
      refine v_ba (v := (B (r8 + 1))) rfl rfl (by decide) (by decide) (by omega) (hB (r8 + 1)) ?_
      by_cases h_9 : 116 = (B (r8 + 1))
      · refine v_ic_eq_t (t := 32) rfl (by decide) h_9 ?_
        refine v_iinc (v := 2) rfl rfl (by decide) (by decide) ?_
        refine q_goto (t := 3) rfl (by decide) ?_
        refine q_iload rfl rfl ?_
        refine q_iload rfl rfl ?_
        refine v_ic_ge_f (t := 38) rfl (by decide) (by omega) ?_
        refine q_aload_n rfl rfl ?_
        refine q_iload_n rfl rfl ?_
        refine q_iload rfl rfl ?_
        refine v_iadd (v := 6) rfl (by decide) ?_
        refine v_sch 111 rfl rfl (by omega) (Nat.le_of_ble_eq_true rfl) (by decide) (by decide) (by decide) ?_
        refine q_aload_n rfl rfl ?_
        refine v_gr (t := 2) rfl rfl rfl (by decide) rfl ?_
        refine q_iload_n rfl rfl ?_
        refine q_iload rfl rfl ?_
        refine v_iadd (v := r8 + 2) rfl rfl ?_
        have h_10 : -2147483648 ≤ (B (r8 + 2)) ∧ (B (r8 + 2)) ≤ 2147483647 := by rw [← hB (r8 + 2)]; exact ir_2 hI (r8 + 2)
        refine v_ba (v := (B (r8 + 2))) rfl rfl (by decide) (by decide) (by omega) (hB (r8 + 2)) ?_
        by_cases h_11 : 111 = (B (r8 + 2))
        · refine v_ic_eq_t (t := 32) rfl (by decide) h_11 ?_
          refine v_iinc (v := 3) rfl rfl (by decide) (by decide) ?_
          refine q_goto (t := 3) rfl (by decide) ?_
          refine q_iload rfl rfl ?_
          refine q_iload rfl rfl ?_
          refine v_ic_ge_f (t := 38) rfl (by decide) (by omega) ?_
          refine q_aload_n rfl rfl ?_
          refine q_iload_n rfl rfl ?_
          refine q_iload rfl rfl ?_
          refine v_iadd (v := 7) rfl (by decide) ?_
          refine v_sch 110 rfl rfl (by omega) (Nat.le_of_ble_eq_true rfl) (by decide) (by decide) (by decide) ?_
          refine q_aload_n rfl rfl ?_
          refine v_gr (t := 2) rfl rfl rfl (by decide) rfl ?_
          refine q_iload_n rfl rfl ?_
          refine q_iload rfl rfl ?_
          refine v_iadd (v := r8 + 3) rfl rfl ?_
          have h_12 : -2147483648 ≤ (B (r8 + 3)) ∧ (B (r8 + 3)) ≤ 2147483647 := by rw [← hB (r8 + 3)]; exact ir_2 hI (r8 + 3)
          refine v_ba (v := (B (r8 + 3))) rfl rfl (by decide) (by decide) (by omega) (hB (r8 + 3)) ?_
          by_cases h_13 : 110 = (B (r8 + 3))
          · refine v_ic_eq_t (t := 32) rfl (by decide) h_13 ?_
            refine v_iinc (v := 4) rfl rfl (by decide) (by decide) ?_
            refine Wp_ls [(5, vi 4), (0, .ref 1), (1, .ref (a_SB + 8)), (2, vi 4), (3, vi r8), (4, vi (L8 - r8))] (lsub_cons rfl (lsub_cons rfl (lsub_cons rfl (lsub_cons rfl (lsub_cons rfl (lsub_cons rfl lsub_nil)))))) ?_
            refine q_goto (t := 3) rfl (by decide) ?_
            refine q_iload rfl rfl ?_
            refine q_iload rfl rfl ?_
            refine v_ic_ge_f (t := 38) rfl (by decide) (by omega) ?_
            refine q_aload_n rfl rfl ?_
            refine q_iload_n rfl rfl ?_
            refine q_iload rfl rfl ?_
            refine v_iadd (v := 8) rfl (by decide) ?_
            refine v_sch 101 rfl rfl (by omega) (Nat.le_of_ble_eq_true rfl) (by decide) (by decide) (by decide) ?_
            refine q_aload_n rfl rfl ?_
            refine v_gr (t := 2) rfl rfl rfl (by decide) rfl ?_
            refine q_iload_n rfl rfl ?_
            refine q_iload rfl rfl ?_
            refine v_iadd (v := r8 + 4) rfl rfl ?_
            have h_14 : -2147483648 ≤ (B (r8 + 4)) ∧ (B (r8 + 4)) ≤ 2147483647 := by rw [← hB (r8 + 4)]; exact ir_2 hI (r8 + 4)
            refine v_ba (v := (B (r8 + 4))) rfl rfl (by decide) (by decide) (by omega) (hB (r8 + 4)) ?_
            by_cases h_15 : 101 = (B (r8 + 4))
            · refine v_ic_eq_t (t := 32) rfl (by decide) h_15 ?_
              refine v_iinc (v := 5) rfl rfl (by decide) (by decide) ?_
              refine q_goto (t := 3) rfl (by decide) ?_
              refine q_iload rfl rfl ?_
              refine q_iload rfl rfl ?_
              refine v_ic_ge_t (t := 38) rfl (by decide) ⟨by first | (clear h_1 h_2 h_3 h_4 h_6 h_7 h_8 h_9 h_10 h_11 h_12 h_13 h_14 h_15; omega) | omega, by first | (clear h_1 h_2 h_3 h_4 h_6 h_7 h_8 h_9 h_10 h_11 h_12 h_13 h_14 h_15; omega) | omega, by decide⟩ ?_
              refine q_iconst rfl ?_
              refine v_zret rfl rfl (by decide) ?_
              refine bk_inl ?_
              refine v_if_eq_f (t := 121) rfl (by decide) (by decide) ?_
              refine q_aload_n rfl rfl ?_
              refine q_iload_n rfl rfl ?_
              refine v_pi (z := 2) rfl rfl rfl (by decide) rfl rfl rfl (by decide) ?_
              refine q_iload rfl rfl ?_
              refine q_iret rfl rfl ?_
              have hw9 : W8 = 1 := hdW8.symm.trans (wd8_1_t (by omega))
              have hI_16 := iw_1_2 (v := L8) hI ⟨by first | (clear h_1 h_2 h_3 h_4 h_6 h_7 h_8 h_9 h_10 h_11 h_12 h_13 h_14 h_15 hw9; omega) | omega, by first | (clear h_1 h_2 h_3 h_4 h_6 h_7 h_8 h_9 h_10 h_11 h_12 h_13 h_14 h_15 hw9; omega) | omega⟩
              have h_17 : (up c 1 2 L8) 1 2 = L8 := (up_e rfl)
              have h_18 : (up c 1 2 L8) 1 4 = f9 := ((up_n (by decide)).trans (hv2))
              have h_19 : (up c 1 2 L8) 1 5 = p9 := ((up_n (by decide)).trans (hv3))
              exact zv (by omega) (K1 (up c 1 2 L8) hI_16 (fun a j hm => up_b (Decidable.or_iff_not_imp_left.mpr (fun h1 h2 => hm (Or.inl ⟨Decidable.not_not.mp h1, h2⟩)))) (by omega) (by omega) (by omega) (by omega))
            · refine v_ic_eq_f (t := 32) rfl (by decide) ⟨h_15, ⟨by decide, by decide⟩, by omega, by omega⟩ ?_
              refine q_iconst rfl ?_
              refine v_zret rfl rfl (by decide) ?_
              refine bk_inl ?_
              refine v_if_eq_t (t := 121) rfl (by decide) (by decide) ?_
              refine v_iinc (v := 2) rfl rfl (by decide) (by decide) ?_
              refine q_iload rfl rfl ?_
              refine q_iconst rfl ?_
              refine v_iadd (v := 10) rfl (by decide) ?_
              refine q_istore rfl (by decide) ?_
              refine v_iinc (v := 10) rfl rfl (by decide) (by decide) ?_
              refine q_goto (t := 52) rfl (by decide) ?_
              refine Wp_ls [(0, .ref 1), (1, .ref (a_SB + 8)), (2, vi r8), (3, vi L8), (4, vi 2), (5, vi 10), (6, vi 10)] (lsub_cons rfl (lsub_cons rfl (lsub_cons rfl (lsub_cons rfl (lsub_cons rfl (lsub_cons rfl (lsub_cons rfl lsub_nil))))))) ?_
              exact f_10_8_2 (d := d) (r8 := r8) (L8 := L8) (W8 := W8) hI hq0 hq1 hv0 hv1 hv2 hv3 hB ((wd8_1_f (by omega)).symm.trans hdW8) K0 K1
          · refine v_ic_eq_f (t := 32) rfl (by decide) ⟨h_13, ⟨by decide, by decide⟩, by omega, by omega⟩ ?_
            refine q_iconst rfl ?_
            refine v_zret rfl rfl (by decide) ?_
            refine bk_inl ?_
            refine v_if_eq_t (t := 121) rfl (by decide) (by decide) ?_
            refine v_iinc (v := 2) rfl rfl (by decide) (by decide) ?_
            refine q_iload rfl rfl ?_
            refine q_iconst rfl ?_
            refine v_iadd (v := 10) rfl (by decide) ?_
            refine q_istore rfl (by decide) ?_
            refine v_iinc (v := 10) rfl rfl (by decide) (by decide) ?_
            refine q_goto (t := 52) rfl (by decide) ?_
            refine Wp_ls [(0, .ref 1), (1, .ref (a_SB + 8)), (2, vi r8), (3, vi L8), (4, vi 2), (5, vi 10), (6, vi 10)] (lsub_cons rfl (lsub_cons rfl (lsub_cons rfl (lsub_cons rfl (lsub_cons rfl (lsub_cons rfl (lsub_cons rfl lsub_nil))))))) ?_
            exact f_10_8_2 (d := d) (r8 := r8) (L8 := L8) (W8 := W8) hI hq0 hq1 hv0 hv1 hv2 hv3 hB ((wd8_1_f (by omega)).symm.trans hdW8) K0 K1
        · refine v_ic_eq_f (t := 32) rfl (by decide) ⟨h_11, ⟨by decide, by decide⟩, by omega, by omega⟩ ?_
          refine q_iconst rfl ?_
          refine v_zret rfl rfl (by decide) ?_
          refine bk_inl ?_
          refine v_if_eq_t (t := 121) rfl (by decide) (by decide) ?_
          refine v_iinc (v := 2) rfl rfl (by decide) (by decide) ?_
          refine q_iload rfl rfl ?_
          refine q_iconst rfl ?_
          refine v_iadd (v := 10) rfl (by decide) ?_
          refine q_istore rfl (by decide) ?_
          refine v_iinc (v := 10) rfl rfl (by decide) (by decide) ?_
          refine q_goto (t := 52) rfl (by decide) ?_
          refine Wp_ls [(0, .ref 1), (1, .ref (a_SB + 8)), (2, vi r8), (3, vi L8), (4, vi 2), (5, vi 10), (6, vi 10)] (lsub_cons rfl (lsub_cons rfl (lsub_cons rfl (lsub_cons rfl (lsub_cons rfl (lsub_cons rfl (lsub_cons rfl lsub_nil))))))) ?_
          exact f_10_8_2 (d := d) (r8 := r8) (L8 := L8) (W8 := W8) hI hq0 hq1 hv0 hv1 hv2 hv3 hB ((wd8_1_f (by omega)).symm.trans hdW8) K0 K1
      · refine v_ic_eq_f (t := 32) rfl (by decide) ⟨h_9, ⟨by decide, by decide⟩, by omega, by omega⟩ ?_
        refine q_iconst rfl ?_
        refine v_zret rfl rfl (by decide) ?_
        refine bk_inl ?_
        refine v_if_eq_t (t := 121) rfl (by decide) (by decide) ?_
        refine v_iinc (v := 2) rfl rfl (by decide) (by decide) ?_
        refine q_iload rfl rfl ?_
        refine q_iconst rfl ?_
        refine v_iadd (v := 10) rfl (by decide) ?_
        refine q_istore rfl (by decide) ?_
        refine v_iinc (v := 10) rfl rfl (by decide) (by decide) ?_
        refine q_goto (t := 52) rfl (by decide) ?_
        refine Wp_ls [(0, .ref 1), (1, .ref (a_SB + 8)), (2, vi r8), (3, vi L8), (4, vi 2), (5, vi 10), (6, vi 10)] (lsub_cons rfl (lsub_cons rfl (lsub_cons rfl (lsub_cons rfl (lsub_cons rfl (lsub_cons rfl (lsub_cons rfl lsub_nil))))))) ?_
        exact f_10_8_2 (d := d) (r8 := r8) (L8 := L8) (W8 := W8) hI hq0 hq1 hv0 hv1 hv2 hv3 hB ((wd8_1_f (by omega)).symm.trans hdW8) K0 K1
    · refine v_ic_eq_f (t := 32) rfl (by decide) ⟨h_7, ⟨by decide, by decide⟩, by omega, by omega⟩ ?_
      refine q_iconst rfl ?_
      refine v_zret rfl rfl (by decide) ?_
      refine bk_inl ?_
      refine v_if_eq_t (t := 121) rfl (by decide) (by decide) ?_
      refine v_iinc (v := 2) rfl rfl (by decide) (by decide) ?_
      refine q_iload rfl rfl ?_
      refine q_iconst rfl ?_
      refine v_iadd (v := 10) rfl (by decide) ?_
      refine q_istore rfl (by decide) ?_
      refine v_iinc (v := 10) rfl rfl (by decide) (by decide) ?_
      refine q_goto (t := 52) rfl (by decide) ?_
      refine Wp_ls [(0, .ref 1), (1, .ref (a_SB + 8)), (2, vi r8), (3, vi L8), (4, vi 2), (5, vi 10), (6, vi 10)] (lsub_cons rfl (lsub_cons rfl (lsub_cons rfl (lsub_cons rfl (lsub_cons rfl (lsub_cons rfl (lsub_cons rfl lsub_nil))))))) ?_
      exact f_10_8_2 (d := d) (r8 := r8) (L8 := L8) (W8 := W8) hI hq0 hq1 hv0 hv1 hv2 hv3 hB ((wd8_1_f (by omega)).symm.trans hdW8) K0 K1

set_option maxRecDepth 100000 in
set_option maxHeartbeats 4000000 in
theorem f_10_8_0 {sc : List Int32} {e : Int} {d u P Q : Nat} {c : ME} {e1 a9 f9 p9 W8 r8 L8 : Int} {B : Int → Int} {Z : AR → Prop} (hI : Iv u e P Q c) (hq0 : (f9 = 0)) (hq1 : (r8 ≥ 0 ∧ r8 ≤ L8 ∧ L8 ≤ 600)) (hv0 : c 1 1 = e1) (hv1 : c 1 2 = a9) (hv2 : c 1 4 = f9) (hv3 : c 1 5 = p9) (hB : ∀ j : Int, c 2 j = B j) (hdW8 : wd8_0 B r8 L8 = W8) (K0 : ∀ c2 : ME, Iv u e P Q c2 → (∀ (a : Nat) (j : Int), ¬ ((a = 1 ∧ j = 2) ∨ (a = 1 ∧ j = 4) ∨ (a = 1 ∧ j = 5)) → c2 a j = c a j) → ((W8 = (-1))) → (c2 1 2 = a9) → (c2 1 4 = 1) → (c2 1 5 = r8) → Z (.inl (some (vi (-1))), Wd P Q P P c2, 0, 0)) (K1 : ∀ c2 : ME, Iv u e P Q c2 → (∀ (a : Nat) (j : Int), ¬ ((a = 1 ∧ j = 2) ∨ (a = 1 ∧ j = 4) ∨ (a = 1 ∧ j = 5)) → c2 a j = c a j) → ((W8 ≥ 0 ∧ W8 ≤ 3)) → (c2 1 2 = L8) → (c2 1 4 = 0) → (c2 1 5 = p9) → Z (.inl (some (vi W8)), Wd P Q P P c2, 0, 0)) : Wp sc (d + 12) 10 52 [(0, .ref 1), (1, .ref (a_SB + 8)), (2, vi r8), (3, vi L8), (4, vi 0), (5, vi 0), (6, vi 0)] [] (Wd P Q P P c) 0 0 Z := by
  have hP := iv_P hI
  have hQ := iv_Q hI
  have h_1 := ir_1_1 hI
  have h_2 := ir_1_2 hI
  have h_3 := ir_1_4 hI
  have h_4 := ir_1_5 hI
  refine q_iload rfl rfl ?_
  refine q_aload_n rfl rfl ?_
  refine v_sln 20 rfl rfl (by omega) (Nat.le_of_ble_eq_true rfl) (by decide) (by decide) ?_
  refine v_ic_gt_f (t := 136) rfl (by decide) (by decide) ?_
  refine q_aload_n rfl rfl ?_
  refine v_cv rfl rfl rfl rfl (by decide) ⟨⟨rfl, rfl⟩, by decide, rfl⟩ (Nat.le_of_ble_eq_true rfl) (Nat.le_of_ble_eq_true rfl) ?_
  refine q_aload_n rfl rfl ?_
  refine v_gi (z := 4) (v := f9) rfl rfl rfl (by decide) rfl rfl (hv2) ?_
  refine v_if_ne_f (t := 11) rfl (by decide) (by omega) ?_
  refine q_iconst rfl ?_
  refine q_goto (t := 12) rfl (by decide) ?_
  refine v_zret rfl rfl (by decide) ?_
  refine bk_inl ?_
  refine v_if_eq_f (t := 136) rfl (by decide) (by decide) ?_
  refine q_iload rfl rfl ?_
  refine q_aload_n rfl rfl ?_
  refine v_sln 20 rfl rfl (by omega) (Nat.le_of_ble_eq_true rfl) (by decide) (by decide) ?_
  refine v_ic_eq_f (t := 88) rfl (by decide) (by decide) ?_
  refine q_aload_n rfl rfl ?_
  refine q_iload rfl rfl ?_
  refine v_sch 106 rfl rfl (by omega) (Nat.le_of_ble_eq_true rfl) (by decide) (by decide) (by decide) ?_
  refine v_bip rfl (by decide) ?_
  refine v_ic_ne_t (t := 130) rfl (by decide) (by decide) ?_
  refine v_iinc (v := 1) rfl rfl (by decide) (by decide) ?_
  refine q_goto (t := 52) rfl (by decide) ?_
  refine q_iload rfl rfl ?_
  refine q_aload_n rfl rfl ?_
  refine v_sln 20 rfl rfl (by omega) (Nat.le_of_ble_eq_true rfl) (by decide) (by decide) ?_
  refine v_ic_gt_f (t := 136) rfl (by decide) (by decide) ?_
  refine q_aload_n rfl rfl ?_
  refine v_cv rfl rfl rfl rfl (by decide) ⟨⟨rfl, rfl⟩, by decide, rfl⟩ (Nat.le_of_ble_eq_true rfl) (Nat.le_of_ble_eq_true rfl) ?_
  refine q_aload_n rfl rfl ?_
  refine v_gi (z := 4) (v := f9) rfl rfl rfl (by decide) rfl rfl (hv2) ?_
  refine v_if_ne_f (t := 11) rfl (by decide) (by omega) ?_
  refine q_iconst rfl ?_
  refine q_goto (t := 12) rfl (by decide) ?_
  refine v_zret rfl rfl (by decide) ?_
  refine bk_inl ?_
  refine v_if_eq_f (t := 136) rfl (by decide) (by decide) ?_
  refine q_iload rfl rfl ?_
  refine q_aload_n rfl rfl ?_
  refine v_sln 20 rfl rfl (by omega) (Nat.le_of_ble_eq_true rfl) (by decide) (by decide) ?_
  refine v_ic_eq_f (t := 88) rfl (by decide) (by decide) ?_
  refine q_aload_n rfl rfl ?_
  refine q_iload rfl rfl ?_
  refine v_sch 97 rfl rfl (by omega) (Nat.le_of_ble_eq_true rfl) (by decide) (by decide) (by decide) ?_
  refine v_bip rfl (by decide) ?_
  refine v_ic_ne_t (t := 130) rfl (by decide) (by decide) ?_
  refine v_iinc (v := 2) rfl rfl (by decide) (by decide) ?_
  refine q_goto (t := 52) rfl (by decide) ?_
  refine q_iload rfl rfl ?_
  refine q_aload_n rfl rfl ?_
  refine v_sln 20 rfl rfl (by omega) (Nat.le_of_ble_eq_true rfl) (by decide) (by decide) ?_
  refine v_ic_gt_f (t := 136) rfl (by decide) (by decide) ?_
  refine q_aload_n rfl rfl ?_
  refine v_cv rfl rfl rfl rfl (by decide) ⟨⟨rfl, rfl⟩, by decide, rfl⟩ (Nat.le_of_ble_eq_true rfl) (Nat.le_of_ble_eq_true rfl) ?_
  refine q_aload_n rfl rfl ?_
  refine v_gi (z := 4) (v := f9) rfl rfl rfl (by decide) rfl rfl (hv2) ?_
  refine v_if_ne_f (t := 11) rfl (by decide) (by omega) ?_
  refine q_iconst rfl ?_
  refine q_goto (t := 12) rfl (by decide) ?_
  refine v_zret rfl rfl (by decide) ?_
  refine bk_inl ?_
  refine v_if_eq_f (t := 136) rfl (by decide) (by decide) ?_
  refine q_iload rfl rfl ?_
  refine q_aload_n rfl rfl ?_
  refine v_sln 20 rfl rfl (by omega) (Nat.le_of_ble_eq_true rfl) (by decide) (by decide) ?_
  refine v_ic_eq_f (t := 88) rfl (by decide) (by decide) ?_
  refine q_aload_n rfl rfl ?_
  refine q_iload rfl rfl ?_
  refine v_sch 114 rfl rfl (by omega) (Nat.le_of_ble_eq_true rfl) (by decide) (by decide) (by decide) ?_
  refine v_bip rfl (by decide) ?_
  refine v_ic_ne_t (t := 130) rfl (by decide) (by decide) ?_
  refine v_iinc (v := 3) rfl rfl (by decide) (by decide) ?_
  refine q_goto (t := 52) rfl (by decide) ?_
  refine q_iload rfl rfl ?_
  refine q_aload_n rfl rfl ?_
  refine v_sln 20 rfl rfl (by omega) (Nat.le_of_ble_eq_true rfl) (by decide) (by decide) ?_
  refine v_ic_gt_f (t := 136) rfl (by decide) (by decide) ?_
  refine q_aload_n rfl rfl ?_
  refine v_cv rfl rfl rfl rfl (by decide) ⟨⟨rfl, rfl⟩, by decide, rfl⟩ (Nat.le_of_ble_eq_true rfl) (Nat.le_of_ble_eq_true rfl) ?_
  refine q_aload_n rfl rfl ?_
  refine v_gi (z := 4) (v := f9) rfl rfl rfl (by decide) rfl rfl (hv2) ?_
  refine v_if_ne_f (t := 11) rfl (by decide) (by omega) ?_
  refine q_iconst rfl ?_
  refine q_goto (t := 12) rfl (by decide) ?_
  refine v_zret rfl rfl (by decide) ?_
  refine bk_inl ?_
  refine v_if_eq_f (t := 136) rfl (by decide) (by decide) ?_
  refine q_iload rfl rfl ?_
  refine q_aload_n rfl rfl ?_
  refine v_sln 20 rfl rfl (by omega) (Nat.le_of_ble_eq_true rfl) (by decide) (by decide) ?_
  refine v_ic_eq_f (t := 88) rfl (by decide) (by decide) ?_
  refine q_aload_n rfl rfl ?_
  refine q_iload rfl rfl ?_
  refine v_sch 32 rfl rfl (by omega) (Nat.le_of_ble_eq_true rfl) (by decide) (by decide) (by decide) ?_
  refine v_bip rfl (by decide) ?_
  refine v_ic_ne_f (t := 130) rfl (by decide) (by decide) ?_
  refine q_iload rfl rfl ?_
  refine q_iload rfl rfl ?_
  refine v_isub (v := 3) rfl (by decide) ?_
  refine q_iload_n rfl rfl ?_
  refine q_iload_n rfl rfl ?_
  refine v_isub (v := L8 - r8) rfl rfl ?_
  by_cases h_5 : 3 ≠ L8 - r8
  · refine v_ic_ne_t (t := 121) rfl (by decide) ⟨h_5, ⟨by decide, by decide⟩, by omega, by omega⟩ ?_
    refine v_iinc (v := 1) rfl rfl (by decide) (by decide) ?_
    refine q_iload rfl rfl ?_
    refine q_iconst rfl ?_
    refine v_iadd (v := 4) rfl (by decide) ?_
    refine q_istore rfl (by decide) ?_
    refine Wp_ls [(5, vi 4), (4, vi 1), (6, vi 3), (0, .ref 1), (1, .ref (a_SB + 8)), (2, vi r8), (3, vi L8)] (lsub_cons rfl (lsub_cons rfl (lsub_cons rfl (lsub_cons rfl (lsub_cons rfl (lsub_cons rfl (lsub_cons rfl lsub_nil))))))) ?_
    refine v_iinc (v := 4) rfl rfl (by decide) (by decide) ?_
    refine q_goto (t := 52) rfl (by decide) ?_
    refine Wp_ls [(0, .ref 1), (1, .ref (a_SB + 8)), (2, vi r8), (3, vi L8), (4, vi 1), (5, vi 4), (6, vi 4)] (lsub_cons rfl (lsub_cons rfl (lsub_cons rfl (lsub_cons rfl (lsub_cons rfl (lsub_cons rfl (lsub_cons rfl lsub_nil))))))) ?_
    exact f_10_8_1 (d := d) (r8 := r8) (L8 := L8) (W8 := W8) hI hq0 hq1 hv0 hv1 hv2 hv3 hB ((wd8_0_f (by omega)).symm.trans hdW8) K0 K1
  · refine v_ic_ne_f (t := 121) rfl (by decide) (Decidable.not_not.mp h_5) ?_
    refine q_aload_n rfl rfl ?_
    refine q_aload_n rfl rfl ?_
    refine q_iload rfl rfl ?_
    refine q_iload_n rfl rfl ?_
    refine q_iload_n rfl rfl ?_
    refine q_iload_n rfl rfl ?_
    refine v_isub (v := L8 - r8) rfl rfl ?_
    refine v_cv rfl rfl rfl rfl (by decide) ⟨⟨rfl, rfl⟩, by decide, rfl⟩ (Nat.le_of_ble_eq_true rfl) (Nat.le_of_ble_eq_true rfl) ?_
    refine q_iconst rfl ?_
    refine q_istore rfl (by decide) ?_
    refine q_iload rfl rfl ?_
    refine q_iload rfl rfl ?_
    refine v_ic_ge_f (t := 38) rfl (by decide) (by omega) ?_
    refine q_aload_n rfl rfl ?_
    refine q_iload_n rfl rfl ?_
    refine q_iload rfl rfl ?_
    refine v_iadd (v := 0) rfl (by decide) ?_
    refine v_sch 106 rfl rfl (by omega) (Nat.le_of_ble_eq_true rfl) (by decide) (by decide) (by decide) ?_
    refine q_aload_n rfl rfl ?_
    refine v_gr (t := 2) rfl rfl rfl (by decide) rfl ?_
    refine q_iload_n rfl rfl ?_
    refine q_iload rfl rfl ?_
    refine v_iadd (v := r8) rfl (by omega) ?_
    have h_6 : -2147483648 ≤ (B r8) ∧ (B r8) ≤ 2147483647 := by rw [← hB r8]; exact ir_2 hI r8
    refine v_ba (v := (B r8)) rfl rfl (by decide) (by decide) (by omega) (hB r8) ?_
    by_cases h_7 : 106 = (B r8)
    · refine v_ic_eq_t (t := 32) rfl (by decide) h_7 ?_
      refine v_iinc (v := 1) rfl rfl (by decide) (by decide) ?_
      refine q_goto (t := 3) rfl (by decide) ?_
      refine q_iload rfl rfl ?_
      refine q_iload rfl rfl ?_
      refine v_ic_ge_f (t := 38) rfl (by decide) (by omega) ?_
      refine q_aload_n rfl rfl ?_
      refine q_iload_n rfl rfl ?_
      refine q_iload rfl rfl ?_
      refine v_iadd (v := 1) rfl (by decide) ?_
      refine v_sch 97 rfl rfl (by omega) (Nat.le_of_ble_eq_true rfl) (by decide) (by decide) (by decide) ?_
      refine q_aload_n rfl rfl ?_
      refine v_gr (t := 2) rfl rfl rfl (by decide) rfl ?_
      refine q_iload_n rfl rfl ?_
      refine q_iload rfl rfl ?_
      refine v_iadd (v := r8 + 1) rfl rfl ?_
      have h_8 : -2147483648 ≤ (B (r8 + 1)) ∧ (B (r8 + 1)) ≤ 2147483647 := by rw [← hB (r8 + 1)]; exact ir_2 hI (r8 + 1)
      refine v_ba (v := (B (r8 + 1))) rfl rfl (by decide) (by decide) (by omega) (hB (r8 + 1)) ?_
      by_cases h_9 : 97 = (B (r8 + 1))
      · refine v_ic_eq_t (t := 32) rfl (by decide) h_9 ?_
        refine v_iinc (v := 2) rfl rfl (by decide) (by decide) ?_
        refine q_goto (t := 3) rfl (by decide) ?_
        refine q_iload rfl rfl ?_
        refine q_iload rfl rfl ?_
        refine v_ic_ge_f (t := 38) rfl (by decide) (by omega) ?_
        refine q_aload_n rfl rfl ?_
        refine q_iload_n rfl rfl ?_
        refine q_iload rfl rfl ?_
        refine v_iadd (v := 2) rfl (by decide) ?_
        refine v_sch 114 rfl rfl (by omega) (Nat.le_of_ble_eq_true rfl) (by decide) (by decide) (by decide) ?_
        refine q_aload_n rfl rfl ?_
        refine v_gr (t := 2) rfl rfl rfl (by decide) rfl ?_
        refine q_iload_n rfl rfl ?_
        refine q_iload rfl rfl ?_
        refine v_iadd (v := r8 + 2) rfl rfl ?_
        have h_10 : -2147483648 ≤ (B (r8 + 2)) ∧ (B (r8 + 2)) ≤ 2147483647 := by rw [← hB (r8 + 2)]; exact ir_2 hI (r8 + 2)
        refine v_ba (v := (B (r8 + 2))) rfl rfl (by decide) (by decide) (by omega) (hB (r8 + 2)) ?_
        by_cases h_11 : 114 = (B (r8 + 2))
        · refine v_ic_eq_t (t := 32) rfl (by decide) h_11 ?_
          refine v_iinc (v := 3) rfl rfl (by decide) (by decide) ?_
          refine q_goto (t := 3) rfl (by decide) ?_
          refine q_iload rfl rfl ?_
          refine q_iload rfl rfl ?_
          refine v_ic_ge_t (t := 38) rfl (by decide) (by omega) ?_
          refine q_iconst rfl ?_
          refine v_zret rfl rfl (by decide) ?_
          refine bk_inl ?_
          refine v_if_eq_f (t := 121) rfl (by decide) (by decide) ?_
          refine q_aload_n rfl rfl ?_
          refine q_iload_n rfl rfl ?_
          refine v_pi (z := 2) rfl rfl rfl (by decide) rfl rfl rfl (by decide) ?_
          refine q_iload rfl rfl ?_
          refine q_iret rfl rfl ?_
          have hw9 : W8 = 0 := hdW8.symm.trans (wd8_0_t (by omega))
          have hI_12 := iw_1_2 (v := L8) hI ⟨by omega, by omega⟩
          have h_13 : (up c 1 2 L8) 1 2 = L8 := (up_e rfl)
          have h_14 : (up c 1 2 L8) 1 4 = f9 := ((up_n (by decide)).trans (hv2))
          have h_15 : (up c 1 2 L8) 1 5 = p9 := ((up_n (by decide)).trans (hv3))
          exact zv (by omega) (K1 (up c 1 2 L8) hI_12 (fun a j hm => up_b (Decidable.or_iff_not_imp_left.mpr (fun h1 h2 => hm (Or.inl ⟨Decidable.not_not.mp h1, h2⟩)))) (by omega) (by omega) (by omega) (by omega))
        · refine v_ic_eq_f (t := 32) rfl (by decide) ⟨h_11, ⟨by decide, by decide⟩, by omega, by omega⟩ ?_
          refine q_iconst rfl ?_
          refine v_zret rfl rfl (by decide) ?_
          refine bk_inl ?_
          refine v_if_eq_t (t := 121) rfl (by decide) (by decide) ?_
          refine v_iinc (v := 1) rfl rfl (by decide) (by decide) ?_
          refine q_iload rfl rfl ?_
          refine q_iconst rfl ?_
          refine v_iadd (v := 4) rfl (by decide) ?_
          refine q_istore rfl (by decide) ?_
          refine Wp_ls [(5, vi 4), (4, vi 1), (6, vi 3), (0, .ref 1), (1, .ref (a_SB + 8)), (2, vi r8), (3, vi L8)] (lsub_cons rfl (lsub_cons rfl (lsub_cons rfl (lsub_cons rfl (lsub_cons rfl (lsub_cons rfl (lsub_cons rfl lsub_nil))))))) ?_
          refine v_iinc (v := 4) rfl rfl (by decide) (by decide) ?_
          refine q_goto (t := 52) rfl (by decide) ?_
          refine Wp_ls [(0, .ref 1), (1, .ref (a_SB + 8)), (2, vi r8), (3, vi L8), (4, vi 1), (5, vi 4), (6, vi 4)] (lsub_cons rfl (lsub_cons rfl (lsub_cons rfl (lsub_cons rfl (lsub_cons rfl (lsub_cons rfl (lsub_cons rfl lsub_nil))))))) ?_
          exact f_10_8_1 (d := d) (r8 := r8) (L8 := L8) (W8 := W8) hI hq0 hq1 hv0 hv1 hv2 hv3 hB ((wd8_0_f (by omega)).symm.trans hdW8) K0 K1
      · refine v_ic_eq_f (t := 32) rfl (by decide) ⟨h_9, ⟨by decide, by decide⟩, by omega, by omega⟩ ?_
        refine q_iconst rfl ?_
        refine v_zret rfl rfl (by decide) ?_
        refine bk_inl ?_
        refine v_if_eq_t (t := 121) rfl (by decide) (by decide) ?_
        refine v_iinc (v := 1) rfl rfl (by decide) (by decide) ?_
        refine q_iload rfl rfl ?_
        refine q_iconst rfl ?_
        refine v_iadd (v := 4) rfl (by decide) ?_
        refine q_istore rfl (by decide) ?_
        refine Wp_ls [(5, vi 4), (4, vi 1), (6, vi 3), (0, .ref 1), (1, .ref (a_SB + 8)), (2, vi r8), (3, vi L8)] (lsub_cons rfl (lsub_cons rfl (lsub_cons rfl (lsub_cons rfl (lsub_cons rfl (lsub_cons rfl (lsub_cons rfl lsub_nil))))))) ?_
        refine v_iinc (v := 4) rfl rfl (by decide) (by decide) ?_
        refine q_goto (t := 52) rfl (by decide) ?_
        refine Wp_ls [(0, .ref 1), (1, .ref (a_SB + 8)), (2, vi r8), (3, vi L8), (4, vi 1), (5, vi 4), (6, vi 4)] (lsub_cons rfl (lsub_cons rfl (lsub_cons rfl (lsub_cons rfl (lsub_cons rfl (lsub_cons rfl (lsub_cons rfl lsub_nil))))))) ?_
        exact f_10_8_1 (d := d) (r8 := r8) (L8 := L8) (W8 := W8) hI hq0 hq1 hv0 hv1 hv2 hv3 hB ((wd8_0_f (by omega)).symm.trans hdW8) K0 K1
    · refine v_ic_eq_f (t := 32) rfl (by decide) ⟨h_7, ⟨by decide, by decide⟩, by omega, by omega⟩ ?_
      refine q_iconst rfl ?_
      refine v_zret rfl rfl (by decide) ?_
      refine bk_inl ?_
      refine v_if_eq_t (t := 121) rfl (by decide) (by decide) ?_
      refine v_iinc (v := 1) rfl rfl (by decide) (by decide) ?_
      refine q_iload rfl rfl ?_
      refine q_iconst rfl ?_
      refine v_iadd (v := 4) rfl (by decide) ?_
      refine q_istore rfl (by decide) ?_
      refine Wp_ls [(5, vi 4), (4, vi 1), (6, vi 3), (0, .ref 1), (1, .ref (a_SB + 8)), (2, vi r8), (3, vi L8)] (lsub_cons rfl (lsub_cons rfl (lsub_cons rfl (lsub_cons rfl (lsub_cons rfl (lsub_cons rfl (lsub_cons rfl lsub_nil))))))) ?_
      refine v_iinc (v := 4) rfl rfl (by decide) (by decide) ?_
      refine q_goto (t := 52) rfl (by decide) ?_
      refine Wp_ls [(0, .ref 1), (1, .ref (a_SB + 8)), (2, vi r8), (3, vi L8), (4, vi 1), (5, vi 4), (6, vi 4)] (lsub_cons rfl (lsub_cons rfl (lsub_cons rfl (lsub_cons rfl (lsub_cons rfl (lsub_cons rfl (lsub_cons rfl lsub_nil))))))) ?_
      exact f_10_8_1 (d := d) (r8 := r8) (L8 := L8) (W8 := W8) hI hq0 hq1 hv0 hv1 hv2 hv3 hB ((wd8_0_f (by omega)).symm.trans hdW8) K0 K1

set_option maxRecDepth 100000 in
set_option maxHeartbeats 4000000 in
theorem f_10_8_l {sc : List Int32} {e : Int} {d u P Q : Nat} {c : ME} {e1 a9 f9 p9 r8 L8 W8 : Int} {B : Int → Int} {Z : AR → Prop} (hI : Iv u e P Q c) (hv0 : c 1 1 = e1) (hv1 : c 1 2 = a9) (hv2 : c 1 4 = f9) (hv3 : c 1 5 = p9) (hB : ∀ j : Int, c 2 j = B j) (hdr8 : nx B e1 a9 = r8) (hdL8 : ln B e1 r8 = L8) (hdW8 : wd8_0 B r8 L8 = W8) (K0 : ∀ c2 : ME, Iv u e P Q c2 → (∀ (a : Nat) (j : Int), ¬ ((a = 1 ∧ j = 2) ∨ (a = 1 ∧ j = 4) ∨ (a = 1 ∧ j = 5)) → c2 a j = c a j) → ((f9 ≠ 0)) → (c2 1 2 = r8) → (c2 1 4 = f9) → (c2 1 5 = p9) → Z (.inl (some (vi (-1))), Wd P Q P P c2, 0, 0)) (K1 : ∀ c2 : ME, Iv u e P Q c2 → (∀ (a : Nat) (j : Int), ¬ ((a = 1 ∧ j = 2) ∨ (a = 1 ∧ j = 4) ∨ (a = 1 ∧ j = 5)) → c2 a j = c a j) → ((f9 = 0)) → ((W8 = (-1))) → (c2 1 2 = r8) → (c2 1 4 = 1) → (c2 1 5 = r8) → Z (.inl (some (vi (-1))), Wd P Q P P c2, 0, 0)) (K2 : ∀ c2 : ME, Iv u e P Q c2 → (∀ (a : Nat) (j : Int), ¬ ((a = 1 ∧ j = 2) ∨ (a = 1 ∧ j = 4) ∨ (a = 1 ∧ j = 5)) → c2 a j = c a j) → ((f9 = 0)) → ((W8 ≥ 0 ∧ W8 ≤ 3)) → (c2 1 2 = L8) → (c2 1 4 = 0) → (c2 1 5 = p9) → Z (.inl (some (vi W8)), Wd P Q P P c2, 0, 0)) : ∀ n : Nat, (∀ (c2 : ME) (v3 : Int), Iv u e P Q c2 → (∀ (a : Nat) (j : Int), ¬ ((a = 1 ∧ j = 2) ∨ (a = 1 ∧ j = 4) ∨ (a = 1 ∧ j = 5)) → c2 a j = c a j) → 0 ≤ v3 ∧ v3 ≤ 600 → (ln B e1 v3 = L8) → ((v3 ≥ r8)) → ((c2 1 2 = r8)) → ((c2 1 4 = f9)) → ((c2 1 5 = p9)) → 600 - v3 < (n : Int) → Wp sc (d + 13) 10 7 [(0, .ref 1), (1, .ref (a_SB + 8)), (2, vi r8), (3, vi v3)] [] (Wd P Q P P c2) 0 0 Z)
  | 0 => by intro c2 v3 hI2 hF hv3 hx0 hx1 hx2 hx3 hx4 hm9; have hP := iv_P hI; have hQ := iv_Q hI; have h_1 := ir_1_1 hI; have h_2 := ir_1_2 hI; have h_3 := ir_1_4 hI; have h_4 := ir_1_5 hI; have h_5 := ir_1_2 hI2; have h_6 := ir_1_4 hI2; have h_7 := ir_1_5 hI2; exfalso; omega
  | n + 1 => by
    have hP := iv_P hI
    have hQ := iv_Q hI
    have ih := f_10_8_l (sc := sc) (d := d) hI hv0 hv1 hv2 hv3 hB hdr8 hdL8 hdW8 K0 K1 K2 n
    intro c2 v3 hI2 hF hv3 hx0 hx1 hx2 hx3 hx4 hm9
    have h_1 := ir_1_1 hI
    have h_2 := ir_1_2 hI
    have h_3 := ir_1_4 hI
    have h_4 := ir_1_5 hI
    have hn1 := nx_bd (b := B) (e := e1) (a := a9)
    rw [hdr8] at hn1
    have hn2 := ln_bd (b := B) (e := e1) (a := r8)
    rw [hdL8] at hn2
    have h_5 := ir_1_2 hI2
    have h_6 := ir_1_4 hI2
    have h_7 := ir_1_5 hI2
    refine q_iload_n rfl rfl ?_
    refine q_aload_n rfl rfl ?_
    have kn_8 : Hid (c2 1 1 = e1) := (hF 1 1 (fun q => q.elim (fun h => absurd h.2 (ni rfl)) (fun q => q.elim (fun h => absurd h.2 (ni rfl)) (fun h => absurd h.2 (ni rfl))))).trans (hv0)
    refine v_gi (z := 1) (v := e1) rfl rfl rfl (by decide) rfl rfl (hid kn_8) ?_
    by_cases h_9 : v3 ≥ e1
    · refine v_ic_ge_t (t := 43) rfl (by decide) ⟨by omega, h_9, (Int.le_trans hv3.2 (by decide))⟩ ?_
      refine q_iconst rfl ?_
      refine q_istore rfl (by decide) ?_
      refine q_iconst rfl ?_
      refine q_istore rfl (by decide) ?_
      refine q_iconst rfl ?_
      refine q_istore rfl (by decide) ?_
      by_cases h_10 : f9 = 0
      · skip
        have hz8 : ln B e1 v3 = v3 := ln_z (by omega)
        have hz9 : v3 = L8 := hz8.symm.trans hx0
        refine Wp_ls [(0, .ref 1), (1, .ref (a_SB + 8)), (2, vi r8), (3, vi L8), (4, vi 0), (5, vi 0), (6, vi 0)] (lsub_cons rfl (lsub_cons rfl (lsub_cons rfl (lsub_cons (congrArg (fun w9 => some (vi w9)) hz9) (lsub_cons rfl (lsub_cons rfl (lsub_cons rfl lsub_nil))))))) ?_
        exact f_10_8_0 (e1 := e1) (a9 := c2 1 2) (f9 := c2 1 4) (p9 := c2 1 5) (r8 := r8) (L8 := L8) (W8 := W8) hI2 (by omega) (by omega) ((hid kn_8)) (rfl) (rfl) (rfl) (fun j => (hF 2 j (fun q => q.elim (fun h => absurd h.1 (nn rfl)) (fun q => q.elim (fun h => absurd h.1 (nn rfl)) (fun h => absurd h.1 (nn rfl))))).trans (hB j)) hdW8 (fun c9 hI9 hF9 x1 z1 z2 z3 => K1 c9 hI9 (fun a j hm => (hF9 a j hm).trans (hF a j (fun q => q.elim (fun h => hm (Or.inl h)) (fun q => q.elim (fun h => hm (Or.inr (Or.inl h))) (fun h => hm (Or.inr (Or.inr h))))))) (by omega) (by omega) (by omega) (by omega) (by omega)) (fun c9 hI9 hF9 x1 z1 z2 z3 => K2 c9 hI9 (fun a j hm => (hF9 a j hm).trans (hF a j (fun q => q.elim (fun h => hm (Or.inl h)) (fun q => q.elim (fun h => hm (Or.inr (Or.inl h))) (fun h => hm (Or.inr (Or.inr h))))))) (by omega) (by omega) (by omega) (by omega) (by omega))
      · skip
        refine q_iload rfl rfl ?_
        refine q_aload_n rfl rfl ?_
        refine v_sln 20 rfl rfl (by omega) (Nat.le_of_ble_eq_true rfl) (by decide) (by decide) ?_
        refine v_ic_gt_f (t := 136) rfl (by decide) (by decide) ?_
        refine q_aload_n rfl rfl ?_
        refine v_cv rfl rfl rfl rfl (by decide) ⟨⟨rfl, rfl⟩, by decide, rfl⟩ (Nat.le_of_ble_eq_true rfl) (Nat.le_of_ble_eq_true rfl) ?_
        refine q_aload_n rfl rfl ?_
        refine v_gi (z := 4) (v := c2 1 4) rfl rfl rfl (by decide) rfl rfl rfl ?_
        refine v_if_ne_t (t := 11) rfl (by decide) ⟨by omega, ⟨(Int.le_trans (by decide) h_6.1), (Int.le_trans h_6.2 (by decide))⟩, by decide, by decide⟩ ?_
        refine q_iconst rfl ?_
        refine v_zret rfl rfl (by decide) ?_
        refine bk_inl ?_
        refine v_if_eq_t (t := 136) rfl (by decide) (by decide) ?_
        refine q_aload_n rfl rfl ?_
        refine q_iconst rfl ?_
        refine q_iload_n rfl rfl ?_
        refine v_cv rfl rfl rfl rfl (by decide) ⟨⟨rfl, rfl⟩, by decide, rfl⟩ (Nat.le_of_ble_eq_true rfl) (Nat.le_of_ble_eq_true rfl) ?_
        refine q_aload_n rfl rfl ?_
        refine v_gi (z := 4) (v := c2 1 4) rfl rfl rfl (by decide) rfl rfl rfl ?_
        refine v_if_ne_t (t := 17) rfl (by decide) ⟨by omega, ⟨(Int.le_trans (by decide) h_6.1), (Int.le_trans h_6.2 (by decide))⟩, by decide, by decide⟩ ?_
        refine q_vret rfl rfl ?_
        refine bk_inl ?_
        refine q_iconst rfl ?_
        refine q_iret rfl rfl ?_
        exact zv (by omega) (K0 c2 hI2 (fun a j hm => hF a j (fun q => q.elim (fun h => hm (Or.inl h)) (fun q => q.elim (fun h => hm (Or.inr (Or.inl h))) (fun h => hm (Or.inr (Or.inr h)))))) (by omega) (by omega) (by omega) (by omega))
    · refine v_ic_ge_f (t := 43) rfl (by decide) ⟨(Int.le_trans (by decide) hv3.1), (Int.not_le.mp h_9), by omega⟩ ?_
      refine q_aload_n rfl rfl ?_
      refine v_gr (t := 2) rfl rfl rfl (by decide) rfl ?_
      refine q_iload_n rfl rfl ?_
      have h_11 : -2147483648 ≤ (B v3) ∧ (B v3) ≤ 2147483647 := by rw [← hB v3]; exact ir_2 hI v3
      have kn_12 : Hid (c2 2 v3 = (B v3)) := (hF 2 v3 (fun q => q.elim (fun h => absurd h.1 (nn rfl)) (fun q => q.elim (fun h => absurd h.1 (nn rfl)) (fun h => absurd h.1 (nn rfl))))).trans (hB v3)
      refine v_ba (v := (B v3)) rfl rfl (by decide) (by decide) (by omega) (hid kn_12) ?_
      refine v_bip rfl (by decide) ?_
      by_cases h_13 : (B v3) < 97
      · refine v_ic_lt_t (t := 43) rfl (by decide) ⟨by omega, h_13, by decide⟩ ?_
        refine q_iconst rfl ?_
        refine q_istore rfl (by decide) ?_
        refine q_iconst rfl ?_
        refine q_istore rfl (by decide) ?_
        refine q_iconst rfl ?_
        refine q_istore rfl (by decide) ?_
        by_cases h_14 : f9 = 0
        · skip
          have hz8 : ln B e1 v3 = v3 := ln_z (by omega)
          have hz9 : v3 = L8 := hz8.symm.trans hx0
          refine Wp_ls [(0, .ref 1), (1, .ref (a_SB + 8)), (2, vi r8), (3, vi L8), (4, vi 0), (5, vi 0), (6, vi 0)] (lsub_cons rfl (lsub_cons rfl (lsub_cons rfl (lsub_cons (congrArg (fun w9 => some (vi w9)) hz9) (lsub_cons rfl (lsub_cons rfl (lsub_cons rfl lsub_nil))))))) ?_
          exact f_10_8_0 (e1 := e1) (a9 := c2 1 2) (f9 := c2 1 4) (p9 := c2 1 5) (r8 := r8) (L8 := L8) (W8 := W8) hI2 (by omega) (by omega) ((hid kn_8)) (rfl) (rfl) (rfl) (fun j => (hF 2 j (fun q => q.elim (fun h => absurd h.1 (nn rfl)) (fun q => q.elim (fun h => absurd h.1 (nn rfl)) (fun h => absurd h.1 (nn rfl))))).trans (hB j)) hdW8 (fun c9 hI9 hF9 x1 z1 z2 z3 => K1 c9 hI9 (fun a j hm => (hF9 a j hm).trans (hF a j (fun q => q.elim (fun h => hm (Or.inl h)) (fun q => q.elim (fun h => hm (Or.inr (Or.inl h))) (fun h => hm (Or.inr (Or.inr h))))))) (by omega) (by omega) (by omega) (by omega) (by omega)) (fun c9 hI9 hF9 x1 z1 z2 z3 => K2 c9 hI9 (fun a j hm => (hF9 a j hm).trans (hF a j (fun q => q.elim (fun h => hm (Or.inl h)) (fun q => q.elim (fun h => hm (Or.inr (Or.inl h))) (fun h => hm (Or.inr (Or.inr h))))))) (by omega) (by omega) (by omega) (by omega) (by omega))
        · skip
          refine q_iload rfl rfl ?_
          refine q_aload_n rfl rfl ?_
          refine v_sln 20 rfl rfl (by omega) (Nat.le_of_ble_eq_true rfl) (by decide) (by decide) ?_
          refine v_ic_gt_f (t := 136) rfl (by decide) (by decide) ?_
          refine q_aload_n rfl rfl ?_
          refine v_cv rfl rfl rfl rfl (by decide) ⟨⟨rfl, rfl⟩, by decide, rfl⟩ (Nat.le_of_ble_eq_true rfl) (Nat.le_of_ble_eq_true rfl) ?_
          refine q_aload_n rfl rfl ?_
          refine v_gi (z := 4) (v := c2 1 4) rfl rfl rfl (by decide) rfl rfl rfl ?_
          refine v_if_ne_t (t := 11) rfl (by decide) ⟨by omega, ⟨(Int.le_trans (by decide) h_6.1), (Int.le_trans h_6.2 (by decide))⟩, by decide, by decide⟩ ?_
          refine q_iconst rfl ?_
          refine v_zret rfl rfl (by decide) ?_
          refine bk_inl ?_
          refine v_if_eq_t (t := 136) rfl (by decide) (by decide) ?_
          refine q_aload_n rfl rfl ?_
          refine q_iconst rfl ?_
          refine q_iload_n rfl rfl ?_
          refine v_cv rfl rfl rfl rfl (by decide) ⟨⟨rfl, rfl⟩, by decide, rfl⟩ (Nat.le_of_ble_eq_true rfl) (Nat.le_of_ble_eq_true rfl) ?_
          refine q_aload_n rfl rfl ?_
          refine v_gi (z := 4) (v := c2 1 4) rfl rfl rfl (by decide) rfl rfl rfl ?_
          refine v_if_ne_t (t := 17) rfl (by decide) ⟨by omega, ⟨(Int.le_trans (by decide) h_6.1), (Int.le_trans h_6.2 (by decide))⟩, by decide, by decide⟩ ?_
          refine q_vret rfl rfl ?_
          refine bk_inl ?_
          refine q_iconst rfl ?_
          refine q_iret rfl rfl ?_
          exact zv (by omega) (K0 c2 hI2 (fun a j hm => hF a j (fun q => q.elim (fun h => hm (Or.inl h)) (fun q => q.elim (fun h => hm (Or.inr (Or.inl h))) (fun h => hm (Or.inr (Or.inr h)))))) (by omega) (by omega) (by omega) (by omega))
      · refine v_ic_lt_f (t := 43) rfl (by decide) ⟨by decide, (Int.not_lt.mp h_13), by omega⟩ ?_
        refine q_aload_n rfl rfl ?_
        refine v_gr (t := 2) rfl rfl rfl (by decide) rfl ?_
        refine q_iload_n rfl rfl ?_
        refine v_ba (v := (B v3)) rfl rfl (by decide) (by decide) (by omega) (hid kn_12) ?_
        refine v_bip rfl (by decide) ?_
        by_cases h_15 : (B v3) > 122
        · refine v_ic_gt_t (t := 43) rfl (by decide) ⟨by decide, h_15, by omega⟩ ?_
          refine q_iconst rfl ?_
          refine q_istore rfl (by decide) ?_
          refine q_iconst rfl ?_
          refine q_istore rfl (by decide) ?_
          refine q_iconst rfl ?_
          refine q_istore rfl (by decide) ?_
          by_cases h_16 : f9 = 0
          · skip
            have hz8 : ln B e1 v3 = v3 := ln_z (by omega)
            have hz9 : v3 = L8 := hz8.symm.trans hx0
            refine Wp_ls [(0, .ref 1), (1, .ref (a_SB + 8)), (2, vi r8), (3, vi L8), (4, vi 0), (5, vi 0), (6, vi 0)] (lsub_cons rfl (lsub_cons rfl (lsub_cons rfl (lsub_cons (congrArg (fun w9 => some (vi w9)) hz9) (lsub_cons rfl (lsub_cons rfl (lsub_cons rfl lsub_nil))))))) ?_
            exact f_10_8_0 (e1 := e1) (a9 := c2 1 2) (f9 := c2 1 4) (p9 := c2 1 5) (r8 := r8) (L8 := L8) (W8 := W8) hI2 (by omega) (by omega) ((hid kn_8)) (rfl) (rfl) (rfl) (fun j => (hF 2 j (fun q => q.elim (fun h => absurd h.1 (nn rfl)) (fun q => q.elim (fun h => absurd h.1 (nn rfl)) (fun h => absurd h.1 (nn rfl))))).trans (hB j)) hdW8 (fun c9 hI9 hF9 x1 z1 z2 z3 => K1 c9 hI9 (fun a j hm => (hF9 a j hm).trans (hF a j (fun q => q.elim (fun h => hm (Or.inl h)) (fun q => q.elim (fun h => hm (Or.inr (Or.inl h))) (fun h => hm (Or.inr (Or.inr h))))))) (by omega) (by omega) (by omega) (by omega) (by omega)) (fun c9 hI9 hF9 x1 z1 z2 z3 => K2 c9 hI9 (fun a j hm => (hF9 a j hm).trans (hF a j (fun q => q.elim (fun h => hm (Or.inl h)) (fun q => q.elim (fun h => hm (Or.inr (Or.inl h))) (fun h => hm (Or.inr (Or.inr h))))))) (by omega) (by omega) (by omega) (by omega) (by omega))
          · skip
            refine q_iload rfl rfl ?_
            refine q_aload_n rfl rfl ?_
            refine v_sln 20 rfl rfl (by omega) (Nat.le_of_ble_eq_true rfl) (by decide) (by decide) ?_
            refine v_ic_gt_f (t := 136) rfl (by decide) (by decide) ?_
            refine q_aload_n rfl rfl ?_
            refine v_cv rfl rfl rfl rfl (by decide) ⟨⟨rfl, rfl⟩, by decide, rfl⟩ (Nat.le_of_ble_eq_true rfl) (Nat.le_of_ble_eq_true rfl) ?_
            refine q_aload_n rfl rfl ?_
            refine v_gi (z := 4) (v := c2 1 4) rfl rfl rfl (by decide) rfl rfl rfl ?_
            refine v_if_ne_t (t := 11) rfl (by decide) ⟨by omega, ⟨(Int.le_trans (by decide) h_6.1), (Int.le_trans h_6.2 (by decide))⟩, by decide, by decide⟩ ?_
            refine q_iconst rfl ?_
            refine v_zret rfl rfl (by decide) ?_
            refine bk_inl ?_
            refine v_if_eq_t (t := 136) rfl (by decide) (by decide) ?_
            refine q_aload_n rfl rfl ?_
            refine q_iconst rfl ?_
            refine q_iload_n rfl rfl ?_
            refine v_cv rfl rfl rfl rfl (by decide) ⟨⟨rfl, rfl⟩, by decide, rfl⟩ (Nat.le_of_ble_eq_true rfl) (Nat.le_of_ble_eq_true rfl) ?_
            refine q_aload_n rfl rfl ?_
            refine v_gi (z := 4) (v := c2 1 4) rfl rfl rfl (by decide) rfl rfl rfl ?_
            refine v_if_ne_t (t := 17) rfl (by decide) ⟨by omega, ⟨(Int.le_trans (by decide) h_6.1), (Int.le_trans h_6.2 (by decide))⟩, by decide, by decide⟩ ?_
            refine q_vret rfl rfl ?_
            refine bk_inl ?_
            refine q_iconst rfl ?_
            refine q_iret rfl rfl ?_
            exact zv (by omega) (K0 c2 hI2 (fun a j hm => hF a j (fun q => q.elim (fun h => hm (Or.inl h)) (fun q => q.elim (fun h => hm (Or.inr (Or.inl h))) (fun h => hm (Or.inr (Or.inr h)))))) (by omega) (by omega) (by omega) (by omega))
        · refine v_ic_gt_f (t := 43) rfl (by decide) ⟨by omega, (Int.not_lt.mp h_15), by decide⟩ ?_
          refine v_iinc (v := v3 + 1) rfl rfl (by decide) rfl ?_
          refine q_goto (t := 7) rfl (by decide) ?_
          refine Wp_ls [(0, .ref 1), (1, .ref (a_SB + 8)), (2, vi r8), (3, vi (v3 + 1))] (lsub_cons rfl (lsub_cons rfl (lsub_cons rfl (lsub_cons rfl lsub_nil)))) ?_
          exact ih c2 (v3 + 1) hI2 (fun a j hm => hF a j (fun q => q.elim (fun h => hm (Or.inl h)) (fun q => q.elim (fun h => hm (Or.inr (Or.inl h))) (fun h => hm (Or.inr (Or.inr h)))))) ⟨by omega, by omega⟩ ((ln_s (by omega)).symm.trans hx0) (by omega) (by omega) (by omega) (by omega) (by omega)
set_option maxRecDepth 100000 in
set_option maxHeartbeats 4000000 in
theorem f_10_8 {sc : List Int32} {e : Int} {d u P Q : Nat} {c : ME} {e1 a9 f9 p9 r8 L8 W8 : Int} {B : Int → Int} {Z : AR → Prop} (hI : Iv u e P Q c) (hv0 : c 1 1 = e1) (hv1 : c 1 2 = a9) (hv2 : c 1 4 = f9) (hv3 : c 1 5 = p9) (hB : ∀ j : Int, c 2 j = B j) (hdr8 : nx B e1 a9 = r8) (hdL8 : ln B e1 r8 = L8) (hdW8 : wd8_0 B r8 L8 = W8) (K0 : ∀ c2 : ME, Iv u e P Q c2 → (∀ (a : Nat) (j : Int), ¬ ((a = 1 ∧ j = 2) ∨ (a = 1 ∧ j = 4) ∨ (a = 1 ∧ j = 5)) → c2 a j = c a j) → ((f9 ≠ 0)) → (c2 1 2 = r8) → (c2 1 4 = f9) → (c2 1 5 = p9) → Z (.inl (some (vi (-1))), Wd P Q P P c2, 0, 0)) (K1 : ∀ c2 : ME, Iv u e P Q c2 → (∀ (a : Nat) (j : Int), ¬ ((a = 1 ∧ j = 2) ∨ (a = 1 ∧ j = 4) ∨ (a = 1 ∧ j = 5)) → c2 a j = c a j) → ((f9 = 0)) → ((W8 = (-1))) → (c2 1 2 = r8) → (c2 1 4 = 1) → (c2 1 5 = r8) → Z (.inl (some (vi (-1))), Wd P Q P P c2, 0, 0)) (K2 : ∀ c2 : ME, Iv u e P Q c2 → (∀ (a : Nat) (j : Int), ¬ ((a = 1 ∧ j = 2) ∨ (a = 1 ∧ j = 4) ∨ (a = 1 ∧ j = 5)) → c2 a j = c a j) → ((f9 = 0)) → ((W8 ≥ 0 ∧ W8 ≤ 3)) → (c2 1 2 = L8) → (c2 1 4 = 0) → (c2 1 5 = p9) → Z (.inl (some (vi W8)), Wd P Q P P c2, 0, 0)) : Wp sc (d + 13) 10 0 [(0, .ref 1), (1, .ref (a_SB + 8))] [] (Wd P Q P P c) 0 0 Z := by
  have hP := iv_P hI
  have hQ := iv_Q hI
  have h_17 := ir_1_1 hI
  have h_18 := ir_1_2 hI
  have h_19 := ir_1_4 hI
  have h_20 := ir_1_5 hI
  have hn1 := nx_bd (b := B) (e := e1) (a := a9)
  rw [hdr8] at hn1
  have hn2 := ln_bd (b := B) (e := e1) (a := r8)
  rw [hdL8] at hn2
  refine q_aload_n rfl rfl ?_
  have h_21 : -2147483648 ≤ (B a9) ∧ (B a9) ≤ 2147483647 := by rw [← hB a9]; exact ir_2 hI a9
  refine v_cv rfl rfl rfl rfl (by decide) ⟨⟨rfl, rfl⟩, by decide, rfl⟩ (Nat.le_of_ble_eq_true rfl) (Nat.le_of_ble_eq_true rfl) (f_3 (e1 := e1) (a9 := a9) (B := B) (r8 := r8) hI ((hv0)) ((hv1)) (fun j => hB j) hdr8 (fun c_22 hI_23 hF_24 hz_25 => ?_))
  refine bk_inl ?_
  refine q_istore_n rfl (by decide) ?_
  refine q_iload_n rfl rfl ?_
  refine q_istore_n rfl (by decide) ?_
  refine Wp_ls [(0, .ref 1), (1, .ref (a_SB + 8)), (2, vi r8), (3, vi r8)] (lsub_cons rfl (lsub_cons rfl (lsub_cons rfl (lsub_cons rfl lsub_nil)))) ?_
  have h_26 : c_22 1 2 = r8 := (hz_25)
  have kn_27 : Hid (c_22 1 4 = f9) := (hF_24 1 4 (fun h => absurd h.2 (ni rfl))).trans (hv2)
  have h_28 : c_22 1 4 = f9 := (hid kn_27)
  have kn_29 : Hid (c_22 1 5 = p9) := (hF_24 1 5 (fun h => absurd h.2 (ni rfl))).trans (hv3)
  have h_30 : c_22 1 5 = p9 := (hid kn_29)
  exact (f_10_8_l (sc := sc) (d := d) hI hv0 hv1 hv2 hv3 hB hdr8 hdL8 hdW8 K0 K1 K2 601) c_22 r8 hI_23 (fun a j hm => hF_24 a j (fun h => hm (Or.inl h))) ⟨by omega, by omega⟩ hdL8 (by omega) (by omega) (by omega) (by omega) (by omega)

set_option maxRecDepth 100000 in
set_option maxHeartbeats 4000000 in
theorem f_10_1_9 {sc : List Int32} {e : Int} {d u P Q : Nat} {c : ME} {e1 a9 f9 p9 W8 r8 L8 : Int} {B : Int → Int} {Z : AR → Prop} (hI : Iv u e P Q c) (hq0 : (f9 = 0)) (hq1 : (r8 ≥ 0 ∧ r8 ≤ L8 ∧ L8 ≤ 600)) (hv0 : c 1 1 = e1) (hv1 : c 1 2 = a9) (hv2 : c 1 4 = f9) (hv3 : c 1 5 = p9) (hB : ∀ j : Int, c 2 j = B j) (hdW8 : wd1_9 B r8 L8 = W8) (K0 : ∀ c2 : ME, Iv u e P Q c2 → (∀ (a : Nat) (j : Int), ¬ ((a = 1 ∧ j = 2) ∨ (a = 1 ∧ j = 4) ∨ (a = 1 ∧ j = 5)) → c2 a j = c a j) → ((W8 = (-1))) → (c2 1 2 = a9) → (c2 1 4 = 1) → (c2 1 5 = r8) → Z (.inl (some (vi (-1))), Wd P Q P P c2, 0, 0)) (K1 : ∀ c2 : ME, Iv u e P Q c2 → (∀ (a : Nat) (j : Int), ¬ ((a = 1 ∧ j = 2) ∨ (a = 1 ∧ j = 4) ∨ (a = 1 ∧ j = 5)) → c2 a j = c a j) → ((W8 ≥ 0 ∧ W8 ≤ 9)) → (c2 1 2 = L8) → (c2 1 4 = 0) → (c2 1 5 = p9) → Z (.inl (some (vi W8)), Wd P Q P P c2, 0, 0)) : Wp sc (d + 12) 10 52 [(0, .ref 1), (1, .ref (a_SB + 1)), (2, vi r8), (3, vi L8), (4, vi 9), (5, vi 43), (6, vi 43)] [] (Wd P Q P P c) 0 0 Z := by
  have hP := iv_P hI
  have hQ := iv_Q hI
  have h_1 := ir_1_1 hI
  have h_2 := ir_1_2 hI
  have h_3 := ir_1_4 hI
  have h_4 := ir_1_5 hI
  refine q_iload rfl rfl ?_
  refine q_aload_n rfl rfl ?_
  refine v_sln 47 rfl rfl (by omega) (Nat.le_of_ble_eq_true rfl) (by decide) (by decide) ?_
  refine v_ic_gt_f (t := 136) rfl (by decide) (by decide) ?_
  refine q_aload_n rfl rfl ?_
  refine v_cv rfl rfl rfl rfl (by decide) ⟨⟨rfl, rfl⟩, by decide, rfl⟩ (Nat.le_of_ble_eq_true rfl) (Nat.le_of_ble_eq_true rfl) ?_
  refine q_aload_n rfl rfl ?_
  refine v_gi (z := 4) (v := f9) rfl rfl rfl (by decide) rfl rfl (hv2) ?_
  refine v_if_ne_f (t := 11) rfl (by decide) (by omega) ?_
  refine q_iconst rfl ?_
  refine q_goto (t := 12) rfl (by decide) ?_
  refine v_zret rfl rfl (by decide) ?_
  refine bk_inl ?_
  refine v_if_eq_f (t := 136) rfl (by decide) (by decide) ?_
  refine q_iload rfl rfl ?_
  refine q_aload_n rfl rfl ?_
  refine v_sln 47 rfl rfl (by omega) (Nat.le_of_ble_eq_true rfl) (by decide) (by decide) ?_
  refine v_ic_eq_f (t := 88) rfl (by decide) (by decide) ?_
  refine q_aload_n rfl rfl ?_
  refine q_iload rfl rfl ?_
  refine v_sch 109 rfl rfl (by omega) (Nat.le_of_ble_eq_true rfl) (by decide) (by decide) (by decide) ?_
  refine v_bip rfl (by decide) ?_
  refine v_ic_ne_t (t := 130) rfl (by decide) (by decide) ?_
  refine v_iinc (v := 44) rfl rfl (by decide) (by decide) ?_
  refine q_goto (t := 52) rfl (by decide) ?_
  refine q_iload rfl rfl ?_
  refine q_aload_n rfl rfl ?_
  refine v_sln 47 rfl rfl (by omega) (Nat.le_of_ble_eq_true rfl) (by decide) (by decide) ?_
  refine v_ic_gt_f (t := 136) rfl (by decide) (by decide) ?_
  refine q_aload_n rfl rfl ?_
  refine v_cv rfl rfl rfl rfl (by decide) ⟨⟨rfl, rfl⟩, by decide, rfl⟩ (Nat.le_of_ble_eq_true rfl) (Nat.le_of_ble_eq_true rfl) ?_
  refine q_aload_n rfl rfl ?_
  refine v_gi (z := 4) (v := f9) rfl rfl rfl (by decide) rfl rfl (hv2) ?_
  refine v_if_ne_f (t := 11) rfl (by decide) (by omega) ?_
  refine q_iconst rfl ?_
  refine q_goto (t := 12) rfl (by decide) ?_
  refine v_zret rfl rfl (by decide) ?_
  refine bk_inl ?_
  refine v_if_eq_f (t := 136) rfl (by decide) (by decide) ?_
  refine q_iload rfl rfl ?_
  refine q_aload_n rfl rfl ?_
  refine v_sln 47 rfl rfl (by omega) (Nat.le_of_ble_eq_true rfl) (by decide) (by decide) ?_
  refine v_ic_eq_f (t := 88) rfl (by decide) (by decide) ?_
  refine q_aload_n rfl rfl ?_
  refine q_iload rfl rfl ?_
  refine v_sch 111 rfl rfl (by omega) (Nat.le_of_ble_eq_true rfl) (by decide) (by decide) (by decide) ?_
  refine v_bip rfl (by decide) ?_
  refine v_ic_ne_t (t := 130) rfl (by decide) (by decide) ?_
  refine v_iinc (v := 45) rfl rfl (by decide) (by decide) ?_
  refine q_goto (t := 52) rfl (by decide) ?_
  refine q_iload rfl rfl ?_
  refine q_aload_n rfl rfl ?_
  refine v_sln 47 rfl rfl (by omega) (Nat.le_of_ble_eq_true rfl) (by decide) (by decide) ?_
  refine v_ic_gt_f (t := 136) rfl (by decide) (by decide) ?_
  refine q_aload_n rfl rfl ?_
  refine v_cv rfl rfl rfl rfl (by decide) ⟨⟨rfl, rfl⟩, by decide, rfl⟩ (Nat.le_of_ble_eq_true rfl) (Nat.le_of_ble_eq_true rfl) ?_
  refine q_aload_n rfl rfl ?_
  refine v_gi (z := 4) (v := f9) rfl rfl rfl (by decide) rfl rfl (hv2) ?_
  refine v_if_ne_f (t := 11) rfl (by decide) (by omega) ?_
  refine q_iconst rfl ?_
  refine q_goto (t := 12) rfl (by decide) ?_
  refine v_zret rfl rfl (by decide) ?_
  refine bk_inl ?_
  refine v_if_eq_f (t := 136) rfl (by decide) (by decide) ?_
  refine q_iload rfl rfl ?_
  refine q_aload_n rfl rfl ?_
  refine v_sln 47 rfl rfl (by omega) (Nat.le_of_ble_eq_true rfl) (by decide) (by decide) ?_
  refine v_ic_eq_f (t := 88) rfl (by decide) (by decide) ?_
  refine q_aload_n rfl rfl ?_
  refine q_iload rfl rfl ?_
  refine v_sch 115 rfl rfl (by omega) (Nat.le_of_ble_eq_true rfl) (by decide) (by decide) (by decide) ?_
  refine v_bip rfl (by decide) ?_
  refine v_ic_ne_t (t := 130) rfl (by decide) (by decide) ?_
  refine v_iinc (v := 46) rfl rfl (by decide) (by decide) ?_
  refine q_goto (t := 52) rfl (by decide) ?_
  refine q_iload rfl rfl ?_
  refine q_aload_n rfl rfl ?_
  refine v_sln 47 rfl rfl (by omega) (Nat.le_of_ble_eq_true rfl) (by decide) (by decide) ?_
  refine v_ic_gt_f (t := 136) rfl (by decide) (by decide) ?_
  refine q_aload_n rfl rfl ?_
  refine v_cv rfl rfl rfl rfl (by decide) ⟨⟨rfl, rfl⟩, by decide, rfl⟩ (Nat.le_of_ble_eq_true rfl) (Nat.le_of_ble_eq_true rfl) ?_
  refine q_aload_n rfl rfl ?_
  refine v_gi (z := 4) (v := f9) rfl rfl rfl (by decide) rfl rfl (hv2) ?_
  refine v_if_ne_f (t := 11) rfl (by decide) (by omega) ?_
  refine q_iconst rfl ?_
  refine q_goto (t := 12) rfl (by decide) ?_
  refine v_zret rfl rfl (by decide) ?_
  refine bk_inl ?_
  refine v_if_eq_f (t := 136) rfl (by decide) (by decide) ?_
  refine q_iload rfl rfl ?_
  refine q_aload_n rfl rfl ?_
  refine v_sln 47 rfl rfl (by omega) (Nat.le_of_ble_eq_true rfl) (by decide) (by decide) ?_
  refine v_ic_eq_f (t := 88) rfl (by decide) (by decide) ?_
  refine q_aload_n rfl rfl ?_
  refine q_iload rfl rfl ?_
  refine v_sch 116 rfl rfl (by omega) (Nat.le_of_ble_eq_true rfl) (by decide) (by decide) (by decide) ?_
  refine v_bip rfl (by decide) ?_
  refine v_ic_ne_t (t := 130) rfl (by decide) (by decide) ?_
  refine v_iinc (v := 47) rfl rfl (by decide) (by decide) ?_
  refine q_goto (t := 52) rfl (by decide) ?_
  refine q_iload rfl rfl ?_
  refine q_aload_n rfl rfl ?_
  refine v_sln 47 rfl rfl (by omega) (Nat.le_of_ble_eq_true rfl) (by decide) (by decide) ?_
  refine v_ic_gt_f (t := 136) rfl (by decide) (by decide) ?_
  refine q_aload_n rfl rfl ?_
  refine v_cv rfl rfl rfl rfl (by decide) ⟨⟨rfl, rfl⟩, by decide, rfl⟩ (Nat.le_of_ble_eq_true rfl) (Nat.le_of_ble_eq_true rfl) ?_
  refine q_aload_n rfl rfl ?_
  refine v_gi (z := 4) (v := f9) rfl rfl rfl (by decide) rfl rfl (hv2) ?_
  refine v_if_ne_f (t := 11) rfl (by decide) (by omega) ?_
  refine q_iconst rfl ?_
  refine q_goto (t := 12) rfl (by decide) ?_
  refine v_zret rfl rfl (by decide) ?_
  refine bk_inl ?_
  refine v_if_eq_f (t := 136) rfl (by decide) (by decide) ?_
  refine q_iload rfl rfl ?_
  refine q_aload_n rfl rfl ?_
  refine v_sln 47 rfl rfl (by omega) (Nat.le_of_ble_eq_true rfl) (by decide) (by decide) ?_
  refine v_ic_eq_t (t := 88) rfl (by decide) (by decide) ?_
  refine q_iload rfl rfl ?_
  refine q_iload rfl rfl ?_
  refine v_isub (v := 4) rfl (by decide) ?_
  refine q_iload_n rfl rfl ?_
  refine q_iload_n rfl rfl ?_
  refine v_isub (v := L8 - r8) rfl rfl ?_
  by_cases h_5 : 4 ≠ L8 - r8
  · refine v_ic_ne_t (t := 121) rfl (by decide) ⟨h_5, ⟨by decide, by decide⟩, by omega, by omega⟩ ?_
    refine v_iinc (v := 10) rfl rfl (by decide) (by decide) ?_
    refine Wp_ls [(4, vi 10), (6, vi 47), (0, .ref 1), (1, .ref (a_SB + 1)), (2, vi r8), (3, vi L8), (5, vi 43)] (lsub_cons rfl (lsub_cons rfl (lsub_cons rfl (lsub_cons rfl (lsub_cons rfl (lsub_cons rfl (lsub_cons rfl lsub_nil))))))) ?_
    refine q_iload rfl rfl ?_
    refine q_iconst rfl ?_
    refine v_iadd (v := 48) rfl (by decide) ?_
    refine q_istore rfl (by decide) ?_
    refine v_iinc (v := 48) rfl rfl (by decide) (by decide) ?_
    refine q_goto (t := 52) rfl (by decide) ?_
    refine q_iload rfl rfl ?_
    refine q_aload_n rfl rfl ?_
    refine v_sln 47 rfl rfl (by omega) (Nat.le_of_ble_eq_true rfl) (by decide) (by decide) ?_
    refine v_ic_gt_t (t := 136) rfl (by decide) (by decide) ?_
    refine q_aload_n rfl rfl ?_
    refine q_iconst rfl ?_
    refine q_iload_n rfl rfl ?_
    refine v_cv rfl rfl rfl rfl (by decide) ⟨⟨rfl, rfl⟩, by decide, rfl⟩ (Nat.le_of_ble_eq_true rfl) (Nat.le_of_ble_eq_true rfl) ?_
    refine q_aload_n rfl rfl ?_
    refine v_gi (z := 4) (v := f9) rfl rfl rfl (by decide) rfl rfl (hv2) ?_
    refine v_if_ne_f (t := 17) rfl (by decide) (by omega) ?_
    refine q_aload_n rfl rfl ?_
    refine q_iload_n rfl rfl ?_
    refine v_pi (z := 4) rfl rfl rfl (by decide) rfl rfl rfl (by decide) ?_
    refine q_aload_n rfl rfl ?_
    refine q_iload_n rfl rfl ?_
    refine v_pi (z := 5) rfl rfl rfl (by decide) rfl rfl rfl (by decide) ?_
    refine q_vret rfl rfl ?_
    refine bk_inl ?_
    refine q_iconst rfl ?_
    refine q_iret rfl rfl ?_
    have hw9 : W8 = (-1) := hdW8.symm.trans (wd1_9_f (by omega))
    have hI_6 := iw_1_4 (v := 1) hI ⟨by decide, by decide⟩
    have hI_7 := iw_1_5 (v := r8) hI_6 ⟨by omega, by omega⟩
    have h_8 : (up (up c 1 4 1) 1 5 r8) 1 2 = a9 := ((up_n (by decide)).trans ((up_n (by decide)).trans (hv1)))
    have h_9 : (up (up c 1 4 1) 1 5 r8) 1 4 = 1 := ((up_n (by decide)).trans (up_e rfl))
    have h_10 : (up (up c 1 4 1) 1 5 r8) 1 5 = r8 := (up_e rfl)
    exact zv (by omega) (K0 (up (up c 1 4 1) 1 5 r8) hI_7 (fun a j hm => (up_b (Decidable.or_iff_not_imp_left.mpr (fun h1 h2 => hm (Or.inr (Or.inr ⟨Decidable.not_not.mp h1, h2⟩))))).trans (up_b (Decidable.or_iff_not_imp_left.mpr (fun h1 h2 => hm (Or.inr (Or.inl ⟨Decidable.not_not.mp h1, h2⟩)))))) (by omega) (by omega) (by omega) (by omega))
  · refine v_ic_ne_f (t := 121) rfl (by decide) (Decidable.not_not.mp h_5) ?_
    refine q_aload_n rfl rfl ?_
    refine q_aload_n rfl rfl ?_
    refine q_iload rfl rfl ?_
    refine q_iload_n rfl rfl ?_
    refine q_iload_n rfl rfl ?_
    refine q_iload_n rfl rfl ?_
    refine v_isub (v := L8 - r8) rfl rfl ?_
    refine v_cv rfl rfl rfl rfl (by decide) ⟨⟨rfl, rfl⟩, by decide, rfl⟩ (Nat.le_of_ble_eq_true rfl) (Nat.le_of_ble_eq_true rfl) ?_
    refine q_iconst rfl ?_
    refine q_istore rfl (by decide) ?_
    refine q_iload rfl rfl ?_
    refine q_iload rfl rfl ?_
    refine v_ic_ge_f (t := 38) rfl (by decide) (by omega) ?_
    refine q_aload_n rfl rfl ?_
    refine q_iload_n rfl rfl ?_
    refine q_iload rfl rfl ?_
    refine v_iadd (v := 43) rfl (by decide) ?_
    refine v_sch 109 rfl rfl (by omega) (Nat.le_of_ble_eq_true rfl) (by decide) (by decide) (by decide) ?_
    refine q_aload_n rfl rfl ?_
    refine v_gr (t := 2) rfl rfl rfl (by decide) rfl ?_
    refine q_iload_n rfl rfl ?_
    refine q_iload rfl rfl ?_
    refine v_iadd (v := r8) rfl (by omega) ?_
    have h_11 : -2147483648 ≤ (B r8) ∧ (B r8) ≤ 2147483647 := by rw [← hB r8]; exact ir_2 hI r8
    refine v_ba (v := (B r8)) rfl rfl (by decide) (by decide) (by omega) (hB r8) ?_
    by_cases h_12 : 109 = (B r8)
    · refine v_ic_eq_t (t := 32) rfl (by decide) h_12 ?_
      refine v_iinc (v := 1) rfl rfl (by decide) (by decide) ?_
      refine q_goto (t := 3) rfl (by decide) ?_
      refine q_iload rfl rfl ?_
      refine q_iload rfl rfl ?_
      refine v_ic_ge_f (t := 38) rfl (by decide) (by omega) ?_
      refine q_aload_n rfl rfl ?_
      refine q_iload_n rfl rfl ?_
      refine q_iload rfl rfl ?_
      refine v_iadd (v := 44) rfl (by decide) ?_
      refine v_sch 111 rfl rfl (by omega) (Nat.le_of_ble_eq_true rfl) (by decide) (by decide) (by decide) ?_
      refine q_aload_n rfl rfl ?_
      refine v_gr (t := 2) rfl rfl rfl (by decide) rfl ?_
      refine q_iload_n rfl rfl ?_
      refine q_iload rfl rfl ?_
      refine v_iadd (v := r8 + 1) rfl rfl ?_
      have h_13 : -2147483648 ≤ (B (r8 + 1)) ∧ (B (r8 + 1)) ≤ 2147483647 := by rw [← hB (r8 + 1)]; exact ir_2 hI (r8 + 1)
      refine v_ba (v := (B (r8 + 1))) rfl rfl (by decide) (by decide) (by omega) (hB (r8 + 1)) ?_
      by_cases h_14 : 111 = (B (r8 + 1))
      · refine v_ic_eq_t (t := 32) rfl (by decide) h_14 ?_
        refine v_iinc (v := 2) rfl rfl (by decide) (by decide) ?_
        refine q_goto (t := 3) rfl (by decide) ?_
        refine q_iload rfl rfl ?_
        refine q_iload rfl rfl ?_
        refine v_ic_ge_f (t := 38) rfl (by decide) (by omega) ?_
        refine q_aload_n rfl rfl ?_
        refine q_iload_n rfl rfl ?_
        refine q_iload rfl rfl ?_
        refine v_iadd (v := 45) rfl (by decide) ?_
        refine v_sch 115 rfl rfl (by omega) (Nat.le_of_ble_eq_true rfl) (by decide) (by decide) (by decide) ?_
        refine q_aload_n rfl rfl ?_
        refine v_gr (t := 2) rfl rfl rfl (by decide) rfl ?_
        refine q_iload_n rfl rfl ?_
        refine q_iload rfl rfl ?_
        refine v_iadd (v := r8 + 2) rfl rfl ?_
        have h_15 : -2147483648 ≤ (B (r8 + 2)) ∧ (B (r8 + 2)) ≤ 2147483647 := by rw [← hB (r8 + 2)]; exact ir_2 hI (r8 + 2)
        refine v_ba (v := (B (r8 + 2))) rfl rfl (by decide) (by decide) (by omega) (hB (r8 + 2)) ?_
        by_cases h_16 : 115 = (B (r8 + 2))
        · refine v_ic_eq_t (t := 32) rfl (by decide) h_16 ?_
          refine v_iinc (v := 3) rfl rfl (by decide) (by decide) ?_
          refine q_goto (t := 3) rfl (by decide) ?_
          refine q_iload rfl rfl ?_
          refine q_iload rfl rfl ?_
          refine v_ic_ge_f (t := 38) rfl (by decide) (by omega) ?_
          refine q_aload_n rfl rfl ?_
          refine q_iload_n rfl rfl ?_
          refine q_iload rfl rfl ?_
          refine v_iadd (v := 46) rfl (by decide) ?_
          refine v_sch 116 rfl rfl (by omega) (Nat.le_of_ble_eq_true rfl) (by decide) (by decide) (by decide) ?_
          refine q_aload_n rfl rfl ?_
          refine v_gr (t := 2) rfl rfl rfl (by decide) rfl ?_
          refine q_iload_n rfl rfl ?_
          refine q_iload rfl rfl ?_
          refine v_iadd (v := r8 + 3) rfl rfl ?_
          have h_17 : -2147483648 ≤ (B (r8 + 3)) ∧ (B (r8 + 3)) ≤ 2147483647 := by rw [← hB (r8 + 3)]; exact ir_2 hI (r8 + 3)
          refine v_ba (v := (B (r8 + 3))) rfl rfl (by decide) (by decide) (by omega) (hB (r8 + 3)) ?_
          by_cases h_18 : 116 = (B (r8 + 3))
          · refine v_ic_eq_t (t := 32) rfl (by decide) h_18 ?_
            refine v_iinc (v := 4) rfl rfl (by decide) (by decide) ?_
            refine Wp_ls [(5, vi 4), (0, .ref 1), (1, .ref (a_SB + 1)), (2, vi 43), (3, vi r8), (4, vi (L8 - r8))] (lsub_cons rfl (lsub_cons rfl (lsub_cons rfl (lsub_cons rfl (lsub_cons rfl (lsub_cons rfl lsub_nil)))))) ?_
            refine q_goto (t := 3) rfl (by decide) ?_
            refine q_iload rfl rfl ?_
            refine q_iload rfl rfl ?_
            refine v_ic_ge_t (t := 38) rfl (by decide) (by omega) ?_
            refine q_iconst rfl ?_
            refine v_zret rfl rfl (by decide) ?_
            refine bk_inl ?_
            refine v_if_eq_f (t := 121) rfl (by decide) (by decide) ?_
            refine q_aload_n rfl rfl ?_
            refine q_iload_n rfl rfl ?_
            refine v_pi (z := 2) rfl rfl rfl (by decide) rfl rfl rfl (by decide) ?_
            refine q_iload rfl rfl ?_
            refine q_iret rfl rfl ?_
            have hw9 : W8 = 9 := hdW8.symm.trans (wd1_9_t (by omega))
            have hI_19 := iw_1_2 (v := L8) hI ⟨by omega, by omega⟩
            have h_20 : (up c 1 2 L8) 1 2 = L8 := (up_e rfl)
            have h_21 : (up c 1 2 L8) 1 4 = f9 := ((up_n (by decide)).trans (hv2))
            have h_22 : (up c 1 2 L8) 1 5 = p9 := ((up_n (by decide)).trans (hv3))
            exact zv (by omega) (K1 (up c 1 2 L8) hI_19 (fun a j hm => up_b (Decidable.or_iff_not_imp_left.mpr (fun h1 h2 => hm (Or.inl ⟨Decidable.not_not.mp h1, h2⟩)))) (by omega) (by omega) (by omega) (by omega))
          · refine v_ic_eq_f (t := 32) rfl (by decide) ⟨h_18, ⟨by decide, by decide⟩, by omega, by omega⟩ ?_
            refine q_iconst rfl ?_
            refine v_zret rfl rfl (by decide) ?_
            refine bk_inl ?_
            refine v_if_eq_t (t := 121) rfl (by decide) (by decide) ?_
            refine v_iinc (v := 10) rfl rfl (by decide) (by decide) ?_
            refine Wp_ls [(4, vi 10), (6, vi 47), (0, .ref 1), (1, .ref (a_SB + 1)), (2, vi r8), (3, vi L8), (5, vi 43)] (lsub_cons rfl (lsub_cons rfl (lsub_cons rfl (lsub_cons rfl (lsub_cons rfl (lsub_cons rfl (lsub_cons rfl lsub_nil))))))) ?_
            refine q_iload rfl rfl ?_
            refine q_iconst rfl ?_
            refine v_iadd (v := 48) rfl (by decide) ?_
            refine q_istore rfl (by decide) ?_
            refine v_iinc (v := 48) rfl rfl (by decide) (by decide) ?_
            refine q_goto (t := 52) rfl (by decide) ?_
            refine q_iload rfl rfl ?_
            refine q_aload_n rfl rfl ?_
            refine v_sln 47 rfl rfl (by omega) (Nat.le_of_ble_eq_true rfl) (by decide) (by decide) ?_
            refine v_ic_gt_t (t := 136) rfl (by decide) (by decide) ?_
            refine q_aload_n rfl rfl ?_
            refine q_iconst rfl ?_
            refine q_iload_n rfl rfl ?_
            refine v_cv rfl rfl rfl rfl (by decide) ⟨⟨rfl, rfl⟩, by decide, rfl⟩ (Nat.le_of_ble_eq_true rfl) (Nat.le_of_ble_eq_true rfl) ?_
            refine q_aload_n rfl rfl ?_
            refine v_gi (z := 4) (v := f9) rfl rfl rfl (by decide) rfl rfl (hv2) ?_
            refine v_if_ne_f (t := 17) rfl (by decide) (by omega) ?_
            refine q_aload_n rfl rfl ?_
            refine q_iload_n rfl rfl ?_
            refine v_pi (z := 4) rfl rfl rfl (by decide) rfl rfl rfl (by decide) ?_
            refine q_aload_n rfl rfl ?_
            refine q_iload_n rfl rfl ?_
            refine v_pi (z := 5) rfl rfl rfl (by decide) rfl rfl rfl (by decide) ?_
            refine q_vret rfl rfl ?_
            refine bk_inl ?_
            refine q_iconst rfl ?_
            refine q_iret rfl rfl ?_
            have hw9 : W8 = (-1) := hdW8.symm.trans (wd1_9_f (by omega))
            have hI_23 := iw_1_4 (v := 1) hI ⟨by decide, by decide⟩
            have hI_24 := iw_1_5 (v := r8) hI_23 ⟨by omega, by omega⟩
            have h_25 : (up (up c 1 4 1) 1 5 r8) 1 2 = a9 := ((up_n (by decide)).trans ((up_n (by decide)).trans (hv1)))
            have h_26 : (up (up c 1 4 1) 1 5 r8) 1 4 = 1 := ((up_n (by decide)).trans (up_e rfl))
            have h_27 : (up (up c 1 4 1) 1 5 r8) 1 5 = r8 := (up_e rfl)
            exact zv (by omega) (K0 (up (up c 1 4 1) 1 5 r8) hI_24 (fun a j hm => (up_b (Decidable.or_iff_not_imp_left.mpr (fun h1 h2 => hm (Or.inr (Or.inr ⟨Decidable.not_not.mp h1, h2⟩))))).trans (up_b (Decidable.or_iff_not_imp_left.mpr (fun h1 h2 => hm (Or.inr (Or.inl ⟨Decidable.not_not.mp h1, h2⟩)))))) (by omega) (by omega) (by omega) (by omega))
        · refine v_ic_eq_f (t := 32) rfl (by decide) ⟨h_16, ⟨by decide, by decide⟩, by omega, by omega⟩ ?_
          refine q_iconst rfl ?_
          refine v_zret rfl rfl (by decide) ?_
          refine bk_inl ?_
          refine v_if_eq_t (t := 121) rfl (by decide) (by decide) ?_
          refine v_iinc (v := 10) rfl rfl (by decide) (by decide) ?_
          refine Wp_ls [(4, vi 10), (6, vi 47), (0, .ref 1), (1, .ref (a_SB + 1)), (2, vi r8), (3, vi L8), (5, vi 43)] (lsub_cons rfl (lsub_cons rfl (lsub_cons rfl (lsub_cons rfl (lsub_cons rfl (lsub_cons rfl (lsub_cons rfl lsub_nil))))))) ?_
          refine q_iload rfl rfl ?_
          refine q_iconst rfl ?_
          refine v_iadd (v := 48) rfl (by decide) ?_
          refine q_istore rfl (by decide) ?_
          refine v_iinc (v := 48) rfl rfl (by decide) (by decide) ?_
          refine q_goto (t := 52) rfl (by decide) ?_
          refine q_iload rfl rfl ?_
          refine q_aload_n rfl rfl ?_
          refine v_sln 47 rfl rfl (by omega) (Nat.le_of_ble_eq_true rfl) (by decide) (by decide) ?_
          refine v_ic_gt_t (t := 136) rfl (by decide) (by decide) ?_
          refine q_aload_n rfl rfl ?_
          refine q_iconst rfl ?_
          refine q_iload_n rfl rfl ?_
          refine v_cv rfl rfl rfl rfl (by decide) ⟨⟨rfl, rfl⟩, by decide, rfl⟩ (Nat.le_of_ble_eq_true rfl) (Nat.le_of_ble_eq_true rfl) ?_
          refine q_aload_n rfl rfl ?_
          refine v_gi (z := 4) (v := f9) rfl rfl rfl (by decide) rfl rfl (hv2) ?_
          refine v_if_ne_f (t := 17) rfl (by decide) (by omega) ?_
          refine q_aload_n rfl rfl ?_
          refine q_iload_n rfl rfl ?_
          refine v_pi (z := 4) rfl rfl rfl (by decide) rfl rfl rfl (by decide) ?_
          refine q_aload_n rfl rfl ?_
          refine q_iload_n rfl rfl ?_
          refine v_pi (z := 5) rfl rfl rfl (by decide) rfl rfl rfl (by decide) ?_
          refine q_vret rfl rfl ?_
          refine bk_inl ?_
          refine q_iconst rfl ?_
          refine q_iret rfl rfl ?_
          have hw9 : W8 = (-1) := hdW8.symm.trans (wd1_9_f (by omega))
          have hI_28 := iw_1_4 (v := 1) hI ⟨by decide, by decide⟩
          have hI_29 := iw_1_5 (v := r8) hI_28 ⟨by omega, by omega⟩
          have h_30 : (up (up c 1 4 1) 1 5 r8) 1 2 = a9 := ((up_n (by decide)).trans ((up_n (by decide)).trans (hv1)))
          have h_31 : (up (up c 1 4 1) 1 5 r8) 1 4 = 1 := ((up_n (by decide)).trans (up_e rfl))
          have h_32 : (up (up c 1 4 1) 1 5 r8) 1 5 = r8 := (up_e rfl)
          exact zv (by omega) (K0 (up (up c 1 4 1) 1 5 r8) hI_29 (fun a j hm => (up_b (Decidable.or_iff_not_imp_left.mpr (fun h1 h2 => hm (Or.inr (Or.inr ⟨Decidable.not_not.mp h1, h2⟩))))).trans (up_b (Decidable.or_iff_not_imp_left.mpr (fun h1 h2 => hm (Or.inr (Or.inl ⟨Decidable.not_not.mp h1, h2⟩)))))) (by omega) (by omega) (by omega) (by omega))
      · refine v_ic_eq_f (t := 32) rfl (by decide) ⟨h_14, ⟨by decide, by decide⟩, by omega, by omega⟩ ?_
        refine q_iconst rfl ?_
        refine v_zret rfl rfl (by decide) ?_
        refine bk_inl ?_
        refine v_if_eq_t (t := 121) rfl (by decide) (by decide) ?_
        refine v_iinc (v := 10) rfl rfl (by decide) (by decide) ?_
        refine Wp_ls [(4, vi 10), (6, vi 47), (0, .ref 1), (1, .ref (a_SB + 1)), (2, vi r8), (3, vi L8), (5, vi 43)] (lsub_cons rfl (lsub_cons rfl (lsub_cons rfl (lsub_cons rfl (lsub_cons rfl (lsub_cons rfl (lsub_cons rfl lsub_nil))))))) ?_
        refine q_iload rfl rfl ?_
        refine q_iconst rfl ?_
        refine v_iadd (v := 48) rfl (by decide) ?_
        refine q_istore rfl (by decide) ?_
        refine v_iinc (v := 48) rfl rfl (by decide) (by decide) ?_
        refine q_goto (t := 52) rfl (by decide) ?_
        refine q_iload rfl rfl ?_
        refine q_aload_n rfl rfl ?_
        refine v_sln 47 rfl rfl (by omega) (Nat.le_of_ble_eq_true rfl) (by decide) (by decide) ?_
        refine v_ic_gt_t (t := 136) rfl (by decide) (by decide) ?_
        refine q_aload_n rfl rfl ?_
        refine q_iconst rfl ?_
        refine q_iload_n rfl rfl ?_
        refine v_cv rfl rfl rfl rfl (by decide) ⟨⟨rfl, rfl⟩, by decide, rfl⟩ (Nat.le_of_ble_eq_true rfl) (Nat.le_of_ble_eq_true rfl) ?_
        refine q_aload_n rfl rfl ?_
        refine v_gi (z := 4) (v := f9) rfl rfl rfl (by decide) rfl rfl (hv2) ?_
        refine v_if_ne_f (t := 17) rfl (by decide) (by omega) ?_
        refine q_aload_n rfl rfl ?_
        refine q_iload_n rfl rfl ?_
        refine v_pi (z := 4) rfl rfl rfl (by decide) rfl rfl rfl (by decide) ?_
        refine q_aload_n rfl rfl ?_
        refine q_iload_n rfl rfl ?_
        refine v_pi (z := 5) rfl rfl rfl (by decide) rfl rfl rfl (by decide) ?_
        refine q_vret rfl rfl ?_
        refine bk_inl ?_
        refine q_iconst rfl ?_
        refine q_iret rfl rfl ?_
        have hw9 : W8 = (-1) := hdW8.symm.trans (wd1_9_f (by omega))
        have hI_33 := iw_1_4 (v := 1) hI ⟨by decide, by decide⟩
        have hI_34 := iw_1_5 (v := r8) hI_33 ⟨by omega, by omega⟩
        have h_35 : (up (up c 1 4 1) 1 5 r8) 1 2 = a9 := ((up_n (by decide)).trans ((up_n (by decide)).trans (hv1)))
        have h_36 : (up (up c 1 4 1) 1 5 r8) 1 4 = 1 := ((up_n (by decide)).trans (up_e rfl))
        have h_37 : (up (up c 1 4 1) 1 5 r8) 1 5 = r8 := (up_e rfl)
        exact zv (by omega) (K0 (up (up c 1 4 1) 1 5 r8) hI_34 (fun a j hm => (up_b (Decidable.or_iff_not_imp_left.mpr (fun h1 h2 => hm (Or.inr (Or.inr ⟨Decidable.not_not.mp h1, h2⟩))))).trans (up_b (Decidable.or_iff_not_imp_left.mpr (fun h1 h2 => hm (Or.inr (Or.inl ⟨Decidable.not_not.mp h1, h2⟩)))))) (by omega) (by omega) (by omega) (by omega))
    · refine v_ic_eq_f (t := 32) rfl (by decide) ⟨h_12, ⟨by decide, by decide⟩, by omega, by omega⟩ ?_
      refine q_iconst rfl ?_
      refine v_zret rfl rfl (by decide) ?_
      refine bk_inl ?_
      refine v_if_eq_t (t := 121) rfl (by decide) (by decide) ?_
      refine v_iinc (v := 10) rfl rfl (by decide) (by decide) ?_
      refine Wp_ls [(4, vi 10), (6, vi 47), (0, .ref 1), (1, .ref (a_SB + 1)), (2, vi r8), (3, vi L8), (5, vi 43)] (lsub_cons rfl (lsub_cons rfl (lsub_cons rfl (lsub_cons rfl (lsub_cons rfl (lsub_cons rfl (lsub_cons rfl lsub_nil))))))) ?_
      refine q_iload rfl rfl ?_
      refine q_iconst rfl ?_
      refine v_iadd (v := 48) rfl (by decide) ?_
      refine q_istore rfl (by decide) ?_
      refine v_iinc (v := 48) rfl rfl (by decide) (by decide) ?_
      refine q_goto (t := 52) rfl (by decide) ?_
      refine q_iload rfl rfl ?_
      refine q_aload_n rfl rfl ?_
      refine v_sln 47 rfl rfl (by omega) (Nat.le_of_ble_eq_true rfl) (by decide) (by decide) ?_
      refine v_ic_gt_t (t := 136) rfl (by decide) (by decide) ?_
      refine q_aload_n rfl rfl ?_
      refine q_iconst rfl ?_
      refine q_iload_n rfl rfl ?_
      refine v_cv rfl rfl rfl rfl (by decide) ⟨⟨rfl, rfl⟩, by decide, rfl⟩ (Nat.le_of_ble_eq_true rfl) (Nat.le_of_ble_eq_true rfl) ?_
      refine q_aload_n rfl rfl ?_
      refine v_gi (z := 4) (v := f9) rfl rfl rfl (by decide) rfl rfl (hv2) ?_
      refine v_if_ne_f (t := 17) rfl (by decide) (by omega) ?_
      refine q_aload_n rfl rfl ?_
      refine q_iload_n rfl rfl ?_
      refine v_pi (z := 4) rfl rfl rfl (by decide) rfl rfl rfl (by decide) ?_
      refine q_aload_n rfl rfl ?_
      refine q_iload_n rfl rfl ?_
      refine v_pi (z := 5) rfl rfl rfl (by decide) rfl rfl rfl (by decide) ?_
      refine q_vret rfl rfl ?_
      refine bk_inl ?_
      refine q_iconst rfl ?_
      refine q_iret rfl rfl ?_
      have hw9 : W8 = (-1) := hdW8.symm.trans (wd1_9_f (by omega))
      have hI_38 := iw_1_4 (v := 1) hI ⟨by decide, by decide⟩
      have hI_39 := iw_1_5 (v := r8) hI_38 ⟨by omega, by omega⟩
      have h_40 : (up (up c 1 4 1) 1 5 r8) 1 2 = a9 := ((up_n (by decide)).trans ((up_n (by decide)).trans (hv1)))
      have h_41 : (up (up c 1 4 1) 1 5 r8) 1 4 = 1 := ((up_n (by decide)).trans (up_e rfl))
      have h_42 : (up (up c 1 4 1) 1 5 r8) 1 5 = r8 := (up_e rfl)
      exact zv (by omega) (K0 (up (up c 1 4 1) 1 5 r8) hI_39 (fun a j hm => (up_b (Decidable.or_iff_not_imp_left.mpr (fun h1 h2 => hm (Or.inr (Or.inr ⟨Decidable.not_not.mp h1, h2⟩))))).trans (up_b (Decidable.or_iff_not_imp_left.mpr (fun h1 h2 => hm (Or.inr (Or.inl ⟨Decidable.not_not.mp h1, h2⟩)))))) (by omega) (by omega) (by omega) (by omega))

set_option maxRecDepth 100000 in
set_option maxHeartbeats 4000000 in
theorem f_10_1_8 {sc : List Int32} {e : Int} {d u P Q : Nat} {c : ME} {e1 a9 f9 p9 W8 r8 L8 : Int} {B : Int → Int} {Z : AR → Prop} (hI : Iv u e P Q c) (hq0 : (f9 = 0)) (hq1 : (r8 ≥ 0 ∧ r8 ≤ L8 ∧ L8 ≤ 600)) (hv0 : c 1 1 = e1) (hv1 : c 1 2 = a9) (hv2 : c 1 4 = f9) (hv3 : c 1 5 = p9) (hB : ∀ j : Int, c 2 j = B j) (hdW8 : wd1_8 B r8 L8 = W8) (K0 : ∀ c2 : ME, Iv u e P Q c2 → (∀ (a : Nat) (j : Int), ¬ ((a = 1 ∧ j = 2) ∨ (a = 1 ∧ j = 4) ∨ (a = 1 ∧ j = 5)) → c2 a j = c a j) → ((W8 = (-1))) → (c2 1 2 = a9) → (c2 1 4 = 1) → (c2 1 5 = r8) → Z (.inl (some (vi (-1))), Wd P Q P P c2, 0, 0)) (K1 : ∀ c2 : ME, Iv u e P Q c2 → (∀ (a : Nat) (j : Int), ¬ ((a = 1 ∧ j = 2) ∨ (a = 1 ∧ j = 4) ∨ (a = 1 ∧ j = 5)) → c2 a j = c a j) → ((W8 ≥ 0 ∧ W8 ≤ 9)) → (c2 1 2 = L8) → (c2 1 4 = 0) → (c2 1 5 = p9) → Z (.inl (some (vi W8)), Wd P Q P P c2, 0, 0)) : Wp sc (d + 12) 10 52 [(0, .ref 1), (1, .ref (a_SB + 1)), (2, vi r8), (3, vi L8), (4, vi 8), (5, vi 37), (6, vi 37)] [] (Wd P Q P P c) 0 0 Z := by
  have hP := iv_P hI
  have hQ := iv_Q hI
  have h_1 := ir_1_1 hI
  have h_2 := ir_1_2 hI
  have h_3 := ir_1_4 hI
  have h_4 := ir_1_5 hI
  refine q_iload rfl rfl ?_
  refine q_aload_n rfl rfl ?_
  refine v_sln 47 rfl rfl (by omega) (Nat.le_of_ble_eq_true rfl) (by decide) (by decide) ?_
  refine v_ic_gt_f (t := 136) rfl (by decide) (by decide) ?_
  refine q_aload_n rfl rfl ?_
  refine v_cv rfl rfl rfl rfl (by decide) ⟨⟨rfl, rfl⟩, by decide, rfl⟩ (Nat.le_of_ble_eq_true rfl) (Nat.le_of_ble_eq_true rfl) ?_
  refine q_aload_n rfl rfl ?_
  refine v_gi (z := 4) (v := f9) rfl rfl rfl (by decide) rfl rfl (hv2) ?_
  refine v_if_ne_f (t := 11) rfl (by decide) (by omega) ?_
  refine q_iconst rfl ?_
  refine q_goto (t := 12) rfl (by decide) ?_
  refine v_zret rfl rfl (by decide) ?_
  refine bk_inl ?_
  refine v_if_eq_f (t := 136) rfl (by decide) (by decide) ?_
  refine q_iload rfl rfl ?_
  refine q_aload_n rfl rfl ?_
  refine v_sln 47 rfl rfl (by omega) (Nat.le_of_ble_eq_true rfl) (by decide) (by decide) ?_
  refine v_ic_eq_f (t := 88) rfl (by decide) (by decide) ?_
  refine q_aload_n rfl rfl ?_
  refine q_iload rfl rfl ?_
  refine v_sch 108 rfl rfl (by omega) (Nat.le_of_ble_eq_true rfl) (by decide) (by decide) (by decide) ?_
  refine v_bip rfl (by decide) ?_
  refine v_ic_ne_t (t := 130) rfl (by decide) (by decide) ?_
  refine v_iinc (v := 38) rfl rfl (by decide) (by decide) ?_
  refine q_goto (t := 52) rfl (by decide) ?_
  refine q_iload rfl rfl ?_
  refine q_aload_n rfl rfl ?_
  refine v_sln 47 rfl rfl (by omega) (Nat.le_of_ble_eq_true rfl) (by decide) (by decide) ?_
  refine v_ic_gt_f (t := 136) rfl (by decide) (by decide) ?_
  refine q_aload_n rfl rfl ?_
  refine v_cv rfl rfl rfl rfl (by decide) ⟨⟨rfl, rfl⟩, by decide, rfl⟩ (Nat.le_of_ble_eq_true rfl) (Nat.le_of_ble_eq_true rfl) ?_
  refine q_aload_n rfl rfl ?_
  refine v_gi (z := 4) (v := f9) rfl rfl rfl (by decide) rfl rfl (hv2) ?_
  refine v_if_ne_f (t := 11) rfl (by decide) (by omega) ?_
  refine q_iconst rfl ?_
  refine q_goto (t := 12) rfl (by decide) ?_
  refine v_zret rfl rfl (by decide) ?_
  refine bk_inl ?_
  refine v_if_eq_f (t := 136) rfl (by decide) (by decide) ?_
  refine q_iload rfl rfl ?_
  refine q_aload_n rfl rfl ?_
  refine v_sln 47 rfl rfl (by omega) (Nat.le_of_ble_eq_true rfl) (by decide) (by decide) ?_
  refine v_ic_eq_f (t := 88) rfl (by decide) (by decide) ?_
  refine q_aload_n rfl rfl ?_
  refine q_iload rfl rfl ?_
  refine v_sch 101 rfl rfl (by omega) (Nat.le_of_ble_eq_true rfl) (by decide) (by decide) (by decide) ?_
  refine v_bip rfl (by decide) ?_
  refine v_ic_ne_t (t := 130) rfl (by decide) (by decide) ?_
  refine v_iinc (v := 39) rfl rfl (by decide) (by decide) ?_
  refine q_goto (t := 52) rfl (by decide) ?_
  refine q_iload rfl rfl ?_
  refine q_aload_n rfl rfl ?_
  refine v_sln 47 rfl rfl (by omega) (Nat.le_of_ble_eq_true rfl) (by decide) (by decide) ?_
  refine v_ic_gt_f (t := 136) rfl (by decide) (by decide) ?_
  refine q_aload_n rfl rfl ?_
  refine v_cv rfl rfl rfl rfl (by decide) ⟨⟨rfl, rfl⟩, by decide, rfl⟩ (Nat.le_of_ble_eq_true rfl) (Nat.le_of_ble_eq_true rfl) ?_
  refine q_aload_n rfl rfl ?_
  refine v_gi (z := 4) (v := f9) rfl rfl rfl (by decide) rfl rfl (hv2) ?_
  refine v_if_ne_f (t := 11) rfl (by decide) (by omega) ?_
  refine q_iconst rfl ?_
  refine q_goto (t := 12) rfl (by decide) ?_
  refine v_zret rfl rfl (by decide) ?_
  refine bk_inl ?_
  refine v_if_eq_f (t := 136) rfl (by decide) (by decide) ?_
  refine q_iload rfl rfl ?_
  refine q_aload_n rfl rfl ?_
  refine v_sln 47 rfl rfl (by omega) (Nat.le_of_ble_eq_true rfl) (by decide) (by decide) ?_
  refine v_ic_eq_f (t := 88) rfl (by decide) (by decide) ?_
  refine q_aload_n rfl rfl ?_
  refine q_iload rfl rfl ?_
  refine v_sch 97 rfl rfl (by omega) (Nat.le_of_ble_eq_true rfl) (by decide) (by decide) (by decide) ?_
  refine v_bip rfl (by decide) ?_
  refine v_ic_ne_t (t := 130) rfl (by decide) (by decide) ?_
  refine v_iinc (v := 40) rfl rfl (by decide) (by decide) ?_
  refine q_goto (t := 52) rfl (by decide) ?_
  refine q_iload rfl rfl ?_
  refine q_aload_n rfl rfl ?_
  refine v_sln 47 rfl rfl (by omega) (Nat.le_of_ble_eq_true rfl) (by decide) (by decide) ?_
  refine v_ic_gt_f (t := 136) rfl (by decide) (by decide) ?_
  refine q_aload_n rfl rfl ?_
  refine v_cv rfl rfl rfl rfl (by decide) ⟨⟨rfl, rfl⟩, by decide, rfl⟩ (Nat.le_of_ble_eq_true rfl) (Nat.le_of_ble_eq_true rfl) ?_
  refine q_aload_n rfl rfl ?_
  refine v_gi (z := 4) (v := f9) rfl rfl rfl (by decide) rfl rfl (hv2) ?_
  refine v_if_ne_f (t := 11) rfl (by decide) (by omega) ?_
  refine q_iconst rfl ?_
  refine q_goto (t := 12) rfl (by decide) ?_
  refine v_zret rfl rfl (by decide) ?_
  refine bk_inl ?_
  refine v_if_eq_f (t := 136) rfl (by decide) (by decide) ?_
  refine q_iload rfl rfl ?_
  refine q_aload_n rfl rfl ?_
  refine v_sln 47 rfl rfl (by omega) (Nat.le_of_ble_eq_true rfl) (by decide) (by decide) ?_
  refine v_ic_eq_f (t := 88) rfl (by decide) (by decide) ?_
  refine q_aload_n rfl rfl ?_
  refine q_iload rfl rfl ?_
  refine v_sch 115 rfl rfl (by omega) (Nat.le_of_ble_eq_true rfl) (by decide) (by decide) (by decide) ?_
  refine v_bip rfl (by decide) ?_
  refine v_ic_ne_t (t := 130) rfl (by decide) (by decide) ?_
  refine v_iinc (v := 41) rfl rfl (by decide) (by decide) ?_
  refine q_goto (t := 52) rfl (by decide) ?_
  refine q_iload rfl rfl ?_
  refine q_aload_n rfl rfl ?_
  refine v_sln 47 rfl rfl (by omega) (Nat.le_of_ble_eq_true rfl) (by decide) (by decide) ?_
  refine v_ic_gt_f (t := 136) rfl (by decide) (by decide) ?_
  refine q_aload_n rfl rfl ?_
  refine v_cv rfl rfl rfl rfl (by decide) ⟨⟨rfl, rfl⟩, by decide, rfl⟩ (Nat.le_of_ble_eq_true rfl) (Nat.le_of_ble_eq_true rfl) ?_
  refine q_aload_n rfl rfl ?_
  refine v_gi (z := 4) (v := f9) rfl rfl rfl (by decide) rfl rfl (hv2) ?_
  refine v_if_ne_f (t := 11) rfl (by decide) (by omega) ?_
  refine q_iconst rfl ?_
  refine q_goto (t := 12) rfl (by decide) ?_
  refine v_zret rfl rfl (by decide) ?_
  refine bk_inl ?_
  refine v_if_eq_f (t := 136) rfl (by decide) (by decide) ?_
  refine q_iload rfl rfl ?_
  refine q_aload_n rfl rfl ?_
  refine v_sln 47 rfl rfl (by omega) (Nat.le_of_ble_eq_true rfl) (by decide) (by decide) ?_
  refine v_ic_eq_f (t := 88) rfl (by decide) (by decide) ?_
  refine q_aload_n rfl rfl ?_
  refine q_iload rfl rfl ?_
  refine v_sch 116 rfl rfl (by omega) (Nat.le_of_ble_eq_true rfl) (by decide) (by decide) (by decide) ?_
  refine v_bip rfl (by decide) ?_
  refine v_ic_ne_t (t := 130) rfl (by decide) (by decide) ?_
  refine v_iinc (v := 42) rfl rfl (by decide) (by decide) ?_
  refine Wp_ls [(6, vi 42), (0, .ref 1), (1, .ref (a_SB + 1)), (2, vi r8), (3, vi L8), (4, vi 8), (5, vi 37)] (lsub_cons rfl (lsub_cons rfl (lsub_cons rfl (lsub_cons rfl (lsub_cons rfl (lsub_cons rfl (lsub_cons rfl lsub_nil))))))) ?_
  refine q_goto (t := 52) rfl (by decide) ?_
  refine q_iload rfl rfl ?_
  refine q_aload_n rfl rfl ?_
  refine v_sln 47 rfl rfl (by omega) (Nat.le_of_ble_eq_true rfl) (by decide) (by decide) ?_
  refine v_ic_gt_f (t := 136) rfl (by decide) (by decide) ?_
  refine q_aload_n rfl rfl ?_
  refine v_cv rfl rfl rfl rfl (by decide) ⟨⟨rfl, rfl⟩, by decide, rfl⟩ (Nat.le_of_ble_eq_true rfl) (Nat.le_of_ble_eq_true rfl) ?_
  refine q_aload_n rfl rfl ?_
  refine v_gi (z := 4) (v := f9) rfl rfl rfl (by decide) rfl rfl (hv2) ?_
  refine v_if_ne_f (t := 11) rfl (by decide) (by omega) ?_
  refine q_iconst rfl ?_
  refine q_goto (t := 12) rfl (by decide) ?_
  refine v_zret rfl rfl (by decide) ?_
  refine bk_inl ?_
  refine v_if_eq_f (t := 136) rfl (by decide) (by decide) ?_
  refine q_iload rfl rfl ?_
  refine q_aload_n rfl rfl ?_
  refine v_sln 47 rfl rfl (by omega) (Nat.le_of_ble_eq_true rfl) (by decide) (by decide) ?_
  refine v_ic_eq_f (t := 88) rfl (by decide) (by decide) ?_
  refine q_aload_n rfl rfl ?_
  refine q_iload rfl rfl ?_
  refine v_sch 32 rfl rfl (by omega) (Nat.le_of_ble_eq_true rfl) (by decide) (by decide) (by decide) ?_
  refine v_bip rfl (by decide) ?_
  refine v_ic_ne_f (t := 130) rfl (by decide) (by decide) ?_
  refine q_iload rfl rfl ?_
  refine q_iload rfl rfl ?_
  refine v_isub (v := 5) rfl (by decide) ?_
  refine q_iload_n rfl rfl ?_
  refine q_iload_n rfl rfl ?_
  refine v_isub (v := L8 - r8) rfl rfl ?_
  by_cases h_5 : 5 ≠ L8 - r8
  · refine v_ic_ne_t (t := 121) rfl (by decide) ⟨h_5, ⟨by decide, by decide⟩, by omega, by omega⟩ ?_
    refine v_iinc (v := 9) rfl rfl (by decide) (by decide) ?_
    refine q_iload rfl rfl ?_
    refine q_iconst rfl ?_
    refine v_iadd (v := 43) rfl (by decide) ?_
    refine q_istore rfl (by decide) ?_
    refine v_iinc (v := 43) rfl rfl (by decide) (by decide) ?_
    refine q_goto (t := 52) rfl (by decide) ?_
    refine Wp_ls [(0, .ref 1), (1, .ref (a_SB + 1)), (2, vi r8), (3, vi L8), (4, vi 9), (5, vi 43), (6, vi 43)] (lsub_cons rfl (lsub_cons rfl (lsub_cons rfl (lsub_cons rfl (lsub_cons rfl (lsub_cons rfl (lsub_cons rfl lsub_nil))))))) ?_
    exact f_10_1_9 (d := d) (r8 := r8) (L8 := L8) (W8 := W8) hI hq0 hq1 hv0 hv1 hv2 hv3 hB ((wd1_8_f (by omega)).symm.trans hdW8) K0 K1
  · refine v_ic_ne_f (t := 121) rfl (by decide) (Decidable.not_not.mp h_5) ?_
    refine q_aload_n rfl rfl ?_
    refine q_aload_n rfl rfl ?_
    refine q_iload rfl rfl ?_
    refine q_iload_n rfl rfl ?_
    refine q_iload_n rfl rfl ?_
    refine q_iload_n rfl rfl ?_
    refine v_isub (v := L8 - r8) rfl rfl ?_
    refine v_cv rfl rfl rfl rfl (by decide) ⟨⟨rfl, rfl⟩, by decide, rfl⟩ (Nat.le_of_ble_eq_true rfl) (Nat.le_of_ble_eq_true rfl) ?_
    refine q_iconst rfl ?_
    refine q_istore rfl (by decide) ?_
    refine q_iload rfl rfl ?_
    refine q_iload rfl rfl ?_
    refine v_ic_ge_f (t := 38) rfl (by decide) (by omega) ?_
    refine q_aload_n rfl rfl ?_
    refine q_iload_n rfl rfl ?_
    refine q_iload rfl rfl ?_
    refine v_iadd (v := 37) rfl (by decide) ?_
    refine v_sch 108 rfl rfl (by omega) (Nat.le_of_ble_eq_true rfl) (by decide) (by decide) (by decide) ?_
    refine q_aload_n rfl rfl ?_
    refine v_gr (t := 2) rfl rfl rfl (by decide) rfl ?_
    refine q_iload_n rfl rfl ?_
    refine q_iload rfl rfl ?_
    refine v_iadd (v := r8) rfl (by omega) ?_
    have h_6 : -2147483648 ≤ (B r8) ∧ (B r8) ≤ 2147483647 := by rw [← hB r8]; exact ir_2 hI r8
    refine v_ba (v := (B r8)) rfl rfl (by decide) (by decide) (by omega) (hB r8) ?_
    by_cases h_7 : 108 = (B r8)
    · refine v_ic_eq_t (t := 32) rfl (by decide) h_7 ?_
      refine v_iinc (v := 1) rfl rfl (by decide) (by decide) ?_
      refine q_goto (t := 3) rfl (by decide) ?_
      refine q_iload rfl rfl ?_
      refine q_iload rfl rfl ?_
      refine v_ic_ge_f (t := 38) rfl (by decide) (by omega) ?_
      refine q_aload_n rfl rfl ?_
      refine q_iload_n rfl rfl ?_
      refine q_iload rfl rfl ?_
      refine v_iadd (v := 38) rfl (by decide) ?_
      refine v_sch 101 rfl rfl (by omega) (Nat.le_of_ble_eq_true rfl) (by decide) (by decide) (by decide) ?_
      refine q_aload_n rfl rfl ?_
      refine v_gr (t := 2) rfl rfl rfl (by decide) rfl ?_
      refine q_iload_n rfl rfl ?_
      refine q_iload rfl rfl ?_
      refine v_iadd (v := r8 + 1) rfl rfl ?_
      have h_8 : -2147483648 ≤ (B (r8 + 1)) ∧ (B (r8 + 1)) ≤ 2147483647 := by rw [← hB (r8 + 1)]; exact ir_2 hI (r8 + 1)
      refine v_ba (v := (B (r8 + 1))) rfl rfl (by decide) (by decide) (by omega) (hB (r8 + 1)) ?_
      by_cases h_9 : 101 = (B (r8 + 1))
      · refine v_ic_eq_t (t := 32) rfl (by decide) h_9 ?_
        refine v_iinc (v := 2) rfl rfl (by decide) (by decide) ?_
        refine q_goto (t := 3) rfl (by decide) ?_
        refine q_iload rfl rfl ?_
        refine q_iload rfl rfl ?_
        refine v_ic_ge_f (t := 38) rfl (by decide) (by omega) ?_
        refine q_aload_n rfl rfl ?_
        refine q_iload_n rfl rfl ?_
        refine q_iload rfl rfl ?_
        refine v_iadd (v := 39) rfl (by decide) ?_
        refine v_sch 97 rfl rfl (by omega) (Nat.le_of_ble_eq_true rfl) (by decide) (by decide) (by decide) ?_
        refine q_aload_n rfl rfl ?_
        refine v_gr (t := 2) rfl rfl rfl (by decide) rfl ?_
        refine q_iload_n rfl rfl ?_
        refine q_iload rfl rfl ?_
        refine v_iadd (v := r8 + 2) rfl rfl ?_
        have h_10 : -2147483648 ≤ (B (r8 + 2)) ∧ (B (r8 + 2)) ≤ 2147483647 := by rw [← hB (r8 + 2)]; exact ir_2 hI (r8 + 2)
        refine v_ba (v := (B (r8 + 2))) rfl rfl (by decide) (by decide) (by omega) (hB (r8 + 2)) ?_
        by_cases h_11 : 97 = (B (r8 + 2))
        · refine v_ic_eq_t (t := 32) rfl (by decide) h_11 ?_
          refine v_iinc (v := 3) rfl rfl (by decide) (by decide) ?_
          refine q_goto (t := 3) rfl (by decide) ?_
          refine q_iload rfl rfl ?_
          refine q_iload rfl rfl ?_
          refine v_ic_ge_f (t := 38) rfl (by decide) (by omega) ?_
          refine q_aload_n rfl rfl ?_
          refine q_iload_n rfl rfl ?_
          refine q_iload rfl rfl ?_
          refine v_iadd (v := 40) rfl (by decide) ?_
          refine v_sch 115 rfl rfl (by omega) (Nat.le_of_ble_eq_true rfl) (by decide) (by decide) (by decide) ?_
          refine q_aload_n rfl rfl ?_
          refine v_gr (t := 2) rfl rfl rfl (by decide) rfl ?_
          refine q_iload_n rfl rfl ?_
          refine q_iload rfl rfl ?_
          refine v_iadd (v := r8 + 3) rfl rfl ?_
          have h_12 : -2147483648 ≤ (B (r8 + 3)) ∧ (B (r8 + 3)) ≤ 2147483647 := by rw [← hB (r8 + 3)]; exact ir_2 hI (r8 + 3)
          refine v_ba (v := (B (r8 + 3))) rfl rfl (by decide) (by decide) (by omega) (hB (r8 + 3)) ?_
          by_cases h_13 : 115 = (B (r8 + 3))
          · refine v_ic_eq_t (t := 32) rfl (by decide) h_13 ?_
            refine v_iinc (v := 4) rfl rfl (by decide) (by decide) ?_
            refine Wp_ls [(5, vi 4), (0, .ref 1), (1, .ref (a_SB + 1)), (2, vi 37), (3, vi r8), (4, vi (L8 - r8))] (lsub_cons rfl (lsub_cons rfl (lsub_cons rfl (lsub_cons rfl (lsub_cons rfl (lsub_cons rfl lsub_nil)))))) ?_
            refine q_goto (t := 3) rfl (by decide) ?_
            refine q_iload rfl rfl ?_
            refine q_iload rfl rfl ?_
            refine v_ic_ge_f (t := 38) rfl (by decide) (by omega) ?_
            refine q_aload_n rfl rfl ?_
            refine q_iload_n rfl rfl ?_
            refine q_iload rfl rfl ?_
            refine v_iadd (v := 41) rfl (by decide) ?_
            refine v_sch 116 rfl rfl (by omega) (Nat.le_of_ble_eq_true rfl) (by decide) (by decide) (by decide) ?_
            refine q_aload_n rfl rfl ?_
            refine v_gr (t := 2) rfl rfl rfl (by decide) rfl ?_
            refine q_iload_n rfl rfl ?_
            refine q_iload rfl rfl ?_
            refine v_iadd (v := r8 + 4) rfl rfl ?_
            have h_14 : -2147483648 ≤ (B (r8 + 4)) ∧ (B (r8 + 4)) ≤ 2147483647 := by rw [← hB (r8 + 4)]; exact ir_2 hI (r8 + 4)
            refine v_ba (v := (B (r8 + 4))) rfl rfl (by decide) (by decide) (by omega) (hB (r8 + 4)) ?_
            by_cases h_15 : 116 = (B (r8 + 4))
            · refine v_ic_eq_t (t := 32) rfl (by decide) h_15 ?_
              refine v_iinc (v := 5) rfl rfl (by decide) (by decide) ?_
              refine q_goto (t := 3) rfl (by decide) ?_
              refine q_iload rfl rfl ?_
              refine q_iload rfl rfl ?_
              refine v_ic_ge_t (t := 38) rfl (by decide) ⟨by first | (clear h_1 h_2 h_3 h_4 h_6 h_7 h_8 h_9 h_10 h_11 h_12 h_13 h_14 h_15; omega) | omega, by first | (clear h_1 h_2 h_3 h_4 h_6 h_7 h_8 h_9 h_10 h_11 h_12 h_13 h_14 h_15; omega) | omega, by decide⟩ ?_
              refine q_iconst rfl ?_
              refine v_zret rfl rfl (by decide) ?_
              refine bk_inl ?_
              refine v_if_eq_f (t := 121) rfl (by decide) (by decide) ?_
              refine q_aload_n rfl rfl ?_
              refine q_iload_n rfl rfl ?_
              refine v_pi (z := 2) rfl rfl rfl (by decide) rfl rfl rfl (by decide) ?_
              refine q_iload rfl rfl ?_
              refine q_iret rfl rfl ?_
              have hw9 : W8 = 8 := hdW8.symm.trans (wd1_8_t (by omega))
              have hI_16 := iw_1_2 (v := L8) hI ⟨by first | (clear h_1 h_2 h_3 h_4 h_6 h_7 h_8 h_9 h_10 h_11 h_12 h_13 h_14 h_15 hw9; omega) | omega, by first | (clear h_1 h_2 h_3 h_4 h_6 h_7 h_8 h_9 h_10 h_11 h_12 h_13 h_14 h_15 hw9; omega) | omega⟩
              have h_17 : (up c 1 2 L8) 1 2 = L8 := (up_e rfl)
              have h_18 : (up c 1 2 L8) 1 4 = f9 := ((up_n (by decide)).trans (hv2))
              have h_19 : (up c 1 2 L8) 1 5 = p9 := ((up_n (by decide)).trans (hv3))
              exact zv (by omega) (K1 (up c 1 2 L8) hI_16 (fun a j hm => up_b (Decidable.or_iff_not_imp_left.mpr (fun h1 h2 => hm (Or.inl ⟨Decidable.not_not.mp h1, h2⟩)))) (by omega) (by omega) (by omega) (by omega))
            · refine v_ic_eq_f (t := 32) rfl (by decide) ⟨h_15, ⟨by decide, by decide⟩, by omega, by omega⟩ ?_
              refine q_iconst rfl ?_
              refine v_zret rfl rfl (by decide) ?_
              refine bk_inl ?_
              refine v_if_eq_t (t := 121) rfl (by decide) (by decide) ?_
              refine v_iinc (v := 9) rfl rfl (by decide) (by decide) ?_
              refine q_iload rfl rfl ?_
              refine q_iconst rfl ?_
              refine v_iadd (v := 43) rfl (by decide) ?_
              refine q_istore rfl (by decide) ?_
              refine v_iinc (v := 43) rfl rfl (by decide) (by decide) ?_
              refine q_goto (t := 52) rfl (by decide) ?_
              refine Wp_ls [(0, .ref 1), (1, .ref (a_SB + 1)), (2, vi r8), (3, vi L8), (4, vi 9), (5, vi 43), (6, vi 43)] (lsub_cons rfl (lsub_cons rfl (lsub_cons rfl (lsub_cons rfl (lsub_cons rfl (lsub_cons rfl (lsub_cons rfl lsub_nil))))))) ?_
              exact f_10_1_9 (d := d) (r8 := r8) (L8 := L8) (W8 := W8) hI hq0 hq1 hv0 hv1 hv2 hv3 hB ((wd1_8_f (by omega)).symm.trans hdW8) K0 K1
          · refine v_ic_eq_f (t := 32) rfl (by decide) ⟨h_13, ⟨by decide, by decide⟩, by omega, by omega⟩ ?_
            refine q_iconst rfl ?_
            refine v_zret rfl rfl (by decide) ?_
            refine bk_inl ?_
            refine v_if_eq_t (t := 121) rfl (by decide) (by decide) ?_
            refine v_iinc (v := 9) rfl rfl (by decide) (by decide) ?_
            refine q_iload rfl rfl ?_
            refine q_iconst rfl ?_
            refine v_iadd (v := 43) rfl (by decide) ?_
            refine q_istore rfl (by decide) ?_
            refine v_iinc (v := 43) rfl rfl (by decide) (by decide) ?_
            refine q_goto (t := 52) rfl (by decide) ?_
            refine Wp_ls [(0, .ref 1), (1, .ref (a_SB + 1)), (2, vi r8), (3, vi L8), (4, vi 9), (5, vi 43), (6, vi 43)] (lsub_cons rfl (lsub_cons rfl (lsub_cons rfl (lsub_cons rfl (lsub_cons rfl (lsub_cons rfl (lsub_cons rfl lsub_nil))))))) ?_
            exact f_10_1_9 (d := d) (r8 := r8) (L8 := L8) (W8 := W8) hI hq0 hq1 hv0 hv1 hv2 hv3 hB ((wd1_8_f (by omega)).symm.trans hdW8) K0 K1
        · refine v_ic_eq_f (t := 32) rfl (by decide) ⟨h_11, ⟨by decide, by decide⟩, by omega, by omega⟩ ?_
          refine q_iconst rfl ?_
          refine v_zret rfl rfl (by decide) ?_
          refine bk_inl ?_
          refine v_if_eq_t (t := 121) rfl (by decide) (by decide) ?_
          refine v_iinc (v := 9) rfl rfl (by decide) (by decide) ?_
          refine q_iload rfl rfl ?_
          refine q_iconst rfl ?_
          refine v_iadd (v := 43) rfl (by decide) ?_
          refine q_istore rfl (by decide) ?_
          refine v_iinc (v := 43) rfl rfl (by decide) (by decide) ?_
          refine q_goto (t := 52) rfl (by decide) ?_
          refine Wp_ls [(0, .ref 1), (1, .ref (a_SB + 1)), (2, vi r8), (3, vi L8), (4, vi 9), (5, vi 43), (6, vi 43)] (lsub_cons rfl (lsub_cons rfl (lsub_cons rfl (lsub_cons rfl (lsub_cons rfl (lsub_cons rfl (lsub_cons rfl lsub_nil))))))) ?_
          exact f_10_1_9 (d := d) (r8 := r8) (L8 := L8) (W8 := W8) hI hq0 hq1 hv0 hv1 hv2 hv3 hB ((wd1_8_f (by omega)).symm.trans hdW8) K0 K1
      · refine v_ic_eq_f (t := 32) rfl (by decide) ⟨h_9, ⟨by decide, by decide⟩, by omega, by omega⟩ ?_
        refine q_iconst rfl ?_
        refine v_zret rfl rfl (by decide) ?_
        refine bk_inl ?_
        refine v_if_eq_t (t := 121) rfl (by decide) (by decide) ?_
        refine v_iinc (v := 9) rfl rfl (by decide) (by decide) ?_
        refine q_iload rfl rfl ?_
        refine q_iconst rfl ?_
        refine v_iadd (v := 43) rfl (by decide) ?_
        refine q_istore rfl (by decide) ?_
        refine v_iinc (v := 43) rfl rfl (by decide) (by decide) ?_
        refine q_goto (t := 52) rfl (by decide) ?_
        refine Wp_ls [(0, .ref 1), (1, .ref (a_SB + 1)), (2, vi r8), (3, vi L8), (4, vi 9), (5, vi 43), (6, vi 43)] (lsub_cons rfl (lsub_cons rfl (lsub_cons rfl (lsub_cons rfl (lsub_cons rfl (lsub_cons rfl (lsub_cons rfl lsub_nil))))))) ?_
        exact f_10_1_9 (d := d) (r8 := r8) (L8 := L8) (W8 := W8) hI hq0 hq1 hv0 hv1 hv2 hv3 hB ((wd1_8_f (by omega)).symm.trans hdW8) K0 K1
    · refine v_ic_eq_f (t := 32) rfl (by decide) ⟨h_7, ⟨by decide, by decide⟩, by omega, by omega⟩ ?_
      refine q_iconst rfl ?_
      refine v_zret rfl rfl (by decide) ?_
      refine bk_inl ?_
      refine v_if_eq_t (t := 121) rfl (by decide) (by decide) ?_
      refine v_iinc (v := 9) rfl rfl (by decide) (by decide) ?_
      refine q_iload rfl rfl ?_
      refine q_iconst rfl ?_
      refine v_iadd (v := 43) rfl (by decide) ?_
      refine q_istore rfl (by decide) ?_
      refine v_iinc (v := 43) rfl rfl (by decide) (by decide) ?_
      refine q_goto (t := 52) rfl (by decide) ?_
      refine Wp_ls [(0, .ref 1), (1, .ref (a_SB + 1)), (2, vi r8), (3, vi L8), (4, vi 9), (5, vi 43), (6, vi 43)] (lsub_cons rfl (lsub_cons rfl (lsub_cons rfl (lsub_cons rfl (lsub_cons rfl (lsub_cons rfl (lsub_cons rfl lsub_nil))))))) ?_
      exact f_10_1_9 (d := d) (r8 := r8) (L8 := L8) (W8 := W8) hI hq0 hq1 hv0 hv1 hv2 hv3 hB ((wd1_8_f (by omega)).symm.trans hdW8) K0 K1

set_option maxRecDepth 100000 in
set_option maxHeartbeats 4000000 in
theorem f_10_1_7 {sc : List Int32} {e : Int} {d u P Q : Nat} {c : ME} {e1 a9 f9 p9 W8 r8 L8 : Int} {B : Int → Int} {Z : AR → Prop} (hI : Iv u e P Q c) (hq0 : (f9 = 0)) (hq1 : (r8 ≥ 0 ∧ r8 ≤ L8 ∧ L8 ≤ 600)) (hv0 : c 1 1 = e1) (hv1 : c 1 2 = a9) (hv2 : c 1 4 = f9) (hv3 : c 1 5 = p9) (hB : ∀ j : Int, c 2 j = B j) (hdW8 : wd1_7 B r8 L8 = W8) (K0 : ∀ c2 : ME, Iv u e P Q c2 → (∀ (a : Nat) (j : Int), ¬ ((a = 1 ∧ j = 2) ∨ (a = 1 ∧ j = 4) ∨ (a = 1 ∧ j = 5)) → c2 a j = c a j) → ((W8 = (-1))) → (c2 1 2 = a9) → (c2 1 4 = 1) → (c2 1 5 = r8) → Z (.inl (some (vi (-1))), Wd P Q P P c2, 0, 0)) (K1 : ∀ c2 : ME, Iv u e P Q c2 → (∀ (a : Nat) (j : Int), ¬ ((a = 1 ∧ j = 2) ∨ (a = 1 ∧ j = 4) ∨ (a = 1 ∧ j = 5)) → c2 a j = c a j) → ((W8 ≥ 0 ∧ W8 ≤ 9)) → (c2 1 2 = L8) → (c2 1 4 = 0) → (c2 1 5 = p9) → Z (.inl (some (vi W8)), Wd P Q P P c2, 0, 0)) : Wp sc (d + 12) 10 52 [(0, .ref 1), (1, .ref (a_SB + 1)), (2, vi r8), (3, vi L8), (4, vi 7), (5, vi 33), (6, vi 33)] [] (Wd P Q P P c) 0 0 Z := by
  have hP := iv_P hI
  have hQ := iv_Q hI
  have h_1 := ir_1_1 hI
  have h_2 := ir_1_2 hI
  have h_3 := ir_1_4 hI
  have h_4 := ir_1_5 hI
  refine q_iload rfl rfl ?_
  refine q_aload_n rfl rfl ?_
  refine v_sln 47 rfl rfl (by omega) (Nat.le_of_ble_eq_true rfl) (by decide) (by decide) ?_
  refine v_ic_gt_f (t := 136) rfl (by decide) (by decide) ?_
  refine q_aload_n rfl rfl ?_
  refine v_cv rfl rfl rfl rfl (by decide) ⟨⟨rfl, rfl⟩, by decide, rfl⟩ (Nat.le_of_ble_eq_true rfl) (Nat.le_of_ble_eq_true rfl) ?_
  refine q_aload_n rfl rfl ?_
  refine v_gi (z := 4) (v := f9) rfl rfl rfl (by decide) rfl rfl (hv2) ?_
  refine v_if_ne_f (t := 11) rfl (by decide) (by omega) ?_
  refine q_iconst rfl ?_
  refine q_goto (t := 12) rfl (by decide) ?_
  refine v_zret rfl rfl (by decide) ?_
  refine bk_inl ?_
  refine v_if_eq_f (t := 136) rfl (by decide) (by decide) ?_
  refine q_iload rfl rfl ?_
  refine q_aload_n rfl rfl ?_
  refine v_sln 47 rfl rfl (by omega) (Nat.le_of_ble_eq_true rfl) (by decide) (by decide) ?_
  refine v_ic_eq_f (t := 88) rfl (by decide) (by decide) ?_
  refine q_aload_n rfl rfl ?_
  refine q_iload rfl rfl ?_
  refine v_sch 106 rfl rfl (by omega) (Nat.le_of_ble_eq_true rfl) (by decide) (by decide) (by decide) ?_
  refine v_bip rfl (by decide) ?_
  refine v_ic_ne_t (t := 130) rfl (by decide) (by decide) ?_
  refine v_iinc (v := 34) rfl rfl (by decide) (by decide) ?_
  refine q_goto (t := 52) rfl (by decide) ?_
  refine q_iload rfl rfl ?_
  refine q_aload_n rfl rfl ?_
  refine v_sln 47 rfl rfl (by omega) (Nat.le_of_ble_eq_true rfl) (by decide) (by decide) ?_
  refine v_ic_gt_f (t := 136) rfl (by decide) (by decide) ?_
  refine q_aload_n rfl rfl ?_
  refine v_cv rfl rfl rfl rfl (by decide) ⟨⟨rfl, rfl⟩, by decide, rfl⟩ (Nat.le_of_ble_eq_true rfl) (Nat.le_of_ble_eq_true rfl) ?_
  refine q_aload_n rfl rfl ?_
  refine v_gi (z := 4) (v := f9) rfl rfl rfl (by decide) rfl rfl (hv2) ?_
  refine v_if_ne_f (t := 11) rfl (by decide) (by omega) ?_
  refine q_iconst rfl ?_
  refine q_goto (t := 12) rfl (by decide) ?_
  refine v_zret rfl rfl (by decide) ?_
  refine bk_inl ?_
  refine v_if_eq_f (t := 136) rfl (by decide) (by decide) ?_
  refine q_iload rfl rfl ?_
  refine q_aload_n rfl rfl ?_
  refine v_sln 47 rfl rfl (by omega) (Nat.le_of_ble_eq_true rfl) (by decide) (by decide) ?_
  refine v_ic_eq_f (t := 88) rfl (by decide) (by decide) ?_
  refine q_aload_n rfl rfl ?_
  refine q_iload rfl rfl ?_
  refine v_sch 97 rfl rfl (by omega) (Nat.le_of_ble_eq_true rfl) (by decide) (by decide) (by decide) ?_
  refine v_bip rfl (by decide) ?_
  refine v_ic_ne_t (t := 130) rfl (by decide) (by decide) ?_
  refine v_iinc (v := 35) rfl rfl (by decide) (by decide) ?_
  refine q_goto (t := 52) rfl (by decide) ?_
  refine q_iload rfl rfl ?_
  refine q_aload_n rfl rfl ?_
  refine v_sln 47 rfl rfl (by omega) (Nat.le_of_ble_eq_true rfl) (by decide) (by decide) ?_
  refine v_ic_gt_f (t := 136) rfl (by decide) (by decide) ?_
  refine q_aload_n rfl rfl ?_
  refine v_cv rfl rfl rfl rfl (by decide) ⟨⟨rfl, rfl⟩, by decide, rfl⟩ (Nat.le_of_ble_eq_true rfl) (Nat.le_of_ble_eq_true rfl) ?_
  refine q_aload_n rfl rfl ?_
  refine v_gi (z := 4) (v := f9) rfl rfl rfl (by decide) rfl rfl (hv2) ?_
  refine v_if_ne_f (t := 11) rfl (by decide) (by omega) ?_
  refine q_iconst rfl ?_
  refine q_goto (t := 12) rfl (by decide) ?_
  refine v_zret rfl rfl (by decide) ?_
  refine bk_inl ?_
  refine v_if_eq_f (t := 136) rfl (by decide) (by decide) ?_
  refine q_iload rfl rfl ?_
  refine q_aload_n rfl rfl ?_
  refine v_sln 47 rfl rfl (by omega) (Nat.le_of_ble_eq_true rfl) (by decide) (by decide) ?_
  refine v_ic_eq_f (t := 88) rfl (by decide) (by decide) ?_
  refine q_aload_n rfl rfl ?_
  refine q_iload rfl rfl ?_
  refine v_sch 114 rfl rfl (by omega) (Nat.le_of_ble_eq_true rfl) (by decide) (by decide) (by decide) ?_
  refine v_bip rfl (by decide) ?_
  refine v_ic_ne_t (t := 130) rfl (by decide) (by decide) ?_
  refine v_iinc (v := 36) rfl rfl (by decide) (by decide) ?_
  refine q_goto (t := 52) rfl (by decide) ?_
  refine q_iload rfl rfl ?_
  refine q_aload_n rfl rfl ?_
  refine v_sln 47 rfl rfl (by omega) (Nat.le_of_ble_eq_true rfl) (by decide) (by decide) ?_
  refine v_ic_gt_f (t := 136) rfl (by decide) (by decide) ?_
  refine q_aload_n rfl rfl ?_
  refine v_cv rfl rfl rfl rfl (by decide) ⟨⟨rfl, rfl⟩, by decide, rfl⟩ (Nat.le_of_ble_eq_true rfl) (Nat.le_of_ble_eq_true rfl) ?_
  refine q_aload_n rfl rfl ?_
  refine v_gi (z := 4) (v := f9) rfl rfl rfl (by decide) rfl rfl (hv2) ?_
  refine v_if_ne_f (t := 11) rfl (by decide) (by omega) ?_
  refine q_iconst rfl ?_
  refine q_goto (t := 12) rfl (by decide) ?_
  refine v_zret rfl rfl (by decide) ?_
  refine bk_inl ?_
  refine v_if_eq_f (t := 136) rfl (by decide) (by decide) ?_
  refine q_iload rfl rfl ?_
  refine q_aload_n rfl rfl ?_
  refine v_sln 47 rfl rfl (by omega) (Nat.le_of_ble_eq_true rfl) (by decide) (by decide) ?_
  refine v_ic_eq_f (t := 88) rfl (by decide) (by decide) ?_
  refine q_aload_n rfl rfl ?_
  refine q_iload rfl rfl ?_
  refine v_sch 32 rfl rfl (by omega) (Nat.le_of_ble_eq_true rfl) (by decide) (by decide) (by decide) ?_
  refine v_bip rfl (by decide) ?_
  refine v_ic_ne_f (t := 130) rfl (by decide) (by decide) ?_
  refine q_iload rfl rfl ?_
  refine q_iload rfl rfl ?_
  refine v_isub (v := 3) rfl (by decide) ?_
  refine q_iload_n rfl rfl ?_
  refine q_iload_n rfl rfl ?_
  refine v_isub (v := L8 - r8) rfl rfl ?_
  by_cases h_5 : 3 ≠ L8 - r8
  · refine v_ic_ne_t (t := 121) rfl (by decide) ⟨h_5, ⟨by decide, by decide⟩, by omega, by omega⟩ ?_
    refine v_iinc (v := 8) rfl rfl (by decide) (by decide) ?_
    refine q_iload rfl rfl ?_
    refine q_iconst rfl ?_
    refine v_iadd (v := 37) rfl (by decide) ?_
    refine q_istore rfl (by decide) ?_
    refine Wp_ls [(5, vi 37), (4, vi 8), (6, vi 36), (0, .ref 1), (1, .ref (a_SB + 1)), (2, vi r8), (3, vi L8)] (lsub_cons rfl (lsub_cons rfl (lsub_cons rfl (lsub_cons rfl (lsub_cons rfl (lsub_cons rfl (lsub_cons rfl lsub_nil))))))) ?_
    refine v_iinc (v := 37) rfl rfl (by decide) (by decide) ?_
    refine q_goto (t := 52) rfl (by decide) ?_
    refine Wp_ls [(0, .ref 1), (1, .ref (a_SB + 1)), (2, vi r8), (3, vi L8), (4, vi 8), (5, vi 37), (6, vi 37)] (lsub_cons rfl (lsub_cons rfl (lsub_cons rfl (lsub_cons rfl (lsub_cons rfl (lsub_cons rfl (lsub_cons rfl lsub_nil))))))) ?_
    exact f_10_1_8 (d := d) (r8 := r8) (L8 := L8) (W8 := W8) hI hq0 hq1 hv0 hv1 hv2 hv3 hB ((wd1_7_f (by omega)).symm.trans hdW8) K0 K1
  · refine v_ic_ne_f (t := 121) rfl (by decide) (Decidable.not_not.mp h_5) ?_
    refine q_aload_n rfl rfl ?_
    refine q_aload_n rfl rfl ?_
    refine q_iload rfl rfl ?_
    refine q_iload_n rfl rfl ?_
    refine q_iload_n rfl rfl ?_
    refine q_iload_n rfl rfl ?_
    refine v_isub (v := L8 - r8) rfl rfl ?_
    refine v_cv rfl rfl rfl rfl (by decide) ⟨⟨rfl, rfl⟩, by decide, rfl⟩ (Nat.le_of_ble_eq_true rfl) (Nat.le_of_ble_eq_true rfl) ?_
    refine q_iconst rfl ?_
    refine q_istore rfl (by decide) ?_
    refine q_iload rfl rfl ?_
    refine q_iload rfl rfl ?_
    refine v_ic_ge_f (t := 38) rfl (by decide) (by omega) ?_
    refine q_aload_n rfl rfl ?_
    refine q_iload_n rfl rfl ?_
    refine q_iload rfl rfl ?_
    refine v_iadd (v := 33) rfl (by decide) ?_
    refine v_sch 106 rfl rfl (by omega) (Nat.le_of_ble_eq_true rfl) (by decide) (by decide) (by decide) ?_
    refine q_aload_n rfl rfl ?_
    refine v_gr (t := 2) rfl rfl rfl (by decide) rfl ?_
    refine q_iload_n rfl rfl ?_
    refine q_iload rfl rfl ?_
    refine v_iadd (v := r8) rfl (by omega) ?_
    have h_6 : -2147483648 ≤ (B r8) ∧ (B r8) ≤ 2147483647 := by rw [← hB r8]; exact ir_2 hI r8
    refine v_ba (v := (B r8)) rfl rfl (by decide) (by decide) (by omega) (hB r8) ?_
    by_cases h_7 : 106 = (B r8)
    · refine v_ic_eq_t (t := 32) rfl (by decide) h_7 ?_
      refine v_iinc (v := 1) rfl rfl (by decide) (by decide) ?_
      refine q_goto (t := 3) rfl (by decide) ?_
      refine q_iload rfl rfl ?_
      refine q_iload rfl rfl ?_
      refine v_ic_ge_f (t := 38) rfl (by decide) (by omega) ?_
      refine q_aload_n rfl rfl ?_
      refine q_iload_n rfl rfl ?_
      refine q_iload rfl rfl ?_
      refine v_iadd (v := 34) rfl (by decide) ?_
      refine v_sch 97 rfl rfl (by omega) (Nat.le_of_ble_eq_true rfl) (by decide) (by decide) (by decide) ?_
      refine q_aload_n rfl rfl ?_
      refine v_gr (t := 2) rfl rfl rfl (by decide) rfl ?_
      refine q_iload_n rfl rfl ?_
      refine q_iload rfl rfl ?_
      refine v_iadd (v := r8 + 1) rfl rfl ?_
      have h_8 : -2147483648 ≤ (B (r8 + 1)) ∧ (B (r8 + 1)) ≤ 2147483647 := by rw [← hB (r8 + 1)]; exact ir_2 hI (r8 + 1)
      refine v_ba (v := (B (r8 + 1))) rfl rfl (by decide) (by decide) (by omega) (hB (r8 + 1)) ?_
      by_cases h_9 : 97 = (B (r8 + 1))
      · refine v_ic_eq_t (t := 32) rfl (by decide) h_9 ?_
        refine v_iinc (v := 2) rfl rfl (by decide) (by decide) ?_
        refine q_goto (t := 3) rfl (by decide) ?_
        refine q_iload rfl rfl ?_
        refine q_iload rfl rfl ?_
        refine v_ic_ge_f (t := 38) rfl (by decide) (by omega) ?_
        refine q_aload_n rfl rfl ?_
        refine q_iload_n rfl rfl ?_
        refine q_iload rfl rfl ?_
        refine v_iadd (v := 35) rfl (by decide) ?_
        refine v_sch 114 rfl rfl (by omega) (Nat.le_of_ble_eq_true rfl) (by decide) (by decide) (by decide) ?_
        refine q_aload_n rfl rfl ?_
        refine v_gr (t := 2) rfl rfl rfl (by decide) rfl ?_
        refine q_iload_n rfl rfl ?_
        refine q_iload rfl rfl ?_
        refine v_iadd (v := r8 + 2) rfl rfl ?_
        have h_10 : -2147483648 ≤ (B (r8 + 2)) ∧ (B (r8 + 2)) ≤ 2147483647 := by rw [← hB (r8 + 2)]; exact ir_2 hI (r8 + 2)
        refine v_ba (v := (B (r8 + 2))) rfl rfl (by decide) (by decide) (by omega) (hB (r8 + 2)) ?_
        by_cases h_11 : 114 = (B (r8 + 2))
        · refine v_ic_eq_t (t := 32) rfl (by decide) h_11 ?_
          refine v_iinc (v := 3) rfl rfl (by decide) (by decide) ?_
          refine q_goto (t := 3) rfl (by decide) ?_
          refine q_iload rfl rfl ?_
          refine q_iload rfl rfl ?_
          refine v_ic_ge_t (t := 38) rfl (by decide) (by omega) ?_
          refine q_iconst rfl ?_
          refine v_zret rfl rfl (by decide) ?_
          refine bk_inl ?_
          refine v_if_eq_f (t := 121) rfl (by decide) (by decide) ?_
          refine q_aload_n rfl rfl ?_
          refine q_iload_n rfl rfl ?_
          refine v_pi (z := 2) rfl rfl rfl (by decide) rfl rfl rfl (by decide) ?_
          refine q_iload rfl rfl ?_
          refine q_iret rfl rfl ?_
          have hw9 : W8 = 7 := hdW8.symm.trans (wd1_7_t (by omega))
          have hI_12 := iw_1_2 (v := L8) hI ⟨by omega, by omega⟩
          have h_13 : (up c 1 2 L8) 1 2 = L8 := (up_e rfl)
          have h_14 : (up c 1 2 L8) 1 4 = f9 := ((up_n (by decide)).trans (hv2))
          have h_15 : (up c 1 2 L8) 1 5 = p9 := ((up_n (by decide)).trans (hv3))
          exact zv (by omega) (K1 (up c 1 2 L8) hI_12 (fun a j hm => up_b (Decidable.or_iff_not_imp_left.mpr (fun h1 h2 => hm (Or.inl ⟨Decidable.not_not.mp h1, h2⟩)))) (by omega) (by omega) (by omega) (by omega))
        · refine v_ic_eq_f (t := 32) rfl (by decide) ⟨h_11, ⟨by decide, by decide⟩, by omega, by omega⟩ ?_
          refine q_iconst rfl ?_
          refine v_zret rfl rfl (by decide) ?_
          refine bk_inl ?_
          refine v_if_eq_t (t := 121) rfl (by decide) (by decide) ?_
          refine v_iinc (v := 8) rfl rfl (by decide) (by decide) ?_
          refine q_iload rfl rfl ?_
          refine q_iconst rfl ?_
          refine v_iadd (v := 37) rfl (by decide) ?_
          refine q_istore rfl (by decide) ?_
          refine Wp_ls [(5, vi 37), (4, vi 8), (6, vi 36), (0, .ref 1), (1, .ref (a_SB + 1)), (2, vi r8), (3, vi L8)] (lsub_cons rfl (lsub_cons rfl (lsub_cons rfl (lsub_cons rfl (lsub_cons rfl (lsub_cons rfl (lsub_cons rfl lsub_nil))))))) ?_
          refine v_iinc (v := 37) rfl rfl (by decide) (by decide) ?_
          refine q_goto (t := 52) rfl (by decide) ?_
          refine Wp_ls [(0, .ref 1), (1, .ref (a_SB + 1)), (2, vi r8), (3, vi L8), (4, vi 8), (5, vi 37), (6, vi 37)] (lsub_cons rfl (lsub_cons rfl (lsub_cons rfl (lsub_cons rfl (lsub_cons rfl (lsub_cons rfl (lsub_cons rfl lsub_nil))))))) ?_
          exact f_10_1_8 (d := d) (r8 := r8) (L8 := L8) (W8 := W8) hI hq0 hq1 hv0 hv1 hv2 hv3 hB ((wd1_7_f (by omega)).symm.trans hdW8) K0 K1
      · refine v_ic_eq_f (t := 32) rfl (by decide) ⟨h_9, ⟨by decide, by decide⟩, by omega, by omega⟩ ?_
        refine q_iconst rfl ?_
        refine v_zret rfl rfl (by decide) ?_
        refine bk_inl ?_
        refine v_if_eq_t (t := 121) rfl (by decide) (by decide) ?_
        refine v_iinc (v := 8) rfl rfl (by decide) (by decide) ?_
        refine q_iload rfl rfl ?_
        refine q_iconst rfl ?_
        refine v_iadd (v := 37) rfl (by decide) ?_
        refine q_istore rfl (by decide) ?_
        refine Wp_ls [(5, vi 37), (4, vi 8), (6, vi 36), (0, .ref 1), (1, .ref (a_SB + 1)), (2, vi r8), (3, vi L8)] (lsub_cons rfl (lsub_cons rfl (lsub_cons rfl (lsub_cons rfl (lsub_cons rfl (lsub_cons rfl (lsub_cons rfl lsub_nil))))))) ?_
        refine v_iinc (v := 37) rfl rfl (by decide) (by decide) ?_
        refine q_goto (t := 52) rfl (by decide) ?_
        refine Wp_ls [(0, .ref 1), (1, .ref (a_SB + 1)), (2, vi r8), (3, vi L8), (4, vi 8), (5, vi 37), (6, vi 37)] (lsub_cons rfl (lsub_cons rfl (lsub_cons rfl (lsub_cons rfl (lsub_cons rfl (lsub_cons rfl (lsub_cons rfl lsub_nil))))))) ?_
        exact f_10_1_8 (d := d) (r8 := r8) (L8 := L8) (W8 := W8) hI hq0 hq1 hv0 hv1 hv2 hv3 hB ((wd1_7_f (by omega)).symm.trans hdW8) K0 K1
    · refine v_ic_eq_f (t := 32) rfl (by decide) ⟨h_7, ⟨by decide, by decide⟩, by omega, by omega⟩ ?_
      refine q_iconst rfl ?_
      refine v_zret rfl rfl (by decide) ?_
      refine bk_inl ?_
      refine v_if_eq_t (t := 121) rfl (by decide) (by decide) ?_
      refine v_iinc (v := 8) rfl rfl (by decide) (by decide) ?_
      refine q_iload rfl rfl ?_
      refine q_iconst rfl ?_
      refine v_iadd (v := 37) rfl (by decide) ?_
      refine q_istore rfl (by decide) ?_
      refine Wp_ls [(5, vi 37), (4, vi 8), (6, vi 36), (0, .ref 1), (1, .ref (a_SB + 1)), (2, vi r8), (3, vi L8)] (lsub_cons rfl (lsub_cons rfl (lsub_cons rfl (lsub_cons rfl (lsub_cons rfl (lsub_cons rfl (lsub_cons rfl lsub_nil))))))) ?_
      refine v_iinc (v := 37) rfl rfl (by decide) (by decide) ?_
      refine q_goto (t := 52) rfl (by decide) ?_
      refine Wp_ls [(0, .ref 1), (1, .ref (a_SB + 1)), (2, vi r8), (3, vi L8), (4, vi 8), (5, vi 37), (6, vi 37)] (lsub_cons rfl (lsub_cons rfl (lsub_cons rfl (lsub_cons rfl (lsub_cons rfl (lsub_cons rfl (lsub_cons rfl lsub_nil))))))) ?_
      exact f_10_1_8 (d := d) (r8 := r8) (L8 := L8) (W8 := W8) hI hq0 hq1 hv0 hv1 hv2 hv3 hB ((wd1_7_f (by omega)).symm.trans hdW8) K0 K1

set_option maxRecDepth 100000 in
set_option maxHeartbeats 4000000 in
theorem f_10_1_6 {sc : List Int32} {e : Int} {d u P Q : Nat} {c : ME} {e1 a9 f9 p9 W8 r8 L8 : Int} {B : Int → Int} {Z : AR → Prop} (hI : Iv u e P Q c) (hq0 : (f9 = 0)) (hq1 : (r8 ≥ 0 ∧ r8 ≤ L8 ∧ L8 ≤ 600)) (hv0 : c 1 1 = e1) (hv1 : c 1 2 = a9) (hv2 : c 1 4 = f9) (hv3 : c 1 5 = p9) (hB : ∀ j : Int, c 2 j = B j) (hdW8 : wd1_6 B r8 L8 = W8) (K0 : ∀ c2 : ME, Iv u e P Q c2 → (∀ (a : Nat) (j : Int), ¬ ((a = 1 ∧ j = 2) ∨ (a = 1 ∧ j = 4) ∨ (a = 1 ∧ j = 5)) → c2 a j = c a j) → ((W8 = (-1))) → (c2 1 2 = a9) → (c2 1 4 = 1) → (c2 1 5 = r8) → Z (.inl (some (vi (-1))), Wd P Q P P c2, 0, 0)) (K1 : ∀ c2 : ME, Iv u e P Q c2 → (∀ (a : Nat) (j : Int), ¬ ((a = 1 ∧ j = 2) ∨ (a = 1 ∧ j = 4) ∨ (a = 1 ∧ j = 5)) → c2 a j = c a j) → ((W8 ≥ 0 ∧ W8 ≤ 9)) → (c2 1 2 = L8) → (c2 1 4 = 0) → (c2 1 5 = p9) → Z (.inl (some (vi W8)), Wd P Q P P c2, 0, 0)) : Wp sc (d + 12) 10 52 [(0, .ref 1), (1, .ref (a_SB + 1)), (2, vi r8), (3, vi L8), (4, vi 6), (5, vi 29), (6, vi 29)] [] (Wd P Q P P c) 0 0 Z := by
  have hP := iv_P hI
  have hQ := iv_Q hI
  have h_1 := ir_1_1 hI
  have h_2 := ir_1_2 hI
  have h_3 := ir_1_4 hI
  have h_4 := ir_1_5 hI
  refine q_iload rfl rfl ?_
  refine q_aload_n rfl rfl ?_
  refine v_sln 47 rfl rfl (by omega) (Nat.le_of_ble_eq_true rfl) (by decide) (by decide) ?_
  refine v_ic_gt_f (t := 136) rfl (by decide) (by decide) ?_
  refine q_aload_n rfl rfl ?_
  refine v_cv rfl rfl rfl rfl (by decide) ⟨⟨rfl, rfl⟩, by decide, rfl⟩ (Nat.le_of_ble_eq_true rfl) (Nat.le_of_ble_eq_true rfl) ?_
  refine q_aload_n rfl rfl ?_
  refine v_gi (z := 4) (v := f9) rfl rfl rfl (by decide) rfl rfl (hv2) ?_
  refine v_if_ne_f (t := 11) rfl (by decide) (by omega) ?_
  refine q_iconst rfl ?_
  refine q_goto (t := 12) rfl (by decide) ?_
  refine v_zret rfl rfl (by decide) ?_
  refine bk_inl ?_
  refine v_if_eq_f (t := 136) rfl (by decide) (by decide) ?_
  refine q_iload rfl rfl ?_
  refine q_aload_n rfl rfl ?_
  refine v_sln 47 rfl rfl (by omega) (Nat.le_of_ble_eq_true rfl) (by decide) (by decide) ?_
  refine v_ic_eq_f (t := 88) rfl (by decide) (by decide) ?_
  refine q_aload_n rfl rfl ?_
  refine q_iload rfl rfl ?_
  refine v_sch 100 rfl rfl (by omega) (Nat.le_of_ble_eq_true rfl) (by decide) (by decide) (by decide) ?_
  refine v_bip rfl (by decide) ?_
  refine v_ic_ne_t (t := 130) rfl (by decide) (by decide) ?_
  refine v_iinc (v := 30) rfl rfl (by decide) (by decide) ?_
  refine q_goto (t := 52) rfl (by decide) ?_
  refine q_iload rfl rfl ?_
  refine q_aload_n rfl rfl ?_
  refine v_sln 47 rfl rfl (by omega) (Nat.le_of_ble_eq_true rfl) (by decide) (by decide) ?_
  refine v_ic_gt_f (t := 136) rfl (by decide) (by decide) ?_
  refine q_aload_n rfl rfl ?_
  refine v_cv rfl rfl rfl rfl (by decide) ⟨⟨rfl, rfl⟩, by decide, rfl⟩ (Nat.le_of_ble_eq_true rfl) (Nat.le_of_ble_eq_true rfl) ?_
  refine q_aload_n rfl rfl ?_
  refine v_gi (z := 4) (v := f9) rfl rfl rfl (by decide) rfl rfl (hv2) ?_
  refine v_if_ne_f (t := 11) rfl (by decide) (by omega) ?_
  refine q_iconst rfl ?_
  refine q_goto (t := 12) rfl (by decide) ?_
  refine v_zret rfl rfl (by decide) ?_
  refine bk_inl ?_
  refine v_if_eq_f (t := 136) rfl (by decide) (by decide) ?_
  refine q_iload rfl rfl ?_
  refine q_aload_n rfl rfl ?_
  refine v_sln 47 rfl rfl (by omega) (Nat.le_of_ble_eq_true rfl) (by decide) (by decide) ?_
  refine v_ic_eq_f (t := 88) rfl (by decide) (by decide) ?_
  refine q_aload_n rfl rfl ?_
  refine q_iload rfl rfl ?_
  refine v_sch 97 rfl rfl (by omega) (Nat.le_of_ble_eq_true rfl) (by decide) (by decide) (by decide) ?_
  refine v_bip rfl (by decide) ?_
  refine v_ic_ne_t (t := 130) rfl (by decide) (by decide) ?_
  refine v_iinc (v := 31) rfl rfl (by decide) (by decide) ?_
  refine q_goto (t := 52) rfl (by decide) ?_
  refine q_iload rfl rfl ?_
  refine q_aload_n rfl rfl ?_
  refine v_sln 47 rfl rfl (by omega) (Nat.le_of_ble_eq_true rfl) (by decide) (by decide) ?_
  refine v_ic_gt_f (t := 136) rfl (by decide) (by decide) ?_
  refine q_aload_n rfl rfl ?_
  refine v_cv rfl rfl rfl rfl (by decide) ⟨⟨rfl, rfl⟩, by decide, rfl⟩ (Nat.le_of_ble_eq_true rfl) (Nat.le_of_ble_eq_true rfl) ?_
  refine q_aload_n rfl rfl ?_
  refine v_gi (z := 4) (v := f9) rfl rfl rfl (by decide) rfl rfl (hv2) ?_
  refine v_if_ne_f (t := 11) rfl (by decide) (by omega) ?_
  refine q_iconst rfl ?_
  refine q_goto (t := 12) rfl (by decide) ?_
  refine v_zret rfl rfl (by decide) ?_
  refine bk_inl ?_
  refine v_if_eq_f (t := 136) rfl (by decide) (by decide) ?_
  refine q_iload rfl rfl ?_
  refine q_aload_n rfl rfl ?_
  refine v_sln 47 rfl rfl (by omega) (Nat.le_of_ble_eq_true rfl) (by decide) (by decide) ?_
  refine v_ic_eq_f (t := 88) rfl (by decide) (by decide) ?_
  refine q_aload_n rfl rfl ?_
  refine q_iload rfl rfl ?_
  refine v_sch 121 rfl rfl (by omega) (Nat.le_of_ble_eq_true rfl) (by decide) (by decide) (by decide) ?_
  refine v_bip rfl (by decide) ?_
  refine v_ic_ne_t (t := 130) rfl (by decide) (by decide) ?_
  refine v_iinc (v := 32) rfl rfl (by decide) (by decide) ?_
  refine q_goto (t := 52) rfl (by decide) ?_
  refine q_iload rfl rfl ?_
  refine q_aload_n rfl rfl ?_
  refine v_sln 47 rfl rfl (by omega) (Nat.le_of_ble_eq_true rfl) (by decide) (by decide) ?_
  refine v_ic_gt_f (t := 136) rfl (by decide) (by decide) ?_
  refine q_aload_n rfl rfl ?_
  refine v_cv rfl rfl rfl rfl (by decide) ⟨⟨rfl, rfl⟩, by decide, rfl⟩ (Nat.le_of_ble_eq_true rfl) (Nat.le_of_ble_eq_true rfl) ?_
  refine q_aload_n rfl rfl ?_
  refine v_gi (z := 4) (v := f9) rfl rfl rfl (by decide) rfl rfl (hv2) ?_
  refine v_if_ne_f (t := 11) rfl (by decide) (by omega) ?_
  refine q_iconst rfl ?_
  refine q_goto (t := 12) rfl (by decide) ?_
  refine v_zret rfl rfl (by decide) ?_
  refine bk_inl ?_
  refine v_if_eq_f (t := 136) rfl (by decide) (by decide) ?_
  refine q_iload rfl rfl ?_
  refine q_aload_n rfl rfl ?_
  refine v_sln 47 rfl rfl (by omega) (Nat.le_of_ble_eq_true rfl) (by decide) (by decide) ?_
  refine v_ic_eq_f (t := 88) rfl (by decide) (by decide) ?_
  refine q_aload_n rfl rfl ?_
  refine q_iload rfl rfl ?_
  refine v_sch 32 rfl rfl (by omega) (Nat.le_of_ble_eq_true rfl) (by decide) (by decide) (by decide) ?_
  refine v_bip rfl (by decide) ?_
  refine v_ic_ne_f (t := 130) rfl (by decide) (by decide) ?_
  refine q_iload rfl rfl ?_
  refine q_iload rfl rfl ?_
  refine v_isub (v := 3) rfl (by decide) ?_
  refine q_iload_n rfl rfl ?_
  refine q_iload_n rfl rfl ?_
  refine v_isub (v := L8 - r8) rfl rfl ?_
  by_cases h_5 : 3 ≠ L8 - r8
  · refine v_ic_ne_t (t := 121) rfl (by decide) ⟨h_5, ⟨by decide, by decide⟩, by omega, by omega⟩ ?_
    refine v_iinc (v := 7) rfl rfl (by decide) (by decide) ?_
    refine q_iload rfl rfl ?_
    refine q_iconst rfl ?_
    refine v_iadd (v := 33) rfl (by decide) ?_
    refine q_istore rfl (by decide) ?_
    refine Wp_ls [(5, vi 33), (4, vi 7), (6, vi 32), (0, .ref 1), (1, .ref (a_SB + 1)), (2, vi r8), (3, vi L8)] (lsub_cons rfl (lsub_cons rfl (lsub_cons rfl (lsub_cons rfl (lsub_cons rfl (lsub_cons rfl (lsub_cons rfl lsub_nil))))))) ?_
    refine v_iinc (v := 33) rfl rfl (by decide) (by decide) ?_
    refine q_goto (t := 52) rfl (by decide) ?_
    refine Wp_ls [(0, .ref 1), (1, .ref (a_SB + 1)), (2, vi r8), (3, vi L8), (4, vi 7), (5, vi 33), (6, vi 33)] (lsub_cons rfl (lsub_cons rfl (lsub_cons rfl (lsub_cons rfl (lsub_cons rfl (lsub_cons rfl (lsub_cons rfl lsub_nil))))))) ?_
    exact f_10_1_7 (d := d) (r8 := r8) (L8 := L8) (W8 := W8) hI hq0 hq1 hv0 hv1 hv2 hv3 hB ((wd1_6_f (by omega)).symm.trans hdW8) K0 K1
  · refine v_ic_ne_f (t := 121) rfl (by decide) (Decidable.not_not.mp h_5) ?_
    refine q_aload_n rfl rfl ?_
    refine q_aload_n rfl rfl ?_
    refine q_iload rfl rfl ?_
    refine q_iload_n rfl rfl ?_
    refine q_iload_n rfl rfl ?_
    refine q_iload_n rfl rfl ?_
    refine v_isub (v := L8 - r8) rfl rfl ?_
    refine v_cv rfl rfl rfl rfl (by decide) ⟨⟨rfl, rfl⟩, by decide, rfl⟩ (Nat.le_of_ble_eq_true rfl) (Nat.le_of_ble_eq_true rfl) ?_
    refine q_iconst rfl ?_
    refine q_istore rfl (by decide) ?_
    refine q_iload rfl rfl ?_
    refine q_iload rfl rfl ?_
    refine v_ic_ge_f (t := 38) rfl (by decide) (by omega) ?_
    refine q_aload_n rfl rfl ?_
    refine q_iload_n rfl rfl ?_
    refine q_iload rfl rfl ?_
    refine v_iadd (v := 29) rfl (by decide) ?_
    refine v_sch 100 rfl rfl (by omega) (Nat.le_of_ble_eq_true rfl) (by decide) (by decide) (by decide) ?_
    refine q_aload_n rfl rfl ?_
    refine v_gr (t := 2) rfl rfl rfl (by decide) rfl ?_
    refine q_iload_n rfl rfl ?_
    refine q_iload rfl rfl ?_
    refine v_iadd (v := r8) rfl (by omega) ?_
    have h_6 : -2147483648 ≤ (B r8) ∧ (B r8) ≤ 2147483647 := by rw [← hB r8]; exact ir_2 hI r8
    refine v_ba (v := (B r8)) rfl rfl (by decide) (by decide) (by omega) (hB r8) ?_
    by_cases h_7 : 100 = (B r8)
    · refine v_ic_eq_t (t := 32) rfl (by decide) h_7 ?_
      refine v_iinc (v := 1) rfl rfl (by decide) (by decide) ?_
      refine q_goto (t := 3) rfl (by decide) ?_
      refine q_iload rfl rfl ?_
      refine q_iload rfl rfl ?_
      refine v_ic_ge_f (t := 38) rfl (by decide) (by omega) ?_
      refine q_aload_n rfl rfl ?_
      refine q_iload_n rfl rfl ?_
      refine q_iload rfl rfl ?_
      refine v_iadd (v := 30) rfl (by decide) ?_
      refine v_sch 97 rfl rfl (by omega) (Nat.le_of_ble_eq_true rfl) (by decide) (by decide) (by decide) ?_
      refine q_aload_n rfl rfl ?_
      refine v_gr (t := 2) rfl rfl rfl (by decide) rfl ?_
      refine q_iload_n rfl rfl ?_
      refine q_iload rfl rfl ?_
      refine v_iadd (v := r8 + 1) rfl rfl ?_
      have h_8 : -2147483648 ≤ (B (r8 + 1)) ∧ (B (r8 + 1)) ≤ 2147483647 := by rw [← hB (r8 + 1)]; exact ir_2 hI (r8 + 1)
      refine v_ba (v := (B (r8 + 1))) rfl rfl (by decide) (by decide) (by omega) (hB (r8 + 1)) ?_
      by_cases h_9 : 97 = (B (r8 + 1))
      · refine v_ic_eq_t (t := 32) rfl (by decide) h_9 ?_
        refine v_iinc (v := 2) rfl rfl (by decide) (by decide) ?_
        refine q_goto (t := 3) rfl (by decide) ?_
        refine q_iload rfl rfl ?_
        refine q_iload rfl rfl ?_
        refine v_ic_ge_f (t := 38) rfl (by decide) (by omega) ?_
        refine q_aload_n rfl rfl ?_
        refine q_iload_n rfl rfl ?_
        refine q_iload rfl rfl ?_
        refine v_iadd (v := 31) rfl (by decide) ?_
        refine v_sch 121 rfl rfl (by omega) (Nat.le_of_ble_eq_true rfl) (by decide) (by decide) (by decide) ?_
        refine q_aload_n rfl rfl ?_
        refine v_gr (t := 2) rfl rfl rfl (by decide) rfl ?_
        refine q_iload_n rfl rfl ?_
        refine q_iload rfl rfl ?_
        refine v_iadd (v := r8 + 2) rfl rfl ?_
        have h_10 : -2147483648 ≤ (B (r8 + 2)) ∧ (B (r8 + 2)) ≤ 2147483647 := by rw [← hB (r8 + 2)]; exact ir_2 hI (r8 + 2)
        refine v_ba (v := (B (r8 + 2))) rfl rfl (by decide) (by decide) (by omega) (hB (r8 + 2)) ?_
        by_cases h_11 : 121 = (B (r8 + 2))
        · refine v_ic_eq_t (t := 32) rfl (by decide) h_11 ?_
          refine v_iinc (v := 3) rfl rfl (by decide) (by decide) ?_
          refine q_goto (t := 3) rfl (by decide) ?_
          refine q_iload rfl rfl ?_
          refine q_iload rfl rfl ?_
          refine v_ic_ge_t (t := 38) rfl (by decide) (by omega) ?_
          refine q_iconst rfl ?_
          refine v_zret rfl rfl (by decide) ?_
          refine bk_inl ?_
          refine v_if_eq_f (t := 121) rfl (by decide) (by decide) ?_
          refine q_aload_n rfl rfl ?_
          refine q_iload_n rfl rfl ?_
          refine v_pi (z := 2) rfl rfl rfl (by decide) rfl rfl rfl (by decide) ?_
          refine q_iload rfl rfl ?_
          refine q_iret rfl rfl ?_
          have hw9 : W8 = 6 := hdW8.symm.trans (wd1_6_t (by omega))
          have hI_12 := iw_1_2 (v := L8) hI ⟨by omega, by omega⟩
          have h_13 : (up c 1 2 L8) 1 2 = L8 := (up_e rfl)
          have h_14 : (up c 1 2 L8) 1 4 = f9 := ((up_n (by decide)).trans (hv2))
          have h_15 : (up c 1 2 L8) 1 5 = p9 := ((up_n (by decide)).trans (hv3))
          exact zv (by omega) (K1 (up c 1 2 L8) hI_12 (fun a j hm => up_b (Decidable.or_iff_not_imp_left.mpr (fun h1 h2 => hm (Or.inl ⟨Decidable.not_not.mp h1, h2⟩)))) (by omega) (by omega) (by omega) (by omega))
        · refine v_ic_eq_f (t := 32) rfl (by decide) ⟨h_11, ⟨by decide, by decide⟩, by omega, by omega⟩ ?_
          refine q_iconst rfl ?_
          refine v_zret rfl rfl (by decide) ?_
          refine bk_inl ?_
          refine v_if_eq_t (t := 121) rfl (by decide) (by decide) ?_
          refine v_iinc (v := 7) rfl rfl (by decide) (by decide) ?_
          refine q_iload rfl rfl ?_
          refine q_iconst rfl ?_
          refine v_iadd (v := 33) rfl (by decide) ?_
          refine q_istore rfl (by decide) ?_
          refine Wp_ls [(5, vi 33), (4, vi 7), (6, vi 32), (0, .ref 1), (1, .ref (a_SB + 1)), (2, vi r8), (3, vi L8)] (lsub_cons rfl (lsub_cons rfl (lsub_cons rfl (lsub_cons rfl (lsub_cons rfl (lsub_cons rfl (lsub_cons rfl lsub_nil))))))) ?_
          refine v_iinc (v := 33) rfl rfl (by decide) (by decide) ?_
          refine q_goto (t := 52) rfl (by decide) ?_
          refine Wp_ls [(0, .ref 1), (1, .ref (a_SB + 1)), (2, vi r8), (3, vi L8), (4, vi 7), (5, vi 33), (6, vi 33)] (lsub_cons rfl (lsub_cons rfl (lsub_cons rfl (lsub_cons rfl (lsub_cons rfl (lsub_cons rfl (lsub_cons rfl lsub_nil))))))) ?_
          exact f_10_1_7 (d := d) (r8 := r8) (L8 := L8) (W8 := W8) hI hq0 hq1 hv0 hv1 hv2 hv3 hB ((wd1_6_f (by omega)).symm.trans hdW8) K0 K1
      · refine v_ic_eq_f (t := 32) rfl (by decide) ⟨h_9, ⟨by decide, by decide⟩, by omega, by omega⟩ ?_
        refine q_iconst rfl ?_
        refine v_zret rfl rfl (by decide) ?_
        refine bk_inl ?_
        refine v_if_eq_t (t := 121) rfl (by decide) (by decide) ?_
        refine v_iinc (v := 7) rfl rfl (by decide) (by decide) ?_
        refine q_iload rfl rfl ?_
        refine q_iconst rfl ?_
        refine v_iadd (v := 33) rfl (by decide) ?_
        refine q_istore rfl (by decide) ?_
        refine Wp_ls [(5, vi 33), (4, vi 7), (6, vi 32), (0, .ref 1), (1, .ref (a_SB + 1)), (2, vi r8), (3, vi L8)] (lsub_cons rfl (lsub_cons rfl (lsub_cons rfl (lsub_cons rfl (lsub_cons rfl (lsub_cons rfl (lsub_cons rfl lsub_nil))))))) ?_
        refine v_iinc (v := 33) rfl rfl (by decide) (by decide) ?_
        refine q_goto (t := 52) rfl (by decide) ?_
        refine Wp_ls [(0, .ref 1), (1, .ref (a_SB + 1)), (2, vi r8), (3, vi L8), (4, vi 7), (5, vi 33), (6, vi 33)] (lsub_cons rfl (lsub_cons rfl (lsub_cons rfl (lsub_cons rfl (lsub_cons rfl (lsub_cons rfl (lsub_cons rfl lsub_nil))))))) ?_
        exact f_10_1_7 (d := d) (r8 := r8) (L8 := L8) (W8 := W8) hI hq0 hq1 hv0 hv1 hv2 hv3 hB ((wd1_6_f (by omega)).symm.trans hdW8) K0 K1
    · refine v_ic_eq_f (t := 32) rfl (by decide) ⟨h_7, ⟨by decide, by decide⟩, by omega, by omega⟩ ?_
      refine q_iconst rfl ?_
      refine v_zret rfl rfl (by decide) ?_
      refine bk_inl ?_
      refine v_if_eq_t (t := 121) rfl (by decide) (by decide) ?_
      refine v_iinc (v := 7) rfl rfl (by decide) (by decide) ?_
      refine q_iload rfl rfl ?_
      refine q_iconst rfl ?_
      refine v_iadd (v := 33) rfl (by decide) ?_
      refine q_istore rfl (by decide) ?_
      refine Wp_ls [(5, vi 33), (4, vi 7), (6, vi 32), (0, .ref 1), (1, .ref (a_SB + 1)), (2, vi r8), (3, vi L8)] (lsub_cons rfl (lsub_cons rfl (lsub_cons rfl (lsub_cons rfl (lsub_cons rfl (lsub_cons rfl (lsub_cons rfl lsub_nil))))))) ?_
      refine v_iinc (v := 33) rfl rfl (by decide) (by decide) ?_
      refine q_goto (t := 52) rfl (by decide) ?_
      refine Wp_ls [(0, .ref 1), (1, .ref (a_SB + 1)), (2, vi r8), (3, vi L8), (4, vi 7), (5, vi 33), (6, vi 33)] (lsub_cons rfl (lsub_cons rfl (lsub_cons rfl (lsub_cons rfl (lsub_cons rfl (lsub_cons rfl (lsub_cons rfl lsub_nil))))))) ?_
      exact f_10_1_7 (d := d) (r8 := r8) (L8 := L8) (W8 := W8) hI hq0 hq1 hv0 hv1 hv2 hv3 hB ((wd1_6_f (by omega)).symm.trans hdW8) K0 K1

set_option maxRecDepth 100000 in
set_option maxHeartbeats 4000000 in
theorem f_10_1_5 {sc : List Int32} {e : Int} {d u P Q : Nat} {c : ME} {e1 a9 f9 p9 W8 r8 L8 : Int} {B : Int → Int} {Z : AR → Prop} (hI : Iv u e P Q c) (hq0 : (f9 = 0)) (hq1 : (r8 ≥ 0 ∧ r8 ≤ L8 ∧ L8 ≤ 600)) (hv0 : c 1 1 = e1) (hv1 : c 1 2 = a9) (hv2 : c 1 4 = f9) (hv3 : c 1 5 = p9) (hB : ∀ j : Int, c 2 j = B j) (hdW8 : wd1_5 B r8 L8 = W8) (K0 : ∀ c2 : ME, Iv u e P Q c2 → (∀ (a : Nat) (j : Int), ¬ ((a = 1 ∧ j = 2) ∨ (a = 1 ∧ j = 4) ∨ (a = 1 ∧ j = 5)) → c2 a j = c a j) → ((W8 = (-1))) → (c2 1 2 = a9) → (c2 1 4 = 1) → (c2 1 5 = r8) → Z (.inl (some (vi (-1))), Wd P Q P P c2, 0, 0)) (K1 : ∀ c2 : ME, Iv u e P Q c2 → (∀ (a : Nat) (j : Int), ¬ ((a = 1 ∧ j = 2) ∨ (a = 1 ∧ j = 4) ∨ (a = 1 ∧ j = 5)) → c2 a j = c a j) → ((W8 ≥ 0 ∧ W8 ≤ 9)) → (c2 1 2 = L8) → (c2 1 4 = 0) → (c2 1 5 = p9) → Z (.inl (some (vi W8)), Wd P Q P P c2, 0, 0)) : Wp sc (d + 12) 10 52 [(0, .ref 1), (1, .ref (a_SB + 1)), (2, vi r8), (3, vi L8), (4, vi 5), (5, vi 25), (6, vi 25)] [] (Wd P Q P P c) 0 0 Z := by
  have hP := iv_P hI
  have hQ := iv_Q hI
  have h_1 := ir_1_1 hI
  have h_2 := ir_1_2 hI
  have h_3 := ir_1_4 hI
  have h_4 := ir_1_5 hI
  refine q_iload rfl rfl ?_
  refine q_aload_n rfl rfl ?_
  refine v_sln 47 rfl rfl (by omega) (Nat.le_of_ble_eq_true rfl) (by decide) (by decide) ?_
  refine v_ic_gt_f (t := 136) rfl (by decide) (by decide) ?_
  refine q_aload_n rfl rfl ?_
  refine v_cv rfl rfl rfl rfl (by decide) ⟨⟨rfl, rfl⟩, by decide, rfl⟩ (Nat.le_of_ble_eq_true rfl) (Nat.le_of_ble_eq_true rfl) ?_
  refine q_aload_n rfl rfl ?_
  refine v_gi (z := 4) (v := f9) rfl rfl rfl (by decide) rfl rfl (hv2) ?_
  refine v_if_ne_f (t := 11) rfl (by decide) (by omega) ?_
  refine q_iconst rfl ?_
  refine q_goto (t := 12) rfl (by decide) ?_
  refine v_zret rfl rfl (by decide) ?_
  refine bk_inl ?_
  refine v_if_eq_f (t := 136) rfl (by decide) (by decide) ?_
  refine q_iload rfl rfl ?_
  refine q_aload_n rfl rfl ?_
  refine v_sln 47 rfl rfl (by omega) (Nat.le_of_ble_eq_true rfl) (by decide) (by decide) ?_
  refine v_ic_eq_f (t := 88) rfl (by decide) (by decide) ?_
  refine q_aload_n rfl rfl ?_
  refine q_iload rfl rfl ?_
  refine v_sch 97 rfl rfl (by omega) (Nat.le_of_ble_eq_true rfl) (by decide) (by decide) (by decide) ?_
  refine v_bip rfl (by decide) ?_
  refine v_ic_ne_t (t := 130) rfl (by decide) (by decide) ?_
  refine v_iinc (v := 26) rfl rfl (by decide) (by decide) ?_
  refine q_goto (t := 52) rfl (by decide) ?_
  refine q_iload rfl rfl ?_
  refine q_aload_n rfl rfl ?_
  refine v_sln 47 rfl rfl (by omega) (Nat.le_of_ble_eq_true rfl) (by decide) (by decide) ?_
  refine v_ic_gt_f (t := 136) rfl (by decide) (by decide) ?_
  refine q_aload_n rfl rfl ?_
  refine v_cv rfl rfl rfl rfl (by decide) ⟨⟨rfl, rfl⟩, by decide, rfl⟩ (Nat.le_of_ble_eq_true rfl) (Nat.le_of_ble_eq_true rfl) ?_
  refine q_aload_n rfl rfl ?_
  refine v_gi (z := 4) (v := f9) rfl rfl rfl (by decide) rfl rfl (hv2) ?_
  refine v_if_ne_f (t := 11) rfl (by decide) (by omega) ?_
  refine q_iconst rfl ?_
  refine q_goto (t := 12) rfl (by decide) ?_
  refine v_zret rfl rfl (by decide) ?_
  refine bk_inl ?_
  refine v_if_eq_f (t := 136) rfl (by decide) (by decide) ?_
  refine q_iload rfl rfl ?_
  refine q_aload_n rfl rfl ?_
  refine v_sln 47 rfl rfl (by omega) (Nat.le_of_ble_eq_true rfl) (by decide) (by decide) ?_
  refine v_ic_eq_f (t := 88) rfl (by decide) (by decide) ?_
  refine q_aload_n rfl rfl ?_
  refine q_iload rfl rfl ?_
  refine v_sch 103 rfl rfl (by omega) (Nat.le_of_ble_eq_true rfl) (by decide) (by decide) (by decide) ?_
  refine v_bip rfl (by decide) ?_
  refine v_ic_ne_t (t := 130) rfl (by decide) (by decide) ?_
  refine v_iinc (v := 27) rfl rfl (by decide) (by decide) ?_
  refine q_goto (t := 52) rfl (by decide) ?_
  refine q_iload rfl rfl ?_
  refine q_aload_n rfl rfl ?_
  refine v_sln 47 rfl rfl (by omega) (Nat.le_of_ble_eq_true rfl) (by decide) (by decide) ?_
  refine v_ic_gt_f (t := 136) rfl (by decide) (by decide) ?_
  refine q_aload_n rfl rfl ?_
  refine v_cv rfl rfl rfl rfl (by decide) ⟨⟨rfl, rfl⟩, by decide, rfl⟩ (Nat.le_of_ble_eq_true rfl) (Nat.le_of_ble_eq_true rfl) ?_
  refine q_aload_n rfl rfl ?_
  refine v_gi (z := 4) (v := f9) rfl rfl rfl (by decide) rfl rfl (hv2) ?_
  refine v_if_ne_f (t := 11) rfl (by decide) (by omega) ?_
  refine q_iconst rfl ?_
  refine q_goto (t := 12) rfl (by decide) ?_
  refine v_zret rfl rfl (by decide) ?_
  refine bk_inl ?_
  refine v_if_eq_f (t := 136) rfl (by decide) (by decide) ?_
  refine q_iload rfl rfl ?_
  refine q_aload_n rfl rfl ?_
  refine v_sln 47 rfl rfl (by omega) (Nat.le_of_ble_eq_true rfl) (by decide) (by decide) ?_
  refine v_ic_eq_f (t := 88) rfl (by decide) (by decide) ?_
  refine q_aload_n rfl rfl ?_
  refine q_iload rfl rfl ?_
  refine v_sch 101 rfl rfl (by omega) (Nat.le_of_ble_eq_true rfl) (by decide) (by decide) (by decide) ?_
  refine v_bip rfl (by decide) ?_
  refine v_ic_ne_t (t := 130) rfl (by decide) (by decide) ?_
  refine v_iinc (v := 28) rfl rfl (by decide) (by decide) ?_
  refine q_goto (t := 52) rfl (by decide) ?_
  refine q_iload rfl rfl ?_
  refine q_aload_n rfl rfl ?_
  refine v_sln 47 rfl rfl (by omega) (Nat.le_of_ble_eq_true rfl) (by decide) (by decide) ?_
  refine v_ic_gt_f (t := 136) rfl (by decide) (by decide) ?_
  refine q_aload_n rfl rfl ?_
  refine v_cv rfl rfl rfl rfl (by decide) ⟨⟨rfl, rfl⟩, by decide, rfl⟩ (Nat.le_of_ble_eq_true rfl) (Nat.le_of_ble_eq_true rfl) ?_
  refine q_aload_n rfl rfl ?_
  refine v_gi (z := 4) (v := f9) rfl rfl rfl (by decide) rfl rfl (hv2) ?_
  refine v_if_ne_f (t := 11) rfl (by decide) (by omega) ?_
  refine q_iconst rfl ?_
  refine q_goto (t := 12) rfl (by decide) ?_
  refine v_zret rfl rfl (by decide) ?_
  refine bk_inl ?_
  refine v_if_eq_f (t := 136) rfl (by decide) (by decide) ?_
  refine q_iload rfl rfl ?_
  refine q_aload_n rfl rfl ?_
  refine v_sln 47 rfl rfl (by omega) (Nat.le_of_ble_eq_true rfl) (by decide) (by decide) ?_
  refine v_ic_eq_f (t := 88) rfl (by decide) (by decide) ?_
  refine q_aload_n rfl rfl ?_
  refine q_iload rfl rfl ?_
  refine v_sch 32 rfl rfl (by omega) (Nat.le_of_ble_eq_true rfl) (by decide) (by decide) (by decide) ?_
  refine v_bip rfl (by decide) ?_
  refine v_ic_ne_f (t := 130) rfl (by decide) (by decide) ?_
  refine q_iload rfl rfl ?_
  refine q_iload rfl rfl ?_
  refine v_isub (v := 3) rfl (by decide) ?_
  refine q_iload_n rfl rfl ?_
  refine q_iload_n rfl rfl ?_
  refine v_isub (v := L8 - r8) rfl rfl ?_
  by_cases h_5 : 3 ≠ L8 - r8
  · refine v_ic_ne_t (t := 121) rfl (by decide) ⟨h_5, ⟨by decide, by decide⟩, by omega, by omega⟩ ?_
    refine v_iinc (v := 6) rfl rfl (by decide) (by decide) ?_
    refine q_iload rfl rfl ?_
    refine q_iconst rfl ?_
    refine v_iadd (v := 29) rfl (by decide) ?_
    refine q_istore rfl (by decide) ?_
    refine Wp_ls [(5, vi 29), (4, vi 6), (6, vi 28), (0, .ref 1), (1, .ref (a_SB + 1)), (2, vi r8), (3, vi L8)] (lsub_cons rfl (lsub_cons rfl (lsub_cons rfl (lsub_cons rfl (lsub_cons rfl (lsub_cons rfl (lsub_cons rfl lsub_nil))))))) ?_
    refine v_iinc (v := 29) rfl rfl (by decide) (by decide) ?_
    refine q_goto (t := 52) rfl (by decide) ?_
    refine Wp_ls [(0, .ref 1), (1, .ref (a_SB + 1)), (2, vi r8), (3, vi L8), (4, vi 6), (5, vi 29), (6, vi 29)] (lsub_cons rfl (lsub_cons rfl (lsub_cons rfl (lsub_cons rfl (lsub_cons rfl (lsub_cons rfl (lsub_cons rfl lsub_nil))))))) ?_
    exact f_10_1_6 (d := d) (r8 := r8) (L8 := L8) (W8 := W8) hI hq0 hq1 hv0 hv1 hv2 hv3 hB ((wd1_5_f (by omega)).symm.trans hdW8) K0 K1
  · refine v_ic_ne_f (t := 121) rfl (by decide) (Decidable.not_not.mp h_5) ?_
    refine q_aload_n rfl rfl ?_
    refine q_aload_n rfl rfl ?_
    refine q_iload rfl rfl ?_
    refine q_iload_n rfl rfl ?_
    refine q_iload_n rfl rfl ?_
    refine q_iload_n rfl rfl ?_
    refine v_isub (v := L8 - r8) rfl rfl ?_
    refine v_cv rfl rfl rfl rfl (by decide) ⟨⟨rfl, rfl⟩, by decide, rfl⟩ (Nat.le_of_ble_eq_true rfl) (Nat.le_of_ble_eq_true rfl) ?_
    refine q_iconst rfl ?_
    refine q_istore rfl (by decide) ?_
    refine q_iload rfl rfl ?_
    refine q_iload rfl rfl ?_
    refine v_ic_ge_f (t := 38) rfl (by decide) (by omega) ?_
    refine q_aload_n rfl rfl ?_
    refine q_iload_n rfl rfl ?_
    refine q_iload rfl rfl ?_
    refine v_iadd (v := 25) rfl (by decide) ?_
    refine v_sch 97 rfl rfl (by omega) (Nat.le_of_ble_eq_true rfl) (by decide) (by decide) (by decide) ?_
    refine q_aload_n rfl rfl ?_
    refine v_gr (t := 2) rfl rfl rfl (by decide) rfl ?_
    refine q_iload_n rfl rfl ?_
    refine q_iload rfl rfl ?_
    refine v_iadd (v := r8) rfl (by omega) ?_
    have h_6 : -2147483648 ≤ (B r8) ∧ (B r8) ≤ 2147483647 := by rw [← hB r8]; exact ir_2 hI r8
    refine v_ba (v := (B r8)) rfl rfl (by decide) (by decide) (by omega) (hB r8) ?_
    by_cases h_7 : 97 = (B r8)
    · refine v_ic_eq_t (t := 32) rfl (by decide) h_7 ?_
      refine v_iinc (v := 1) rfl rfl (by decide) (by decide) ?_
      refine q_goto (t := 3) rfl (by decide) ?_
      refine q_iload rfl rfl ?_
      refine q_iload rfl rfl ?_
      refine v_ic_ge_f (t := 38) rfl (by decide) (by omega) ?_
      refine q_aload_n rfl rfl ?_
      refine q_iload_n rfl rfl ?_
      refine q_iload rfl rfl ?_
      refine v_iadd (v := 26) rfl (by decide) ?_
      refine v_sch 103 rfl rfl (by omega) (Nat.le_of_ble_eq_true rfl) (by decide) (by decide) (by decide) ?_
      refine q_aload_n rfl rfl ?_
      refine v_gr (t := 2) rfl rfl rfl (by decide) rfl ?_
      refine q_iload_n rfl rfl ?_
      refine q_iload rfl rfl ?_
      refine v_iadd (v := r8 + 1) rfl rfl ?_
      have h_8 : -2147483648 ≤ (B (r8 + 1)) ∧ (B (r8 + 1)) ≤ 2147483647 := by rw [← hB (r8 + 1)]; exact ir_2 hI (r8 + 1)
      refine v_ba (v := (B (r8 + 1))) rfl rfl (by decide) (by decide) (by omega) (hB (r8 + 1)) ?_
      by_cases h_9 : 103 = (B (r8 + 1))
      · refine v_ic_eq_t (t := 32) rfl (by decide) h_9 ?_
        refine v_iinc (v := 2) rfl rfl (by decide) (by decide) ?_
        refine q_goto (t := 3) rfl (by decide) ?_
        refine q_iload rfl rfl ?_
        refine q_iload rfl rfl ?_
        refine v_ic_ge_f (t := 38) rfl (by decide) (by omega) ?_
        refine q_aload_n rfl rfl ?_
        refine q_iload_n rfl rfl ?_
        refine q_iload rfl rfl ?_
        refine v_iadd (v := 27) rfl (by decide) ?_
        refine v_sch 101 rfl rfl (by omega) (Nat.le_of_ble_eq_true rfl) (by decide) (by decide) (by decide) ?_
        refine q_aload_n rfl rfl ?_
        refine v_gr (t := 2) rfl rfl rfl (by decide) rfl ?_
        refine q_iload_n rfl rfl ?_
        refine q_iload rfl rfl ?_
        refine v_iadd (v := r8 + 2) rfl rfl ?_
        have h_10 : -2147483648 ≤ (B (r8 + 2)) ∧ (B (r8 + 2)) ≤ 2147483647 := by rw [← hB (r8 + 2)]; exact ir_2 hI (r8 + 2)
        refine v_ba (v := (B (r8 + 2))) rfl rfl (by decide) (by decide) (by omega) (hB (r8 + 2)) ?_
        by_cases h_11 : 101 = (B (r8 + 2))
        · refine v_ic_eq_t (t := 32) rfl (by decide) h_11 ?_
          refine v_iinc (v := 3) rfl rfl (by decide) (by decide) ?_
          refine q_goto (t := 3) rfl (by decide) ?_
          refine q_iload rfl rfl ?_
          refine q_iload rfl rfl ?_
          refine v_ic_ge_t (t := 38) rfl (by decide) (by omega) ?_
          refine q_iconst rfl ?_
          refine v_zret rfl rfl (by decide) ?_
          refine bk_inl ?_
          refine v_if_eq_f (t := 121) rfl (by decide) (by decide) ?_
          refine q_aload_n rfl rfl ?_
          refine q_iload_n rfl rfl ?_
          refine v_pi (z := 2) rfl rfl rfl (by decide) rfl rfl rfl (by decide) ?_
          refine q_iload rfl rfl ?_
          refine q_iret rfl rfl ?_
          have hw9 : W8 = 5 := hdW8.symm.trans (wd1_5_t (by omega))
          have hI_12 := iw_1_2 (v := L8) hI ⟨by omega, by omega⟩
          have h_13 : (up c 1 2 L8) 1 2 = L8 := (up_e rfl)
          have h_14 : (up c 1 2 L8) 1 4 = f9 := ((up_n (by decide)).trans (hv2))
          have h_15 : (up c 1 2 L8) 1 5 = p9 := ((up_n (by decide)).trans (hv3))
          exact zv (by omega) (K1 (up c 1 2 L8) hI_12 (fun a j hm => up_b (Decidable.or_iff_not_imp_left.mpr (fun h1 h2 => hm (Or.inl ⟨Decidable.not_not.mp h1, h2⟩)))) (by omega) (by omega) (by omega) (by omega))
        · refine v_ic_eq_f (t := 32) rfl (by decide) ⟨h_11, ⟨by decide, by decide⟩, by omega, by omega⟩ ?_
          refine q_iconst rfl ?_
          refine v_zret rfl rfl (by decide) ?_
          refine bk_inl ?_
          refine v_if_eq_t (t := 121) rfl (by decide) (by decide) ?_
          refine v_iinc (v := 6) rfl rfl (by decide) (by decide) ?_
          refine q_iload rfl rfl ?_
          refine q_iconst rfl ?_
          refine v_iadd (v := 29) rfl (by decide) ?_
          refine q_istore rfl (by decide) ?_
          refine Wp_ls [(5, vi 29), (4, vi 6), (6, vi 28), (0, .ref 1), (1, .ref (a_SB + 1)), (2, vi r8), (3, vi L8)] (lsub_cons rfl (lsub_cons rfl (lsub_cons rfl (lsub_cons rfl (lsub_cons rfl (lsub_cons rfl (lsub_cons rfl lsub_nil))))))) ?_
          refine v_iinc (v := 29) rfl rfl (by decide) (by decide) ?_
          refine q_goto (t := 52) rfl (by decide) ?_
          refine Wp_ls [(0, .ref 1), (1, .ref (a_SB + 1)), (2, vi r8), (3, vi L8), (4, vi 6), (5, vi 29), (6, vi 29)] (lsub_cons rfl (lsub_cons rfl (lsub_cons rfl (lsub_cons rfl (lsub_cons rfl (lsub_cons rfl (lsub_cons rfl lsub_nil))))))) ?_
          exact f_10_1_6 (d := d) (r8 := r8) (L8 := L8) (W8 := W8) hI hq0 hq1 hv0 hv1 hv2 hv3 hB ((wd1_5_f (by omega)).symm.trans hdW8) K0 K1
      · refine v_ic_eq_f (t := 32) rfl (by decide) ⟨h_9, ⟨by decide, by decide⟩, by omega, by omega⟩ ?_
        refine q_iconst rfl ?_
        refine v_zret rfl rfl (by decide) ?_
        refine bk_inl ?_
        refine v_if_eq_t (t := 121) rfl (by decide) (by decide) ?_
        refine v_iinc (v := 6) rfl rfl (by decide) (by decide) ?_
        refine q_iload rfl rfl ?_
        refine q_iconst rfl ?_
        refine v_iadd (v := 29) rfl (by decide) ?_
        refine q_istore rfl (by decide) ?_
        refine Wp_ls [(5, vi 29), (4, vi 6), (6, vi 28), (0, .ref 1), (1, .ref (a_SB + 1)), (2, vi r8), (3, vi L8)] (lsub_cons rfl (lsub_cons rfl (lsub_cons rfl (lsub_cons rfl (lsub_cons rfl (lsub_cons rfl (lsub_cons rfl lsub_nil))))))) ?_
        refine v_iinc (v := 29) rfl rfl (by decide) (by decide) ?_
        refine q_goto (t := 52) rfl (by decide) ?_
        refine Wp_ls [(0, .ref 1), (1, .ref (a_SB + 1)), (2, vi r8), (3, vi L8), (4, vi 6), (5, vi 29), (6, vi 29)] (lsub_cons rfl (lsub_cons rfl (lsub_cons rfl (lsub_cons rfl (lsub_cons rfl (lsub_cons rfl (lsub_cons rfl lsub_nil))))))) ?_
        exact f_10_1_6 (d := d) (r8 := r8) (L8 := L8) (W8 := W8) hI hq0 hq1 hv0 hv1 hv2 hv3 hB ((wd1_5_f (by omega)).symm.trans hdW8) K0 K1
    · refine v_ic_eq_f (t := 32) rfl (by decide) ⟨h_7, ⟨by decide, by decide⟩, by omega, by omega⟩ ?_
      refine q_iconst rfl ?_
      refine v_zret rfl rfl (by decide) ?_
      refine bk_inl ?_
      refine v_if_eq_t (t := 121) rfl (by decide) (by decide) ?_
      refine v_iinc (v := 6) rfl rfl (by decide) (by decide) ?_
      refine q_iload rfl rfl ?_
      refine q_iconst rfl ?_
      refine v_iadd (v := 29) rfl (by decide) ?_
      refine q_istore rfl (by decide) ?_
      refine Wp_ls [(5, vi 29), (4, vi 6), (6, vi 28), (0, .ref 1), (1, .ref (a_SB + 1)), (2, vi r8), (3, vi L8)] (lsub_cons rfl (lsub_cons rfl (lsub_cons rfl (lsub_cons rfl (lsub_cons rfl (lsub_cons rfl (lsub_cons rfl lsub_nil))))))) ?_
      refine v_iinc (v := 29) rfl rfl (by decide) (by decide) ?_
      refine q_goto (t := 52) rfl (by decide) ?_
      refine Wp_ls [(0, .ref 1), (1, .ref (a_SB + 1)), (2, vi r8), (3, vi L8), (4, vi 6), (5, vi 29), (6, vi 29)] (lsub_cons rfl (lsub_cons rfl (lsub_cons rfl (lsub_cons rfl (lsub_cons rfl (lsub_cons rfl (lsub_cons rfl lsub_nil))))))) ?_
      exact f_10_1_6 (d := d) (r8 := r8) (L8 := L8) (W8 := W8) hI hq0 hq1 hv0 hv1 hv2 hv3 hB ((wd1_5_f (by omega)).symm.trans hdW8) K0 K1

set_option maxRecDepth 100000 in
set_option maxHeartbeats 4000000 in
theorem f_10_1_4 {sc : List Int32} {e : Int} {d u P Q : Nat} {c : ME} {e1 a9 f9 p9 W8 r8 L8 : Int} {B : Int → Int} {Z : AR → Prop} (hI : Iv u e P Q c) (hq0 : (f9 = 0)) (hq1 : (r8 ≥ 0 ∧ r8 ≤ L8 ∧ L8 ≤ 600)) (hv0 : c 1 1 = e1) (hv1 : c 1 2 = a9) (hv2 : c 1 4 = f9) (hv3 : c 1 5 = p9) (hB : ∀ j : Int, c 2 j = B j) (hdW8 : wd1_4 B r8 L8 = W8) (K0 : ∀ c2 : ME, Iv u e P Q c2 → (∀ (a : Nat) (j : Int), ¬ ((a = 1 ∧ j = 2) ∨ (a = 1 ∧ j = 4) ∨ (a = 1 ∧ j = 5)) → c2 a j = c a j) → ((W8 = (-1))) → (c2 1 2 = a9) → (c2 1 4 = 1) → (c2 1 5 = r8) → Z (.inl (some (vi (-1))), Wd P Q P P c2, 0, 0)) (K1 : ∀ c2 : ME, Iv u e P Q c2 → (∀ (a : Nat) (j : Int), ¬ ((a = 1 ∧ j = 2) ∨ (a = 1 ∧ j = 4) ∨ (a = 1 ∧ j = 5)) → c2 a j = c a j) → ((W8 ≥ 0 ∧ W8 ≤ 9)) → (c2 1 2 = L8) → (c2 1 4 = 0) → (c2 1 5 = p9) → Z (.inl (some (vi W8)), Wd P Q P P c2, 0, 0)) : Wp sc (d + 12) 10 52 [(0, .ref 1), (1, .ref (a_SB + 1)), (2, vi r8), (3, vi L8), (4, vi 4), (5, vi 21), (6, vi 21)] [] (Wd P Q P P c) 0 0 Z := by
  have hP := iv_P hI
  have hQ := iv_Q hI
  have h_1 := ir_1_1 hI
  have h_2 := ir_1_2 hI
  have h_3 := ir_1_4 hI
  have h_4 := ir_1_5 hI
  refine q_iload rfl rfl ?_
  refine q_aload_n rfl rfl ?_
  refine v_sln 47 rfl rfl (by omega) (Nat.le_of_ble_eq_true rfl) (by decide) (by decide) ?_
  refine v_ic_gt_f (t := 136) rfl (by decide) (by decide) ?_
  refine q_aload_n rfl rfl ?_
  refine v_cv rfl rfl rfl rfl (by decide) ⟨⟨rfl, rfl⟩, by decide, rfl⟩ (Nat.le_of_ble_eq_true rfl) (Nat.le_of_ble_eq_true rfl) ?_
  refine q_aload_n rfl rfl ?_
  refine v_gi (z := 4) (v := f9) rfl rfl rfl (by decide) rfl rfl (hv2) ?_
  refine v_if_ne_f (t := 11) rfl (by decide) (by omega) ?_
  refine q_iconst rfl ?_
  refine q_goto (t := 12) rfl (by decide) ?_
  refine v_zret rfl rfl (by decide) ?_
  refine bk_inl ?_
  refine v_if_eq_f (t := 136) rfl (by decide) (by decide) ?_
  refine q_iload rfl rfl ?_
  refine q_aload_n rfl rfl ?_
  refine v_sln 47 rfl rfl (by omega) (Nat.le_of_ble_eq_true rfl) (by decide) (by decide) ?_
  refine v_ic_eq_f (t := 88) rfl (by decide) (by decide) ?_
  refine q_aload_n rfl rfl ?_
  refine q_iload rfl rfl ?_
  refine v_sch 97 rfl rfl (by omega) (Nat.le_of_ble_eq_true rfl) (by decide) (by decide) (by decide) ?_
  refine v_bip rfl (by decide) ?_
  refine v_ic_ne_t (t := 130) rfl (by decide) (by decide) ?_
  refine v_iinc (v := 22) rfl rfl (by decide) (by decide) ?_
  refine q_goto (t := 52) rfl (by decide) ?_
  refine q_iload rfl rfl ?_
  refine q_aload_n rfl rfl ?_
  refine v_sln 47 rfl rfl (by omega) (Nat.le_of_ble_eq_true rfl) (by decide) (by decide) ?_
  refine v_ic_gt_f (t := 136) rfl (by decide) (by decide) ?_
  refine q_aload_n rfl rfl ?_
  refine v_cv rfl rfl rfl rfl (by decide) ⟨⟨rfl, rfl⟩, by decide, rfl⟩ (Nat.le_of_ble_eq_true rfl) (Nat.le_of_ble_eq_true rfl) ?_
  refine q_aload_n rfl rfl ?_
  refine v_gi (z := 4) (v := f9) rfl rfl rfl (by decide) rfl rfl (hv2) ?_
  refine v_if_ne_f (t := 11) rfl (by decide) (by omega) ?_
  refine q_iconst rfl ?_
  refine q_goto (t := 12) rfl (by decide) ?_
  refine v_zret rfl rfl (by decide) ?_
  refine bk_inl ?_
  refine v_if_eq_f (t := 136) rfl (by decide) (by decide) ?_
  refine q_iload rfl rfl ?_
  refine q_aload_n rfl rfl ?_
  refine v_sln 47 rfl rfl (by omega) (Nat.le_of_ble_eq_true rfl) (by decide) (by decide) ?_
  refine v_ic_eq_f (t := 88) rfl (by decide) (by decide) ?_
  refine q_aload_n rfl rfl ?_
  refine q_iload rfl rfl ?_
  refine v_sch 108 rfl rfl (by omega) (Nat.le_of_ble_eq_true rfl) (by decide) (by decide) (by decide) ?_
  refine v_bip rfl (by decide) ?_
  refine v_ic_ne_t (t := 130) rfl (by decide) (by decide) ?_
  refine v_iinc (v := 23) rfl rfl (by decide) (by decide) ?_
  refine q_goto (t := 52) rfl (by decide) ?_
  refine q_iload rfl rfl ?_
  refine q_aload_n rfl rfl ?_
  refine v_sln 47 rfl rfl (by omega) (Nat.le_of_ble_eq_true rfl) (by decide) (by decide) ?_
  refine v_ic_gt_f (t := 136) rfl (by decide) (by decide) ?_
  refine q_aload_n rfl rfl ?_
  refine v_cv rfl rfl rfl rfl (by decide) ⟨⟨rfl, rfl⟩, by decide, rfl⟩ (Nat.le_of_ble_eq_true rfl) (Nat.le_of_ble_eq_true rfl) ?_
  refine q_aload_n rfl rfl ?_
  refine v_gi (z := 4) (v := f9) rfl rfl rfl (by decide) rfl rfl (hv2) ?_
  refine v_if_ne_f (t := 11) rfl (by decide) (by omega) ?_
  refine q_iconst rfl ?_
  refine q_goto (t := 12) rfl (by decide) ?_
  refine v_zret rfl rfl (by decide) ?_
  refine bk_inl ?_
  refine v_if_eq_f (t := 136) rfl (by decide) (by decide) ?_
  refine q_iload rfl rfl ?_
  refine q_aload_n rfl rfl ?_
  refine v_sln 47 rfl rfl (by omega) (Nat.le_of_ble_eq_true rfl) (by decide) (by decide) ?_
  refine v_ic_eq_f (t := 88) rfl (by decide) (by decide) ?_
  refine q_aload_n rfl rfl ?_
  refine q_iload rfl rfl ?_
  refine v_sch 108 rfl rfl (by omega) (Nat.le_of_ble_eq_true rfl) (by decide) (by decide) (by decide) ?_
  refine v_bip rfl (by decide) ?_
  refine v_ic_ne_t (t := 130) rfl (by decide) (by decide) ?_
  refine v_iinc (v := 24) rfl rfl (by decide) (by decide) ?_
  refine q_goto (t := 52) rfl (by decide) ?_
  refine q_iload rfl rfl ?_
  refine q_aload_n rfl rfl ?_
  refine v_sln 47 rfl rfl (by omega) (Nat.le_of_ble_eq_true rfl) (by decide) (by decide) ?_
  refine v_ic_gt_f (t := 136) rfl (by decide) (by decide) ?_
  refine q_aload_n rfl rfl ?_
  refine v_cv rfl rfl rfl rfl (by decide) ⟨⟨rfl, rfl⟩, by decide, rfl⟩ (Nat.le_of_ble_eq_true rfl) (Nat.le_of_ble_eq_true rfl) ?_
  refine q_aload_n rfl rfl ?_
  refine v_gi (z := 4) (v := f9) rfl rfl rfl (by decide) rfl rfl (hv2) ?_
  refine v_if_ne_f (t := 11) rfl (by decide) (by omega) ?_
  refine q_iconst rfl ?_
  refine q_goto (t := 12) rfl (by decide) ?_
  refine v_zret rfl rfl (by decide) ?_
  refine bk_inl ?_
  refine v_if_eq_f (t := 136) rfl (by decide) (by decide) ?_
  refine q_iload rfl rfl ?_
  refine q_aload_n rfl rfl ?_
  refine v_sln 47 rfl rfl (by omega) (Nat.le_of_ble_eq_true rfl) (by decide) (by decide) ?_
  refine v_ic_eq_f (t := 88) rfl (by decide) (by decide) ?_
  refine q_aload_n rfl rfl ?_
  refine q_iload rfl rfl ?_
  refine v_sch 32 rfl rfl (by omega) (Nat.le_of_ble_eq_true rfl) (by decide) (by decide) (by decide) ?_
  refine v_bip rfl (by decide) ?_
  refine v_ic_ne_f (t := 130) rfl (by decide) (by decide) ?_
  refine q_iload rfl rfl ?_
  refine q_iload rfl rfl ?_
  refine v_isub (v := 3) rfl (by decide) ?_
  refine q_iload_n rfl rfl ?_
  refine q_iload_n rfl rfl ?_
  refine v_isub (v := L8 - r8) rfl rfl ?_
  by_cases h_5 : 3 ≠ L8 - r8
  · refine v_ic_ne_t (t := 121) rfl (by decide) ⟨h_5, ⟨by decide, by decide⟩, by omega, by omega⟩ ?_
    refine v_iinc (v := 5) rfl rfl (by decide) (by decide) ?_
    refine q_iload rfl rfl ?_
    refine q_iconst rfl ?_
    refine v_iadd (v := 25) rfl (by decide) ?_
    refine q_istore rfl (by decide) ?_
    refine Wp_ls [(5, vi 25), (4, vi 5), (6, vi 24), (0, .ref 1), (1, .ref (a_SB + 1)), (2, vi r8), (3, vi L8)] (lsub_cons rfl (lsub_cons rfl (lsub_cons rfl (lsub_cons rfl (lsub_cons rfl (lsub_cons rfl (lsub_cons rfl lsub_nil))))))) ?_
    refine v_iinc (v := 25) rfl rfl (by decide) (by decide) ?_
    refine q_goto (t := 52) rfl (by decide) ?_
    refine Wp_ls [(0, .ref 1), (1, .ref (a_SB + 1)), (2, vi r8), (3, vi L8), (4, vi 5), (5, vi 25), (6, vi 25)] (lsub_cons rfl (lsub_cons rfl (lsub_cons rfl (lsub_cons rfl (lsub_cons rfl (lsub_cons rfl (lsub_cons rfl lsub_nil))))))) ?_
    exact f_10_1_5 (d := d) (r8 := r8) (L8 := L8) (W8 := W8) hI hq0 hq1 hv0 hv1 hv2 hv3 hB ((wd1_4_f (by omega)).symm.trans hdW8) K0 K1
  · refine v_ic_ne_f (t := 121) rfl (by decide) (Decidable.not_not.mp h_5) ?_
    refine q_aload_n rfl rfl ?_
    refine q_aload_n rfl rfl ?_
    refine q_iload rfl rfl ?_
    refine q_iload_n rfl rfl ?_
    refine q_iload_n rfl rfl ?_
    refine q_iload_n rfl rfl ?_
    refine v_isub (v := L8 - r8) rfl rfl ?_
    refine v_cv rfl rfl rfl rfl (by decide) ⟨⟨rfl, rfl⟩, by decide, rfl⟩ (Nat.le_of_ble_eq_true rfl) (Nat.le_of_ble_eq_true rfl) ?_
    refine q_iconst rfl ?_
    refine q_istore rfl (by decide) ?_
    refine q_iload rfl rfl ?_
    refine q_iload rfl rfl ?_
    refine v_ic_ge_f (t := 38) rfl (by decide) (by omega) ?_
    refine q_aload_n rfl rfl ?_
    refine q_iload_n rfl rfl ?_
    refine q_iload rfl rfl ?_
    refine v_iadd (v := 21) rfl (by decide) ?_
    refine v_sch 97 rfl rfl (by omega) (Nat.le_of_ble_eq_true rfl) (by decide) (by decide) (by decide) ?_
    refine q_aload_n rfl rfl ?_
    refine v_gr (t := 2) rfl rfl rfl (by decide) rfl ?_
    refine q_iload_n rfl rfl ?_
    refine q_iload rfl rfl ?_
    refine v_iadd (v := r8) rfl (by omega) ?_
    have h_6 : -2147483648 ≤ (B r8) ∧ (B r8) ≤ 2147483647 := by rw [← hB r8]; exact ir_2 hI r8
    refine v_ba (v := (B r8)) rfl rfl (by decide) (by decide) (by omega) (hB r8) ?_
    by_cases h_7 : 97 = (B r8)
    · refine v_ic_eq_t (t := 32) rfl (by decide) h_7 ?_
      refine v_iinc (v := 1) rfl rfl (by decide) (by decide) ?_
      refine q_goto (t := 3) rfl (by decide) ?_
      refine q_iload rfl rfl ?_
      refine q_iload rfl rfl ?_
      refine v_ic_ge_f (t := 38) rfl (by decide) (by omega) ?_
      refine q_aload_n rfl rfl ?_
      refine q_iload_n rfl rfl ?_
      refine q_iload rfl rfl ?_
      refine v_iadd (v := 22) rfl (by decide) ?_
      refine v_sch 108 rfl rfl (by omega) (Nat.le_of_ble_eq_true rfl) (by decide) (by decide) (by decide) ?_
      refine q_aload_n rfl rfl ?_
      refine v_gr (t := 2) rfl rfl rfl (by decide) rfl ?_
      refine q_iload_n rfl rfl ?_
      refine q_iload rfl rfl ?_
      refine v_iadd (v := r8 + 1) rfl rfl ?_
      have h_8 : -2147483648 ≤ (B (r8 + 1)) ∧ (B (r8 + 1)) ≤ 2147483647 := by rw [← hB (r8 + 1)]; exact ir_2 hI (r8 + 1)
      refine v_ba (v := (B (r8 + 1))) rfl rfl (by decide) (by decide) (by omega) (hB (r8 + 1)) ?_
      by_cases h_9 : 108 = (B (r8 + 1))
      · refine v_ic_eq_t (t := 32) rfl (by decide) h_9 ?_
        refine v_iinc (v := 2) rfl rfl (by decide) (by decide) ?_
        refine q_goto (t := 3) rfl (by decide) ?_
        refine q_iload rfl rfl ?_
        refine q_iload rfl rfl ?_
        refine v_ic_ge_f (t := 38) rfl (by decide) (by omega) ?_
        refine q_aload_n rfl rfl ?_
        refine q_iload_n rfl rfl ?_
        refine q_iload rfl rfl ?_
        refine v_iadd (v := 23) rfl (by decide) ?_
        refine v_sch 108 rfl rfl (by omega) (Nat.le_of_ble_eq_true rfl) (by decide) (by decide) (by decide) ?_
        refine q_aload_n rfl rfl ?_
        refine v_gr (t := 2) rfl rfl rfl (by decide) rfl ?_
        refine q_iload_n rfl rfl ?_
        refine q_iload rfl rfl ?_
        refine v_iadd (v := r8 + 2) rfl rfl ?_
        have h_10 : -2147483648 ≤ (B (r8 + 2)) ∧ (B (r8 + 2)) ≤ 2147483647 := by rw [← hB (r8 + 2)]; exact ir_2 hI (r8 + 2)
        refine v_ba (v := (B (r8 + 2))) rfl rfl (by decide) (by decide) (by omega) (hB (r8 + 2)) ?_
        by_cases h_11 : 108 = (B (r8 + 2))
        · refine v_ic_eq_t (t := 32) rfl (by decide) h_11 ?_
          refine v_iinc (v := 3) rfl rfl (by decide) (by decide) ?_
          refine q_goto (t := 3) rfl (by decide) ?_
          refine q_iload rfl rfl ?_
          refine q_iload rfl rfl ?_
          refine v_ic_ge_t (t := 38) rfl (by decide) (by omega) ?_
          refine q_iconst rfl ?_
          refine v_zret rfl rfl (by decide) ?_
          refine bk_inl ?_
          refine v_if_eq_f (t := 121) rfl (by decide) (by decide) ?_
          refine q_aload_n rfl rfl ?_
          refine q_iload_n rfl rfl ?_
          refine v_pi (z := 2) rfl rfl rfl (by decide) rfl rfl rfl (by decide) ?_
          refine q_iload rfl rfl ?_
          refine q_iret rfl rfl ?_
          have hw9 : W8 = 4 := hdW8.symm.trans (wd1_4_t (by omega))
          have hI_12 := iw_1_2 (v := L8) hI ⟨by omega, by omega⟩
          have h_13 : (up c 1 2 L8) 1 2 = L8 := (up_e rfl)
          have h_14 : (up c 1 2 L8) 1 4 = f9 := ((up_n (by decide)).trans (hv2))
          have h_15 : (up c 1 2 L8) 1 5 = p9 := ((up_n (by decide)).trans (hv3))
          exact zv (by omega) (K1 (up c 1 2 L8) hI_12 (fun a j hm => up_b (Decidable.or_iff_not_imp_left.mpr (fun h1 h2 => hm (Or.inl ⟨Decidable.not_not.mp h1, h2⟩)))) (by omega) (by omega) (by omega) (by omega))
        · refine v_ic_eq_f (t := 32) rfl (by decide) ⟨h_11, ⟨by decide, by decide⟩, by omega, by omega⟩ ?_
          refine q_iconst rfl ?_
          refine v_zret rfl rfl (by decide) ?_
          refine bk_inl ?_
          refine v_if_eq_t (t := 121) rfl (by decide) (by decide) ?_
          refine v_iinc (v := 5) rfl rfl (by decide) (by decide) ?_
          refine q_iload rfl rfl ?_
          refine q_iconst rfl ?_
          refine v_iadd (v := 25) rfl (by decide) ?_
          refine q_istore rfl (by decide) ?_
          refine Wp_ls [(5, vi 25), (4, vi 5), (6, vi 24), (0, .ref 1), (1, .ref (a_SB + 1)), (2, vi r8), (3, vi L8)] (lsub_cons rfl (lsub_cons rfl (lsub_cons rfl (lsub_cons rfl (lsub_cons rfl (lsub_cons rfl (lsub_cons rfl lsub_nil))))))) ?_
          refine v_iinc (v := 25) rfl rfl (by decide) (by decide) ?_
          refine q_goto (t := 52) rfl (by decide) ?_
          refine Wp_ls [(0, .ref 1), (1, .ref (a_SB + 1)), (2, vi r8), (3, vi L8), (4, vi 5), (5, vi 25), (6, vi 25)] (lsub_cons rfl (lsub_cons rfl (lsub_cons rfl (lsub_cons rfl (lsub_cons rfl (lsub_cons rfl (lsub_cons rfl lsub_nil))))))) ?_
          exact f_10_1_5 (d := d) (r8 := r8) (L8 := L8) (W8 := W8) hI hq0 hq1 hv0 hv1 hv2 hv3 hB ((wd1_4_f (by omega)).symm.trans hdW8) K0 K1
      · refine v_ic_eq_f (t := 32) rfl (by decide) ⟨h_9, ⟨by decide, by decide⟩, by omega, by omega⟩ ?_
        refine q_iconst rfl ?_
        refine v_zret rfl rfl (by decide) ?_
        refine bk_inl ?_
        refine v_if_eq_t (t := 121) rfl (by decide) (by decide) ?_
        refine v_iinc (v := 5) rfl rfl (by decide) (by decide) ?_
        refine q_iload rfl rfl ?_
        refine q_iconst rfl ?_
        refine v_iadd (v := 25) rfl (by decide) ?_
        refine q_istore rfl (by decide) ?_
        refine Wp_ls [(5, vi 25), (4, vi 5), (6, vi 24), (0, .ref 1), (1, .ref (a_SB + 1)), (2, vi r8), (3, vi L8)] (lsub_cons rfl (lsub_cons rfl (lsub_cons rfl (lsub_cons rfl (lsub_cons rfl (lsub_cons rfl (lsub_cons rfl lsub_nil))))))) ?_
        refine v_iinc (v := 25) rfl rfl (by decide) (by decide) ?_
        refine q_goto (t := 52) rfl (by decide) ?_
        refine Wp_ls [(0, .ref 1), (1, .ref (a_SB + 1)), (2, vi r8), (3, vi L8), (4, vi 5), (5, vi 25), (6, vi 25)] (lsub_cons rfl (lsub_cons rfl (lsub_cons rfl (lsub_cons rfl (lsub_cons rfl (lsub_cons rfl (lsub_cons rfl lsub_nil))))))) ?_
        exact f_10_1_5 (d := d) (r8 := r8) (L8 := L8) (W8 := W8) hI hq0 hq1 hv0 hv1 hv2 hv3 hB ((wd1_4_f (by omega)).symm.trans hdW8) K0 K1
    · refine v_ic_eq_f (t := 32) rfl (by decide) ⟨h_7, ⟨by decide, by decide⟩, by omega, by omega⟩ ?_
      refine q_iconst rfl ?_
      refine v_zret rfl rfl (by decide) ?_
      refine bk_inl ?_
      refine v_if_eq_t (t := 121) rfl (by decide) (by decide) ?_
      refine v_iinc (v := 5) rfl rfl (by decide) (by decide) ?_
      refine q_iload rfl rfl ?_
      refine q_iconst rfl ?_
      refine v_iadd (v := 25) rfl (by decide) ?_
      refine q_istore rfl (by decide) ?_
      refine Wp_ls [(5, vi 25), (4, vi 5), (6, vi 24), (0, .ref 1), (1, .ref (a_SB + 1)), (2, vi r8), (3, vi L8)] (lsub_cons rfl (lsub_cons rfl (lsub_cons rfl (lsub_cons rfl (lsub_cons rfl (lsub_cons rfl (lsub_cons rfl lsub_nil))))))) ?_
      refine v_iinc (v := 25) rfl rfl (by decide) (by decide) ?_
      refine q_goto (t := 52) rfl (by decide) ?_
      refine Wp_ls [(0, .ref 1), (1, .ref (a_SB + 1)), (2, vi r8), (3, vi L8), (4, vi 5), (5, vi 25), (6, vi 25)] (lsub_cons rfl (lsub_cons rfl (lsub_cons rfl (lsub_cons rfl (lsub_cons rfl (lsub_cons rfl (lsub_cons rfl lsub_nil))))))) ?_
      exact f_10_1_5 (d := d) (r8 := r8) (L8 := L8) (W8 := W8) hI hq0 hq1 hv0 hv1 hv2 hv3 hB ((wd1_4_f (by omega)).symm.trans hdW8) K0 K1

set_option maxRecDepth 100000 in
set_option maxHeartbeats 4000000 in
theorem f_10_1_3 {sc : List Int32} {e : Int} {d u P Q : Nat} {c : ME} {e1 a9 f9 p9 W8 r8 L8 : Int} {B : Int → Int} {Z : AR → Prop} (hI : Iv u e P Q c) (hq0 : (f9 = 0)) (hq1 : (r8 ≥ 0 ∧ r8 ≤ L8 ∧ L8 ≤ 600)) (hv0 : c 1 1 = e1) (hv1 : c 1 2 = a9) (hv2 : c 1 4 = f9) (hv3 : c 1 5 = p9) (hB : ∀ j : Int, c 2 j = B j) (hdW8 : wd1_3 B r8 L8 = W8) (K0 : ∀ c2 : ME, Iv u e P Q c2 → (∀ (a : Nat) (j : Int), ¬ ((a = 1 ∧ j = 2) ∨ (a = 1 ∧ j = 4) ∨ (a = 1 ∧ j = 5)) → c2 a j = c a j) → ((W8 = (-1))) → (c2 1 2 = a9) → (c2 1 4 = 1) → (c2 1 5 = r8) → Z (.inl (some (vi (-1))), Wd P Q P P c2, 0, 0)) (K1 : ∀ c2 : ME, Iv u e P Q c2 → (∀ (a : Nat) (j : Int), ¬ ((a = 1 ∧ j = 2) ∨ (a = 1 ∧ j = 4) ∨ (a = 1 ∧ j = 5)) → c2 a j = c a j) → ((W8 ≥ 0 ∧ W8 ≤ 9)) → (c2 1 2 = L8) → (c2 1 4 = 0) → (c2 1 5 = p9) → Z (.inl (some (vi W8)), Wd P Q P P c2, 0, 0)) : Wp sc (d + 12) 10 52 [(0, .ref 1), (1, .ref (a_SB + 1)), (2, vi r8), (3, vi L8), (4, vi 3), (5, vi 16), (6, vi 16)] [] (Wd P Q P P c) 0 0 Z := by
  have hP := iv_P hI
  have hQ := iv_Q hI
  have h_1 := ir_1_1 hI
  have h_2 := ir_1_2 hI
  have h_3 := ir_1_4 hI
  have h_4 := ir_1_5 hI
  refine q_iload rfl rfl ?_
  refine q_aload_n rfl rfl ?_
  refine v_sln 47 rfl rfl (by omega) (Nat.le_of_ble_eq_true rfl) (by decide) (by decide) ?_
  refine v_ic_gt_f (t := 136) rfl (by decide) (by decide) ?_
  refine q_aload_n rfl rfl ?_
  refine v_cv rfl rfl rfl rfl (by decide) ⟨⟨rfl, rfl⟩, by decide, rfl⟩ (Nat.le_of_ble_eq_true rfl) (Nat.le_of_ble_eq_true rfl) ?_
  refine q_aload_n rfl rfl ?_
  refine v_gi (z := 4) (v := f9) rfl rfl rfl (by decide) rfl rfl (hv2) ?_
  refine v_if_ne_f (t := 11) rfl (by decide) (by omega) ?_
  refine q_iconst rfl ?_
  refine q_goto (t := 12) rfl (by decide) ?_
  refine v_zret rfl rfl (by decide) ?_
  refine bk_inl ?_
  refine v_if_eq_f (t := 136) rfl (by decide) (by decide) ?_
  refine q_iload rfl rfl ?_
  refine q_aload_n rfl rfl ?_
  refine v_sln 47 rfl rfl (by omega) (Nat.le_of_ble_eq_true rfl) (by decide) (by decide) ?_
  refine v_ic_eq_f (t := 88) rfl (by decide) (by decide) ?_
  refine q_aload_n rfl rfl ?_
  refine q_iload rfl rfl ?_
  refine v_sch 104 rfl rfl (by omega) (Nat.le_of_ble_eq_true rfl) (by decide) (by decide) (by decide) ?_
  refine v_bip rfl (by decide) ?_
  refine v_ic_ne_t (t := 130) rfl (by decide) (by decide) ?_
  refine v_iinc (v := 17) rfl rfl (by decide) (by decide) ?_
  refine q_goto (t := 52) rfl (by decide) ?_
  refine q_iload rfl rfl ?_
  refine q_aload_n rfl rfl ?_
  refine v_sln 47 rfl rfl (by omega) (Nat.le_of_ble_eq_true rfl) (by decide) (by decide) ?_
  refine v_ic_gt_f (t := 136) rfl (by decide) (by decide) ?_
  refine q_aload_n rfl rfl ?_
  refine v_cv rfl rfl rfl rfl (by decide) ⟨⟨rfl, rfl⟩, by decide, rfl⟩ (Nat.le_of_ble_eq_true rfl) (Nat.le_of_ble_eq_true rfl) ?_
  refine q_aload_n rfl rfl ?_
  refine v_gi (z := 4) (v := f9) rfl rfl rfl (by decide) rfl rfl (hv2) ?_
  refine v_if_ne_f (t := 11) rfl (by decide) (by omega) ?_
  refine q_iconst rfl ?_
  refine q_goto (t := 12) rfl (by decide) ?_
  refine v_zret rfl rfl (by decide) ?_
  refine bk_inl ?_
  refine v_if_eq_f (t := 136) rfl (by decide) (by decide) ?_
  refine q_iload rfl rfl ?_
  refine q_aload_n rfl rfl ?_
  refine v_sln 47 rfl rfl (by omega) (Nat.le_of_ble_eq_true rfl) (by decide) (by decide) ?_
  refine v_ic_eq_f (t := 88) rfl (by decide) (by decide) ?_
  refine q_aload_n rfl rfl ?_
  refine q_iload rfl rfl ?_
  refine v_sch 117 rfl rfl (by omega) (Nat.le_of_ble_eq_true rfl) (by decide) (by decide) (by decide) ?_
  refine v_bip rfl (by decide) ?_
  refine v_ic_ne_t (t := 130) rfl (by decide) (by decide) ?_
  refine v_iinc (v := 18) rfl rfl (by decide) (by decide) ?_
  refine q_goto (t := 52) rfl (by decide) ?_
  refine q_iload rfl rfl ?_
  refine q_aload_n rfl rfl ?_
  refine v_sln 47 rfl rfl (by omega) (Nat.le_of_ble_eq_true rfl) (by decide) (by decide) ?_
  refine v_ic_gt_f (t := 136) rfl (by decide) (by decide) ?_
  refine q_aload_n rfl rfl ?_
  refine v_cv rfl rfl rfl rfl (by decide) ⟨⟨rfl, rfl⟩, by decide, rfl⟩ (Nat.le_of_ble_eq_true rfl) (Nat.le_of_ble_eq_true rfl) ?_
  refine q_aload_n rfl rfl ?_
  refine v_gi (z := 4) (v := f9) rfl rfl rfl (by decide) rfl rfl (hv2) ?_
  refine v_if_ne_f (t := 11) rfl (by decide) (by omega) ?_
  refine q_iconst rfl ?_
  refine q_goto (t := 12) rfl (by decide) ?_
  refine v_zret rfl rfl (by decide) ?_
  refine bk_inl ?_
  refine v_if_eq_f (t := 136) rfl (by decide) (by decide) ?_
  refine q_iload rfl rfl ?_
  refine q_aload_n rfl rfl ?_
  refine v_sln 47 rfl rfl (by omega) (Nat.le_of_ble_eq_true rfl) (by decide) (by decide) ?_
  refine v_ic_eq_f (t := 88) rfl (by decide) (by decide) ?_
  refine q_aload_n rfl rfl ?_
  refine q_iload rfl rfl ?_
  refine v_sch 115 rfl rfl (by omega) (Nat.le_of_ble_eq_true rfl) (by decide) (by decide) (by decide) ?_
  refine v_bip rfl (by decide) ?_
  refine v_ic_ne_t (t := 130) rfl (by decide) (by decide) ?_
  refine v_iinc (v := 19) rfl rfl (by decide) (by decide) ?_
  refine q_goto (t := 52) rfl (by decide) ?_
  refine q_iload rfl rfl ?_
  refine q_aload_n rfl rfl ?_
  refine v_sln 47 rfl rfl (by omega) (Nat.le_of_ble_eq_true rfl) (by decide) (by decide) ?_
  refine v_ic_gt_f (t := 136) rfl (by decide) (by decide) ?_
  refine q_aload_n rfl rfl ?_
  refine v_cv rfl rfl rfl rfl (by decide) ⟨⟨rfl, rfl⟩, by decide, rfl⟩ (Nat.le_of_ble_eq_true rfl) (Nat.le_of_ble_eq_true rfl) ?_
  refine q_aload_n rfl rfl ?_
  refine v_gi (z := 4) (v := f9) rfl rfl rfl (by decide) rfl rfl (hv2) ?_
  refine v_if_ne_f (t := 11) rfl (by decide) (by omega) ?_
  refine q_iconst rfl ?_
  refine q_goto (t := 12) rfl (by decide) ?_
  refine v_zret rfl rfl (by decide) ?_
  refine bk_inl ?_
  refine v_if_eq_f (t := 136) rfl (by decide) (by decide) ?_
  refine q_iload rfl rfl ?_
  refine q_aload_n rfl rfl ?_
  refine v_sln 47 rfl rfl (by omega) (Nat.le_of_ble_eq_true rfl) (by decide) (by decide) ?_
  refine v_ic_eq_f (t := 88) rfl (by decide) (by decide) ?_
  refine q_aload_n rfl rfl ?_
  refine q_iload rfl rfl ?_
  refine v_sch 107 rfl rfl (by omega) (Nat.le_of_ble_eq_true rfl) (by decide) (by decide) (by decide) ?_
  refine v_bip rfl (by decide) ?_
  refine v_ic_ne_t (t := 130) rfl (by decide) (by decide) ?_
  refine v_iinc (v := 20) rfl rfl (by decide) (by decide) ?_
  refine q_goto (t := 52) rfl (by decide) ?_
  refine q_iload rfl rfl ?_
  refine q_aload_n rfl rfl ?_
  refine v_sln 47 rfl rfl (by omega) (Nat.le_of_ble_eq_true rfl) (by decide) (by decide) ?_
  refine v_ic_gt_f (t := 136) rfl (by decide) (by decide) ?_
  refine q_aload_n rfl rfl ?_
  refine v_cv rfl rfl rfl rfl (by decide) ⟨⟨rfl, rfl⟩, by decide, rfl⟩ (Nat.le_of_ble_eq_true rfl) (Nat.le_of_ble_eq_true rfl) ?_
  refine q_aload_n rfl rfl ?_
  refine v_gi (z := 4) (v := f9) rfl rfl rfl (by decide) rfl rfl (hv2) ?_
  refine v_if_ne_f (t := 11) rfl (by decide) (by omega) ?_
  refine q_iconst rfl ?_
  refine q_goto (t := 12) rfl (by decide) ?_
  refine v_zret rfl rfl (by decide) ?_
  refine bk_inl ?_
  refine v_if_eq_f (t := 136) rfl (by decide) (by decide) ?_
  refine q_iload rfl rfl ?_
  refine q_aload_n rfl rfl ?_
  refine v_sln 47 rfl rfl (by omega) (Nat.le_of_ble_eq_true rfl) (by decide) (by decide) ?_
  refine v_ic_eq_f (t := 88) rfl (by decide) (by decide) ?_
  refine q_aload_n rfl rfl ?_
  refine q_iload rfl rfl ?_
  refine v_sch 32 rfl rfl (by omega) (Nat.le_of_ble_eq_true rfl) (by decide) (by decide) (by decide) ?_
  refine v_bip rfl (by decide) ?_
  refine v_ic_ne_f (t := 130) rfl (by decide) (by decide) ?_
  refine q_iload rfl rfl ?_
  refine q_iload rfl rfl ?_
  refine v_isub (v := 4) rfl (by decide) ?_
  refine q_iload_n rfl rfl ?_
  refine q_iload_n rfl rfl ?_
  refine v_isub (v := L8 - r8) rfl rfl ?_
  by_cases h_5 : 4 ≠ L8 - r8
  · refine v_ic_ne_t (t := 121) rfl (by decide) ⟨h_5, ⟨by decide, by decide⟩, by omega, by omega⟩ ?_
    refine v_iinc (v := 4) rfl rfl (by decide) (by decide) ?_
    refine Wp_ls [(4, vi 4), (6, vi 20), (0, .ref 1), (1, .ref (a_SB + 1)), (2, vi r8), (3, vi L8), (5, vi 16)] (lsub_cons rfl (lsub_cons rfl (lsub_cons rfl (lsub_cons rfl (lsub_cons rfl (lsub_cons rfl (lsub_cons rfl lsub_nil))))))) ?_
    refine q_iload rfl rfl ?_
    refine q_iconst rfl ?_
    refine v_iadd (v := 21) rfl (by decide) ?_
    refine q_istore rfl (by decide) ?_
    refine v_iinc (v := 21) rfl rfl (by decide) (by decide) ?_
    refine q_goto (t := 52) rfl (by decide) ?_
    refine Wp_ls [(0, .ref 1), (1, .ref (a_SB + 1)), (2, vi r8), (3, vi L8), (4, vi 4), (5, vi 21), (6, vi 21)] (lsub_cons rfl (lsub_cons rfl (lsub_cons rfl (lsub_cons rfl (lsub_cons rfl (lsub_cons rfl (lsub_cons rfl lsub_nil))))))) ?_
    exact f_10_1_4 (d := d) (r8 := r8) (L8 := L8) (W8 := W8) hI hq0 hq1 hv0 hv1 hv2 hv3 hB ((wd1_3_f (by omega)).symm.trans hdW8) K0 K1
  · refine v_ic_ne_f (t := 121) rfl (by decide) (Decidable.not_not.mp h_5) ?_
    refine q_aload_n rfl rfl ?_
    refine q_aload_n rfl rfl ?_
    refine q_iload rfl rfl ?_
    refine q_iload_n rfl rfl ?_
    refine q_iload_n rfl rfl ?_
    refine q_iload_n rfl rfl ?_
    refine v_isub (v := L8 - r8) rfl rfl ?_
    refine v_cv rfl rfl rfl rfl (by decide) ⟨⟨rfl, rfl⟩, by decide, rfl⟩ (Nat.le_of_ble_eq_true rfl) (Nat.le_of_ble_eq_true rfl) ?_
    refine q_iconst rfl ?_
    refine q_istore rfl (by decide) ?_
    refine q_iload rfl rfl ?_
    refine q_iload rfl rfl ?_
    refine v_ic_ge_f (t := 38) rfl (by decide) (by omega) ?_
    refine q_aload_n rfl rfl ?_
    refine q_iload_n rfl rfl ?_
    refine q_iload rfl rfl ?_
    refine v_iadd (v := 16) rfl (by decide) ?_
    refine v_sch 104 rfl rfl (by omega) (Nat.le_of_ble_eq_true rfl) (by decide) (by decide) (by decide) ?_
    refine q_aload_n rfl rfl ?_
    refine v_gr (t := 2) rfl rfl rfl (by decide) rfl ?_
    refine q_iload_n rfl rfl ?_
    refine q_iload rfl rfl ?_
    refine v_iadd (v := r8) rfl (by omega) ?_
    have h_6 : -2147483648 ≤ (B r8) ∧ (B r8) ≤ 2147483647 := by rw [← hB r8]; exact ir_2 hI r8
    refine v_ba (v := (B r8)) rfl rfl (by decide) (by decide) (by omega) (hB r8) ?_
    by_cases h_7 : 104 = (B r8)
    · refine v_ic_eq_t (t := 32) rfl (by decide) h_7 ?_
      refine v_iinc (v := 1) rfl rfl (by decide) (by decide) ?_
      refine q_goto (t := 3) rfl (by decide) ?_
      refine q_iload rfl rfl ?_
      refine q_iload rfl rfl ?_
      refine v_ic_ge_f (t := 38) rfl (by decide) (by omega) ?_
      refine q_aload_n rfl rfl ?_
      refine q_iload_n rfl rfl ?_
      refine q_iload rfl rfl ?_
      refine v_iadd (v := 17) rfl (by decide) ?_
      refine v_sch 117 rfl rfl (by omega) (Nat.le_of_ble_eq_true rfl) (by decide) (by decide) (by decide) ?_
      refine q_aload_n rfl rfl ?_
      refine v_gr (t := 2) rfl rfl rfl (by decide) rfl ?_
      refine q_iload_n rfl rfl ?_
      refine q_iload rfl rfl ?_
      refine v_iadd (v := r8 + 1) rfl rfl ?_
      have h_8 : -2147483648 ≤ (B (r8 + 1)) ∧ (B (r8 + 1)) ≤ 2147483647 := by rw [← hB (r8 + 1)]; exact ir_2 hI (r8 + 1)
      refine v_ba (v := (B (r8 + 1))) rfl rfl (by decide) (by decide) (by omega) (hB (r8 + 1)) ?_
      by_cases h_9 : 117 = (B (r8 + 1))
      · refine v_ic_eq_t (t := 32) rfl (by decide) h_9 ?_
        refine v_iinc (v := 2) rfl rfl (by decide) (by decide) ?_
        refine q_goto (t := 3) rfl (by decide) ?_
        refine q_iload rfl rfl ?_
        refine q_iload rfl rfl ?_
        refine v_ic_ge_f (t := 38) rfl (by decide) (by omega) ?_
        refine q_aload_n rfl rfl ?_
        refine q_iload_n rfl rfl ?_
        refine q_iload rfl rfl ?_
        refine v_iadd (v := 18) rfl (by decide) ?_
        refine v_sch 115 rfl rfl (by omega) (Nat.le_of_ble_eq_true rfl) (by decide) (by decide) (by decide) ?_
        refine q_aload_n rfl rfl ?_
        refine v_gr (t := 2) rfl rfl rfl (by decide) rfl ?_
        refine q_iload_n rfl rfl ?_
        refine q_iload rfl rfl ?_
        refine v_iadd (v := r8 + 2) rfl rfl ?_
        have h_10 : -2147483648 ≤ (B (r8 + 2)) ∧ (B (r8 + 2)) ≤ 2147483647 := by rw [← hB (r8 + 2)]; exact ir_2 hI (r8 + 2)
        refine v_ba (v := (B (r8 + 2))) rfl rfl (by decide) (by decide) (by omega) (hB (r8 + 2)) ?_
        by_cases h_11 : 115 = (B (r8 + 2))
        · refine v_ic_eq_t (t := 32) rfl (by decide) h_11 ?_
          refine v_iinc (v := 3) rfl rfl (by decide) (by decide) ?_
          refine q_goto (t := 3) rfl (by decide) ?_
          refine q_iload rfl rfl ?_
          refine q_iload rfl rfl ?_
          refine v_ic_ge_f (t := 38) rfl (by decide) (by omega) ?_
          refine q_aload_n rfl rfl ?_
          refine q_iload_n rfl rfl ?_
          refine q_iload rfl rfl ?_
          refine v_iadd (v := 19) rfl (by decide) ?_
          refine v_sch 107 rfl rfl (by omega) (Nat.le_of_ble_eq_true rfl) (by decide) (by decide) (by decide) ?_
          refine q_aload_n rfl rfl ?_
          refine v_gr (t := 2) rfl rfl rfl (by decide) rfl ?_
          refine q_iload_n rfl rfl ?_
          refine q_iload rfl rfl ?_
          refine v_iadd (v := r8 + 3) rfl rfl ?_
          have h_12 : -2147483648 ≤ (B (r8 + 3)) ∧ (B (r8 + 3)) ≤ 2147483647 := by rw [← hB (r8 + 3)]; exact ir_2 hI (r8 + 3)
          refine v_ba (v := (B (r8 + 3))) rfl rfl (by decide) (by decide) (by omega) (hB (r8 + 3)) ?_
          by_cases h_13 : 107 = (B (r8 + 3))
          · refine v_ic_eq_t (t := 32) rfl (by decide) h_13 ?_
            refine v_iinc (v := 4) rfl rfl (by decide) (by decide) ?_
            refine Wp_ls [(5, vi 4), (0, .ref 1), (1, .ref (a_SB + 1)), (2, vi 16), (3, vi r8), (4, vi (L8 - r8))] (lsub_cons rfl (lsub_cons rfl (lsub_cons rfl (lsub_cons rfl (lsub_cons rfl (lsub_cons rfl lsub_nil)))))) ?_
            refine q_goto (t := 3) rfl (by decide) ?_
            refine q_iload rfl rfl ?_
            refine q_iload rfl rfl ?_
            refine v_ic_ge_t (t := 38) rfl (by decide) (by omega) ?_
            refine q_iconst rfl ?_
            refine v_zret rfl rfl (by decide) ?_
            refine bk_inl ?_
            refine v_if_eq_f (t := 121) rfl (by decide) (by decide) ?_
            refine q_aload_n rfl rfl ?_
            refine q_iload_n rfl rfl ?_
            refine v_pi (z := 2) rfl rfl rfl (by decide) rfl rfl rfl (by decide) ?_
            refine q_iload rfl rfl ?_
            refine q_iret rfl rfl ?_
            have hw9 : W8 = 3 := hdW8.symm.trans (wd1_3_t (by omega))
            have hI_14 := iw_1_2 (v := L8) hI ⟨by omega, by omega⟩
            have h_15 : (up c 1 2 L8) 1 2 = L8 := (up_e rfl)
            have h_16 : (up c 1 2 L8) 1 4 = f9 := ((up_n (by decide)).trans (hv2))
            have h_17 : (up c 1 2 L8) 1 5 = p9 := ((up_n (by decide)).trans (hv3))
            exact zv (by omega) (K1 (up c 1 2 L8) hI_14 (fun a j hm => up_b (Decidable.or_iff_not_imp_left.mpr (fun h1 h2 => hm (Or.inl ⟨Decidable.not_not.mp h1, h2⟩)))) (by omega) (by omega) (by omega) (by omega))
          · refine v_ic_eq_f (t := 32) rfl (by decide) ⟨h_13, ⟨by decide, by decide⟩, by omega, by omega⟩ ?_
            refine q_iconst rfl ?_
            refine v_zret rfl rfl (by decide) ?_
            refine bk_inl ?_
            refine v_if_eq_t (t := 121) rfl (by decide) (by decide) ?_
            refine v_iinc (v := 4) rfl rfl (by decide) (by decide) ?_
            refine Wp_ls [(4, vi 4), (6, vi 20), (0, .ref 1), (1, .ref (a_SB + 1)), (2, vi r8), (3, vi L8), (5, vi 16)] (lsub_cons rfl (lsub_cons rfl (lsub_cons rfl (lsub_cons rfl (lsub_cons rfl (lsub_cons rfl (lsub_cons rfl lsub_nil))))))) ?_
            refine q_iload rfl rfl ?_
            refine q_iconst rfl ?_
            refine v_iadd (v := 21) rfl (by decide) ?_
            refine q_istore rfl (by decide) ?_
            refine v_iinc (v := 21) rfl rfl (by decide) (by decide) ?_
            refine q_goto (t := 52) rfl (by decide) ?_
            refine Wp_ls [(0, .ref 1), (1, .ref (a_SB + 1)), (2, vi r8), (3, vi L8), (4, vi 4), (5, vi 21), (6, vi 21)] (lsub_cons rfl (lsub_cons rfl (lsub_cons rfl (lsub_cons rfl (lsub_cons rfl (lsub_cons rfl (lsub_cons rfl lsub_nil))))))) ?_
            exact f_10_1_4 (d := d) (r8 := r8) (L8 := L8) (W8 := W8) hI hq0 hq1 hv0 hv1 hv2 hv3 hB ((wd1_3_f (by omega)).symm.trans hdW8) K0 K1
        · refine v_ic_eq_f (t := 32) rfl (by decide) ⟨h_11, ⟨by decide, by decide⟩, by omega, by omega⟩ ?_
          refine q_iconst rfl ?_
          refine v_zret rfl rfl (by decide) ?_
          refine bk_inl ?_
          refine v_if_eq_t (t := 121) rfl (by decide) (by decide) ?_
          refine v_iinc (v := 4) rfl rfl (by decide) (by decide) ?_
          refine Wp_ls [(4, vi 4), (6, vi 20), (0, .ref 1), (1, .ref (a_SB + 1)), (2, vi r8), (3, vi L8), (5, vi 16)] (lsub_cons rfl (lsub_cons rfl (lsub_cons rfl (lsub_cons rfl (lsub_cons rfl (lsub_cons rfl (lsub_cons rfl lsub_nil))))))) ?_
          refine q_iload rfl rfl ?_
          refine q_iconst rfl ?_
          refine v_iadd (v := 21) rfl (by decide) ?_
          refine q_istore rfl (by decide) ?_
          refine v_iinc (v := 21) rfl rfl (by decide) (by decide) ?_
          refine q_goto (t := 52) rfl (by decide) ?_
          refine Wp_ls [(0, .ref 1), (1, .ref (a_SB + 1)), (2, vi r8), (3, vi L8), (4, vi 4), (5, vi 21), (6, vi 21)] (lsub_cons rfl (lsub_cons rfl (lsub_cons rfl (lsub_cons rfl (lsub_cons rfl (lsub_cons rfl (lsub_cons rfl lsub_nil))))))) ?_
          exact f_10_1_4 (d := d) (r8 := r8) (L8 := L8) (W8 := W8) hI hq0 hq1 hv0 hv1 hv2 hv3 hB ((wd1_3_f (by omega)).symm.trans hdW8) K0 K1
      · refine v_ic_eq_f (t := 32) rfl (by decide) ⟨h_9, ⟨by decide, by decide⟩, by omega, by omega⟩ ?_
        refine q_iconst rfl ?_
        refine v_zret rfl rfl (by decide) ?_
        refine bk_inl ?_
        refine v_if_eq_t (t := 121) rfl (by decide) (by decide) ?_
        refine v_iinc (v := 4) rfl rfl (by decide) (by decide) ?_
        refine Wp_ls [(4, vi 4), (6, vi 20), (0, .ref 1), (1, .ref (a_SB + 1)), (2, vi r8), (3, vi L8), (5, vi 16)] (lsub_cons rfl (lsub_cons rfl (lsub_cons rfl (lsub_cons rfl (lsub_cons rfl (lsub_cons rfl (lsub_cons rfl lsub_nil))))))) ?_
        refine q_iload rfl rfl ?_
        refine q_iconst rfl ?_
        refine v_iadd (v := 21) rfl (by decide) ?_
        refine q_istore rfl (by decide) ?_
        refine v_iinc (v := 21) rfl rfl (by decide) (by decide) ?_
        refine q_goto (t := 52) rfl (by decide) ?_
        refine Wp_ls [(0, .ref 1), (1, .ref (a_SB + 1)), (2, vi r8), (3, vi L8), (4, vi 4), (5, vi 21), (6, vi 21)] (lsub_cons rfl (lsub_cons rfl (lsub_cons rfl (lsub_cons rfl (lsub_cons rfl (lsub_cons rfl (lsub_cons rfl lsub_nil))))))) ?_
        exact f_10_1_4 (d := d) (r8 := r8) (L8 := L8) (W8 := W8) hI hq0 hq1 hv0 hv1 hv2 hv3 hB ((wd1_3_f (by omega)).symm.trans hdW8) K0 K1
    · refine v_ic_eq_f (t := 32) rfl (by decide) ⟨h_7, ⟨by decide, by decide⟩, by omega, by omega⟩ ?_
      refine q_iconst rfl ?_
      refine v_zret rfl rfl (by decide) ?_
      refine bk_inl ?_
      refine v_if_eq_t (t := 121) rfl (by decide) (by decide) ?_
      refine v_iinc (v := 4) rfl rfl (by decide) (by decide) ?_
      refine Wp_ls [(4, vi 4), (6, vi 20), (0, .ref 1), (1, .ref (a_SB + 1)), (2, vi r8), (3, vi L8), (5, vi 16)] (lsub_cons rfl (lsub_cons rfl (lsub_cons rfl (lsub_cons rfl (lsub_cons rfl (lsub_cons rfl (lsub_cons rfl lsub_nil))))))) ?_
      refine q_iload rfl rfl ?_
      refine q_iconst rfl ?_
      refine v_iadd (v := 21) rfl (by decide) ?_
      refine q_istore rfl (by decide) ?_
      refine v_iinc (v := 21) rfl rfl (by decide) (by decide) ?_
      refine q_goto (t := 52) rfl (by decide) ?_
      refine Wp_ls [(0, .ref 1), (1, .ref (a_SB + 1)), (2, vi r8), (3, vi L8), (4, vi 4), (5, vi 21), (6, vi 21)] (lsub_cons rfl (lsub_cons rfl (lsub_cons rfl (lsub_cons rfl (lsub_cons rfl (lsub_cons rfl (lsub_cons rfl lsub_nil))))))) ?_
      exact f_10_1_4 (d := d) (r8 := r8) (L8 := L8) (W8 := W8) hI hq0 hq1 hv0 hv1 hv2 hv3 hB ((wd1_3_f (by omega)).symm.trans hdW8) K0 K1

set_option maxRecDepth 100000 in
set_option maxHeartbeats 4000000 in
theorem f_10_1_2 {sc : List Int32} {e : Int} {d u P Q : Nat} {c : ME} {e1 a9 f9 p9 W8 r8 L8 : Int} {B : Int → Int} {Z : AR → Prop} (hI : Iv u e P Q c) (hq0 : (f9 = 0)) (hq1 : (r8 ≥ 0 ∧ r8 ≤ L8 ∧ L8 ≤ 600)) (hv0 : c 1 1 = e1) (hv1 : c 1 2 = a9) (hv2 : c 1 4 = f9) (hv3 : c 1 5 = p9) (hB : ∀ j : Int, c 2 j = B j) (hdW8 : wd1_2 B r8 L8 = W8) (K0 : ∀ c2 : ME, Iv u e P Q c2 → (∀ (a : Nat) (j : Int), ¬ ((a = 1 ∧ j = 2) ∨ (a = 1 ∧ j = 4) ∨ (a = 1 ∧ j = 5)) → c2 a j = c a j) → ((W8 = (-1))) → (c2 1 2 = a9) → (c2 1 4 = 1) → (c2 1 5 = r8) → Z (.inl (some (vi (-1))), Wd P Q P P c2, 0, 0)) (K1 : ∀ c2 : ME, Iv u e P Q c2 → (∀ (a : Nat) (j : Int), ¬ ((a = 1 ∧ j = 2) ∨ (a = 1 ∧ j = 4) ∨ (a = 1 ∧ j = 5)) → c2 a j = c a j) → ((W8 ≥ 0 ∧ W8 ≤ 9)) → (c2 1 2 = L8) → (c2 1 4 = 0) → (c2 1 5 = p9) → Z (.inl (some (vi W8)), Wd P Q P P c2, 0, 0)) : Wp sc (d + 12) 10 52 [(0, .ref 1), (1, .ref (a_SB + 1)), (2, vi r8), (3, vi L8), (4, vi 2), (5, vi 9), (6, vi 9)] [] (Wd P Q P P c) 0 0 Z := by
  have hP := iv_P hI
  have hQ := iv_Q hI
  have h_1 := ir_1_1 hI
  have h_2 := ir_1_2 hI
  have h_3 := ir_1_4 hI
  have h_4 := ir_1_5 hI
  refine q_iload rfl rfl ?_
  refine q_aload_n rfl rfl ?_
  refine v_sln 47 rfl rfl (by omega) (Nat.le_of_ble_eq_true rfl) (by decide) (by decide) ?_
  refine v_ic_gt_f (t := 136) rfl (by decide) (by decide) ?_
  refine q_aload_n rfl rfl ?_
  refine v_cv rfl rfl rfl rfl (by decide) ⟨⟨rfl, rfl⟩, by decide, rfl⟩ (Nat.le_of_ble_eq_true rfl) (Nat.le_of_ble_eq_true rfl) ?_
  refine q_aload_n rfl rfl ?_
  refine v_gi (z := 4) (v := f9) rfl rfl rfl (by decide) rfl rfl (hv2) ?_
  refine v_if_ne_f (t := 11) rfl (by decide) (by omega) ?_
  refine q_iconst rfl ?_
  refine q_goto (t := 12) rfl (by decide) ?_
  refine v_zret rfl rfl (by decide) ?_
  refine bk_inl ?_
  refine v_if_eq_f (t := 136) rfl (by decide) (by decide) ?_
  refine q_iload rfl rfl ?_
  refine q_aload_n rfl rfl ?_
  refine v_sln 47 rfl rfl (by omega) (Nat.le_of_ble_eq_true rfl) (by decide) (by decide) ?_
  refine v_ic_eq_f (t := 88) rfl (by decide) (by decide) ?_
  refine q_aload_n rfl rfl ?_
  refine q_iload rfl rfl ?_
  refine v_sch 99 rfl rfl (by omega) (Nat.le_of_ble_eq_true rfl) (by decide) (by decide) (by decide) ?_
  refine v_bip rfl (by decide) ?_
  refine v_ic_ne_t (t := 130) rfl (by decide) (by decide) ?_
  refine v_iinc (v := 10) rfl rfl (by decide) (by decide) ?_
  refine q_goto (t := 52) rfl (by decide) ?_
  refine q_iload rfl rfl ?_
  refine q_aload_n rfl rfl ?_
  refine v_sln 47 rfl rfl (by omega) (Nat.le_of_ble_eq_true rfl) (by decide) (by decide) ?_
  refine v_ic_gt_f (t := 136) rfl (by decide) (by decide) ?_
  refine q_aload_n rfl rfl ?_
  refine v_cv rfl rfl rfl rfl (by decide) ⟨⟨rfl, rfl⟩, by decide, rfl⟩ (Nat.le_of_ble_eq_true rfl) (Nat.le_of_ble_eq_true rfl) ?_
  refine q_aload_n rfl rfl ?_
  refine v_gi (z := 4) (v := f9) rfl rfl rfl (by decide) rfl rfl (hv2) ?_
  refine v_if_ne_f (t := 11) rfl (by decide) (by omega) ?_
  refine q_iconst rfl ?_
  refine q_goto (t := 12) rfl (by decide) ?_
  refine v_zret rfl rfl (by decide) ?_
  refine bk_inl ?_
  refine v_if_eq_f (t := 136) rfl (by decide) (by decide) ?_
  refine q_iload rfl rfl ?_
  refine q_aload_n rfl rfl ?_
  refine v_sln 47 rfl rfl (by omega) (Nat.le_of_ble_eq_true rfl) (by decide) (by decide) ?_
  refine v_ic_eq_f (t := 88) rfl (by decide) (by decide) ?_
  refine q_aload_n rfl rfl ?_
  refine q_iload rfl rfl ?_
  refine v_sch 111 rfl rfl (by omega) (Nat.le_of_ble_eq_true rfl) (by decide) (by decide) (by decide) ?_
  refine v_bip rfl (by decide) ?_
  refine v_ic_ne_t (t := 130) rfl (by decide) (by decide) ?_
  refine v_iinc (v := 11) rfl rfl (by decide) (by decide) ?_
  refine q_goto (t := 52) rfl (by decide) ?_
  refine q_iload rfl rfl ?_
  refine q_aload_n rfl rfl ?_
  refine v_sln 47 rfl rfl (by omega) (Nat.le_of_ble_eq_true rfl) (by decide) (by decide) ?_
  refine v_ic_gt_f (t := 136) rfl (by decide) (by decide) ?_
  refine q_aload_n rfl rfl ?_
  refine v_cv rfl rfl rfl rfl (by decide) ⟨⟨rfl, rfl⟩, by decide, rfl⟩ (Nat.le_of_ble_eq_true rfl) (Nat.le_of_ble_eq_true rfl) ?_
  refine q_aload_n rfl rfl ?_
  refine v_gi (z := 4) (v := f9) rfl rfl rfl (by decide) rfl rfl (hv2) ?_
  refine v_if_ne_f (t := 11) rfl (by decide) (by omega) ?_
  refine q_iconst rfl ?_
  refine q_goto (t := 12) rfl (by decide) ?_
  refine v_zret rfl rfl (by decide) ?_
  refine bk_inl ?_
  refine v_if_eq_f (t := 136) rfl (by decide) (by decide) ?_
  refine q_iload rfl rfl ?_
  refine q_aload_n rfl rfl ?_
  refine v_sln 47 rfl rfl (by omega) (Nat.le_of_ble_eq_true rfl) (by decide) (by decide) ?_
  refine v_ic_eq_f (t := 88) rfl (by decide) (by decide) ?_
  refine q_aload_n rfl rfl ?_
  refine q_iload rfl rfl ?_
  refine v_sch 97 rfl rfl (by omega) (Nat.le_of_ble_eq_true rfl) (by decide) (by decide) (by decide) ?_
  refine v_bip rfl (by decide) ?_
  refine v_ic_ne_t (t := 130) rfl (by decide) (by decide) ?_
  refine v_iinc (v := 12) rfl rfl (by decide) (by decide) ?_
  refine q_goto (t := 52) rfl (by decide) ?_
  refine q_iload rfl rfl ?_
  refine q_aload_n rfl rfl ?_
  refine v_sln 47 rfl rfl (by omega) (Nat.le_of_ble_eq_true rfl) (by decide) (by decide) ?_
  refine v_ic_gt_f (t := 136) rfl (by decide) (by decide) ?_
  refine q_aload_n rfl rfl ?_
  refine v_cv rfl rfl rfl rfl (by decide) ⟨⟨rfl, rfl⟩, by decide, rfl⟩ (Nat.le_of_ble_eq_true rfl) (Nat.le_of_ble_eq_true rfl) ?_
  refine q_aload_n rfl rfl ?_
  refine v_gi (z := 4) (v := f9) rfl rfl rfl (by decide) rfl rfl (hv2) ?_
  refine v_if_ne_f (t := 11) rfl (by decide) (by omega) ?_
  refine q_iconst rfl ?_
  refine q_goto (t := 12) rfl (by decide) ?_
  refine v_zret rfl rfl (by decide) ?_
  refine bk_inl ?_
  refine v_if_eq_f (t := 136) rfl (by decide) (by decide) ?_
  refine q_iload rfl rfl ?_
  refine q_aload_n rfl rfl ?_
  refine v_sln 47 rfl rfl (by omega) (Nat.le_of_ble_eq_true rfl) (by decide) (by decide) ?_
  refine v_ic_eq_f (t := 88) rfl (by decide) (by decide) ?_
  refine q_aload_n rfl rfl ?_
  refine q_iload rfl rfl ?_
  refine v_sch 114 rfl rfl (by omega) (Nat.le_of_ble_eq_true rfl) (by decide) (by decide) (by decide) ?_
  refine v_bip rfl (by decide) ?_
  refine v_ic_ne_t (t := 130) rfl (by decide) (by decide) ?_
  refine v_iinc (v := 13) rfl rfl (by decide) (by decide) ?_
  refine q_goto (t := 52) rfl (by decide) ?_
  refine q_iload rfl rfl ?_
  refine q_aload_n rfl rfl ?_
  refine v_sln 47 rfl rfl (by omega) (Nat.le_of_ble_eq_true rfl) (by decide) (by decide) ?_
  refine v_ic_gt_f (t := 136) rfl (by decide) (by decide) ?_
  refine q_aload_n rfl rfl ?_
  refine v_cv rfl rfl rfl rfl (by decide) ⟨⟨rfl, rfl⟩, by decide, rfl⟩ (Nat.le_of_ble_eq_true rfl) (Nat.le_of_ble_eq_true rfl) ?_
  refine q_aload_n rfl rfl ?_
  refine v_gi (z := 4) (v := f9) rfl rfl rfl (by decide) rfl rfl (hv2) ?_
  refine v_if_ne_f (t := 11) rfl (by decide) (by omega) ?_
  refine q_iconst rfl ?_
  refine q_goto (t := 12) rfl (by decide) ?_
  refine v_zret rfl rfl (by decide) ?_
  refine bk_inl ?_
  refine v_if_eq_f (t := 136) rfl (by decide) (by decide) ?_
  refine q_iload rfl rfl ?_
  refine q_aload_n rfl rfl ?_
  refine v_sln 47 rfl rfl (by omega) (Nat.le_of_ble_eq_true rfl) (by decide) (by decide) ?_
  refine v_ic_eq_f (t := 88) rfl (by decide) (by decide) ?_
  refine q_aload_n rfl rfl ?_
  refine q_iload rfl rfl ?_
  refine v_sch 115 rfl rfl (by omega) (Nat.le_of_ble_eq_true rfl) (by decide) (by decide) (by decide) ?_
  refine v_bip rfl (by decide) ?_
  refine v_ic_ne_t (t := 130) rfl (by decide) (by decide) ?_
  refine v_iinc (v := 14) rfl rfl (by decide) (by decide) ?_
  refine Wp_ls [(6, vi 14), (0, .ref 1), (1, .ref (a_SB + 1)), (2, vi r8), (3, vi L8), (4, vi 2), (5, vi 9)] (lsub_cons rfl (lsub_cons rfl (lsub_cons rfl (lsub_cons rfl (lsub_cons rfl (lsub_cons rfl (lsub_cons rfl lsub_nil))))))) ?_
  refine q_goto (t := 52) rfl (by decide) ?_
  refine q_iload rfl rfl ?_
  refine q_aload_n rfl rfl ?_
  refine v_sln 47 rfl rfl (by omega) (Nat.le_of_ble_eq_true rfl) (by decide) (by decide) ?_
  refine v_ic_gt_f (t := 136) rfl (by decide) (by decide) ?_
  refine q_aload_n rfl rfl ?_
  refine v_cv rfl rfl rfl rfl (by decide) ⟨⟨rfl, rfl⟩, by decide, rfl⟩ (Nat.le_of_ble_eq_true rfl) (Nat.le_of_ble_eq_true rfl) ?_
  refine q_aload_n rfl rfl ?_
  refine v_gi (z := 4) (v := f9) rfl rfl rfl (by decide) rfl rfl (hv2) ?_
  refine v_if_ne_f (t := 11) rfl (by decide) (by omega) ?_
  refine q_iconst rfl ?_
  refine q_goto (t := 12) rfl (by decide) ?_
  refine v_zret rfl rfl (by decide) ?_
  refine bk_inl ?_
  refine v_if_eq_f (t := 136) rfl (by decide) (by decide) ?_
  refine q_iload rfl rfl ?_
  refine q_aload_n rfl rfl ?_
  refine v_sln 47 rfl rfl (by omega) (Nat.le_of_ble_eq_true rfl) (by decide) (by decide) ?_
  refine v_ic_eq_f (t := 88) rfl (by decide) (by decide) ?_
  refine q_aload_n rfl rfl ?_
  refine q_iload rfl rfl ?_
  refine v_sch 101 rfl rfl (by omega) (Nat.le_of_ble_eq_true rfl) (by decide) (by decide) (by decide) ?_
  refine v_bip rfl (by decide) ?_
  refine v_ic_ne_t (t := 130) rfl (by decide) (by decide) ?_
  refine v_iinc (v := 15) rfl rfl (by decide) (by decide) ?_
  refine q_goto (t := 52) rfl (by decide) ?_
  refine q_iload rfl rfl ?_
  refine q_aload_n rfl rfl ?_
  refine v_sln 47 rfl rfl (by omega) (Nat.le_of_ble_eq_true rfl) (by decide) (by decide) ?_
  refine v_ic_gt_f (t := 136) rfl (by decide) (by decide) ?_
  refine q_aload_n rfl rfl ?_
  refine v_cv rfl rfl rfl rfl (by decide) ⟨⟨rfl, rfl⟩, by decide, rfl⟩ (Nat.le_of_ble_eq_true rfl) (Nat.le_of_ble_eq_true rfl) ?_
  refine q_aload_n rfl rfl ?_
  refine v_gi (z := 4) (v := f9) rfl rfl rfl (by decide) rfl rfl (hv2) ?_
  refine v_if_ne_f (t := 11) rfl (by decide) (by omega) ?_
  refine q_iconst rfl ?_
  refine q_goto (t := 12) rfl (by decide) ?_
  refine v_zret rfl rfl (by decide) ?_
  refine bk_inl ?_
  refine v_if_eq_f (t := 136) rfl (by decide) (by decide) ?_
  refine q_iload rfl rfl ?_
  refine q_aload_n rfl rfl ?_
  refine v_sln 47 rfl rfl (by omega) (Nat.le_of_ble_eq_true rfl) (by decide) (by decide) ?_
  refine v_ic_eq_f (t := 88) rfl (by decide) (by decide) ?_
  refine q_aload_n rfl rfl ?_
  refine q_iload rfl rfl ?_
  refine v_sch 32 rfl rfl (by omega) (Nat.le_of_ble_eq_true rfl) (by decide) (by decide) (by decide) ?_
  refine v_bip rfl (by decide) ?_
  refine v_ic_ne_f (t := 130) rfl (by decide) (by decide) ?_
  refine q_iload rfl rfl ?_
  refine q_iload rfl rfl ?_
  refine v_isub (v := 6) rfl (by decide) ?_
  refine q_iload_n rfl rfl ?_
  refine q_iload_n rfl rfl ?_
  refine v_isub (v := L8 - r8) rfl rfl ?_
  by_cases h_5 : 6 ≠ L8 - r8
  · refine v_ic_ne_t (t := 121) rfl (by decide) ⟨h_5, ⟨by decide, by decide⟩, by omega, by omega⟩ ?_
    refine v_iinc (v := 3) rfl rfl (by decide) (by decide) ?_
    refine q_iload rfl rfl ?_
    refine q_iconst rfl ?_
    refine v_iadd (v := 16) rfl (by decide) ?_
    refine q_istore rfl (by decide) ?_
    refine v_iinc (v := 16) rfl rfl (by decide) (by decide) ?_
    refine q_goto (t := 52) rfl (by decide) ?_
    refine Wp_ls [(0, .ref 1), (1, .ref (a_SB + 1)), (2, vi r8), (3, vi L8), (4, vi 3), (5, vi 16), (6, vi 16)] (lsub_cons rfl (lsub_cons rfl (lsub_cons rfl (lsub_cons rfl (lsub_cons rfl (lsub_cons rfl (lsub_cons rfl lsub_nil))))))) ?_
    exact f_10_1_3 (d := d) (r8 := r8) (L8 := L8) (W8 := W8) hI hq0 hq1 hv0 hv1 hv2 hv3 hB ((wd1_2_f (by omega)).symm.trans hdW8) K0 K1
  · refine v_ic_ne_f (t := 121) rfl (by decide) (Decidable.not_not.mp h_5) ?_
    refine q_aload_n rfl rfl ?_
    refine q_aload_n rfl rfl ?_
    refine q_iload rfl rfl ?_
    refine q_iload_n rfl rfl ?_
    refine q_iload_n rfl rfl ?_
    refine q_iload_n rfl rfl ?_
    refine v_isub (v := L8 - r8) rfl rfl ?_
    refine v_cv rfl rfl rfl rfl (by decide) ⟨⟨rfl, rfl⟩, by decide, rfl⟩ (Nat.le_of_ble_eq_true rfl) (Nat.le_of_ble_eq_true rfl) ?_
    refine q_iconst rfl ?_
    refine q_istore rfl (by decide) ?_
    refine q_iload rfl rfl ?_
    refine q_iload rfl rfl ?_
    refine v_ic_ge_f (t := 38) rfl (by decide) (by omega) ?_
    refine q_aload_n rfl rfl ?_
    refine q_iload_n rfl rfl ?_
    refine q_iload rfl rfl ?_
    refine v_iadd (v := 9) rfl (by decide) ?_
    refine v_sch 99 rfl rfl (by omega) (Nat.le_of_ble_eq_true rfl) (by decide) (by decide) (by decide) ?_
    refine q_aload_n rfl rfl ?_
    refine v_gr (t := 2) rfl rfl rfl (by decide) rfl ?_
    refine q_iload_n rfl rfl ?_
    refine q_iload rfl rfl ?_
    refine v_iadd (v := r8) rfl (by omega) ?_
    have h_6 : -2147483648 ≤ (B r8) ∧ (B r8) ≤ 2147483647 := by rw [← hB r8]; exact ir_2 hI r8
    refine v_ba (v := (B r8)) rfl rfl (by decide) (by decide) (by omega) (hB r8) ?_
    by_cases h_7 : 99 = (B r8)
    · refine v_ic_eq_t (t := 32) rfl (by decide) h_7 ?_
      refine v_iinc (v := 1) rfl rfl (by decide) (by decide) ?_
      refine q_goto (t := 3) rfl (by decide) ?_
      refine q_iload rfl rfl ?_
      refine q_iload rfl rfl ?_
      refine v_ic_ge_f (t := 38) rfl (by decide) (by omega) ?_
      refine q_aload_n rfl rfl ?_
      refine q_iload_n rfl rfl ?_
      refine q_iload rfl rfl ?_
      refine v_iadd (v := 10) rfl (by decide) ?_
      refine v_sch 111 rfl rfl (by omega) (Nat.le_of_ble_eq_true rfl) (by decide) (by decide) (by decide) ?_
      refine q_aload_n rfl rfl ?_
      refine v_gr (t := 2) rfl rfl rfl (by decide) rfl ?_
      refine q_iload_n rfl rfl ?_
      refine q_iload rfl rfl ?_
      refine v_iadd (v := r8 + 1) rfl rfl ?_
      have h_8 : -2147483648 ≤ (B (r8 + 1)) ∧ (B (r8 + 1)) ≤ 2147483647 := by rw [← hB (r8 + 1)]; exact ir_2 hI (r8 + 1)
      refine v_ba (v := (B (r8 + 1))) rfl rfl (by decide) (by decide) (by omega) (hB (r8 + 1)) ?_
      by_cases h_9 : 111 = (B (r8 + 1))
      · refine v_ic_eq_t (t := 32) rfl (by decide) h_9 ?_
        refine v_iinc (v := 2) rfl rfl (by decide) (by decide) ?_
        refine q_goto (t := 3) rfl (by decide) ?_
        refine q_iload rfl rfl ?_
        refine q_iload rfl rfl ?_
        refine v_ic_ge_f (t := 38) rfl (by decide) (by omega) ?_
        refine q_aload_n rfl rfl ?_
        refine q_iload_n rfl rfl ?_
        refine q_iload rfl rfl ?_
        refine v_iadd (v := 11) rfl (by decide) ?_
        refine v_sch 97 rfl rfl (by omega) (Nat.le_of_ble_eq_true rfl) (by decide) (by decide) (by decide) ?_
        refine q_aload_n rfl rfl ?_
        refine v_gr (t := 2) rfl rfl rfl (by decide) rfl ?_
        refine q_iload_n rfl rfl ?_
        refine q_iload rfl rfl ?_
        refine v_iadd (v := r8 + 2) rfl rfl ?_
        have h_10 : -2147483648 ≤ (B (r8 + 2)) ∧ (B (r8 + 2)) ≤ 2147483647 := by rw [← hB (r8 + 2)]; exact ir_2 hI (r8 + 2)
        refine v_ba (v := (B (r8 + 2))) rfl rfl (by decide) (by decide) (by omega) (hB (r8 + 2)) ?_
        by_cases h_11 : 97 = (B (r8 + 2))
        · refine v_ic_eq_t (t := 32) rfl (by decide) h_11 ?_
          refine v_iinc (v := 3) rfl rfl (by decide) (by decide) ?_
          refine q_goto (t := 3) rfl (by decide) ?_
          refine q_iload rfl rfl ?_
          refine q_iload rfl rfl ?_
          refine v_ic_ge_f (t := 38) rfl (by decide) (by omega) ?_
          refine q_aload_n rfl rfl ?_
          refine q_iload_n rfl rfl ?_
          refine q_iload rfl rfl ?_
          refine v_iadd (v := 12) rfl (by decide) ?_
          refine v_sch 114 rfl rfl (by omega) (Nat.le_of_ble_eq_true rfl) (by decide) (by decide) (by decide) ?_
          refine q_aload_n rfl rfl ?_
          refine v_gr (t := 2) rfl rfl rfl (by decide) rfl ?_
          refine q_iload_n rfl rfl ?_
          refine q_iload rfl rfl ?_
          refine v_iadd (v := r8 + 3) rfl rfl ?_
          have h_12 : -2147483648 ≤ (B (r8 + 3)) ∧ (B (r8 + 3)) ≤ 2147483647 := by rw [← hB (r8 + 3)]; exact ir_2 hI (r8 + 3)
          refine v_ba (v := (B (r8 + 3))) rfl rfl (by decide) (by decide) (by omega) (hB (r8 + 3)) ?_
          by_cases h_13 : 114 = (B (r8 + 3))
          · refine v_ic_eq_t (t := 32) rfl (by decide) h_13 ?_
            refine v_iinc (v := 4) rfl rfl (by decide) (by decide) ?_
            refine Wp_ls [(5, vi 4), (0, .ref 1), (1, .ref (a_SB + 1)), (2, vi 9), (3, vi r8), (4, vi (L8 - r8))] (lsub_cons rfl (lsub_cons rfl (lsub_cons rfl (lsub_cons rfl (lsub_cons rfl (lsub_cons rfl lsub_nil)))))) ?_
            refine q_goto (t := 3) rfl (by decide) ?_
            refine q_iload rfl rfl ?_
            refine q_iload rfl rfl ?_
            refine v_ic_ge_f (t := 38) rfl (by decide) (by omega) ?_
            refine q_aload_n rfl rfl ?_
            refine q_iload_n rfl rfl ?_
            refine q_iload rfl rfl ?_
            refine v_iadd (v := 13) rfl (by decide) ?_
            refine v_sch 115 rfl rfl (by omega) (Nat.le_of_ble_eq_true rfl) (by decide) (by decide) (by decide) ?_
            refine q_aload_n rfl rfl ?_
            refine v_gr (t := 2) rfl rfl rfl (by decide) rfl ?_
            refine q_iload_n rfl rfl ?_
            refine q_iload rfl rfl ?_
            refine v_iadd (v := r8 + 4) rfl rfl ?_
            have h_14 : -2147483648 ≤ (B (r8 + 4)) ∧ (B (r8 + 4)) ≤ 2147483647 := by rw [← hB (r8 + 4)]; exact ir_2 hI (r8 + 4)
            refine v_ba (v := (B (r8 + 4))) rfl rfl (by decide) (by decide) (by omega) (hB (r8 + 4)) ?_
            by_cases h_15 : 115 = (B (r8 + 4))
            · refine v_ic_eq_t (t := 32) rfl (by decide) h_15 ?_
              refine v_iinc (v := 5) rfl rfl (by decide) (by decide) ?_
              refine q_goto (t := 3) rfl (by decide) ?_
              refine q_iload rfl rfl ?_
              refine q_iload rfl rfl ?_
              refine v_ic_ge_f (t := 38) rfl (by decide) ⟨by decide, by first | (clear h_1 h_2 h_3 h_4 h_6 h_7 h_8 h_9 h_10 h_11 h_12 h_13 h_14 h_15; omega) | omega, by first | (clear h_1 h_2 h_3 h_4 h_6 h_7 h_8 h_9 h_10 h_11 h_12 h_13 h_14 h_15; omega) | omega⟩ ?_
              refine q_aload_n rfl rfl ?_
              refine q_iload_n rfl rfl ?_
              refine q_iload rfl rfl ?_
              refine v_iadd (v := 14) rfl (by decide) ?_
              refine v_sch 101 rfl rfl (by omega) (Nat.le_of_ble_eq_true rfl) (by decide) (by decide) (by decide) ?_
              refine q_aload_n rfl rfl ?_
              refine v_gr (t := 2) rfl rfl rfl (by decide) rfl ?_
              refine q_iload_n rfl rfl ?_
              refine q_iload rfl rfl ?_
              refine v_iadd (v := r8 + 5) rfl rfl ?_
              have h_16 : -2147483648 ≤ (B (r8 + 5)) ∧ (B (r8 + 5)) ≤ 2147483647 := by rw [← hB (r8 + 5)]; exact ir_2 hI (r8 + 5)
              refine v_ba (v := (B (r8 + 5))) rfl rfl (by decide) (by decide) (by omega) (hB (r8 + 5)) ?_
              by_cases h_17 : 101 = (B (r8 + 5))
              · refine v_ic_eq_t (t := 32) rfl (by decide) h_17 ?_
                refine v_iinc (v := 6) rfl rfl (by decide) (by decide) ?_
                refine q_goto (t := 3) rfl (by decide) ?_
                refine q_iload rfl rfl ?_
                refine q_iload rfl rfl ?_
                refine v_ic_ge_t (t := 38) rfl (by decide) ⟨by first | (clear h_1 h_2 h_3 h_4 h_6 h_7 h_8 h_9 h_10 h_11 h_12 h_13 h_14 h_15 h_16 h_17; omega) | omega, by first | (clear h_1 h_2 h_3 h_4 h_6 h_7 h_8 h_9 h_10 h_11 h_12 h_13 h_14 h_15 h_16 h_17; omega) | omega, by decide⟩ ?_
                refine q_iconst rfl ?_
                refine v_zret rfl rfl (by decide) ?_
                refine bk_inl ?_
                refine v_if_eq_f (t := 121) rfl (by decide) (by decide) ?_
                refine q_aload_n rfl rfl ?_
                refine q_iload_n rfl rfl ?_
                refine v_pi (z := 2) rfl rfl rfl (by decide) rfl rfl rfl (by decide) ?_
                refine q_iload rfl rfl ?_
                refine q_iret rfl rfl ?_
                have hw9 : W8 = 2 := hdW8.symm.trans (wd1_2_t (by omega))
                have hI_18 := iw_1_2 (v := L8) hI ⟨by first | (clear h_1 h_2 h_3 h_4 h_6 h_7 h_8 h_9 h_10 h_11 h_12 h_13 h_14 h_15 h_16 h_17 hw9; omega) | omega, by first | (clear h_1 h_2 h_3 h_4 h_6 h_7 h_8 h_9 h_10 h_11 h_12 h_13 h_14 h_15 h_16 h_17 hw9; omega) | omega⟩
                have h_19 : (up c 1 2 L8) 1 2 = L8 := (up_e rfl)
                have h_20 : (up c 1 2 L8) 1 4 = f9 := ((up_n (by decide)).trans (hv2))
                have h_21 : (up c 1 2 L8) 1 5 = p9 := ((up_n (by decide)).trans (hv3))
                exact zv (by omega) (K1 (up c 1 2 L8) hI_18 (fun a j hm => up_b (Decidable.or_iff_not_imp_left.mpr (fun h1 h2 => hm (Or.inl ⟨Decidable.not_not.mp h1, h2⟩)))) (by omega) (by omega) (by omega) (by omega))
              · refine v_ic_eq_f (t := 32) rfl (by decide) ⟨h_17, ⟨by decide, by decide⟩, by first | (clear h_1 h_2 h_3 h_4 h_6 h_7 h_8 h_9 h_10 h_11 h_12 h_13 h_14 h_15; omega) | omega, by first | (clear h_1 h_2 h_3 h_4 h_6 h_7 h_8 h_9 h_10 h_11 h_12 h_13 h_14 h_15; omega) | omega⟩ ?_
                refine q_iconst rfl ?_
                refine v_zret rfl rfl (by decide) ?_
                refine bk_inl ?_
                refine v_if_eq_t (t := 121) rfl (by decide) (by decide) ?_
                refine v_iinc (v := 3) rfl rfl (by decide) (by decide) ?_
                refine q_iload rfl rfl ?_
                refine q_iconst rfl ?_
                refine v_iadd (v := 16) rfl (by decide) ?_
                refine q_istore rfl (by decide) ?_
                refine v_iinc (v := 16) rfl rfl (by decide) (by decide) ?_
                refine q_goto (t := 52) rfl (by decide) ?_
                refine Wp_ls [(0, .ref 1), (1, .ref (a_SB + 1)), (2, vi r8), (3, vi L8), (4, vi 3), (5, vi 16), (6, vi 16)] (lsub_cons rfl (lsub_cons rfl (lsub_cons rfl (lsub_cons rfl (lsub_cons rfl (lsub_cons rfl (lsub_cons rfl lsub_nil))))))) ?_
                exact f_10_1_3 (d := d) (r8 := r8) (L8 := L8) (W8 := W8) hI hq0 hq1 hv0 hv1 hv2 hv3 hB ((wd1_2_f (by omega)).symm.trans hdW8) K0 K1
            · refine v_ic_eq_f (t := 32) rfl (by decide) ⟨h_15, ⟨by decide, by decide⟩, by omega, by omega⟩ ?_
              refine q_iconst rfl ?_
              refine v_zret rfl rfl (by decide) ?_
              refine bk_inl ?_
              refine v_if_eq_t (t := 121) rfl (by decide) (by decide) ?_
              refine v_iinc (v := 3) rfl rfl (by decide) (by decide) ?_
              refine q_iload rfl rfl ?_
              refine q_iconst rfl ?_
              refine v_iadd (v := 16) rfl (by decide) ?_
              refine q_istore rfl (by decide) ?_
              refine v_iinc (v := 16) rfl rfl (by decide) (by decide) ?_
              refine q_goto (t := 52) rfl (by decide) ?_
              refine Wp_ls [(0, .ref 1), (1, .ref (a_SB + 1)), (2, vi r8), (3, vi L8), (4, vi 3), (5, vi 16), (6, vi 16)] (lsub_cons rfl (lsub_cons rfl (lsub_cons rfl (lsub_cons rfl (lsub_cons rfl (lsub_cons rfl (lsub_cons rfl lsub_nil))))))) ?_
              exact f_10_1_3 (d := d) (r8 := r8) (L8 := L8) (W8 := W8) hI hq0 hq1 hv0 hv1 hv2 hv3 hB ((wd1_2_f (by omega)).symm.trans hdW8) K0 K1
          · refine v_ic_eq_f (t := 32) rfl (by decide) ⟨h_13, ⟨by decide, by decide⟩, by omega, by omega⟩ ?_
            refine q_iconst rfl ?_
            refine v_zret rfl rfl (by decide) ?_
            refine bk_inl ?_
            refine v_if_eq_t (t := 121) rfl (by decide) (by decide) ?_
            refine v_iinc (v := 3) rfl rfl (by decide) (by decide) ?_
            refine q_iload rfl rfl ?_
            refine q_iconst rfl ?_
            refine v_iadd (v := 16) rfl (by decide) ?_
            refine q_istore rfl (by decide) ?_
            refine v_iinc (v := 16) rfl rfl (by decide) (by decide) ?_
            refine q_goto (t := 52) rfl (by decide) ?_
            refine Wp_ls [(0, .ref 1), (1, .ref (a_SB + 1)), (2, vi r8), (3, vi L8), (4, vi 3), (5, vi 16), (6, vi 16)] (lsub_cons rfl (lsub_cons rfl (lsub_cons rfl (lsub_cons rfl (lsub_cons rfl (lsub_cons rfl (lsub_cons rfl lsub_nil))))))) ?_
            exact f_10_1_3 (d := d) (r8 := r8) (L8 := L8) (W8 := W8) hI hq0 hq1 hv0 hv1 hv2 hv3 hB ((wd1_2_f (by omega)).symm.trans hdW8) K0 K1
        · refine v_ic_eq_f (t := 32) rfl (by decide) ⟨h_11, ⟨by decide, by decide⟩, by omega, by omega⟩ ?_
          refine q_iconst rfl ?_
          refine v_zret rfl rfl (by decide) ?_
          refine bk_inl ?_
          refine v_if_eq_t (t := 121) rfl (by decide) (by decide) ?_
          refine v_iinc (v := 3) rfl rfl (by decide) (by decide) ?_
          refine q_iload rfl rfl ?_
          refine q_iconst rfl ?_
          refine v_iadd (v := 16) rfl (by decide) ?_
          refine q_istore rfl (by decide) ?_
          refine v_iinc (v := 16) rfl rfl (by decide) (by decide) ?_
          refine q_goto (t := 52) rfl (by decide) ?_
          refine Wp_ls [(0, .ref 1), (1, .ref (a_SB + 1)), (2, vi r8), (3, vi L8), (4, vi 3), (5, vi 16), (6, vi 16)] (lsub_cons rfl (lsub_cons rfl (lsub_cons rfl (lsub_cons rfl (lsub_cons rfl (lsub_cons rfl (lsub_cons rfl lsub_nil))))))) ?_
          exact f_10_1_3 (d := d) (r8 := r8) (L8 := L8) (W8 := W8) hI hq0 hq1 hv0 hv1 hv2 hv3 hB ((wd1_2_f (by omega)).symm.trans hdW8) K0 K1
      · refine v_ic_eq_f (t := 32) rfl (by decide) ⟨h_9, ⟨by decide, by decide⟩, by omega, by omega⟩ ?_
        refine q_iconst rfl ?_
        refine v_zret rfl rfl (by decide) ?_
        refine bk_inl ?_
        refine v_if_eq_t (t := 121) rfl (by decide) (by decide) ?_
        refine v_iinc (v := 3) rfl rfl (by decide) (by decide) ?_
        refine q_iload rfl rfl ?_
        refine q_iconst rfl ?_
        refine v_iadd (v := 16) rfl (by decide) ?_
        refine q_istore rfl (by decide) ?_
        refine v_iinc (v := 16) rfl rfl (by decide) (by decide) ?_
        refine q_goto (t := 52) rfl (by decide) ?_
        refine Wp_ls [(0, .ref 1), (1, .ref (a_SB + 1)), (2, vi r8), (3, vi L8), (4, vi 3), (5, vi 16), (6, vi 16)] (lsub_cons rfl (lsub_cons rfl (lsub_cons rfl (lsub_cons rfl (lsub_cons rfl (lsub_cons rfl (lsub_cons rfl lsub_nil))))))) ?_
        exact f_10_1_3 (d := d) (r8 := r8) (L8 := L8) (W8 := W8) hI hq0 hq1 hv0 hv1 hv2 hv3 hB ((wd1_2_f (by omega)).symm.trans hdW8) K0 K1
    · refine v_ic_eq_f (t := 32) rfl (by decide) ⟨h_7, ⟨by decide, by decide⟩, by omega, by omega⟩ ?_
      refine q_iconst rfl ?_
      refine v_zret rfl rfl (by decide) ?_
      refine bk_inl ?_
      refine v_if_eq_t (t := 121) rfl (by decide) (by decide) ?_
      refine v_iinc (v := 3) rfl rfl (by decide) (by decide) ?_
      refine q_iload rfl rfl ?_
      refine q_iconst rfl ?_
      refine v_iadd (v := 16) rfl (by decide) ?_
      refine q_istore rfl (by decide) ?_
      refine v_iinc (v := 16) rfl rfl (by decide) (by decide) ?_
      refine q_goto (t := 52) rfl (by decide) ?_
      refine Wp_ls [(0, .ref 1), (1, .ref (a_SB + 1)), (2, vi r8), (3, vi L8), (4, vi 3), (5, vi 16), (6, vi 16)] (lsub_cons rfl (lsub_cons rfl (lsub_cons rfl (lsub_cons rfl (lsub_cons rfl (lsub_cons rfl (lsub_cons rfl lsub_nil))))))) ?_
      exact f_10_1_3 (d := d) (r8 := r8) (L8 := L8) (W8 := W8) hI hq0 hq1 hv0 hv1 hv2 hv3 hB ((wd1_2_f (by omega)).symm.trans hdW8) K0 K1

set_option maxRecDepth 100000 in
set_option maxHeartbeats 4000000 in
theorem f_10_1_1 {sc : List Int32} {e : Int} {d u P Q : Nat} {c : ME} {e1 a9 f9 p9 W8 r8 L8 : Int} {B : Int → Int} {Z : AR → Prop} (hI : Iv u e P Q c) (hq0 : (f9 = 0)) (hq1 : (r8 ≥ 0 ∧ r8 ≤ L8 ∧ L8 ≤ 600)) (hv0 : c 1 1 = e1) (hv1 : c 1 2 = a9) (hv2 : c 1 4 = f9) (hv3 : c 1 5 = p9) (hB : ∀ j : Int, c 2 j = B j) (hdW8 : wd1_1 B r8 L8 = W8) (K0 : ∀ c2 : ME, Iv u e P Q c2 → (∀ (a : Nat) (j : Int), ¬ ((a = 1 ∧ j = 2) ∨ (a = 1 ∧ j = 4) ∨ (a = 1 ∧ j = 5)) → c2 a j = c a j) → ((W8 = (-1))) → (c2 1 2 = a9) → (c2 1 4 = 1) → (c2 1 5 = r8) → Z (.inl (some (vi (-1))), Wd P Q P P c2, 0, 0)) (K1 : ∀ c2 : ME, Iv u e P Q c2 → (∀ (a : Nat) (j : Int), ¬ ((a = 1 ∧ j = 2) ∨ (a = 1 ∧ j = 4) ∨ (a = 1 ∧ j = 5)) → c2 a j = c a j) → ((W8 ≥ 0 ∧ W8 ≤ 9)) → (c2 1 2 = L8) → (c2 1 4 = 0) → (c2 1 5 = p9) → Z (.inl (some (vi W8)), Wd P Q P P c2, 0, 0)) : Wp sc (d + 12) 10 52 [(0, .ref 1), (1, .ref (a_SB + 1)), (2, vi r8), (3, vi L8), (4, vi 1), (5, vi 5), (6, vi 5)] [] (Wd P Q P P c) 0 0 Z := by
  have hP := iv_P hI
  have hQ := iv_Q hI
  have h_1 := ir_1_1 hI
  have h_2 := ir_1_2 hI
  have h_3 := ir_1_4 hI
  have h_4 := ir_1_5 hI
  refine q_iload rfl rfl ?_
  refine q_aload_n rfl rfl ?_
  refine v_sln 47 rfl rfl (by omega) (Nat.le_of_ble_eq_true rfl) (by decide) (by decide) ?_
  refine v_ic_gt_f (t := 136) rfl (by decide) (by decide) ?_
  refine q_aload_n rfl rfl ?_
  refine v_cv rfl rfl rfl rfl (by decide) ⟨⟨rfl, rfl⟩, by decide, rfl⟩ (Nat.le_of_ble_eq_true rfl) (Nat.le_of_ble_eq_true rfl) ?_
  refine q_aload_n rfl rfl ?_
  refine v_gi (z := 4) (v := f9) rfl rfl rfl (by decide) rfl rfl (hv2) ?_
  refine v_if_ne_f (t := 11) rfl (by decide) (by omega) ?_
  refine q_iconst rfl ?_
  refine q_goto (t := 12) rfl (by decide) ?_
  refine v_zret rfl rfl (by decide) ?_
  refine bk_inl ?_
  refine v_if_eq_f (t := 136) rfl (by decide) (by decide) ?_
  refine q_iload rfl rfl ?_
  refine q_aload_n rfl rfl ?_
  refine v_sln 47 rfl rfl (by omega) (Nat.le_of_ble_eq_true rfl) (by decide) (by decide) ?_
  refine v_ic_eq_f (t := 88) rfl (by decide) (by decide) ?_
  refine q_aload_n rfl rfl ?_
  refine q_iload rfl rfl ?_
  refine v_sch 109 rfl rfl (by omega) (Nat.le_of_ble_eq_true rfl) (by decide) (by decide) (by decide) ?_
  refine v_bip rfl (by decide) ?_
  refine v_ic_ne_t (t := 130) rfl (by decide) (by decide) ?_
  refine v_iinc (v := 6) rfl rfl (by decide) (by decide) ?_
  refine q_goto (t := 52) rfl (by decide) ?_
  refine q_iload rfl rfl ?_
  refine q_aload_n rfl rfl ?_
  refine v_sln 47 rfl rfl (by omega) (Nat.le_of_ble_eq_true rfl) (by decide) (by decide) ?_
  refine v_ic_gt_f (t := 136) rfl (by decide) (by decide) ?_
  refine q_aload_n rfl rfl ?_
  refine v_cv rfl rfl rfl rfl (by decide) ⟨⟨rfl, rfl⟩, by decide, rfl⟩ (Nat.le_of_ble_eq_true rfl) (Nat.le_of_ble_eq_true rfl) ?_
  refine q_aload_n rfl rfl ?_
  refine v_gi (z := 4) (v := f9) rfl rfl rfl (by decide) rfl rfl (hv2) ?_
  refine v_if_ne_f (t := 11) rfl (by decide) (by omega) ?_
  refine q_iconst rfl ?_
  refine q_goto (t := 12) rfl (by decide) ?_
  refine v_zret rfl rfl (by decide) ?_
  refine bk_inl ?_
  refine v_if_eq_f (t := 136) rfl (by decide) (by decide) ?_
  refine q_iload rfl rfl ?_
  refine q_aload_n rfl rfl ?_
  refine v_sln 47 rfl rfl (by omega) (Nat.le_of_ble_eq_true rfl) (by decide) (by decide) ?_
  refine v_ic_eq_f (t := 88) rfl (by decide) (by decide) ?_
  refine q_aload_n rfl rfl ?_
  refine q_iload rfl rfl ?_
  refine v_sch 105 rfl rfl (by omega) (Nat.le_of_ble_eq_true rfl) (by decide) (by decide) (by decide) ?_
  refine v_bip rfl (by decide) ?_
  refine v_ic_ne_t (t := 130) rfl (by decide) (by decide) ?_
  refine v_iinc (v := 7) rfl rfl (by decide) (by decide) ?_
  refine q_goto (t := 52) rfl (by decide) ?_
  refine q_iload rfl rfl ?_
  refine q_aload_n rfl rfl ?_
  refine v_sln 47 rfl rfl (by omega) (Nat.le_of_ble_eq_true rfl) (by decide) (by decide) ?_
  refine v_ic_gt_f (t := 136) rfl (by decide) (by decide) ?_
  refine q_aload_n rfl rfl ?_
  refine v_cv rfl rfl rfl rfl (by decide) ⟨⟨rfl, rfl⟩, by decide, rfl⟩ (Nat.le_of_ble_eq_true rfl) (Nat.le_of_ble_eq_true rfl) ?_
  refine q_aload_n rfl rfl ?_
  refine v_gi (z := 4) (v := f9) rfl rfl rfl (by decide) rfl rfl (hv2) ?_
  refine v_if_ne_f (t := 11) rfl (by decide) (by omega) ?_
  refine q_iconst rfl ?_
  refine q_goto (t := 12) rfl (by decide) ?_
  refine v_zret rfl rfl (by decide) ?_
  refine bk_inl ?_
  refine v_if_eq_f (t := 136) rfl (by decide) (by decide) ?_
  refine q_iload rfl rfl ?_
  refine q_aload_n rfl rfl ?_
  refine v_sln 47 rfl rfl (by omega) (Nat.le_of_ble_eq_true rfl) (by decide) (by decide) ?_
  refine v_ic_eq_f (t := 88) rfl (by decide) (by decide) ?_
  refine q_aload_n rfl rfl ?_
  refine q_iload rfl rfl ?_
  refine v_sch 100 rfl rfl (by omega) (Nat.le_of_ble_eq_true rfl) (by decide) (by decide) (by decide) ?_
  refine v_bip rfl (by decide) ?_
  refine v_ic_ne_t (t := 130) rfl (by decide) (by decide) ?_
  refine v_iinc (v := 8) rfl rfl (by decide) (by decide) ?_
  refine q_goto (t := 52) rfl (by decide) ?_
  refine q_iload rfl rfl ?_
  refine q_aload_n rfl rfl ?_
  refine v_sln 47 rfl rfl (by omega) (Nat.le_of_ble_eq_true rfl) (by decide) (by decide) ?_
  refine v_ic_gt_f (t := 136) rfl (by decide) (by decide) ?_
  refine q_aload_n rfl rfl ?_
  refine v_cv rfl rfl rfl rfl (by decide) ⟨⟨rfl, rfl⟩, by decide, rfl⟩ (Nat.le_of_ble_eq_true rfl) (Nat.le_of_ble_eq_true rfl) ?_
  refine q_aload_n rfl rfl ?_
  refine v_gi (z := 4) (v := f9) rfl rfl rfl (by decide) rfl rfl (hv2) ?_
  refine v_if_ne_f (t := 11) rfl (by decide) (by omega) ?_
  refine q_iconst rfl ?_
  refine q_goto (t := 12) rfl (by decide) ?_
  refine v_zret rfl rfl (by decide) ?_
  refine bk_inl ?_
  refine v_if_eq_f (t := 136) rfl (by decide) (by decide) ?_
  refine q_iload rfl rfl ?_
  refine q_aload_n rfl rfl ?_
  refine v_sln 47 rfl rfl (by omega) (Nat.le_of_ble_eq_true rfl) (by decide) (by decide) ?_
  refine v_ic_eq_f (t := 88) rfl (by decide) (by decide) ?_
  refine q_aload_n rfl rfl ?_
  refine q_iload rfl rfl ?_
  refine v_sch 32 rfl rfl (by omega) (Nat.le_of_ble_eq_true rfl) (by decide) (by decide) (by decide) ?_
  refine v_bip rfl (by decide) ?_
  refine v_ic_ne_f (t := 130) rfl (by decide) (by decide) ?_
  refine q_iload rfl rfl ?_
  refine q_iload rfl rfl ?_
  refine v_isub (v := 3) rfl (by decide) ?_
  refine q_iload_n rfl rfl ?_
  refine q_iload_n rfl rfl ?_
  refine v_isub (v := L8 - r8) rfl rfl ?_
  by_cases h_5 : 3 ≠ L8 - r8
  · refine v_ic_ne_t (t := 121) rfl (by decide) ⟨h_5, ⟨by decide, by decide⟩, by omega, by omega⟩ ?_
    refine v_iinc (v := 2) rfl rfl (by decide) (by decide) ?_
    refine q_iload rfl rfl ?_
    refine q_iconst rfl ?_
    refine v_iadd (v := 9) rfl (by decide) ?_
    refine q_istore rfl (by decide) ?_
    refine Wp_ls [(5, vi 9), (4, vi 2), (6, vi 8), (0, .ref 1), (1, .ref (a_SB + 1)), (2, vi r8), (3, vi L8)] (lsub_cons rfl (lsub_cons rfl (lsub_cons rfl (lsub_cons rfl (lsub_cons rfl (lsub_cons rfl (lsub_cons rfl lsub_nil))))))) ?_
    refine v_iinc (v := 9) rfl rfl (by decide) (by decide) ?_
    refine q_goto (t := 52) rfl (by decide) ?_
    refine Wp_ls [(0, .ref 1), (1, .ref (a_SB + 1)), (2, vi r8), (3, vi L8), (4, vi 2), (5, vi 9), (6, vi 9)] (lsub_cons rfl (lsub_cons rfl (lsub_cons rfl (lsub_cons rfl (lsub_cons rfl (lsub_cons rfl (lsub_cons rfl lsub_nil))))))) ?_
    exact f_10_1_2 (d := d) (r8 := r8) (L8 := L8) (W8 := W8) hI hq0 hq1 hv0 hv1 hv2 hv3 hB ((wd1_1_f (by omega)).symm.trans hdW8) K0 K1
  · refine v_ic_ne_f (t := 121) rfl (by decide) (Decidable.not_not.mp h_5) ?_
    refine q_aload_n rfl rfl ?_
    refine q_aload_n rfl rfl ?_
    refine q_iload rfl rfl ?_
    refine q_iload_n rfl rfl ?_
    refine q_iload_n rfl rfl ?_
    refine q_iload_n rfl rfl ?_
    refine v_isub (v := L8 - r8) rfl rfl ?_
    refine v_cv rfl rfl rfl rfl (by decide) ⟨⟨rfl, rfl⟩, by decide, rfl⟩ (Nat.le_of_ble_eq_true rfl) (Nat.le_of_ble_eq_true rfl) ?_
    refine q_iconst rfl ?_
    refine q_istore rfl (by decide) ?_
    refine q_iload rfl rfl ?_
    refine q_iload rfl rfl ?_
    refine v_ic_ge_f (t := 38) rfl (by decide) (by omega) ?_
    refine q_aload_n rfl rfl ?_
    refine q_iload_n rfl rfl ?_
    refine q_iload rfl rfl ?_
    refine v_iadd (v := 5) rfl (by decide) ?_
    refine v_sch 109 rfl rfl (by omega) (Nat.le_of_ble_eq_true rfl) (by decide) (by decide) (by decide) ?_
    refine q_aload_n rfl rfl ?_
    refine v_gr (t := 2) rfl rfl rfl (by decide) rfl ?_
    refine q_iload_n rfl rfl ?_
    refine q_iload rfl rfl ?_
    refine v_iadd (v := r8) rfl (by omega) ?_
    have h_6 : -2147483648 ≤ (B r8) ∧ (B r8) ≤ 2147483647 := by rw [← hB r8]; exact ir_2 hI r8
    refine v_ba (v := (B r8)) rfl rfl (by decide) (by decide) (by omega) (hB r8) ?_
    by_cases h_7 : 109 = (B r8)
    · refine v_ic_eq_t (t := 32) rfl (by decide) h_7 ?_
      refine v_iinc (v := 1) rfl rfl (by decide) (by decide) ?_
      refine q_goto (t := 3) rfl (by decide) ?_
      refine q_iload rfl rfl ?_
      refine q_iload rfl rfl ?_
      refine v_ic_ge_f (t := 38) rfl (by decide) (by omega) ?_
      refine q_aload_n rfl rfl ?_
      refine q_iload_n rfl rfl ?_
      refine q_iload rfl rfl ?_
      refine v_iadd (v := 6) rfl (by decide) ?_
      refine v_sch 105 rfl rfl (by omega) (Nat.le_of_ble_eq_true rfl) (by decide) (by decide) (by decide) ?_
      refine q_aload_n rfl rfl ?_
      refine v_gr (t := 2) rfl rfl rfl (by decide) rfl ?_
      refine q_iload_n rfl rfl ?_
      refine q_iload rfl rfl ?_
      refine v_iadd (v := r8 + 1) rfl rfl ?_
      have h_8 : -2147483648 ≤ (B (r8 + 1)) ∧ (B (r8 + 1)) ≤ 2147483647 := by rw [← hB (r8 + 1)]; exact ir_2 hI (r8 + 1)
      refine v_ba (v := (B (r8 + 1))) rfl rfl (by decide) (by decide) (by omega) (hB (r8 + 1)) ?_
      by_cases h_9 : 105 = (B (r8 + 1))
      · refine v_ic_eq_t (t := 32) rfl (by decide) h_9 ?_
        refine v_iinc (v := 2) rfl rfl (by decide) (by decide) ?_
        refine q_goto (t := 3) rfl (by decide) ?_
        refine q_iload rfl rfl ?_
        refine q_iload rfl rfl ?_
        refine v_ic_ge_f (t := 38) rfl (by decide) (by omega) ?_
        refine q_aload_n rfl rfl ?_
        refine q_iload_n rfl rfl ?_
        refine q_iload rfl rfl ?_
        refine v_iadd (v := 7) rfl (by decide) ?_
        refine v_sch 100 rfl rfl (by omega) (Nat.le_of_ble_eq_true rfl) (by decide) (by decide) (by decide) ?_
        refine q_aload_n rfl rfl ?_
        refine v_gr (t := 2) rfl rfl rfl (by decide) rfl ?_
        refine q_iload_n rfl rfl ?_
        refine q_iload rfl rfl ?_
        refine v_iadd (v := r8 + 2) rfl rfl ?_
        have h_10 : -2147483648 ≤ (B (r8 + 2)) ∧ (B (r8 + 2)) ≤ 2147483647 := by rw [← hB (r8 + 2)]; exact ir_2 hI (r8 + 2)
        refine v_ba (v := (B (r8 + 2))) rfl rfl (by decide) (by decide) (by omega) (hB (r8 + 2)) ?_
        by_cases h_11 : 100 = (B (r8 + 2))
        · refine v_ic_eq_t (t := 32) rfl (by decide) h_11 ?_
          refine v_iinc (v := 3) rfl rfl (by decide) (by decide) ?_
          refine q_goto (t := 3) rfl (by decide) ?_
          refine q_iload rfl rfl ?_
          refine q_iload rfl rfl ?_
          refine v_ic_ge_t (t := 38) rfl (by decide) (by omega) ?_
          refine q_iconst rfl ?_
          refine v_zret rfl rfl (by decide) ?_
          refine bk_inl ?_
          refine v_if_eq_f (t := 121) rfl (by decide) (by decide) ?_
          refine q_aload_n rfl rfl ?_
          refine q_iload_n rfl rfl ?_
          refine v_pi (z := 2) rfl rfl rfl (by decide) rfl rfl rfl (by decide) ?_
          refine q_iload rfl rfl ?_
          refine q_iret rfl rfl ?_
          have hw9 : W8 = 1 := hdW8.symm.trans (wd1_1_t (by omega))
          have hI_12 := iw_1_2 (v := L8) hI ⟨by omega, by omega⟩
          have h_13 : (up c 1 2 L8) 1 2 = L8 := (up_e rfl)
          have h_14 : (up c 1 2 L8) 1 4 = f9 := ((up_n (by decide)).trans (hv2))
          have h_15 : (up c 1 2 L8) 1 5 = p9 := ((up_n (by decide)).trans (hv3))
          exact zv (by omega) (K1 (up c 1 2 L8) hI_12 (fun a j hm => up_b (Decidable.or_iff_not_imp_left.mpr (fun h1 h2 => hm (Or.inl ⟨Decidable.not_not.mp h1, h2⟩)))) (by omega) (by omega) (by omega) (by omega))
        · refine v_ic_eq_f (t := 32) rfl (by decide) ⟨h_11, ⟨by decide, by decide⟩, by omega, by omega⟩ ?_
          refine q_iconst rfl ?_
          refine v_zret rfl rfl (by decide) ?_
          refine bk_inl ?_
          refine v_if_eq_t (t := 121) rfl (by decide) (by decide) ?_
          refine v_iinc (v := 2) rfl rfl (by decide) (by decide) ?_
          refine q_iload rfl rfl ?_
          refine q_iconst rfl ?_
          refine v_iadd (v := 9) rfl (by decide) ?_
          refine q_istore rfl (by decide) ?_
          refine Wp_ls [(5, vi 9), (4, vi 2), (6, vi 8), (0, .ref 1), (1, .ref (a_SB + 1)), (2, vi r8), (3, vi L8)] (lsub_cons rfl (lsub_cons rfl (lsub_cons rfl (lsub_cons rfl (lsub_cons rfl (lsub_cons rfl (lsub_cons rfl lsub_nil))))))) ?_
          refine v_iinc (v := 9) rfl rfl (by decide) (by decide) ?_
          refine q_goto (t := 52) rfl (by decide) ?_
          refine Wp_ls [(0, .ref 1), (1, .ref (a_SB + 1)), (2, vi r8), (3, vi L8), (4, vi 2), (5, vi 9), (6, vi 9)] (lsub_cons rfl (lsub_cons rfl (lsub_cons rfl (lsub_cons rfl (lsub_cons rfl (lsub_cons rfl (lsub_cons rfl lsub_nil))))))) ?_
          exact f_10_1_2 (d := d) (r8 := r8) (L8 := L8) (W8 := W8) hI hq0 hq1 hv0 hv1 hv2 hv3 hB ((wd1_1_f (by omega)).symm.trans hdW8) K0 K1
      · refine v_ic_eq_f (t := 32) rfl (by decide) ⟨h_9, ⟨by decide, by decide⟩, by omega, by omega⟩ ?_
        refine q_iconst rfl ?_
        refine v_zret rfl rfl (by decide) ?_
        refine bk_inl ?_
        refine v_if_eq_t (t := 121) rfl (by decide) (by decide) ?_
        refine v_iinc (v := 2) rfl rfl (by decide) (by decide) ?_
        refine q_iload rfl rfl ?_
        refine q_iconst rfl ?_
        refine v_iadd (v := 9) rfl (by decide) ?_
        refine q_istore rfl (by decide) ?_
        refine Wp_ls [(5, vi 9), (4, vi 2), (6, vi 8), (0, .ref 1), (1, .ref (a_SB + 1)), (2, vi r8), (3, vi L8)] (lsub_cons rfl (lsub_cons rfl (lsub_cons rfl (lsub_cons rfl (lsub_cons rfl (lsub_cons rfl (lsub_cons rfl lsub_nil))))))) ?_
        refine v_iinc (v := 9) rfl rfl (by decide) (by decide) ?_
        refine q_goto (t := 52) rfl (by decide) ?_
        refine Wp_ls [(0, .ref 1), (1, .ref (a_SB + 1)), (2, vi r8), (3, vi L8), (4, vi 2), (5, vi 9), (6, vi 9)] (lsub_cons rfl (lsub_cons rfl (lsub_cons rfl (lsub_cons rfl (lsub_cons rfl (lsub_cons rfl (lsub_cons rfl lsub_nil))))))) ?_
        exact f_10_1_2 (d := d) (r8 := r8) (L8 := L8) (W8 := W8) hI hq0 hq1 hv0 hv1 hv2 hv3 hB ((wd1_1_f (by omega)).symm.trans hdW8) K0 K1
    · refine v_ic_eq_f (t := 32) rfl (by decide) ⟨h_7, ⟨by decide, by decide⟩, by omega, by omega⟩ ?_
      refine q_iconst rfl ?_
      refine v_zret rfl rfl (by decide) ?_
      refine bk_inl ?_
      refine v_if_eq_t (t := 121) rfl (by decide) (by decide) ?_
      refine v_iinc (v := 2) rfl rfl (by decide) (by decide) ?_
      refine q_iload rfl rfl ?_
      refine q_iconst rfl ?_
      refine v_iadd (v := 9) rfl (by decide) ?_
      refine q_istore rfl (by decide) ?_
      refine Wp_ls [(5, vi 9), (4, vi 2), (6, vi 8), (0, .ref 1), (1, .ref (a_SB + 1)), (2, vi r8), (3, vi L8)] (lsub_cons rfl (lsub_cons rfl (lsub_cons rfl (lsub_cons rfl (lsub_cons rfl (lsub_cons rfl (lsub_cons rfl lsub_nil))))))) ?_
      refine v_iinc (v := 9) rfl rfl (by decide) (by decide) ?_
      refine q_goto (t := 52) rfl (by decide) ?_
      refine Wp_ls [(0, .ref 1), (1, .ref (a_SB + 1)), (2, vi r8), (3, vi L8), (4, vi 2), (5, vi 9), (6, vi 9)] (lsub_cons rfl (lsub_cons rfl (lsub_cons rfl (lsub_cons rfl (lsub_cons rfl (lsub_cons rfl (lsub_cons rfl lsub_nil))))))) ?_
      exact f_10_1_2 (d := d) (r8 := r8) (L8 := L8) (W8 := W8) hI hq0 hq1 hv0 hv1 hv2 hv3 hB ((wd1_1_f (by omega)).symm.trans hdW8) K0 K1

set_option maxRecDepth 100000 in
set_option maxHeartbeats 4000000 in
theorem f_10_1_0 {sc : List Int32} {e : Int} {d u P Q : Nat} {c : ME} {e1 a9 f9 p9 W8 r8 L8 : Int} {B : Int → Int} {Z : AR → Prop} (hI : Iv u e P Q c) (hq0 : (f9 = 0)) (hq1 : (r8 ≥ 0 ∧ r8 ≤ L8 ∧ L8 ≤ 600)) (hv0 : c 1 1 = e1) (hv1 : c 1 2 = a9) (hv2 : c 1 4 = f9) (hv3 : c 1 5 = p9) (hB : ∀ j : Int, c 2 j = B j) (hdW8 : wd1_0 B r8 L8 = W8) (K0 : ∀ c2 : ME, Iv u e P Q c2 → (∀ (a : Nat) (j : Int), ¬ ((a = 1 ∧ j = 2) ∨ (a = 1 ∧ j = 4) ∨ (a = 1 ∧ j = 5)) → c2 a j = c a j) → ((W8 = (-1))) → (c2 1 2 = a9) → (c2 1 4 = 1) → (c2 1 5 = r8) → Z (.inl (some (vi (-1))), Wd P Q P P c2, 0, 0)) (K1 : ∀ c2 : ME, Iv u e P Q c2 → (∀ (a : Nat) (j : Int), ¬ ((a = 1 ∧ j = 2) ∨ (a = 1 ∧ j = 4) ∨ (a = 1 ∧ j = 5)) → c2 a j = c a j) → ((W8 ≥ 0 ∧ W8 ≤ 9)) → (c2 1 2 = L8) → (c2 1 4 = 0) → (c2 1 5 = p9) → Z (.inl (some (vi W8)), Wd P Q P P c2, 0, 0)) : Wp sc (d + 12) 10 52 [(0, .ref 1), (1, .ref (a_SB + 1)), (2, vi r8), (3, vi L8), (4, vi 0), (5, vi 0), (6, vi 0)] [] (Wd P Q P P c) 0 0 Z := by
  have hP := iv_P hI
  have hQ := iv_Q hI
  have h_1 := ir_1_1 hI
  have h_2 := ir_1_2 hI
  have h_3 := ir_1_4 hI
  have h_4 := ir_1_5 hI
  refine q_iload rfl rfl ?_
  refine q_aload_n rfl rfl ?_
  refine v_sln 47 rfl rfl (by omega) (Nat.le_of_ble_eq_true rfl) (by decide) (by decide) ?_
  refine v_ic_gt_f (t := 136) rfl (by decide) (by decide) ?_
  refine q_aload_n rfl rfl ?_
  refine v_cv rfl rfl rfl rfl (by decide) ⟨⟨rfl, rfl⟩, by decide, rfl⟩ (Nat.le_of_ble_eq_true rfl) (Nat.le_of_ble_eq_true rfl) ?_
  refine q_aload_n rfl rfl ?_
  refine v_gi (z := 4) (v := f9) rfl rfl rfl (by decide) rfl rfl (hv2) ?_
  refine v_if_ne_f (t := 11) rfl (by decide) (by omega) ?_
  refine q_iconst rfl ?_
  refine q_goto (t := 12) rfl (by decide) ?_
  refine v_zret rfl rfl (by decide) ?_
  refine bk_inl ?_
  refine v_if_eq_f (t := 136) rfl (by decide) (by decide) ?_
  refine q_iload rfl rfl ?_
  refine q_aload_n rfl rfl ?_
  refine v_sln 47 rfl rfl (by omega) (Nat.le_of_ble_eq_true rfl) (by decide) (by decide) ?_
  refine v_ic_eq_f (t := 88) rfl (by decide) (by decide) ?_
  refine q_aload_n rfl rfl ?_
  refine q_iload rfl rfl ?_
  refine v_sch 102 rfl rfl (by omega) (Nat.le_of_ble_eq_true rfl) (by decide) (by decide) (by decide) ?_
  refine v_bip rfl (by decide) ?_
  refine v_ic_ne_t (t := 130) rfl (by decide) (by decide) ?_
  refine v_iinc (v := 1) rfl rfl (by decide) (by decide) ?_
  refine q_goto (t := 52) rfl (by decide) ?_
  refine q_iload rfl rfl ?_
  refine q_aload_n rfl rfl ?_
  refine v_sln 47 rfl rfl (by omega) (Nat.le_of_ble_eq_true rfl) (by decide) (by decide) ?_
  refine v_ic_gt_f (t := 136) rfl (by decide) (by decide) ?_
  refine q_aload_n rfl rfl ?_
  refine v_cv rfl rfl rfl rfl (by decide) ⟨⟨rfl, rfl⟩, by decide, rfl⟩ (Nat.le_of_ble_eq_true rfl) (Nat.le_of_ble_eq_true rfl) ?_
  refine q_aload_n rfl rfl ?_
  refine v_gi (z := 4) (v := f9) rfl rfl rfl (by decide) rfl rfl (hv2) ?_
  refine v_if_ne_f (t := 11) rfl (by decide) (by omega) ?_
  refine q_iconst rfl ?_
  refine q_goto (t := 12) rfl (by decide) ?_
  refine v_zret rfl rfl (by decide) ?_
  refine bk_inl ?_
  refine v_if_eq_f (t := 136) rfl (by decide) (by decide) ?_
  refine q_iload rfl rfl ?_
  refine q_aload_n rfl rfl ?_
  refine v_sln 47 rfl rfl (by omega) (Nat.le_of_ble_eq_true rfl) (by decide) (by decide) ?_
  refine v_ic_eq_f (t := 88) rfl (by decide) (by decide) ?_
  refine q_aload_n rfl rfl ?_
  refine q_iload rfl rfl ?_
  refine v_sch 105 rfl rfl (by omega) (Nat.le_of_ble_eq_true rfl) (by decide) (by decide) (by decide) ?_
  refine v_bip rfl (by decide) ?_
  refine v_ic_ne_t (t := 130) rfl (by decide) (by decide) ?_
  refine v_iinc (v := 2) rfl rfl (by decide) (by decide) ?_
  refine q_goto (t := 52) rfl (by decide) ?_
  refine q_iload rfl rfl ?_
  refine q_aload_n rfl rfl ?_
  refine v_sln 47 rfl rfl (by omega) (Nat.le_of_ble_eq_true rfl) (by decide) (by decide) ?_
  refine v_ic_gt_f (t := 136) rfl (by decide) (by decide) ?_
  refine q_aload_n rfl rfl ?_
  refine v_cv rfl rfl rfl rfl (by decide) ⟨⟨rfl, rfl⟩, by decide, rfl⟩ (Nat.le_of_ble_eq_true rfl) (Nat.le_of_ble_eq_true rfl) ?_
  refine q_aload_n rfl rfl ?_
  refine v_gi (z := 4) (v := f9) rfl rfl rfl (by decide) rfl rfl (hv2) ?_
  refine v_if_ne_f (t := 11) rfl (by decide) (by omega) ?_
  refine q_iconst rfl ?_
  refine q_goto (t := 12) rfl (by decide) ?_
  refine v_zret rfl rfl (by decide) ?_
  refine bk_inl ?_
  refine v_if_eq_f (t := 136) rfl (by decide) (by decide) ?_
  refine q_iload rfl rfl ?_
  refine q_aload_n rfl rfl ?_
  refine v_sln 47 rfl rfl (by omega) (Nat.le_of_ble_eq_true rfl) (by decide) (by decide) ?_
  refine v_ic_eq_f (t := 88) rfl (by decide) (by decide) ?_
  refine q_aload_n rfl rfl ?_
  refine q_iload rfl rfl ?_
  refine v_sch 110 rfl rfl (by omega) (Nat.le_of_ble_eq_true rfl) (by decide) (by decide) (by decide) ?_
  refine v_bip rfl (by decide) ?_
  refine v_ic_ne_t (t := 130) rfl (by decide) (by decide) ?_
  refine v_iinc (v := 3) rfl rfl (by decide) (by decide) ?_
  refine q_goto (t := 52) rfl (by decide) ?_
  refine q_iload rfl rfl ?_
  refine q_aload_n rfl rfl ?_
  refine v_sln 47 rfl rfl (by omega) (Nat.le_of_ble_eq_true rfl) (by decide) (by decide) ?_
  refine v_ic_gt_f (t := 136) rfl (by decide) (by decide) ?_
  refine q_aload_n rfl rfl ?_
  refine v_cv rfl rfl rfl rfl (by decide) ⟨⟨rfl, rfl⟩, by decide, rfl⟩ (Nat.le_of_ble_eq_true rfl) (Nat.le_of_ble_eq_true rfl) ?_
  refine q_aload_n rfl rfl ?_
  refine v_gi (z := 4) (v := f9) rfl rfl rfl (by decide) rfl rfl (hv2) ?_
  refine v_if_ne_f (t := 11) rfl (by decide) (by omega) ?_
  refine q_iconst rfl ?_
  refine q_goto (t := 12) rfl (by decide) ?_
  refine v_zret rfl rfl (by decide) ?_
  refine bk_inl ?_
  refine v_if_eq_f (t := 136) rfl (by decide) (by decide) ?_
  refine q_iload rfl rfl ?_
  refine q_aload_n rfl rfl ?_
  refine v_sln 47 rfl rfl (by omega) (Nat.le_of_ble_eq_true rfl) (by decide) (by decide) ?_
  refine v_ic_eq_f (t := 88) rfl (by decide) (by decide) ?_
  refine q_aload_n rfl rfl ?_
  refine q_iload rfl rfl ?_
  refine v_sch 101 rfl rfl (by omega) (Nat.le_of_ble_eq_true rfl) (by decide) (by decide) (by decide) ?_
  refine v_bip rfl (by decide) ?_
  refine v_ic_ne_t (t := 130) rfl (by decide) (by decide) ?_
  refine v_iinc (v := 4) rfl rfl (by decide) (by decide) ?_
  refine q_goto (t := 52) rfl (by decide) ?_
  refine q_iload rfl rfl ?_
  refine q_aload_n rfl rfl ?_
  refine v_sln 47 rfl rfl (by omega) (Nat.le_of_ble_eq_true rfl) (by decide) (by decide) ?_
  refine v_ic_gt_f (t := 136) rfl (by decide) (by decide) ?_
  refine q_aload_n rfl rfl ?_
  refine v_cv rfl rfl rfl rfl (by decide) ⟨⟨rfl, rfl⟩, by decide, rfl⟩ (Nat.le_of_ble_eq_true rfl) (Nat.le_of_ble_eq_true rfl) ?_
  refine q_aload_n rfl rfl ?_
  refine v_gi (z := 4) (v := f9) rfl rfl rfl (by decide) rfl rfl (hv2) ?_
  refine v_if_ne_f (t := 11) rfl (by decide) (by omega) ?_
  refine q_iconst rfl ?_
  refine q_goto (t := 12) rfl (by decide) ?_
  refine v_zret rfl rfl (by decide) ?_
  refine bk_inl ?_
  refine v_if_eq_f (t := 136) rfl (by decide) (by decide) ?_
  refine q_iload rfl rfl ?_
  refine q_aload_n rfl rfl ?_
  refine v_sln 47 rfl rfl (by omega) (Nat.le_of_ble_eq_true rfl) (by decide) (by decide) ?_
  refine v_ic_eq_f (t := 88) rfl (by decide) (by decide) ?_
  refine q_aload_n rfl rfl ?_
  refine q_iload rfl rfl ?_
  refine v_sch 32 rfl rfl (by omega) (Nat.le_of_ble_eq_true rfl) (by decide) (by decide) (by decide) ?_
  refine v_bip rfl (by decide) ?_
  refine v_ic_ne_f (t := 130) rfl (by decide) (by decide) ?_
  refine q_iload rfl rfl ?_
  refine q_iload rfl rfl ?_
  refine v_isub (v := 4) rfl (by decide) ?_
  refine q_iload_n rfl rfl ?_
  refine q_iload_n rfl rfl ?_
  refine v_isub (v := L8 - r8) rfl rfl ?_
  by_cases h_5 : 4 ≠ L8 - r8
  · refine v_ic_ne_t (t := 121) rfl (by decide) ⟨h_5, ⟨by decide, by decide⟩, by omega, by omega⟩ ?_
    refine v_iinc (v := 1) rfl rfl (by decide) (by decide) ?_
    refine Wp_ls [(4, vi 1), (6, vi 4), (0, .ref 1), (1, .ref (a_SB + 1)), (2, vi r8), (3, vi L8), (5, vi 0)] (lsub_cons rfl (lsub_cons rfl (lsub_cons rfl (lsub_cons rfl (lsub_cons rfl (lsub_cons rfl (lsub_cons rfl lsub_nil))))))) ?_
    refine q_iload rfl rfl ?_
    refine q_iconst rfl ?_
    refine v_iadd (v := 5) rfl (by decide) ?_
    refine q_istore rfl (by decide) ?_
    refine v_iinc (v := 5) rfl rfl (by decide) (by decide) ?_
    refine q_goto (t := 52) rfl (by decide) ?_
    refine Wp_ls [(0, .ref 1), (1, .ref (a_SB + 1)), (2, vi r8), (3, vi L8), (4, vi 1), (5, vi 5), (6, vi 5)] (lsub_cons rfl (lsub_cons rfl (lsub_cons rfl (lsub_cons rfl (lsub_cons rfl (lsub_cons rfl (lsub_cons rfl lsub_nil))))))) ?_
    exact f_10_1_1 (d := d) (r8 := r8) (L8 := L8) (W8 := W8) hI hq0 hq1 hv0 hv1 hv2 hv3 hB ((wd1_0_f (by omega)).symm.trans hdW8) K0 K1
  · refine v_ic_ne_f (t := 121) rfl (by decide) (Decidable.not_not.mp h_5) ?_
    refine q_aload_n rfl rfl ?_
    refine q_aload_n rfl rfl ?_
    refine q_iload rfl rfl ?_
    refine q_iload_n rfl rfl ?_
    refine q_iload_n rfl rfl ?_
    refine q_iload_n rfl rfl ?_
    refine v_isub (v := L8 - r8) rfl rfl ?_
    refine v_cv rfl rfl rfl rfl (by decide) ⟨⟨rfl, rfl⟩, by decide, rfl⟩ (Nat.le_of_ble_eq_true rfl) (Nat.le_of_ble_eq_true rfl) ?_
    refine q_iconst rfl ?_
    refine q_istore rfl (by decide) ?_
    refine q_iload rfl rfl ?_
    refine q_iload rfl rfl ?_
    refine v_ic_ge_f (t := 38) rfl (by decide) (by omega) ?_
    refine q_aload_n rfl rfl ?_
    refine q_iload_n rfl rfl ?_
    refine q_iload rfl rfl ?_
    refine v_iadd (v := 0) rfl (by decide) ?_
    refine v_sch 102 rfl rfl (by omega) (Nat.le_of_ble_eq_true rfl) (by decide) (by decide) (by decide) ?_
    refine q_aload_n rfl rfl ?_
    refine v_gr (t := 2) rfl rfl rfl (by decide) rfl ?_
    refine q_iload_n rfl rfl ?_
    refine q_iload rfl rfl ?_
    refine v_iadd (v := r8) rfl (by omega) ?_
    have h_6 : -2147483648 ≤ (B r8) ∧ (B r8) ≤ 2147483647 := by rw [← hB r8]; exact ir_2 hI r8
    refine v_ba (v := (B r8)) rfl rfl (by decide) (by decide) (by omega) (hB r8) ?_
    by_cases h_7 : 102 = (B r8)
    · refine v_ic_eq_t (t := 32) rfl (by decide) h_7 ?_
      refine v_iinc (v := 1) rfl rfl (by decide) (by decide) ?_
      refine q_goto (t := 3) rfl (by decide) ?_
      refine q_iload rfl rfl ?_
      refine q_iload rfl rfl ?_
      refine v_ic_ge_f (t := 38) rfl (by decide) (by omega) ?_
      refine q_aload_n rfl rfl ?_
      refine q_iload_n rfl rfl ?_
      refine q_iload rfl rfl ?_
      refine v_iadd (v := 1) rfl (by decide) ?_
      refine v_sch 105 rfl rfl (by omega) (Nat.le_of_ble_eq_true rfl) (by decide) (by decide) (by decide) ?_
      refine q_aload_n rfl rfl ?_
      refine v_gr (t := 2) rfl rfl rfl (by decide) rfl ?_
      refine q_iload_n rfl rfl ?_
      refine q_iload rfl rfl ?_
      refine v_iadd (v := r8 + 1) rfl rfl ?_
      have h_8 : -2147483648 ≤ (B (r8 + 1)) ∧ (B (r8 + 1)) ≤ 2147483647 := by rw [← hB (r8 + 1)]; exact ir_2 hI (r8 + 1)
      refine v_ba (v := (B (r8 + 1))) rfl rfl (by decide) (by decide) (by omega) (hB (r8 + 1)) ?_
      by_cases h_9 : 105 = (B (r8 + 1))
      · refine v_ic_eq_t (t := 32) rfl (by decide) h_9 ?_
        refine v_iinc (v := 2) rfl rfl (by decide) (by decide) ?_
        refine q_goto (t := 3) rfl (by decide) ?_
        refine q_iload rfl rfl ?_
        refine q_iload rfl rfl ?_
        refine v_ic_ge_f (t := 38) rfl (by decide) (by omega) ?_
        refine q_aload_n rfl rfl ?_
        refine q_iload_n rfl rfl ?_
        refine q_iload rfl rfl ?_
        refine v_iadd (v := 2) rfl (by decide) ?_
        refine v_sch 110 rfl rfl (by omega) (Nat.le_of_ble_eq_true rfl) (by decide) (by decide) (by decide) ?_
        refine q_aload_n rfl rfl ?_
        refine v_gr (t := 2) rfl rfl rfl (by decide) rfl ?_
        refine q_iload_n rfl rfl ?_
        refine q_iload rfl rfl ?_
        refine v_iadd (v := r8 + 2) rfl rfl ?_
        have h_10 : -2147483648 ≤ (B (r8 + 2)) ∧ (B (r8 + 2)) ≤ 2147483647 := by rw [← hB (r8 + 2)]; exact ir_2 hI (r8 + 2)
        refine v_ba (v := (B (r8 + 2))) rfl rfl (by decide) (by decide) (by omega) (hB (r8 + 2)) ?_
        by_cases h_11 : 110 = (B (r8 + 2))
        · refine v_ic_eq_t (t := 32) rfl (by decide) h_11 ?_
          refine v_iinc (v := 3) rfl rfl (by decide) (by decide) ?_
          refine q_goto (t := 3) rfl (by decide) ?_
          refine q_iload rfl rfl ?_
          refine q_iload rfl rfl ?_
          refine v_ic_ge_f (t := 38) rfl (by decide) (by omega) ?_
          refine q_aload_n rfl rfl ?_
          refine q_iload_n rfl rfl ?_
          refine q_iload rfl rfl ?_
          refine v_iadd (v := 3) rfl (by decide) ?_
          refine v_sch 101 rfl rfl (by omega) (Nat.le_of_ble_eq_true rfl) (by decide) (by decide) (by decide) ?_
          refine q_aload_n rfl rfl ?_
          refine v_gr (t := 2) rfl rfl rfl (by decide) rfl ?_
          refine q_iload_n rfl rfl ?_
          refine q_iload rfl rfl ?_
          refine v_iadd (v := r8 + 3) rfl rfl ?_
          have h_12 : -2147483648 ≤ (B (r8 + 3)) ∧ (B (r8 + 3)) ≤ 2147483647 := by rw [← hB (r8 + 3)]; exact ir_2 hI (r8 + 3)
          refine v_ba (v := (B (r8 + 3))) rfl rfl (by decide) (by decide) (by omega) (hB (r8 + 3)) ?_
          by_cases h_13 : 101 = (B (r8 + 3))
          · refine v_ic_eq_t (t := 32) rfl (by decide) h_13 ?_
            refine v_iinc (v := 4) rfl rfl (by decide) (by decide) ?_
            refine Wp_ls [(5, vi 4), (0, .ref 1), (1, .ref (a_SB + 1)), (2, vi 0), (3, vi r8), (4, vi (L8 - r8))] (lsub_cons rfl (lsub_cons rfl (lsub_cons rfl (lsub_cons rfl (lsub_cons rfl (lsub_cons rfl lsub_nil)))))) ?_
            refine q_goto (t := 3) rfl (by decide) ?_
            refine q_iload rfl rfl ?_
            refine q_iload rfl rfl ?_
            refine v_ic_ge_t (t := 38) rfl (by decide) (by omega) ?_
            refine q_iconst rfl ?_
            refine v_zret rfl rfl (by decide) ?_
            refine bk_inl ?_
            refine v_if_eq_f (t := 121) rfl (by decide) (by decide) ?_
            refine q_aload_n rfl rfl ?_
            refine q_iload_n rfl rfl ?_
            refine v_pi (z := 2) rfl rfl rfl (by decide) rfl rfl rfl (by decide) ?_
            refine q_iload rfl rfl ?_
            refine q_iret rfl rfl ?_
            have hw9 : W8 = 0 := hdW8.symm.trans (wd1_0_t (by omega))
            have hI_14 := iw_1_2 (v := L8) hI ⟨by omega, by omega⟩
            have h_15 : (up c 1 2 L8) 1 2 = L8 := (up_e rfl)
            have h_16 : (up c 1 2 L8) 1 4 = f9 := ((up_n (by decide)).trans (hv2))
            have h_17 : (up c 1 2 L8) 1 5 = p9 := ((up_n (by decide)).trans (hv3))
            exact zv (by omega) (K1 (up c 1 2 L8) hI_14 (fun a j hm => up_b (Decidable.or_iff_not_imp_left.mpr (fun h1 h2 => hm (Or.inl ⟨Decidable.not_not.mp h1, h2⟩)))) (by omega) (by omega) (by omega) (by omega))
          · refine v_ic_eq_f (t := 32) rfl (by decide) ⟨h_13, ⟨by decide, by decide⟩, by omega, by omega⟩ ?_
            refine q_iconst rfl ?_
            refine v_zret rfl rfl (by decide) ?_
            refine bk_inl ?_
            refine v_if_eq_t (t := 121) rfl (by decide) (by decide) ?_
            refine v_iinc (v := 1) rfl rfl (by decide) (by decide) ?_
            refine Wp_ls [(4, vi 1), (6, vi 4), (0, .ref 1), (1, .ref (a_SB + 1)), (2, vi r8), (3, vi L8), (5, vi 0)] (lsub_cons rfl (lsub_cons rfl (lsub_cons rfl (lsub_cons rfl (lsub_cons rfl (lsub_cons rfl (lsub_cons rfl lsub_nil))))))) ?_
            refine q_iload rfl rfl ?_
            refine q_iconst rfl ?_
            refine v_iadd (v := 5) rfl (by decide) ?_
            refine q_istore rfl (by decide) ?_
            refine v_iinc (v := 5) rfl rfl (by decide) (by decide) ?_
            refine q_goto (t := 52) rfl (by decide) ?_
            refine Wp_ls [(0, .ref 1), (1, .ref (a_SB + 1)), (2, vi r8), (3, vi L8), (4, vi 1), (5, vi 5), (6, vi 5)] (lsub_cons rfl (lsub_cons rfl (lsub_cons rfl (lsub_cons rfl (lsub_cons rfl (lsub_cons rfl (lsub_cons rfl lsub_nil))))))) ?_
            exact f_10_1_1 (d := d) (r8 := r8) (L8 := L8) (W8 := W8) hI hq0 hq1 hv0 hv1 hv2 hv3 hB ((wd1_0_f (by omega)).symm.trans hdW8) K0 K1
        · refine v_ic_eq_f (t := 32) rfl (by decide) ⟨h_11, ⟨by decide, by decide⟩, by omega, by omega⟩ ?_
          refine q_iconst rfl ?_
          refine v_zret rfl rfl (by decide) ?_
          refine bk_inl ?_
          refine v_if_eq_t (t := 121) rfl (by decide) (by decide) ?_
          refine v_iinc (v := 1) rfl rfl (by decide) (by decide) ?_
          refine Wp_ls [(4, vi 1), (6, vi 4), (0, .ref 1), (1, .ref (a_SB + 1)), (2, vi r8), (3, vi L8), (5, vi 0)] (lsub_cons rfl (lsub_cons rfl (lsub_cons rfl (lsub_cons rfl (lsub_cons rfl (lsub_cons rfl (lsub_cons rfl lsub_nil))))))) ?_
          refine q_iload rfl rfl ?_
          refine q_iconst rfl ?_
          refine v_iadd (v := 5) rfl (by decide) ?_
          refine q_istore rfl (by decide) ?_
          refine v_iinc (v := 5) rfl rfl (by decide) (by decide) ?_
          refine q_goto (t := 52) rfl (by decide) ?_
          refine Wp_ls [(0, .ref 1), (1, .ref (a_SB + 1)), (2, vi r8), (3, vi L8), (4, vi 1), (5, vi 5), (6, vi 5)] (lsub_cons rfl (lsub_cons rfl (lsub_cons rfl (lsub_cons rfl (lsub_cons rfl (lsub_cons rfl (lsub_cons rfl lsub_nil))))))) ?_
          exact f_10_1_1 (d := d) (r8 := r8) (L8 := L8) (W8 := W8) hI hq0 hq1 hv0 hv1 hv2 hv3 hB ((wd1_0_f (by omega)).symm.trans hdW8) K0 K1
      · refine v_ic_eq_f (t := 32) rfl (by decide) ⟨h_9, ⟨by decide, by decide⟩, by omega, by omega⟩ ?_
        refine q_iconst rfl ?_
        refine v_zret rfl rfl (by decide) ?_
        refine bk_inl ?_
        refine v_if_eq_t (t := 121) rfl (by decide) (by decide) ?_
        refine v_iinc (v := 1) rfl rfl (by decide) (by decide) ?_
        refine Wp_ls [(4, vi 1), (6, vi 4), (0, .ref 1), (1, .ref (a_SB + 1)), (2, vi r8), (3, vi L8), (5, vi 0)] (lsub_cons rfl (lsub_cons rfl (lsub_cons rfl (lsub_cons rfl (lsub_cons rfl (lsub_cons rfl (lsub_cons rfl lsub_nil))))))) ?_
        refine q_iload rfl rfl ?_
        refine q_iconst rfl ?_
        refine v_iadd (v := 5) rfl (by decide) ?_
        refine q_istore rfl (by decide) ?_
        refine v_iinc (v := 5) rfl rfl (by decide) (by decide) ?_
        refine q_goto (t := 52) rfl (by decide) ?_
        refine Wp_ls [(0, .ref 1), (1, .ref (a_SB + 1)), (2, vi r8), (3, vi L8), (4, vi 1), (5, vi 5), (6, vi 5)] (lsub_cons rfl (lsub_cons rfl (lsub_cons rfl (lsub_cons rfl (lsub_cons rfl (lsub_cons rfl (lsub_cons rfl lsub_nil))))))) ?_
        exact f_10_1_1 (d := d) (r8 := r8) (L8 := L8) (W8 := W8) hI hq0 hq1 hv0 hv1 hv2 hv3 hB ((wd1_0_f (by omega)).symm.trans hdW8) K0 K1
    · refine v_ic_eq_f (t := 32) rfl (by decide) ⟨h_7, ⟨by decide, by decide⟩, by omega, by omega⟩ ?_
      refine q_iconst rfl ?_
      refine v_zret rfl rfl (by decide) ?_
      refine bk_inl ?_
      refine v_if_eq_t (t := 121) rfl (by decide) (by decide) ?_
      refine v_iinc (v := 1) rfl rfl (by decide) (by decide) ?_
      refine Wp_ls [(4, vi 1), (6, vi 4), (0, .ref 1), (1, .ref (a_SB + 1)), (2, vi r8), (3, vi L8), (5, vi 0)] (lsub_cons rfl (lsub_cons rfl (lsub_cons rfl (lsub_cons rfl (lsub_cons rfl (lsub_cons rfl (lsub_cons rfl lsub_nil))))))) ?_
      refine q_iload rfl rfl ?_
      refine q_iconst rfl ?_
      refine v_iadd (v := 5) rfl (by decide) ?_
      refine q_istore rfl (by decide) ?_
      refine v_iinc (v := 5) rfl rfl (by decide) (by decide) ?_
      refine q_goto (t := 52) rfl (by decide) ?_
      refine Wp_ls [(0, .ref 1), (1, .ref (a_SB + 1)), (2, vi r8), (3, vi L8), (4, vi 1), (5, vi 5), (6, vi 5)] (lsub_cons rfl (lsub_cons rfl (lsub_cons rfl (lsub_cons rfl (lsub_cons rfl (lsub_cons rfl (lsub_cons rfl lsub_nil))))))) ?_
      exact f_10_1_1 (d := d) (r8 := r8) (L8 := L8) (W8 := W8) hI hq0 hq1 hv0 hv1 hv2 hv3 hB ((wd1_0_f (by omega)).symm.trans hdW8) K0 K1

set_option maxRecDepth 100000 in
set_option maxHeartbeats 4000000 in
theorem f_10_1_l {sc : List Int32} {e : Int} {d u P Q : Nat} {c : ME} {e1 a9 f9 p9 r8 L8 W8 : Int} {B : Int → Int} {Z : AR → Prop} (hI : Iv u e P Q c) (hv0 : c 1 1 = e1) (hv1 : c 1 2 = a9) (hv2 : c 1 4 = f9) (hv3 : c 1 5 = p9) (hB : ∀ j : Int, c 2 j = B j) (hdr8 : nx B e1 a9 = r8) (hdL8 : ln B e1 r8 = L8) (hdW8 : wd1_0 B r8 L8 = W8) (K0 : ∀ c2 : ME, Iv u e P Q c2 → (∀ (a : Nat) (j : Int), ¬ ((a = 1 ∧ j = 2) ∨ (a = 1 ∧ j = 4) ∨ (a = 1 ∧ j = 5)) → c2 a j = c a j) → ((f9 ≠ 0)) → (c2 1 2 = r8) → (c2 1 4 = f9) → (c2 1 5 = p9) → Z (.inl (some (vi (-1))), Wd P Q P P c2, 0, 0)) (K1 : ∀ c2 : ME, Iv u e P Q c2 → (∀ (a : Nat) (j : Int), ¬ ((a = 1 ∧ j = 2) ∨ (a = 1 ∧ j = 4) ∨ (a = 1 ∧ j = 5)) → c2 a j = c a j) → ((f9 = 0)) → ((W8 = (-1))) → (c2 1 2 = r8) → (c2 1 4 = 1) → (c2 1 5 = r8) → Z (.inl (some (vi (-1))), Wd P Q P P c2, 0, 0)) (K2 : ∀ c2 : ME, Iv u e P Q c2 → (∀ (a : Nat) (j : Int), ¬ ((a = 1 ∧ j = 2) ∨ (a = 1 ∧ j = 4) ∨ (a = 1 ∧ j = 5)) → c2 a j = c a j) → ((f9 = 0)) → ((W8 ≥ 0 ∧ W8 ≤ 9)) → (c2 1 2 = L8) → (c2 1 4 = 0) → (c2 1 5 = p9) → Z (.inl (some (vi W8)), Wd P Q P P c2, 0, 0)) : ∀ n : Nat, (∀ (c2 : ME) (v3 : Int), Iv u e P Q c2 → (∀ (a : Nat) (j : Int), ¬ ((a = 1 ∧ j = 2) ∨ (a = 1 ∧ j = 4) ∨ (a = 1 ∧ j = 5)) → c2 a j = c a j) → 0 ≤ v3 ∧ v3 ≤ 600 → (ln B e1 v3 = L8) → ((v3 ≥ r8)) → ((c2 1 2 = r8)) → ((c2 1 4 = f9)) → ((c2 1 5 = p9)) → 600 - v3 < (n : Int) → Wp sc (d + 13) 10 7 [(0, .ref 1), (1, .ref (a_SB + 1)), (2, vi r8), (3, vi v3)] [] (Wd P Q P P c2) 0 0 Z)
  | 0 => by intro c2 v3 hI2 hF hv3 hx0 hx1 hx2 hx3 hx4 hm9; have hP := iv_P hI; have hQ := iv_Q hI; have h_1 := ir_1_1 hI; have h_2 := ir_1_2 hI; have h_3 := ir_1_4 hI; have h_4 := ir_1_5 hI; have h_5 := ir_1_2 hI2; have h_6 := ir_1_4 hI2; have h_7 := ir_1_5 hI2; exfalso; omega
  | n + 1 => by
    have hP := iv_P hI
    have hQ := iv_Q hI
    have ih := f_10_1_l (sc := sc) (d := d) hI hv0 hv1 hv2 hv3 hB hdr8 hdL8 hdW8 K0 K1 K2 n
    intro c2 v3 hI2 hF hv3 hx0 hx1 hx2 hx3 hx4 hm9
    have h_1 := ir_1_1 hI
    have h_2 := ir_1_2 hI
    have h_3 := ir_1_4 hI
    have h_4 := ir_1_5 hI
    have hn1 := nx_bd (b := B) (e := e1) (a := a9)
    rw [hdr8] at hn1
    have hn2 := ln_bd (b := B) (e := e1) (a := r8)
    rw [hdL8] at hn2
    have h_5 := ir_1_2 hI2
    have h_6 := ir_1_4 hI2
    have h_7 := ir_1_5 hI2
    refine q_iload_n rfl rfl ?_
    refine q_aload_n rfl rfl ?_
    have kn_8 : Hid (c2 1 1 = e1) := (hF 1 1 (fun q => q.elim (fun h => absurd h.2 (ni rfl)) (fun q => q.elim (fun h => absurd h.2 (ni rfl)) (fun h => absurd h.2 (ni rfl))))).trans (hv0)
    refine v_gi (z := 1) (v := e1) rfl rfl rfl (by decide) rfl rfl (hid kn_8) ?_
    by_cases h_9 : v3 ≥ e1
    · refine v_ic_ge_t (t := 43) rfl (by decide) ⟨by omega, h_9, (Int.le_trans hv3.2 (by decide))⟩ ?_
      refine q_iconst rfl ?_
      refine q_istore rfl (by decide) ?_
      refine q_iconst rfl ?_
      refine q_istore rfl (by decide) ?_
      refine q_iconst rfl ?_
      refine q_istore rfl (by decide) ?_
      by_cases h_10 : f9 = 0
      · skip
        have hz8 : ln B e1 v3 = v3 := ln_z (by omega)
        have hz9 : v3 = L8 := hz8.symm.trans hx0
        refine Wp_ls [(0, .ref 1), (1, .ref (a_SB + 1)), (2, vi r8), (3, vi L8), (4, vi 0), (5, vi 0), (6, vi 0)] (lsub_cons rfl (lsub_cons rfl (lsub_cons rfl (lsub_cons (congrArg (fun w9 => some (vi w9)) hz9) (lsub_cons rfl (lsub_cons rfl (lsub_cons rfl lsub_nil))))))) ?_
        exact f_10_1_0 (e1 := e1) (a9 := c2 1 2) (f9 := c2 1 4) (p9 := c2 1 5) (r8 := r8) (L8 := L8) (W8 := W8) hI2 (by omega) (by omega) ((hid kn_8)) (rfl) (rfl) (rfl) (fun j => (hF 2 j (fun q => q.elim (fun h => absurd h.1 (nn rfl)) (fun q => q.elim (fun h => absurd h.1 (nn rfl)) (fun h => absurd h.1 (nn rfl))))).trans (hB j)) hdW8 (fun c9 hI9 hF9 x1 z1 z2 z3 => K1 c9 hI9 (fun a j hm => (hF9 a j hm).trans (hF a j (fun q => q.elim (fun h => hm (Or.inl h)) (fun q => q.elim (fun h => hm (Or.inr (Or.inl h))) (fun h => hm (Or.inr (Or.inr h))))))) (by omega) (by omega) (by omega) (by omega) (by omega)) (fun c9 hI9 hF9 x1 z1 z2 z3 => K2 c9 hI9 (fun a j hm => (hF9 a j hm).trans (hF a j (fun q => q.elim (fun h => hm (Or.inl h)) (fun q => q.elim (fun h => hm (Or.inr (Or.inl h))) (fun h => hm (Or.inr (Or.inr h))))))) (by omega) (by omega) (by omega) (by omega) (by omega))
      · skip
        refine q_iload rfl rfl ?_
        refine q_aload_n rfl rfl ?_
        refine v_sln 47 rfl rfl (by omega) (Nat.le_of_ble_eq_true rfl) (by decide) (by decide) ?_
        refine v_ic_gt_f (t := 136) rfl (by decide) (by decide) ?_
        refine q_aload_n rfl rfl ?_
        refine v_cv rfl rfl rfl rfl (by decide) ⟨⟨rfl, rfl⟩, by decide, rfl⟩ (Nat.le_of_ble_eq_true rfl) (Nat.le_of_ble_eq_true rfl) ?_
        refine q_aload_n rfl rfl ?_
        refine v_gi (z := 4) (v := c2 1 4) rfl rfl rfl (by decide) rfl rfl rfl ?_
        refine v_if_ne_t (t := 11) rfl (by decide) ⟨by omega, ⟨(Int.le_trans (by decide) h_6.1), (Int.le_trans h_6.2 (by decide))⟩, by decide, by decide⟩ ?_
        refine q_iconst rfl ?_
        refine v_zret rfl rfl (by decide) ?_
        refine bk_inl ?_
        refine v_if_eq_t (t := 136) rfl (by decide) (by decide) ?_
        refine q_aload_n rfl rfl ?_
        refine q_iconst rfl ?_
        refine q_iload_n rfl rfl ?_
        refine v_cv rfl rfl rfl rfl (by decide) ⟨⟨rfl, rfl⟩, by decide, rfl⟩ (Nat.le_of_ble_eq_true rfl) (Nat.le_of_ble_eq_true rfl) ?_
        refine q_aload_n rfl rfl ?_
        refine v_gi (z := 4) (v := c2 1 4) rfl rfl rfl (by decide) rfl rfl rfl ?_
        refine v_if_ne_t (t := 17) rfl (by decide) ⟨by omega, ⟨(Int.le_trans (by decide) h_6.1), (Int.le_trans h_6.2 (by decide))⟩, by decide, by decide⟩ ?_
        refine q_vret rfl rfl ?_
        refine bk_inl ?_
        refine q_iconst rfl ?_
        refine q_iret rfl rfl ?_
        exact zv (by omega) (K0 c2 hI2 (fun a j hm => hF a j (fun q => q.elim (fun h => hm (Or.inl h)) (fun q => q.elim (fun h => hm (Or.inr (Or.inl h))) (fun h => hm (Or.inr (Or.inr h)))))) (by omega) (by omega) (by omega) (by omega))
    · refine v_ic_ge_f (t := 43) rfl (by decide) ⟨(Int.le_trans (by decide) hv3.1), (Int.not_le.mp h_9), by omega⟩ ?_
      refine q_aload_n rfl rfl ?_
      refine v_gr (t := 2) rfl rfl rfl (by decide) rfl ?_
      refine q_iload_n rfl rfl ?_
      have h_11 : -2147483648 ≤ (B v3) ∧ (B v3) ≤ 2147483647 := by rw [← hB v3]; exact ir_2 hI v3
      have kn_12 : Hid (c2 2 v3 = (B v3)) := (hF 2 v3 (fun q => q.elim (fun h => absurd h.1 (nn rfl)) (fun q => q.elim (fun h => absurd h.1 (nn rfl)) (fun h => absurd h.1 (nn rfl))))).trans (hB v3)
      refine v_ba (v := (B v3)) rfl rfl (by decide) (by decide) (by omega) (hid kn_12) ?_
      refine v_bip rfl (by decide) ?_
      by_cases h_13 : (B v3) < 97
      · refine v_ic_lt_t (t := 43) rfl (by decide) ⟨by omega, h_13, by decide⟩ ?_
        refine q_iconst rfl ?_
        refine q_istore rfl (by decide) ?_
        refine q_iconst rfl ?_
        refine q_istore rfl (by decide) ?_
        refine q_iconst rfl ?_
        refine q_istore rfl (by decide) ?_
        by_cases h_14 : f9 = 0
        · skip
          have hz8 : ln B e1 v3 = v3 := ln_z (by omega)
          have hz9 : v3 = L8 := hz8.symm.trans hx0
          refine Wp_ls [(0, .ref 1), (1, .ref (a_SB + 1)), (2, vi r8), (3, vi L8), (4, vi 0), (5, vi 0), (6, vi 0)] (lsub_cons rfl (lsub_cons rfl (lsub_cons rfl (lsub_cons (congrArg (fun w9 => some (vi w9)) hz9) (lsub_cons rfl (lsub_cons rfl (lsub_cons rfl lsub_nil))))))) ?_
          exact f_10_1_0 (e1 := e1) (a9 := c2 1 2) (f9 := c2 1 4) (p9 := c2 1 5) (r8 := r8) (L8 := L8) (W8 := W8) hI2 (by omega) (by omega) ((hid kn_8)) (rfl) (rfl) (rfl) (fun j => (hF 2 j (fun q => q.elim (fun h => absurd h.1 (nn rfl)) (fun q => q.elim (fun h => absurd h.1 (nn rfl)) (fun h => absurd h.1 (nn rfl))))).trans (hB j)) hdW8 (fun c9 hI9 hF9 x1 z1 z2 z3 => K1 c9 hI9 (fun a j hm => (hF9 a j hm).trans (hF a j (fun q => q.elim (fun h => hm (Or.inl h)) (fun q => q.elim (fun h => hm (Or.inr (Or.inl h))) (fun h => hm (Or.inr (Or.inr h))))))) (by omega) (by omega) (by omega) (by omega) (by omega)) (fun c9 hI9 hF9 x1 z1 z2 z3 => K2 c9 hI9 (fun a j hm => (hF9 a j hm).trans (hF a j (fun q => q.elim (fun h => hm (Or.inl h)) (fun q => q.elim (fun h => hm (Or.inr (Or.inl h))) (fun h => hm (Or.inr (Or.inr h))))))) (by omega) (by omega) (by omega) (by omega) (by omega))
        · skip
          refine q_iload rfl rfl ?_
          refine q_aload_n rfl rfl ?_
          refine v_sln 47 rfl rfl (by omega) (Nat.le_of_ble_eq_true rfl) (by decide) (by decide) ?_
          refine v_ic_gt_f (t := 136) rfl (by decide) (by decide) ?_
          refine q_aload_n rfl rfl ?_
          refine v_cv rfl rfl rfl rfl (by decide) ⟨⟨rfl, rfl⟩, by decide, rfl⟩ (Nat.le_of_ble_eq_true rfl) (Nat.le_of_ble_eq_true rfl) ?_
          refine q_aload_n rfl rfl ?_
          refine v_gi (z := 4) (v := c2 1 4) rfl rfl rfl (by decide) rfl rfl rfl ?_
          refine v_if_ne_t (t := 11) rfl (by decide) ⟨by omega, ⟨(Int.le_trans (by decide) h_6.1), (Int.le_trans h_6.2 (by decide))⟩, by decide, by decide⟩ ?_
          refine q_iconst rfl ?_
          refine v_zret rfl rfl (by decide) ?_
          refine bk_inl ?_
          refine v_if_eq_t (t := 136) rfl (by decide) (by decide) ?_
          refine q_aload_n rfl rfl ?_
          refine q_iconst rfl ?_
          refine q_iload_n rfl rfl ?_
          refine v_cv rfl rfl rfl rfl (by decide) ⟨⟨rfl, rfl⟩, by decide, rfl⟩ (Nat.le_of_ble_eq_true rfl) (Nat.le_of_ble_eq_true rfl) ?_
          refine q_aload_n rfl rfl ?_
          refine v_gi (z := 4) (v := c2 1 4) rfl rfl rfl (by decide) rfl rfl rfl ?_
          refine v_if_ne_t (t := 17) rfl (by decide) ⟨by omega, ⟨(Int.le_trans (by decide) h_6.1), (Int.le_trans h_6.2 (by decide))⟩, by decide, by decide⟩ ?_
          refine q_vret rfl rfl ?_
          refine bk_inl ?_
          refine q_iconst rfl ?_
          refine q_iret rfl rfl ?_
          exact zv (by omega) (K0 c2 hI2 (fun a j hm => hF a j (fun q => q.elim (fun h => hm (Or.inl h)) (fun q => q.elim (fun h => hm (Or.inr (Or.inl h))) (fun h => hm (Or.inr (Or.inr h)))))) (by omega) (by omega) (by omega) (by omega))
      · refine v_ic_lt_f (t := 43) rfl (by decide) ⟨by decide, (Int.not_lt.mp h_13), by omega⟩ ?_
        refine q_aload_n rfl rfl ?_
        refine v_gr (t := 2) rfl rfl rfl (by decide) rfl ?_
        refine q_iload_n rfl rfl ?_
        refine v_ba (v := (B v3)) rfl rfl (by decide) (by decide) (by omega) (hid kn_12) ?_
        refine v_bip rfl (by decide) ?_
        by_cases h_15 : (B v3) > 122
        · refine v_ic_gt_t (t := 43) rfl (by decide) ⟨by decide, h_15, by omega⟩ ?_
          refine q_iconst rfl ?_
          refine q_istore rfl (by decide) ?_
          refine q_iconst rfl ?_
          refine q_istore rfl (by decide) ?_
          refine q_iconst rfl ?_
          refine q_istore rfl (by decide) ?_
          by_cases h_16 : f9 = 0
          · skip
            have hz8 : ln B e1 v3 = v3 := ln_z (by omega)
            have hz9 : v3 = L8 := hz8.symm.trans hx0
            refine Wp_ls [(0, .ref 1), (1, .ref (a_SB + 1)), (2, vi r8), (3, vi L8), (4, vi 0), (5, vi 0), (6, vi 0)] (lsub_cons rfl (lsub_cons rfl (lsub_cons rfl (lsub_cons (congrArg (fun w9 => some (vi w9)) hz9) (lsub_cons rfl (lsub_cons rfl (lsub_cons rfl lsub_nil))))))) ?_
            exact f_10_1_0 (e1 := e1) (a9 := c2 1 2) (f9 := c2 1 4) (p9 := c2 1 5) (r8 := r8) (L8 := L8) (W8 := W8) hI2 (by omega) (by omega) ((hid kn_8)) (rfl) (rfl) (rfl) (fun j => (hF 2 j (fun q => q.elim (fun h => absurd h.1 (nn rfl)) (fun q => q.elim (fun h => absurd h.1 (nn rfl)) (fun h => absurd h.1 (nn rfl))))).trans (hB j)) hdW8 (fun c9 hI9 hF9 x1 z1 z2 z3 => K1 c9 hI9 (fun a j hm => (hF9 a j hm).trans (hF a j (fun q => q.elim (fun h => hm (Or.inl h)) (fun q => q.elim (fun h => hm (Or.inr (Or.inl h))) (fun h => hm (Or.inr (Or.inr h))))))) (by omega) (by omega) (by omega) (by omega) (by omega)) (fun c9 hI9 hF9 x1 z1 z2 z3 => K2 c9 hI9 (fun a j hm => (hF9 a j hm).trans (hF a j (fun q => q.elim (fun h => hm (Or.inl h)) (fun q => q.elim (fun h => hm (Or.inr (Or.inl h))) (fun h => hm (Or.inr (Or.inr h))))))) (by omega) (by omega) (by omega) (by omega) (by omega))
          · skip
            refine q_iload rfl rfl ?_
            refine q_aload_n rfl rfl ?_
            refine v_sln 47 rfl rfl (by omega) (Nat.le_of_ble_eq_true rfl) (by decide) (by decide) ?_
            refine v_ic_gt_f (t := 136) rfl (by decide) (by decide) ?_
            refine q_aload_n rfl rfl ?_
            refine v_cv rfl rfl rfl rfl (by decide) ⟨⟨rfl, rfl⟩, by decide, rfl⟩ (Nat.le_of_ble_eq_true rfl) (Nat.le_of_ble_eq_true rfl) ?_
            refine q_aload_n rfl rfl ?_
            refine v_gi (z := 4) (v := c2 1 4) rfl rfl rfl (by decide) rfl rfl rfl ?_
            refine v_if_ne_t (t := 11) rfl (by decide) ⟨by omega, ⟨(Int.le_trans (by decide) h_6.1), (Int.le_trans h_6.2 (by decide))⟩, by decide, by decide⟩ ?_
            refine q_iconst rfl ?_
            refine v_zret rfl rfl (by decide) ?_
            refine bk_inl ?_
            refine v_if_eq_t (t := 136) rfl (by decide) (by decide) ?_
            refine q_aload_n rfl rfl ?_
            refine q_iconst rfl ?_
            refine q_iload_n rfl rfl ?_
            refine v_cv rfl rfl rfl rfl (by decide) ⟨⟨rfl, rfl⟩, by decide, rfl⟩ (Nat.le_of_ble_eq_true rfl) (Nat.le_of_ble_eq_true rfl) ?_
            refine q_aload_n rfl rfl ?_
            refine v_gi (z := 4) (v := c2 1 4) rfl rfl rfl (by decide) rfl rfl rfl ?_
            refine v_if_ne_t (t := 17) rfl (by decide) ⟨by omega, ⟨(Int.le_trans (by decide) h_6.1), (Int.le_trans h_6.2 (by decide))⟩, by decide, by decide⟩ ?_
            refine q_vret rfl rfl ?_
            refine bk_inl ?_
            refine q_iconst rfl ?_
            refine q_iret rfl rfl ?_
            exact zv (by omega) (K0 c2 hI2 (fun a j hm => hF a j (fun q => q.elim (fun h => hm (Or.inl h)) (fun q => q.elim (fun h => hm (Or.inr (Or.inl h))) (fun h => hm (Or.inr (Or.inr h)))))) (by omega) (by omega) (by omega) (by omega))
        · refine v_ic_gt_f (t := 43) rfl (by decide) ⟨by omega, (Int.not_lt.mp h_15), by decide⟩ ?_
          refine v_iinc (v := v3 + 1) rfl rfl (by decide) rfl ?_
          refine q_goto (t := 7) rfl (by decide) ?_
          refine Wp_ls [(0, .ref 1), (1, .ref (a_SB + 1)), (2, vi r8), (3, vi (v3 + 1))] (lsub_cons rfl (lsub_cons rfl (lsub_cons rfl (lsub_cons rfl lsub_nil)))) ?_
          exact ih c2 (v3 + 1) hI2 (fun a j hm => hF a j (fun q => q.elim (fun h => hm (Or.inl h)) (fun q => q.elim (fun h => hm (Or.inr (Or.inl h))) (fun h => hm (Or.inr (Or.inr h)))))) ⟨by omega, by omega⟩ ((ln_s (by omega)).symm.trans hx0) (by omega) (by omega) (by omega) (by omega) (by omega)
set_option maxRecDepth 100000 in
set_option maxHeartbeats 4000000 in
theorem f_10_1 {sc : List Int32} {e : Int} {d u P Q : Nat} {c : ME} {e1 a9 f9 p9 r8 L8 W8 : Int} {B : Int → Int} {Z : AR → Prop} (hI : Iv u e P Q c) (hv0 : c 1 1 = e1) (hv1 : c 1 2 = a9) (hv2 : c 1 4 = f9) (hv3 : c 1 5 = p9) (hB : ∀ j : Int, c 2 j = B j) (hdr8 : nx B e1 a9 = r8) (hdL8 : ln B e1 r8 = L8) (hdW8 : wd1_0 B r8 L8 = W8) (K0 : ∀ c2 : ME, Iv u e P Q c2 → (∀ (a : Nat) (j : Int), ¬ ((a = 1 ∧ j = 2) ∨ (a = 1 ∧ j = 4) ∨ (a = 1 ∧ j = 5)) → c2 a j = c a j) → ((f9 ≠ 0)) → (c2 1 2 = r8) → (c2 1 4 = f9) → (c2 1 5 = p9) → Z (.inl (some (vi (-1))), Wd P Q P P c2, 0, 0)) (K1 : ∀ c2 : ME, Iv u e P Q c2 → (∀ (a : Nat) (j : Int), ¬ ((a = 1 ∧ j = 2) ∨ (a = 1 ∧ j = 4) ∨ (a = 1 ∧ j = 5)) → c2 a j = c a j) → ((f9 = 0)) → ((W8 = (-1))) → (c2 1 2 = r8) → (c2 1 4 = 1) → (c2 1 5 = r8) → Z (.inl (some (vi (-1))), Wd P Q P P c2, 0, 0)) (K2 : ∀ c2 : ME, Iv u e P Q c2 → (∀ (a : Nat) (j : Int), ¬ ((a = 1 ∧ j = 2) ∨ (a = 1 ∧ j = 4) ∨ (a = 1 ∧ j = 5)) → c2 a j = c a j) → ((f9 = 0)) → ((W8 ≥ 0 ∧ W8 ≤ 9)) → (c2 1 2 = L8) → (c2 1 4 = 0) → (c2 1 5 = p9) → Z (.inl (some (vi W8)), Wd P Q P P c2, 0, 0)) : Wp sc (d + 13) 10 0 [(0, .ref 1), (1, .ref (a_SB + 1))] [] (Wd P Q P P c) 0 0 Z := by
  have hP := iv_P hI
  have hQ := iv_Q hI
  have h_17 := ir_1_1 hI
  have h_18 := ir_1_2 hI
  have h_19 := ir_1_4 hI
  have h_20 := ir_1_5 hI
  have hn1 := nx_bd (b := B) (e := e1) (a := a9)
  rw [hdr8] at hn1
  have hn2 := ln_bd (b := B) (e := e1) (a := r8)
  rw [hdL8] at hn2
  refine q_aload_n rfl rfl ?_
  have h_21 : -2147483648 ≤ (B a9) ∧ (B a9) ≤ 2147483647 := by rw [← hB a9]; exact ir_2 hI a9
  refine v_cv rfl rfl rfl rfl (by decide) ⟨⟨rfl, rfl⟩, by decide, rfl⟩ (Nat.le_of_ble_eq_true rfl) (Nat.le_of_ble_eq_true rfl) (f_3 (e1 := e1) (a9 := a9) (B := B) (r8 := r8) hI ((hv0)) ((hv1)) (fun j => hB j) hdr8 (fun c_22 hI_23 hF_24 hz_25 => ?_))
  refine bk_inl ?_
  refine q_istore_n rfl (by decide) ?_
  refine q_iload_n rfl rfl ?_
  refine q_istore_n rfl (by decide) ?_
  refine Wp_ls [(0, .ref 1), (1, .ref (a_SB + 1)), (2, vi r8), (3, vi r8)] (lsub_cons rfl (lsub_cons rfl (lsub_cons rfl (lsub_cons rfl lsub_nil)))) ?_
  have h_26 : c_22 1 2 = r8 := (hz_25)
  have kn_27 : Hid (c_22 1 4 = f9) := (hF_24 1 4 (fun h => absurd h.2 (ni rfl))).trans (hv2)
  have h_28 : c_22 1 4 = f9 := (hid kn_27)
  have kn_29 : Hid (c_22 1 5 = p9) := (hF_24 1 5 (fun h => absurd h.2 (ni rfl))).trans (hv3)
  have h_30 : c_22 1 5 = p9 := (hid kn_29)
  exact (f_10_1_l (sc := sc) (d := d) hI hv0 hv1 hv2 hv3 hB hdr8 hdL8 hdW8 K0 K1 K2 601) c_22 r8 hI_23 (fun a j hm => hF_24 a j (fun h => hm (Or.inl h))) ⟨by omega, by omega⟩ hdL8 (by omega) (by omega) (by omega) (by omega) (by omega)

set_option maxRecDepth 100000 in
set_option maxHeartbeats 4000000 in
theorem f_6 {sc : List Int32} {e : Int} {d u P Q : Nat} {c : ME} {e1 a9 r8 : Int} {B : Int → Int} {Z : AR → Prop} (hI : Iv u e P Q c) (hv0 : c 1 1 = e1) (hv1 : c 1 2 = a9) (hB : ∀ j : Int, c 2 j = B j) (hdr8 : nx B e1 a9 = r8) (K0 : ∀ c2 : ME, Iv u e P Q c2 → (∀ (a : Nat) (j : Int), ¬ ((a = 1 ∧ j = 2)) → c2 a j = c a j) → ((r8 < e1 ∧ (B r8) ≥ 48 ∧ (B r8) ≤ 57)) → (c2 1 2 = r8) → Z (.inl (some (vi 1)), Wd P Q P P c2, 0, 0)) (K1 : ∀ c2 : ME, Iv u e P Q c2 → (∀ (a : Nat) (j : Int), ¬ ((a = 1 ∧ j = 2)) → c2 a j = c a j) → ((r8 ≥ e1) ∨ ((B r8) < 48) ∨ ((B r8) > 57)) → (c2 1 2 = r8) → Z (.inl (some (vi 0)), Wd P Q P P c2, 0, 0)) : Wp sc (d + 8) 6 0 [(0, .ref 1)] [] (Wd P Q P P c) 0 0 Z := by
  have hP := iv_P hI
  have hQ := iv_Q hI
  have h_1 := ir_1_1 hI
  have h_2 := ir_1_2 hI
  have hn1 := nx_bd (b := B) (e := e1) (a := a9)
  rw [hdr8] at hn1
  have hn3 := nx_n (b := B) (e := e1) (a := a9)
  rw [hdr8] at hn3
  have h_3 : -2147483648 ≤ (B r8) ∧ (B r8) ≤ 2147483647 := by rw [← hB r8]; exact ir_2 hI r8
  refine q_aload_n rfl rfl ?_
  have h_4 : -2147483648 ≤ (B a9) ∧ (B a9) ≤ 2147483647 := by rw [← hB a9]; exact ir_2 hI a9
  refine v_cv rfl rfl rfl rfl (by decide) ⟨⟨rfl, rfl⟩, by decide, rfl⟩ (Nat.le_of_ble_eq_true rfl) (Nat.le_of_ble_eq_true rfl) (f_3 (e1 := e1) (a9 := a9) (B := B) (r8 := r8) hI ((hv0)) ((hv1)) (fun j => hB j) hdr8 (fun c_5 hI_6 hF_7 hz_8 => ?_))
  refine bk_inl ?_
  refine q_istore_n rfl (by decide) ?_
  refine q_iload_n rfl rfl ?_
  refine q_aload_n rfl rfl ?_
  have kn_9 : Hid (c_5 1 1 = e1) := (hF_7 1 1 (fun h => absurd h.2 (ni rfl))).trans (hv0)
  refine v_gi (z := 1) (v := e1) rfl rfl rfl (by decide) rfl rfl (hid kn_9) ?_
  by_cases h_10 : r8 ≥ e1
  · refine v_ic_ge_t (t := 39) rfl (by decide) ⟨by omega, h_10, by omega⟩ ?_
    refine q_iconst rfl ?_
    refine v_zret rfl rfl (by decide) ?_
    have h_11 : c_5 1 2 = r8 := (hz_8)
    exact zv (by omega) (K1 c_5 hI_6 (fun a j hm => hF_7 a j (fun h => hm h)) (by omega) (by omega))
  · refine v_ic_ge_f (t := 39) rfl (by decide) ⟨by omega, (Int.not_le.mp h_10), by omega⟩ ?_
    refine q_aload_n rfl rfl ?_
    refine v_gr (t := 2) rfl rfl rfl (by decide) rfl ?_
    refine q_iload_n rfl rfl ?_
    have kn_12 : Hid (c_5 2 r8 = (B r8)) := (hF_7 2 r8 (fun h => absurd h.1 (nn rfl))).trans (hB r8)
    refine v_ba (v := (B r8)) rfl rfl (by decide) (by decide) (by omega) (hid kn_12) ?_
    refine v_bip rfl (by decide) ?_
    by_cases h_13 : (B r8) < 48
    · refine v_ic_lt_t (t := 39) rfl (by decide) ⟨h_3.1, h_13, by decide⟩ ?_
      refine q_iconst rfl ?_
      refine v_zret rfl rfl (by decide) ?_
      have h_14 : c_5 1 2 = r8 := (hz_8)
      exact zv (by omega) (K1 c_5 hI_6 (fun a j hm => hF_7 a j (fun h => hm h)) (by omega) (by omega))
    · refine v_ic_lt_f (t := 39) rfl (by decide) ⟨by decide, (Int.not_lt.mp h_13), h_3.2⟩ ?_
      refine q_aload_n rfl rfl ?_
      refine v_gr (t := 2) rfl rfl rfl (by decide) rfl ?_
      refine q_iload_n rfl rfl ?_
      refine v_ba (v := (B r8)) rfl rfl (by decide) (by decide) (by omega) (hid kn_12) ?_
      refine v_bip rfl (by decide) ?_
      by_cases h_15 : (B r8) > 57
      · refine v_ic_gt_t (t := 39) rfl (by decide) ⟨by decide, h_15, h_3.2⟩ ?_
        refine q_iconst rfl ?_
        refine v_zret rfl rfl (by decide) ?_
        have h_16 : c_5 1 2 = r8 := (hz_8)
        exact zv (by omega) (K1 c_5 hI_6 (fun a j hm => hF_7 a j (fun h => hm h)) (by omega) (by omega))
      · refine v_ic_gt_f (t := 39) rfl (by decide) ⟨h_3.1, (Int.not_lt.mp h_15), by decide⟩ ?_
        refine q_iconst rfl ?_
        refine q_goto (t := 40) rfl (by decide) ?_
        refine v_zret rfl rfl (by decide) ?_
        have h_17 : c_5 1 2 = r8 := (hz_8)
        exact zv (by omega) (K0 c_5 hI_6 (fun a j hm => hF_7 a j (fun h => hm h)) (by omega) (by omega))

set_option maxRecDepth 100000 in
set_option maxHeartbeats 4000000 in
theorem f_4_0 {sc : List Int32} {e : Int} {d u P Q : Nat} {c : ME} {e1 a9 r8 : Int} {B : Int → Int} {Z : AR → Prop} (hI : Iv u e P Q c) (hv0 : c 1 1 = e1) (hv1 : c 1 2 = a9) (hB : ∀ j : Int, c 2 j = B j) (hdr8 : nx B e1 a9 = r8) (K0 : ∀ c2 : ME, Iv u e P Q c2 → (∀ (a : Nat) (j : Int), ¬ ((a = 1 ∧ j = 2)) → c2 a j = c a j) → ((r8 < e1 ∧ (B r8) = 40)) → (c2 1 2 = r8 + 1) → Z (.inl (some (vi 0)), Wd P Q P P c2, 0, 0)) (K1 : ∀ c2 : ME, Iv u e P Q c2 → (∀ (a : Nat) (j : Int), ¬ ((a = 1 ∧ j = 2)) → c2 a j = c a j) → ((r8 ≥ e1) ∨ ((B r8) < 40) ∨ ((B r8) > 40)) → (c2 1 2 = r8) → Z (.inl (some (vi (-1))), Wd P Q P P c2, 0, 0)) : Wp sc (d + 8) 4 0 [(0, .ref 1), (1, .ref (a_SB + 0))] [] (Wd P Q P P c) 0 0 Z := by
  have hP := iv_P hI
  have hQ := iv_Q hI
  have h_1 := ir_1_1 hI
  have h_2 := ir_1_2 hI
  have hn1 := nx_bd (b := B) (e := e1) (a := a9)
  rw [hdr8] at hn1
  have hn3 := nx_n (b := B) (e := e1) (a := a9)
  rw [hdr8] at hn3
  have h_3 : -2147483648 ≤ (B r8) ∧ (B r8) ≤ 2147483647 := by rw [← hB r8]; exact ir_2 hI r8
  refine q_aload_n rfl rfl ?_
  have h_4 : -2147483648 ≤ (B a9) ∧ (B a9) ≤ 2147483647 := by rw [← hB a9]; exact ir_2 hI a9
  refine v_cv rfl rfl rfl rfl (by decide) ⟨⟨rfl, rfl⟩, by decide, rfl⟩ (Nat.le_of_ble_eq_true rfl) (Nat.le_of_ble_eq_true rfl) (f_3 (e1 := e1) (a9 := a9) (B := B) (r8 := r8) hI ((hv0)) ((hv1)) (fun j => hB j) hdr8 (fun c_5 hI_6 hF_7 hz_8 => ?_))
  refine bk_inl ?_
  refine q_istore_n rfl (by decide) ?_
  refine q_iconst rfl ?_
  refine q_istore_n rfl (by decide) ?_
  refine q_iload_n rfl rfl ?_
  refine q_aload_n rfl rfl ?_
  refine v_sln 1 rfl rfl (by omega) (Nat.le_of_ble_eq_true rfl) (by decide) (by decide) ?_
  refine v_ic_ge_f (t := 55) rfl (by decide) (by decide) ?_
  refine q_iload_n rfl rfl ?_
  refine q_aload_n rfl rfl ?_
  have kn_9 : Hid (c_5 1 1 = e1) := (hF_7 1 1 (fun h => absurd h.2 (ni rfl))).trans (hv0)
  refine v_gi (z := 1) (v := e1) rfl rfl rfl (by decide) rfl rfl (hid kn_9) ?_
  by_cases h_10 : r8 ≥ e1
  · refine v_ic_ge_t (t := 55) rfl (by decide) ⟨by omega, h_10, by omega⟩ ?_
    refine q_iconst rfl ?_
    refine q_iret rfl rfl ?_
    have h_11 : c_5 1 2 = r8 := (hz_8)
    exact zv (by omega) (K1 c_5 hI_6 (fun a j hm => hF_7 a j (fun h => hm h)) (by omega) (by omega))
  · refine v_ic_ge_f (t := 55) rfl (by decide) ⟨by omega, (Int.not_le.mp h_10), by omega⟩ ?_
    refine q_aload_n rfl rfl ?_
    refine v_gr (t := 2) rfl rfl rfl (by decide) rfl ?_
    refine q_iload_n rfl rfl ?_
    have kn_12 : Hid (c_5 2 r8 = (B r8)) := (hF_7 2 r8 (fun h => absurd h.1 (nn rfl))).trans (hB r8)
    refine v_ba (v := (B r8)) rfl rfl (by decide) (by decide) (by omega) (hid kn_12) ?_
    refine q_aload_n rfl rfl ?_
    refine q_iload_n rfl rfl ?_
    refine v_sch 40 rfl rfl (by omega) (Nat.le_of_ble_eq_true rfl) (by decide) (by decide) (by decide) ?_
    by_cases h_13 : (B r8) ≠ 40
    · refine v_ic_ne_t (t := 49) rfl (by decide) ⟨h_13, ⟨h_3.1, h_3.2⟩, by decide, by decide⟩ ?_
      refine v_iinc (v := 1) rfl rfl (by decide) (by decide) ?_
      refine q_goto (t := 7) rfl (by decide) ?_
      refine q_iload_n rfl rfl ?_
      refine q_aload_n rfl rfl ?_
      refine v_sln 1 rfl rfl (by omega) (Nat.le_of_ble_eq_true rfl) (by decide) (by decide) ?_
      refine v_ic_ge_t (t := 55) rfl (by decide) (by decide) ?_
      refine q_iconst rfl ?_
      refine q_iret rfl rfl ?_
      have h_14 : c_5 1 2 = r8 := (hz_8)
      exact zv (by omega) (K1 c_5 hI_6 (fun a j hm => hF_7 a j (fun h => hm h)) (by omega) (by omega))
    · refine v_ic_ne_f (t := 49) rfl (by decide) (Decidable.not_not.mp h_13) ?_
      refine q_aload_n rfl rfl ?_
      refine q_dup rfl rfl ?_
      refine v_gi (z := 2) (v := r8) rfl rfl rfl (by decide) rfl rfl (hz_8) ?_
      refine q_iconst rfl ?_
      refine v_iadd (v := r8 + 1) rfl rfl ?_
      refine v_pi (z := 2) rfl rfl rfl (by decide) rfl rfl rfl (by decide) ?_
      refine q_iload_n rfl rfl ?_
      refine q_iret rfl rfl ?_
      have hI_15 := iw_1_2 (v := r8 + 1) hI_6 ⟨by omega, by omega⟩
      have h_16 : (up c_5 1 2 (r8 + 1)) 1 2 = r8 + 1 := (up_e rfl)
      exact zv (by omega) (K0 (up c_5 1 2 (r8 + 1)) hI_15 (fun a j hm => (up_b (Decidable.or_iff_not_imp_left.mpr (fun h1 h2 => hm ⟨Decidable.not_not.mp h1, h2⟩))).trans (hF_7 a j (fun h => hm h))) (by omega) (by omega))

set_option maxRecDepth 100000 in
set_option maxHeartbeats 4000000 in
theorem f_4_6 {sc : List Int32} {e : Int} {d u P Q : Nat} {c : ME} {e1 a9 r8 : Int} {B : Int → Int} {Z : AR → Prop} (hI : Iv u e P Q c) (hv0 : c 1 1 = e1) (hv1 : c 1 2 = a9) (hB : ∀ j : Int, c 2 j = B j) (hdr8 : nx B e1 a9 = r8) (K0 : ∀ c2 : ME, Iv u e P Q c2 → (∀ (a : Nat) (j : Int), ¬ ((a = 1 ∧ j = 2)) → c2 a j = c a j) → ((r8 < e1 ∧ (B r8) = 42)) → (c2 1 2 = r8 + 1) → Z (.inl (some (vi 0)), Wd P Q P P c2, 0, 0)) (K1 : ∀ c2 : ME, Iv u e P Q c2 → (∀ (a : Nat) (j : Int), ¬ ((a = 1 ∧ j = 2)) → c2 a j = c a j) → ((r8 < e1 ∧ (B r8) = 47)) → (c2 1 2 = r8 + 1) → Z (.inl (some (vi 1)), Wd P Q P P c2, 0, 0)) (K2 : ∀ c2 : ME, Iv u e P Q c2 → (∀ (a : Nat) (j : Int), ¬ ((a = 1 ∧ j = 2)) → c2 a j = c a j) → ((r8 < e1 ∧ (B r8) = 37)) → (c2 1 2 = r8 + 1) → Z (.inl (some (vi 2)), Wd P Q P P c2, 0, 0)) (K3 : ∀ c2 : ME, Iv u e P Q c2 → (∀ (a : Nat) (j : Int), ¬ ((a = 1 ∧ j = 2)) → c2 a j = c a j) → ((r8 ≥ e1) ∨ ((B r8) < 37) ∨ ((B r8) > 47) ∨ ((B r8) > 37 ∧ (B r8) < 42) ∨ ((B r8) > 42 ∧ (B r8) < 47)) → (c2 1 2 = r8) → Z (.inl (some (vi (-1))), Wd P Q P P c2, 0, 0)) : Wp sc (d + 8) 4 0 [(0, .ref 1), (1, .ref (a_SB + 6))] [] (Wd P Q P P c) 0 0 Z := by
  have hP := iv_P hI
  have hQ := iv_Q hI
  have h_1 := ir_1_1 hI
  have h_2 := ir_1_2 hI
  have hn1 := nx_bd (b := B) (e := e1) (a := a9)
  rw [hdr8] at hn1
  have hn3 := nx_n (b := B) (e := e1) (a := a9)
  rw [hdr8] at hn3
  have h_3 : -2147483648 ≤ (B r8) ∧ (B r8) ≤ 2147483647 := by rw [← hB r8]; exact ir_2 hI r8
  refine q_aload_n rfl rfl ?_
  have h_4 : -2147483648 ≤ (B a9) ∧ (B a9) ≤ 2147483647 := by rw [← hB a9]; exact ir_2 hI a9
  refine v_cv rfl rfl rfl rfl (by decide) ⟨⟨rfl, rfl⟩, by decide, rfl⟩ (Nat.le_of_ble_eq_true rfl) (Nat.le_of_ble_eq_true rfl) (f_3 (e1 := e1) (a9 := a9) (B := B) (r8 := r8) hI ((hv0)) ((hv1)) (fun j => hB j) hdr8 (fun c_5 hI_6 hF_7 hz_8 => ?_))
  refine bk_inl ?_
  refine q_istore_n rfl (by decide) ?_
  refine q_iconst rfl ?_
  refine q_istore_n rfl (by decide) ?_
  refine q_iload_n rfl rfl ?_
  refine q_aload_n rfl rfl ?_
  refine v_sln 3 rfl rfl (by omega) (Nat.le_of_ble_eq_true rfl) (by decide) (by decide) ?_
  refine v_ic_ge_f (t := 55) rfl (by decide) (by decide) ?_
  refine q_iload_n rfl rfl ?_
  refine q_aload_n rfl rfl ?_
  have kn_9 : Hid (c_5 1 1 = e1) := (hF_7 1 1 (fun h => absurd h.2 (ni rfl))).trans (hv0)
  refine v_gi (z := 1) (v := e1) rfl rfl rfl (by decide) rfl rfl (hid kn_9) ?_
  by_cases h_10 : r8 ≥ e1
  · refine v_ic_ge_t (t := 55) rfl (by decide) ⟨by omega, h_10, by omega⟩ ?_
    refine q_iconst rfl ?_
    refine q_iret rfl rfl ?_
    have h_11 : c_5 1 2 = r8 := (hz_8)
    exact zv (by omega) (K3 c_5 hI_6 (fun a j hm => hF_7 a j (fun h => hm h)) (by omega) (by omega))
  · refine v_ic_ge_f (t := 55) rfl (by decide) ⟨by omega, (Int.not_le.mp h_10), by omega⟩ ?_
    refine q_aload_n rfl rfl ?_
    refine v_gr (t := 2) rfl rfl rfl (by decide) rfl ?_
    refine q_iload_n rfl rfl ?_
    have kn_12 : Hid (c_5 2 r8 = (B r8)) := (hF_7 2 r8 (fun h => absurd h.1 (nn rfl))).trans (hB r8)
    refine v_ba (v := (B r8)) rfl rfl (by decide) (by decide) (by omega) (hid kn_12) ?_
    refine q_aload_n rfl rfl ?_
    refine q_iload_n rfl rfl ?_
    refine v_sch 42 rfl rfl (by omega) (Nat.le_of_ble_eq_true rfl) (by decide) (by decide) (by decide) ?_
    by_cases h_13 : (B r8) ≠ 42
    · refine v_ic_ne_t (t := 49) rfl (by decide) ⟨h_13, ⟨h_3.1, h_3.2⟩, by decide, by decide⟩ ?_
      refine v_iinc (v := 1) rfl rfl (by decide) (by decide) ?_
      refine q_goto (t := 7) rfl (by decide) ?_
      refine q_iload_n rfl rfl ?_
      refine q_aload_n rfl rfl ?_
      refine v_sln 3 rfl rfl (by omega) (Nat.le_of_ble_eq_true rfl) (by decide) (by decide) ?_
      refine v_ic_ge_f (t := 55) rfl (by decide) (by decide) ?_
      refine q_iload_n rfl rfl ?_
      refine q_aload_n rfl rfl ?_
      refine v_gi (z := 1) (v := e1) rfl rfl rfl (by decide) rfl rfl (hid kn_9) ?_
      refine v_ic_ge_f (t := 55) rfl (by decide) ⟨by omega, by omega, by omega⟩ ?_
      refine q_aload_n rfl rfl ?_
      refine v_gr (t := 2) rfl rfl rfl (by decide) rfl ?_
      refine q_iload_n rfl rfl ?_
      refine v_ba (v := (B r8)) rfl rfl (by decide) (by decide) (by omega) (hid kn_12) ?_
      refine q_aload_n rfl rfl ?_
      refine q_iload_n rfl rfl ?_
      refine v_sch 47 rfl rfl (by omega) (Nat.le_of_ble_eq_true rfl) (by decide) (by decide) (by decide) ?_
      by_cases h_14 : (B r8) ≠ 47
      · refine v_ic_ne_t (t := 49) rfl (by decide) ⟨h_14, ⟨h_3.1, h_3.2⟩, by decide, by decide⟩ ?_
        refine v_iinc (v := 2) rfl rfl (by decide) (by decide) ?_
        refine q_goto (t := 7) rfl (by decide) ?_
        refine q_iload_n rfl rfl ?_
        refine q_aload_n rfl rfl ?_
        refine v_sln 3 rfl rfl (by omega) (Nat.le_of_ble_eq_true rfl) (by decide) (by decide) ?_
        refine v_ic_ge_f (t := 55) rfl (by decide) (by decide) ?_
        refine q_iload_n rfl rfl ?_
        refine q_aload_n rfl rfl ?_
        refine v_gi (z := 1) (v := e1) rfl rfl rfl (by decide) rfl rfl (hid kn_9) ?_
        refine v_ic_ge_f (t := 55) rfl (by decide) ⟨by omega, by omega, by omega⟩ ?_
        refine q_aload_n rfl rfl ?_
        refine v_gr (t := 2) rfl rfl rfl (by decide) rfl ?_
        refine q_iload_n rfl rfl ?_
        refine v_ba (v := (B r8)) rfl rfl (by decide) (by decide) (by omega) (hid kn_12) ?_
        refine q_aload_n rfl rfl ?_
        refine q_iload_n rfl rfl ?_
        refine v_sch 37 rfl rfl (by omega) (Nat.le_of_ble_eq_true rfl) (by decide) (by decide) (by decide) ?_
        by_cases h_15 : (B r8) ≠ 37
        · refine v_ic_ne_t (t := 49) rfl (by decide) ⟨h_15, ⟨h_3.1, h_3.2⟩, by decide, by decide⟩ ?_
          refine v_iinc (v := 3) rfl rfl (by decide) (by decide) ?_
          refine Wp_ls [(3, vi 3), (2, vi r8), (0, .ref 1), (1, .ref (a_SB + 6))] (lsub_cons rfl (lsub_cons rfl (lsub_cons rfl (lsub_cons rfl lsub_nil)))) ?_
          refine q_goto (t := 7) rfl (by decide) ?_
          refine q_iload_n rfl rfl ?_
          refine q_aload_n rfl rfl ?_
          refine v_sln 3 rfl rfl (by omega) (Nat.le_of_ble_eq_true rfl) (by decide) (by decide) ?_
          refine v_ic_ge_t (t := 55) rfl (by decide) (by decide) ?_
          refine q_iconst rfl ?_
          refine q_iret rfl rfl ?_
          have h_16 : c_5 1 2 = r8 := (hz_8)
          exact zv (by omega) (K3 c_5 hI_6 (fun a j hm => hF_7 a j (fun h => hm h)) (by omega) (by omega))
        · refine v_ic_ne_f (t := 49) rfl (by decide) (Decidable.not_not.mp h_15) ?_
          refine q_aload_n rfl rfl ?_
          refine q_dup rfl rfl ?_
          refine v_gi (z := 2) (v := r8) rfl rfl rfl (by decide) rfl rfl (hz_8) ?_
          refine q_iconst rfl ?_
          refine v_iadd (v := r8 + 1) rfl rfl ?_
          refine v_pi (z := 2) rfl rfl rfl (by decide) rfl rfl rfl (by decide) ?_
          refine q_iload_n rfl rfl ?_
          refine q_iret rfl rfl ?_
          have hI_17 := iw_1_2 (v := r8 + 1) hI_6 ⟨by omega, by omega⟩
          have h_18 : (up c_5 1 2 (r8 + 1)) 1 2 = r8 + 1 := (up_e rfl)
          exact zv (by omega) (K2 (up c_5 1 2 (r8 + 1)) hI_17 (fun a j hm => (up_b (Decidable.or_iff_not_imp_left.mpr (fun h1 h2 => hm ⟨Decidable.not_not.mp h1, h2⟩))).trans (hF_7 a j (fun h => hm h))) (by omega) (by omega))
      · refine v_ic_ne_f (t := 49) rfl (by decide) (Decidable.not_not.mp h_14) ?_
        refine q_aload_n rfl rfl ?_
        refine q_dup rfl rfl ?_
        refine v_gi (z := 2) (v := r8) rfl rfl rfl (by decide) rfl rfl (hz_8) ?_
        refine q_iconst rfl ?_
        refine v_iadd (v := r8 + 1) rfl rfl ?_
        refine v_pi (z := 2) rfl rfl rfl (by decide) rfl rfl rfl (by decide) ?_
        refine q_iload_n rfl rfl ?_
        refine q_iret rfl rfl ?_
        have hI_19 := iw_1_2 (v := r8 + 1) hI_6 ⟨by omega, by omega⟩
        have h_20 : (up c_5 1 2 (r8 + 1)) 1 2 = r8 + 1 := (up_e rfl)
        exact zv (by omega) (K1 (up c_5 1 2 (r8 + 1)) hI_19 (fun a j hm => (up_b (Decidable.or_iff_not_imp_left.mpr (fun h1 h2 => hm ⟨Decidable.not_not.mp h1, h2⟩))).trans (hF_7 a j (fun h => hm h))) (by omega) (by omega))
    · refine v_ic_ne_f (t := 49) rfl (by decide) (Decidable.not_not.mp h_13) ?_
      refine q_aload_n rfl rfl ?_
      refine q_dup rfl rfl ?_
      refine v_gi (z := 2) (v := r8) rfl rfl rfl (by decide) rfl rfl (hz_8) ?_
      refine q_iconst rfl ?_
      refine v_iadd (v := r8 + 1) rfl rfl ?_
      refine v_pi (z := 2) rfl rfl rfl (by decide) rfl rfl rfl (by decide) ?_
      refine q_iload_n rfl rfl ?_
      refine q_iret rfl rfl ?_
      have hI_21 := iw_1_2 (v := r8 + 1) hI_6 ⟨by omega, by omega⟩
      have h_22 : (up c_5 1 2 (r8 + 1)) 1 2 = r8 + 1 := (up_e rfl)
      exact zv (by omega) (K0 (up c_5 1 2 (r8 + 1)) hI_21 (fun a j hm => (up_b (Decidable.or_iff_not_imp_left.mpr (fun h1 h2 => hm ⟨Decidable.not_not.mp h1, h2⟩))).trans (hF_7 a j (fun h => hm h))) (by omega) (by omega))

set_option maxRecDepth 100000 in
set_option maxHeartbeats 4000000 in
theorem f_4_7 {sc : List Int32} {e : Int} {d u P Q : Nat} {c : ME} {e1 a9 r8 : Int} {B : Int → Int} {Z : AR → Prop} (hI : Iv u e P Q c) (hv0 : c 1 1 = e1) (hv1 : c 1 2 = a9) (hB : ∀ j : Int, c 2 j = B j) (hdr8 : nx B e1 a9 = r8) (K0 : ∀ c2 : ME, Iv u e P Q c2 → (∀ (a : Nat) (j : Int), ¬ ((a = 1 ∧ j = 2)) → c2 a j = c a j) → ((r8 < e1 ∧ (B r8) = 43)) → (c2 1 2 = r8 + 1) → Z (.inl (some (vi 0)), Wd P Q P P c2, 0, 0)) (K1 : ∀ c2 : ME, Iv u e P Q c2 → (∀ (a : Nat) (j : Int), ¬ ((a = 1 ∧ j = 2)) → c2 a j = c a j) → ((r8 < e1 ∧ (B r8) = 45)) → (c2 1 2 = r8 + 1) → Z (.inl (some (vi 1)), Wd P Q P P c2, 0, 0)) (K2 : ∀ c2 : ME, Iv u e P Q c2 → (∀ (a : Nat) (j : Int), ¬ ((a = 1 ∧ j = 2)) → c2 a j = c a j) → ((r8 ≥ e1) ∨ ((B r8) < 43) ∨ ((B r8) > 45) ∨ ((B r8) > 43 ∧ (B r8) < 45)) → (c2 1 2 = r8) → Z (.inl (some (vi (-1))), Wd P Q P P c2, 0, 0)) : Wp sc (d + 8) 4 0 [(0, .ref 1), (1, .ref (a_SB + 7))] [] (Wd P Q P P c) 0 0 Z := by
  have hP := iv_P hI
  have hQ := iv_Q hI
  have h_1 := ir_1_1 hI
  have h_2 := ir_1_2 hI
  have hn1 := nx_bd (b := B) (e := e1) (a := a9)
  rw [hdr8] at hn1
  have hn3 := nx_n (b := B) (e := e1) (a := a9)
  rw [hdr8] at hn3
  have h_3 : -2147483648 ≤ (B r8) ∧ (B r8) ≤ 2147483647 := by rw [← hB r8]; exact ir_2 hI r8
  refine q_aload_n rfl rfl ?_
  have h_4 : -2147483648 ≤ (B a9) ∧ (B a9) ≤ 2147483647 := by rw [← hB a9]; exact ir_2 hI a9
  refine v_cv rfl rfl rfl rfl (by decide) ⟨⟨rfl, rfl⟩, by decide, rfl⟩ (Nat.le_of_ble_eq_true rfl) (Nat.le_of_ble_eq_true rfl) (f_3 (e1 := e1) (a9 := a9) (B := B) (r8 := r8) hI ((hv0)) ((hv1)) (fun j => hB j) hdr8 (fun c_5 hI_6 hF_7 hz_8 => ?_))
  refine bk_inl ?_
  refine q_istore_n rfl (by decide) ?_
  refine q_iconst rfl ?_
  refine q_istore_n rfl (by decide) ?_
  refine q_iload_n rfl rfl ?_
  refine q_aload_n rfl rfl ?_
  refine v_sln 2 rfl rfl (by omega) (Nat.le_of_ble_eq_true rfl) (by decide) (by decide) ?_
  refine v_ic_ge_f (t := 55) rfl (by decide) (by decide) ?_
  refine q_iload_n rfl rfl ?_
  refine q_aload_n rfl rfl ?_
  have kn_9 : Hid (c_5 1 1 = e1) := (hF_7 1 1 (fun h => absurd h.2 (ni rfl))).trans (hv0)
  refine v_gi (z := 1) (v := e1) rfl rfl rfl (by decide) rfl rfl (hid kn_9) ?_
  by_cases h_10 : r8 ≥ e1
  · refine v_ic_ge_t (t := 55) rfl (by decide) ⟨by omega, h_10, by omega⟩ ?_
    refine q_iconst rfl ?_
    refine q_iret rfl rfl ?_
    have h_11 : c_5 1 2 = r8 := (hz_8)
    exact zv (by omega) (K2 c_5 hI_6 (fun a j hm => hF_7 a j (fun h => hm h)) (by omega) (by omega))
  · refine v_ic_ge_f (t := 55) rfl (by decide) ⟨by omega, (Int.not_le.mp h_10), by omega⟩ ?_
    refine q_aload_n rfl rfl ?_
    refine v_gr (t := 2) rfl rfl rfl (by decide) rfl ?_
    refine q_iload_n rfl rfl ?_
    have kn_12 : Hid (c_5 2 r8 = (B r8)) := (hF_7 2 r8 (fun h => absurd h.1 (nn rfl))).trans (hB r8)
    refine v_ba (v := (B r8)) rfl rfl (by decide) (by decide) (by omega) (hid kn_12) ?_
    refine q_aload_n rfl rfl ?_
    refine q_iload_n rfl rfl ?_
    refine v_sch 43 rfl rfl (by omega) (Nat.le_of_ble_eq_true rfl) (by decide) (by decide) (by decide) ?_
    by_cases h_13 : (B r8) ≠ 43
    · refine v_ic_ne_t (t := 49) rfl (by decide) ⟨h_13, ⟨h_3.1, h_3.2⟩, by decide, by decide⟩ ?_
      refine v_iinc (v := 1) rfl rfl (by decide) (by decide) ?_
      refine q_goto (t := 7) rfl (by decide) ?_
      refine q_iload_n rfl rfl ?_
      refine q_aload_n rfl rfl ?_
      refine v_sln 2 rfl rfl (by omega) (Nat.le_of_ble_eq_true rfl) (by decide) (by decide) ?_
      refine v_ic_ge_f (t := 55) rfl (by decide) (by decide) ?_
      refine q_iload_n rfl rfl ?_
      refine q_aload_n rfl rfl ?_
      refine v_gi (z := 1) (v := e1) rfl rfl rfl (by decide) rfl rfl (hid kn_9) ?_
      refine v_ic_ge_f (t := 55) rfl (by decide) ⟨by omega, by omega, by omega⟩ ?_
      refine q_aload_n rfl rfl ?_
      refine v_gr (t := 2) rfl rfl rfl (by decide) rfl ?_
      refine q_iload_n rfl rfl ?_
      refine v_ba (v := (B r8)) rfl rfl (by decide) (by decide) (by omega) (hid kn_12) ?_
      refine q_aload_n rfl rfl ?_
      refine q_iload_n rfl rfl ?_
      refine v_sch 45 rfl rfl (by omega) (Nat.le_of_ble_eq_true rfl) (by decide) (by decide) (by decide) ?_
      by_cases h_14 : (B r8) ≠ 45
      · refine v_ic_ne_t (t := 49) rfl (by decide) ⟨h_14, ⟨h_3.1, h_3.2⟩, by decide, by decide⟩ ?_
        refine v_iinc (v := 2) rfl rfl (by decide) (by decide) ?_
        refine q_goto (t := 7) rfl (by decide) ?_
        refine q_iload_n rfl rfl ?_
        refine q_aload_n rfl rfl ?_
        refine v_sln 2 rfl rfl (by omega) (Nat.le_of_ble_eq_true rfl) (by decide) (by decide) ?_
        refine v_ic_ge_t (t := 55) rfl (by decide) (by decide) ?_
        refine q_iconst rfl ?_
        refine q_iret rfl rfl ?_
        have h_15 : c_5 1 2 = r8 := (hz_8)
        exact zv (by omega) (K2 c_5 hI_6 (fun a j hm => hF_7 a j (fun h => hm h)) (by omega) (by omega))
      · refine v_ic_ne_f (t := 49) rfl (by decide) (Decidable.not_not.mp h_14) ?_
        refine q_aload_n rfl rfl ?_
        refine q_dup rfl rfl ?_
        refine v_gi (z := 2) (v := r8) rfl rfl rfl (by decide) rfl rfl (hz_8) ?_
        refine q_iconst rfl ?_
        refine v_iadd (v := r8 + 1) rfl rfl ?_
        refine v_pi (z := 2) rfl rfl rfl (by decide) rfl rfl rfl (by decide) ?_
        refine q_iload_n rfl rfl ?_
        refine q_iret rfl rfl ?_
        have hI_16 := iw_1_2 (v := r8 + 1) hI_6 ⟨by omega, by omega⟩
        have h_17 : (up c_5 1 2 (r8 + 1)) 1 2 = r8 + 1 := (up_e rfl)
        exact zv (by omega) (K1 (up c_5 1 2 (r8 + 1)) hI_16 (fun a j hm => (up_b (Decidable.or_iff_not_imp_left.mpr (fun h1 h2 => hm ⟨Decidable.not_not.mp h1, h2⟩))).trans (hF_7 a j (fun h => hm h))) (by omega) (by omega))
    · refine v_ic_ne_f (t := 49) rfl (by decide) (Decidable.not_not.mp h_13) ?_
      refine q_aload_n rfl rfl ?_
      refine q_dup rfl rfl ?_
      refine v_gi (z := 2) (v := r8) rfl rfl rfl (by decide) rfl rfl (hz_8) ?_
      refine q_iconst rfl ?_
      refine v_iadd (v := r8 + 1) rfl rfl ?_
      refine v_pi (z := 2) rfl rfl rfl (by decide) rfl rfl rfl (by decide) ?_
      refine q_iload_n rfl rfl ?_
      refine q_iret rfl rfl ?_
      have hI_18 := iw_1_2 (v := r8 + 1) hI_6 ⟨by omega, by omega⟩
      have h_19 : (up c_5 1 2 (r8 + 1)) 1 2 = r8 + 1 := (up_e rfl)
      exact zv (by omega) (K0 (up c_5 1 2 (r8 + 1)) hI_18 (fun a j hm => (up_b (Decidable.or_iff_not_imp_left.mpr (fun h1 h2 => hm ⟨Decidable.not_not.mp h1, h2⟩))).trans (hF_7 a j (fun h => hm h))) (by omega) (by omega))

set_option maxRecDepth 100000 in
set_option maxHeartbeats 4000000 in
theorem f_156 {sc : List Int32} {e : Int} {d u P Q : Nat} {c : ME} {a0 : Int} {Z : AR → Prop} (hI : Iv u e P Q c) (ha0 : (-2147483648) ≤ a0 ∧ a0 ≤ 2147483647) (K : ∀ (y : Int), 0 ≤ y ∧ y ≤ 1 → ((y = 1 ∧ a0 ≥ 48 ∧ a0 ≤ 57) ∨ (y = 0 ∧ a0 < 48) ∨ (y = 0 ∧ a0 > 57)) → Z (.inl (some (vi y)), Wd P Q P P c, 0, 0)) : Wp sc (d + 7) 156 0 [(0, vi a0)] [] (Wd P Q P P c) 0 0 Z := by
  have hP := iv_P hI
  have hQ := iv_Q hI
  refine q_iload_n rfl rfl ?_
  refine v_bip rfl (by decide) ?_
  by_cases h_1 : a0 < 48
  · refine v_ic_lt_t (t := 16) rfl (by decide) ⟨ha0.1, h_1, by decide⟩ ?_
    refine q_iconst rfl ?_
    refine v_zret rfl rfl (by decide) ?_
    exact K 0 ⟨by decide, by decide⟩ (Or.inr (Or.inl ⟨by omega, by omega⟩))
  · refine v_ic_lt_f (t := 16) rfl (by decide) ⟨by decide, (Int.not_lt.mp h_1), ha0.2⟩ ?_
    refine q_iload_n rfl rfl ?_
    refine v_bip rfl (by decide) ?_
    by_cases h_2 : a0 > 57
    · refine v_ic_gt_t (t := 16) rfl (by decide) ⟨by decide, h_2, ha0.2⟩ ?_
      refine q_iconst rfl ?_
      refine v_zret rfl rfl (by decide) ?_
      exact K 0 ⟨by decide, by decide⟩ (Or.inr (Or.inr ⟨by omega, by omega⟩))
    · refine v_ic_gt_f (t := 16) rfl (by decide) ⟨ha0.1, (Int.not_lt.mp h_2), by decide⟩ ?_
      refine q_iconst rfl ?_
      refine q_goto (t := 17) rfl (by decide) ?_
      refine v_zret rfl rfl (by decide) ?_
      exact K 1 ⟨by decide, by decide⟩ (Or.inl ⟨by omega, by omega, by omega⟩)
