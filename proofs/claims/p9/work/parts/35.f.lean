/-! ===== the texts, exactly ===== -/
theorem q_0002e0578 {x0 : Int} (f0 : ¬ (x0 ≠ 0)) : x0 = 0 := by omega
theorem q_324f7a7fb {x0 : Int} (f0 : ¬ (x0 ≠ (-1))) : x0 = (-1) := by omega
theorem q_e102c8f11 {x0 x1 : Int} (f0 : ¬ (4 ≠ x0 - x1)) : 0 < x0 - x1 := by omega
theorem q_559789b9d {x0 x1 : Int} (f0 : ¬ (4 ≠ x0 - x1)) : x0 - x1 ≤ 2147483647 := by omega
theorem q_a2240bc6c {x0 x1 : Int} (f0 : ¬ (4 ≠ x0 - x1)) : 1 < x0 - x1 := by omega
theorem q_81cf1e9c6 {x0 x1 : Int} (f0 : ¬ (4 ≠ x0 - x1)) : 2 < x0 - x1 := by omega
theorem q_bf9798940 {x0 x1 : Int} (f0 : ¬ (4 ≠ x0 - x1)) : 3 < x0 - x1 := by omega
theorem q_5edcef13d {x0 x1 : Int} (f0 : ¬ (4 ≠ x0 - x1)) : (-2147483648) ≤ x0 - x1 := by omega
theorem q_62ba5a5ea {x0 x1 : Int} (f0 : ¬ (4 ≠ x0 - x1)) : x0 - x1 ≤ 4 := by omega
theorem q_38a4b4bff {x0 x1 : Int} (f0 : ¬ (5 ≠ x0 - x1)) : 0 < x0 - x1 := by omega
theorem q_fe3598997 {x0 x1 : Int} (f0 : ¬ (5 ≠ x0 - x1)) : x0 - x1 ≤ 2147483647 := by omega
theorem q_2f422e7b9 {x0 x1 : Int} (f0 : ¬ (5 ≠ x0 - x1)) : 1 < x0 - x1 := by omega
theorem q_415b3b712 {x0 x1 : Int} (f0 : ¬ (5 ≠ x0 - x1)) : 2 < x0 - x1 := by omega
theorem q_170273d75 {x0 x1 : Int} (f0 : ¬ (5 ≠ x0 - x1)) : 3 < x0 - x1 := by omega
theorem q_9d61d9b81 {x0 x1 : Int} (f0 : ¬ (5 ≠ x0 - x1)) : 4 < x0 - x1 := by omega
theorem q_c439bfa43 {x0 x1 : Int} (f0 : ¬ (5 ≠ x0 - x1)) : (-2147483648) ≤ x0 - x1 := by omega
theorem q_fc9a05b17 {x0 x1 : Int} (f0 : ¬ (5 ≠ x0 - x1)) : x0 - x1 ≤ 5 := by omega
theorem q_8d10d25b6 {x0 x1 : Int} (f0 : ¬ (3 ≠ x0 - x1)) : 0 < x0 - x1 := by omega
theorem q_22d63526a {x0 x1 : Int} (f0 : ¬ (3 ≠ x0 - x1)) : x0 - x1 ≤ 2147483647 := by omega
theorem q_f1d336e40 {x0 x1 : Int} (f0 : ¬ (3 ≠ x0 - x1)) : 1 < x0 - x1 := by omega
theorem q_3cb5391db {x0 x1 : Int} (f0 : ¬ (3 ≠ x0 - x1)) : 2 < x0 - x1 := by omega
theorem q_2271afefa {x0 x1 : Int} (f0 : ¬ (3 ≠ x0 - x1)) : (-2147483648) ≤ x0 - x1 := by omega
theorem q_8e661bf2d {x0 x1 : Int} (f0 : ¬ (3 ≠ x0 - x1)) : x0 - x1 ≤ 3 := by omega
set_option maxRecDepth 100000 in
set_option maxHeartbeats 4000000 in
theorem f_3_l {sc : List Int32} {e : Int} {d u P Q : Nat} {c : ME} {e1 a9 r8 : Int} {B : Int → Int} {Z : AR → Prop} (hI : Iv u e P Q c) (hv0 : c 1 1 = e1) (hv1 : c 1 2 = a9) (hB : ∀ j : Int, c 2 j = B j) (hdr8 : nx B e1 a9 = r8) (K0 : ∀ c2 : ME, Iv u e P Q c2 → (∀ (a : Nat) (j : Int), ¬ ((a = 1 ∧ j = 2)) → c2 a j = c a j) → (c2 1 2 = r8) → Z (.inl (some (vi r8)), Wd P Q P P c2, 0, 0)) : ∀ n : Nat, (∀ (c2 : ME), Iv u e P Q c2 → (∀ (a : Nat) (j : Int), ¬ ((a = 1 ∧ j = 2)) → c2 a j = c a j) → (nx B e1 (c2 1 2) = r8) → 600 - c2 1 2 < (n : Int) → Wp sc (d + 7) 3 0 [(0, .ref 1)] [] (Wd P Q P P c2) 0 0 Z)
  | 0 => by intro c2 hI2 hF hx0 hm9; have hP := iv_P hI; have hQ := iv_Q hI; have h_1 := ir_1_1 hI; have h_2 := ir_1_2 hI; have h_3 := ir_1_2 hI2; exfalso; omega
  | n + 1 => by
    have hP := iv_P hI
    have hQ := iv_Q hI
    have ih := f_3_l (sc := sc) (d := d) hI hv0 hv1 hB hdr8 K0 n
    intro c2 hI2 hF hx0 hm9
    have h_1 := ir_1_1 hI
    have h_2 := ir_1_2 hI
    have h_3 := ir_1_2 hI2
    refine q_aload_n rfl rfl (v_gi (z := 2) (v := c2 1 2) rfl rfl rfl (Nat.le_of_ble_eq_true rfl) rfl rfl rfl (q_aload_n rfl rfl ?_))
    have kn_4 : Hid (c2 1 1 = e1) := (hF 1 1 (fun h => absurd h.2 (ni rfl))).trans (hv0)
    refine v_gi (z := 1) (v := e1) rfl rfl rfl (Nat.le_of_ble_eq_true rfl) rfl rfl (hid kn_4) ?_
    by_cases h_5 : c2 1 2 ≥ e1
    · refine v_ic_ge_t (t := 38) rfl rfl ⟨by omega, h_5, (Int.le_trans h_3.2 (by decide))⟩ (q_aload_n rfl rfl (v_gi (z := 2) (v := c2 1 2) rfl rfl rfl (Nat.le_of_ble_eq_true rfl) rfl rfl rfl (q_iret rfl rfl ?_)))
      have hz8 : nx B e1 (c2 1 2) = c2 1 2 := nx_z (by omega)
      have hz9 : r8 = c2 1 2 := hx0.symm.trans hz8
      exact zv (by omega) (K0 c2 hI2 (fun a j hm => hF a j (fun h => hm h)) (by omega))
    · refine v_ic_ge_f (t := 38) rfl rfl ⟨(Int.le_trans (by decide) h_3.1), (Int.not_le.mp h_5), by omega⟩ (q_aload_n rfl rfl (v_gr (t := 2) rfl rfl rfl (Nat.le_of_ble_eq_true rfl) rfl (q_aload_n rfl rfl (v_gi (z := 2) (v := c2 1 2) rfl rfl rfl (Nat.le_of_ble_eq_true rfl) rfl rfl rfl ?_))))
      have h_6 : -2147483648 ≤ (B (c2 1 2)) ∧ (B (c2 1 2)) ≤ 2147483647 := by rw [← hB (c2 1 2)]; exact ir_2 hI (c2 1 2)
      have kn_7 : Hid (c2 2 (c2 1 2) = (B (c2 1 2))) := (hF 2 (c2 1 2) (fun h => absurd h.1 (nn rfl))).trans (hB (c2 1 2))
      refine v_ba (v := (B (c2 1 2))) rfl rfl (by decide) (by decide) ⟨h_3.1, by omega⟩ (hid kn_7) (v_bip rfl (by decide) ?_)
      by_cases h_8 : (B (c2 1 2)) ≠ 32
      · refine v_ic_ne_t (t := 38) rfl rfl ⟨h_8, ⟨by first | exact q_f97c35332 h_6 | omega, by first | exact q_79e53d295 h_6 | omega⟩, by decide, by decide⟩ (q_aload_n rfl rfl (v_gi (z := 2) (v := c2 1 2) rfl rfl rfl (Nat.le_of_ble_eq_true rfl) rfl rfl rfl (q_iret rfl rfl ?_)))
        have hz8 : nx B e1 (c2 1 2) = c2 1 2 := nx_z (by omega)
        have hz9 : r8 = c2 1 2 := hx0.symm.trans hz8
        exact zv (by omega) (K0 c2 hI2 (fun a j hm => hF a j (fun h => hm h)) (by omega))
      · refine v_ic_ne_f (t := 38) rfl rfl (Decidable.not_not.mp h_8) (q_aload_n rfl rfl (q_dup rfl rfl (v_gi (z := 2) (v := c2 1 2) rfl rfl rfl (Nat.le_of_ble_eq_true rfl) rfl rfl rfl (q_iconst rfl (v_iadd (v := c2 1 2 + 1) rfl rfl (v_pi (z := 2) rfl rfl rfl (Nat.le_of_ble_eq_true rfl) rfl rfl rfl (by decide) (q_goto (t := 0) rfl rfl ?_)))))))
        have hI_9 := iw_1_2 (v := c2 1 2 + 1) hI2 ⟨by first | exact rgp_l h_3.1 (by decide) | omega, by omega⟩
        refine Wp_ls [(0, .ref 1)] (lsub_cons rfl lsub_nil) ?_
        have h_10 : (up c2 1 2 (c2 1 2 + 1)) 1 2 = c2 1 2 + 1 := (up_e rfl)
        exact ih (up c2 1 2 (c2 1 2 + 1)) hI_9 (fun a j hm => (up_b (Decidable.or_iff_not_imp_left.mpr (fun h1 h2 => hm ⟨Decidable.not_not.mp h1, h2⟩))).trans (hF a j (fun h => hm h))) (by rw [show (up c2 1 2 (c2 1 2 + 1)) 1 2 = c2 1 2 + 1 from (up_e rfl)]; exact (nx_s (by omega) (by omega)).symm.trans hx0) (by omega)
set_option maxRecDepth 100000 in
set_option maxHeartbeats 4000000 in
theorem f_3 {sc : List Int32} {e : Int} {d u P Q : Nat} {c : ME} {e1 a9 r8 : Int} {B : Int → Int} {Z : AR → Prop} (hI : Iv u e P Q c) (hv0 : c 1 1 = e1) (hv1 : c 1 2 = a9) (hB : ∀ j : Int, c 2 j = B j) (hdr8 : nx B e1 a9 = r8) (K0 : ∀ c2 : ME, Iv u e P Q c2 → (∀ (a : Nat) (j : Int), ¬ ((a = 1 ∧ j = 2)) → c2 a j = c a j) → (c2 1 2 = r8) → Z (.inl (some (vi r8)), Wd P Q P P c2, 0, 0)) : Wp sc (d + 7) 3 0 [(0, .ref 1)] [] (Wd P Q P P c) 0 0 Z := by
  have hP := iv_P hI
  have hQ := iv_Q hI
  have h_11 := ir_1_1 hI
  have h_12 := ir_1_2 hI
  refine Wp_ls [(0, .ref 1)] (lsub_cons rfl lsub_nil) ?_
  have h_13 : c 1 2 = a9 := (hv1)
  exact (f_3_l (sc := sc) (d := d) hI hv0 hv1 hB hdr8 K0 601) c hI (fun a j hm => rfl) (by rw [hv1]; exact hdr8) (by omega)

set_option maxRecDepth 100000 in
set_option maxHeartbeats 4000000 in
theorem f_8_l {sc : List Int32} {e : Int} {d u P Q : Nat} {c : ME} {e1 a9 f9 p9 r8 D8 V8 a1 : Int} {B : Int → Int} {Z : AR → Prop} (hI : Iv u e P Q c) (ha1 : (-1) ≤ a1 ∧ a1 ≤ 9999) (hv0 : c 1 1 = e1) (hv1 : c 1 2 = a9) (hv2 : c 1 4 = f9) (hv3 : c 1 5 = p9) (hB : ∀ j : Int, c 2 j = B j) (hdr8 : nx B e1 a9 = r8) (hdD8 : (dg B e1 r8 0).1 = D8) (hdV8 : (dg B e1 r8 0).2 = V8) (K0 : ∀ c2 : ME, Iv u e P Q c2 → (∀ (a : Nat) (j : Int), ¬ ((a = 1 ∧ j = 2) ∨ (a = 1 ∧ j = 4) ∨ (a = 1 ∧ j = 5)) → c2 a j = c a j) → ((f9 ≠ 0)) → (c2 1 2 = a9) → (c2 1 4 = f9) → (c2 1 5 = p9) → Z (.inl (some (vi 0)), Wd P Q P P c2, 0, 0)) (K1 : ∀ c2 : ME, Iv u e P Q c2 → (∀ (a : Nat) (j : Int), ¬ ((a = 1 ∧ j = 2) ∨ (a = 1 ∧ j = 4) ∨ (a = 1 ∧ j = 5)) → c2 a j = c a j) → ((f9 = 0)) → ((r8 ≥ e1) ∨ ((B r8) < 48) ∨ ((B r8) > 57)) → (c2 1 2 = r8) → (c2 1 4 = 1) → (c2 1 5 = r8) → Z (.inl (some (vi 0)), Wd P Q P P c2, 0, 0)) (K2 : ∀ c2 : ME, Iv u e P Q c2 → (∀ (a : Nat) (j : Int), ¬ ((a = 1 ∧ j = 2) ∨ (a = 1 ∧ j = 4) ∨ (a = 1 ∧ j = 5)) → c2 a j = c a j) → ((f9 = 0)) → ((r8 < e1 ∧ (B r8) ≥ 48 ∧ (B r8) ≤ 57)) → ((V8 > a1)) → (c2 1 2 = D8) → (c2 1 4 = 2) → (c2 1 5 = r8) → Z (.inl (some (vi 0)), Wd P Q P P c2, 0, 0)) (K3 : ∀ c2 : ME, Iv u e P Q c2 → (∀ (a : Nat) (j : Int), ¬ ((a = 1 ∧ j = 2) ∨ (a = 1 ∧ j = 4) ∨ (a = 1 ∧ j = 5)) → c2 a j = c a j) → ((f9 = 0)) → ((r8 < e1 ∧ (B r8) ≥ 48 ∧ (B r8) ≤ 57)) → ((V8 ≤ a1)) → (c2 1 2 = D8) → (c2 1 4 = 0) → (c2 1 5 = p9) → Z (.inl (some (vi V8)), Wd P Q P P c2, 0, 0)) : ∀ n : Nat, (∀ (c2 : ME) (v3 : Int), Iv u e P Q c2 → (∀ (a : Nat) (j : Int), ¬ ((a = 1 ∧ j = 2) ∨ (a = 1 ∧ j = 4) ∨ (a = 1 ∧ j = 5)) → c2 a j = c a j) → 0 ≤ v3 ∧ v3 ≤ 99999 → (dg B e1 (c2 1 2) v3 = dg B e1 r8 0) → ((c2 1 4 = 0)) → ((c2 1 5 = p9)) → ((f9 = 0)) → ((c2 1 2 ≥ r8)) → ((r8 < e1 ∧ (B r8) ≥ 48 ∧ (B r8) ≤ 57)) → 600 - c2 1 2 < (n : Int) → Wp sc (d + 12) 8 34 [(0, .ref 1), (1, vi a1), (2, vi r8), (3, vi v3)] [] (Wd P Q P P c2) 0 0 Z)
  | 0 => by intro c2 v3 hI2 hF hv3 hx0 hx1 hx2 hx3 hx4 hx5 hm9; have hP := iv_P hI; have hQ := iv_Q hI; have h_1 := ir_1_1 hI; have h_2 := ir_1_2 hI; have h_3 := ir_1_4 hI; have h_4 := ir_1_5 hI; have h_5 : -2147483648 ≤ (B r8) ∧ (B r8) ≤ 2147483647 := (by rw [← hB r8]; exact ir_2 hI r8); have h_6 := ir_1_4 hI2; have h_7 := ir_1_5 hI2; have h_8 := ir_1_2 hI2; exfalso; omega
  | n + 1 => by
    have hP := iv_P hI
    have hQ := iv_Q hI
    have ih := f_8_l (sc := sc) (d := d) hI ha1 hv0 hv1 hv2 hv3 hB hdr8 hdD8 hdV8 K0 K1 K2 K3 n
    intro c2 v3 hI2 hF hv3 hx0 hx1 hx2 hx3 hx4 hx5 hm9
    have h_1 := ir_1_1 hI
    have h_2 := ir_1_2 hI
    have h_3 := ir_1_4 hI
    have h_4 := ir_1_5 hI
    have hn1 := nx_bd (b := B) (e := e1) (a := a9)
    rw [hdr8] at hn1
    have hn2 := dg_bd (b := B) (e := e1) (a := r8) (v := 0) (by decide)
    rw [hdD8, hdV8] at hn2
    have hn3 := nx_n (b := B) (e := e1) (a := a9)
    rw [hdr8] at hn3
    have h_5 : -2147483648 ≤ (B r8) ∧ (B r8) ≤ 2147483647 := by rw [← hB r8]; exact ir_2 hI r8
    have h_6 := ir_1_4 hI2
    have h_7 := ir_1_5 hI2
    have h_8 := ir_1_2 hI2
    refine q_aload_n rfl rfl (v_gi (z := 2) (v := c2 1 2) rfl rfl rfl (Nat.le_of_ble_eq_true rfl) rfl rfl rfl (q_aload_n rfl rfl ?_))
    have kn_9 : Hid (c2 1 1 = e1) := (hF 1 1 (fun q => q.elim (fun h => absurd h.2 (ni rfl)) (fun q => q.elim (fun h => absurd h.2 (ni rfl)) (fun h => absurd h.2 (ni rfl))))).trans (hv0)
    refine v_gi (z := 1) (v := e1) rfl rfl rfl (Nat.le_of_ble_eq_true rfl) rfl rfl (hid kn_9) ?_
    by_cases h_10 : c2 1 2 ≥ e1
    · refine v_ic_ge_t (t := 109) rfl rfl ⟨by first | (clear h_2 h_3 h_4 h_5 h_6 h_7 h_8; omega) | omega, h_10, (Int.le_trans h_8.2 (by decide))⟩ (q_iload_n rfl rfl (q_iload_n rfl rfl ?_))
      by_cases h_11 : v3 ≤ a1
      · refine v_ic_le_t (t := 122) rfl rfl ⟨(Int.le_trans (by decide) hv3.1), h_11, (Int.le_trans ha1.2 (by decide))⟩ (q_iload_n rfl rfl (q_iret rfl rfl ?_))
        have hz8 : dg B e1 (c2 1 2) v3 = (c2 1 2, v3) := dg_z (by omega)
        have hz9 : D8 = c2 1 2 := by rw [← hdD8, ← hx0, hz8]
        have hz10 : V8 = v3 := by rw [← hdV8, ← hx0, hz8]
        exact zv (by omega) (K3 c2 hI2 (fun a j hm => hF a j (fun q => q.elim (fun h => hm (Or.inl h)) (fun q => q.elim (fun h => hm (Or.inr (Or.inl h))) (fun h => hm (Or.inr (Or.inr h)))))) (by omega) (by omega) (by omega) (by omega) (by omega) (by omega))
      · refine v_ic_le_f (t := 122) rfl rfl ⟨(Int.le_trans (by decide) ha1.1), (Int.not_le.mp h_11), (Int.le_trans hv3.2 (by decide))⟩ (q_aload_n rfl rfl (q_iconst rfl (q_iload_n rfl rfl (v_cv rfl rfl rfl rfl (Nat.le_of_ble_eq_true rfl) ⟨⟨rfl, rfl⟩, Nat.le_of_ble_eq_true rfl, rfl⟩ (Nat.le_of_ble_eq_true rfl) (Nat.le_of_ble_eq_true rfl) (q_aload_n rfl rfl (v_gi (z := 4) (v := c2 1 4) rfl rfl rfl (Nat.le_of_ble_eq_true rfl) rfl rfl rfl (v_if_ne_f (t := 17) rfl rfl (by omega) ?_)))))))
        refine q_aload_n rfl rfl (q_iload_n rfl rfl (v_pi (z := 4) rfl rfl rfl (Nat.le_of_ble_eq_true rfl) rfl rfl rfl (by decide) (q_aload_n rfl rfl (q_iload_n rfl rfl (v_pi (z := 5) rfl rfl rfl (Nat.le_of_ble_eq_true rfl) rfl rfl rfl (by decide) (q_vret rfl rfl (bk_inl ?_)))))))
        refine q_iconst rfl (q_iret rfl rfl ?_)
        have hz8 : dg B e1 (c2 1 2) v3 = (c2 1 2, v3) := dg_z (by omega)
        have hz9 : D8 = c2 1 2 := by rw [← hdD8, ← hx0, hz8]
        have hz10 : V8 = v3 := by rw [← hdV8, ← hx0, hz8]
        have hI_12 := iw_1_4 (v := 2) hI2 ⟨by decide, by decide⟩
        have hI_13 := iw_1_5 (v := r8) hI_12 ⟨by first | (clear h_1 h_3 h_4 h_5 h_6 h_7 h_8 h_10 h_11 hz10; omega) | omega, by first | (clear h_1 h_2 h_3 h_4 h_5 h_6 h_7 h_11 hz10; omega) | omega⟩
        have h_14 : (up (up c2 1 4 2) 1 5 r8) 1 2 = c2 1 2 := ((up_n (by decide)).trans (up_n (by decide)))
        have h_15 : (up (up c2 1 4 2) 1 5 r8) 1 4 = 2 := ((up_n (by decide)).trans (up_e rfl))
        have h_16 : (up (up c2 1 4 2) 1 5 r8) 1 5 = r8 := (up_e rfl)
        exact zv (by omega) (K2 (up (up c2 1 4 2) 1 5 r8) hI_13 (fun a j hm => (up_b (Decidable.or_iff_not_imp_left.mpr (fun h1 h2 => hm (Or.inr (Or.inr ⟨Decidable.not_not.mp h1, h2⟩))))).trans ((up_b (Decidable.or_iff_not_imp_left.mpr (fun h1 h2 => hm (Or.inr (Or.inl ⟨Decidable.not_not.mp h1, h2⟩))))).trans (hF a j (fun q => q.elim (fun h => hm (Or.inl h)) (fun q => q.elim (fun h => hm (Or.inr (Or.inl h))) (fun h => hm (Or.inr (Or.inr h)))))))) (by omega) (by omega) (by omega) (by omega) (by omega) (by omega))
    · refine v_ic_ge_f (t := 109) rfl rfl ⟨(Int.le_trans (by decide) h_8.1), (Int.not_le.mp h_10), by first | (clear h_2 h_3 h_4 h_5 h_6 h_7 h_8; omega) | omega⟩ (q_aload_n rfl rfl (v_gr (t := 2) rfl rfl rfl (Nat.le_of_ble_eq_true rfl) rfl (q_aload_n rfl rfl (v_gi (z := 2) (v := c2 1 2) rfl rfl rfl (Nat.le_of_ble_eq_true rfl) rfl rfl rfl ?_))))
      have h_17 : -2147483648 ≤ (B (c2 1 2)) ∧ (B (c2 1 2)) ≤ 2147483647 := by rw [← hB (c2 1 2)]; exact ir_2 hI (c2 1 2)
      have kn_18 : Hid (c2 2 (c2 1 2) = (B (c2 1 2))) := (hF 2 (c2 1 2) (fun q => q.elim (fun h => absurd h.1 (nn rfl)) (fun q => q.elim (fun h => absurd h.1 (nn rfl)) (fun h => absurd h.1 (nn rfl))))).trans (hB (c2 1 2))
      refine v_ba (v := (B (c2 1 2))) rfl rfl (by decide) (by decide) ⟨h_8.1, by first | (clear h_2 h_3 h_4 h_5 h_6 h_7 h_8 h_17; omega) | omega⟩ (hid kn_18) (v_bip rfl (by decide) ?_)
      by_cases h_19 : (B (c2 1 2)) < 48
      · refine v_ic_lt_t (t := 109) rfl rfl ⟨by first | exact q_f97c35332 h_17 | (clear h_1 h_2 h_3 h_4 h_5 h_6 h_7 h_8 h_10; omega) | omega, h_19, by decide⟩ (q_iload_n rfl rfl (q_iload_n rfl rfl ?_))
        by_cases h_20 : v3 ≤ a1
        · refine v_ic_le_t (t := 122) rfl rfl ⟨(Int.le_trans (by decide) hv3.1), h_20, (Int.le_trans ha1.2 (by decide))⟩ (q_iload_n rfl rfl (q_iret rfl rfl ?_))
          have hz8 : dg B e1 (c2 1 2) v3 = (c2 1 2, v3) := dg_z (by omega)
          have hz9 : D8 = c2 1 2 := by rw [← hdD8, ← hx0, hz8]
          have hz10 : V8 = v3 := by rw [← hdV8, ← hx0, hz8]
          exact zv (by omega) (K3 c2 hI2 (fun a j hm => hF a j (fun q => q.elim (fun h => hm (Or.inl h)) (fun q => q.elim (fun h => hm (Or.inr (Or.inl h))) (fun h => hm (Or.inr (Or.inr h)))))) (by omega) (by omega) (by omega) (by omega) (by omega) (by omega))
        · refine v_ic_le_f (t := 122) rfl rfl ⟨(Int.le_trans (by decide) ha1.1), (Int.not_le.mp h_20), (Int.le_trans hv3.2 (by decide))⟩ (q_aload_n rfl rfl (q_iconst rfl (q_iload_n rfl rfl (v_cv rfl rfl rfl rfl (Nat.le_of_ble_eq_true rfl) ⟨⟨rfl, rfl⟩, Nat.le_of_ble_eq_true rfl, rfl⟩ (Nat.le_of_ble_eq_true rfl) (Nat.le_of_ble_eq_true rfl) (q_aload_n rfl rfl (v_gi (z := 4) (v := c2 1 4) rfl rfl rfl (Nat.le_of_ble_eq_true rfl) rfl rfl rfl (v_if_ne_f (t := 17) rfl rfl (by first | (clear h_1 h_2 h_3 h_4 h_6 h_7 h_8 h_10 h_17 h_19 h_20; omega) | omega) ?_)))))))
          refine q_aload_n rfl rfl (q_iload_n rfl rfl (v_pi (z := 4) rfl rfl rfl (Nat.le_of_ble_eq_true rfl) rfl rfl rfl (by decide) (q_aload_n rfl rfl (q_iload_n rfl rfl (v_pi (z := 5) rfl rfl rfl (Nat.le_of_ble_eq_true rfl) rfl rfl rfl (by decide) (q_vret rfl rfl (bk_inl ?_)))))))
          refine q_iconst rfl (q_iret rfl rfl ?_)
          have hz8 : dg B e1 (c2 1 2) v3 = (c2 1 2, v3) := dg_z (by omega)
          have hz9 : D8 = c2 1 2 := by rw [← hdD8, ← hx0, hz8]
          have hz10 : V8 = v3 := by rw [← hdV8, ← hx0, hz8]
          have hI_21 := iw_1_4 (v := 2) hI2 ⟨by decide, by decide⟩
          have hI_22 := iw_1_5 (v := r8) hI_21 ⟨by first | (clear h_1 h_3 h_4 h_5 h_6 h_7 h_8 h_10 h_17 h_19 h_20 hz10; omega) | omega, by first | (clear h_2 h_3 h_4 h_5 h_6 h_7 h_10 h_17 h_19 h_20 hz10; omega) | omega⟩
          have h_23 : (up (up c2 1 4 2) 1 5 r8) 1 2 = c2 1 2 := ((up_n (by decide)).trans (up_n (by decide)))
          have h_24 : (up (up c2 1 4 2) 1 5 r8) 1 4 = 2 := ((up_n (by decide)).trans (up_e rfl))
          have h_25 : (up (up c2 1 4 2) 1 5 r8) 1 5 = r8 := (up_e rfl)
          exact zv (by omega) (K2 (up (up c2 1 4 2) 1 5 r8) hI_22 (fun a j hm => (up_b (Decidable.or_iff_not_imp_left.mpr (fun h1 h2 => hm (Or.inr (Or.inr ⟨Decidable.not_not.mp h1, h2⟩))))).trans ((up_b (Decidable.or_iff_not_imp_left.mpr (fun h1 h2 => hm (Or.inr (Or.inl ⟨Decidable.not_not.mp h1, h2⟩))))).trans (hF a j (fun q => q.elim (fun h => hm (Or.inl h)) (fun q => q.elim (fun h => hm (Or.inr (Or.inl h))) (fun h => hm (Or.inr (Or.inr h)))))))) (by omega) (by omega) (by omega) (by omega) (by omega) (by omega))
      · refine v_ic_lt_f (t := 109) rfl rfl ⟨by decide, (Int.not_lt.mp h_19), by first | exact q_79e53d295 h_17 | (clear h_1 h_2 h_3 h_4 h_5 h_6 h_7 h_8 h_10; omega) | omega⟩ (q_aload_n rfl rfl (v_gr (t := 2) rfl rfl rfl (Nat.le_of_ble_eq_true rfl) rfl (q_aload_n rfl rfl (v_gi (z := 2) (v := c2 1 2) rfl rfl rfl (Nat.le_of_ble_eq_true rfl) rfl rfl rfl (v_ba (v := (B (c2 1 2))) rfl rfl (by decide) (by decide) ⟨h_8.1, by first | (clear h_2 h_3 h_4 h_5 h_6 h_7 h_8 h_17 h_19; omega) | omega⟩ (hid kn_18) (v_bip rfl (by decide) ?_))))))
        by_cases h_26 : (B (c2 1 2)) > 57
        · refine v_ic_gt_t (t := 109) rfl rfl ⟨by decide, h_26, by first | exact q_79e53d295 h_17 | (clear h_1 h_2 h_3 h_4 h_5 h_6 h_7 h_8 h_10 h_19; omega) | omega⟩ (q_iload_n rfl rfl (q_iload_n rfl rfl ?_))
          by_cases h_27 : v3 ≤ a1
          · refine v_ic_le_t (t := 122) rfl rfl ⟨(Int.le_trans (by decide) hv3.1), h_27, (Int.le_trans ha1.2 (by decide))⟩ (q_iload_n rfl rfl (q_iret rfl rfl ?_))
            have hz8 : dg B e1 (c2 1 2) v3 = (c2 1 2, v3) := dg_z (by omega)
            have hz9 : D8 = c2 1 2 := by rw [← hdD8, ← hx0, hz8]
            have hz10 : V8 = v3 := by rw [← hdV8, ← hx0, hz8]
            exact zv (by omega) (K3 c2 hI2 (fun a j hm => hF a j (fun q => q.elim (fun h => hm (Or.inl h)) (fun q => q.elim (fun h => hm (Or.inr (Or.inl h))) (fun h => hm (Or.inr (Or.inr h)))))) (by omega) (by omega) (by omega) (by omega) (by omega) (by omega))
          · refine v_ic_le_f (t := 122) rfl rfl ⟨(Int.le_trans (by decide) ha1.1), (Int.not_le.mp h_27), (Int.le_trans hv3.2 (by decide))⟩ (q_aload_n rfl rfl (q_iconst rfl (q_iload_n rfl rfl (v_cv rfl rfl rfl rfl (Nat.le_of_ble_eq_true rfl) ⟨⟨rfl, rfl⟩, Nat.le_of_ble_eq_true rfl, rfl⟩ (Nat.le_of_ble_eq_true rfl) (Nat.le_of_ble_eq_true rfl) (q_aload_n rfl rfl (v_gi (z := 4) (v := c2 1 4) rfl rfl rfl (Nat.le_of_ble_eq_true rfl) rfl rfl rfl (v_if_ne_f (t := 17) rfl rfl (by first | (clear h_1 h_2 h_3 h_4 h_6 h_7 h_8 h_10 h_17 h_19 h_26 h_27; omega) | omega) ?_)))))))
            refine q_aload_n rfl rfl (q_iload_n rfl rfl (v_pi (z := 4) rfl rfl rfl (Nat.le_of_ble_eq_true rfl) rfl rfl rfl (by decide) (q_aload_n rfl rfl (q_iload_n rfl rfl (v_pi (z := 5) rfl rfl rfl (Nat.le_of_ble_eq_true rfl) rfl rfl rfl (by decide) (q_vret rfl rfl (bk_inl ?_)))))))
            refine q_iconst rfl (q_iret rfl rfl ?_)
            have hz8 : dg B e1 (c2 1 2) v3 = (c2 1 2, v3) := dg_z (by omega)
            have hz9 : D8 = c2 1 2 := by rw [← hdD8, ← hx0, hz8]
            have hz10 : V8 = v3 := by rw [← hdV8, ← hx0, hz8]
            have hI_28 := iw_1_4 (v := 2) hI2 ⟨by decide, by decide⟩
            have hI_29 := iw_1_5 (v := r8) hI_28 ⟨by first | (clear h_1 h_3 h_4 h_5 h_6 h_7 h_8 h_10 h_17 h_19 h_26 h_27 hz10; omega) | omega, by first | (clear h_2 h_3 h_4 h_5 h_6 h_7 h_10 h_17 h_19 h_26 h_27 hz10; omega) | omega⟩
            have h_30 : (up (up c2 1 4 2) 1 5 r8) 1 2 = c2 1 2 := ((up_n (by decide)).trans (up_n (by decide)))
            have h_31 : (up (up c2 1 4 2) 1 5 r8) 1 4 = 2 := ((up_n (by decide)).trans (up_e rfl))
            have h_32 : (up (up c2 1 4 2) 1 5 r8) 1 5 = r8 := (up_e rfl)
            exact zv (by omega) (K2 (up (up c2 1 4 2) 1 5 r8) hI_29 (fun a j hm => (up_b (Decidable.or_iff_not_imp_left.mpr (fun h1 h2 => hm (Or.inr (Or.inr ⟨Decidable.not_not.mp h1, h2⟩))))).trans ((up_b (Decidable.or_iff_not_imp_left.mpr (fun h1 h2 => hm (Or.inr (Or.inl ⟨Decidable.not_not.mp h1, h2⟩))))).trans (hF a j (fun q => q.elim (fun h => hm (Or.inl h)) (fun q => q.elim (fun h => hm (Or.inr (Or.inl h))) (fun h => hm (Or.inr (Or.inr h)))))))) (by omega) (by omega) (by omega) (by omega) (by omega) (by omega))
        · refine v_ic_gt_f (t := 109) rfl rfl ⟨by first | exact q_993cab007 h_19 | (clear h_1 h_2 h_3 h_4 h_5 h_6 h_7 h_8 h_10 h_17; omega) | omega, (Int.not_lt.mp h_26), by decide⟩ (q_iload_n rfl rfl (v_bip rfl (by decide) (v_imul (v := 10 * v3) rfl (by first | (clear h_1 h_2 h_3 h_4 h_5 h_6 h_7 h_8 h_10 h_17 h_19 h_26; omega) | omega) (q_aload_n rfl rfl (v_gr (t := 2) rfl rfl rfl (Nat.le_of_ble_eq_true rfl) rfl (q_aload_n rfl rfl (v_gi (z := 2) (v := c2 1 2) rfl rfl rfl (Nat.le_of_ble_eq_true rfl) rfl rfl rfl ?_)))))))
          refine v_ba (v := (B (c2 1 2))) rfl rfl (by decide) (by decide) ⟨h_8.1, by first | (clear h_2 h_3 h_4 h_5 h_6 h_7 h_8 h_17 h_19 h_26; omega) | omega⟩ (hid kn_18) (v_iadd (v := (B (c2 1 2)) + 10 * v3) rfl (by first | (clear h_1 h_2 h_3 h_4 h_5 h_6 h_7 h_8 h_10 h_17 h_19 h_26; omega) | omega) (v_bip rfl (by decide) (v_isub (v := (B (c2 1 2)) + 10 * v3 - 48) rfl rfl (v_ldc (n := 99999) rfl rfl (by decide +kernel) (v_minx rfl rfl (by omega) (Nat.le_of_ble_eq_true rfl) ⟨by omega, by omega, by omega, by omega⟩ (fun y_33 hy_33 => (q_istore_n rfl (Nat.le_of_ble_eq_true rfl) (q_aload_n rfl rfl ?_))))))))
          refine q_dup rfl rfl (v_gi (z := 2) (v := c2 1 2) rfl rfl rfl (Nat.le_of_ble_eq_true rfl) rfl rfl rfl (q_iconst rfl (v_iadd (v := c2 1 2 + 1) rfl rfl (v_pi (z := 2) rfl rfl rfl (Nat.le_of_ble_eq_true rfl) rfl rfl rfl (by decide) (q_goto (t := 34) rfl rfl ?_)))))
          have hI_34 := iw_1_2 (v := c2 1 2 + 1) hI2 ⟨by first | exact rgp_l h_8.1 (by decide) | omega, by first | (clear h_2 h_3 h_4 h_5 h_6 h_7 h_8 h_17 h_19 h_26; omega) | omega⟩
          refine Wp_ls [(0, .ref 1), (1, vi a1), (2, vi r8), (3, vi y_33)] (lsub_cons rfl (lsub_cons rfl (lsub_cons rfl (lsub_cons rfl lsub_nil)))) ?_
          have hc9 := cp_or (10 * v3 + (B (c2 1 2)) - 48)
          have hc8 : y_33 = cp (10 * v3 + (B (c2 1 2)) - 48) := by omega
          have h_35 : (up c2 1 2 (c2 1 2 + 1)) 1 4 = c2 1 4 := (up_n (by decide))
          have h_36 : (up c2 1 2 (c2 1 2 + 1)) 1 5 = c2 1 5 := (up_n (by decide))
          have h_37 : (up c2 1 2 (c2 1 2 + 1)) 1 2 = c2 1 2 + 1 := (up_e rfl)
          exact ih (up c2 1 2 (c2 1 2 + 1)) y_33 hI_34 (fun a j hm => (up_b (Decidable.or_iff_not_imp_left.mpr (fun h1 h2 => hm (Or.inl ⟨Decidable.not_not.mp h1, h2⟩)))).trans (hF a j (fun q => q.elim (fun h => hm (Or.inl h)) (fun q => q.elim (fun h => hm (Or.inr (Or.inl h))) (fun h => hm (Or.inr (Or.inr h))))))) ⟨by omega, by omega⟩ (by rw [show (up c2 1 2 (c2 1 2 + 1)) 1 2 = c2 1 2 + 1 from (up_e rfl), hc8]; exact (dg_s (by omega)).symm.trans hx0) (by omega) (by omega) (by omega) (by omega) (by omega) (by omega)
set_option maxRecDepth 100000 in
set_option maxHeartbeats 4000000 in
theorem f_8 {sc : List Int32} {e : Int} {d u P Q : Nat} {c : ME} {e1 a9 f9 p9 r8 D8 V8 a1 : Int} {B : Int → Int} {Z : AR → Prop} (hI : Iv u e P Q c) (ha1 : (-1) ≤ a1 ∧ a1 ≤ 9999) (hv0 : c 1 1 = e1) (hv1 : c 1 2 = a9) (hv2 : c 1 4 = f9) (hv3 : c 1 5 = p9) (hB : ∀ j : Int, c 2 j = B j) (hdr8 : nx B e1 a9 = r8) (hdD8 : (dg B e1 r8 0).1 = D8) (hdV8 : (dg B e1 r8 0).2 = V8) (K0 : ∀ c2 : ME, Iv u e P Q c2 → (∀ (a : Nat) (j : Int), ¬ ((a = 1 ∧ j = 2) ∨ (a = 1 ∧ j = 4) ∨ (a = 1 ∧ j = 5)) → c2 a j = c a j) → ((f9 ≠ 0)) → (c2 1 2 = a9) → (c2 1 4 = f9) → (c2 1 5 = p9) → Z (.inl (some (vi 0)), Wd P Q P P c2, 0, 0)) (K1 : ∀ c2 : ME, Iv u e P Q c2 → (∀ (a : Nat) (j : Int), ¬ ((a = 1 ∧ j = 2) ∨ (a = 1 ∧ j = 4) ∨ (a = 1 ∧ j = 5)) → c2 a j = c a j) → ((f9 = 0)) → ((r8 ≥ e1) ∨ ((B r8) < 48) ∨ ((B r8) > 57)) → (c2 1 2 = r8) → (c2 1 4 = 1) → (c2 1 5 = r8) → Z (.inl (some (vi 0)), Wd P Q P P c2, 0, 0)) (K2 : ∀ c2 : ME, Iv u e P Q c2 → (∀ (a : Nat) (j : Int), ¬ ((a = 1 ∧ j = 2) ∨ (a = 1 ∧ j = 4) ∨ (a = 1 ∧ j = 5)) → c2 a j = c a j) → ((f9 = 0)) → ((r8 < e1 ∧ (B r8) ≥ 48 ∧ (B r8) ≤ 57)) → ((V8 > a1)) → (c2 1 2 = D8) → (c2 1 4 = 2) → (c2 1 5 = r8) → Z (.inl (some (vi 0)), Wd P Q P P c2, 0, 0)) (K3 : ∀ c2 : ME, Iv u e P Q c2 → (∀ (a : Nat) (j : Int), ¬ ((a = 1 ∧ j = 2) ∨ (a = 1 ∧ j = 4) ∨ (a = 1 ∧ j = 5)) → c2 a j = c a j) → ((f9 = 0)) → ((r8 < e1 ∧ (B r8) ≥ 48 ∧ (B r8) ≤ 57)) → ((V8 ≤ a1)) → (c2 1 2 = D8) → (c2 1 4 = 0) → (c2 1 5 = p9) → Z (.inl (some (vi V8)), Wd P Q P P c2, 0, 0)) : Wp sc (d + 12) 8 0 [(0, .ref 1), (1, vi a1)] [] (Wd P Q P P c) 0 0 Z := by
  have hP := iv_P hI
  have hQ := iv_Q hI
  have h_38 := ir_1_1 hI
  have h_39 := ir_1_2 hI
  have h_40 := ir_1_4 hI
  have h_41 := ir_1_5 hI
  have hn1 := nx_bd (b := B) (e := e1) (a := a9)
  rw [hdr8] at hn1
  have hn2 := dg_bd (b := B) (e := e1) (a := r8) (v := 0) (by decide)
  rw [hdD8, hdV8] at hn2
  have hn3 := nx_n (b := B) (e := e1) (a := a9)
  rw [hdr8] at hn3
  have h_42 : -2147483648 ≤ (B r8) ∧ (B r8) ≤ 2147483647 := by rw [← hB r8]; exact ir_2 hI r8
  refine q_aload_n rfl rfl (v_cv rfl rfl rfl rfl (Nat.le_of_ble_eq_true rfl) ⟨⟨rfl, rfl⟩, Nat.le_of_ble_eq_true rfl, rfl⟩ (Nat.le_of_ble_eq_true rfl) (Nat.le_of_ble_eq_true rfl) (q_aload_n rfl rfl (v_gi (z := 4) (v := f9) rfl rfl rfl (Nat.le_of_ble_eq_true rfl) rfl rfl (hv2) ?_)))
  by_cases h_43 : f9 ≠ 0
  · refine v_if_ne_t (t := 11) rfl rfl ⟨h_43, ⟨by first | (clear h_38 h_39 h_41 h_42; omega) | omega, by first | (clear h_38 h_39 h_41 h_42; omega) | omega⟩, by decide, by decide⟩ (q_iconst rfl (v_zret rfl rfl (by decide) (bk_inl (v_if_ne_f (t := 9) rfl rfl (by decide) (q_iconst rfl (q_iret rfl rfl ?_))))))
    have h_44 : c 1 2 = a9 := (hv1)
    have h_45 : c 1 4 = f9 := (hv2)
    have h_46 : c 1 5 = p9 := (hv3)
    exact zv (by omega) (K0 c hI (fun a j hm => rfl) (by omega) (by omega) (by omega) (by omega))
  · refine v_if_ne_f (t := 11) rfl rfl (Decidable.not_not.mp h_43) (q_iconst rfl (q_goto (t := 12) rfl rfl (v_zret rfl rfl (by decide) (bk_inl (v_if_ne_t (t := 9) rfl rfl (by decide) (q_aload_n rfl rfl (v_cv rfl rfl rfl rfl (Nat.le_of_ble_eq_true rfl) ⟨⟨rfl, rfl⟩, Nat.le_of_ble_eq_true rfl, rfl⟩ (Nat.le_of_ble_eq_true rfl) (Nat.le_of_ble_eq_true rfl) ?_)))))))
    refine q_aload_n rfl rfl ?_
    have h_47 : -2147483648 ≤ (B a9) ∧ (B a9) ≤ 2147483647 := by rw [← hB a9]; exact ir_2 hI a9
    refine v_cv rfl rfl rfl rfl (Nat.le_of_ble_eq_true rfl) ⟨⟨rfl, rfl⟩, Nat.le_of_ble_eq_true rfl, rfl⟩ (Nat.le_of_ble_eq_true rfl) (Nat.le_of_ble_eq_true rfl) (f_3 (e1 := e1) (a9 := a9) (B := B) (r8 := r8) hI ((hv0)) ((hv1)) (fun j => hB j) hdr8 (fun c_48 hI_49 hF_50 hz_51 => (bk_inl (q_istore_n rfl (Nat.le_of_ble_eq_true rfl) (q_iload_n rfl rfl (q_aload_n rfl rfl ?_))))))
    have kn_52 : Hid (c_48 1 1 = e1) := (hF_50 1 1 (fun h => absurd h.2 (ni rfl))).trans (hv0)
    refine v_gi (z := 1) (v := e1) rfl rfl rfl (Nat.le_of_ble_eq_true rfl) rfl rfl (hid kn_52) ?_
    by_cases h_53 : r8 ≥ e1
    · refine v_ic_ge_t (t := 39) rfl rfl ⟨by first | (clear h_39 h_40 h_41 h_42 h_43 h_47; omega) | omega, h_53, by omega⟩ (q_iconst rfl (v_zret rfl rfl (by decide) (bk_inl (v_if_ne_f (t := 27) rfl rfl (by decide) (q_aload_n rfl rfl (q_iconst rfl (q_aload_n rfl rfl ?_)))))))
      refine v_gi (z := 2) (v := r8) rfl rfl rfl (Nat.le_of_ble_eq_true rfl) rfl rfl (hz_51) (v_cv rfl rfl rfl rfl (Nat.le_of_ble_eq_true rfl) ⟨⟨rfl, rfl⟩, Nat.le_of_ble_eq_true rfl, rfl⟩ (Nat.le_of_ble_eq_true rfl) (Nat.le_of_ble_eq_true rfl) (q_aload_n rfl rfl ?_))
      have kn_54 : Hid (c_48 1 4 = f9) := (hF_50 1 4 (fun h => absurd h.2 (ni rfl))).trans (hv2)
      refine v_gi (z := 4) (v := f9) rfl rfl rfl (Nat.le_of_ble_eq_true rfl) rfl rfl (hid kn_54) (v_if_ne_f (t := 17) rfl rfl (by first | exact q_0002e0578 h_43 | (clear h_38 h_39 h_40 h_41 h_42 h_47 h_53; omega) | omega) (q_aload_n rfl rfl (q_iload_n rfl rfl (v_pi (z := 4) rfl rfl rfl (Nat.le_of_ble_eq_true rfl) rfl rfl rfl (by decide) (q_aload_n rfl rfl (q_iload_n rfl rfl (v_pi (z := 5) rfl rfl rfl (Nat.le_of_ble_eq_true rfl) rfl rfl rfl (by decide) ?_)))))))
      refine q_vret rfl rfl (bk_inl (q_iconst rfl (q_iret rfl rfl ?_)))
      have hI_55 := iw_1_4 (v := 1) hI_49 ⟨by decide, by decide⟩
      have hI_56 := iw_1_5 (v := r8) hI_55 ⟨by first | (clear h_39 h_40 h_41 h_42 h_43 h_47; omega) | omega, by omega⟩
      have h_57 : (up (up c_48 1 4 1) 1 5 r8) 1 2 = r8 := ((up_n (by decide)).trans ((up_n (by decide)).trans (hz_51)))
      have h_58 : (up (up c_48 1 4 1) 1 5 r8) 1 4 = 1 := ((up_n (by decide)).trans (up_e rfl))
      have h_59 : (up (up c_48 1 4 1) 1 5 r8) 1 5 = r8 := (up_e rfl)
      exact zv (by omega) (K1 (up (up c_48 1 4 1) 1 5 r8) hI_56 (fun a j hm => (up_b (Decidable.or_iff_not_imp_left.mpr (fun h1 h2 => hm (Or.inr (Or.inr ⟨Decidable.not_not.mp h1, h2⟩))))).trans ((up_b (Decidable.or_iff_not_imp_left.mpr (fun h1 h2 => hm (Or.inr (Or.inl ⟨Decidable.not_not.mp h1, h2⟩))))).trans (hF_50 a j (fun h => hm (Or.inl h))))) (by omega) (by omega) (by omega) (by omega) (by omega))
    · refine v_ic_ge_f (t := 39) rfl rfl ⟨by first | (clear h_38 h_40 h_41 h_42 h_43 h_47; omega) | omega, (Int.not_le.mp h_53), by first | (clear h_39 h_40 h_41 h_42 h_43 h_47; omega) | omega⟩ (q_aload_n rfl rfl (v_gr (t := 2) rfl rfl rfl (Nat.le_of_ble_eq_true rfl) rfl (q_iload_n rfl rfl ?_)))
      have kn_60 : Hid (c_48 2 r8 = (B r8)) := (hF_50 2 r8 (fun h => absurd h.1 (nn rfl))).trans (hB r8)
      refine v_ba (v := (B r8)) rfl rfl (by decide) (by decide) ⟨by first | (clear h_38 h_40 h_41 h_42 h_43 h_47 h_53; omega) | omega, by first | (clear h_39 h_40 h_41 h_42 h_43 h_47; omega) | omega⟩ (hid kn_60) (v_bip rfl (by decide) ?_)
      by_cases h_61 : (B r8) < 48
      · refine v_ic_lt_t (t := 39) rfl rfl ⟨h_42.1, h_61, by decide⟩ (q_iconst rfl (v_zret rfl rfl (by decide) (bk_inl (v_if_ne_f (t := 27) rfl rfl (by decide) (q_aload_n rfl rfl (q_iconst rfl (q_aload_n rfl rfl ?_)))))))
        refine v_gi (z := 2) (v := r8) rfl rfl rfl (Nat.le_of_ble_eq_true rfl) rfl rfl (hz_51) (v_cv rfl rfl rfl rfl (Nat.le_of_ble_eq_true rfl) ⟨⟨rfl, rfl⟩, Nat.le_of_ble_eq_true rfl, rfl⟩ (Nat.le_of_ble_eq_true rfl) (Nat.le_of_ble_eq_true rfl) (q_aload_n rfl rfl ?_))
        have kn_62 : Hid (c_48 1 4 = f9) := (hF_50 1 4 (fun h => absurd h.2 (ni rfl))).trans (hv2)
        refine v_gi (z := 4) (v := f9) rfl rfl rfl (Nat.le_of_ble_eq_true rfl) rfl rfl (hid kn_62) (v_if_ne_f (t := 17) rfl rfl (by first | exact q_0002e0578 h_43 | (clear h_38 h_39 h_40 h_41 h_42 h_47 h_53 h_61; omega) | omega) (q_aload_n rfl rfl (q_iload_n rfl rfl (v_pi (z := 4) rfl rfl rfl (Nat.le_of_ble_eq_true rfl) rfl rfl rfl (by decide) (q_aload_n rfl rfl (q_iload_n rfl rfl (v_pi (z := 5) rfl rfl rfl (Nat.le_of_ble_eq_true rfl) rfl rfl rfl (by decide) ?_)))))))
        refine q_vret rfl rfl (bk_inl (q_iconst rfl (q_iret rfl rfl ?_)))
        have hI_63 := iw_1_4 (v := 1) hI_49 ⟨by decide, by decide⟩
        have hI_64 := iw_1_5 (v := r8) hI_63 ⟨by first | (clear h_38 h_40 h_41 h_42 h_43 h_47 h_53 h_61; omega) | omega, by first | (clear h_39 h_40 h_41 h_42 h_43 h_47 h_61; omega) | omega⟩
        have h_65 : (up (up c_48 1 4 1) 1 5 r8) 1 2 = r8 := ((up_n (by decide)).trans ((up_n (by decide)).trans (hz_51)))
        have h_66 : (up (up c_48 1 4 1) 1 5 r8) 1 4 = 1 := ((up_n (by decide)).trans (up_e rfl))
        have h_67 : (up (up c_48 1 4 1) 1 5 r8) 1 5 = r8 := (up_e rfl)
        exact zv (by omega) (K1 (up (up c_48 1 4 1) 1 5 r8) hI_64 (fun a j hm => (up_b (Decidable.or_iff_not_imp_left.mpr (fun h1 h2 => hm (Or.inr (Or.inr ⟨Decidable.not_not.mp h1, h2⟩))))).trans ((up_b (Decidable.or_iff_not_imp_left.mpr (fun h1 h2 => hm (Or.inr (Or.inl ⟨Decidable.not_not.mp h1, h2⟩))))).trans (hF_50 a j (fun h => hm (Or.inl h))))) (by omega) (by omega) (by omega) (by omega) (by omega))
      · refine v_ic_lt_f (t := 39) rfl rfl ⟨by decide, (Int.not_lt.mp h_61), h_42.2⟩ (q_aload_n rfl rfl (v_gr (t := 2) rfl rfl rfl (Nat.le_of_ble_eq_true rfl) rfl (q_iload_n rfl rfl (v_ba (v := (B r8)) rfl rfl (by decide) (by decide) ⟨by first | (clear h_38 h_40 h_41 h_42 h_43 h_47 h_53 h_61; omega) | omega, by first | (clear h_39 h_40 h_41 h_42 h_43 h_47 h_61; omega) | omega⟩ (hid kn_60) (v_bip rfl (by decide) ?_)))))
        by_cases h_68 : (B r8) > 57
        · refine v_ic_gt_t (t := 39) rfl rfl ⟨by decide, h_68, h_42.2⟩ (q_iconst rfl (v_zret rfl rfl (by decide) (bk_inl (v_if_ne_f (t := 27) rfl rfl (by decide) (q_aload_n rfl rfl (q_iconst rfl (q_aload_n rfl rfl ?_)))))))
          refine v_gi (z := 2) (v := r8) rfl rfl rfl (Nat.le_of_ble_eq_true rfl) rfl rfl (hz_51) (v_cv rfl rfl rfl rfl (Nat.le_of_ble_eq_true rfl) ⟨⟨rfl, rfl⟩, Nat.le_of_ble_eq_true rfl, rfl⟩ (Nat.le_of_ble_eq_true rfl) (Nat.le_of_ble_eq_true rfl) (q_aload_n rfl rfl ?_))
          have kn_69 : Hid (c_48 1 4 = f9) := (hF_50 1 4 (fun h => absurd h.2 (ni rfl))).trans (hv2)
          refine v_gi (z := 4) (v := f9) rfl rfl rfl (Nat.le_of_ble_eq_true rfl) rfl rfl (hid kn_69) (v_if_ne_f (t := 17) rfl rfl (by first | exact q_0002e0578 h_43 | (clear h_38 h_39 h_40 h_41 h_42 h_47 h_53 h_61 h_68; omega) | omega) (q_aload_n rfl rfl (q_iload_n rfl rfl (v_pi (z := 4) rfl rfl rfl (Nat.le_of_ble_eq_true rfl) rfl rfl rfl (by decide) (q_aload_n rfl rfl (q_iload_n rfl rfl (v_pi (z := 5) rfl rfl rfl (Nat.le_of_ble_eq_true rfl) rfl rfl rfl (by decide) ?_)))))))
          refine q_vret rfl rfl (bk_inl (q_iconst rfl (q_iret rfl rfl ?_)))
          have hI_70 := iw_1_4 (v := 1) hI_49 ⟨by decide, by decide⟩
          have hI_71 := iw_1_5 (v := r8) hI_70 ⟨by first | (clear h_38 h_40 h_41 h_42 h_43 h_47 h_53 h_61 h_68; omega) | omega, by first | (clear h_39 h_40 h_41 h_42 h_43 h_47 h_61 h_68; omega) | omega⟩
          have h_72 : (up (up c_48 1 4 1) 1 5 r8) 1 2 = r8 := ((up_n (by decide)).trans ((up_n (by decide)).trans (hz_51)))
          have h_73 : (up (up c_48 1 4 1) 1 5 r8) 1 4 = 1 := ((up_n (by decide)).trans (up_e rfl))
          have h_74 : (up (up c_48 1 4 1) 1 5 r8) 1 5 = r8 := (up_e rfl)
          exact zv (by omega) (K1 (up (up c_48 1 4 1) 1 5 r8) hI_71 (fun a j hm => (up_b (Decidable.or_iff_not_imp_left.mpr (fun h1 h2 => hm (Or.inr (Or.inr ⟨Decidable.not_not.mp h1, h2⟩))))).trans ((up_b (Decidable.or_iff_not_imp_left.mpr (fun h1 h2 => hm (Or.inr (Or.inl ⟨Decidable.not_not.mp h1, h2⟩))))).trans (hF_50 a j (fun h => hm (Or.inl h))))) (by omega) (by omega) (by omega) (by omega) (by omega))
        · refine v_ic_gt_f (t := 39) rfl rfl ⟨h_42.1, (Int.not_lt.mp h_68), by decide⟩ (q_iconst rfl (q_goto (t := 40) rfl rfl (v_zret rfl rfl (by decide) (bk_inl (v_if_ne_t (t := 27) rfl rfl (by decide) (q_aload_n rfl rfl (v_gi (z := 2) (v := r8) rfl rfl rfl (Nat.le_of_ble_eq_true rfl) rfl rfl (hz_51) ?_)))))))
          refine q_istore_n rfl (Nat.le_of_ble_eq_true rfl) (q_iconst rfl (q_istore_n rfl (Nat.le_of_ble_eq_true rfl) (Wp_ls [(0, .ref 1), (1, vi a1), (2, vi r8), (3, vi 0)] (lsub_cons rfl (lsub_cons rfl (lsub_cons rfl (lsub_cons rfl lsub_nil)))) ?_)))
          have kn_75 : Hid (c_48 1 4 = f9) := (hF_50 1 4 (fun h => absurd h.2 (ni rfl))).trans (hv2)
          have h_76 : c_48 1 4 = f9 := (hid kn_75)
          have kn_77 : Hid (c_48 1 5 = p9) := (hF_50 1 5 (fun h => absurd h.2 (ni rfl))).trans (hv3)
          have h_78 : c_48 1 5 = p9 := (hid kn_77)
          have h_79 : c_48 1 2 = r8 := (hz_51)
          exact (f_8_l (sc := sc) (d := d) hI ha1 hv0 hv1 hv2 hv3 hB hdr8 hdD8 hdV8 K0 K1 K2 K3 601) c_48 0 hI_49 (fun a j hm => hF_50 a j (fun h => hm (Or.inl h))) ⟨by omega, by omega⟩ (by rw [show c_48 1 2 = r8 from (hz_51)]) (by omega) (by omega) (by omega) (by omega) (by omega) (by omega)

set_option maxRecDepth 100000 in
set_option maxHeartbeats 4000000 in
theorem f_160_l {sc : List Int32} {e : Int} {d u P Q : Nat} {c : ME} {e1 a9 f9 k9 r8 D8 V8 a1 a2 : Int} {B : Int → Int} {Z : AR → Prop} (hI : Iv u e P Q c) (ha1 : 0 ≤ a1 ∧ a1 ≤ 1) (ha2 : (-1) ≤ a2 ∧ a2 ≤ 9999) (hv0 : c 41 3 = e1) (hv1 : c 41 4 = a9) (hv2 : c 41 5 = f9) (hv3 : c 41 6 = k9) (hB : ∀ j : Int, c 43 j = B j) (hdr8 : nx B e1 a9 = r8) (hdD8 : (dg B e1 r8 0).1 = D8) (hdV8 : (dg B e1 r8 0).2 = V8) (K0 : ∀ c2 : ME, Iv u e P Q c2 → (∀ (a : Nat) (j : Int), ¬ ((a = 41 ∧ j = 4) ∨ (a = 41 ∧ j = 5) ∨ (a = 41 ∧ j = 6)) → c2 a j = c a j) → ((f9 ≠ (-1))) → (c2 41 4 = a9) → (c2 41 5 = f9) → (c2 41 6 = k9) → Z (.inl (some (vi 0)), Wd P Q P P c2, 0, 0)) (K1 : ∀ c2 : ME, Iv u e P Q c2 → (∀ (a : Nat) (j : Int), ¬ ((a = 41 ∧ j = 4) ∨ (a = 41 ∧ j = 5) ∨ (a = 41 ∧ j = 6)) → c2 a j = c a j) → ((f9 = (-1))) → ((r8 ≥ e1) ∨ ((B r8) < 48) ∨ ((B r8) > 57)) → (c2 41 4 = r8) → (c2 41 5 = r8) → (c2 41 6 = 1) → Z (.inl (some (vi 0)), Wd P Q P P c2, 0, 0)) (K2 : ∀ c2 : ME, Iv u e P Q c2 → (∀ (a : Nat) (j : Int), ¬ ((a = 41 ∧ j = 4) ∨ (a = 41 ∧ j = 5) ∨ (a = 41 ∧ j = 6)) → c2 a j = c a j) → ((f9 = (-1))) → ((r8 < e1 ∧ (B r8) ≥ 48 ∧ (B r8) ≤ 57)) → ((V8 < a1) ∨ (V8 > a2)) → (c2 41 4 = D8) → (c2 41 5 = r8) → (c2 41 6 = 2) → Z (.inl (some (vi 0)), Wd P Q P P c2, 0, 0)) (K3 : ∀ c2 : ME, Iv u e P Q c2 → (∀ (a : Nat) (j : Int), ¬ ((a = 41 ∧ j = 4) ∨ (a = 41 ∧ j = 5) ∨ (a = 41 ∧ j = 6)) → c2 a j = c a j) → ((f9 = (-1))) → ((r8 < e1 ∧ (B r8) ≥ 48 ∧ (B r8) ≤ 57)) → ((V8 ≥ a1)) → ((V8 ≤ a2)) → (c2 41 4 = D8) → (c2 41 5 = (-1)) → (c2 41 6 = k9) → Z (.inl (some (vi V8)), Wd P Q P P c2, 0, 0)) : ∀ n : Nat, (∀ (c2 : ME) (v5 : Int) (u4 : Int), Iv u e P Q c2 → (∀ (a : Nat) (j : Int), ¬ ((a = 41 ∧ j = 4) ∨ (a = 41 ∧ j = 5) ∨ (a = 41 ∧ j = 6)) → c2 a j = c a j) → 0 ≤ v5 ∧ v5 ≤ 99999 → 0 ≤ u4 ∧ u4 ≤ 99999 → (dg B e1 (c2 41 4) u4 = dg B e1 r8 0) → ((v5 = u4) ∨ (v5 ≥ 10000 ∧ u4 ≥ 10000)) → ((c2 41 5 = (-1))) → ((c2 41 6 = k9)) → ((f9 = (-1))) → ((c2 41 4 ≥ r8)) → ((r8 < e1 ∧ (B r8) ≥ 48 ∧ (B r8) ≤ 57)) → 605 - c2 41 4 < (n : Int) → Wp sc (d + 12) 160 41 [(0, .ref 41), (1, vi a1), (2, vi a2), (4, vi r8), (5, vi v5)] [] (Wd P Q P P c2) 0 0 Z)
  | 0 => by intro c2 v5 u4 hI2 hF hv5 hu4 hx0 hx1 hx2 hx3 hx4 hx5 hx6 hm9; have hP := iv_P hI; have hQ := iv_Q hI; have h_1 := ir_41_3 hI; have h_2 := ir_41_4 hI; have h_3 := ir_41_5 hI; have h_4 := ir_41_6 hI; have h_5 : -2147483648 ≤ (B r8) ∧ (B r8) ≤ 2147483647 := (by rw [← hB r8]; exact ir_43 hI r8); have h_6 := ir_41_5 hI2; have h_7 := ir_41_6 hI2; have h_8 := ir_41_4 hI2; exfalso; omega
  | n + 1 => by
    have hP := iv_P hI
    have hQ := iv_Q hI
    have ih := f_160_l (sc := sc) (d := d) hI ha1 ha2 hv0 hv1 hv2 hv3 hB hdr8 hdD8 hdV8 K0 K1 K2 K3 n
    intro c2 v5 u4 hI2 hF hv5 hu4 hx0 hx1 hx2 hx3 hx4 hx5 hx6 hm9
    have h_1 := ir_41_3 hI
    have h_2 := ir_41_4 hI
    have h_3 := ir_41_5 hI
    have h_4 := ir_41_6 hI
    have hn1 := nx_bd (b := B) (e := e1) (a := a9)
    rw [hdr8] at hn1
    have hn2 := dg_bd (b := B) (e := e1) (a := r8) (v := 0) (by decide)
    rw [hdD8, hdV8] at hn2
    have hn3 := nx_n (b := B) (e := e1) (a := a9)
    rw [hdr8] at hn3
    have h_5 : -2147483648 ≤ (B r8) ∧ (B r8) ≤ 2147483647 := by rw [← hB r8]; exact ir_43 hI r8
    have h_6 := ir_41_5 hI2
    have h_7 := ir_41_6 hI2
    have h_8 := ir_41_4 hI2
    refine q_aload_n rfl rfl (v_gi (z := 4) (v := c2 41 4) rfl rfl rfl (Nat.le_of_ble_eq_true rfl) rfl rfl rfl (q_aload_n rfl rfl ?_))
    have kn_9 : Hid (c2 41 3 = e1) := (hF 41 3 (fun q => q.elim (fun h => absurd h.2 (ni rfl)) (fun q => q.elim (fun h => absurd h.2 (ni rfl)) (fun h => absurd h.2 (ni rfl))))).trans (hv0)
    refine v_gi (z := 3) (v := e1) rfl rfl rfl (Nat.le_of_ble_eq_true rfl) rfl rfl (hid kn_9) ?_
    by_cases h_10 : c2 41 4 ≥ e1
    · refine v_ic_ge_t (t := 114) rfl rfl ⟨by first | (clear h_2 h_3 h_4 h_5 h_6 h_7 h_8; omega) | omega, h_10, (Int.le_trans h_8.2 (by decide))⟩ (q_iload rfl rfl (q_iload_n rfl rfl ?_))
      by_cases h_11 : v5 < a1
      · refine v_ic_lt_t (t := 126) rfl rfl ⟨(Int.le_trans (by decide) hv5.1), h_11, (Int.le_trans ha1.2 (by decide))⟩ (q_aload_n rfl rfl (q_iconst rfl (q_iload rfl rfl (v_cv rfl rfl rfl rfl (Nat.le_of_ble_eq_true rfl) ⟨⟨rfl, rfl⟩, Nat.le_of_ble_eq_true rfl, rfl⟩ (Nat.le_of_ble_eq_true rfl) (Nat.le_of_ble_eq_true rfl) (q_aload_n rfl rfl (v_gi (z := 5) (v := c2 41 5) rfl rfl rfl (Nat.le_of_ble_eq_true rfl) rfl rfl rfl (q_iconst rfl ?_)))))))
        refine v_ic_eq_t (t := 9) rfl rfl (by omega) (q_aload_n rfl rfl (q_iload_n rfl rfl (v_pi (z := 5) rfl rfl rfl (Nat.le_of_ble_eq_true rfl) rfl rfl rfl (by decide) (q_aload_n rfl rfl (q_iload_n rfl rfl (v_pi (z := 6) rfl rfl rfl (Nat.le_of_ble_eq_true rfl) rfl rfl rfl (by decide) (q_vret rfl rfl ?_)))))))
        refine bk_inl (q_iconst rfl (q_iret rfl rfl ?_))
        have hz8 : dg B e1 (c2 41 4) u4 = (c2 41 4, u4) := dg_z (by omega)
        have hz9 : D8 = c2 41 4 := by rw [← hdD8, ← hx0, hz8]
        have hz10 : V8 = u4 := by rw [← hdV8, ← hx0, hz8]
        have hI_12 := iw_41_5 (v := r8) hI2 ⟨by first | (clear h_1 h_3 h_4 h_5 h_6 h_7 h_8 h_10 h_11 hz10; omega) | omega, by first | (clear h_2 h_3 h_4 h_5 h_6 h_7 h_10 h_11 hz10; omega) | omega⟩
        have hI_13 := iw_41_6 (v := 2) hI_12 ⟨by decide, by decide⟩
        have h_14 : (up (up c2 41 5 r8) 41 6 2) 41 4 = c2 41 4 := ((up_n (by decide)).trans (up_n (by decide)))
        have h_15 : (up (up c2 41 5 r8) 41 6 2) 41 5 = r8 := ((up_n (by decide)).trans (up_e rfl))
        have h_16 : (up (up c2 41 5 r8) 41 6 2) 41 6 = 2 := (up_e rfl)
        exact zv (by omega) (K2 (up (up c2 41 5 r8) 41 6 2) hI_13 (fun a j hm => (up_b (Decidable.or_iff_not_imp_left.mpr (fun h1 h2 => hm (Or.inr (Or.inr ⟨Decidable.not_not.mp h1, h2⟩))))).trans ((up_b (Decidable.or_iff_not_imp_left.mpr (fun h1 h2 => hm (Or.inr (Or.inl ⟨Decidable.not_not.mp h1, h2⟩))))).trans (hF a j (fun q => q.elim (fun h => hm (Or.inl h)) (fun q => q.elim (fun h => hm (Or.inr (Or.inl h))) (fun h => hm (Or.inr (Or.inr h)))))))) (by omega) (by omega) (by omega) (by omega) (by omega) (by omega))
      · refine v_ic_lt_f (t := 126) rfl rfl ⟨(Int.le_trans (by decide) ha1.1), (Int.not_lt.mp h_11), (Int.le_trans hv5.2 (by decide))⟩ (q_iload rfl rfl (q_iload_n rfl rfl ?_))
        by_cases h_17 : v5 ≤ a2
        · refine v_ic_le_t (t := 135) rfl rfl ⟨(Int.le_trans (by decide) hv5.1), h_17, (Int.le_trans ha2.2 (by decide))⟩ (q_iload rfl rfl (q_iret rfl rfl ?_))
          have hz8 : dg B e1 (c2 41 4) u4 = (c2 41 4, u4) := dg_z (by omega)
          have hz9 : D8 = c2 41 4 := by rw [← hdD8, ← hx0, hz8]
          have hz10 : V8 = u4 := by rw [← hdV8, ← hx0, hz8]
          exact zv (by omega) (K3 c2 hI2 (fun a j hm => hF a j (fun q => q.elim (fun h => hm (Or.inl h)) (fun q => q.elim (fun h => hm (Or.inr (Or.inl h))) (fun h => hm (Or.inr (Or.inr h)))))) (by omega) (by omega) (by omega) (by omega) (by omega) (by omega) (by omega))
        · refine v_ic_le_f (t := 135) rfl rfl ⟨(Int.le_trans (by decide) ha2.1), (Int.not_le.mp h_17), (Int.le_trans hv5.2 (by decide))⟩ (q_aload_n rfl rfl (q_iconst rfl (q_iload rfl rfl (v_cv rfl rfl rfl rfl (Nat.le_of_ble_eq_true rfl) ⟨⟨rfl, rfl⟩, Nat.le_of_ble_eq_true rfl, rfl⟩ (Nat.le_of_ble_eq_true rfl) (Nat.le_of_ble_eq_true rfl) (q_aload_n rfl rfl (v_gi (z := 5) (v := c2 41 5) rfl rfl rfl (Nat.le_of_ble_eq_true rfl) rfl rfl rfl (q_iconst rfl ?_)))))))
          refine v_ic_eq_t (t := 9) rfl rfl (by first | (clear h_1 h_2 h_3 h_4 h_6 h_7 h_8 h_10 h_11 h_17; omega) | omega) (q_aload_n rfl rfl (q_iload_n rfl rfl (v_pi (z := 5) rfl rfl rfl (Nat.le_of_ble_eq_true rfl) rfl rfl rfl (by decide) (q_aload_n rfl rfl (q_iload_n rfl rfl (v_pi (z := 6) rfl rfl rfl (Nat.le_of_ble_eq_true rfl) rfl rfl rfl (by decide) (q_vret rfl rfl ?_)))))))
          refine bk_inl (q_iconst rfl (q_iret rfl rfl ?_))
          have hz8 : dg B e1 (c2 41 4) u4 = (c2 41 4, u4) := dg_z (by omega)
          have hz9 : D8 = c2 41 4 := by rw [← hdD8, ← hx0, hz8]
          have hz10 : V8 = u4 := by rw [← hdV8, ← hx0, hz8]
          have hI_18 := iw_41_5 (v := r8) hI2 ⟨by first | (clear h_1 h_3 h_4 h_5 h_6 h_7 h_8 h_10 h_11 h_17 hz10; omega) | omega, by first | (clear h_2 h_3 h_4 h_5 h_6 h_7 h_10 h_11 h_17 hz10; omega) | omega⟩
          have hI_19 := iw_41_6 (v := 2) hI_18 ⟨by decide, by decide⟩
          have h_20 : (up (up c2 41 5 r8) 41 6 2) 41 4 = c2 41 4 := ((up_n (by decide)).trans (up_n (by decide)))
          have h_21 : (up (up c2 41 5 r8) 41 6 2) 41 5 = r8 := ((up_n (by decide)).trans (up_e rfl))
          have h_22 : (up (up c2 41 5 r8) 41 6 2) 41 6 = 2 := (up_e rfl)
          exact zv (by omega) (K2 (up (up c2 41 5 r8) 41 6 2) hI_19 (fun a j hm => (up_b (Decidable.or_iff_not_imp_left.mpr (fun h1 h2 => hm (Or.inr (Or.inr ⟨Decidable.not_not.mp h1, h2⟩))))).trans ((up_b (Decidable.or_iff_not_imp_left.mpr (fun h1 h2 => hm (Or.inr (Or.inl ⟨Decidable.not_not.mp h1, h2⟩))))).trans (hF a j (fun q => q.elim (fun h => hm (Or.inl h)) (fun q => q.elim (fun h => hm (Or.inr (Or.inl h))) (fun h => hm (Or.inr (Or.inr h)))))))) (by omega) (by omega) (by omega) (by omega) (by omega) (by omega))
    · refine v_ic_ge_f (t := 114) rfl rfl ⟨(Int.le_trans (by decide) h_8.1), (Int.not_le.mp h_10), by first | (clear h_2 h_3 h_4 h_5 h_6 h_7 h_8; omega) | omega⟩ (q_aload_n rfl rfl (v_gr (t := 43) rfl rfl rfl (Nat.le_of_ble_eq_true rfl) rfl (q_aload_n rfl rfl (v_gi (z := 4) (v := c2 41 4) rfl rfl rfl (Nat.le_of_ble_eq_true rfl) rfl rfl rfl ?_))))
      have h_23 : -2147483648 ≤ (B (c2 41 4)) ∧ (B (c2 41 4)) ≤ 2147483647 := by rw [← hB (c2 41 4)]; exact ir_43 hI (c2 41 4)
      have kn_24 : Hid (c2 43 (c2 41 4) = (B (c2 41 4))) := (hF 43 (c2 41 4) (fun q => q.elim (fun h => absurd h.1 (nn rfl)) (fun q => q.elim (fun h => absurd h.1 (nn rfl)) (fun h => absurd h.1 (nn rfl))))).trans (hB (c2 41 4))
      refine v_ia (v := (B (c2 41 4))) rfl rfl (by decide) (by decide) ⟨h_8.1, by first | (clear h_2 h_3 h_4 h_5 h_6 h_7 h_8 h_23; omega) | omega⟩ (hid kn_24) (q_call rfl rfl rfl rfl (q_iload_n rfl rfl (v_bip rfl (by decide) ?_)))
      by_cases h_25 : (B (c2 41 4)) < 48
      · refine v_ic_lt_t (t := 16) rfl rfl ⟨by first | exact q_f97c35332 h_23 | (clear h_1 h_2 h_3 h_4 h_5 h_6 h_7 h_8 h_10; omega) | omega, h_25, by decide⟩ (q_iconst rfl (v_zret rfl rfl (by decide) (bk_inl (v_if_eq_t (t := 114) rfl rfl (by decide) (q_iload rfl rfl (q_iload_n rfl rfl ?_))))))
        by_cases h_26 : v5 < a1
        · refine v_ic_lt_t (t := 126) rfl rfl ⟨(Int.le_trans (by decide) hv5.1), h_26, (Int.le_trans ha1.2 (by decide))⟩ (q_aload_n rfl rfl (q_iconst rfl (q_iload rfl rfl (v_cv rfl rfl rfl rfl (Nat.le_of_ble_eq_true rfl) ⟨⟨rfl, rfl⟩, Nat.le_of_ble_eq_true rfl, rfl⟩ (Nat.le_of_ble_eq_true rfl) (Nat.le_of_ble_eq_true rfl) (q_aload_n rfl rfl (v_gi (z := 5) (v := c2 41 5) rfl rfl rfl (Nat.le_of_ble_eq_true rfl) rfl rfl rfl (q_iconst rfl ?_)))))))
          refine v_ic_eq_t (t := 9) rfl rfl (by first | (clear h_1 h_2 h_3 h_4 h_6 h_7 h_8 h_10 h_23 h_25 h_26; omega) | omega) (q_aload_n rfl rfl (q_iload_n rfl rfl (v_pi (z := 5) rfl rfl rfl (Nat.le_of_ble_eq_true rfl) rfl rfl rfl (by decide) (q_aload_n rfl rfl (q_iload_n rfl rfl (v_pi (z := 6) rfl rfl rfl (Nat.le_of_ble_eq_true rfl) rfl rfl rfl (by decide) (q_vret rfl rfl ?_)))))))
          refine bk_inl (q_iconst rfl (q_iret rfl rfl ?_))
          have hz8 : dg B e1 (c2 41 4) u4 = (c2 41 4, u4) := dg_z (by omega)
          have hz9 : D8 = c2 41 4 := by rw [← hdD8, ← hx0, hz8]
          have hz10 : V8 = u4 := by rw [← hdV8, ← hx0, hz8]
          have hI_27 := iw_41_5 (v := r8) hI2 ⟨by first | (clear h_1 h_3 h_4 h_5 h_6 h_7 h_8 h_10 h_23 h_25 h_26 hz10; omega) | omega, by first | (clear h_2 h_3 h_4 h_5 h_6 h_7 h_10 h_23 h_25 h_26 hz10; omega) | omega⟩
          have hI_28 := iw_41_6 (v := 2) hI_27 ⟨by decide, by decide⟩
          have h_29 : (up (up c2 41 5 r8) 41 6 2) 41 4 = c2 41 4 := ((up_n (by decide)).trans (up_n (by decide)))
          have h_30 : (up (up c2 41 5 r8) 41 6 2) 41 5 = r8 := ((up_n (by decide)).trans (up_e rfl))
          have h_31 : (up (up c2 41 5 r8) 41 6 2) 41 6 = 2 := (up_e rfl)
          exact zv (by omega) (K2 (up (up c2 41 5 r8) 41 6 2) hI_28 (fun a j hm => (up_b (Decidable.or_iff_not_imp_left.mpr (fun h1 h2 => hm (Or.inr (Or.inr ⟨Decidable.not_not.mp h1, h2⟩))))).trans ((up_b (Decidable.or_iff_not_imp_left.mpr (fun h1 h2 => hm (Or.inr (Or.inl ⟨Decidable.not_not.mp h1, h2⟩))))).trans (hF a j (fun q => q.elim (fun h => hm (Or.inl h)) (fun q => q.elim (fun h => hm (Or.inr (Or.inl h))) (fun h => hm (Or.inr (Or.inr h)))))))) (by omega) (by omega) (by omega) (by omega) (by omega) (by omega))
        · refine v_ic_lt_f (t := 126) rfl rfl ⟨(Int.le_trans (by decide) ha1.1), (Int.not_lt.mp h_26), (Int.le_trans hv5.2 (by decide))⟩ (q_iload rfl rfl (q_iload_n rfl rfl ?_))
          by_cases h_32 : v5 ≤ a2
          · refine v_ic_le_t (t := 135) rfl rfl ⟨(Int.le_trans (by decide) hv5.1), h_32, (Int.le_trans ha2.2 (by decide))⟩ (q_iload rfl rfl (q_iret rfl rfl ?_))
            have hz8 : dg B e1 (c2 41 4) u4 = (c2 41 4, u4) := dg_z (by omega)
            have hz9 : D8 = c2 41 4 := by rw [← hdD8, ← hx0, hz8]
            have hz10 : V8 = u4 := by rw [← hdV8, ← hx0, hz8]
            exact zv (by omega) (K3 c2 hI2 (fun a j hm => hF a j (fun q => q.elim (fun h => hm (Or.inl h)) (fun q => q.elim (fun h => hm (Or.inr (Or.inl h))) (fun h => hm (Or.inr (Or.inr h)))))) (by omega) (by omega) (by omega) (by omega) (by omega) (by omega) (by omega))
          · refine v_ic_le_f (t := 135) rfl rfl ⟨(Int.le_trans (by decide) ha2.1), (Int.not_le.mp h_32), (Int.le_trans hv5.2 (by decide))⟩ (q_aload_n rfl rfl (q_iconst rfl (q_iload rfl rfl (v_cv rfl rfl rfl rfl (Nat.le_of_ble_eq_true rfl) ⟨⟨rfl, rfl⟩, Nat.le_of_ble_eq_true rfl, rfl⟩ (Nat.le_of_ble_eq_true rfl) (Nat.le_of_ble_eq_true rfl) (q_aload_n rfl rfl (v_gi (z := 5) (v := c2 41 5) rfl rfl rfl (Nat.le_of_ble_eq_true rfl) rfl rfl rfl (q_iconst rfl ?_)))))))
            refine v_ic_eq_t (t := 9) rfl rfl (by first | (clear h_1 h_2 h_3 h_4 h_6 h_7 h_8 h_10 h_23 h_25 h_26 h_32; omega) | omega) (q_aload_n rfl rfl (q_iload_n rfl rfl (v_pi (z := 5) rfl rfl rfl (Nat.le_of_ble_eq_true rfl) rfl rfl rfl (by decide) (q_aload_n rfl rfl (q_iload_n rfl rfl (v_pi (z := 6) rfl rfl rfl (Nat.le_of_ble_eq_true rfl) rfl rfl rfl (by decide) (q_vret rfl rfl ?_)))))))
            refine bk_inl (q_iconst rfl (q_iret rfl rfl ?_))
            have hz8 : dg B e1 (c2 41 4) u4 = (c2 41 4, u4) := dg_z (by omega)
            have hz9 : D8 = c2 41 4 := by rw [← hdD8, ← hx0, hz8]
            have hz10 : V8 = u4 := by rw [← hdV8, ← hx0, hz8]
            have hI_33 := iw_41_5 (v := r8) hI2 ⟨by first | (clear h_1 h_3 h_4 h_5 h_6 h_7 h_8 h_10 h_23 h_25 h_26 h_32 hz10; omega) | omega, by first | (clear h_2 h_3 h_4 h_5 h_6 h_7 h_10 h_23 h_25 h_26 h_32 hz10; omega) | omega⟩
            have hI_34 := iw_41_6 (v := 2) hI_33 ⟨by decide, by decide⟩
            have h_35 : (up (up c2 41 5 r8) 41 6 2) 41 4 = c2 41 4 := ((up_n (by decide)).trans (up_n (by decide)))
            have h_36 : (up (up c2 41 5 r8) 41 6 2) 41 5 = r8 := ((up_n (by decide)).trans (up_e rfl))
            have h_37 : (up (up c2 41 5 r8) 41 6 2) 41 6 = 2 := (up_e rfl)
            exact zv (by omega) (K2 (up (up c2 41 5 r8) 41 6 2) hI_34 (fun a j hm => (up_b (Decidable.or_iff_not_imp_left.mpr (fun h1 h2 => hm (Or.inr (Or.inr ⟨Decidable.not_not.mp h1, h2⟩))))).trans ((up_b (Decidable.or_iff_not_imp_left.mpr (fun h1 h2 => hm (Or.inr (Or.inl ⟨Decidable.not_not.mp h1, h2⟩))))).trans (hF a j (fun q => q.elim (fun h => hm (Or.inl h)) (fun q => q.elim (fun h => hm (Or.inr (Or.inl h))) (fun h => hm (Or.inr (Or.inr h)))))))) (by omega) (by omega) (by omega) (by omega) (by omega) (by omega))
      · refine v_ic_lt_f (t := 16) rfl rfl ⟨by decide, (Int.not_lt.mp h_25), by first | exact q_79e53d295 h_23 | (clear h_1 h_2 h_3 h_4 h_5 h_6 h_7 h_8 h_10; omega) | omega⟩ (q_iload_n rfl rfl (v_bip rfl (by decide) ?_))
        by_cases h_38 : (B (c2 41 4)) > 57
        · refine v_ic_gt_t (t := 16) rfl rfl ⟨by decide, h_38, by first | exact q_79e53d295 h_23 | (clear h_1 h_2 h_3 h_4 h_5 h_6 h_7 h_8 h_10 h_25; omega) | omega⟩ (q_iconst rfl (v_zret rfl rfl (by decide) (bk_inl (v_if_eq_t (t := 114) rfl rfl (by decide) (q_iload rfl rfl (q_iload_n rfl rfl ?_))))))
          by_cases h_39 : v5 < a1
          · refine v_ic_lt_t (t := 126) rfl rfl ⟨(Int.le_trans (by decide) hv5.1), h_39, (Int.le_trans ha1.2 (by decide))⟩ (q_aload_n rfl rfl (q_iconst rfl (q_iload rfl rfl (v_cv rfl rfl rfl rfl (Nat.le_of_ble_eq_true rfl) ⟨⟨rfl, rfl⟩, Nat.le_of_ble_eq_true rfl, rfl⟩ (Nat.le_of_ble_eq_true rfl) (Nat.le_of_ble_eq_true rfl) (q_aload_n rfl rfl (v_gi (z := 5) (v := c2 41 5) rfl rfl rfl (Nat.le_of_ble_eq_true rfl) rfl rfl rfl (q_iconst rfl ?_)))))))
            refine v_ic_eq_t (t := 9) rfl rfl (by first | (clear h_1 h_2 h_3 h_4 h_6 h_7 h_8 h_10 h_23 h_25 h_38 h_39; omega) | omega) (q_aload_n rfl rfl (q_iload_n rfl rfl (v_pi (z := 5) rfl rfl rfl (Nat.le_of_ble_eq_true rfl) rfl rfl rfl (by decide) (q_aload_n rfl rfl (q_iload_n rfl rfl (v_pi (z := 6) rfl rfl rfl (Nat.le_of_ble_eq_true rfl) rfl rfl rfl (by decide) (q_vret rfl rfl ?_)))))))
            refine bk_inl (q_iconst rfl (q_iret rfl rfl ?_))
            have hz8 : dg B e1 (c2 41 4) u4 = (c2 41 4, u4) := dg_z (by omega)
            have hz9 : D8 = c2 41 4 := by rw [← hdD8, ← hx0, hz8]
            have hz10 : V8 = u4 := by rw [← hdV8, ← hx0, hz8]
            have hI_40 := iw_41_5 (v := r8) hI2 ⟨by first | (clear h_1 h_3 h_4 h_5 h_6 h_7 h_8 h_10 h_23 h_25 h_38 h_39 hz10; omega) | omega, by first | (clear h_2 h_3 h_4 h_5 h_6 h_7 h_10 h_23 h_25 h_38 h_39 hz10; omega) | omega⟩
            have hI_41 := iw_41_6 (v := 2) hI_40 ⟨by decide, by decide⟩
            have h_42 : (up (up c2 41 5 r8) 41 6 2) 41 4 = c2 41 4 := ((up_n (by decide)).trans (up_n (by decide)))
            have h_43 : (up (up c2 41 5 r8) 41 6 2) 41 5 = r8 := ((up_n (by decide)).trans (up_e rfl))
            have h_44 : (up (up c2 41 5 r8) 41 6 2) 41 6 = 2 := (up_e rfl)
            exact zv (by omega) (K2 (up (up c2 41 5 r8) 41 6 2) hI_41 (fun a j hm => (up_b (Decidable.or_iff_not_imp_left.mpr (fun h1 h2 => hm (Or.inr (Or.inr ⟨Decidable.not_not.mp h1, h2⟩))))).trans ((up_b (Decidable.or_iff_not_imp_left.mpr (fun h1 h2 => hm (Or.inr (Or.inl ⟨Decidable.not_not.mp h1, h2⟩))))).trans (hF a j (fun q => q.elim (fun h => hm (Or.inl h)) (fun q => q.elim (fun h => hm (Or.inr (Or.inl h))) (fun h => hm (Or.inr (Or.inr h)))))))) (by omega) (by omega) (by omega) (by omega) (by omega) (by omega))
          · refine v_ic_lt_f (t := 126) rfl rfl ⟨(Int.le_trans (by decide) ha1.1), (Int.not_lt.mp h_39), (Int.le_trans hv5.2 (by decide))⟩ (q_iload rfl rfl (q_iload_n rfl rfl ?_))
            by_cases h_45 : v5 ≤ a2
            · refine v_ic_le_t (t := 135) rfl rfl ⟨(Int.le_trans (by decide) hv5.1), h_45, (Int.le_trans ha2.2 (by decide))⟩ (q_iload rfl rfl (q_iret rfl rfl ?_))
              have hz8 : dg B e1 (c2 41 4) u4 = (c2 41 4, u4) := dg_z (by omega)
              have hz9 : D8 = c2 41 4 := by rw [← hdD8, ← hx0, hz8]
              have hz10 : V8 = u4 := by rw [← hdV8, ← hx0, hz8]
              exact zv (by omega) (K3 c2 hI2 (fun a j hm => hF a j (fun q => q.elim (fun h => hm (Or.inl h)) (fun q => q.elim (fun h => hm (Or.inr (Or.inl h))) (fun h => hm (Or.inr (Or.inr h)))))) (by omega) (by omega) (by omega) (by omega) (by omega) (by omega) (by omega))
            · refine v_ic_le_f (t := 135) rfl rfl ⟨(Int.le_trans (by decide) ha2.1), (Int.not_le.mp h_45), (Int.le_trans hv5.2 (by decide))⟩ (q_aload_n rfl rfl (q_iconst rfl (q_iload rfl rfl (v_cv rfl rfl rfl rfl (Nat.le_of_ble_eq_true rfl) ⟨⟨rfl, rfl⟩, Nat.le_of_ble_eq_true rfl, rfl⟩ (Nat.le_of_ble_eq_true rfl) (Nat.le_of_ble_eq_true rfl) (q_aload_n rfl rfl (v_gi (z := 5) (v := c2 41 5) rfl rfl rfl (Nat.le_of_ble_eq_true rfl) rfl rfl rfl (q_iconst rfl ?_)))))))
              refine v_ic_eq_t (t := 9) rfl rfl (by first | (clear h_1 h_2 h_3 h_4 h_6 h_7 h_8 h_10 h_23 h_25 h_38 h_39 h_45; omega) | omega) (q_aload_n rfl rfl (q_iload_n rfl rfl (v_pi (z := 5) rfl rfl rfl (Nat.le_of_ble_eq_true rfl) rfl rfl rfl (by decide) (q_aload_n rfl rfl (q_iload_n rfl rfl (v_pi (z := 6) rfl rfl rfl (Nat.le_of_ble_eq_true rfl) rfl rfl rfl (by decide) (q_vret rfl rfl ?_)))))))
              refine bk_inl (q_iconst rfl (q_iret rfl rfl ?_))
              have hz8 : dg B e1 (c2 41 4) u4 = (c2 41 4, u4) := dg_z (by omega)
              have hz9 : D8 = c2 41 4 := by rw [← hdD8, ← hx0, hz8]
              have hz10 : V8 = u4 := by rw [← hdV8, ← hx0, hz8]
              have hI_46 := iw_41_5 (v := r8) hI2 ⟨by first | (clear h_1 h_3 h_4 h_5 h_6 h_7 h_8 h_10 h_23 h_25 h_38 h_39 h_45 hz10; omega) | omega, by first | (clear h_2 h_3 h_4 h_5 h_6 h_7 h_10 h_23 h_25 h_38 h_39 h_45 hz10; omega) | omega⟩
              have hI_47 := iw_41_6 (v := 2) hI_46 ⟨by decide, by decide⟩
              have h_48 : (up (up c2 41 5 r8) 41 6 2) 41 4 = c2 41 4 := ((up_n (by decide)).trans (up_n (by decide)))
              have h_49 : (up (up c2 41 5 r8) 41 6 2) 41 5 = r8 := ((up_n (by decide)).trans (up_e rfl))
              have h_50 : (up (up c2 41 5 r8) 41 6 2) 41 6 = 2 := (up_e rfl)
              exact zv (by omega) (K2 (up (up c2 41 5 r8) 41 6 2) hI_47 (fun a j hm => (up_b (Decidable.or_iff_not_imp_left.mpr (fun h1 h2 => hm (Or.inr (Or.inr ⟨Decidable.not_not.mp h1, h2⟩))))).trans ((up_b (Decidable.or_iff_not_imp_left.mpr (fun h1 h2 => hm (Or.inr (Or.inl ⟨Decidable.not_not.mp h1, h2⟩))))).trans (hF a j (fun q => q.elim (fun h => hm (Or.inl h)) (fun q => q.elim (fun h => hm (Or.inr (Or.inl h))) (fun h => hm (Or.inr (Or.inr h)))))))) (by omega) (by omega) (by omega) (by omega) (by omega) (by omega))
        · refine v_ic_gt_f (t := 16) rfl rfl ⟨by first | exact q_993cab007 h_25 | (clear h_1 h_2 h_3 h_4 h_5 h_6 h_7 h_8 h_10 h_23; omega) | omega, (Int.not_lt.mp h_38), by decide⟩ (q_iconst rfl (q_goto (t := 17) rfl rfl (v_zret rfl rfl (by decide) (bk_inl (v_if_eq_f (t := 114) rfl rfl (by decide) (q_iload rfl rfl (v_sip rfl (by decide) ?_)))))))
          by_cases h_51 : v5 ≤ 9999
          · refine v_ic_le_t (t := 81) rfl rfl ⟨(Int.le_trans (by decide) hv5.1), h_51, by decide⟩ (v_bip rfl (by decide) (q_iload rfl rfl (v_imul (v := 10 * v5) rfl rfl (q_aload_n rfl rfl (v_gr (t := 43) rfl rfl rfl (Nat.le_of_ble_eq_true rfl) rfl (q_aload_n rfl rfl (v_gi (z := 4) (v := c2 41 4) rfl rfl rfl (Nat.le_of_ble_eq_true rfl) rfl rfl rfl ?_)))))))
            refine v_ia (v := (B (c2 41 4))) rfl rfl (by decide) (by decide) ⟨h_8.1, by first | (clear h_2 h_3 h_4 h_5 h_6 h_7 h_8 h_23 h_25 h_38 h_51; omega) | omega⟩ (hid kn_24) (v_iadd (v := (B (c2 41 4)) + 10 * v5) rfl (by first | (clear h_1 h_2 h_3 h_4 h_5 h_6 h_7 h_8 h_10 h_23 h_25 h_38 h_51; omega) | omega) (v_bip rfl (by decide) (v_isub (v := (B (c2 41 4)) + 10 * v5 - 48) rfl rfl (q_istore rfl (Nat.le_of_ble_eq_true rfl) (q_aload_n rfl rfl (q_dup rfl rfl (v_gi (z := 4) (v := c2 41 4) rfl rfl rfl (Nat.le_of_ble_eq_true rfl) rfl rfl rfl ?_)))))))
            refine q_iconst rfl (v_iadd (v := c2 41 4 + 1) rfl rfl (v_pi (z := 4) rfl rfl rfl (Nat.le_of_ble_eq_true rfl) rfl rfl rfl (by decide) (q_goto (t := 41) rfl rfl ?_)))
            have hI_52 := iw_41_4 (v := c2 41 4 + 1) hI2 ⟨by first | exact rgp_l h_8.1 (by decide) | omega, by first | (clear h_2 h_3 h_4 h_5 h_6 h_7 h_8 h_23 h_25 h_38 h_51; omega) | omega⟩
            refine Wp_ls [(0, .ref 41), (1, vi a1), (2, vi a2), (4, vi r8), (5, vi ((B (c2 41 4)) + 10 * v5 - 48))] (lsub_cons rfl (lsub_cons rfl (lsub_cons rfl (lsub_cons rfl (lsub_cons rfl lsub_nil))))) ?_
            have hc9 := cp_or ((B (c2 41 4)) + 10 * u4 - 48)
            have hc8 : (cp ((B (c2 41 4)) + 10 * u4 - 48)) = cp (10 * u4 + (B (c2 41 4)) - 48) := congrArg cp (by omega)
            have h_53 : (up c2 41 4 (c2 41 4 + 1)) 41 5 = c2 41 5 := (up_n (by decide))
            have h_54 : (up c2 41 4 (c2 41 4 + 1)) 41 6 = c2 41 6 := (up_n (by decide))
            have h_55 : (up c2 41 4 (c2 41 4 + 1)) 41 4 = c2 41 4 + 1 := (up_e rfl)
            exact ih (up c2 41 4 (c2 41 4 + 1)) ((B (c2 41 4)) + 10 * v5 - 48) (cp ((B (c2 41 4)) + 10 * u4 - 48)) hI_52 (fun a j hm => (up_b (Decidable.or_iff_not_imp_left.mpr (fun h1 h2 => hm (Or.inl ⟨Decidable.not_not.mp h1, h2⟩)))).trans (hF a j (fun q => q.elim (fun h => hm (Or.inl h)) (fun q => q.elim (fun h => hm (Or.inr (Or.inl h))) (fun h => hm (Or.inr (Or.inr h))))))) ⟨by omega, by omega⟩ ⟨by omega, by omega⟩ (by rw [show (up c2 41 4 (c2 41 4 + 1)) 41 4 = c2 41 4 + 1 from (up_e rfl), hc8]; exact (dg_s (by omega)).symm.trans hx0) (by omega) (by omega) (by omega) (by omega) (by omega) (by omega) (by omega)
          · refine v_ic_le_f (t := 81) rfl rfl ⟨by decide, (Int.not_le.mp h_51), (Int.le_trans hv5.2 (by decide))⟩ (v_sip rfl (by decide) (q_goto (t := 99) rfl rfl (q_istore rfl (Nat.le_of_ble_eq_true rfl) (q_aload_n rfl rfl (q_dup rfl rfl (v_gi (z := 4) (v := c2 41 4) rfl rfl rfl (Nat.le_of_ble_eq_true rfl) rfl rfl rfl (q_iconst rfl ?_)))))))
            refine v_iadd (v := c2 41 4 + 1) rfl rfl (v_pi (z := 4) rfl rfl rfl (Nat.le_of_ble_eq_true rfl) rfl rfl rfl (by decide) (q_goto (t := 41) rfl rfl ?_))
            have hI_56 := iw_41_4 (v := c2 41 4 + 1) hI2 ⟨by first | exact rgp_l h_8.1 (by decide) | omega, by first | (clear h_2 h_3 h_4 h_5 h_6 h_7 h_8 h_23 h_25 h_38 h_51; omega) | omega⟩
            refine Wp_ls [(0, .ref 41), (1, vi a1), (2, vi a2), (4, vi r8), (5, vi 10000)] (lsub_cons rfl (lsub_cons rfl (lsub_cons rfl (lsub_cons rfl (lsub_cons rfl lsub_nil))))) ?_
            have hc9 := cp_or ((B (c2 41 4)) + 10 * u4 - 48)
            have hc8 : (cp ((B (c2 41 4)) + 10 * u4 - 48)) = cp (10 * u4 + (B (c2 41 4)) - 48) := congrArg cp (by omega)
            have h_57 : (up c2 41 4 (c2 41 4 + 1)) 41 5 = c2 41 5 := (up_n (by decide))
            have h_58 : (up c2 41 4 (c2 41 4 + 1)) 41 6 = c2 41 6 := (up_n (by decide))
            have h_59 : (up c2 41 4 (c2 41 4 + 1)) 41 4 = c2 41 4 + 1 := (up_e rfl)
            exact ih (up c2 41 4 (c2 41 4 + 1)) 10000 (cp ((B (c2 41 4)) + 10 * u4 - 48)) hI_56 (fun a j hm => (up_b (Decidable.or_iff_not_imp_left.mpr (fun h1 h2 => hm (Or.inl ⟨Decidable.not_not.mp h1, h2⟩)))).trans (hF a j (fun q => q.elim (fun h => hm (Or.inl h)) (fun q => q.elim (fun h => hm (Or.inr (Or.inl h))) (fun h => hm (Or.inr (Or.inr h))))))) ⟨by omega, by omega⟩ ⟨by omega, by omega⟩ (by rw [show (up c2 41 4 (c2 41 4 + 1)) 41 4 = c2 41 4 + 1 from (up_e rfl), hc8]; exact (dg_s (by omega)).symm.trans hx0) (by omega) (by omega) (by omega) (by omega) (by omega) (by omega) (by omega)
set_option maxRecDepth 100000 in
set_option maxHeartbeats 4000000 in
theorem f_160 {sc : List Int32} {e : Int} {d u P Q : Nat} {c : ME} {e1 a9 f9 k9 r8 D8 V8 a1 a2 : Int} {B : Int → Int} {Z : AR → Prop} (hI : Iv u e P Q c) (ha1 : 0 ≤ a1 ∧ a1 ≤ 1) (ha2 : (-1) ≤ a2 ∧ a2 ≤ 9999) (hv0 : c 41 3 = e1) (hv1 : c 41 4 = a9) (hv2 : c 41 5 = f9) (hv3 : c 41 6 = k9) (hB : ∀ j : Int, c 43 j = B j) (hdr8 : nx B e1 a9 = r8) (hdD8 : (dg B e1 r8 0).1 = D8) (hdV8 : (dg B e1 r8 0).2 = V8) (K0 : ∀ c2 : ME, Iv u e P Q c2 → (∀ (a : Nat) (j : Int), ¬ ((a = 41 ∧ j = 4) ∨ (a = 41 ∧ j = 5) ∨ (a = 41 ∧ j = 6)) → c2 a j = c a j) → ((f9 ≠ (-1))) → (c2 41 4 = a9) → (c2 41 5 = f9) → (c2 41 6 = k9) → Z (.inl (some (vi 0)), Wd P Q P P c2, 0, 0)) (K1 : ∀ c2 : ME, Iv u e P Q c2 → (∀ (a : Nat) (j : Int), ¬ ((a = 41 ∧ j = 4) ∨ (a = 41 ∧ j = 5) ∨ (a = 41 ∧ j = 6)) → c2 a j = c a j) → ((f9 = (-1))) → ((r8 ≥ e1) ∨ ((B r8) < 48) ∨ ((B r8) > 57)) → (c2 41 4 = r8) → (c2 41 5 = r8) → (c2 41 6 = 1) → Z (.inl (some (vi 0)), Wd P Q P P c2, 0, 0)) (K2 : ∀ c2 : ME, Iv u e P Q c2 → (∀ (a : Nat) (j : Int), ¬ ((a = 41 ∧ j = 4) ∨ (a = 41 ∧ j = 5) ∨ (a = 41 ∧ j = 6)) → c2 a j = c a j) → ((f9 = (-1))) → ((r8 < e1 ∧ (B r8) ≥ 48 ∧ (B r8) ≤ 57)) → ((V8 < a1) ∨ (V8 > a2)) → (c2 41 4 = D8) → (c2 41 5 = r8) → (c2 41 6 = 2) → Z (.inl (some (vi 0)), Wd P Q P P c2, 0, 0)) (K3 : ∀ c2 : ME, Iv u e P Q c2 → (∀ (a : Nat) (j : Int), ¬ ((a = 41 ∧ j = 4) ∨ (a = 41 ∧ j = 5) ∨ (a = 41 ∧ j = 6)) → c2 a j = c a j) → ((f9 = (-1))) → ((r8 < e1 ∧ (B r8) ≥ 48 ∧ (B r8) ≤ 57)) → ((V8 ≥ a1)) → ((V8 ≤ a2)) → (c2 41 4 = D8) → (c2 41 5 = (-1)) → (c2 41 6 = k9) → Z (.inl (some (vi V8)), Wd P Q P P c2, 0, 0)) : Wp sc (d + 12) 160 0 [(0, .ref 41), (1, vi a1), (2, vi a2)] [] (Wd P Q P P c) 0 0 Z := by
  have hP := iv_P hI
  have hQ := iv_Q hI
  have h_60 := ir_41_3 hI
  have h_61 := ir_41_4 hI
  have h_62 := ir_41_5 hI
  have h_63 := ir_41_6 hI
  have hn1 := nx_bd (b := B) (e := e1) (a := a9)
  rw [hdr8] at hn1
  have hn2 := dg_bd (b := B) (e := e1) (a := r8) (v := 0) (by decide)
  rw [hdD8, hdV8] at hn2
  have hn3 := nx_n (b := B) (e := e1) (a := a9)
  rw [hdr8] at hn3
  have h_64 : -2147483648 ≤ (B r8) ∧ (B r8) ≤ 2147483647 := by rw [← hB r8]; exact ir_43 hI r8
  refine q_aload_n rfl rfl (v_cv rfl rfl rfl rfl (Nat.le_of_ble_eq_true rfl) ⟨⟨rfl, rfl⟩, Nat.le_of_ble_eq_true rfl, rfl⟩ (Nat.le_of_ble_eq_true rfl) (Nat.le_of_ble_eq_true rfl) (q_aload_n rfl rfl (v_gi (z := 5) (v := f9) rfl rfl rfl (Nat.le_of_ble_eq_true rfl) rfl rfl (hv2) (q_iconst rfl ?_))))
  by_cases h_65 : f9 ≠ (-1)
  · refine v_ic_ne_t (t := 12) rfl rfl ⟨h_65, ⟨by first | (clear h_60 h_61 h_63 h_64; omega) | omega, by first | (clear h_60 h_61 h_63 h_64; omega) | omega⟩, by decide, by decide⟩ (q_iconst rfl (v_zret rfl rfl (by decide) (bk_inl (v_if_ne_f (t := 9) rfl rfl (by decide) (q_iconst rfl (q_iret rfl rfl ?_))))))
    have h_66 : c 41 4 = a9 := (hv1)
    have h_67 : c 41 5 = f9 := (hv2)
    have h_68 : c 41 6 = k9 := (hv3)
    exact zv (by omega) (K0 c hI (fun a j hm => rfl) (by omega) (by omega) (by omega) (by omega))
  · refine v_ic_ne_f (t := 12) rfl rfl (Decidable.not_not.mp h_65) (q_iconst rfl (q_goto (t := 13) rfl rfl (v_zret rfl rfl (by decide) (bk_inl (v_if_ne_t (t := 9) rfl rfl (by decide) (q_aload_n rfl rfl ?_))))))
    have h_69 : -2147483648 ≤ (B a9) ∧ (B a9) ≤ 2147483647 := by rw [← hB a9]; exact ir_43 hI a9
    have h_70 := hb_or (b := B) (e := e1) (r := r8)
    have h_71 := hb_bd (b := B) (e := e1) (r := r8) (lo := -2147483648) (hi := 2147483647) h_64 (by decide)
    refine v_cv rfl rfl rfl rfl (Nat.le_of_ble_eq_true rfl) ⟨⟨rfl, rfl⟩, Nat.le_of_ble_eq_true rfl, rfl⟩ (Nat.le_of_ble_eq_true rfl) (Nat.le_of_ble_eq_true rfl) (f_154 (e1 := e1) (a9 := a9) (B := B) (r8 := r8) (r := (hb B e1 r8)) hI ((hv0)) ((hv1)) (fun j => hB j) hdr8 rfl (fun c_72 hI_73 hF_74 h_75 => (bk_inl (q_istore_n rfl (Nat.le_of_ble_eq_true rfl) (q_aload_n rfl rfl (v_gi (z := 4) (v := r8) rfl rfl rfl (Nat.le_of_ble_eq_true rfl) rfl rfl (h_75) (q_istore rfl (Nat.le_of_ble_eq_true rfl) (q_iconst rfl (q_istore rfl (Nat.le_of_ble_eq_true rfl) ?_)))))))))
    refine q_iload_n rfl rfl (q_call rfl rfl rfl rfl (q_iload_n rfl rfl (v_bip rfl (by decide) ?_)))
    by_cases h_76 : (hb B e1 r8) < 48
    · refine v_ic_lt_t (t := 16) rfl rfl ⟨h_71.1, h_76, by decide⟩ (q_iconst rfl (v_zret rfl rfl (by decide) (bk_inl (v_if_ne_f (t := 41) rfl rfl (by decide) (q_aload_n rfl rfl (q_iconst rfl (q_aload_n rfl rfl ?_)))))))
      refine v_gi (z := 4) (v := r8) rfl rfl rfl (Nat.le_of_ble_eq_true rfl) rfl rfl (h_75) (v_cv rfl rfl rfl rfl (Nat.le_of_ble_eq_true rfl) ⟨⟨rfl, rfl⟩, Nat.le_of_ble_eq_true rfl, rfl⟩ (Nat.le_of_ble_eq_true rfl) (Nat.le_of_ble_eq_true rfl) (q_aload_n rfl rfl ?_))
      have kn_77 : Hid (c_72 41 5 = f9) := (hF_74 41 5 (fun h => absurd h.2 (ni rfl))).trans (hv2)
      refine v_gi (z := 5) (v := f9) rfl rfl rfl (Nat.le_of_ble_eq_true rfl) rfl rfl (hid kn_77) (q_iconst rfl (v_ic_eq_t (t := 9) rfl rfl (by first | exact q_324f7a7fb h_65 | (clear h_60 h_61 h_62 h_63 h_64 h_69 h_71 h_76 h_70; omega) | omega) (q_aload_n rfl rfl (q_iload_n rfl rfl (v_pi (z := 5) rfl rfl rfl (Nat.le_of_ble_eq_true rfl) rfl rfl rfl (by decide) (q_aload_n rfl rfl (q_iload_n rfl rfl ?_)))))))
      refine v_pi (z := 6) rfl rfl rfl (Nat.le_of_ble_eq_true rfl) rfl rfl rfl (by decide) (q_vret rfl rfl (bk_inl (q_iconst rfl (q_iret rfl rfl ?_))))
      have hI_78 := iw_41_5 (v := r8) hI_73 ⟨by first | (clear h_60 h_62 h_63 h_64 h_65 h_69 h_71 h_76 h_70; omega) | omega, by omega⟩
      have hI_79 := iw_41_6 (v := 1) hI_78 ⟨by decide, by decide⟩
      have h_80 : (up (up c_72 41 5 r8) 41 6 1) 41 4 = r8 := ((up_n (by decide)).trans ((up_n (by decide)).trans (h_75)))
      have h_81 : (up (up c_72 41 5 r8) 41 6 1) 41 5 = r8 := ((up_n (by decide)).trans (up_e rfl))
      have h_82 : (up (up c_72 41 5 r8) 41 6 1) 41 6 = 1 := (up_e rfl)
      exact zv (by omega) (K1 (up (up c_72 41 5 r8) 41 6 1) hI_79 (fun a j hm => (up_b (Decidable.or_iff_not_imp_left.mpr (fun h1 h2 => hm (Or.inr (Or.inr ⟨Decidable.not_not.mp h1, h2⟩))))).trans ((up_b (Decidable.or_iff_not_imp_left.mpr (fun h1 h2 => hm (Or.inr (Or.inl ⟨Decidable.not_not.mp h1, h2⟩))))).trans (hF_74 a j (fun h => hm (Or.inl h))))) (by omega) (by omega) (by omega) (by omega) (by omega))
    · refine v_ic_lt_f (t := 16) rfl rfl ⟨by decide, (Int.not_lt.mp h_76), h_71.2⟩ (q_iload_n rfl rfl (v_bip rfl (by decide) ?_))
      by_cases h_83 : (hb B e1 r8) > 57
      · refine v_ic_gt_t (t := 16) rfl rfl ⟨by decide, h_83, h_71.2⟩ (q_iconst rfl (v_zret rfl rfl (by decide) (bk_inl (v_if_ne_f (t := 41) rfl rfl (by decide) (q_aload_n rfl rfl (q_iconst rfl (q_aload_n rfl rfl ?_)))))))
        refine v_gi (z := 4) (v := r8) rfl rfl rfl (Nat.le_of_ble_eq_true rfl) rfl rfl (h_75) (v_cv rfl rfl rfl rfl (Nat.le_of_ble_eq_true rfl) ⟨⟨rfl, rfl⟩, Nat.le_of_ble_eq_true rfl, rfl⟩ (Nat.le_of_ble_eq_true rfl) (Nat.le_of_ble_eq_true rfl) (q_aload_n rfl rfl ?_))
        have kn_84 : Hid (c_72 41 5 = f9) := (hF_74 41 5 (fun h => absurd h.2 (ni rfl))).trans (hv2)
        refine v_gi (z := 5) (v := f9) rfl rfl rfl (Nat.le_of_ble_eq_true rfl) rfl rfl (hid kn_84) (q_iconst rfl (v_ic_eq_t (t := 9) rfl rfl (by first | exact q_324f7a7fb h_65 | (clear h_60 h_61 h_62 h_63 h_64 h_69 h_71 h_76 h_83 h_70; omega) | omega) (q_aload_n rfl rfl (q_iload_n rfl rfl (v_pi (z := 5) rfl rfl rfl (Nat.le_of_ble_eq_true rfl) rfl rfl rfl (by decide) (q_aload_n rfl rfl (q_iload_n rfl rfl ?_)))))))
        refine v_pi (z := 6) rfl rfl rfl (Nat.le_of_ble_eq_true rfl) rfl rfl rfl (by decide) (q_vret rfl rfl (bk_inl (q_iconst rfl (q_iret rfl rfl ?_))))
        have hI_85 := iw_41_5 (v := r8) hI_73 ⟨by first | (clear h_60 h_62 h_63 h_64 h_65 h_69 h_71 h_76 h_83 h_70; omega) | omega, by first | (clear h_61 h_62 h_63 h_64 h_65 h_69 h_71 h_76; omega) | omega⟩
        have hI_86 := iw_41_6 (v := 1) hI_85 ⟨by decide, by decide⟩
        have h_87 : (up (up c_72 41 5 r8) 41 6 1) 41 4 = r8 := ((up_n (by decide)).trans ((up_n (by decide)).trans (h_75)))
        have h_88 : (up (up c_72 41 5 r8) 41 6 1) 41 5 = r8 := ((up_n (by decide)).trans (up_e rfl))
        have h_89 : (up (up c_72 41 5 r8) 41 6 1) 41 6 = 1 := (up_e rfl)
        exact zv (by omega) (K1 (up (up c_72 41 5 r8) 41 6 1) hI_86 (fun a j hm => (up_b (Decidable.or_iff_not_imp_left.mpr (fun h1 h2 => hm (Or.inr (Or.inr ⟨Decidable.not_not.mp h1, h2⟩))))).trans ((up_b (Decidable.or_iff_not_imp_left.mpr (fun h1 h2 => hm (Or.inr (Or.inl ⟨Decidable.not_not.mp h1, h2⟩))))).trans (hF_74 a j (fun h => hm (Or.inl h))))) (by omega) (by omega) (by omega) (by omega) (by omega))
      · refine v_ic_gt_f (t := 16) rfl rfl ⟨h_71.1, (Int.not_lt.mp h_83), by decide⟩ (q_iconst rfl (q_goto (t := 17) rfl rfl (v_zret rfl rfl (by decide) (bk_inl (v_if_ne_t (t := 41) rfl rfl (by decide) (Wp_ls [(0, .ref 41), (1, vi a1), (2, vi a2), (4, vi r8), (5, vi 0)] (lsub_cons rfl (lsub_cons rfl (lsub_cons rfl (lsub_cons rfl (lsub_cons rfl lsub_nil))))) ?_))))))
        have kn_90 : Hid (c_72 41 5 = f9) := (hF_74 41 5 (fun h => absurd h.2 (ni rfl))).trans (hv2)
        have h_91 : c_72 41 5 = f9 := (hid kn_90)
        have kn_92 : Hid (c_72 41 6 = k9) := (hF_74 41 6 (fun h => absurd h.2 (ni rfl))).trans (hv3)
        have h_93 : c_72 41 6 = k9 := (hid kn_92)
        have h_94 : c_72 41 4 = r8 := (h_75)
        exact (f_160_l (sc := sc) (d := d) hI ha1 ha2 hv0 hv1 hv2 hv3 hB hdr8 hdD8 hdV8 K0 K1 K2 K3 606) c_72 0 0 hI_73 (fun a j hm => hF_74 a j (fun h => hm (Or.inl h))) ⟨by omega, by omega⟩ ⟨by omega, by omega⟩ (by rw [show c_72 41 4 = r8 from (h_75)]) (by omega) (by omega) (by omega) (by omega) (by omega) (by omega) (by omega)

set_option maxRecDepth 100000 in
set_option maxHeartbeats 4000000 in
theorem f_157_l {sc : List Int32} {e : Int} {d u P Q : Nat} {c : ME} {e1 a9 r8 L8 W8 : Int} {B : Int → Int} {Z : AR → Prop} (hI : Iv u e P Q c) (hv0 : c 41 3 = e1) (hv1 : c 41 4 = a9) (hB : ∀ j : Int, c 43 j = B j) (hdr8 : nx B e1 a9 = r8) (hdL8 : ln B e1 r8 = L8) (hdW8 : wv B r8 L8 = W8) (K0 : ∀ c2 : ME, Iv u e P Q c2 → (∀ (a : Nat) (j : Int), ¬ ((a = 41 ∧ j = 4)) → c2 a j = c a j) → (c2 41 4 = r8) → Z (.inl (some (vi W8)), Wd P Q P P c2, 0, 0)) : ∀ n : Nat, (∀ (c2 : ME) (v1 : Int) (v2 : Int) (v3 : Int), Iv u e P Q c2 → (∀ (a : Nat) (j : Int), ¬ ((a = 41 ∧ j = 4)) → c2 a j = c a j) → 0 ≤ v1 ∧ v1 ≤ 1073741823 → 0 ≤ v2 ∧ v2 ≤ 605 → 0 ≤ v3 ∧ v3 ≤ 605 → (ln B e1 v3 = L8) → ((v3 = r8 + v2)) → (v1 = if v2 ≤ 6 then pv B r8 v2.toNat else 0) → ((c2 41 4 = r8)) → 605 - v3 < (n : Int) → Wp sc (d + 12) 157 14 [(0, .ref 41), (1, vi v1), (2, vi v2), (3, vi v3)] [] (Wd P Q P P c2) 0 0 Z)
  | 0 => by intro c2 v1 v2 v3 hI2 hF hv1 hv2 hv3 hx0 hx1 hx2 hx3 hm9; have hP := iv_P hI; have hQ := iv_Q hI; have h_1 := ir_41_3 hI; have h_2 := ir_41_4 hI; have h_3 := ir_41_4 hI2; exfalso; omega
  | n + 1 => by
    have hP := iv_P hI
    have hQ := iv_Q hI
    have ih := f_157_l (sc := sc) (d := d) hI hv0 hv1 hB hdr8 hdL8 hdW8 K0 n
    intro c2 v1 v2 v3 hI2 hF hv1 hv2 hv3 hx0 hx1 hx2 hx3 hm9
    have h_1 := ir_41_3 hI
    have h_2 := ir_41_4 hI
    have hn1 := nx_bd (b := B) (e := e1) (a := a9)
    rw [hdr8] at hn1
    have hn2 := ln_bd (b := B) (e := e1) (a := r8)
    rw [hdL8] at hn2
    have hw1 : 0 ≤ W8 ∧ W8 ≤ 1073741823 := by rw [← hdW8]; exact wv_bd (fun j h1 h2 => ⟨(ln_in (e := e1) (a := r8) h1 (by omega)).1, (ln_in (e := e1) (a := r8) h1 (by omega)).2.1⟩)
    have hn3 := ln_bd (b := B) (e := e1) (a := v3)
    rw [hx0] at hn3
    have hp1 := pv_bd (b := B) (r := r8) v2.toNat (fun j h1 h2 => ⟨(ln_in (e := e1) (a := r8) h1 (by omega)).1, (ln_in (e := e1) (a := r8) h1 (by omega)).2.1⟩)
    have hp2 : v2 ≤ 6 → v1 = pv B r8 v2.toNat := fun q => hx2.trans (if_pos q)
    have hp3 : ¬ v2 ≤ 6 → v1 = 0 := fun q => hx2.trans (if_neg q)
    have hp4 : v2 ≤ 5 → v1 ≤ 33554431 := fun q => by have := hp1.2.2.2.2.2.1 (by omega); have := hp2 (by omega); omega
    have h_3 := ir_41_4 hI2
    refine q_iload_n rfl rfl (q_aload_n rfl rfl ?_)
    have kn_4 : Hid (c2 41 3 = e1) := (hF 41 3 (fun h => absurd h.2 (ni rfl))).trans (hv0)
    refine v_gi (z := 3) (v := e1) rfl rfl rfl (Nat.le_of_ble_eq_true rfl) rfl rfl (hid kn_4) ?_
    by_cases h_5 : v3 ≥ e1
    · refine v_ic_ge_t (t := 67) rfl rfl ⟨by first | (clear h_2 hw1 hp4 h_3; omega) | omega, h_5, (Int.le_trans hv3.2 (by decide))⟩ (q_iload_n rfl rfl (v_bip rfl (by decide) ?_))
      by_cases h_6 : v2 ≤ 6
      · refine v_ic_le_t (t := 77) rfl rfl ⟨(Int.le_trans (by decide) hv2.1), h_6, by decide⟩ (q_iload_n rfl rfl (q_iret rfl rfl ?_))
        have hz8 : ln B e1 v3 = v3 := ln_z (by omega)
        have hz9 : v3 = L8 := hz8.symm.trans hx0
        have hw9 : W8 = v1 := by rw [← hdW8]; unfold wv; rw [if_pos (by omega), show (L8 - r8).toNat = v2.toNat by omega]; exact (hp2 (by omega)).symm
        exact zv (by omega) (K0 c2 hI2 (fun a j hm => hF a j (fun h => hm h)) (by omega))
      · refine v_ic_le_f (t := 77) rfl rfl ⟨by decide, (Int.not_le.mp h_6), (Int.le_trans hv2.2 (by decide))⟩ (q_iconst rfl (q_goto (t := 78) rfl rfl (q_iret rfl rfl ?_)))
        have hz8 : ln B e1 v3 = v3 := ln_z (by omega)
        have hz9 : v3 = L8 := hz8.symm.trans hx0
        have hw9 : W8 = 0 := by rw [← hdW8]; unfold wv; exact if_neg (by omega)
        exact zv (by omega) (K0 c2 hI2 (fun a j hm => hF a j (fun h => hm h)) (by omega))
    · refine v_ic_ge_f (t := 67) rfl rfl ⟨(Int.le_trans (by decide) hv3.1), (Int.not_le.mp h_5), by first | (clear h_2 hw1 hp4 h_3; omega) | omega⟩ (q_aload_n rfl rfl (v_gr (t := 43) rfl rfl rfl (Nat.le_of_ble_eq_true rfl) rfl (q_iload_n rfl rfl ?_)))
      have h_7 : -2147483648 ≤ (B v3) ∧ (B v3) ≤ 2147483647 := by rw [← hB v3]; exact ir_43 hI v3
      have kn_8 : Hid (c2 43 v3 = (B v3)) := (hF 43 v3 (fun h => absurd h.1 (nn rfl))).trans (hB v3)
      refine v_ia (v := (B v3)) rfl rfl (by decide) (by decide) ⟨hv3.1, by first | (clear h_2 hw1 hp4 h_3 h_7; omega) | omega⟩ (hid kn_8) (q_call rfl rfl rfl rfl (q_iload_n rfl rfl (v_bip rfl (by decide) ?_)))
      by_cases h_9 : (B v3) < 97
      · refine v_ic_lt_t (t := 16) rfl rfl ⟨by first | exact q_f97c35332 h_7 | (clear h_1 h_2 hw1 hp4 h_3 h_5; omega) | omega, h_9, by decide⟩ (q_iconst rfl (v_zret rfl rfl (by decide) (bk_inl (v_if_eq_t (t := 67) rfl rfl (by decide) (q_iload_n rfl rfl (v_bip rfl (by decide) ?_))))))
        by_cases h_10 : v2 ≤ 6
        · refine v_ic_le_t (t := 77) rfl rfl ⟨(Int.le_trans (by decide) hv2.1), h_10, by decide⟩ (q_iload_n rfl rfl (q_iret rfl rfl ?_))
          have hz8 : ln B e1 v3 = v3 := ln_z (by omega)
          have hz9 : v3 = L8 := hz8.symm.trans hx0
          have hw9 : W8 = v1 := by rw [← hdW8]; unfold wv; rw [if_pos (by omega), show (L8 - r8).toNat = v2.toNat by omega]; exact (hp2 (by omega)).symm
          exact zv (by omega) (K0 c2 hI2 (fun a j hm => hF a j (fun h => hm h)) (by omega))
        · refine v_ic_le_f (t := 77) rfl rfl ⟨by decide, (Int.not_le.mp h_10), (Int.le_trans hv2.2 (by decide))⟩ (q_iconst rfl (q_goto (t := 78) rfl rfl (q_iret rfl rfl ?_)))
          have hz8 : ln B e1 v3 = v3 := ln_z (by omega)
          have hz9 : v3 = L8 := hz8.symm.trans hx0
          have hw9 : W8 = 0 := by rw [← hdW8]; unfold wv; exact if_neg (by omega)
          exact zv (by omega) (K0 c2 hI2 (fun a j hm => hF a j (fun h => hm h)) (by omega))
      · refine v_ic_lt_f (t := 16) rfl rfl ⟨by decide, (Int.not_lt.mp h_9), by first | exact q_79e53d295 h_7 | (clear h_1 h_2 hw1 hp4 h_3 h_5; omega) | omega⟩ (q_iload_n rfl rfl (v_bip rfl (by decide) ?_))
        by_cases h_11 : (B v3) > 122
        · refine v_ic_gt_t (t := 16) rfl rfl ⟨by decide, h_11, by first | exact q_79e53d295 h_7 | (clear h_1 h_2 hw1 hp4 h_3 h_5 h_9; omega) | omega⟩ (q_iconst rfl (v_zret rfl rfl (by decide) (bk_inl (v_if_eq_t (t := 67) rfl rfl (by decide) (q_iload_n rfl rfl (v_bip rfl (by decide) ?_))))))
          by_cases h_12 : v2 ≤ 6
          · refine v_ic_le_t (t := 77) rfl rfl ⟨(Int.le_trans (by decide) hv2.1), h_12, by decide⟩ (q_iload_n rfl rfl (q_iret rfl rfl ?_))
            have hz8 : ln B e1 v3 = v3 := ln_z (by omega)
            have hz9 : v3 = L8 := hz8.symm.trans hx0
            have hw9 : W8 = v1 := by rw [← hdW8]; unfold wv; rw [if_pos (by omega), show (L8 - r8).toNat = v2.toNat by omega]; exact (hp2 (by omega)).symm
            exact zv (by omega) (K0 c2 hI2 (fun a j hm => hF a j (fun h => hm h)) (by omega))
          · refine v_ic_le_f (t := 77) rfl rfl ⟨by decide, (Int.not_le.mp h_12), (Int.le_trans hv2.2 (by decide))⟩ (q_iconst rfl (q_goto (t := 78) rfl rfl (q_iret rfl rfl ?_)))
            have hz8 : ln B e1 v3 = v3 := ln_z (by omega)
            have hz9 : v3 = L8 := hz8.symm.trans hx0
            have hw9 : W8 = 0 := by rw [← hdW8]; unfold wv; exact if_neg (by omega)
            exact zv (by omega) (K0 c2 hI2 (fun a j hm => hF a j (fun h => hm h)) (by omega))
        · refine v_ic_gt_f (t := 16) rfl rfl ⟨by first | exact q_831bb82af h_9 | (clear h_1 h_2 hw1 hp4 h_3 h_5 h_7; omega) | omega, (Int.not_lt.mp h_11), by decide⟩ (q_iconst rfl (q_goto (t := 17) rfl rfl (v_zret rfl rfl (by decide) (bk_inl (v_if_eq_f (t := 67) rfl rfl (by decide) (q_iload_n rfl rfl (v_bip rfl (by decide) ?_)))))))
          by_cases h_13 : v2 ≥ 6
          · refine v_ic_ge_t (t := 56) rfl rfl ⟨by decide, h_13, (Int.le_trans hv2.2 (by decide))⟩ (q_iconst rfl (q_istore_n rfl (Nat.le_of_ble_eq_true rfl) (v_iinc (v := v2 + 1) rfl rfl (Nat.le_of_ble_eq_true rfl) rfl (v_iinc (v := v3 + 1) rfl rfl (Nat.le_of_ble_eq_true rfl) rfl (q_goto (t := 14) rfl rfl (Wp_ls [(0, .ref 41), (1, vi 0), (2, vi (v2 + 1)), (3, vi (v3 + 1))] (lsub_cons rfl (lsub_cons rfl (lsub_cons rfl (lsub_cons rfl lsub_nil)))) ?_))))))
            exact ih c2 0 (v2 + 1) (v3 + 1) hI2 (fun a j hm => hF a j (fun h => hm h)) ⟨by omega, by omega⟩ ⟨by omega, by omega⟩ ⟨by omega, by omega⟩ ((ln_s (by omega)).symm.trans hx0) (by omega) (if_neg (by omega)).symm (by omega) (by omega)
          · refine v_ic_ge_f (t := 56) rfl rfl ⟨(Int.le_trans (by decide) hv2.1), (Int.not_le.mp h_13), by decide⟩ (q_iload_n rfl rfl (q_iconst rfl (v_shl5 (v := 32 * v1) rfl (by omega) (q_aload_n rfl rfl (v_gr (t := 43) rfl rfl rfl (Nat.le_of_ble_eq_true rfl) rfl (q_iload_n rfl rfl (v_ia (v := (B v3)) rfl rfl (by decide) (by decide) ⟨hv3.1, by first | (clear h_2 hw1 hp4 h_3 h_7 h_9 h_11 h_13; omega) | omega⟩ (hid kn_8) ?_)))))))
            refine v_bip rfl (by decide) (v_isub (v := (B v3) - 96) rfl rfl (v_or5 (m := v1) (v := (B v3) + 32 * v1 - 96) rfl (by omega) ⟨by omega, by omega, by omega, by omega⟩ (by omega) (q_goto (t := 57) rfl rfl (q_istore_n rfl (Nat.le_of_ble_eq_true rfl) (v_iinc (v := v2 + 1) rfl rfl (Nat.le_of_ble_eq_true rfl) rfl (v_iinc (v := v3 + 1) rfl rfl (Nat.le_of_ble_eq_true rfl) rfl (q_goto (t := 14) rfl rfl ?_)))))))
            refine Wp_ls [(0, .ref 41), (1, vi ((B v3) + 32 * v1 - 96)), (2, vi (v2 + 1)), (3, vi (v3 + 1))] (lsub_cons rfl (lsub_cons rfl (lsub_cons rfl (lsub_cons rfl lsub_nil)))) ?_
            exact ih c2 ((B v3) + 32 * v1 - 96) (v2 + 1) (v3 + 1) hI2 (fun a j hm => hF a j (fun h => hm h)) ⟨by omega, by omega⟩ ⟨by omega, by omega⟩ ⟨by omega, by omega⟩ ((ln_s (by omega)).symm.trans hx0) (by omega) (by rw [if_pos (by omega), show (v2 + 1).toNat = v2.toNat + 1 by omega]; show _ = 32 * pv B r8 v2.toNat + (B (r8 + (v2.toNat : Int)) - 96); rw [show r8 + (v2.toNat : Int) = v3 by omega, ← hp2 (by omega)]; omega) (by omega) (by omega)
set_option maxRecDepth 100000 in
set_option maxHeartbeats 4000000 in
theorem f_157 {sc : List Int32} {e : Int} {d u P Q : Nat} {c : ME} {e1 a9 r8 L8 W8 : Int} {B : Int → Int} {Z : AR → Prop} (hI : Iv u e P Q c) (hv0 : c 41 3 = e1) (hv1 : c 41 4 = a9) (hB : ∀ j : Int, c 43 j = B j) (hdr8 : nx B e1 a9 = r8) (hdL8 : ln B e1 r8 = L8) (hdW8 : wv B r8 L8 = W8) (K0 : ∀ c2 : ME, Iv u e P Q c2 → (∀ (a : Nat) (j : Int), ¬ ((a = 41 ∧ j = 4)) → c2 a j = c a j) → (c2 41 4 = r8) → Z (.inl (some (vi W8)), Wd P Q P P c2, 0, 0)) : Wp sc (d + 12) 157 0 [(0, .ref 41)] [] (Wd P Q P P c) 0 0 Z := by
  have hP := iv_P hI
  have hQ := iv_Q hI
  have h_14 := ir_41_3 hI
  have h_15 := ir_41_4 hI
  have hn1 := nx_bd (b := B) (e := e1) (a := a9)
  rw [hdr8] at hn1
  have hn2 := ln_bd (b := B) (e := e1) (a := r8)
  rw [hdL8] at hn2
  have hw1 : 0 ≤ W8 ∧ W8 ≤ 1073741823 := by rw [← hdW8]; exact wv_bd (fun j h1 h2 => ⟨(ln_in (e := e1) (a := r8) h1 (by omega)).1, (ln_in (e := e1) (a := r8) h1 (by omega)).2.1⟩)
  refine q_aload_n rfl rfl ?_
  have h_16 : -2147483648 ≤ (B a9) ∧ (B a9) ≤ 2147483647 := by rw [← hB a9]; exact ir_43 hI a9
  have h_17 : -2147483648 ≤ (B r8) ∧ (B r8) ≤ 2147483647 := by rw [← hB r8]; exact ir_43 hI r8
  have h_18 := hb_or (b := B) (e := e1) (r := r8)
  have h_19 := hb_bd (b := B) (e := e1) (r := r8) (lo := -2147483648) (hi := 2147483647) h_17 (by decide)
  refine v_cv rfl rfl rfl rfl (Nat.le_of_ble_eq_true rfl) ⟨⟨rfl, rfl⟩, Nat.le_of_ble_eq_true rfl, rfl⟩ (Nat.le_of_ble_eq_true rfl) (Nat.le_of_ble_eq_true rfl) (f_154 (e1 := e1) (a9 := a9) (B := B) (r8 := r8) (r := (hb B e1 r8)) hI ((hv0)) ((hv1)) (fun j => hB j) hdr8 rfl (fun c_20 hI_21 hF_22 h_23 => (bk_inl (q_pop rfl rfl (q_iconst rfl (q_istore_n rfl (Nat.le_of_ble_eq_true rfl) (q_iconst rfl (q_istore_n rfl (Nat.le_of_ble_eq_true rfl) (q_aload_n rfl rfl ?_)))))))))
  refine v_gi (z := 4) (v := r8) rfl rfl rfl (Nat.le_of_ble_eq_true rfl) rfl rfl (h_23) (q_istore_n rfl (Nat.le_of_ble_eq_true rfl) (Wp_ls [(0, .ref 41), (1, vi 0), (2, vi 0), (3, vi r8)] (lsub_cons rfl (lsub_cons rfl (lsub_cons rfl (lsub_cons rfl lsub_nil)))) ?_))
  have h_24 : c_20 41 4 = r8 := (h_23)
  exact (f_157_l (sc := sc) (d := d) hI hv0 hv1 hB hdr8 hdL8 hdW8 K0 606) c_20 0 0 r8 hI_21 (fun a j hm => hF_22 a j (fun h => hm h)) ⟨by omega, by omega⟩ ⟨by omega, by omega⟩ ⟨by omega, by omega⟩ hdL8 (by omega) (show (0 : Int) = if (0 : Int) ≤ 6 then pv B r8 (0 : Int).toNat else 0 from rfl) (by omega) (by omega)

set_option maxRecDepth 100000 in
set_option maxHeartbeats 4000000 in
theorem f_159_l {sc : List Int32} {e : Int} {d u P Q : Nat} {c : ME} {e1 a9 L8 : Int} {B : Int → Int} {Z : AR → Prop} (hI : Iv u e P Q c) (hv0 : c 41 3 = e1) (hv1 : c 41 4 = a9) (hB : ∀ j : Int, c 43 j = B j) (hdL8 : ln B e1 a9 = L8) (K0 : ∀ c2 : ME, Iv u e P Q c2 → (∀ (a : Nat) (j : Int), ¬ ((a = 41 ∧ j = 4)) → c2 a j = c a j) → (c2 41 4 = L8) → Z (.inl (none), Wd P Q P P c2, 0, 0)) : ∀ n : Nat, (∀ (c2 : ME), Iv u e P Q c2 → (∀ (a : Nat) (j : Int), ¬ ((a = 41 ∧ j = 4)) → c2 a j = c a j) → (ln B e1 (c2 41 4) = L8) → 605 - c2 41 4 < (n : Int) → Wp sc (d + 9) 159 0 [(0, .ref 41)] [] (Wd P Q P P c2) 0 0 Z)
  | 0 => by intro c2 hI2 hF hx0 hm9; have hP := iv_P hI; have hQ := iv_Q hI; have h_1 := ir_41_3 hI; have h_2 := ir_41_4 hI; have h_3 := ir_41_4 hI2; exfalso; omega
  | n + 1 => by
    have hP := iv_P hI
    have hQ := iv_Q hI
    have ih := f_159_l (sc := sc) (d := d) hI hv0 hv1 hB hdL8 K0 n
    intro c2 hI2 hF hx0 hm9
    have h_1 := ir_41_3 hI
    have h_2 := ir_41_4 hI
    have h_3 := ir_41_4 hI2
    refine q_aload_n rfl rfl (v_gi (z := 4) (v := c2 41 4) rfl rfl rfl (Nat.le_of_ble_eq_true rfl) rfl rfl rfl (q_aload_n rfl rfl ?_))
    have kn_4 : Hid (c2 41 3 = e1) := (hF 41 3 (fun h => absurd h.2 (ni rfl))).trans (hv0)
    refine v_gi (z := 3) (v := e1) rfl rfl rfl (Nat.le_of_ble_eq_true rfl) rfl rfl (hid kn_4) ?_
    by_cases h_5 : c2 41 4 ≥ e1
    · refine v_ic_ge_t (t := 39) rfl rfl ⟨by omega, h_5, (Int.le_trans h_3.2 (by decide))⟩ (q_vret rfl rfl ?_)
      have hz8 : ln B e1 (c2 41 4) = c2 41 4 := ln_z (by omega)
      have hz9 : L8 = c2 41 4 := hx0.symm.trans hz8
      exact K0 c2 hI2 (fun a j hm => hF a j (fun h => hm h)) (by omega)
    · refine v_ic_ge_f (t := 39) rfl rfl ⟨(Int.le_trans (by decide) h_3.1), (Int.not_le.mp h_5), by omega⟩ (q_aload_n rfl rfl (v_gr (t := 43) rfl rfl rfl (Nat.le_of_ble_eq_true rfl) rfl (q_aload_n rfl rfl (v_gi (z := 4) (v := c2 41 4) rfl rfl rfl (Nat.le_of_ble_eq_true rfl) rfl rfl rfl ?_))))
      have h_6 : -2147483648 ≤ (B (c2 41 4)) ∧ (B (c2 41 4)) ≤ 2147483647 := by rw [← hB (c2 41 4)]; exact ir_43 hI (c2 41 4)
      have kn_7 : Hid (c2 43 (c2 41 4) = (B (c2 41 4))) := (hF 43 (c2 41 4) (fun h => absurd h.1 (nn rfl))).trans (hB (c2 41 4))
      refine v_ia (v := (B (c2 41 4))) rfl rfl (by decide) (by decide) ⟨h_3.1, by omega⟩ (hid kn_7) (q_call rfl rfl rfl rfl (q_iload_n rfl rfl (v_bip rfl (by decide) ?_)))
      by_cases h_8 : (B (c2 41 4)) < 97
      · refine v_ic_lt_t (t := 16) rfl rfl ⟨by first | exact q_f97c35332 h_6 | omega, h_8, by decide⟩ (q_iconst rfl (v_zret rfl rfl (by decide) (bk_inl (v_if_eq_t (t := 39) rfl rfl (by decide) (q_vret rfl rfl ?_)))))
        have hz8 : ln B e1 (c2 41 4) = c2 41 4 := ln_z (by omega)
        have hz9 : L8 = c2 41 4 := hx0.symm.trans hz8
        exact K0 c2 hI2 (fun a j hm => hF a j (fun h => hm h)) (by omega)
      · refine v_ic_lt_f (t := 16) rfl rfl ⟨by decide, (Int.not_lt.mp h_8), by first | exact q_79e53d295 h_6 | omega⟩ (q_iload_n rfl rfl (v_bip rfl (by decide) ?_))
        by_cases h_9 : (B (c2 41 4)) > 122
        · refine v_ic_gt_t (t := 16) rfl rfl ⟨by decide, h_9, by first | exact q_79e53d295 h_6 | omega⟩ (q_iconst rfl (v_zret rfl rfl (by decide) (bk_inl (v_if_eq_t (t := 39) rfl rfl (by decide) (q_vret rfl rfl ?_)))))
          have hz8 : ln B e1 (c2 41 4) = c2 41 4 := ln_z (by omega)
          have hz9 : L8 = c2 41 4 := hx0.symm.trans hz8
          exact K0 c2 hI2 (fun a j hm => hF a j (fun h => hm h)) (by omega)
        · refine v_ic_gt_f (t := 16) rfl rfl ⟨by first | exact q_831bb82af h_8 | omega, (Int.not_lt.mp h_9), by decide⟩ (q_iconst rfl (q_goto (t := 17) rfl rfl (v_zret rfl rfl (by decide) (bk_inl (v_if_eq_f (t := 39) rfl rfl (by decide) (q_aload_n rfl rfl (q_dup rfl rfl ?_)))))))
          refine v_gi (z := 4) (v := c2 41 4) rfl rfl rfl (Nat.le_of_ble_eq_true rfl) rfl rfl rfl (q_iconst rfl (v_iadd (v := c2 41 4 + 1) rfl rfl (v_pi (z := 4) rfl rfl rfl (Nat.le_of_ble_eq_true rfl) rfl rfl rfl (by decide) (q_goto (t := 0) rfl rfl ?_))))
          have hI_10 := iw_41_4 (v := c2 41 4 + 1) hI2 ⟨by first | exact rgp_l h_3.1 (by decide) | omega, by omega⟩
          refine Wp_ls [(0, .ref 41)] (lsub_cons rfl lsub_nil) ?_
          have h_11 : (up c2 41 4 (c2 41 4 + 1)) 41 4 = c2 41 4 + 1 := (up_e rfl)
          exact ih (up c2 41 4 (c2 41 4 + 1)) hI_10 (fun a j hm => (up_b (Decidable.or_iff_not_imp_left.mpr (fun h1 h2 => hm ⟨Decidable.not_not.mp h1, h2⟩))).trans (hF a j (fun h => hm h))) (by rw [show (up c2 41 4 (c2 41 4 + 1)) 41 4 = c2 41 4 + 1 from (up_e rfl)]; exact (ln_s (by omega)).symm.trans hx0) (by omega)
set_option maxRecDepth 100000 in
set_option maxHeartbeats 4000000 in
theorem f_159 {sc : List Int32} {e : Int} {d u P Q : Nat} {c : ME} {e1 a9 L8 : Int} {B : Int → Int} {Z : AR → Prop} (hI : Iv u e P Q c) (hv0 : c 41 3 = e1) (hv1 : c 41 4 = a9) (hB : ∀ j : Int, c 43 j = B j) (hdL8 : ln B e1 a9 = L8) (K0 : ∀ c2 : ME, Iv u e P Q c2 → (∀ (a : Nat) (j : Int), ¬ ((a = 41 ∧ j = 4)) → c2 a j = c a j) → (c2 41 4 = L8) → Z (.inl (none), Wd P Q P P c2, 0, 0)) : Wp sc (d + 9) 159 0 [(0, .ref 41)] [] (Wd P Q P P c) 0 0 Z := by
  have hP := iv_P hI
  have hQ := iv_Q hI
  have h_12 := ir_41_3 hI
  have h_13 := ir_41_4 hI
  refine Wp_ls [(0, .ref 41)] (lsub_cons rfl lsub_nil) ?_
  have h_14 : c 41 4 = a9 := (hv1)
  exact (f_159_l (sc := sc) (d := d) hI hv0 hv1 hB hdL8 K0 606) c hI (fun a j hm => rfl) (by rw [hv1]; exact hdL8) (by omega)

set_option maxRecDepth 100000 in
set_option maxHeartbeats 4000000 in
theorem f_10_8_3 {sc : List Int32} {e : Int} {d u P Q : Nat} {c : ME} {e1 a9 f9 p9 W8 r8 L8 : Int} {B : Int → Int} {Z : AR → Prop} (hI : Iv u e P Q c) (hq0 : (f9 = 0)) (hq1 : (r8 ≥ 0 ∧ r8 ≤ L8 ∧ L8 ≤ 600)) (hv0 : c 1 1 = e1) (hv1 : c 1 2 = a9) (hv2 : c 1 4 = f9) (hv3 : c 1 5 = p9) (hB : ∀ j : Int, c 2 j = B j) (hdW8 : wd8_3 B r8 L8 = W8) (K0 : ∀ c2 : ME, Iv u e P Q c2 → (∀ (a : Nat) (j : Int), ¬ ((a = 1 ∧ j = 2) ∨ (a = 1 ∧ j = 4) ∨ (a = 1 ∧ j = 5)) → c2 a j = c a j) → ((W8 = (-1))) → (c2 1 2 = a9) → (c2 1 4 = 1) → (c2 1 5 = r8) → Z (.inl (some (vi (-1))), Wd P Q P P c2, 0, 0)) (K1 : ∀ c2 : ME, Iv u e P Q c2 → (∀ (a : Nat) (j : Int), ¬ ((a = 1 ∧ j = 2) ∨ (a = 1 ∧ j = 4) ∨ (a = 1 ∧ j = 5)) → c2 a j = c a j) → ((W8 ≥ 0 ∧ W8 ≤ 3)) → (c2 1 2 = L8) → (c2 1 4 = 0) → (c2 1 5 = p9) → Z (.inl (some (vi W8)), Wd P Q P P c2, 0, 0)) : Wp sc (d + 12) 10 52 [(0, .ref 1), (1, .ref (a_SB + 8)), (2, vi r8), (3, vi L8), (4, vi 3), (5, vi 16), (6, vi 16)] [] (Wd P Q P P c) 0 0 Z := by
  have hP := iv_P hI
  have hQ := iv_Q hI
  have h_1 := ir_1_1 hI
  have h_2 := ir_1_2 hI
  have h_3 := ir_1_4 hI
  have h_4 := ir_1_5 hI
  refine q_iload rfl rfl (q_aload_n rfl rfl (v_sln 20 rfl rfl (by omega) (Nat.le_of_ble_eq_true rfl) (by decide) (by decide) (v_ic_gt_f (t := 136) rfl rfl (by decide) (q_aload_n rfl rfl (v_cv rfl rfl rfl rfl (Nat.le_of_ble_eq_true rfl) ⟨⟨rfl, rfl⟩, Nat.le_of_ble_eq_true rfl, rfl⟩ (Nat.le_of_ble_eq_true rfl) (Nat.le_of_ble_eq_true rfl) (q_aload_n rfl rfl (v_gi (z := 4) (v := f9) rfl rfl rfl (Nat.le_of_ble_eq_true rfl) rfl rfl (hv2) ?_)))))))
  refine v_if_ne_f (t := 11) rfl rfl (by omega) (q_iconst rfl (q_goto (t := 12) rfl rfl (v_zret rfl rfl (by decide) (bk_inl (v_if_eq_f (t := 136) rfl rfl (by decide) (q_iload rfl rfl (q_aload_n rfl rfl ?_)))))))
  refine v_sln 20 rfl rfl (by omega) (Nat.le_of_ble_eq_true rfl) (by decide) (by decide) (v_ic_eq_f (t := 88) rfl rfl (by decide) (q_aload_n rfl rfl (q_iload rfl rfl (v_sch 100 rfl rfl (by omega) (Nat.le_of_ble_eq_true rfl) (by decide) (by decide) (by decide) (v_bip rfl (by decide) (v_ic_ne_t (t := 130) rfl rfl (by decide) (v_iinc (v := 17) rfl rfl (Nat.le_of_ble_eq_true rfl) (by decide) ?_)))))))
  refine q_goto (t := 52) rfl rfl (q_iload rfl rfl (q_aload_n rfl rfl (v_sln 20 rfl rfl (by omega) (Nat.le_of_ble_eq_true rfl) (by decide) (by decide) (v_ic_gt_f (t := 136) rfl rfl (by decide) (q_aload_n rfl rfl (v_cv rfl rfl rfl rfl (Nat.le_of_ble_eq_true rfl) ⟨⟨rfl, rfl⟩, Nat.le_of_ble_eq_true rfl, rfl⟩ (Nat.le_of_ble_eq_true rfl) (Nat.le_of_ble_eq_true rfl) (q_aload_n rfl rfl ?_)))))))
  refine v_gi (z := 4) (v := f9) rfl rfl rfl (Nat.le_of_ble_eq_true rfl) rfl rfl (hv2) (v_if_ne_f (t := 11) rfl rfl (by omega) (q_iconst rfl (q_goto (t := 12) rfl rfl (v_zret rfl rfl (by decide) (bk_inl (v_if_eq_f (t := 136) rfl rfl (by decide) (q_iload rfl rfl ?_)))))))
  refine q_aload_n rfl rfl (v_sln 20 rfl rfl (by omega) (Nat.le_of_ble_eq_true rfl) (by decide) (by decide) (v_ic_eq_f (t := 88) rfl rfl (by decide) (q_aload_n rfl rfl (q_iload rfl rfl (v_sch 117 rfl rfl (by omega) (Nat.le_of_ble_eq_true rfl) (by decide) (by decide) (by decide) (v_bip rfl (by decide) (v_ic_ne_t (t := 130) rfl rfl (by decide) ?_)))))))
  refine v_iinc (v := 18) rfl rfl (Nat.le_of_ble_eq_true rfl) (by decide) (q_goto (t := 52) rfl rfl (q_iload rfl rfl (q_aload_n rfl rfl (v_sln 20 rfl rfl (by omega) (Nat.le_of_ble_eq_true rfl) (by decide) (by decide) (v_ic_gt_f (t := 136) rfl rfl (by decide) (q_aload_n rfl rfl (v_cv rfl rfl rfl rfl (Nat.le_of_ble_eq_true rfl) ⟨⟨rfl, rfl⟩, Nat.le_of_ble_eq_true rfl, rfl⟩ (Nat.le_of_ble_eq_true rfl) (Nat.le_of_ble_eq_true rfl) ?_)))))))
  refine q_aload_n rfl rfl (v_gi (z := 4) (v := f9) rfl rfl rfl (Nat.le_of_ble_eq_true rfl) rfl rfl (hv2) (v_if_ne_f (t := 11) rfl rfl (by omega) (q_iconst rfl (q_goto (t := 12) rfl rfl (v_zret rfl rfl (by decide) (bk_inl (v_if_eq_f (t := 136) rfl rfl (by decide) ?_)))))))
  refine q_iload rfl rfl (q_aload_n rfl rfl (v_sln 20 rfl rfl (by omega) (Nat.le_of_ble_eq_true rfl) (by decide) (by decide) (v_ic_eq_f (t := 88) rfl rfl (by decide) (q_aload_n rfl rfl (q_iload rfl rfl (v_sch 115 rfl rfl (by omega) (Nat.le_of_ble_eq_true rfl) (by decide) (by decide) (by decide) (v_bip rfl (by decide) ?_)))))))
  refine v_ic_ne_t (t := 130) rfl rfl (by decide) (v_iinc (v := 19) rfl rfl (Nat.le_of_ble_eq_true rfl) (by decide) (q_goto (t := 52) rfl rfl (q_iload rfl rfl (q_aload_n rfl rfl (v_sln 20 rfl rfl (by omega) (Nat.le_of_ble_eq_true rfl) (by decide) (by decide) (v_ic_gt_f (t := 136) rfl rfl (by decide) (q_aload_n rfl rfl ?_)))))))
  refine v_cv rfl rfl rfl rfl (Nat.le_of_ble_eq_true rfl) ⟨⟨rfl, rfl⟩, Nat.le_of_ble_eq_true rfl, rfl⟩ (Nat.le_of_ble_eq_true rfl) (Nat.le_of_ble_eq_true rfl) (q_aload_n rfl rfl (v_gi (z := 4) (v := f9) rfl rfl rfl (Nat.le_of_ble_eq_true rfl) rfl rfl (hv2) (v_if_ne_f (t := 11) rfl rfl (by omega) (q_iconst rfl (q_goto (t := 12) rfl rfl (v_zret rfl rfl (by decide) (bk_inl ?_)))))))
  refine v_if_eq_f (t := 136) rfl rfl (by decide) (q_iload rfl rfl (q_aload_n rfl rfl (v_sln 20 rfl rfl (by omega) (Nat.le_of_ble_eq_true rfl) (by decide) (by decide) (v_ic_eq_f (t := 88) rfl rfl (by decide) (q_aload_n rfl rfl (q_iload rfl rfl (v_sch 116 rfl rfl (by omega) (Nat.le_of_ble_eq_true rfl) (by decide) (by decide) (by decide) ?_)))))))
  refine v_bip rfl (by decide) (v_ic_ne_t (t := 130) rfl rfl (by decide) (v_iinc (v := 20) rfl rfl (Nat.le_of_ble_eq_true rfl) (by decide) (q_goto (t := 52) rfl rfl (q_iload rfl rfl (q_aload_n rfl rfl (v_sln 20 rfl rfl (by omega) (Nat.le_of_ble_eq_true rfl) (by decide) (by decide) (v_ic_gt_f (t := 136) rfl rfl (by decide) ?_)))))))
  refine q_aload_n rfl rfl (v_cv rfl rfl rfl rfl (Nat.le_of_ble_eq_true rfl) ⟨⟨rfl, rfl⟩, Nat.le_of_ble_eq_true rfl, rfl⟩ (Nat.le_of_ble_eq_true rfl) (Nat.le_of_ble_eq_true rfl) (q_aload_n rfl rfl (v_gi (z := 4) (v := f9) rfl rfl rfl (Nat.le_of_ble_eq_true rfl) rfl rfl (hv2) (v_if_ne_f (t := 11) rfl rfl (by omega) (q_iconst rfl (q_goto (t := 12) rfl rfl (v_zret rfl rfl (by decide) ?_)))))))
  refine bk_inl (v_if_eq_f (t := 136) rfl rfl (by decide) (q_iload rfl rfl (q_aload_n rfl rfl (v_sln 20 rfl rfl (by omega) (Nat.le_of_ble_eq_true rfl) (by decide) (by decide) (v_ic_eq_t (t := 88) rfl rfl (by decide) (q_iload rfl rfl (q_iload rfl rfl ?_)))))))
  refine v_isub (v := 4) rfl (by decide) (q_iload_n rfl rfl (q_iload_n rfl rfl (v_isub (v := L8 - r8) rfl rfl ?_)))
  by_cases h_5 : 4 ≠ L8 - r8
  · refine v_ic_ne_t (t := 121) rfl rfl ⟨h_5, ⟨by decide, by decide⟩, by omega, by omega⟩ (v_iinc (v := 4) rfl rfl (Nat.le_of_ble_eq_true rfl) (by decide) (Wp_ls [(4, vi 4), (6, vi 20), (0, .ref 1), (1, .ref (a_SB + 8)), (2, vi r8), (3, vi L8), (5, vi 16)] (lsub_cons rfl (lsub_cons rfl (lsub_cons rfl (lsub_cons rfl (lsub_cons rfl (lsub_cons rfl (lsub_cons rfl lsub_nil))))))) (q_iload rfl rfl (q_iconst rfl (v_iadd (v := 21) rfl (by decide) (q_istore rfl (Nat.le_of_ble_eq_true rfl) (v_iinc (v := 21) rfl rfl (Nat.le_of_ble_eq_true rfl) (by decide) ?_)))))))
    refine q_goto (t := 52) rfl rfl (q_iload rfl rfl (q_aload_n rfl rfl (v_sln 20 rfl rfl (by omega) (Nat.le_of_ble_eq_true rfl) (by decide) (by decide) (v_ic_gt_t (t := 136) rfl rfl (by decide) (q_aload_n rfl rfl (q_iconst rfl (q_iload_n rfl rfl ?_)))))))
    refine v_cv rfl rfl rfl rfl (Nat.le_of_ble_eq_true rfl) ⟨⟨rfl, rfl⟩, Nat.le_of_ble_eq_true rfl, rfl⟩ (Nat.le_of_ble_eq_true rfl) (Nat.le_of_ble_eq_true rfl) (q_aload_n rfl rfl (v_gi (z := 4) (v := f9) rfl rfl rfl (Nat.le_of_ble_eq_true rfl) rfl rfl (hv2) (v_if_ne_f (t := 17) rfl rfl (by first | (clear h_1 h_2 h_3 h_4 h_5; omega) | omega) (q_aload_n rfl rfl (q_iload_n rfl rfl (v_pi (z := 4) rfl rfl rfl (Nat.le_of_ble_eq_true rfl) rfl rfl rfl (by decide) (q_aload_n rfl rfl ?_)))))))
    refine q_iload_n rfl rfl (v_pi (z := 5) rfl rfl rfl (Nat.le_of_ble_eq_true rfl) rfl rfl rfl (by decide) (q_vret rfl rfl (bk_inl (q_iconst rfl (q_iret rfl rfl ?_)))))
    have hw9 : W8 = (-1) := hdW8.symm.trans (wd8_3_f (by omega))
    have hI_6 := iw_1_4 (v := 1) hI ⟨by decide, by decide⟩
    have hI_7 := iw_1_5 (v := r8) hI_6 ⟨by first | (clear h_1 h_2 h_3 h_4 hw9 h_5; omega) | omega, by first | (clear h_1 h_2 h_3 h_4 hw9 h_5; omega) | omega⟩
    have h_8 : (up (up c 1 4 1) 1 5 r8) 1 2 = a9 := ((up_n (by decide)).trans ((up_n (by decide)).trans (hv1)))
    have h_9 : (up (up c 1 4 1) 1 5 r8) 1 4 = 1 := ((up_n (by decide)).trans (up_e rfl))
    have h_10 : (up (up c 1 4 1) 1 5 r8) 1 5 = r8 := (up_e rfl)
    exact zv (by omega) (K0 (up (up c 1 4 1) 1 5 r8) hI_7 (fun a j hm => (up_b (Decidable.or_iff_not_imp_left.mpr (fun h1 h2 => hm (Or.inr (Or.inr ⟨Decidable.not_not.mp h1, h2⟩))))).trans (up_b (Decidable.or_iff_not_imp_left.mpr (fun h1 h2 => hm (Or.inr (Or.inl ⟨Decidable.not_not.mp h1, h2⟩)))))) (by omega) (by omega) (by omega) (by omega))
  · refine v_ic_ne_f (t := 121) rfl rfl (Decidable.not_not.mp h_5) (q_aload_n rfl rfl (q_aload_n rfl rfl (q_iload rfl rfl (q_iload_n rfl rfl (q_iload_n rfl rfl (q_iload_n rfl rfl (v_isub (v := L8 - r8) rfl rfl ?_)))))))
    refine v_cv rfl rfl rfl rfl (Nat.le_of_ble_eq_true rfl) ⟨⟨rfl, rfl⟩, Nat.le_of_ble_eq_true rfl, rfl⟩ (Nat.le_of_ble_eq_true rfl) (Nat.le_of_ble_eq_true rfl) (q_iconst rfl (q_istore rfl (Nat.le_of_ble_eq_true rfl) (q_iload rfl rfl (q_iload rfl rfl (v_ic_ge_f (t := 38) rfl rfl ⟨by decide, by first | exact q_e102c8f11 h_5 | omega, by first | exact q_559789b9d h_5 | omega⟩ (q_aload_n rfl rfl (q_iload_n rfl rfl ?_)))))))
    refine q_iload rfl rfl (v_iadd (v := 16) rfl (by decide) (v_sch 100 rfl rfl (by omega) (Nat.le_of_ble_eq_true rfl) (by decide) (by decide) (by decide) (q_aload_n rfl rfl (v_gr (t := 2) rfl rfl rfl (Nat.le_of_ble_eq_true rfl) rfl (q_iload_n rfl rfl (q_iload rfl rfl (v_iadd (v := r8) rfl (by omega) ?_)))))))
    have h_11 : -2147483648 ≤ (B r8) ∧ (B r8) ≤ 2147483647 := by rw [← hB r8]; exact ir_2 hI r8
    refine v_ba (v := (B r8)) rfl rfl (by decide) (by decide) (by omega) (hB r8) ?_
    by_cases h_12 : 100 = (B r8)
    · refine v_ic_eq_t (t := 32) rfl rfl h_12 (v_iinc (v := 1) rfl rfl (Nat.le_of_ble_eq_true rfl) (by decide) (q_goto (t := 3) rfl rfl (q_iload rfl rfl (q_iload rfl rfl (v_ic_ge_f (t := 38) rfl rfl ⟨by decide, by first | exact q_a2240bc6c h_5 | omega, by first | exact q_559789b9d h_5 | omega⟩ (q_aload_n rfl rfl (q_iload_n rfl rfl ?_)))))))
      refine q_iload rfl rfl (v_iadd (v := 17) rfl (by decide) (v_sch 117 rfl rfl (by omega) (Nat.le_of_ble_eq_true rfl) (by decide) (by decide) (by decide) (q_aload_n rfl rfl (v_gr (t := 2) rfl rfl rfl (Nat.le_of_ble_eq_true rfl) rfl (q_iload_n rfl rfl (q_iload rfl rfl (v_iadd (v := r8 + 1) rfl rfl ?_)))))))
      have h_13 : -2147483648 ≤ (B (r8 + 1)) ∧ (B (r8 + 1)) ≤ 2147483647 := by rw [← hB (r8 + 1)]; exact ir_2 hI (r8 + 1)
      refine v_ba (v := (B (r8 + 1))) rfl rfl (by decide) (by decide) (by omega) (hB (r8 + 1)) ?_
      by_cases h_14 : 117 = (B (r8 + 1))
      · refine v_ic_eq_t (t := 32) rfl rfl h_14 (v_iinc (v := 2) rfl rfl (Nat.le_of_ble_eq_true rfl) (by decide) (q_goto (t := 3) rfl rfl (q_iload rfl rfl (q_iload rfl rfl (v_ic_ge_f (t := 38) rfl rfl ⟨by decide, by first | exact q_81cf1e9c6 h_5 | omega, by first | exact q_559789b9d h_5 | omega⟩ (q_aload_n rfl rfl (q_iload_n rfl rfl ?_)))))))
        refine q_iload rfl rfl (v_iadd (v := 18) rfl (by decide) (v_sch 115 rfl rfl (by omega) (Nat.le_of_ble_eq_true rfl) (by decide) (by decide) (by decide) (q_aload_n rfl rfl (v_gr (t := 2) rfl rfl rfl (Nat.le_of_ble_eq_true rfl) rfl (q_iload_n rfl rfl (q_iload rfl rfl (v_iadd (v := r8 + 2) rfl rfl ?_)))))))
        have h_15 : -2147483648 ≤ (B (r8 + 2)) ∧ (B (r8 + 2)) ≤ 2147483647 := by rw [← hB (r8 + 2)]; exact ir_2 hI (r8 + 2)
        refine v_ba (v := (B (r8 + 2))) rfl rfl (by decide) (by decide) (by omega) (hB (r8 + 2)) ?_
        by_cases h_16 : 115 = (B (r8 + 2))
        · refine v_ic_eq_t (t := 32) rfl rfl h_16 (v_iinc (v := 3) rfl rfl (Nat.le_of_ble_eq_true rfl) (by decide) (q_goto (t := 3) rfl rfl (q_iload rfl rfl (q_iload rfl rfl (v_ic_ge_f (t := 38) rfl rfl ⟨by decide, by first | exact q_bf9798940 h_5 | omega, by first | exact q_559789b9d h_5 | omega⟩ (q_aload_n rfl rfl (q_iload_n rfl rfl ?_)))))))
          refine q_iload rfl rfl (v_iadd (v := 19) rfl (by decide) (v_sch 116 rfl rfl (by omega) (Nat.le_of_ble_eq_true rfl) (by decide) (by decide) (by decide) (q_aload_n rfl rfl (v_gr (t := 2) rfl rfl rfl (Nat.le_of_ble_eq_true rfl) rfl (q_iload_n rfl rfl (q_iload rfl rfl (v_iadd (v := r8 + 3) rfl rfl ?_)))))))
          have h_17 : -2147483648 ≤ (B (r8 + 3)) ∧ (B (r8 + 3)) ≤ 2147483647 := by rw [← hB (r8 + 3)]; exact ir_2 hI (r8 + 3)
          refine v_ba (v := (B (r8 + 3))) rfl rfl (by decide) (by decide) (by omega) (hB (r8 + 3)) ?_
          by_cases h_18 : 116 = (B (r8 + 3))
          · refine v_ic_eq_t (t := 32) rfl rfl h_18 (v_iinc (v := 4) rfl rfl (Nat.le_of_ble_eq_true rfl) (by decide) (Wp_ls [(5, vi 4), (0, .ref 1), (1, .ref (a_SB + 8)), (2, vi 16), (3, vi r8), (4, vi (L8 - r8))] (lsub_cons rfl (lsub_cons rfl (lsub_cons rfl (lsub_cons rfl (lsub_cons rfl (lsub_cons rfl lsub_nil)))))) (q_goto (t := 3) rfl rfl (q_iload rfl rfl (q_iload rfl rfl (v_ic_ge_t (t := 38) rfl rfl ⟨by first | exact q_5edcef13d h_5 | omega, by first | exact q_62ba5a5ea h_5 | omega, by decide⟩ (q_iconst rfl ?_)))))))
            refine v_zret rfl rfl (by decide) (bk_inl (v_if_eq_f (t := 121) rfl rfl (by decide) (q_aload_n rfl rfl (q_iload_n rfl rfl (v_pi (z := 2) rfl rfl rfl (Nat.le_of_ble_eq_true rfl) rfl rfl rfl (by decide) (q_iload rfl rfl (q_iret rfl rfl ?_)))))))
            have hw9 : W8 = 3 := hdW8.symm.trans (wd8_3_t (by omega))
            have hI_19 := iw_1_2 (v := L8) hI ⟨by first | (clear h_1 h_2 h_3 h_4 h_11 h_12 h_13 h_14 h_15 h_16 h_17 h_18 hw9; omega) | omega, by first | (clear h_1 h_2 h_3 h_4 h_5 h_11 h_12 h_13 h_14 h_15 h_16 h_17 h_18 hw9; omega) | omega⟩
            have h_20 : (up c 1 2 L8) 1 2 = L8 := (up_e rfl)
            have h_21 : (up c 1 2 L8) 1 4 = f9 := ((up_n (by decide)).trans (hv2))
            have h_22 : (up c 1 2 L8) 1 5 = p9 := ((up_n (by decide)).trans (hv3))
            exact zv (by omega) (K1 (up c 1 2 L8) hI_19 (fun a j hm => up_b (Decidable.or_iff_not_imp_left.mpr (fun h1 h2 => hm (Or.inl ⟨Decidable.not_not.mp h1, h2⟩)))) (by omega) (by omega) (by omega) (by omega))
          · refine v_ic_eq_f (t := 32) rfl rfl ⟨h_18, ⟨by decide, by decide⟩, by first | exact q_f97c35332 h_17 | omega, by first | exact q_79e53d295 h_17 | omega⟩ (q_iconst rfl (v_zret rfl rfl (by decide) (bk_inl (v_if_eq_t (t := 121) rfl rfl (by decide) (v_iinc (v := 4) rfl rfl (Nat.le_of_ble_eq_true rfl) (by decide) (Wp_ls [(4, vi 4), (6, vi 20), (0, .ref 1), (1, .ref (a_SB + 8)), (2, vi r8), (3, vi L8), (5, vi 16)] (lsub_cons rfl (lsub_cons rfl (lsub_cons rfl (lsub_cons rfl (lsub_cons rfl (lsub_cons rfl (lsub_cons rfl lsub_nil))))))) (q_iload rfl rfl ?_)))))))
            refine q_iconst rfl (v_iadd (v := 21) rfl (by decide) (q_istore rfl (Nat.le_of_ble_eq_true rfl) (v_iinc (v := 21) rfl rfl (Nat.le_of_ble_eq_true rfl) (by decide) (q_goto (t := 52) rfl rfl (q_iload rfl rfl (q_aload_n rfl rfl (v_sln 20 rfl rfl (by omega) (Nat.le_of_ble_eq_true rfl) (by decide) (by decide) ?_)))))))
            refine v_ic_gt_t (t := 136) rfl rfl (by decide) (q_aload_n rfl rfl (q_iconst rfl (q_iload_n rfl rfl (v_cv rfl rfl rfl rfl (Nat.le_of_ble_eq_true rfl) ⟨⟨rfl, rfl⟩, Nat.le_of_ble_eq_true rfl, rfl⟩ (Nat.le_of_ble_eq_true rfl) (Nat.le_of_ble_eq_true rfl) (q_aload_n rfl rfl (v_gi (z := 4) (v := f9) rfl rfl rfl (Nat.le_of_ble_eq_true rfl) rfl rfl (hv2) (v_if_ne_f (t := 17) rfl rfl (by first | (clear h_1 h_2 h_3 h_4 h_5 h_11 h_12 h_13 h_14 h_15 h_16 h_17 h_18; omega) | omega) ?_)))))))
            refine q_aload_n rfl rfl (q_iload_n rfl rfl (v_pi (z := 4) rfl rfl rfl (Nat.le_of_ble_eq_true rfl) rfl rfl rfl (by decide) (q_aload_n rfl rfl (q_iload_n rfl rfl (v_pi (z := 5) rfl rfl rfl (Nat.le_of_ble_eq_true rfl) rfl rfl rfl (by decide) (q_vret rfl rfl (bk_inl ?_)))))))
            refine q_iconst rfl (q_iret rfl rfl ?_)
            have hw9 : W8 = (-1) := hdW8.symm.trans (wd8_3_f (by omega))
            have hI_23 := iw_1_4 (v := 1) hI ⟨by decide, by decide⟩
            have hI_24 := iw_1_5 (v := r8) hI_23 ⟨by first | (clear h_1 h_2 h_3 h_4 h_5 h_11 h_12 h_13 h_14 h_15 h_16 h_17 hw9 h_18; omega) | omega, by first | (clear h_1 h_2 h_3 h_4 h_11 h_12 h_13 h_14 h_15 h_16 h_17 hw9 h_18; omega) | omega⟩
            have h_25 : (up (up c 1 4 1) 1 5 r8) 1 2 = a9 := ((up_n (by decide)).trans ((up_n (by decide)).trans (hv1)))
            have h_26 : (up (up c 1 4 1) 1 5 r8) 1 4 = 1 := ((up_n (by decide)).trans (up_e rfl))
            have h_27 : (up (up c 1 4 1) 1 5 r8) 1 5 = r8 := (up_e rfl)
            exact zv (by omega) (K0 (up (up c 1 4 1) 1 5 r8) hI_24 (fun a j hm => (up_b (Decidable.or_iff_not_imp_left.mpr (fun h1 h2 => hm (Or.inr (Or.inr ⟨Decidable.not_not.mp h1, h2⟩))))).trans (up_b (Decidable.or_iff_not_imp_left.mpr (fun h1 h2 => hm (Or.inr (Or.inl ⟨Decidable.not_not.mp h1, h2⟩)))))) (by omega) (by omega) (by omega) (by omega))
        · refine v_ic_eq_f (t := 32) rfl rfl ⟨h_16, ⟨by decide, by decide⟩, by first | exact q_f97c35332 h_15 | omega, by first | exact q_79e53d295 h_15 | omega⟩ (q_iconst rfl (v_zret rfl rfl (by decide) (bk_inl (v_if_eq_t (t := 121) rfl rfl (by decide) (v_iinc (v := 4) rfl rfl (Nat.le_of_ble_eq_true rfl) (by decide) (Wp_ls [(4, vi 4), (6, vi 20), (0, .ref 1), (1, .ref (a_SB + 8)), (2, vi r8), (3, vi L8), (5, vi 16)] (lsub_cons rfl (lsub_cons rfl (lsub_cons rfl (lsub_cons rfl (lsub_cons rfl (lsub_cons rfl (lsub_cons rfl lsub_nil))))))) (q_iload rfl rfl ?_)))))))
          refine q_iconst rfl (v_iadd (v := 21) rfl (by decide) (q_istore rfl (Nat.le_of_ble_eq_true rfl) (v_iinc (v := 21) rfl rfl (Nat.le_of_ble_eq_true rfl) (by decide) (q_goto (t := 52) rfl rfl (q_iload rfl rfl (q_aload_n rfl rfl (v_sln 20 rfl rfl (by omega) (Nat.le_of_ble_eq_true rfl) (by decide) (by decide) ?_)))))))
          refine v_ic_gt_t (t := 136) rfl rfl (by decide) (q_aload_n rfl rfl (q_iconst rfl (q_iload_n rfl rfl (v_cv rfl rfl rfl rfl (Nat.le_of_ble_eq_true rfl) ⟨⟨rfl, rfl⟩, Nat.le_of_ble_eq_true rfl, rfl⟩ (Nat.le_of_ble_eq_true rfl) (Nat.le_of_ble_eq_true rfl) (q_aload_n rfl rfl (v_gi (z := 4) (v := f9) rfl rfl rfl (Nat.le_of_ble_eq_true rfl) rfl rfl (hv2) (v_if_ne_f (t := 17) rfl rfl (by first | (clear h_1 h_2 h_3 h_4 h_5 h_11 h_12 h_13 h_14 h_15 h_16; omega) | omega) ?_)))))))
          refine q_aload_n rfl rfl (q_iload_n rfl rfl (v_pi (z := 4) rfl rfl rfl (Nat.le_of_ble_eq_true rfl) rfl rfl rfl (by decide) (q_aload_n rfl rfl (q_iload_n rfl rfl (v_pi (z := 5) rfl rfl rfl (Nat.le_of_ble_eq_true rfl) rfl rfl rfl (by decide) (q_vret rfl rfl (bk_inl ?_)))))))
          refine q_iconst rfl (q_iret rfl rfl ?_)
          have hw9 : W8 = (-1) := hdW8.symm.trans (wd8_3_f (by omega))
          have hI_28 := iw_1_4 (v := 1) hI ⟨by decide, by decide⟩
          have hI_29 := iw_1_5 (v := r8) hI_28 ⟨by first | (clear h_1 h_2 h_3 h_4 h_5 h_11 h_12 h_13 h_14 h_15 hw9 h_16; omega) | omega, by first | (clear h_1 h_2 h_3 h_4 h_11 h_12 h_13 h_14 h_15 hw9 h_16; omega) | omega⟩
          have h_30 : (up (up c 1 4 1) 1 5 r8) 1 2 = a9 := ((up_n (by decide)).trans ((up_n (by decide)).trans (hv1)))
          have h_31 : (up (up c 1 4 1) 1 5 r8) 1 4 = 1 := ((up_n (by decide)).trans (up_e rfl))
          have h_32 : (up (up c 1 4 1) 1 5 r8) 1 5 = r8 := (up_e rfl)
          exact zv (by omega) (K0 (up (up c 1 4 1) 1 5 r8) hI_29 (fun a j hm => (up_b (Decidable.or_iff_not_imp_left.mpr (fun h1 h2 => hm (Or.inr (Or.inr ⟨Decidable.not_not.mp h1, h2⟩))))).trans (up_b (Decidable.or_iff_not_imp_left.mpr (fun h1 h2 => hm (Or.inr (Or.inl ⟨Decidable.not_not.mp h1, h2⟩)))))) (by omega) (by omega) (by omega) (by omega))
      · refine v_ic_eq_f (t := 32) rfl rfl ⟨h_14, ⟨by decide, by decide⟩, by first | exact q_f97c35332 h_13 | omega, by first | exact q_79e53d295 h_13 | omega⟩ (q_iconst rfl (v_zret rfl rfl (by decide) (bk_inl (v_if_eq_t (t := 121) rfl rfl (by decide) (v_iinc (v := 4) rfl rfl (Nat.le_of_ble_eq_true rfl) (by decide) (Wp_ls [(4, vi 4), (6, vi 20), (0, .ref 1), (1, .ref (a_SB + 8)), (2, vi r8), (3, vi L8), (5, vi 16)] (lsub_cons rfl (lsub_cons rfl (lsub_cons rfl (lsub_cons rfl (lsub_cons rfl (lsub_cons rfl (lsub_cons rfl lsub_nil))))))) (q_iload rfl rfl ?_)))))))
        refine q_iconst rfl (v_iadd (v := 21) rfl (by decide) (q_istore rfl (Nat.le_of_ble_eq_true rfl) (v_iinc (v := 21) rfl rfl (Nat.le_of_ble_eq_true rfl) (by decide) (q_goto (t := 52) rfl rfl (q_iload rfl rfl (q_aload_n rfl rfl (v_sln 20 rfl rfl (by omega) (Nat.le_of_ble_eq_true rfl) (by decide) (by decide) ?_)))))))
        refine v_ic_gt_t (t := 136) rfl rfl (by decide) (q_aload_n rfl rfl (q_iconst rfl (q_iload_n rfl rfl (v_cv rfl rfl rfl rfl (Nat.le_of_ble_eq_true rfl) ⟨⟨rfl, rfl⟩, Nat.le_of_ble_eq_true rfl, rfl⟩ (Nat.le_of_ble_eq_true rfl) (Nat.le_of_ble_eq_true rfl) (q_aload_n rfl rfl (v_gi (z := 4) (v := f9) rfl rfl rfl (Nat.le_of_ble_eq_true rfl) rfl rfl (hv2) (v_if_ne_f (t := 17) rfl rfl (by first | (clear h_1 h_2 h_3 h_4 h_5 h_11 h_12 h_13 h_14; omega) | omega) ?_)))))))
        refine q_aload_n rfl rfl (q_iload_n rfl rfl (v_pi (z := 4) rfl rfl rfl (Nat.le_of_ble_eq_true rfl) rfl rfl rfl (by decide) (q_aload_n rfl rfl (q_iload_n rfl rfl (v_pi (z := 5) rfl rfl rfl (Nat.le_of_ble_eq_true rfl) rfl rfl rfl (by decide) (q_vret rfl rfl (bk_inl ?_)))))))
        refine q_iconst rfl (q_iret rfl rfl ?_)
        have hw9 : W8 = (-1) := hdW8.symm.trans (wd8_3_f (by omega))
        have hI_33 := iw_1_4 (v := 1) hI ⟨by decide, by decide⟩
        have hI_34 := iw_1_5 (v := r8) hI_33 ⟨by first | (clear h_1 h_2 h_3 h_4 h_5 h_11 h_12 h_13 hw9 h_14; omega) | omega, by first | (clear h_1 h_2 h_3 h_4 h_11 h_12 h_13 hw9 h_14; omega) | omega⟩
        have h_35 : (up (up c 1 4 1) 1 5 r8) 1 2 = a9 := ((up_n (by decide)).trans ((up_n (by decide)).trans (hv1)))
        have h_36 : (up (up c 1 4 1) 1 5 r8) 1 4 = 1 := ((up_n (by decide)).trans (up_e rfl))
        have h_37 : (up (up c 1 4 1) 1 5 r8) 1 5 = r8 := (up_e rfl)
        exact zv (by omega) (K0 (up (up c 1 4 1) 1 5 r8) hI_34 (fun a j hm => (up_b (Decidable.or_iff_not_imp_left.mpr (fun h1 h2 => hm (Or.inr (Or.inr ⟨Decidable.not_not.mp h1, h2⟩))))).trans (up_b (Decidable.or_iff_not_imp_left.mpr (fun h1 h2 => hm (Or.inr (Or.inl ⟨Decidable.not_not.mp h1, h2⟩)))))) (by omega) (by omega) (by omega) (by omega))
    · refine v_ic_eq_f (t := 32) rfl rfl ⟨h_12, ⟨by decide, by decide⟩, by first | exact q_f97c35332 h_11 | omega, by first | exact q_79e53d295 h_11 | omega⟩ (q_iconst rfl (v_zret rfl rfl (by decide) (bk_inl (v_if_eq_t (t := 121) rfl rfl (by decide) (v_iinc (v := 4) rfl rfl (Nat.le_of_ble_eq_true rfl) (by decide) (Wp_ls [(4, vi 4), (6, vi 20), (0, .ref 1), (1, .ref (a_SB + 8)), (2, vi r8), (3, vi L8), (5, vi 16)] (lsub_cons rfl (lsub_cons rfl (lsub_cons rfl (lsub_cons rfl (lsub_cons rfl (lsub_cons rfl (lsub_cons rfl lsub_nil))))))) (q_iload rfl rfl ?_)))))))
      refine q_iconst rfl (v_iadd (v := 21) rfl (by decide) (q_istore rfl (Nat.le_of_ble_eq_true rfl) (v_iinc (v := 21) rfl rfl (Nat.le_of_ble_eq_true rfl) (by decide) (q_goto (t := 52) rfl rfl (q_iload rfl rfl (q_aload_n rfl rfl (v_sln 20 rfl rfl (by omega) (Nat.le_of_ble_eq_true rfl) (by decide) (by decide) ?_)))))))
      refine v_ic_gt_t (t := 136) rfl rfl (by decide) (q_aload_n rfl rfl (q_iconst rfl (q_iload_n rfl rfl (v_cv rfl rfl rfl rfl (Nat.le_of_ble_eq_true rfl) ⟨⟨rfl, rfl⟩, Nat.le_of_ble_eq_true rfl, rfl⟩ (Nat.le_of_ble_eq_true rfl) (Nat.le_of_ble_eq_true rfl) (q_aload_n rfl rfl (v_gi (z := 4) (v := f9) rfl rfl rfl (Nat.le_of_ble_eq_true rfl) rfl rfl (hv2) (v_if_ne_f (t := 17) rfl rfl (by first | (clear h_1 h_2 h_3 h_4 h_5 h_11 h_12; omega) | omega) ?_)))))))
      refine q_aload_n rfl rfl (q_iload_n rfl rfl (v_pi (z := 4) rfl rfl rfl (Nat.le_of_ble_eq_true rfl) rfl rfl rfl (by decide) (q_aload_n rfl rfl (q_iload_n rfl rfl (v_pi (z := 5) rfl rfl rfl (Nat.le_of_ble_eq_true rfl) rfl rfl rfl (by decide) (q_vret rfl rfl (bk_inl ?_)))))))
      refine q_iconst rfl (q_iret rfl rfl ?_)
      have hw9 : W8 = (-1) := hdW8.symm.trans (wd8_3_f (by omega))
      have hI_38 := iw_1_4 (v := 1) hI ⟨by decide, by decide⟩
      have hI_39 := iw_1_5 (v := r8) hI_38 ⟨by first | (clear h_1 h_2 h_3 h_4 h_5 h_11 hw9 h_12; omega) | omega, by first | (clear h_1 h_2 h_3 h_4 h_11 hw9 h_12; omega) | omega⟩
      have h_40 : (up (up c 1 4 1) 1 5 r8) 1 2 = a9 := ((up_n (by decide)).trans ((up_n (by decide)).trans (hv1)))
      have h_41 : (up (up c 1 4 1) 1 5 r8) 1 4 = 1 := ((up_n (by decide)).trans (up_e rfl))
      have h_42 : (up (up c 1 4 1) 1 5 r8) 1 5 = r8 := (up_e rfl)
      exact zv (by omega) (K0 (up (up c 1 4 1) 1 5 r8) hI_39 (fun a j hm => (up_b (Decidable.or_iff_not_imp_left.mpr (fun h1 h2 => hm (Or.inr (Or.inr ⟨Decidable.not_not.mp h1, h2⟩))))).trans (up_b (Decidable.or_iff_not_imp_left.mpr (fun h1 h2 => hm (Or.inr (Or.inl ⟨Decidable.not_not.mp h1, h2⟩)))))) (by omega) (by omega) (by omega) (by omega))

set_option maxRecDepth 100000 in
set_option maxHeartbeats 4000000 in
theorem f_10_8_2 {sc : List Int32} {e : Int} {d u P Q : Nat} {c : ME} {e1 a9 f9 p9 W8 r8 L8 : Int} {B : Int → Int} {Z : AR → Prop} (hI : Iv u e P Q c) (hq0 : (f9 = 0)) (hq1 : (r8 ≥ 0 ∧ r8 ≤ L8 ∧ L8 ≤ 600)) (hv0 : c 1 1 = e1) (hv1 : c 1 2 = a9) (hv2 : c 1 4 = f9) (hv3 : c 1 5 = p9) (hB : ∀ j : Int, c 2 j = B j) (hdW8 : wd8_2 B r8 L8 = W8) (K0 : ∀ c2 : ME, Iv u e P Q c2 → (∀ (a : Nat) (j : Int), ¬ ((a = 1 ∧ j = 2) ∨ (a = 1 ∧ j = 4) ∨ (a = 1 ∧ j = 5)) → c2 a j = c a j) → ((W8 = (-1))) → (c2 1 2 = a9) → (c2 1 4 = 1) → (c2 1 5 = r8) → Z (.inl (some (vi (-1))), Wd P Q P P c2, 0, 0)) (K1 : ∀ c2 : ME, Iv u e P Q c2 → (∀ (a : Nat) (j : Int), ¬ ((a = 1 ∧ j = 2) ∨ (a = 1 ∧ j = 4) ∨ (a = 1 ∧ j = 5)) → c2 a j = c a j) → ((W8 ≥ 0 ∧ W8 ≤ 3)) → (c2 1 2 = L8) → (c2 1 4 = 0) → (c2 1 5 = p9) → Z (.inl (some (vi W8)), Wd P Q P P c2, 0, 0)) : Wp sc (d + 12) 10 52 [(0, .ref 1), (1, .ref (a_SB + 8)), (2, vi r8), (3, vi L8), (4, vi 2), (5, vi 10), (6, vi 10)] [] (Wd P Q P P c) 0 0 Z := by
  have hP := iv_P hI
  have hQ := iv_Q hI
  have h_1 := ir_1_1 hI
  have h_2 := ir_1_2 hI
  have h_3 := ir_1_4 hI
  have h_4 := ir_1_5 hI
  refine q_iload rfl rfl (q_aload_n rfl rfl (v_sln 20 rfl rfl (by omega) (Nat.le_of_ble_eq_true rfl) (by decide) (by decide) (v_ic_gt_f (t := 136) rfl rfl (by decide) (q_aload_n rfl rfl (v_cv rfl rfl rfl rfl (Nat.le_of_ble_eq_true rfl) ⟨⟨rfl, rfl⟩, Nat.le_of_ble_eq_true rfl, rfl⟩ (Nat.le_of_ble_eq_true rfl) (Nat.le_of_ble_eq_true rfl) (q_aload_n rfl rfl (v_gi (z := 4) (v := f9) rfl rfl rfl (Nat.le_of_ble_eq_true rfl) rfl rfl (hv2) ?_)))))))
  refine v_if_ne_f (t := 11) rfl rfl (by omega) (q_iconst rfl (q_goto (t := 12) rfl rfl (v_zret rfl rfl (by decide) (bk_inl (v_if_eq_f (t := 136) rfl rfl (by decide) (q_iload rfl rfl (q_aload_n rfl rfl ?_)))))))
  refine v_sln 20 rfl rfl (by omega) (Nat.le_of_ble_eq_true rfl) (by decide) (by decide) (v_ic_eq_f (t := 88) rfl rfl (by decide) (q_aload_n rfl rfl (q_iload rfl rfl (v_sch 115 rfl rfl (by omega) (Nat.le_of_ble_eq_true rfl) (by decide) (by decide) (by decide) (v_bip rfl (by decide) (v_ic_ne_t (t := 130) rfl rfl (by decide) (v_iinc (v := 11) rfl rfl (Nat.le_of_ble_eq_true rfl) (by decide) ?_)))))))
  refine q_goto (t := 52) rfl rfl (q_iload rfl rfl (q_aload_n rfl rfl (v_sln 20 rfl rfl (by omega) (Nat.le_of_ble_eq_true rfl) (by decide) (by decide) (v_ic_gt_f (t := 136) rfl rfl (by decide) (q_aload_n rfl rfl (v_cv rfl rfl rfl rfl (Nat.le_of_ble_eq_true rfl) ⟨⟨rfl, rfl⟩, Nat.le_of_ble_eq_true rfl, rfl⟩ (Nat.le_of_ble_eq_true rfl) (Nat.le_of_ble_eq_true rfl) (q_aload_n rfl rfl ?_)))))))
  refine v_gi (z := 4) (v := f9) rfl rfl rfl (Nat.le_of_ble_eq_true rfl) rfl rfl (hv2) (v_if_ne_f (t := 11) rfl rfl (by omega) (q_iconst rfl (q_goto (t := 12) rfl rfl (v_zret rfl rfl (by decide) (bk_inl (v_if_eq_f (t := 136) rfl rfl (by decide) (q_iload rfl rfl ?_)))))))
  refine q_aload_n rfl rfl (v_sln 20 rfl rfl (by omega) (Nat.le_of_ble_eq_true rfl) (by decide) (by decide) (v_ic_eq_f (t := 88) rfl rfl (by decide) (q_aload_n rfl rfl (q_iload rfl rfl (v_sch 105 rfl rfl (by omega) (Nat.le_of_ble_eq_true rfl) (by decide) (by decide) (by decide) (v_bip rfl (by decide) (v_ic_ne_t (t := 130) rfl rfl (by decide) ?_)))))))
  refine v_iinc (v := 12) rfl rfl (Nat.le_of_ble_eq_true rfl) (by decide) (q_goto (t := 52) rfl rfl (q_iload rfl rfl (q_aload_n rfl rfl (v_sln 20 rfl rfl (by omega) (Nat.le_of_ble_eq_true rfl) (by decide) (by decide) (v_ic_gt_f (t := 136) rfl rfl (by decide) (q_aload_n rfl rfl (v_cv rfl rfl rfl rfl (Nat.le_of_ble_eq_true rfl) ⟨⟨rfl, rfl⟩, Nat.le_of_ble_eq_true rfl, rfl⟩ (Nat.le_of_ble_eq_true rfl) (Nat.le_of_ble_eq_true rfl) ?_)))))))
  refine q_aload_n rfl rfl (v_gi (z := 4) (v := f9) rfl rfl rfl (Nat.le_of_ble_eq_true rfl) rfl rfl (hv2) (v_if_ne_f (t := 11) rfl rfl (by omega) (q_iconst rfl (q_goto (t := 12) rfl rfl (v_zret rfl rfl (by decide) (bk_inl (v_if_eq_f (t := 136) rfl rfl (by decide) ?_)))))))
  refine q_iload rfl rfl (q_aload_n rfl rfl (v_sln 20 rfl rfl (by omega) (Nat.le_of_ble_eq_true rfl) (by decide) (by decide) (v_ic_eq_f (t := 88) rfl rfl (by decide) (q_aload_n rfl rfl (q_iload rfl rfl (v_sch 101 rfl rfl (by omega) (Nat.le_of_ble_eq_true rfl) (by decide) (by decide) (by decide) (v_bip rfl (by decide) ?_)))))))
  refine v_ic_ne_t (t := 130) rfl rfl (by decide) (v_iinc (v := 13) rfl rfl (Nat.le_of_ble_eq_true rfl) (by decide) (q_goto (t := 52) rfl rfl (q_iload rfl rfl (q_aload_n rfl rfl (v_sln 20 rfl rfl (by omega) (Nat.le_of_ble_eq_true rfl) (by decide) (by decide) (v_ic_gt_f (t := 136) rfl rfl (by decide) (q_aload_n rfl rfl ?_)))))))
  refine v_cv rfl rfl rfl rfl (Nat.le_of_ble_eq_true rfl) ⟨⟨rfl, rfl⟩, Nat.le_of_ble_eq_true rfl, rfl⟩ (Nat.le_of_ble_eq_true rfl) (Nat.le_of_ble_eq_true rfl) (q_aload_n rfl rfl (v_gi (z := 4) (v := f9) rfl rfl rfl (Nat.le_of_ble_eq_true rfl) rfl rfl (hv2) (v_if_ne_f (t := 11) rfl rfl (by omega) (q_iconst rfl (q_goto (t := 12) rfl rfl (v_zret rfl rfl (by decide) (bk_inl ?_)))))))
  refine v_if_eq_f (t := 136) rfl rfl (by decide) (q_iload rfl rfl (q_aload_n rfl rfl (v_sln 20 rfl rfl (by omega) (Nat.le_of_ble_eq_true rfl) (by decide) (by decide) (v_ic_eq_f (t := 88) rfl rfl (by decide) (q_aload_n rfl rfl (q_iload rfl rfl (v_sch 118 rfl rfl (by omega) (Nat.le_of_ble_eq_true rfl) (by decide) (by decide) (by decide) ?_)))))))
  refine v_bip rfl (by decide) (v_ic_ne_t (t := 130) rfl rfl (by decide) (v_iinc (v := 14) rfl rfl (Nat.le_of_ble_eq_true rfl) (by decide) (q_goto (t := 52) rfl rfl (q_iload rfl rfl (q_aload_n rfl rfl (v_sln 20 rfl rfl (by omega) (Nat.le_of_ble_eq_true rfl) (by decide) (by decide) (v_ic_gt_f (t := 136) rfl rfl (by decide) ?_)))))))
  refine q_aload_n rfl rfl (v_cv rfl rfl rfl rfl (Nat.le_of_ble_eq_true rfl) ⟨⟨rfl, rfl⟩, Nat.le_of_ble_eq_true rfl, rfl⟩ (Nat.le_of_ble_eq_true rfl) (Nat.le_of_ble_eq_true rfl) (q_aload_n rfl rfl (v_gi (z := 4) (v := f9) rfl rfl rfl (Nat.le_of_ble_eq_true rfl) rfl rfl (hv2) (v_if_ne_f (t := 11) rfl rfl (by omega) (q_iconst rfl (q_goto (t := 12) rfl rfl (v_zret rfl rfl (by decide) ?_)))))))
  refine bk_inl (v_if_eq_f (t := 136) rfl rfl (by decide) (q_iload rfl rfl (q_aload_n rfl rfl (v_sln 20 rfl rfl (by omega) (Nat.le_of_ble_eq_true rfl) (by decide) (by decide) (v_ic_eq_f (t := 88) rfl rfl (by decide) (q_aload_n rfl rfl (q_iload rfl rfl ?_)))))))
  refine v_sch 101 rfl rfl (by omega) (Nat.le_of_ble_eq_true rfl) (by decide) (by decide) (by decide) (v_bip rfl (by decide) (v_ic_ne_t (t := 130) rfl rfl (by decide) (v_iinc (v := 15) rfl rfl (Nat.le_of_ble_eq_true rfl) (by decide) (Wp_ls [(6, vi 15), (0, .ref 1), (1, .ref (a_SB + 8)), (2, vi r8), (3, vi L8), (4, vi 2), (5, vi 10)] (lsub_cons rfl (lsub_cons rfl (lsub_cons rfl (lsub_cons rfl (lsub_cons rfl (lsub_cons rfl (lsub_cons rfl lsub_nil))))))) (q_goto (t := 52) rfl rfl (q_iload rfl rfl (q_aload_n rfl rfl ?_)))))))
  refine v_sln 20 rfl rfl (by omega) (Nat.le_of_ble_eq_true rfl) (by decide) (by decide) (v_ic_gt_f (t := 136) rfl rfl (by decide) (q_aload_n rfl rfl (v_cv rfl rfl rfl rfl (Nat.le_of_ble_eq_true rfl) ⟨⟨rfl, rfl⟩, Nat.le_of_ble_eq_true rfl, rfl⟩ (Nat.le_of_ble_eq_true rfl) (Nat.le_of_ble_eq_true rfl) (q_aload_n rfl rfl (v_gi (z := 4) (v := f9) rfl rfl rfl (Nat.le_of_ble_eq_true rfl) rfl rfl (hv2) (v_if_ne_f (t := 11) rfl rfl (by omega) (q_iconst rfl ?_)))))))
  refine q_goto (t := 12) rfl rfl (v_zret rfl rfl (by decide) (bk_inl (v_if_eq_f (t := 136) rfl rfl (by decide) (q_iload rfl rfl (q_aload_n rfl rfl (v_sln 20 rfl rfl (by omega) (Nat.le_of_ble_eq_true rfl) (by decide) (by decide) (v_ic_eq_f (t := 88) rfl rfl (by decide) ?_)))))))
  refine q_aload_n rfl rfl (q_iload rfl rfl (v_sch 32 rfl rfl (by omega) (Nat.le_of_ble_eq_true rfl) (by decide) (by decide) (by decide) (v_bip rfl (by decide) (v_ic_ne_f (t := 130) rfl rfl (by decide) (q_iload rfl rfl (q_iload rfl rfl (v_isub (v := 5) rfl (by decide) ?_)))))))
  refine q_iload_n rfl rfl (q_iload_n rfl rfl (v_isub (v := L8 - r8) rfl rfl ?_))
  by_cases h_5 : 5 ≠ L8 - r8
  · refine v_ic_ne_t (t := 121) rfl rfl ⟨h_5, ⟨by decide, by decide⟩, by omega, by omega⟩ (v_iinc (v := 3) rfl rfl (Nat.le_of_ble_eq_true rfl) (by decide) (q_iload rfl rfl (q_iconst rfl (v_iadd (v := 16) rfl (by decide) (q_istore rfl (Nat.le_of_ble_eq_true rfl) (v_iinc (v := 16) rfl rfl (Nat.le_of_ble_eq_true rfl) (by decide) (q_goto (t := 52) rfl rfl ?_)))))))
    refine Wp_ls [(0, .ref 1), (1, .ref (a_SB + 8)), (2, vi r8), (3, vi L8), (4, vi 3), (5, vi 16), (6, vi 16)] (lsub_cons rfl (lsub_cons rfl (lsub_cons rfl (lsub_cons rfl (lsub_cons rfl (lsub_cons rfl (lsub_cons rfl lsub_nil))))))) ?_
    exact f_10_8_3 (d := d) (r8 := r8) (L8 := L8) (W8 := W8) hI hq0 hq1 hv0 hv1 hv2 hv3 hB ((wd8_2_f (by omega)).symm.trans hdW8) K0 K1
  · refine v_ic_ne_f (t := 121) rfl rfl (Decidable.not_not.mp h_5) (q_aload_n rfl rfl (q_aload_n rfl rfl (q_iload rfl rfl (q_iload_n rfl rfl (q_iload_n rfl rfl (q_iload_n rfl rfl (v_isub (v := L8 - r8) rfl rfl ?_)))))))
    refine v_cv rfl rfl rfl rfl (Nat.le_of_ble_eq_true rfl) ⟨⟨rfl, rfl⟩, Nat.le_of_ble_eq_true rfl, rfl⟩ (Nat.le_of_ble_eq_true rfl) (Nat.le_of_ble_eq_true rfl) (q_iconst rfl (q_istore rfl (Nat.le_of_ble_eq_true rfl) (q_iload rfl rfl (q_iload rfl rfl (v_ic_ge_f (t := 38) rfl rfl ⟨by decide, by first | exact q_38a4b4bff h_5 | omega, by first | exact q_fe3598997 h_5 | omega⟩ (q_aload_n rfl rfl (q_iload_n rfl rfl ?_)))))))
    refine q_iload rfl rfl (v_iadd (v := 10) rfl (by decide) (v_sch 115 rfl rfl (by omega) (Nat.le_of_ble_eq_true rfl) (by decide) (by decide) (by decide) (q_aload_n rfl rfl (v_gr (t := 2) rfl rfl rfl (Nat.le_of_ble_eq_true rfl) rfl (q_iload_n rfl rfl (q_iload rfl rfl (v_iadd (v := r8) rfl (by omega) ?_)))))))
    have h_6 : -2147483648 ≤ (B r8) ∧ (B r8) ≤ 2147483647 := by rw [← hB r8]; exact ir_2 hI r8
    refine v_ba (v := (B r8)) rfl rfl (by decide) (by decide) (by omega) (hB r8) ?_
    by_cases h_7 : 115 = (B r8)
    · refine v_ic_eq_t (t := 32) rfl rfl h_7 (v_iinc (v := 1) rfl rfl (Nat.le_of_ble_eq_true rfl) (by decide) (q_goto (t := 3) rfl rfl (q_iload rfl rfl (q_iload rfl rfl (v_ic_ge_f (t := 38) rfl rfl ⟨by decide, by first | exact q_2f422e7b9 h_5 | omega, by first | exact q_fe3598997 h_5 | omega⟩ (q_aload_n rfl rfl (q_iload_n rfl rfl ?_)))))))
      refine q_iload rfl rfl (v_iadd (v := 11) rfl (by decide) (v_sch 105 rfl rfl (by omega) (Nat.le_of_ble_eq_true rfl) (by decide) (by decide) (by decide) (q_aload_n rfl rfl (v_gr (t := 2) rfl rfl rfl (Nat.le_of_ble_eq_true rfl) rfl (q_iload_n rfl rfl (q_iload rfl rfl (v_iadd (v := r8 + 1) rfl rfl ?_)))))))
      have h_8 : -2147483648 ≤ (B (r8 + 1)) ∧ (B (r8 + 1)) ≤ 2147483647 := by rw [← hB (r8 + 1)]; exact ir_2 hI (r8 + 1)
      refine v_ba (v := (B (r8 + 1))) rfl rfl (by decide) (by decide) (by omega) (hB (r8 + 1)) ?_
      by_cases h_9 : 105 = (B (r8 + 1))
      · refine v_ic_eq_t (t := 32) rfl rfl h_9 (v_iinc (v := 2) rfl rfl (Nat.le_of_ble_eq_true rfl) (by decide) (q_goto (t := 3) rfl rfl (q_iload rfl rfl (q_iload rfl rfl (v_ic_ge_f (t := 38) rfl rfl ⟨by decide, by first | exact q_415b3b712 h_5 | omega, by first | exact q_fe3598997 h_5 | omega⟩ (q_aload_n rfl rfl (q_iload_n rfl rfl ?_)))))))
        refine q_iload rfl rfl (v_iadd (v := 12) rfl (by decide) (v_sch 101 rfl rfl (by omega) (Nat.le_of_ble_eq_true rfl) (by decide) (by decide) (by decide) (q_aload_n rfl rfl (v_gr (t := 2) rfl rfl rfl (Nat.le_of_ble_eq_true rfl) rfl (q_iload_n rfl rfl (q_iload rfl rfl (v_iadd (v := r8 + 2) rfl rfl ?_)))))))
        have h_10 : -2147483648 ≤ (B (r8 + 2)) ∧ (B (r8 + 2)) ≤ 2147483647 := by rw [← hB (r8 + 2)]; exact ir_2 hI (r8 + 2)
        refine v_ba (v := (B (r8 + 2))) rfl rfl (by decide) (by decide) (by omega) (hB (r8 + 2)) ?_
        by_cases h_11 : 101 = (B (r8 + 2))
        · refine v_ic_eq_t (t := 32) rfl rfl h_11 (v_iinc (v := 3) rfl rfl (Nat.le_of_ble_eq_true rfl) (by decide) (q_goto (t := 3) rfl rfl (q_iload rfl rfl (q_iload rfl rfl (v_ic_ge_f (t := 38) rfl rfl ⟨by decide, by first | exact q_170273d75 h_5 | omega, by first | exact q_fe3598997 h_5 | omega⟩ (q_aload_n rfl rfl (q_iload_n rfl rfl ?_)))))))
          refine q_iload rfl rfl (v_iadd (v := 13) rfl (by decide) (v_sch 118 rfl rfl (by omega) (Nat.le_of_ble_eq_true rfl) (by decide) (by decide) (by decide) (q_aload_n rfl rfl (v_gr (t := 2) rfl rfl rfl (Nat.le_of_ble_eq_true rfl) rfl (q_iload_n rfl rfl (q_iload rfl rfl (v_iadd (v := r8 + 3) rfl rfl ?_)))))))
          have h_12 : -2147483648 ≤ (B (r8 + 3)) ∧ (B (r8 + 3)) ≤ 2147483647 := by rw [← hB (r8 + 3)]; exact ir_2 hI (r8 + 3)
          refine v_ba (v := (B (r8 + 3))) rfl rfl (by decide) (by decide) (by omega) (hB (r8 + 3)) ?_
          by_cases h_13 : 118 = (B (r8 + 3))
          · refine v_ic_eq_t (t := 32) rfl rfl h_13 (v_iinc (v := 4) rfl rfl (Nat.le_of_ble_eq_true rfl) (by decide) (Wp_ls [(5, vi 4), (0, .ref 1), (1, .ref (a_SB + 8)), (2, vi 10), (3, vi r8), (4, vi (L8 - r8))] (lsub_cons rfl (lsub_cons rfl (lsub_cons rfl (lsub_cons rfl (lsub_cons rfl (lsub_cons rfl lsub_nil)))))) (q_goto (t := 3) rfl rfl (q_iload rfl rfl (q_iload rfl rfl (v_ic_ge_f (t := 38) rfl rfl ⟨by decide, by first | exact q_9d61d9b81 h_5 | omega, by first | exact q_fe3598997 h_5 | omega⟩ (q_aload_n rfl rfl ?_)))))))
            refine q_iload_n rfl rfl (q_iload rfl rfl (v_iadd (v := 14) rfl (by decide) (v_sch 101 rfl rfl (by omega) (Nat.le_of_ble_eq_true rfl) (by decide) (by decide) (by decide) (q_aload_n rfl rfl (v_gr (t := 2) rfl rfl rfl (Nat.le_of_ble_eq_true rfl) rfl (q_iload_n rfl rfl (q_iload rfl rfl ?_)))))))
            refine v_iadd (v := r8 + 4) rfl rfl ?_
            have h_14 : -2147483648 ≤ (B (r8 + 4)) ∧ (B (r8 + 4)) ≤ 2147483647 := by rw [← hB (r8 + 4)]; exact ir_2 hI (r8 + 4)
            refine v_ba (v := (B (r8 + 4))) rfl rfl (by decide) (by decide) ⟨by first | (clear h_1 h_2 h_3 h_4 h_5 h_6 h_7 h_8 h_9 h_10 h_11 h_12 h_13 h_14; omega) | omega, by first | (clear h_1 h_2 h_3 h_4 h_6 h_7 h_8 h_9 h_10 h_11 h_12 h_13 h_14; omega) | omega⟩ (hB (r8 + 4)) ?_
            by_cases h_15 : 101 = (B (r8 + 4))
            · refine v_ic_eq_t (t := 32) rfl rfl h_15 (v_iinc (v := 5) rfl rfl (Nat.le_of_ble_eq_true rfl) (by decide) (q_goto (t := 3) rfl rfl (q_iload rfl rfl (q_iload rfl rfl (v_ic_ge_t (t := 38) rfl rfl ⟨by first | exact q_c439bfa43 h_5 | (clear h_1 h_2 h_3 h_4 h_6 h_7 h_8 h_9 h_10 h_11 h_12 h_13 h_14 h_15; omega) | omega, by first | exact q_fc9a05b17 h_5 | (clear h_1 h_2 h_3 h_4 h_6 h_7 h_8 h_9 h_10 h_11 h_12 h_13 h_14 h_15; omega) | omega, by decide⟩ (q_iconst rfl (v_zret rfl rfl (by decide) ?_)))))))
              refine bk_inl (v_if_eq_f (t := 121) rfl rfl (by decide) (q_aload_n rfl rfl (q_iload_n rfl rfl (v_pi (z := 2) rfl rfl rfl (Nat.le_of_ble_eq_true rfl) rfl rfl rfl (by decide) (q_iload rfl rfl (q_iret rfl rfl ?_))))))
              have hw9 : W8 = 2 := hdW8.symm.trans (wd8_2_t (by omega))
              have hI_16 := iw_1_2 (v := L8) hI ⟨by first | (clear h_1 h_2 h_3 h_4 h_6 h_7 h_8 h_9 h_10 h_11 h_12 h_13 h_14 h_15 hw9; omega) | omega, by first | (clear h_1 h_2 h_3 h_4 h_5 h_6 h_7 h_8 h_9 h_10 h_11 h_12 h_13 h_14 h_15 hw9; omega) | omega⟩
              have h_17 : (up c 1 2 L8) 1 2 = L8 := (up_e rfl)
              have h_18 : (up c 1 2 L8) 1 4 = f9 := ((up_n (by decide)).trans (hv2))
              have h_19 : (up c 1 2 L8) 1 5 = p9 := ((up_n (by decide)).trans (hv3))
              exact zv (by omega) (K1 (up c 1 2 L8) hI_16 (fun a j hm => up_b (Decidable.or_iff_not_imp_left.mpr (fun h1 h2 => hm (Or.inl ⟨Decidable.not_not.mp h1, h2⟩)))) (by omega) (by omega) (by omega) (by omega))
            · refine v_ic_eq_f (t := 32) rfl rfl ⟨h_15, ⟨by decide, by decide⟩, by first | exact q_f97c35332 h_14 | (clear h_1 h_2 h_3 h_4 h_5 h_6 h_7 h_8 h_9 h_10 h_11 h_12 h_13; omega) | omega, by first | exact q_79e53d295 h_14 | (clear h_1 h_2 h_3 h_4 h_5 h_6 h_7 h_8 h_9 h_10 h_11 h_12 h_13; omega) | omega⟩ (q_iconst rfl (v_zret rfl rfl (by decide) (bk_inl (v_if_eq_t (t := 121) rfl rfl (by decide) (v_iinc (v := 3) rfl rfl (Nat.le_of_ble_eq_true rfl) (by decide) (q_iload rfl rfl (q_iconst rfl ?_)))))))
              refine v_iadd (v := 16) rfl (by decide) (q_istore rfl (Nat.le_of_ble_eq_true rfl) (v_iinc (v := 16) rfl rfl (Nat.le_of_ble_eq_true rfl) (by decide) (q_goto (t := 52) rfl rfl (Wp_ls [(0, .ref 1), (1, .ref (a_SB + 8)), (2, vi r8), (3, vi L8), (4, vi 3), (5, vi 16), (6, vi 16)] (lsub_cons rfl (lsub_cons rfl (lsub_cons rfl (lsub_cons rfl (lsub_cons rfl (lsub_cons rfl (lsub_cons rfl lsub_nil))))))) ?_))))
              exact f_10_8_3 (d := d) (r8 := r8) (L8 := L8) (W8 := W8) hI hq0 hq1 hv0 hv1 hv2 hv3 hB ((wd8_2_f (by omega)).symm.trans hdW8) K0 K1
          · refine v_ic_eq_f (t := 32) rfl rfl ⟨h_13, ⟨by decide, by decide⟩, by first | exact q_f97c35332 h_12 | omega, by first | exact q_79e53d295 h_12 | omega⟩ (q_iconst rfl (v_zret rfl rfl (by decide) (bk_inl (v_if_eq_t (t := 121) rfl rfl (by decide) (v_iinc (v := 3) rfl rfl (Nat.le_of_ble_eq_true rfl) (by decide) (q_iload rfl rfl (q_iconst rfl ?_)))))))
            refine v_iadd (v := 16) rfl (by decide) (q_istore rfl (Nat.le_of_ble_eq_true rfl) (v_iinc (v := 16) rfl rfl (Nat.le_of_ble_eq_true rfl) (by decide) (q_goto (t := 52) rfl rfl (Wp_ls [(0, .ref 1), (1, .ref (a_SB + 8)), (2, vi r8), (3, vi L8), (4, vi 3), (5, vi 16), (6, vi 16)] (lsub_cons rfl (lsub_cons rfl (lsub_cons rfl (lsub_cons rfl (lsub_cons rfl (lsub_cons rfl (lsub_cons rfl lsub_nil))))))) ?_))))
            exact f_10_8_3 (d := d) (r8 := r8) (L8 := L8) (W8 := W8) hI hq0 hq1 hv0 hv1 hv2 hv3 hB ((wd8_2_f (by omega)).symm.trans hdW8) K0 K1
        · refine v_ic_eq_f (t := 32) rfl rfl ⟨h_11, ⟨by decide, by decide⟩, by first | exact q_f97c35332 h_10 | omega, by first | exact q_79e53d295 h_10 | omega⟩ (q_iconst rfl (v_zret rfl rfl (by decide) (bk_inl (v_if_eq_t (t := 121) rfl rfl (by decide) (v_iinc (v := 3) rfl rfl (Nat.le_of_ble_eq_true rfl) (by decide) (q_iload rfl rfl (q_iconst rfl ?_)))))))
          refine v_iadd (v := 16) rfl (by decide) (q_istore rfl (Nat.le_of_ble_eq_true rfl) (v_iinc (v := 16) rfl rfl (Nat.le_of_ble_eq_true rfl) (by decide) (q_goto (t := 52) rfl rfl (Wp_ls [(0, .ref 1), (1, .ref (a_SB + 8)), (2, vi r8), (3, vi L8), (4, vi 3), (5, vi 16), (6, vi 16)] (lsub_cons rfl (lsub_cons rfl (lsub_cons rfl (lsub_cons rfl (lsub_cons rfl (lsub_cons rfl (lsub_cons rfl lsub_nil))))))) ?_))))
          exact f_10_8_3 (d := d) (r8 := r8) (L8 := L8) (W8 := W8) hI hq0 hq1 hv0 hv1 hv2 hv3 hB ((wd8_2_f (by omega)).symm.trans hdW8) K0 K1
      · refine v_ic_eq_f (t := 32) rfl rfl ⟨h_9, ⟨by decide, by decide⟩, by first | exact q_f97c35332 h_8 | omega, by first | exact q_79e53d295 h_8 | omega⟩ (q_iconst rfl (v_zret rfl rfl (by decide) (bk_inl (v_if_eq_t (t := 121) rfl rfl (by decide) (v_iinc (v := 3) rfl rfl (Nat.le_of_ble_eq_true rfl) (by decide) (q_iload rfl rfl (q_iconst rfl ?_)))))))
        refine v_iadd (v := 16) rfl (by decide) (q_istore rfl (Nat.le_of_ble_eq_true rfl) (v_iinc (v := 16) rfl rfl (Nat.le_of_ble_eq_true rfl) (by decide) (q_goto (t := 52) rfl rfl (Wp_ls [(0, .ref 1), (1, .ref (a_SB + 8)), (2, vi r8), (3, vi L8), (4, vi 3), (5, vi 16), (6, vi 16)] (lsub_cons rfl (lsub_cons rfl (lsub_cons rfl (lsub_cons rfl (lsub_cons rfl (lsub_cons rfl (lsub_cons rfl lsub_nil))))))) ?_))))
        exact f_10_8_3 (d := d) (r8 := r8) (L8 := L8) (W8 := W8) hI hq0 hq1 hv0 hv1 hv2 hv3 hB ((wd8_2_f (by omega)).symm.trans hdW8) K0 K1
    · refine v_ic_eq_f (t := 32) rfl rfl ⟨h_7, ⟨by decide, by decide⟩, by first | exact q_f97c35332 h_6 | omega, by first | exact q_79e53d295 h_6 | omega⟩ (q_iconst rfl (v_zret rfl rfl (by decide) (bk_inl (v_if_eq_t (t := 121) rfl rfl (by decide) (v_iinc (v := 3) rfl rfl (Nat.le_of_ble_eq_true rfl) (by decide) (q_iload rfl rfl (q_iconst rfl ?_)))))))
      refine v_iadd (v := 16) rfl (by decide) (q_istore rfl (Nat.le_of_ble_eq_true rfl) (v_iinc (v := 16) rfl rfl (Nat.le_of_ble_eq_true rfl) (by decide) (q_goto (t := 52) rfl rfl (Wp_ls [(0, .ref 1), (1, .ref (a_SB + 8)), (2, vi r8), (3, vi L8), (4, vi 3), (5, vi 16), (6, vi 16)] (lsub_cons rfl (lsub_cons rfl (lsub_cons rfl (lsub_cons rfl (lsub_cons rfl (lsub_cons rfl (lsub_cons rfl lsub_nil))))))) ?_))))
      exact f_10_8_3 (d := d) (r8 := r8) (L8 := L8) (W8 := W8) hI hq0 hq1 hv0 hv1 hv2 hv3 hB ((wd8_2_f (by omega)).symm.trans hdW8) K0 K1

set_option maxRecDepth 100000 in
set_option maxHeartbeats 4000000 in
theorem f_10_8_1 {sc : List Int32} {e : Int} {d u P Q : Nat} {c : ME} {e1 a9 f9 p9 W8 r8 L8 : Int} {B : Int → Int} {Z : AR → Prop} (hI : Iv u e P Q c) (hq0 : (f9 = 0)) (hq1 : (r8 ≥ 0 ∧ r8 ≤ L8 ∧ L8 ≤ 600)) (hv0 : c 1 1 = e1) (hv1 : c 1 2 = a9) (hv2 : c 1 4 = f9) (hv3 : c 1 5 = p9) (hB : ∀ j : Int, c 2 j = B j) (hdW8 : wd8_1 B r8 L8 = W8) (K0 : ∀ c2 : ME, Iv u e P Q c2 → (∀ (a : Nat) (j : Int), ¬ ((a = 1 ∧ j = 2) ∨ (a = 1 ∧ j = 4) ∨ (a = 1 ∧ j = 5)) → c2 a j = c a j) → ((W8 = (-1))) → (c2 1 2 = a9) → (c2 1 4 = 1) → (c2 1 5 = r8) → Z (.inl (some (vi (-1))), Wd P Q P P c2, 0, 0)) (K1 : ∀ c2 : ME, Iv u e P Q c2 → (∀ (a : Nat) (j : Int), ¬ ((a = 1 ∧ j = 2) ∨ (a = 1 ∧ j = 4) ∨ (a = 1 ∧ j = 5)) → c2 a j = c a j) → ((W8 ≥ 0 ∧ W8 ≤ 3)) → (c2 1 2 = L8) → (c2 1 4 = 0) → (c2 1 5 = p9) → Z (.inl (some (vi W8)), Wd P Q P P c2, 0, 0)) : Wp sc (d + 12) 10 52 [(0, .ref 1), (1, .ref (a_SB + 8)), (2, vi r8), (3, vi L8), (4, vi 1), (5, vi 4), (6, vi 4)] [] (Wd P Q P P c) 0 0 Z := by
  have hP := iv_P hI
  have hQ := iv_Q hI
  have h_1 := ir_1_1 hI
  have h_2 := ir_1_2 hI
  have h_3 := ir_1_4 hI
  have h_4 := ir_1_5 hI
  refine q_iload rfl rfl (q_aload_n rfl rfl (v_sln 20 rfl rfl (by omega) (Nat.le_of_ble_eq_true rfl) (by decide) (by decide) (v_ic_gt_f (t := 136) rfl rfl (by decide) (q_aload_n rfl rfl (v_cv rfl rfl rfl rfl (Nat.le_of_ble_eq_true rfl) ⟨⟨rfl, rfl⟩, Nat.le_of_ble_eq_true rfl, rfl⟩ (Nat.le_of_ble_eq_true rfl) (Nat.le_of_ble_eq_true rfl) (q_aload_n rfl rfl (v_gi (z := 4) (v := f9) rfl rfl rfl (Nat.le_of_ble_eq_true rfl) rfl rfl (hv2) ?_)))))))
  refine v_if_ne_f (t := 11) rfl rfl (by omega) (q_iconst rfl (q_goto (t := 12) rfl rfl (v_zret rfl rfl (by decide) (bk_inl (v_if_eq_f (t := 136) rfl rfl (by decide) (q_iload rfl rfl (q_aload_n rfl rfl ?_)))))))
  refine v_sln 20 rfl rfl (by omega) (Nat.le_of_ble_eq_true rfl) (by decide) (by decide) (v_ic_eq_f (t := 88) rfl rfl (by decide) (q_aload_n rfl rfl (q_iload rfl rfl (v_sch 115 rfl rfl (by omega) (Nat.le_of_ble_eq_true rfl) (by decide) (by decide) (by decide) (v_bip rfl (by decide) (v_ic_ne_t (t := 130) rfl rfl (by decide) (v_iinc (v := 5) rfl rfl (Nat.le_of_ble_eq_true rfl) (by decide) ?_)))))))
  refine q_goto (t := 52) rfl rfl (q_iload rfl rfl (q_aload_n rfl rfl (v_sln 20 rfl rfl (by omega) (Nat.le_of_ble_eq_true rfl) (by decide) (by decide) (v_ic_gt_f (t := 136) rfl rfl (by decide) (q_aload_n rfl rfl (v_cv rfl rfl rfl rfl (Nat.le_of_ble_eq_true rfl) ⟨⟨rfl, rfl⟩, Nat.le_of_ble_eq_true rfl, rfl⟩ (Nat.le_of_ble_eq_true rfl) (Nat.le_of_ble_eq_true rfl) (q_aload_n rfl rfl ?_)))))))
  refine v_gi (z := 4) (v := f9) rfl rfl rfl (Nat.le_of_ble_eq_true rfl) rfl rfl (hv2) (v_if_ne_f (t := 11) rfl rfl (by omega) (q_iconst rfl (q_goto (t := 12) rfl rfl (v_zret rfl rfl (by decide) (bk_inl (v_if_eq_f (t := 136) rfl rfl (by decide) (q_iload rfl rfl ?_)))))))
  refine q_aload_n rfl rfl (v_sln 20 rfl rfl (by omega) (Nat.le_of_ble_eq_true rfl) (by decide) (by decide) (v_ic_eq_f (t := 88) rfl rfl (by decide) (q_aload_n rfl rfl (q_iload rfl rfl (v_sch 116 rfl rfl (by omega) (Nat.le_of_ble_eq_true rfl) (by decide) (by decide) (by decide) (v_bip rfl (by decide) (v_ic_ne_t (t := 130) rfl rfl (by decide) ?_)))))))
  refine v_iinc (v := 6) rfl rfl (Nat.le_of_ble_eq_true rfl) (by decide) (q_goto (t := 52) rfl rfl (q_iload rfl rfl (q_aload_n rfl rfl (v_sln 20 rfl rfl (by omega) (Nat.le_of_ble_eq_true rfl) (by decide) (by decide) (v_ic_gt_f (t := 136) rfl rfl (by decide) (q_aload_n rfl rfl (v_cv rfl rfl rfl rfl (Nat.le_of_ble_eq_true rfl) ⟨⟨rfl, rfl⟩, Nat.le_of_ble_eq_true rfl, rfl⟩ (Nat.le_of_ble_eq_true rfl) (Nat.le_of_ble_eq_true rfl) ?_)))))))
  refine q_aload_n rfl rfl (v_gi (z := 4) (v := f9) rfl rfl rfl (Nat.le_of_ble_eq_true rfl) rfl rfl (hv2) (v_if_ne_f (t := 11) rfl rfl (by omega) (q_iconst rfl (q_goto (t := 12) rfl rfl (v_zret rfl rfl (by decide) (bk_inl (v_if_eq_f (t := 136) rfl rfl (by decide) ?_)))))))
  refine q_iload rfl rfl (q_aload_n rfl rfl (v_sln 20 rfl rfl (by omega) (Nat.le_of_ble_eq_true rfl) (by decide) (by decide) (v_ic_eq_f (t := 88) rfl rfl (by decide) (q_aload_n rfl rfl (q_iload rfl rfl (v_sch 111 rfl rfl (by omega) (Nat.le_of_ble_eq_true rfl) (by decide) (by decide) (by decide) (v_bip rfl (by decide) ?_)))))))
  refine v_ic_ne_t (t := 130) rfl rfl (by decide) (v_iinc (v := 7) rfl rfl (Nat.le_of_ble_eq_true rfl) (by decide) (q_goto (t := 52) rfl rfl (q_iload rfl rfl (q_aload_n rfl rfl (v_sln 20 rfl rfl (by omega) (Nat.le_of_ble_eq_true rfl) (by decide) (by decide) (v_ic_gt_f (t := 136) rfl rfl (by decide) (q_aload_n rfl rfl ?_)))))))
  refine v_cv rfl rfl rfl rfl (Nat.le_of_ble_eq_true rfl) ⟨⟨rfl, rfl⟩, Nat.le_of_ble_eq_true rfl, rfl⟩ (Nat.le_of_ble_eq_true rfl) (Nat.le_of_ble_eq_true rfl) (q_aload_n rfl rfl (v_gi (z := 4) (v := f9) rfl rfl rfl (Nat.le_of_ble_eq_true rfl) rfl rfl (hv2) (v_if_ne_f (t := 11) rfl rfl (by omega) (q_iconst rfl (q_goto (t := 12) rfl rfl (v_zret rfl rfl (by decide) (bk_inl ?_)))))))
  refine v_if_eq_f (t := 136) rfl rfl (by decide) (q_iload rfl rfl (q_aload_n rfl rfl (v_sln 20 rfl rfl (by omega) (Nat.le_of_ble_eq_true rfl) (by decide) (by decide) (v_ic_eq_f (t := 88) rfl rfl (by decide) (q_aload_n rfl rfl (q_iload rfl rfl (v_sch 110 rfl rfl (by omega) (Nat.le_of_ble_eq_true rfl) (by decide) (by decide) (by decide) ?_)))))))
  refine v_bip rfl (by decide) (v_ic_ne_t (t := 130) rfl rfl (by decide) (v_iinc (v := 8) rfl rfl (Nat.le_of_ble_eq_true rfl) (by decide) (q_goto (t := 52) rfl rfl (q_iload rfl rfl (q_aload_n rfl rfl (v_sln 20 rfl rfl (by omega) (Nat.le_of_ble_eq_true rfl) (by decide) (by decide) (v_ic_gt_f (t := 136) rfl rfl (by decide) ?_)))))))
  refine q_aload_n rfl rfl (v_cv rfl rfl rfl rfl (Nat.le_of_ble_eq_true rfl) ⟨⟨rfl, rfl⟩, Nat.le_of_ble_eq_true rfl, rfl⟩ (Nat.le_of_ble_eq_true rfl) (Nat.le_of_ble_eq_true rfl) (q_aload_n rfl rfl (v_gi (z := 4) (v := f9) rfl rfl rfl (Nat.le_of_ble_eq_true rfl) rfl rfl (hv2) (v_if_ne_f (t := 11) rfl rfl (by omega) (q_iconst rfl (q_goto (t := 12) rfl rfl (v_zret rfl rfl (by decide) ?_)))))))
  refine bk_inl (v_if_eq_f (t := 136) rfl rfl (by decide) (q_iload rfl rfl (q_aload_n rfl rfl (v_sln 20 rfl rfl (by omega) (Nat.le_of_ble_eq_true rfl) (by decide) (by decide) (v_ic_eq_f (t := 88) rfl rfl (by decide) (q_aload_n rfl rfl (q_iload rfl rfl ?_)))))))
  refine v_sch 101 rfl rfl (by omega) (Nat.le_of_ble_eq_true rfl) (by decide) (by decide) (by decide) (v_bip rfl (by decide) (v_ic_ne_t (t := 130) rfl rfl (by decide) (v_iinc (v := 9) rfl rfl (Nat.le_of_ble_eq_true rfl) (by decide) (Wp_ls [(6, vi 9), (0, .ref 1), (1, .ref (a_SB + 8)), (2, vi r8), (3, vi L8), (4, vi 1), (5, vi 4)] (lsub_cons rfl (lsub_cons rfl (lsub_cons rfl (lsub_cons rfl (lsub_cons rfl (lsub_cons rfl (lsub_cons rfl lsub_nil))))))) (q_goto (t := 52) rfl rfl (q_iload rfl rfl (q_aload_n rfl rfl ?_)))))))
  refine v_sln 20 rfl rfl (by omega) (Nat.le_of_ble_eq_true rfl) (by decide) (by decide) (v_ic_gt_f (t := 136) rfl rfl (by decide) (q_aload_n rfl rfl (v_cv rfl rfl rfl rfl (Nat.le_of_ble_eq_true rfl) ⟨⟨rfl, rfl⟩, Nat.le_of_ble_eq_true rfl, rfl⟩ (Nat.le_of_ble_eq_true rfl) (Nat.le_of_ble_eq_true rfl) (q_aload_n rfl rfl (v_gi (z := 4) (v := f9) rfl rfl rfl (Nat.le_of_ble_eq_true rfl) rfl rfl (hv2) (v_if_ne_f (t := 11) rfl rfl (by omega) (q_iconst rfl ?_)))))))
  refine q_goto (t := 12) rfl rfl (v_zret rfl rfl (by decide) (bk_inl (v_if_eq_f (t := 136) rfl rfl (by decide) (q_iload rfl rfl (q_aload_n rfl rfl (v_sln 20 rfl rfl (by omega) (Nat.le_of_ble_eq_true rfl) (by decide) (by decide) (v_ic_eq_f (t := 88) rfl rfl (by decide) ?_)))))))
  refine q_aload_n rfl rfl (q_iload rfl rfl (v_sch 32 rfl rfl (by omega) (Nat.le_of_ble_eq_true rfl) (by decide) (by decide) (by decide) (v_bip rfl (by decide) (v_ic_ne_f (t := 130) rfl rfl (by decide) (q_iload rfl rfl (q_iload rfl rfl (v_isub (v := 5) rfl (by decide) ?_)))))))
  refine q_iload_n rfl rfl (q_iload_n rfl rfl (v_isub (v := L8 - r8) rfl rfl ?_))
  by_cases h_5 : 5 ≠ L8 - r8
  · refine v_ic_ne_t (t := 121) rfl rfl ⟨h_5, ⟨by decide, by decide⟩, by omega, by omega⟩ (v_iinc (v := 2) rfl rfl (Nat.le_of_ble_eq_true rfl) (by decide) (q_iload rfl rfl (q_iconst rfl (v_iadd (v := 10) rfl (by decide) (q_istore rfl (Nat.le_of_ble_eq_true rfl) (v_iinc (v := 10) rfl rfl (Nat.le_of_ble_eq_true rfl) (by decide) (q_goto (t := 52) rfl rfl ?_)))))))
    refine Wp_ls [(0, .ref 1), (1, .ref (a_SB + 8)), (2, vi r8), (3, vi L8), (4, vi 2), (5, vi 10), (6, vi 10)] (lsub_cons rfl (lsub_cons rfl (lsub_cons rfl (lsub_cons rfl (lsub_cons rfl (lsub_cons rfl (lsub_cons rfl lsub_nil))))))) ?_
    exact f_10_8_2 (d := d) (r8 := r8) (L8 := L8) (W8 := W8) hI hq0 hq1 hv0 hv1 hv2 hv3 hB ((wd8_1_f (by omega)).symm.trans hdW8) K0 K1
  · refine v_ic_ne_f (t := 121) rfl rfl (Decidable.not_not.mp h_5) (q_aload_n rfl rfl (q_aload_n rfl rfl (q_iload rfl rfl (q_iload_n rfl rfl (q_iload_n rfl rfl (q_iload_n rfl rfl (v_isub (v := L8 - r8) rfl rfl ?_)))))))
    refine v_cv rfl rfl rfl rfl (Nat.le_of_ble_eq_true rfl) ⟨⟨rfl, rfl⟩, Nat.le_of_ble_eq_true rfl, rfl⟩ (Nat.le_of_ble_eq_true rfl) (Nat.le_of_ble_eq_true rfl) (q_iconst rfl (q_istore rfl (Nat.le_of_ble_eq_true rfl) (q_iload rfl rfl (q_iload rfl rfl (v_ic_ge_f (t := 38) rfl rfl ⟨by decide, by first | exact q_38a4b4bff h_5 | omega, by first | exact q_fe3598997 h_5 | omega⟩ (q_aload_n rfl rfl (q_iload_n rfl rfl ?_)))))))
    refine q_iload rfl rfl (v_iadd (v := 4) rfl (by decide) (v_sch 115 rfl rfl (by omega) (Nat.le_of_ble_eq_true rfl) (by decide) (by decide) (by decide) (q_aload_n rfl rfl (v_gr (t := 2) rfl rfl rfl (Nat.le_of_ble_eq_true rfl) rfl (q_iload_n rfl rfl (q_iload rfl rfl (v_iadd (v := r8) rfl (by omega) ?_)))))))
    have h_6 : -2147483648 ≤ (B r8) ∧ (B r8) ≤ 2147483647 := by rw [← hB r8]; exact ir_2 hI r8
    refine v_ba (v := (B r8)) rfl rfl (by decide) (by decide) (by omega) (hB r8) ?_
    by_cases h_7 : 115 = (B r8)
    · refine v_ic_eq_t (t := 32) rfl rfl h_7 (v_iinc (v := 1) rfl rfl (Nat.le_of_ble_eq_true rfl) (by decide) (q_goto (t := 3) rfl rfl (q_iload rfl rfl (q_iload rfl rfl (v_ic_ge_f (t := 38) rfl rfl ⟨by decide, by first | exact q_2f422e7b9 h_5 | omega, by first | exact q_fe3598997 h_5 | omega⟩ (q_aload_n rfl rfl (q_iload_n rfl rfl ?_)))))))
      refine q_iload rfl rfl (v_iadd (v := 5) rfl (by decide) (v_sch 116 rfl rfl (by omega) (Nat.le_of_ble_eq_true rfl) (by decide) (by decide) (by decide) (q_aload_n rfl rfl (v_gr (t := 2) rfl rfl rfl (Nat.le_of_ble_eq_true rfl) rfl (q_iload_n rfl rfl (q_iload rfl rfl (v_iadd (v := r8 + 1) rfl rfl ?_)))))))
      have h_8 : -2147483648 ≤ (B (r8 + 1)) ∧ (B (r8 + 1)) ≤ 2147483647 := by rw [← hB (r8 + 1)]; exact ir_2 hI (r8 + 1)
      refine v_ba (v := (B (r8 + 1))) rfl rfl (by decide) (by decide) (by omega) (hB (r8 + 1)) ?_
      by_cases h_9 : 116 = (B (r8 + 1))
      · refine v_ic_eq_t (t := 32) rfl rfl h_9 (v_iinc (v := 2) rfl rfl (Nat.le_of_ble_eq_true rfl) (by decide) (q_goto (t := 3) rfl rfl (q_iload rfl rfl (q_iload rfl rfl (v_ic_ge_f (t := 38) rfl rfl ⟨by decide, by first | exact q_415b3b712 h_5 | omega, by first | exact q_fe3598997 h_5 | omega⟩ (q_aload_n rfl rfl (q_iload_n rfl rfl ?_)))))))
        refine q_iload rfl rfl (v_iadd (v := 6) rfl (by decide) (v_sch 111 rfl rfl (by omega) (Nat.le_of_ble_eq_true rfl) (by decide) (by decide) (by decide) (q_aload_n rfl rfl (v_gr (t := 2) rfl rfl rfl (Nat.le_of_ble_eq_true rfl) rfl (q_iload_n rfl rfl (q_iload rfl rfl (v_iadd (v := r8 + 2) rfl rfl ?_)))))))
        have h_10 : -2147483648 ≤ (B (r8 + 2)) ∧ (B (r8 + 2)) ≤ 2147483647 := by rw [← hB (r8 + 2)]; exact ir_2 hI (r8 + 2)
        refine v_ba (v := (B (r8 + 2))) rfl rfl (by decide) (by decide) (by omega) (hB (r8 + 2)) ?_
        by_cases h_11 : 111 = (B (r8 + 2))
        · refine v_ic_eq_t (t := 32) rfl rfl h_11 (v_iinc (v := 3) rfl rfl (Nat.le_of_ble_eq_true rfl) (by decide) (q_goto (t := 3) rfl rfl (q_iload rfl rfl (q_iload rfl rfl (v_ic_ge_f (t := 38) rfl rfl ⟨by decide, by first | exact q_170273d75 h_5 | omega, by first | exact q_fe3598997 h_5 | omega⟩ (q_aload_n rfl rfl (q_iload_n rfl rfl ?_)))))))
          refine q_iload rfl rfl (v_iadd (v := 7) rfl (by decide) (v_sch 110 rfl rfl (by omega) (Nat.le_of_ble_eq_true rfl) (by decide) (by decide) (by decide) (q_aload_n rfl rfl (v_gr (t := 2) rfl rfl rfl (Nat.le_of_ble_eq_true rfl) rfl (q_iload_n rfl rfl (q_iload rfl rfl (v_iadd (v := r8 + 3) rfl rfl ?_)))))))
          have h_12 : -2147483648 ≤ (B (r8 + 3)) ∧ (B (r8 + 3)) ≤ 2147483647 := by rw [← hB (r8 + 3)]; exact ir_2 hI (r8 + 3)
          refine v_ba (v := (B (r8 + 3))) rfl rfl (by decide) (by decide) (by omega) (hB (r8 + 3)) ?_
          by_cases h_13 : 110 = (B (r8 + 3))
          · refine v_ic_eq_t (t := 32) rfl rfl h_13 (v_iinc (v := 4) rfl rfl (Nat.le_of_ble_eq_true rfl) (by decide) (Wp_ls [(5, vi 4), (0, .ref 1), (1, .ref (a_SB + 8)), (2, vi 4), (3, vi r8), (4, vi (L8 - r8))] (lsub_cons rfl (lsub_cons rfl (lsub_cons rfl (lsub_cons rfl (lsub_cons rfl (lsub_cons rfl lsub_nil)))))) (q_goto (t := 3) rfl rfl (q_iload rfl rfl (q_iload rfl rfl (v_ic_ge_f (t := 38) rfl rfl ⟨by decide, by first | exact q_9d61d9b81 h_5 | omega, by first | exact q_fe3598997 h_5 | omega⟩ (q_aload_n rfl rfl ?_)))))))
            refine q_iload_n rfl rfl (q_iload rfl rfl (v_iadd (v := 8) rfl (by decide) (v_sch 101 rfl rfl (by omega) (Nat.le_of_ble_eq_true rfl) (by decide) (by decide) (by decide) (q_aload_n rfl rfl (v_gr (t := 2) rfl rfl rfl (Nat.le_of_ble_eq_true rfl) rfl (q_iload_n rfl rfl (q_iload rfl rfl ?_)))))))
            refine v_iadd (v := r8 + 4) rfl rfl ?_
            have h_14 : -2147483648 ≤ (B (r8 + 4)) ∧ (B (r8 + 4)) ≤ 2147483647 := by rw [← hB (r8 + 4)]; exact ir_2 hI (r8 + 4)
            refine v_ba (v := (B (r8 + 4))) rfl rfl (by decide) (by decide) ⟨by first | (clear h_1 h_2 h_3 h_4 h_5 h_6 h_7 h_8 h_9 h_10 h_11 h_12 h_13 h_14; omega) | omega, by first | (clear h_1 h_2 h_3 h_4 h_6 h_7 h_8 h_9 h_10 h_11 h_12 h_13 h_14; omega) | omega⟩ (hB (r8 + 4)) ?_
            by_cases h_15 : 101 = (B (r8 + 4))
            · refine v_ic_eq_t (t := 32) rfl rfl h_15 (v_iinc (v := 5) rfl rfl (Nat.le_of_ble_eq_true rfl) (by decide) (q_goto (t := 3) rfl rfl (q_iload rfl rfl (q_iload rfl rfl (v_ic_ge_t (t := 38) rfl rfl ⟨by first | exact q_c439bfa43 h_5 | (clear h_1 h_2 h_3 h_4 h_6 h_7 h_8 h_9 h_10 h_11 h_12 h_13 h_14 h_15; omega) | omega, by first | exact q_fc9a05b17 h_5 | (clear h_1 h_2 h_3 h_4 h_6 h_7 h_8 h_9 h_10 h_11 h_12 h_13 h_14 h_15; omega) | omega, by decide⟩ (q_iconst rfl (v_zret rfl rfl (by decide) ?_)))))))
              refine bk_inl (v_if_eq_f (t := 121) rfl rfl (by decide) (q_aload_n rfl rfl (q_iload_n rfl rfl (v_pi (z := 2) rfl rfl rfl (Nat.le_of_ble_eq_true rfl) rfl rfl rfl (by decide) (q_iload rfl rfl (q_iret rfl rfl ?_))))))
              have hw9 : W8 = 1 := hdW8.symm.trans (wd8_1_t (by omega))
              have hI_16 := iw_1_2 (v := L8) hI ⟨by first | (clear h_1 h_2 h_3 h_4 h_6 h_7 h_8 h_9 h_10 h_11 h_12 h_13 h_14 h_15 hw9; omega) | omega, by first | (clear h_1 h_2 h_3 h_4 h_5 h_6 h_7 h_8 h_9 h_10 h_11 h_12 h_13 h_14 h_15 hw9; omega) | omega⟩
              have h_17 : (up c 1 2 L8) 1 2 = L8 := (up_e rfl)
              have h_18 : (up c 1 2 L8) 1 4 = f9 := ((up_n (by decide)).trans (hv2))
              have h_19 : (up c 1 2 L8) 1 5 = p9 := ((up_n (by decide)).trans (hv3))
              exact zv (by omega) (K1 (up c 1 2 L8) hI_16 (fun a j hm => up_b (Decidable.or_iff_not_imp_left.mpr (fun h1 h2 => hm (Or.inl ⟨Decidable.not_not.mp h1, h2⟩)))) (by omega) (by omega) (by omega) (by omega))
            · refine v_ic_eq_f (t := 32) rfl rfl ⟨h_15, ⟨by decide, by decide⟩, by first | exact q_f97c35332 h_14 | (clear h_1 h_2 h_3 h_4 h_5 h_6 h_7 h_8 h_9 h_10 h_11 h_12 h_13; omega) | omega, by first | exact q_79e53d295 h_14 | (clear h_1 h_2 h_3 h_4 h_5 h_6 h_7 h_8 h_9 h_10 h_11 h_12 h_13; omega) | omega⟩ (q_iconst rfl (v_zret rfl rfl (by decide) (bk_inl (v_if_eq_t (t := 121) rfl rfl (by decide) (v_iinc (v := 2) rfl rfl (Nat.le_of_ble_eq_true rfl) (by decide) (q_iload rfl rfl (q_iconst rfl ?_)))))))
              refine v_iadd (v := 10) rfl (by decide) (q_istore rfl (Nat.le_of_ble_eq_true rfl) (v_iinc (v := 10) rfl rfl (Nat.le_of_ble_eq_true rfl) (by decide) (q_goto (t := 52) rfl rfl (Wp_ls [(0, .ref 1), (1, .ref (a_SB + 8)), (2, vi r8), (3, vi L8), (4, vi 2), (5, vi 10), (6, vi 10)] (lsub_cons rfl (lsub_cons rfl (lsub_cons rfl (lsub_cons rfl (lsub_cons rfl (lsub_cons rfl (lsub_cons rfl lsub_nil))))))) ?_))))
              exact f_10_8_2 (d := d) (r8 := r8) (L8 := L8) (W8 := W8) hI hq0 hq1 hv0 hv1 hv2 hv3 hB ((wd8_1_f (by omega)).symm.trans hdW8) K0 K1
          · refine v_ic_eq_f (t := 32) rfl rfl ⟨h_13, ⟨by decide, by decide⟩, by first | exact q_f97c35332 h_12 | omega, by first | exact q_79e53d295 h_12 | omega⟩ (q_iconst rfl (v_zret rfl rfl (by decide) (bk_inl (v_if_eq_t (t := 121) rfl rfl (by decide) (v_iinc (v := 2) rfl rfl (Nat.le_of_ble_eq_true rfl) (by decide) (q_iload rfl rfl (q_iconst rfl ?_)))))))
            refine v_iadd (v := 10) rfl (by decide) (q_istore rfl (Nat.le_of_ble_eq_true rfl) (v_iinc (v := 10) rfl rfl (Nat.le_of_ble_eq_true rfl) (by decide) (q_goto (t := 52) rfl rfl (Wp_ls [(0, .ref 1), (1, .ref (a_SB + 8)), (2, vi r8), (3, vi L8), (4, vi 2), (5, vi 10), (6, vi 10)] (lsub_cons rfl (lsub_cons rfl (lsub_cons rfl (lsub_cons rfl (lsub_cons rfl (lsub_cons rfl (lsub_cons rfl lsub_nil))))))) ?_))))
            exact f_10_8_2 (d := d) (r8 := r8) (L8 := L8) (W8 := W8) hI hq0 hq1 hv0 hv1 hv2 hv3 hB ((wd8_1_f (by omega)).symm.trans hdW8) K0 K1
        · refine v_ic_eq_f (t := 32) rfl rfl ⟨h_11, ⟨by decide, by decide⟩, by first | exact q_f97c35332 h_10 | omega, by first | exact q_79e53d295 h_10 | omega⟩ (q_iconst rfl (v_zret rfl rfl (by decide) (bk_inl (v_if_eq_t (t := 121) rfl rfl (by decide) (v_iinc (v := 2) rfl rfl (Nat.le_of_ble_eq_true rfl) (by decide) (q_iload rfl rfl (q_iconst rfl ?_)))))))
          refine v_iadd (v := 10) rfl (by decide) (q_istore rfl (Nat.le_of_ble_eq_true rfl) (v_iinc (v := 10) rfl rfl (Nat.le_of_ble_eq_true rfl) (by decide) (q_goto (t := 52) rfl rfl (Wp_ls [(0, .ref 1), (1, .ref (a_SB + 8)), (2, vi r8), (3, vi L8), (4, vi 2), (5, vi 10), (6, vi 10)] (lsub_cons rfl (lsub_cons rfl (lsub_cons rfl (lsub_cons rfl (lsub_cons rfl (lsub_cons rfl (lsub_cons rfl lsub_nil))))))) ?_))))
          exact f_10_8_2 (d := d) (r8 := r8) (L8 := L8) (W8 := W8) hI hq0 hq1 hv0 hv1 hv2 hv3 hB ((wd8_1_f (by omega)).symm.trans hdW8) K0 K1
      · refine v_ic_eq_f (t := 32) rfl rfl ⟨h_9, ⟨by decide, by decide⟩, by first | exact q_f97c35332 h_8 | omega, by first | exact q_79e53d295 h_8 | omega⟩ (q_iconst rfl (v_zret rfl rfl (by decide) (bk_inl (v_if_eq_t (t := 121) rfl rfl (by decide) (v_iinc (v := 2) rfl rfl (Nat.le_of_ble_eq_true rfl) (by decide) (q_iload rfl rfl (q_iconst rfl ?_)))))))
        refine v_iadd (v := 10) rfl (by decide) (q_istore rfl (Nat.le_of_ble_eq_true rfl) (v_iinc (v := 10) rfl rfl (Nat.le_of_ble_eq_true rfl) (by decide) (q_goto (t := 52) rfl rfl (Wp_ls [(0, .ref 1), (1, .ref (a_SB + 8)), (2, vi r8), (3, vi L8), (4, vi 2), (5, vi 10), (6, vi 10)] (lsub_cons rfl (lsub_cons rfl (lsub_cons rfl (lsub_cons rfl (lsub_cons rfl (lsub_cons rfl (lsub_cons rfl lsub_nil))))))) ?_))))
        exact f_10_8_2 (d := d) (r8 := r8) (L8 := L8) (W8 := W8) hI hq0 hq1 hv0 hv1 hv2 hv3 hB ((wd8_1_f (by omega)).symm.trans hdW8) K0 K1
    · refine v_ic_eq_f (t := 32) rfl rfl ⟨h_7, ⟨by decide, by decide⟩, by first | exact q_f97c35332 h_6 | omega, by first | exact q_79e53d295 h_6 | omega⟩ (q_iconst rfl (v_zret rfl rfl (by decide) (bk_inl (v_if_eq_t (t := 121) rfl rfl (by decide) (v_iinc (v := 2) rfl rfl (Nat.le_of_ble_eq_true rfl) (by decide) (q_iload rfl rfl (q_iconst rfl ?_)))))))
      refine v_iadd (v := 10) rfl (by decide) (q_istore rfl (Nat.le_of_ble_eq_true rfl) (v_iinc (v := 10) rfl rfl (Nat.le_of_ble_eq_true rfl) (by decide) (q_goto (t := 52) rfl rfl (Wp_ls [(0, .ref 1), (1, .ref (a_SB + 8)), (2, vi r8), (3, vi L8), (4, vi 2), (5, vi 10), (6, vi 10)] (lsub_cons rfl (lsub_cons rfl (lsub_cons rfl (lsub_cons rfl (lsub_cons rfl (lsub_cons rfl (lsub_cons rfl lsub_nil))))))) ?_))))
      exact f_10_8_2 (d := d) (r8 := r8) (L8 := L8) (W8 := W8) hI hq0 hq1 hv0 hv1 hv2 hv3 hB ((wd8_1_f (by omega)).symm.trans hdW8) K0 K1

set_option maxRecDepth 100000 in
set_option maxHeartbeats 4000000 in
theorem f_10_8_0 {sc : List Int32} {e : Int} {d u P Q : Nat} {c : ME} {e1 a9 f9 p9 W8 r8 L8 : Int} {B : Int → Int} {Z : AR → Prop} (hI : Iv u e P Q c) (hq0 : (f9 = 0)) (hq1 : (r8 ≥ 0 ∧ r8 ≤ L8 ∧ L8 ≤ 600)) (hv0 : c 1 1 = e1) (hv1 : c 1 2 = a9) (hv2 : c 1 4 = f9) (hv3 : c 1 5 = p9) (hB : ∀ j : Int, c 2 j = B j) (hdW8 : wd8_0 B r8 L8 = W8) (K0 : ∀ c2 : ME, Iv u e P Q c2 → (∀ (a : Nat) (j : Int), ¬ ((a = 1 ∧ j = 2) ∨ (a = 1 ∧ j = 4) ∨ (a = 1 ∧ j = 5)) → c2 a j = c a j) → ((W8 = (-1))) → (c2 1 2 = a9) → (c2 1 4 = 1) → (c2 1 5 = r8) → Z (.inl (some (vi (-1))), Wd P Q P P c2, 0, 0)) (K1 : ∀ c2 : ME, Iv u e P Q c2 → (∀ (a : Nat) (j : Int), ¬ ((a = 1 ∧ j = 2) ∨ (a = 1 ∧ j = 4) ∨ (a = 1 ∧ j = 5)) → c2 a j = c a j) → ((W8 ≥ 0 ∧ W8 ≤ 3)) → (c2 1 2 = L8) → (c2 1 4 = 0) → (c2 1 5 = p9) → Z (.inl (some (vi W8)), Wd P Q P P c2, 0, 0)) : Wp sc (d + 12) 10 52 [(0, .ref 1), (1, .ref (a_SB + 8)), (2, vi r8), (3, vi L8), (4, vi 0), (5, vi 0), (6, vi 0)] [] (Wd P Q P P c) 0 0 Z := by
  have hP := iv_P hI
  have hQ := iv_Q hI
  have h_1 := ir_1_1 hI
  have h_2 := ir_1_2 hI
  have h_3 := ir_1_4 hI
  have h_4 := ir_1_5 hI
  refine q_iload rfl rfl (q_aload_n rfl rfl (v_sln 20 rfl rfl (by omega) (Nat.le_of_ble_eq_true rfl) (by decide) (by decide) (v_ic_gt_f (t := 136) rfl rfl (by decide) (q_aload_n rfl rfl (v_cv rfl rfl rfl rfl (Nat.le_of_ble_eq_true rfl) ⟨⟨rfl, rfl⟩, Nat.le_of_ble_eq_true rfl, rfl⟩ (Nat.le_of_ble_eq_true rfl) (Nat.le_of_ble_eq_true rfl) (q_aload_n rfl rfl (v_gi (z := 4) (v := f9) rfl rfl rfl (Nat.le_of_ble_eq_true rfl) rfl rfl (hv2) ?_)))))))
  refine v_if_ne_f (t := 11) rfl rfl (by omega) (q_iconst rfl (q_goto (t := 12) rfl rfl (v_zret rfl rfl (by decide) (bk_inl (v_if_eq_f (t := 136) rfl rfl (by decide) (q_iload rfl rfl (q_aload_n rfl rfl ?_)))))))
  refine v_sln 20 rfl rfl (by omega) (Nat.le_of_ble_eq_true rfl) (by decide) (by decide) (v_ic_eq_f (t := 88) rfl rfl (by decide) (q_aload_n rfl rfl (q_iload rfl rfl (v_sch 106 rfl rfl (by omega) (Nat.le_of_ble_eq_true rfl) (by decide) (by decide) (by decide) (v_bip rfl (by decide) (v_ic_ne_t (t := 130) rfl rfl (by decide) (v_iinc (v := 1) rfl rfl (Nat.le_of_ble_eq_true rfl) (by decide) ?_)))))))
  refine q_goto (t := 52) rfl rfl (q_iload rfl rfl (q_aload_n rfl rfl (v_sln 20 rfl rfl (by omega) (Nat.le_of_ble_eq_true rfl) (by decide) (by decide) (v_ic_gt_f (t := 136) rfl rfl (by decide) (q_aload_n rfl rfl (v_cv rfl rfl rfl rfl (Nat.le_of_ble_eq_true rfl) ⟨⟨rfl, rfl⟩, Nat.le_of_ble_eq_true rfl, rfl⟩ (Nat.le_of_ble_eq_true rfl) (Nat.le_of_ble_eq_true rfl) (q_aload_n rfl rfl ?_)))))))
  refine v_gi (z := 4) (v := f9) rfl rfl rfl (Nat.le_of_ble_eq_true rfl) rfl rfl (hv2) (v_if_ne_f (t := 11) rfl rfl (by omega) (q_iconst rfl (q_goto (t := 12) rfl rfl (v_zret rfl rfl (by decide) (bk_inl (v_if_eq_f (t := 136) rfl rfl (by decide) (q_iload rfl rfl ?_)))))))
  refine q_aload_n rfl rfl (v_sln 20 rfl rfl (by omega) (Nat.le_of_ble_eq_true rfl) (by decide) (by decide) (v_ic_eq_f (t := 88) rfl rfl (by decide) (q_aload_n rfl rfl (q_iload rfl rfl (v_sch 97 rfl rfl (by omega) (Nat.le_of_ble_eq_true rfl) (by decide) (by decide) (by decide) (v_bip rfl (by decide) (v_ic_ne_t (t := 130) rfl rfl (by decide) ?_)))))))
  refine v_iinc (v := 2) rfl rfl (Nat.le_of_ble_eq_true rfl) (by decide) (q_goto (t := 52) rfl rfl (q_iload rfl rfl (q_aload_n rfl rfl (v_sln 20 rfl rfl (by omega) (Nat.le_of_ble_eq_true rfl) (by decide) (by decide) (v_ic_gt_f (t := 136) rfl rfl (by decide) (q_aload_n rfl rfl (v_cv rfl rfl rfl rfl (Nat.le_of_ble_eq_true rfl) ⟨⟨rfl, rfl⟩, Nat.le_of_ble_eq_true rfl, rfl⟩ (Nat.le_of_ble_eq_true rfl) (Nat.le_of_ble_eq_true rfl) ?_)))))))
  refine q_aload_n rfl rfl (v_gi (z := 4) (v := f9) rfl rfl rfl (Nat.le_of_ble_eq_true rfl) rfl rfl (hv2) (v_if_ne_f (t := 11) rfl rfl (by omega) (q_iconst rfl (q_goto (t := 12) rfl rfl (v_zret rfl rfl (by decide) (bk_inl (v_if_eq_f (t := 136) rfl rfl (by decide) ?_)))))))
  refine q_iload rfl rfl (q_aload_n rfl rfl (v_sln 20 rfl rfl (by omega) (Nat.le_of_ble_eq_true rfl) (by decide) (by decide) (v_ic_eq_f (t := 88) rfl rfl (by decide) (q_aload_n rfl rfl (q_iload rfl rfl (v_sch 114 rfl rfl (by omega) (Nat.le_of_ble_eq_true rfl) (by decide) (by decide) (by decide) (v_bip rfl (by decide) ?_)))))))
  refine v_ic_ne_t (t := 130) rfl rfl (by decide) (v_iinc (v := 3) rfl rfl (Nat.le_of_ble_eq_true rfl) (by decide) (q_goto (t := 52) rfl rfl (q_iload rfl rfl (q_aload_n rfl rfl (v_sln 20 rfl rfl (by omega) (Nat.le_of_ble_eq_true rfl) (by decide) (by decide) (v_ic_gt_f (t := 136) rfl rfl (by decide) (q_aload_n rfl rfl ?_)))))))
  refine v_cv rfl rfl rfl rfl (Nat.le_of_ble_eq_true rfl) ⟨⟨rfl, rfl⟩, Nat.le_of_ble_eq_true rfl, rfl⟩ (Nat.le_of_ble_eq_true rfl) (Nat.le_of_ble_eq_true rfl) (q_aload_n rfl rfl (v_gi (z := 4) (v := f9) rfl rfl rfl (Nat.le_of_ble_eq_true rfl) rfl rfl (hv2) (v_if_ne_f (t := 11) rfl rfl (by omega) (q_iconst rfl (q_goto (t := 12) rfl rfl (v_zret rfl rfl (by decide) (bk_inl ?_)))))))
  refine v_if_eq_f (t := 136) rfl rfl (by decide) (q_iload rfl rfl (q_aload_n rfl rfl (v_sln 20 rfl rfl (by omega) (Nat.le_of_ble_eq_true rfl) (by decide) (by decide) (v_ic_eq_f (t := 88) rfl rfl (by decide) (q_aload_n rfl rfl (q_iload rfl rfl (v_sch 32 rfl rfl (by omega) (Nat.le_of_ble_eq_true rfl) (by decide) (by decide) (by decide) ?_)))))))
  refine v_bip rfl (by decide) (v_ic_ne_f (t := 130) rfl rfl (by decide) (q_iload rfl rfl (q_iload rfl rfl (v_isub (v := 3) rfl (by decide) (q_iload_n rfl rfl (q_iload_n rfl rfl (v_isub (v := L8 - r8) rfl rfl ?_)))))))
  by_cases h_5 : 3 ≠ L8 - r8
  · refine v_ic_ne_t (t := 121) rfl rfl ⟨h_5, ⟨by decide, by decide⟩, by omega, by omega⟩ (v_iinc (v := 1) rfl rfl (Nat.le_of_ble_eq_true rfl) (by decide) (q_iload rfl rfl (q_iconst rfl (v_iadd (v := 4) rfl (by decide) (q_istore rfl (Nat.le_of_ble_eq_true rfl) (Wp_ls [(5, vi 4), (4, vi 1), (6, vi 3), (0, .ref 1), (1, .ref (a_SB + 8)), (2, vi r8), (3, vi L8)] (lsub_cons rfl (lsub_cons rfl (lsub_cons rfl (lsub_cons rfl (lsub_cons rfl (lsub_cons rfl (lsub_cons rfl lsub_nil))))))) (v_iinc (v := 4) rfl rfl (Nat.le_of_ble_eq_true rfl) (by decide) ?_)))))))
    refine q_goto (t := 52) rfl rfl (Wp_ls [(0, .ref 1), (1, .ref (a_SB + 8)), (2, vi r8), (3, vi L8), (4, vi 1), (5, vi 4), (6, vi 4)] (lsub_cons rfl (lsub_cons rfl (lsub_cons rfl (lsub_cons rfl (lsub_cons rfl (lsub_cons rfl (lsub_cons rfl lsub_nil))))))) ?_)
    exact f_10_8_1 (d := d) (r8 := r8) (L8 := L8) (W8 := W8) hI hq0 hq1 hv0 hv1 hv2 hv3 hB ((wd8_0_f (by omega)).symm.trans hdW8) K0 K1
  · refine v_ic_ne_f (t := 121) rfl rfl (Decidable.not_not.mp h_5) (q_aload_n rfl rfl (q_aload_n rfl rfl (q_iload rfl rfl (q_iload_n rfl rfl (q_iload_n rfl rfl (q_iload_n rfl rfl (v_isub (v := L8 - r8) rfl rfl ?_)))))))
    refine v_cv rfl rfl rfl rfl (Nat.le_of_ble_eq_true rfl) ⟨⟨rfl, rfl⟩, Nat.le_of_ble_eq_true rfl, rfl⟩ (Nat.le_of_ble_eq_true rfl) (Nat.le_of_ble_eq_true rfl) (q_iconst rfl (q_istore rfl (Nat.le_of_ble_eq_true rfl) (q_iload rfl rfl (q_iload rfl rfl (v_ic_ge_f (t := 38) rfl rfl ⟨by decide, by first | exact q_8d10d25b6 h_5 | omega, by first | exact q_22d63526a h_5 | omega⟩ (q_aload_n rfl rfl (q_iload_n rfl rfl ?_)))))))
    refine q_iload rfl rfl (v_iadd (v := 0) rfl (by decide) (v_sch 106 rfl rfl (by omega) (Nat.le_of_ble_eq_true rfl) (by decide) (by decide) (by decide) (q_aload_n rfl rfl (v_gr (t := 2) rfl rfl rfl (Nat.le_of_ble_eq_true rfl) rfl (q_iload_n rfl rfl (q_iload rfl rfl (v_iadd (v := r8) rfl (by omega) ?_)))))))
    have h_6 : -2147483648 ≤ (B r8) ∧ (B r8) ≤ 2147483647 := by rw [← hB r8]; exact ir_2 hI r8
    refine v_ba (v := (B r8)) rfl rfl (by decide) (by decide) (by omega) (hB r8) ?_
    by_cases h_7 : 106 = (B r8)
    · refine v_ic_eq_t (t := 32) rfl rfl h_7 (v_iinc (v := 1) rfl rfl (Nat.le_of_ble_eq_true rfl) (by decide) (q_goto (t := 3) rfl rfl (q_iload rfl rfl (q_iload rfl rfl (v_ic_ge_f (t := 38) rfl rfl ⟨by decide, by first | exact q_f1d336e40 h_5 | omega, by first | exact q_22d63526a h_5 | omega⟩ (q_aload_n rfl rfl (q_iload_n rfl rfl ?_)))))))
      refine q_iload rfl rfl (v_iadd (v := 1) rfl (by decide) (v_sch 97 rfl rfl (by omega) (Nat.le_of_ble_eq_true rfl) (by decide) (by decide) (by decide) (q_aload_n rfl rfl (v_gr (t := 2) rfl rfl rfl (Nat.le_of_ble_eq_true rfl) rfl (q_iload_n rfl rfl (q_iload rfl rfl (v_iadd (v := r8 + 1) rfl rfl ?_)))))))
      have h_8 : -2147483648 ≤ (B (r8 + 1)) ∧ (B (r8 + 1)) ≤ 2147483647 := by rw [← hB (r8 + 1)]; exact ir_2 hI (r8 + 1)
      refine v_ba (v := (B (r8 + 1))) rfl rfl (by decide) (by decide) (by omega) (hB (r8 + 1)) ?_
      by_cases h_9 : 97 = (B (r8 + 1))
      · refine v_ic_eq_t (t := 32) rfl rfl h_9 (v_iinc (v := 2) rfl rfl (Nat.le_of_ble_eq_true rfl) (by decide) (q_goto (t := 3) rfl rfl (q_iload rfl rfl (q_iload rfl rfl (v_ic_ge_f (t := 38) rfl rfl ⟨by decide, by first | exact q_3cb5391db h_5 | omega, by first | exact q_22d63526a h_5 | omega⟩ (q_aload_n rfl rfl (q_iload_n rfl rfl ?_)))))))
        refine q_iload rfl rfl (v_iadd (v := 2) rfl (by decide) (v_sch 114 rfl rfl (by omega) (Nat.le_of_ble_eq_true rfl) (by decide) (by decide) (by decide) (q_aload_n rfl rfl (v_gr (t := 2) rfl rfl rfl (Nat.le_of_ble_eq_true rfl) rfl (q_iload_n rfl rfl (q_iload rfl rfl (v_iadd (v := r8 + 2) rfl rfl ?_)))))))
        have h_10 : -2147483648 ≤ (B (r8 + 2)) ∧ (B (r8 + 2)) ≤ 2147483647 := by rw [← hB (r8 + 2)]; exact ir_2 hI (r8 + 2)
        refine v_ba (v := (B (r8 + 2))) rfl rfl (by decide) (by decide) (by omega) (hB (r8 + 2)) ?_
        by_cases h_11 : 114 = (B (r8 + 2))
        · refine v_ic_eq_t (t := 32) rfl rfl h_11 (v_iinc (v := 3) rfl rfl (Nat.le_of_ble_eq_true rfl) (by decide) (q_goto (t := 3) rfl rfl (q_iload rfl rfl (q_iload rfl rfl (v_ic_ge_t (t := 38) rfl rfl ⟨by first | exact q_2271afefa h_5 | omega, by first | exact q_8e661bf2d h_5 | omega, by decide⟩ (q_iconst rfl (v_zret rfl rfl (by decide) ?_)))))))
          refine bk_inl (v_if_eq_f (t := 121) rfl rfl (by decide) (q_aload_n rfl rfl (q_iload_n rfl rfl (v_pi (z := 2) rfl rfl rfl (Nat.le_of_ble_eq_true rfl) rfl rfl rfl (by decide) (q_iload rfl rfl (q_iret rfl rfl ?_))))))
          have hw9 : W8 = 0 := hdW8.symm.trans (wd8_0_t (by omega))
          have hI_12 := iw_1_2 (v := L8) hI ⟨by omega, by omega⟩
          have h_13 : (up c 1 2 L8) 1 2 = L8 := (up_e rfl)
          have h_14 : (up c 1 2 L8) 1 4 = f9 := ((up_n (by decide)).trans (hv2))
          have h_15 : (up c 1 2 L8) 1 5 = p9 := ((up_n (by decide)).trans (hv3))
          exact zv (by omega) (K1 (up c 1 2 L8) hI_12 (fun a j hm => up_b (Decidable.or_iff_not_imp_left.mpr (fun h1 h2 => hm (Or.inl ⟨Decidable.not_not.mp h1, h2⟩)))) (by omega) (by omega) (by omega) (by omega))
        · refine v_ic_eq_f (t := 32) rfl rfl ⟨h_11, ⟨by decide, by decide⟩, by first | exact q_f97c35332 h_10 | omega, by first | exact q_79e53d295 h_10 | omega⟩ (q_iconst rfl (v_zret rfl rfl (by decide) (bk_inl (v_if_eq_t (t := 121) rfl rfl (by decide) (v_iinc (v := 1) rfl rfl (Nat.le_of_ble_eq_true rfl) (by decide) (q_iload rfl rfl (q_iconst rfl ?_)))))))
          refine v_iadd (v := 4) rfl (by decide) (q_istore rfl (Nat.le_of_ble_eq_true rfl) (Wp_ls [(5, vi 4), (4, vi 1), (6, vi 3), (0, .ref 1), (1, .ref (a_SB + 8)), (2, vi r8), (3, vi L8)] (lsub_cons rfl (lsub_cons rfl (lsub_cons rfl (lsub_cons rfl (lsub_cons rfl (lsub_cons rfl (lsub_cons rfl lsub_nil))))))) (v_iinc (v := 4) rfl rfl (Nat.le_of_ble_eq_true rfl) (by decide) (q_goto (t := 52) rfl rfl (Wp_ls [(0, .ref 1), (1, .ref (a_SB + 8)), (2, vi r8), (3, vi L8), (4, vi 1), (5, vi 4), (6, vi 4)] (lsub_cons rfl (lsub_cons rfl (lsub_cons rfl (lsub_cons rfl (lsub_cons rfl (lsub_cons rfl (lsub_cons rfl lsub_nil))))))) ?_)))))
          exact f_10_8_1 (d := d) (r8 := r8) (L8 := L8) (W8 := W8) hI hq0 hq1 hv0 hv1 hv2 hv3 hB ((wd8_0_f (by omega)).symm.trans hdW8) K0 K1
      · refine v_ic_eq_f (t := 32) rfl rfl ⟨h_9, ⟨by decide, by decide⟩, by first | exact q_f97c35332 h_8 | omega, by first | exact q_79e53d295 h_8 | omega⟩ (q_iconst rfl (v_zret rfl rfl (by decide) (bk_inl (v_if_eq_t (t := 121) rfl rfl (by decide) (v_iinc (v := 1) rfl rfl (Nat.le_of_ble_eq_true rfl) (by decide) (q_iload rfl rfl (q_iconst rfl ?_)))))))
        refine v_iadd (v := 4) rfl (by decide) (q_istore rfl (Nat.le_of_ble_eq_true rfl) (Wp_ls [(5, vi 4), (4, vi 1), (6, vi 3), (0, .ref 1), (1, .ref (a_SB + 8)), (2, vi r8), (3, vi L8)] (lsub_cons rfl (lsub_cons rfl (lsub_cons rfl (lsub_cons rfl (lsub_cons rfl (lsub_cons rfl (lsub_cons rfl lsub_nil))))))) (v_iinc (v := 4) rfl rfl (Nat.le_of_ble_eq_true rfl) (by decide) (q_goto (t := 52) rfl rfl (Wp_ls [(0, .ref 1), (1, .ref (a_SB + 8)), (2, vi r8), (3, vi L8), (4, vi 1), (5, vi 4), (6, vi 4)] (lsub_cons rfl (lsub_cons rfl (lsub_cons rfl (lsub_cons rfl (lsub_cons rfl (lsub_cons rfl (lsub_cons rfl lsub_nil))))))) ?_)))))
        exact f_10_8_1 (d := d) (r8 := r8) (L8 := L8) (W8 := W8) hI hq0 hq1 hv0 hv1 hv2 hv3 hB ((wd8_0_f (by omega)).symm.trans hdW8) K0 K1
    · refine v_ic_eq_f (t := 32) rfl rfl ⟨h_7, ⟨by decide, by decide⟩, by first | exact q_f97c35332 h_6 | omega, by first | exact q_79e53d295 h_6 | omega⟩ (q_iconst rfl (v_zret rfl rfl (by decide) (bk_inl (v_if_eq_t (t := 121) rfl rfl (by decide) (v_iinc (v := 1) rfl rfl (Nat.le_of_ble_eq_true rfl) (by decide) (q_iload rfl rfl (q_iconst rfl ?_)))))))
      refine v_iadd (v := 4) rfl (by decide) (q_istore rfl (Nat.le_of_ble_eq_true rfl) (Wp_ls [(5, vi 4), (4, vi 1), (6, vi 3), (0, .ref 1), (1, .ref (a_SB + 8)), (2, vi r8), (3, vi L8)] (lsub_cons rfl (lsub_cons rfl (lsub_cons rfl (lsub_cons rfl (lsub_cons rfl (lsub_cons rfl (lsub_cons rfl lsub_nil))))))) (v_iinc (v := 4) rfl rfl (Nat.le_of_ble_eq_true rfl) (by decide) (q_goto (t := 52) rfl rfl (Wp_ls [(0, .ref 1), (1, .ref (a_SB + 8)), (2, vi r8), (3, vi L8), (4, vi 1), (5, vi 4), (6, vi 4)] (lsub_cons rfl (lsub_cons rfl (lsub_cons rfl (lsub_cons rfl (lsub_cons rfl (lsub_cons rfl (lsub_cons rfl lsub_nil))))))) ?_)))))
      exact f_10_8_1 (d := d) (r8 := r8) (L8 := L8) (W8 := W8) hI hq0 hq1 hv0 hv1 hv2 hv3 hB ((wd8_0_f (by omega)).symm.trans hdW8) K0 K1

set_option maxRecDepth 100000 in
set_option maxHeartbeats 4000000 in
theorem f_10_8_l {sc : List Int32} {e : Int} {d u P Q : Nat} {c : ME} {e1 a9 f9 p9 r8 L8 W8 : Int} {B : Int → Int} {Z : AR → Prop} (hI : Iv u e P Q c) (hv0 : c 1 1 = e1) (hv1 : c 1 2 = a9) (hv2 : c 1 4 = f9) (hv3 : c 1 5 = p9) (hB : ∀ j : Int, c 2 j = B j) (hdr8 : nx B e1 a9 = r8) (hdL8 : ln B e1 r8 = L8) (hdW8 : wd8_0 B r8 L8 = W8) (K0 : ∀ c2 : ME, Iv u e P Q c2 → (∀ (a : Nat) (j : Int), ¬ ((a = 1 ∧ j = 2) ∨ (a = 1 ∧ j = 4) ∨ (a = 1 ∧ j = 5)) → c2 a j = c a j) → ((f9 ≠ 0)) → (c2 1 2 = r8) → (c2 1 4 = f9) → (c2 1 5 = p9) → Z (.inl (some (vi (-1))), Wd P Q P P c2, 0, 0)) (K1 : ∀ c2 : ME, Iv u e P Q c2 → (∀ (a : Nat) (j : Int), ¬ ((a = 1 ∧ j = 2) ∨ (a = 1 ∧ j = 4) ∨ (a = 1 ∧ j = 5)) → c2 a j = c a j) → ((f9 = 0)) → ((W8 = (-1))) → (c2 1 2 = r8) → (c2 1 4 = 1) → (c2 1 5 = r8) → Z (.inl (some (vi (-1))), Wd P Q P P c2, 0, 0)) (K2 : ∀ c2 : ME, Iv u e P Q c2 → (∀ (a : Nat) (j : Int), ¬ ((a = 1 ∧ j = 2) ∨ (a = 1 ∧ j = 4) ∨ (a = 1 ∧ j = 5)) → c2 a j = c a j) → ((f9 = 0)) → ((W8 ≥ 0 ∧ W8 ≤ 3)) → (c2 1 2 = L8) → (c2 1 4 = 0) → (c2 1 5 = p9) → Z (.inl (some (vi W8)), Wd P Q P P c2, 0, 0)) : ∀ n : Nat, (∀ (c2 : ME) (v3 : Int), Iv u e P Q c2 → (∀ (a : Nat) (j : Int), ¬ ((a = 1 ∧ j = 2) ∨ (a = 1 ∧ j = 4) ∨ (a = 1 ∧ j = 5)) → c2 a j = c a j) → 0 ≤ v3 ∧ v3 ≤ 600 → (ln B e1 v3 = L8) → ((v3 ≥ r8)) → ((c2 1 2 = r8)) → ((c2 1 4 = f9)) → ((c2 1 5 = p9)) → 600 - v3 < (n : Int) → Wp sc (d + 13) 10 7 [(0, .ref 1), (1, .ref (a_SB + 8)), (2, vi r8), (3, vi v3)] [] (Wd P Q P P c2) 0 0 Z)
  | 0 => by intro c2 v3 hI2 hF hv3 hx0 hx1 hx2 hx3 hx4 hm9; have hP := iv_P hI; have hQ := iv_Q hI; have h_1 := ir_1_1 hI; have h_2 := ir_1_2 hI; have h_3 := ir_1_4 hI; have h_4 := ir_1_5 hI; have h_5 := ir_1_2 hI2; have h_6 := ir_1_4 hI2; have h_7 := ir_1_5 hI2; exfalso; omega
  | n + 1 => by
    have hP := iv_P hI
    have hQ := iv_Q hI
    have ih := f_10_8_l (sc := sc) (d := d) hI hv0 hv1 hv2 hv3 hB hdr8 hdL8 hdW8 K0 K1 K2 n
    intro c2 v3 hI2 hF hv3 hx0 hx1 hx2 hx3 hx4 hm9
    have h_1 := ir_1_1 hI
    have h_2 := ir_1_2 hI
    have h_3 := ir_1_4 hI
    have h_4 := ir_1_5 hI
    have hn1 := nx_bd (b := B) (e := e1) (a := a9)
    rw [hdr8] at hn1
    have hn2 := ln_bd (b := B) (e := e1) (a := r8)
    rw [hdL8] at hn2
    have h_5 := ir_1_2 hI2
    have h_6 := ir_1_4 hI2
    have h_7 := ir_1_5 hI2
    refine q_iload_n rfl rfl (q_aload_n rfl rfl ?_)
    have kn_8 : Hid (c2 1 1 = e1) := (hF 1 1 (fun q => q.elim (fun h => absurd h.2 (ni rfl)) (fun q => q.elim (fun h => absurd h.2 (ni rfl)) (fun h => absurd h.2 (ni rfl))))).trans (hv0)
    refine v_gi (z := 1) (v := e1) rfl rfl rfl (Nat.le_of_ble_eq_true rfl) rfl rfl (hid kn_8) ?_
    by_cases h_9 : v3 ≥ e1
    · refine v_ic_ge_t (t := 43) rfl rfl ⟨by omega, h_9, (Int.le_trans hv3.2 (by decide))⟩ (q_iconst rfl (q_istore rfl (Nat.le_of_ble_eq_true rfl) (q_iconst rfl (q_istore rfl (Nat.le_of_ble_eq_true rfl) (q_iconst rfl (q_istore rfl (Nat.le_of_ble_eq_true rfl) ?_))))))
      by_cases h_10 : f9 = 0
      · skip
        have hz8 : ln B e1 v3 = v3 := ln_z (by omega)
        have hz9 : v3 = L8 := hz8.symm.trans hx0
        refine Wp_ls [(0, .ref 1), (1, .ref (a_SB + 8)), (2, vi r8), (3, vi L8), (4, vi 0), (5, vi 0), (6, vi 0)] (lsub_cons rfl (lsub_cons rfl (lsub_cons rfl (lsub_cons (congrArg (fun w9 => some (vi w9)) hz9) (lsub_cons rfl (lsub_cons rfl (lsub_cons rfl lsub_nil))))))) ?_
        exact f_10_8_0 (e1 := e1) (a9 := c2 1 2) (f9 := c2 1 4) (p9 := c2 1 5) (r8 := r8) (L8 := L8) (W8 := W8) hI2 (by omega) (by omega) ((hid kn_8)) (rfl) (rfl) (rfl) (fun j => (hF 2 j (fun q => q.elim (fun h => absurd h.1 (nn rfl)) (fun q => q.elim (fun h => absurd h.1 (nn rfl)) (fun h => absurd h.1 (nn rfl))))).trans (hB j)) hdW8 (fun c9 hI9 hF9 x1 z1 z2 z3 => K1 c9 hI9 (fun a j hm => (hF9 a j hm).trans (hF a j (fun q => q.elim (fun h => hm (Or.inl h)) (fun q => q.elim (fun h => hm (Or.inr (Or.inl h))) (fun h => hm (Or.inr (Or.inr h))))))) (by omega) (by omega) (by omega) (by omega) (by omega)) (fun c9 hI9 hF9 x1 z1 z2 z3 => K2 c9 hI9 (fun a j hm => (hF9 a j hm).trans (hF a j (fun q => q.elim (fun h => hm (Or.inl h)) (fun q => q.elim (fun h => hm (Or.inr (Or.inl h))) (fun h => hm (Or.inr (Or.inr h))))))) (by omega) (by omega) (by omega) (by omega) (by omega))
      · skip
        refine q_iload rfl rfl (q_aload_n rfl rfl (v_sln 20 rfl rfl (by omega) (Nat.le_of_ble_eq_true rfl) (by decide) (by decide) (v_ic_gt_f (t := 136) rfl rfl (by decide) (q_aload_n rfl rfl (v_cv rfl rfl rfl rfl (Nat.le_of_ble_eq_true rfl) ⟨⟨rfl, rfl⟩, Nat.le_of_ble_eq_true rfl, rfl⟩ (Nat.le_of_ble_eq_true rfl) (Nat.le_of_ble_eq_true rfl) (q_aload_n rfl rfl (v_gi (z := 4) (v := c2 1 4) rfl rfl rfl (Nat.le_of_ble_eq_true rfl) rfl rfl rfl ?_)))))))
        refine v_if_ne_t (t := 11) rfl rfl ⟨by omega, ⟨(Int.le_trans (by decide) h_6.1), (Int.le_trans h_6.2 (by decide))⟩, by decide, by decide⟩ (q_iconst rfl (v_zret rfl rfl (by decide) (bk_inl (v_if_eq_t (t := 136) rfl rfl (by decide) (q_aload_n rfl rfl (q_iconst rfl (q_iload_n rfl rfl ?_)))))))
        refine v_cv rfl rfl rfl rfl (Nat.le_of_ble_eq_true rfl) ⟨⟨rfl, rfl⟩, Nat.le_of_ble_eq_true rfl, rfl⟩ (Nat.le_of_ble_eq_true rfl) (Nat.le_of_ble_eq_true rfl) (q_aload_n rfl rfl (v_gi (z := 4) (v := c2 1 4) rfl rfl rfl (Nat.le_of_ble_eq_true rfl) rfl rfl rfl (v_if_ne_t (t := 17) rfl rfl ⟨by omega, ⟨(Int.le_trans (by decide) h_6.1), (Int.le_trans h_6.2 (by decide))⟩, by decide, by decide⟩ (q_vret rfl rfl (bk_inl (q_iconst rfl (q_iret rfl rfl ?_)))))))
        exact zv (by omega) (K0 c2 hI2 (fun a j hm => hF a j (fun q => q.elim (fun h => hm (Or.inl h)) (fun q => q.elim (fun h => hm (Or.inr (Or.inl h))) (fun h => hm (Or.inr (Or.inr h)))))) (by omega) (by omega) (by omega) (by omega))
    · refine v_ic_ge_f (t := 43) rfl rfl ⟨(Int.le_trans (by decide) hv3.1), (Int.not_le.mp h_9), by omega⟩ (q_aload_n rfl rfl (v_gr (t := 2) rfl rfl rfl (Nat.le_of_ble_eq_true rfl) rfl (q_iload_n rfl rfl ?_)))
      have h_11 : -2147483648 ≤ (B v3) ∧ (B v3) ≤ 2147483647 := by rw [← hB v3]; exact ir_2 hI v3
      have kn_12 : Hid (c2 2 v3 = (B v3)) := (hF 2 v3 (fun q => q.elim (fun h => absurd h.1 (nn rfl)) (fun q => q.elim (fun h => absurd h.1 (nn rfl)) (fun h => absurd h.1 (nn rfl))))).trans (hB v3)
      refine v_ba (v := (B v3)) rfl rfl (by decide) (by decide) ⟨hv3.1, by omega⟩ (hid kn_12) (v_bip rfl (by decide) ?_)
      by_cases h_13 : (B v3) < 97
      · refine v_ic_lt_t (t := 43) rfl rfl ⟨by first | exact q_f97c35332 h_11 | omega, h_13, by decide⟩ (q_iconst rfl (q_istore rfl (Nat.le_of_ble_eq_true rfl) (q_iconst rfl (q_istore rfl (Nat.le_of_ble_eq_true rfl) (q_iconst rfl (q_istore rfl (Nat.le_of_ble_eq_true rfl) ?_))))))
        by_cases h_14 : f9 = 0
        · skip
          have hz8 : ln B e1 v3 = v3 := ln_z (by omega)
          have hz9 : v3 = L8 := hz8.symm.trans hx0
          refine Wp_ls [(0, .ref 1), (1, .ref (a_SB + 8)), (2, vi r8), (3, vi L8), (4, vi 0), (5, vi 0), (6, vi 0)] (lsub_cons rfl (lsub_cons rfl (lsub_cons rfl (lsub_cons (congrArg (fun w9 => some (vi w9)) hz9) (lsub_cons rfl (lsub_cons rfl (lsub_cons rfl lsub_nil))))))) ?_
          exact f_10_8_0 (e1 := e1) (a9 := c2 1 2) (f9 := c2 1 4) (p9 := c2 1 5) (r8 := r8) (L8 := L8) (W8 := W8) hI2 (by omega) (by omega) ((hid kn_8)) (rfl) (rfl) (rfl) (fun j => (hF 2 j (fun q => q.elim (fun h => absurd h.1 (nn rfl)) (fun q => q.elim (fun h => absurd h.1 (nn rfl)) (fun h => absurd h.1 (nn rfl))))).trans (hB j)) hdW8 (fun c9 hI9 hF9 x1 z1 z2 z3 => K1 c9 hI9 (fun a j hm => (hF9 a j hm).trans (hF a j (fun q => q.elim (fun h => hm (Or.inl h)) (fun q => q.elim (fun h => hm (Or.inr (Or.inl h))) (fun h => hm (Or.inr (Or.inr h))))))) (by omega) (by omega) (by omega) (by omega) (by omega)) (fun c9 hI9 hF9 x1 z1 z2 z3 => K2 c9 hI9 (fun a j hm => (hF9 a j hm).trans (hF a j (fun q => q.elim (fun h => hm (Or.inl h)) (fun q => q.elim (fun h => hm (Or.inr (Or.inl h))) (fun h => hm (Or.inr (Or.inr h))))))) (by omega) (by omega) (by omega) (by omega) (by omega))
        · skip
          refine q_iload rfl rfl (q_aload_n rfl rfl (v_sln 20 rfl rfl (by omega) (Nat.le_of_ble_eq_true rfl) (by decide) (by decide) (v_ic_gt_f (t := 136) rfl rfl (by decide) (q_aload_n rfl rfl (v_cv rfl rfl rfl rfl (Nat.le_of_ble_eq_true rfl) ⟨⟨rfl, rfl⟩, Nat.le_of_ble_eq_true rfl, rfl⟩ (Nat.le_of_ble_eq_true rfl) (Nat.le_of_ble_eq_true rfl) (q_aload_n rfl rfl (v_gi (z := 4) (v := c2 1 4) rfl rfl rfl (Nat.le_of_ble_eq_true rfl) rfl rfl rfl ?_)))))))
          refine v_if_ne_t (t := 11) rfl rfl ⟨by omega, ⟨(Int.le_trans (by decide) h_6.1), (Int.le_trans h_6.2 (by decide))⟩, by decide, by decide⟩ (q_iconst rfl (v_zret rfl rfl (by decide) (bk_inl (v_if_eq_t (t := 136) rfl rfl (by decide) (q_aload_n rfl rfl (q_iconst rfl (q_iload_n rfl rfl ?_)))))))
          refine v_cv rfl rfl rfl rfl (Nat.le_of_ble_eq_true rfl) ⟨⟨rfl, rfl⟩, Nat.le_of_ble_eq_true rfl, rfl⟩ (Nat.le_of_ble_eq_true rfl) (Nat.le_of_ble_eq_true rfl) (q_aload_n rfl rfl (v_gi (z := 4) (v := c2 1 4) rfl rfl rfl (Nat.le_of_ble_eq_true rfl) rfl rfl rfl (v_if_ne_t (t := 17) rfl rfl ⟨by omega, ⟨(Int.le_trans (by decide) h_6.1), (Int.le_trans h_6.2 (by decide))⟩, by decide, by decide⟩ (q_vret rfl rfl (bk_inl (q_iconst rfl (q_iret rfl rfl ?_)))))))
          exact zv (by omega) (K0 c2 hI2 (fun a j hm => hF a j (fun q => q.elim (fun h => hm (Or.inl h)) (fun q => q.elim (fun h => hm (Or.inr (Or.inl h))) (fun h => hm (Or.inr (Or.inr h)))))) (by omega) (by omega) (by omega) (by omega))
      · refine v_ic_lt_f (t := 43) rfl rfl ⟨by decide, (Int.not_lt.mp h_13), by first | exact q_79e53d295 h_11 | omega⟩ (q_aload_n rfl rfl (v_gr (t := 2) rfl rfl rfl (Nat.le_of_ble_eq_true rfl) rfl (q_iload_n rfl rfl (v_ba (v := (B v3)) rfl rfl (by decide) (by decide) ⟨hv3.1, by omega⟩ (hid kn_12) (v_bip rfl (by decide) ?_)))))
        by_cases h_15 : (B v3) > 122
        · refine v_ic_gt_t (t := 43) rfl rfl ⟨by decide, h_15, by first | exact q_79e53d295 h_11 | omega⟩ (q_iconst rfl (q_istore rfl (Nat.le_of_ble_eq_true rfl) (q_iconst rfl (q_istore rfl (Nat.le_of_ble_eq_true rfl) (q_iconst rfl (q_istore rfl (Nat.le_of_ble_eq_true rfl) ?_))))))
          by_cases h_16 : f9 = 0
          · skip
            have hz8 : ln B e1 v3 = v3 := ln_z (by omega)
            have hz9 : v3 = L8 := hz8.symm.trans hx0
            refine Wp_ls [(0, .ref 1), (1, .ref (a_SB + 8)), (2, vi r8), (3, vi L8), (4, vi 0), (5, vi 0), (6, vi 0)] (lsub_cons rfl (lsub_cons rfl (lsub_cons rfl (lsub_cons (congrArg (fun w9 => some (vi w9)) hz9) (lsub_cons rfl (lsub_cons rfl (lsub_cons rfl lsub_nil))))))) ?_
            exact f_10_8_0 (e1 := e1) (a9 := c2 1 2) (f9 := c2 1 4) (p9 := c2 1 5) (r8 := r8) (L8 := L8) (W8 := W8) hI2 (by omega) (by omega) ((hid kn_8)) (rfl) (rfl) (rfl) (fun j => (hF 2 j (fun q => q.elim (fun h => absurd h.1 (nn rfl)) (fun q => q.elim (fun h => absurd h.1 (nn rfl)) (fun h => absurd h.1 (nn rfl))))).trans (hB j)) hdW8 (fun c9 hI9 hF9 x1 z1 z2 z3 => K1 c9 hI9 (fun a j hm => (hF9 a j hm).trans (hF a j (fun q => q.elim (fun h => hm (Or.inl h)) (fun q => q.elim (fun h => hm (Or.inr (Or.inl h))) (fun h => hm (Or.inr (Or.inr h))))))) (by omega) (by omega) (by omega) (by omega) (by omega)) (fun c9 hI9 hF9 x1 z1 z2 z3 => K2 c9 hI9 (fun a j hm => (hF9 a j hm).trans (hF a j (fun q => q.elim (fun h => hm (Or.inl h)) (fun q => q.elim (fun h => hm (Or.inr (Or.inl h))) (fun h => hm (Or.inr (Or.inr h))))))) (by omega) (by omega) (by omega) (by omega) (by omega))
          · skip
            refine q_iload rfl rfl (q_aload_n rfl rfl (v_sln 20 rfl rfl (by omega) (Nat.le_of_ble_eq_true rfl) (by decide) (by decide) (v_ic_gt_f (t := 136) rfl rfl (by decide) (q_aload_n rfl rfl (v_cv rfl rfl rfl rfl (Nat.le_of_ble_eq_true rfl) ⟨⟨rfl, rfl⟩, Nat.le_of_ble_eq_true rfl, rfl⟩ (Nat.le_of_ble_eq_true rfl) (Nat.le_of_ble_eq_true rfl) (q_aload_n rfl rfl (v_gi (z := 4) (v := c2 1 4) rfl rfl rfl (Nat.le_of_ble_eq_true rfl) rfl rfl rfl ?_)))))))
            refine v_if_ne_t (t := 11) rfl rfl ⟨by omega, ⟨(Int.le_trans (by decide) h_6.1), (Int.le_trans h_6.2 (by decide))⟩, by decide, by decide⟩ (q_iconst rfl (v_zret rfl rfl (by decide) (bk_inl (v_if_eq_t (t := 136) rfl rfl (by decide) (q_aload_n rfl rfl (q_iconst rfl (q_iload_n rfl rfl ?_)))))))
            refine v_cv rfl rfl rfl rfl (Nat.le_of_ble_eq_true rfl) ⟨⟨rfl, rfl⟩, Nat.le_of_ble_eq_true rfl, rfl⟩ (Nat.le_of_ble_eq_true rfl) (Nat.le_of_ble_eq_true rfl) (q_aload_n rfl rfl (v_gi (z := 4) (v := c2 1 4) rfl rfl rfl (Nat.le_of_ble_eq_true rfl) rfl rfl rfl (v_if_ne_t (t := 17) rfl rfl ⟨by omega, ⟨(Int.le_trans (by decide) h_6.1), (Int.le_trans h_6.2 (by decide))⟩, by decide, by decide⟩ (q_vret rfl rfl (bk_inl (q_iconst rfl (q_iret rfl rfl ?_)))))))
            exact zv (by omega) (K0 c2 hI2 (fun a j hm => hF a j (fun q => q.elim (fun h => hm (Or.inl h)) (fun q => q.elim (fun h => hm (Or.inr (Or.inl h))) (fun h => hm (Or.inr (Or.inr h)))))) (by omega) (by omega) (by omega) (by omega))
        · refine v_ic_gt_f (t := 43) rfl rfl ⟨by first | exact q_831bb82af h_13 | omega, (Int.not_lt.mp h_15), by decide⟩ (v_iinc (v := v3 + 1) rfl rfl (Nat.le_of_ble_eq_true rfl) rfl (q_goto (t := 7) rfl rfl (Wp_ls [(0, .ref 1), (1, .ref (a_SB + 8)), (2, vi r8), (3, vi (v3 + 1))] (lsub_cons rfl (lsub_cons rfl (lsub_cons rfl (lsub_cons rfl lsub_nil)))) ?_)))
          exact ih c2 (v3 + 1) hI2 (fun a j hm => hF a j (fun q => q.elim (fun h => hm (Or.inl h)) (fun q => q.elim (fun h => hm (Or.inr (Or.inl h))) (fun h => hm (Or.inr (Or.inr h)))))) ⟨by omega, by omega⟩ ((ln_s (by omega)).symm.trans hx0) (by omega) (by omega) (by omega) (by omega) (by omega)
set_option maxRecDepth 100000 in
set_option maxHeartbeats 4000000 in
theorem f_10_8 {sc : List Int32} {e : Int} {d u P Q : Nat} {c : ME} {e1 a9 f9 p9 r8 L8 W8 : Int} {B : Int → Int} {Z : AR → Prop} (hI : Iv u e P Q c) (hv0 : c 1 1 = e1) (hv1 : c 1 2 = a9) (hv2 : c 1 4 = f9) (hv3 : c 1 5 = p9) (hB : ∀ j : Int, c 2 j = B j) (hdr8 : nx B e1 a9 = r8) (hdL8 : ln B e1 r8 = L8) (hdW8 : wd8_0 B r8 L8 = W8) (K0 : ∀ c2 : ME, Iv u e P Q c2 → (∀ (a : Nat) (j : Int), ¬ ((a = 1 ∧ j = 2) ∨ (a = 1 ∧ j = 4) ∨ (a = 1 ∧ j = 5)) → c2 a j = c a j) → ((f9 ≠ 0)) → (c2 1 2 = r8) → (c2 1 4 = f9) → (c2 1 5 = p9) → Z (.inl (some (vi (-1))), Wd P Q P P c2, 0, 0)) (K1 : ∀ c2 : ME, Iv u e P Q c2 → (∀ (a : Nat) (j : Int), ¬ ((a = 1 ∧ j = 2) ∨ (a = 1 ∧ j = 4) ∨ (a = 1 ∧ j = 5)) → c2 a j = c a j) → ((f9 = 0)) → ((W8 = (-1))) → (c2 1 2 = r8) → (c2 1 4 = 1) → (c2 1 5 = r8) → Z (.inl (some (vi (-1))), Wd P Q P P c2, 0, 0)) (K2 : ∀ c2 : ME, Iv u e P Q c2 → (∀ (a : Nat) (j : Int), ¬ ((a = 1 ∧ j = 2) ∨ (a = 1 ∧ j = 4) ∨ (a = 1 ∧ j = 5)) → c2 a j = c a j) → ((f9 = 0)) → ((W8 ≥ 0 ∧ W8 ≤ 3)) → (c2 1 2 = L8) → (c2 1 4 = 0) → (c2 1 5 = p9) → Z (.inl (some (vi W8)), Wd P Q P P c2, 0, 0)) : Wp sc (d + 13) 10 0 [(0, .ref 1), (1, .ref (a_SB + 8))] [] (Wd P Q P P c) 0 0 Z := by
  have hP := iv_P hI
  have hQ := iv_Q hI
  have h_17 := ir_1_1 hI
  have h_18 := ir_1_2 hI
  have h_19 := ir_1_4 hI
  have h_20 := ir_1_5 hI
  have hn1 := nx_bd (b := B) (e := e1) (a := a9)
  rw [hdr8] at hn1
  have hn2 := ln_bd (b := B) (e := e1) (a := r8)
  rw [hdL8] at hn2
  refine q_aload_n rfl rfl ?_
  have h_21 : -2147483648 ≤ (B a9) ∧ (B a9) ≤ 2147483647 := by rw [← hB a9]; exact ir_2 hI a9
  refine v_cv rfl rfl rfl rfl (Nat.le_of_ble_eq_true rfl) ⟨⟨rfl, rfl⟩, Nat.le_of_ble_eq_true rfl, rfl⟩ (Nat.le_of_ble_eq_true rfl) (Nat.le_of_ble_eq_true rfl) (f_3 (e1 := e1) (a9 := a9) (B := B) (r8 := r8) hI ((hv0)) ((hv1)) (fun j => hB j) hdr8 (fun c_22 hI_23 hF_24 hz_25 => (bk_inl (q_istore_n rfl (Nat.le_of_ble_eq_true rfl) (q_iload_n rfl rfl (q_istore_n rfl (Nat.le_of_ble_eq_true rfl) (Wp_ls [(0, .ref 1), (1, .ref (a_SB + 8)), (2, vi r8), (3, vi r8)] (lsub_cons rfl (lsub_cons rfl (lsub_cons rfl (lsub_cons rfl lsub_nil)))) ?_)))))))
  have h_26 : c_22 1 2 = r8 := (hz_25)
  have kn_27 : Hid (c_22 1 4 = f9) := (hF_24 1 4 (fun h => absurd h.2 (ni rfl))).trans (hv2)
  have h_28 : c_22 1 4 = f9 := (hid kn_27)
  have kn_29 : Hid (c_22 1 5 = p9) := (hF_24 1 5 (fun h => absurd h.2 (ni rfl))).trans (hv3)
  have h_30 : c_22 1 5 = p9 := (hid kn_29)
  exact (f_10_8_l (sc := sc) (d := d) hI hv0 hv1 hv2 hv3 hB hdr8 hdL8 hdW8 K0 K1 K2 601) c_22 r8 hI_23 (fun a j hm => hF_24 a j (fun h => hm (Or.inl h))) ⟨by omega, by omega⟩ hdL8 (by omega) (by omega) (by omega) (by omega) (by omega)

set_option maxRecDepth 100000 in
set_option maxHeartbeats 4000000 in
theorem f_10_10_7 {sc : List Int32} {e : Int} {d u P Q : Nat} {c : ME} {e1 a9 f9 p9 W8 r8 L8 : Int} {B : Int → Int} {Z : AR → Prop} (hI : Iv u e P Q c) (hq0 : (f9 = 0)) (hq1 : (r8 ≥ 0 ∧ r8 ≤ L8 ∧ L8 ≤ 600)) (hv0 : c 1 1 = e1) (hv1 : c 1 2 = a9) (hv2 : c 1 4 = f9) (hv3 : c 1 5 = p9) (hB : ∀ j : Int, c 2 j = B j) (hdW8 : wd10_7 B r8 L8 = W8) (K0 : ∀ c2 : ME, Iv u e P Q c2 → (∀ (a : Nat) (j : Int), ¬ ((a = 1 ∧ j = 2) ∨ (a = 1 ∧ j = 4) ∨ (a = 1 ∧ j = 5)) → c2 a j = c a j) → ((W8 = (-1))) → (c2 1 2 = a9) → (c2 1 4 = 1) → (c2 1 5 = r8) → Z (.inl (some (vi (-1))), Wd P Q P P c2, 0, 0)) (K1 : ∀ c2 : ME, Iv u e P Q c2 → (∀ (a : Nat) (j : Int), ¬ ((a = 1 ∧ j = 2) ∨ (a = 1 ∧ j = 4) ∨ (a = 1 ∧ j = 5)) → c2 a j = c a j) → ((W8 ≥ 0 ∧ W8 ≤ 7)) → (c2 1 2 = L8) → (c2 1 4 = 0) → (c2 1 5 = p9) → Z (.inl (some (vi W8)), Wd P Q P P c2, 0, 0)) : Wp sc (d + 12) 10 52 [(0, .ref 1), (1, .ref (a_SB + 10)), (2, vi r8), (3, vi L8), (4, vi 7), (5, vi 36), (6, vi 36)] [] (Wd P Q P P c) 0 0 Z := by
  have hP := iv_P hI
  have hQ := iv_Q hI
  have h_1 := ir_1_1 hI
  have h_2 := ir_1_2 hI
  have h_3 := ir_1_4 hI
  have h_4 := ir_1_5 hI
  refine q_iload rfl rfl (q_aload_n rfl rfl (v_sln 41 rfl rfl (by omega) (Nat.le_of_ble_eq_true rfl) (by decide) (by decide) (v_ic_gt_f (t := 136) rfl rfl (by decide) (q_aload_n rfl rfl (v_cv rfl rfl rfl rfl (Nat.le_of_ble_eq_true rfl) ⟨⟨rfl, rfl⟩, Nat.le_of_ble_eq_true rfl, rfl⟩ (Nat.le_of_ble_eq_true rfl) (Nat.le_of_ble_eq_true rfl) (q_aload_n rfl rfl (v_gi (z := 4) (v := f9) rfl rfl rfl (Nat.le_of_ble_eq_true rfl) rfl rfl (hv2) ?_)))))))
  refine v_if_ne_f (t := 11) rfl rfl (by omega) (q_iconst rfl (q_goto (t := 12) rfl rfl (v_zret rfl rfl (by decide) (bk_inl (v_if_eq_f (t := 136) rfl rfl (by decide) (q_iload rfl rfl (q_aload_n rfl rfl ?_)))))))
  refine v_sln 41 rfl rfl (by omega) (Nat.le_of_ble_eq_true rfl) (by decide) (by decide) (v_ic_eq_f (t := 88) rfl rfl (by decide) (q_aload_n rfl rfl (q_iload rfl rfl (v_sch 97 rfl rfl (by omega) (Nat.le_of_ble_eq_true rfl) (by decide) (by decide) (by decide) (v_bip rfl (by decide) (v_ic_ne_t (t := 130) rfl rfl (by decide) (v_iinc (v := 37) rfl rfl (Nat.le_of_ble_eq_true rfl) (by decide) ?_)))))))
  refine q_goto (t := 52) rfl rfl (q_iload rfl rfl (q_aload_n rfl rfl (v_sln 41 rfl rfl (by omega) (Nat.le_of_ble_eq_true rfl) (by decide) (by decide) (v_ic_gt_f (t := 136) rfl rfl (by decide) (q_aload_n rfl rfl (v_cv rfl rfl rfl rfl (Nat.le_of_ble_eq_true rfl) ⟨⟨rfl, rfl⟩, Nat.le_of_ble_eq_true rfl, rfl⟩ (Nat.le_of_ble_eq_true rfl) (Nat.le_of_ble_eq_true rfl) (q_aload_n rfl rfl ?_)))))))
  refine v_gi (z := 4) (v := f9) rfl rfl rfl (Nat.le_of_ble_eq_true rfl) rfl rfl (hv2) (v_if_ne_f (t := 11) rfl rfl (by omega) (q_iconst rfl (q_goto (t := 12) rfl rfl (v_zret rfl rfl (by decide) (bk_inl (v_if_eq_f (t := 136) rfl rfl (by decide) (q_iload rfl rfl ?_)))))))
  refine q_aload_n rfl rfl (v_sln 41 rfl rfl (by omega) (Nat.le_of_ble_eq_true rfl) (by decide) (by decide) (v_ic_eq_f (t := 88) rfl rfl (by decide) (q_aload_n rfl rfl (q_iload rfl rfl (v_sch 103 rfl rfl (by omega) (Nat.le_of_ble_eq_true rfl) (by decide) (by decide) (by decide) (v_bip rfl (by decide) (v_ic_ne_t (t := 130) rfl rfl (by decide) ?_)))))))
  refine v_iinc (v := 38) rfl rfl (Nat.le_of_ble_eq_true rfl) (by decide) (q_goto (t := 52) rfl rfl (q_iload rfl rfl (q_aload_n rfl rfl (v_sln 41 rfl rfl (by omega) (Nat.le_of_ble_eq_true rfl) (by decide) (by decide) (v_ic_gt_f (t := 136) rfl rfl (by decide) (q_aload_n rfl rfl (v_cv rfl rfl rfl rfl (Nat.le_of_ble_eq_true rfl) ⟨⟨rfl, rfl⟩, Nat.le_of_ble_eq_true rfl, rfl⟩ (Nat.le_of_ble_eq_true rfl) (Nat.le_of_ble_eq_true rfl) ?_)))))))
  refine q_aload_n rfl rfl (v_gi (z := 4) (v := f9) rfl rfl rfl (Nat.le_of_ble_eq_true rfl) rfl rfl (hv2) (v_if_ne_f (t := 11) rfl rfl (by omega) (q_iconst rfl (q_goto (t := 12) rfl rfl (v_zret rfl rfl (by decide) (bk_inl (v_if_eq_f (t := 136) rfl rfl (by decide) ?_)))))))
  refine q_iload rfl rfl (q_aload_n rfl rfl (v_sln 41 rfl rfl (by omega) (Nat.le_of_ble_eq_true rfl) (by decide) (by decide) (v_ic_eq_f (t := 88) rfl rfl (by decide) (q_aload_n rfl rfl (q_iload rfl rfl (v_sch 97 rfl rfl (by omega) (Nat.le_of_ble_eq_true rfl) (by decide) (by decide) (by decide) (v_bip rfl (by decide) ?_)))))))
  refine v_ic_ne_t (t := 130) rfl rfl (by decide) (v_iinc (v := 39) rfl rfl (Nat.le_of_ble_eq_true rfl) (by decide) (q_goto (t := 52) rfl rfl (q_iload rfl rfl (q_aload_n rfl rfl (v_sln 41 rfl rfl (by omega) (Nat.le_of_ble_eq_true rfl) (by decide) (by decide) (v_ic_gt_f (t := 136) rfl rfl (by decide) (q_aload_n rfl rfl ?_)))))))
  refine v_cv rfl rfl rfl rfl (Nat.le_of_ble_eq_true rfl) ⟨⟨rfl, rfl⟩, Nat.le_of_ble_eq_true rfl, rfl⟩ (Nat.le_of_ble_eq_true rfl) (Nat.le_of_ble_eq_true rfl) (q_aload_n rfl rfl (v_gi (z := 4) (v := f9) rfl rfl rfl (Nat.le_of_ble_eq_true rfl) rfl rfl (hv2) (v_if_ne_f (t := 11) rfl rfl (by omega) (q_iconst rfl (q_goto (t := 12) rfl rfl (v_zret rfl rfl (by decide) (bk_inl ?_)))))))
  refine v_if_eq_f (t := 136) rfl rfl (by decide) (q_iload rfl rfl (q_aload_n rfl rfl (v_sln 41 rfl rfl (by omega) (Nat.le_of_ble_eq_true rfl) (by decide) (by decide) (v_ic_eq_f (t := 88) rfl rfl (by decide) (q_aload_n rfl rfl (q_iload rfl rfl (v_sch 105 rfl rfl (by omega) (Nat.le_of_ble_eq_true rfl) (by decide) (by decide) (by decide) ?_)))))))
  refine v_bip rfl (by decide) (v_ic_ne_t (t := 130) rfl rfl (by decide) (v_iinc (v := 40) rfl rfl (Nat.le_of_ble_eq_true rfl) (by decide) (q_goto (t := 52) rfl rfl (q_iload rfl rfl (q_aload_n rfl rfl (v_sln 41 rfl rfl (by omega) (Nat.le_of_ble_eq_true rfl) (by decide) (by decide) (v_ic_gt_f (t := 136) rfl rfl (by decide) ?_)))))))
  refine q_aload_n rfl rfl (v_cv rfl rfl rfl rfl (Nat.le_of_ble_eq_true rfl) ⟨⟨rfl, rfl⟩, Nat.le_of_ble_eq_true rfl, rfl⟩ (Nat.le_of_ble_eq_true rfl) (Nat.le_of_ble_eq_true rfl) (q_aload_n rfl rfl (v_gi (z := 4) (v := f9) rfl rfl rfl (Nat.le_of_ble_eq_true rfl) rfl rfl (hv2) (v_if_ne_f (t := 11) rfl rfl (by omega) (q_iconst rfl (q_goto (t := 12) rfl rfl (v_zret rfl rfl (by decide) ?_)))))))
  refine bk_inl (v_if_eq_f (t := 136) rfl rfl (by decide) (q_iload rfl rfl (q_aload_n rfl rfl (v_sln 41 rfl rfl (by omega) (Nat.le_of_ble_eq_true rfl) (by decide) (by decide) (v_ic_eq_f (t := 88) rfl rfl (by decide) (q_aload_n rfl rfl (q_iload rfl rfl ?_)))))))
  refine v_sch 110 rfl rfl (by omega) (Nat.le_of_ble_eq_true rfl) (by decide) (by decide) (by decide) (v_bip rfl (by decide) (v_ic_ne_t (t := 130) rfl rfl (by decide) (v_iinc (v := 41) rfl rfl (Nat.le_of_ble_eq_true rfl) (by decide) (Wp_ls [(6, vi 41), (0, .ref 1), (1, .ref (a_SB + 10)), (2, vi r8), (3, vi L8), (4, vi 7), (5, vi 36)] (lsub_cons rfl (lsub_cons rfl (lsub_cons rfl (lsub_cons rfl (lsub_cons rfl (lsub_cons rfl (lsub_cons rfl lsub_nil))))))) (q_goto (t := 52) rfl rfl (q_iload rfl rfl (q_aload_n rfl rfl ?_)))))))
  refine v_sln 41 rfl rfl (by omega) (Nat.le_of_ble_eq_true rfl) (by decide) (by decide) (v_ic_gt_f (t := 136) rfl rfl (by decide) (q_aload_n rfl rfl (v_cv rfl rfl rfl rfl (Nat.le_of_ble_eq_true rfl) ⟨⟨rfl, rfl⟩, Nat.le_of_ble_eq_true rfl, rfl⟩ (Nat.le_of_ble_eq_true rfl) (Nat.le_of_ble_eq_true rfl) (q_aload_n rfl rfl (v_gi (z := 4) (v := f9) rfl rfl rfl (Nat.le_of_ble_eq_true rfl) rfl rfl (hv2) (v_if_ne_f (t := 11) rfl rfl (by omega) (q_iconst rfl ?_)))))))
  refine q_goto (t := 12) rfl rfl (v_zret rfl rfl (by decide) (bk_inl (v_if_eq_f (t := 136) rfl rfl (by decide) (q_iload rfl rfl (q_aload_n rfl rfl (v_sln 41 rfl rfl (by omega) (Nat.le_of_ble_eq_true rfl) (by decide) (by decide) (v_ic_eq_t (t := 88) rfl rfl (by decide) ?_)))))))
  refine q_iload rfl rfl (q_iload rfl rfl (v_isub (v := 5) rfl (by decide) (q_iload_n rfl rfl (q_iload_n rfl rfl (v_isub (v := L8 - r8) rfl rfl ?_)))))
  by_cases h_5 : 5 ≠ L8 - r8
  · refine v_ic_ne_t (t := 121) rfl rfl ⟨h_5, ⟨by decide, by decide⟩, by omega, by omega⟩ (v_iinc (v := 8) rfl rfl (Nat.le_of_ble_eq_true rfl) (by decide) (q_iload rfl rfl (q_iconst rfl (v_iadd (v := 42) rfl (by decide) (q_istore rfl (Nat.le_of_ble_eq_true rfl) (v_iinc (v := 42) rfl rfl (Nat.le_of_ble_eq_true rfl) (by decide) (q_goto (t := 52) rfl rfl ?_)))))))
    refine q_iload rfl rfl (q_aload_n rfl rfl (v_sln 41 rfl rfl (by omega) (Nat.le_of_ble_eq_true rfl) (by decide) (by decide) (v_ic_gt_t (t := 136) rfl rfl (by decide) (q_aload_n rfl rfl (q_iconst rfl (q_iload_n rfl rfl (v_cv rfl rfl rfl rfl (Nat.le_of_ble_eq_true rfl) ⟨⟨rfl, rfl⟩, Nat.le_of_ble_eq_true rfl, rfl⟩ (Nat.le_of_ble_eq_true rfl) (Nat.le_of_ble_eq_true rfl) ?_)))))))
    refine q_aload_n rfl rfl (v_gi (z := 4) (v := f9) rfl rfl rfl (Nat.le_of_ble_eq_true rfl) rfl rfl (hv2) (v_if_ne_f (t := 17) rfl rfl (by first | (clear h_1 h_2 h_3 h_4 h_5; omega) | omega) (q_aload_n rfl rfl (q_iload_n rfl rfl (v_pi (z := 4) rfl rfl rfl (Nat.le_of_ble_eq_true rfl) rfl rfl rfl (by decide) (q_aload_n rfl rfl (q_iload_n rfl rfl ?_)))))))
    refine v_pi (z := 5) rfl rfl rfl (Nat.le_of_ble_eq_true rfl) rfl rfl rfl (by decide) (q_vret rfl rfl (bk_inl (q_iconst rfl (q_iret rfl rfl ?_))))
    have hw9 : W8 = (-1) := hdW8.symm.trans (wd10_7_f (by omega))
    have hI_6 := iw_1_4 (v := 1) hI ⟨by decide, by decide⟩
    have hI_7 := iw_1_5 (v := r8) hI_6 ⟨by first | (clear h_1 h_2 h_3 h_4 hw9 h_5; omega) | omega, by first | (clear h_1 h_2 h_3 h_4 hw9 h_5; omega) | omega⟩
    have h_8 : (up (up c 1 4 1) 1 5 r8) 1 2 = a9 := ((up_n (by decide)).trans ((up_n (by decide)).trans (hv1)))
    have h_9 : (up (up c 1 4 1) 1 5 r8) 1 4 = 1 := ((up_n (by decide)).trans (up_e rfl))
    have h_10 : (up (up c 1 4 1) 1 5 r8) 1 5 = r8 := (up_e rfl)
    exact zv (by omega) (K0 (up (up c 1 4 1) 1 5 r8) hI_7 (fun a j hm => (up_b (Decidable.or_iff_not_imp_left.mpr (fun h1 h2 => hm (Or.inr (Or.inr ⟨Decidable.not_not.mp h1, h2⟩))))).trans (up_b (Decidable.or_iff_not_imp_left.mpr (fun h1 h2 => hm (Or.inr (Or.inl ⟨Decidable.not_not.mp h1, h2⟩)))))) (by omega) (by omega) (by omega) (by omega))
  · refine v_ic_ne_f (t := 121) rfl rfl (Decidable.not_not.mp h_5) (q_aload_n rfl rfl (q_aload_n rfl rfl (q_iload rfl rfl (q_iload_n rfl rfl (q_iload_n rfl rfl (q_iload_n rfl rfl (v_isub (v := L8 - r8) rfl rfl ?_)))))))
    refine v_cv rfl rfl rfl rfl (Nat.le_of_ble_eq_true rfl) ⟨⟨rfl, rfl⟩, Nat.le_of_ble_eq_true rfl, rfl⟩ (Nat.le_of_ble_eq_true rfl) (Nat.le_of_ble_eq_true rfl) (q_iconst rfl (q_istore rfl (Nat.le_of_ble_eq_true rfl) (q_iload rfl rfl (q_iload rfl rfl (v_ic_ge_f (t := 38) rfl rfl ⟨by decide, by first | exact q_38a4b4bff h_5 | omega, by first | exact q_fe3598997 h_5 | omega⟩ (q_aload_n rfl rfl (q_iload_n rfl rfl ?_)))))))
    refine q_iload rfl rfl (v_iadd (v := 36) rfl (by decide) (v_sch 97 rfl rfl (by omega) (Nat.le_of_ble_eq_true rfl) (by decide) (by decide) (by decide) (q_aload_n rfl rfl (v_gr (t := 2) rfl rfl rfl (Nat.le_of_ble_eq_true rfl) rfl (q_iload_n rfl rfl (q_iload rfl rfl (v_iadd (v := r8) rfl (by omega) ?_)))))))
    have h_11 : -2147483648 ≤ (B r8) ∧ (B r8) ≤ 2147483647 := by rw [← hB r8]; exact ir_2 hI r8
    refine v_ba (v := (B r8)) rfl rfl (by decide) (by decide) (by omega) (hB r8) ?_
    by_cases h_12 : 97 = (B r8)
    · refine v_ic_eq_t (t := 32) rfl rfl h_12 (v_iinc (v := 1) rfl rfl (Nat.le_of_ble_eq_true rfl) (by decide) (q_goto (t := 3) rfl rfl (q_iload rfl rfl (q_iload rfl rfl (v_ic_ge_f (t := 38) rfl rfl ⟨by decide, by first | exact q_2f422e7b9 h_5 | omega, by first | exact q_fe3598997 h_5 | omega⟩ (q_aload_n rfl rfl (q_iload_n rfl rfl ?_)))))))
      refine q_iload rfl rfl (v_iadd (v := 37) rfl (by decide) (v_sch 103 rfl rfl (by omega) (Nat.le_of_ble_eq_true rfl) (by decide) (by decide) (by decide) (q_aload_n rfl rfl (v_gr (t := 2) rfl rfl rfl (Nat.le_of_ble_eq_true rfl) rfl (q_iload_n rfl rfl (q_iload rfl rfl (v_iadd (v := r8 + 1) rfl rfl ?_)))))))
      have h_13 : -2147483648 ≤ (B (r8 + 1)) ∧ (B (r8 + 1)) ≤ 2147483647 := by rw [← hB (r8 + 1)]; exact ir_2 hI (r8 + 1)
      refine v_ba (v := (B (r8 + 1))) rfl rfl (by decide) (by decide) (by omega) (hB (r8 + 1)) ?_
      by_cases h_14 : 103 = (B (r8 + 1))
      · refine v_ic_eq_t (t := 32) rfl rfl h_14 (v_iinc (v := 2) rfl rfl (Nat.le_of_ble_eq_true rfl) (by decide) (q_goto (t := 3) rfl rfl (q_iload rfl rfl (q_iload rfl rfl (v_ic_ge_f (t := 38) rfl rfl ⟨by decide, by first | exact q_415b3b712 h_5 | omega, by first | exact q_fe3598997 h_5 | omega⟩ (q_aload_n rfl rfl (q_iload_n rfl rfl ?_)))))))
        refine q_iload rfl rfl (v_iadd (v := 38) rfl (by decide) (v_sch 97 rfl rfl (by omega) (Nat.le_of_ble_eq_true rfl) (by decide) (by decide) (by decide) (q_aload_n rfl rfl (v_gr (t := 2) rfl rfl rfl (Nat.le_of_ble_eq_true rfl) rfl (q_iload_n rfl rfl (q_iload rfl rfl (v_iadd (v := r8 + 2) rfl rfl ?_)))))))
        have h_15 : -2147483648 ≤ (B (r8 + 2)) ∧ (B (r8 + 2)) ≤ 2147483647 := by rw [← hB (r8 + 2)]; exact ir_2 hI (r8 + 2)
        refine v_ba (v := (B (r8 + 2))) rfl rfl (by decide) (by decide) (by omega) (hB (r8 + 2)) ?_
        by_cases h_16 : 97 = (B (r8 + 2))
        · refine v_ic_eq_t (t := 32) rfl rfl h_16 (v_iinc (v := 3) rfl rfl (Nat.le_of_ble_eq_true rfl) (by decide) (q_goto (t := 3) rfl rfl (q_iload rfl rfl (q_iload rfl rfl (v_ic_ge_f (t := 38) rfl rfl ⟨by decide, by first | exact q_170273d75 h_5 | omega, by first | exact q_fe3598997 h_5 | omega⟩ (q_aload_n rfl rfl (q_iload_n rfl rfl ?_)))))))
          refine q_iload rfl rfl (v_iadd (v := 39) rfl (by decide) (v_sch 105 rfl rfl (by omega) (Nat.le_of_ble_eq_true rfl) (by decide) (by decide) (by decide) (q_aload_n rfl rfl (v_gr (t := 2) rfl rfl rfl (Nat.le_of_ble_eq_true rfl) rfl (q_iload_n rfl rfl (q_iload rfl rfl (v_iadd (v := r8 + 3) rfl rfl ?_)))))))
          have h_17 : -2147483648 ≤ (B (r8 + 3)) ∧ (B (r8 + 3)) ≤ 2147483647 := by rw [← hB (r8 + 3)]; exact ir_2 hI (r8 + 3)
          refine v_ba (v := (B (r8 + 3))) rfl rfl (by decide) (by decide) (by omega) (hB (r8 + 3)) ?_
          by_cases h_18 : 105 = (B (r8 + 3))
          · refine v_ic_eq_t (t := 32) rfl rfl h_18 (v_iinc (v := 4) rfl rfl (Nat.le_of_ble_eq_true rfl) (by decide) (Wp_ls [(5, vi 4), (0, .ref 1), (1, .ref (a_SB + 10)), (2, vi 36), (3, vi r8), (4, vi (L8 - r8))] (lsub_cons rfl (lsub_cons rfl (lsub_cons rfl (lsub_cons rfl (lsub_cons rfl (lsub_cons rfl lsub_nil)))))) (q_goto (t := 3) rfl rfl (q_iload rfl rfl (q_iload rfl rfl (v_ic_ge_f (t := 38) rfl rfl ⟨by decide, by first | exact q_9d61d9b81 h_5 | omega, by first | exact q_fe3598997 h_5 | omega⟩ (q_aload_n rfl rfl ?_)))))))
            refine q_iload_n rfl rfl (q_iload rfl rfl (v_iadd (v := 40) rfl (by decide) (v_sch 110 rfl rfl (by omega) (Nat.le_of_ble_eq_true rfl) (by decide) (by decide) (by decide) (q_aload_n rfl rfl (v_gr (t := 2) rfl rfl rfl (Nat.le_of_ble_eq_true rfl) rfl (q_iload_n rfl rfl (q_iload rfl rfl ?_)))))))
            refine v_iadd (v := r8 + 4) rfl rfl ?_
            have h_19 : -2147483648 ≤ (B (r8 + 4)) ∧ (B (r8 + 4)) ≤ 2147483647 := by rw [← hB (r8 + 4)]; exact ir_2 hI (r8 + 4)
            refine v_ba (v := (B (r8 + 4))) rfl rfl (by decide) (by decide) ⟨by first | (clear h_1 h_2 h_3 h_4 h_5 h_11 h_12 h_13 h_14 h_15 h_16 h_17 h_18 h_19; omega) | omega, by first | (clear h_1 h_2 h_3 h_4 h_11 h_12 h_13 h_14 h_15 h_16 h_17 h_18 h_19; omega) | omega⟩ (hB (r8 + 4)) ?_
            by_cases h_20 : 110 = (B (r8 + 4))
            · refine v_ic_eq_t (t := 32) rfl rfl h_20 (v_iinc (v := 5) rfl rfl (Nat.le_of_ble_eq_true rfl) (by decide) (q_goto (t := 3) rfl rfl (q_iload rfl rfl (q_iload rfl rfl (v_ic_ge_t (t := 38) rfl rfl ⟨by first | exact q_c439bfa43 h_5 | (clear h_1 h_2 h_3 h_4 h_11 h_12 h_13 h_14 h_15 h_16 h_17 h_18 h_19 h_20; omega) | omega, by first | exact q_fc9a05b17 h_5 | (clear h_1 h_2 h_3 h_4 h_11 h_12 h_13 h_14 h_15 h_16 h_17 h_18 h_19 h_20; omega) | omega, by decide⟩ (q_iconst rfl (v_zret rfl rfl (by decide) ?_)))))))
              refine bk_inl (v_if_eq_f (t := 121) rfl rfl (by decide) (q_aload_n rfl rfl (q_iload_n rfl rfl (v_pi (z := 2) rfl rfl rfl (Nat.le_of_ble_eq_true rfl) rfl rfl rfl (by decide) (q_iload rfl rfl (q_iret rfl rfl ?_))))))
              have hw9 : W8 = 7 := hdW8.symm.trans (wd10_7_t (by omega))
              have hI_21 := iw_1_2 (v := L8) hI ⟨by first | (clear h_1 h_2 h_3 h_4 h_11 h_12 h_13 h_14 h_15 h_16 h_17 h_18 h_19 h_20 hw9; omega) | omega, by first | (clear h_1 h_2 h_3 h_4 h_5 h_11 h_12 h_13 h_14 h_15 h_16 h_17 h_18 h_19 h_20 hw9; omega) | omega⟩
              have h_22 : (up c 1 2 L8) 1 2 = L8 := (up_e rfl)
              have h_23 : (up c 1 2 L8) 1 4 = f9 := ((up_n (by decide)).trans (hv2))
              have h_24 : (up c 1 2 L8) 1 5 = p9 := ((up_n (by decide)).trans (hv3))
              exact zv (by omega) (K1 (up c 1 2 L8) hI_21 (fun a j hm => up_b (Decidable.or_iff_not_imp_left.mpr (fun h1 h2 => hm (Or.inl ⟨Decidable.not_not.mp h1, h2⟩)))) (by omega) (by omega) (by omega) (by omega))
            · refine v_ic_eq_f (t := 32) rfl rfl ⟨h_20, ⟨by decide, by decide⟩, by first | exact q_f97c35332 h_19 | (clear h_1 h_2 h_3 h_4 h_5 h_11 h_12 h_13 h_14 h_15 h_16 h_17 h_18; omega) | omega, by first | exact q_79e53d295 h_19 | (clear h_1 h_2 h_3 h_4 h_5 h_11 h_12 h_13 h_14 h_15 h_16 h_17 h_18; omega) | omega⟩ (q_iconst rfl (v_zret rfl rfl (by decide) (bk_inl (v_if_eq_t (t := 121) rfl rfl (by decide) (v_iinc (v := 8) rfl rfl (Nat.le_of_ble_eq_true rfl) (by decide) (q_iload rfl rfl (q_iconst rfl ?_)))))))
              refine v_iadd (v := 42) rfl (by decide) (q_istore rfl (Nat.le_of_ble_eq_true rfl) (v_iinc (v := 42) rfl rfl (Nat.le_of_ble_eq_true rfl) (by decide) (q_goto (t := 52) rfl rfl (q_iload rfl rfl (q_aload_n rfl rfl (v_sln 41 rfl rfl (by omega) (Nat.le_of_ble_eq_true rfl) (by decide) (by decide) (v_ic_gt_t (t := 136) rfl rfl (by decide) ?_)))))))
              refine q_aload_n rfl rfl (q_iconst rfl (q_iload_n rfl rfl (v_cv rfl rfl rfl rfl (Nat.le_of_ble_eq_true rfl) ⟨⟨rfl, rfl⟩, Nat.le_of_ble_eq_true rfl, rfl⟩ (Nat.le_of_ble_eq_true rfl) (Nat.le_of_ble_eq_true rfl) (q_aload_n rfl rfl (v_gi (z := 4) (v := f9) rfl rfl rfl (Nat.le_of_ble_eq_true rfl) rfl rfl (hv2) (v_if_ne_f (t := 17) rfl rfl (by first | (clear h_1 h_2 h_3 h_4 h_5 h_11 h_12 h_13 h_14 h_15 h_16 h_17 h_18 h_19 h_20; omega) | omega) (q_aload_n rfl rfl ?_)))))))
              refine q_iload_n rfl rfl (v_pi (z := 4) rfl rfl rfl (Nat.le_of_ble_eq_true rfl) rfl rfl rfl (by decide) (q_aload_n rfl rfl (q_iload_n rfl rfl (v_pi (z := 5) rfl rfl rfl (Nat.le_of_ble_eq_true rfl) rfl rfl rfl (by decide) (q_vret rfl rfl (bk_inl (q_iconst rfl ?_)))))))
              refine q_iret rfl rfl ?_
              have hw9 : W8 = (-1) := hdW8.symm.trans (wd10_7_f (by omega))
              have hI_25 := iw_1_4 (v := 1) hI ⟨by decide, by decide⟩
              have hI_26 := iw_1_5 (v := r8) hI_25 ⟨by first | (clear h_1 h_2 h_3 h_4 h_5 h_11 h_12 h_13 h_14 h_15 h_16 h_17 h_18 h_19 hw9 h_20; omega) | omega, by first | (clear h_1 h_2 h_3 h_4 h_11 h_12 h_13 h_14 h_15 h_16 h_17 h_18 h_19 hw9 h_20; omega) | omega⟩
              have h_27 : (up (up c 1 4 1) 1 5 r8) 1 2 = a9 := ((up_n (by decide)).trans ((up_n (by decide)).trans (hv1)))
              have h_28 : (up (up c 1 4 1) 1 5 r8) 1 4 = 1 := ((up_n (by decide)).trans (up_e rfl))
              have h_29 : (up (up c 1 4 1) 1 5 r8) 1 5 = r8 := (up_e rfl)
              exact zv (by omega) (K0 (up (up c 1 4 1) 1 5 r8) hI_26 (fun a j hm => (up_b (Decidable.or_iff_not_imp_left.mpr (fun h1 h2 => hm (Or.inr (Or.inr ⟨Decidable.not_not.mp h1, h2⟩))))).trans (up_b (Decidable.or_iff_not_imp_left.mpr (fun h1 h2 => hm (Or.inr (Or.inl ⟨Decidable.not_not.mp h1, h2⟩)))))) (by omega) (by omega) (by omega) (by omega))
          · refine v_ic_eq_f (t := 32) rfl rfl ⟨h_18, ⟨by decide, by decide⟩, by first | exact q_f97c35332 h_17 | omega, by first | exact q_79e53d295 h_17 | omega⟩ (q_iconst rfl (v_zret rfl rfl (by decide) (bk_inl (v_if_eq_t (t := 121) rfl rfl (by decide) (v_iinc (v := 8) rfl rfl (Nat.le_of_ble_eq_true rfl) (by decide) (q_iload rfl rfl (q_iconst rfl ?_)))))))
            refine v_iadd (v := 42) rfl (by decide) (q_istore rfl (Nat.le_of_ble_eq_true rfl) (v_iinc (v := 42) rfl rfl (Nat.le_of_ble_eq_true rfl) (by decide) (q_goto (t := 52) rfl rfl (q_iload rfl rfl (q_aload_n rfl rfl (v_sln 41 rfl rfl (by omega) (Nat.le_of_ble_eq_true rfl) (by decide) (by decide) (v_ic_gt_t (t := 136) rfl rfl (by decide) ?_)))))))
            refine q_aload_n rfl rfl (q_iconst rfl (q_iload_n rfl rfl (v_cv rfl rfl rfl rfl (Nat.le_of_ble_eq_true rfl) ⟨⟨rfl, rfl⟩, Nat.le_of_ble_eq_true rfl, rfl⟩ (Nat.le_of_ble_eq_true rfl) (Nat.le_of_ble_eq_true rfl) (q_aload_n rfl rfl (v_gi (z := 4) (v := f9) rfl rfl rfl (Nat.le_of_ble_eq_true rfl) rfl rfl (hv2) (v_if_ne_f (t := 17) rfl rfl (by first | (clear h_1 h_2 h_3 h_4 h_5 h_11 h_12 h_13 h_14 h_15 h_16 h_17 h_18; omega) | omega) (q_aload_n rfl rfl ?_)))))))
            refine q_iload_n rfl rfl (v_pi (z := 4) rfl rfl rfl (Nat.le_of_ble_eq_true rfl) rfl rfl rfl (by decide) (q_aload_n rfl rfl (q_iload_n rfl rfl (v_pi (z := 5) rfl rfl rfl (Nat.le_of_ble_eq_true rfl) rfl rfl rfl (by decide) (q_vret rfl rfl (bk_inl (q_iconst rfl ?_)))))))
            refine q_iret rfl rfl ?_
            have hw9 : W8 = (-1) := hdW8.symm.trans (wd10_7_f (by omega))
            have hI_30 := iw_1_4 (v := 1) hI ⟨by decide, by decide⟩
            have hI_31 := iw_1_5 (v := r8) hI_30 ⟨by first | (clear h_1 h_2 h_3 h_4 h_5 h_11 h_12 h_13 h_14 h_15 h_16 h_17 hw9 h_18; omega) | omega, by first | (clear h_1 h_2 h_3 h_4 h_11 h_12 h_13 h_14 h_15 h_16 h_17 hw9 h_18; omega) | omega⟩
            have h_32 : (up (up c 1 4 1) 1 5 r8) 1 2 = a9 := ((up_n (by decide)).trans ((up_n (by decide)).trans (hv1)))
            have h_33 : (up (up c 1 4 1) 1 5 r8) 1 4 = 1 := ((up_n (by decide)).trans (up_e rfl))
            have h_34 : (up (up c 1 4 1) 1 5 r8) 1 5 = r8 := (up_e rfl)
            exact zv (by omega) (K0 (up (up c 1 4 1) 1 5 r8) hI_31 (fun a j hm => (up_b (Decidable.or_iff_not_imp_left.mpr (fun h1 h2 => hm (Or.inr (Or.inr ⟨Decidable.not_not.mp h1, h2⟩))))).trans (up_b (Decidable.or_iff_not_imp_left.mpr (fun h1 h2 => hm (Or.inr (Or.inl ⟨Decidable.not_not.mp h1, h2⟩)))))) (by omega) (by omega) (by omega) (by omega))
        · refine v_ic_eq_f (t := 32) rfl rfl ⟨h_16, ⟨by decide, by decide⟩, by first | exact q_f97c35332 h_15 | omega, by first | exact q_79e53d295 h_15 | omega⟩ (q_iconst rfl (v_zret rfl rfl (by decide) (bk_inl (v_if_eq_t (t := 121) rfl rfl (by decide) (v_iinc (v := 8) rfl rfl (Nat.le_of_ble_eq_true rfl) (by decide) (q_iload rfl rfl (q_iconst rfl ?_)))))))
          refine v_iadd (v := 42) rfl (by decide) (q_istore rfl (Nat.le_of_ble_eq_true rfl) (v_iinc (v := 42) rfl rfl (Nat.le_of_ble_eq_true rfl) (by decide) (q_goto (t := 52) rfl rfl (q_iload rfl rfl (q_aload_n rfl rfl (v_sln 41 rfl rfl (by omega) (Nat.le_of_ble_eq_true rfl) (by decide) (by decide) (v_ic_gt_t (t := 136) rfl rfl (by decide) ?_)))))))
          refine q_aload_n rfl rfl (q_iconst rfl (q_iload_n rfl rfl (v_cv rfl rfl rfl rfl (Nat.le_of_ble_eq_true rfl) ⟨⟨rfl, rfl⟩, Nat.le_of_ble_eq_true rfl, rfl⟩ (Nat.le_of_ble_eq_true rfl) (Nat.le_of_ble_eq_true rfl) (q_aload_n rfl rfl (v_gi (z := 4) (v := f9) rfl rfl rfl (Nat.le_of_ble_eq_true rfl) rfl rfl (hv2) (v_if_ne_f (t := 17) rfl rfl (by first | (clear h_1 h_2 h_3 h_4 h_5 h_11 h_12 h_13 h_14 h_15 h_16; omega) | omega) (q_aload_n rfl rfl ?_)))))))
          refine q_iload_n rfl rfl (v_pi (z := 4) rfl rfl rfl (Nat.le_of_ble_eq_true rfl) rfl rfl rfl (by decide) (q_aload_n rfl rfl (q_iload_n rfl rfl (v_pi (z := 5) rfl rfl rfl (Nat.le_of_ble_eq_true rfl) rfl rfl rfl (by decide) (q_vret rfl rfl (bk_inl (q_iconst rfl ?_)))))))
          refine q_iret rfl rfl ?_
          have hw9 : W8 = (-1) := hdW8.symm.trans (wd10_7_f (by omega))
          have hI_35 := iw_1_4 (v := 1) hI ⟨by decide, by decide⟩
          have hI_36 := iw_1_5 (v := r8) hI_35 ⟨by first | (clear h_1 h_2 h_3 h_4 h_5 h_11 h_12 h_13 h_14 h_15 hw9 h_16; omega) | omega, by first | (clear h_1 h_2 h_3 h_4 h_11 h_12 h_13 h_14 h_15 hw9 h_16; omega) | omega⟩
          have h_37 : (up (up c 1 4 1) 1 5 r8) 1 2 = a9 := ((up_n (by decide)).trans ((up_n (by decide)).trans (hv1)))
          have h_38 : (up (up c 1 4 1) 1 5 r8) 1 4 = 1 := ((up_n (by decide)).trans (up_e rfl))
          have h_39 : (up (up c 1 4 1) 1 5 r8) 1 5 = r8 := (up_e rfl)
          exact zv (by omega) (K0 (up (up c 1 4 1) 1 5 r8) hI_36 (fun a j hm => (up_b (Decidable.or_iff_not_imp_left.mpr (fun h1 h2 => hm (Or.inr (Or.inr ⟨Decidable.not_not.mp h1, h2⟩))))).trans (up_b (Decidable.or_iff_not_imp_left.mpr (fun h1 h2 => hm (Or.inr (Or.inl ⟨Decidable.not_not.mp h1, h2⟩)))))) (by omega) (by omega) (by omega) (by omega))
      · refine v_ic_eq_f (t := 32) rfl rfl ⟨h_14, ⟨by decide, by decide⟩, by first | exact q_f97c35332 h_13 | omega, by first | exact q_79e53d295 h_13 | omega⟩ (q_iconst rfl (v_zret rfl rfl (by decide) (bk_inl (v_if_eq_t (t := 121) rfl rfl (by decide) (v_iinc (v := 8) rfl rfl (Nat.le_of_ble_eq_true rfl) (by decide) (q_iload rfl rfl (q_iconst rfl ?_)))))))
        refine v_iadd (v := 42) rfl (by decide) (q_istore rfl (Nat.le_of_ble_eq_true rfl) (v_iinc (v := 42) rfl rfl (Nat.le_of_ble_eq_true rfl) (by decide) (q_goto (t := 52) rfl rfl (q_iload rfl rfl (q_aload_n rfl rfl (v_sln 41 rfl rfl (by omega) (Nat.le_of_ble_eq_true rfl) (by decide) (by decide) (v_ic_gt_t (t := 136) rfl rfl (by decide) ?_)))))))
        refine q_aload_n rfl rfl (q_iconst rfl (q_iload_n rfl rfl (v_cv rfl rfl rfl rfl (Nat.le_of_ble_eq_true rfl) ⟨⟨rfl, rfl⟩, Nat.le_of_ble_eq_true rfl, rfl⟩ (Nat.le_of_ble_eq_true rfl) (Nat.le_of_ble_eq_true rfl) (q_aload_n rfl rfl (v_gi (z := 4) (v := f9) rfl rfl rfl (Nat.le_of_ble_eq_true rfl) rfl rfl (hv2) (v_if_ne_f (t := 17) rfl rfl (by first | (clear h_1 h_2 h_3 h_4 h_5 h_11 h_12 h_13 h_14; omega) | omega) (q_aload_n rfl rfl ?_)))))))
        refine q_iload_n rfl rfl (v_pi (z := 4) rfl rfl rfl (Nat.le_of_ble_eq_true rfl) rfl rfl rfl (by decide) (q_aload_n rfl rfl (q_iload_n rfl rfl (v_pi (z := 5) rfl rfl rfl (Nat.le_of_ble_eq_true rfl) rfl rfl rfl (by decide) (q_vret rfl rfl (bk_inl (q_iconst rfl ?_)))))))
        refine q_iret rfl rfl ?_
        have hw9 : W8 = (-1) := hdW8.symm.trans (wd10_7_f (by omega))
        have hI_40 := iw_1_4 (v := 1) hI ⟨by decide, by decide⟩
        have hI_41 := iw_1_5 (v := r8) hI_40 ⟨by first | (clear h_1 h_2 h_3 h_4 h_5 h_11 h_12 h_13 hw9 h_14; omega) | omega, by first | (clear h_1 h_2 h_3 h_4 h_11 h_12 h_13 hw9 h_14; omega) | omega⟩
        have h_42 : (up (up c 1 4 1) 1 5 r8) 1 2 = a9 := ((up_n (by decide)).trans ((up_n (by decide)).trans (hv1)))
        have h_43 : (up (up c 1 4 1) 1 5 r8) 1 4 = 1 := ((up_n (by decide)).trans (up_e rfl))
        have h_44 : (up (up c 1 4 1) 1 5 r8) 1 5 = r8 := (up_e rfl)
        exact zv (by omega) (K0 (up (up c 1 4 1) 1 5 r8) hI_41 (fun a j hm => (up_b (Decidable.or_iff_not_imp_left.mpr (fun h1 h2 => hm (Or.inr (Or.inr ⟨Decidable.not_not.mp h1, h2⟩))))).trans (up_b (Decidable.or_iff_not_imp_left.mpr (fun h1 h2 => hm (Or.inr (Or.inl ⟨Decidable.not_not.mp h1, h2⟩)))))) (by omega) (by omega) (by omega) (by omega))
    · refine v_ic_eq_f (t := 32) rfl rfl ⟨h_12, ⟨by decide, by decide⟩, by first | exact q_f97c35332 h_11 | omega, by first | exact q_79e53d295 h_11 | omega⟩ (q_iconst rfl (v_zret rfl rfl (by decide) (bk_inl (v_if_eq_t (t := 121) rfl rfl (by decide) (v_iinc (v := 8) rfl rfl (Nat.le_of_ble_eq_true rfl) (by decide) (q_iload rfl rfl (q_iconst rfl ?_)))))))
      refine v_iadd (v := 42) rfl (by decide) (q_istore rfl (Nat.le_of_ble_eq_true rfl) (v_iinc (v := 42) rfl rfl (Nat.le_of_ble_eq_true rfl) (by decide) (q_goto (t := 52) rfl rfl (q_iload rfl rfl (q_aload_n rfl rfl (v_sln 41 rfl rfl (by omega) (Nat.le_of_ble_eq_true rfl) (by decide) (by decide) (v_ic_gt_t (t := 136) rfl rfl (by decide) ?_)))))))
      refine q_aload_n rfl rfl (q_iconst rfl (q_iload_n rfl rfl (v_cv rfl rfl rfl rfl (Nat.le_of_ble_eq_true rfl) ⟨⟨rfl, rfl⟩, Nat.le_of_ble_eq_true rfl, rfl⟩ (Nat.le_of_ble_eq_true rfl) (Nat.le_of_ble_eq_true rfl) (q_aload_n rfl rfl (v_gi (z := 4) (v := f9) rfl rfl rfl (Nat.le_of_ble_eq_true rfl) rfl rfl (hv2) (v_if_ne_f (t := 17) rfl rfl (by first | (clear h_1 h_2 h_3 h_4 h_5 h_11 h_12; omega) | omega) (q_aload_n rfl rfl ?_)))))))
      refine q_iload_n rfl rfl (v_pi (z := 4) rfl rfl rfl (Nat.le_of_ble_eq_true rfl) rfl rfl rfl (by decide) (q_aload_n rfl rfl (q_iload_n rfl rfl (v_pi (z := 5) rfl rfl rfl (Nat.le_of_ble_eq_true rfl) rfl rfl rfl (by decide) (q_vret rfl rfl (bk_inl (q_iconst rfl ?_)))))))
      refine q_iret rfl rfl ?_
      have hw9 : W8 = (-1) := hdW8.symm.trans (wd10_7_f (by omega))
      have hI_45 := iw_1_4 (v := 1) hI ⟨by decide, by decide⟩
      have hI_46 := iw_1_5 (v := r8) hI_45 ⟨by first | (clear h_1 h_2 h_3 h_4 h_5 h_11 hw9 h_12; omega) | omega, by first | (clear h_1 h_2 h_3 h_4 h_11 hw9 h_12; omega) | omega⟩
      have h_47 : (up (up c 1 4 1) 1 5 r8) 1 2 = a9 := ((up_n (by decide)).trans ((up_n (by decide)).trans (hv1)))
      have h_48 : (up (up c 1 4 1) 1 5 r8) 1 4 = 1 := ((up_n (by decide)).trans (up_e rfl))
      have h_49 : (up (up c 1 4 1) 1 5 r8) 1 5 = r8 := (up_e rfl)
      exact zv (by omega) (K0 (up (up c 1 4 1) 1 5 r8) hI_46 (fun a j hm => (up_b (Decidable.or_iff_not_imp_left.mpr (fun h1 h2 => hm (Or.inr (Or.inr ⟨Decidable.not_not.mp h1, h2⟩))))).trans (up_b (Decidable.or_iff_not_imp_left.mpr (fun h1 h2 => hm (Or.inr (Or.inl ⟨Decidable.not_not.mp h1, h2⟩)))))) (by omega) (by omega) (by omega) (by omega))

set_option maxRecDepth 100000 in
set_option maxHeartbeats 4000000 in
theorem f_10_10_6 {sc : List Int32} {e : Int} {d u P Q : Nat} {c : ME} {e1 a9 f9 p9 W8 r8 L8 : Int} {B : Int → Int} {Z : AR → Prop} (hI : Iv u e P Q c) (hq0 : (f9 = 0)) (hq1 : (r8 ≥ 0 ∧ r8 ≤ L8 ∧ L8 ≤ 600)) (hv0 : c 1 1 = e1) (hv1 : c 1 2 = a9) (hv2 : c 1 4 = f9) (hv3 : c 1 5 = p9) (hB : ∀ j : Int, c 2 j = B j) (hdW8 : wd10_6 B r8 L8 = W8) (K0 : ∀ c2 : ME, Iv u e P Q c2 → (∀ (a : Nat) (j : Int), ¬ ((a = 1 ∧ j = 2) ∨ (a = 1 ∧ j = 4) ∨ (a = 1 ∧ j = 5)) → c2 a j = c a j) → ((W8 = (-1))) → (c2 1 2 = a9) → (c2 1 4 = 1) → (c2 1 5 = r8) → Z (.inl (some (vi (-1))), Wd P Q P P c2, 0, 0)) (K1 : ∀ c2 : ME, Iv u e P Q c2 → (∀ (a : Nat) (j : Int), ¬ ((a = 1 ∧ j = 2) ∨ (a = 1 ∧ j = 4) ∨ (a = 1 ∧ j = 5)) → c2 a j = c a j) → ((W8 ≥ 0 ∧ W8 ≤ 7)) → (c2 1 2 = L8) → (c2 1 4 = 0) → (c2 1 5 = p9) → Z (.inl (some (vi W8)), Wd P Q P P c2, 0, 0)) : Wp sc (d + 12) 10 52 [(0, .ref 1), (1, .ref (a_SB + 10)), (2, vi r8), (3, vi L8), (4, vi 6), (5, vi 32), (6, vi 32)] [] (Wd P Q P P c) 0 0 Z := by
  have hP := iv_P hI
  have hQ := iv_Q hI
  have h_1 := ir_1_1 hI
  have h_2 := ir_1_2 hI
  have h_3 := ir_1_4 hI
  have h_4 := ir_1_5 hI
  refine q_iload rfl rfl (q_aload_n rfl rfl (v_sln 41 rfl rfl (by omega) (Nat.le_of_ble_eq_true rfl) (by decide) (by decide) (v_ic_gt_f (t := 136) rfl rfl (by decide) (q_aload_n rfl rfl (v_cv rfl rfl rfl rfl (Nat.le_of_ble_eq_true rfl) ⟨⟨rfl, rfl⟩, Nat.le_of_ble_eq_true rfl, rfl⟩ (Nat.le_of_ble_eq_true rfl) (Nat.le_of_ble_eq_true rfl) (q_aload_n rfl rfl (v_gi (z := 4) (v := f9) rfl rfl rfl (Nat.le_of_ble_eq_true rfl) rfl rfl (hv2) ?_)))))))
  refine v_if_ne_f (t := 11) rfl rfl (by omega) (q_iconst rfl (q_goto (t := 12) rfl rfl (v_zret rfl rfl (by decide) (bk_inl (v_if_eq_f (t := 136) rfl rfl (by decide) (q_iload rfl rfl (q_aload_n rfl rfl ?_)))))))
  refine v_sln 41 rfl rfl (by omega) (Nat.le_of_ble_eq_true rfl) (by decide) (by decide) (v_ic_eq_f (t := 88) rfl rfl (by decide) (q_aload_n rfl rfl (q_iload rfl rfl (v_sch 100 rfl rfl (by omega) (Nat.le_of_ble_eq_true rfl) (by decide) (by decide) (by decide) (v_bip rfl (by decide) (v_ic_ne_t (t := 130) rfl rfl (by decide) (v_iinc (v := 33) rfl rfl (Nat.le_of_ble_eq_true rfl) (by decide) ?_)))))))
  refine q_goto (t := 52) rfl rfl (q_iload rfl rfl (q_aload_n rfl rfl (v_sln 41 rfl rfl (by omega) (Nat.le_of_ble_eq_true rfl) (by decide) (by decide) (v_ic_gt_f (t := 136) rfl rfl (by decide) (q_aload_n rfl rfl (v_cv rfl rfl rfl rfl (Nat.le_of_ble_eq_true rfl) ⟨⟨rfl, rfl⟩, Nat.le_of_ble_eq_true rfl, rfl⟩ (Nat.le_of_ble_eq_true rfl) (Nat.le_of_ble_eq_true rfl) (q_aload_n rfl rfl ?_)))))))
  refine v_gi (z := 4) (v := f9) rfl rfl rfl (Nat.le_of_ble_eq_true rfl) rfl rfl (hv2) (v_if_ne_f (t := 11) rfl rfl (by omega) (q_iconst rfl (q_goto (t := 12) rfl rfl (v_zret rfl rfl (by decide) (bk_inl (v_if_eq_f (t := 136) rfl rfl (by decide) (q_iload rfl rfl ?_)))))))
  refine q_aload_n rfl rfl (v_sln 41 rfl rfl (by omega) (Nat.le_of_ble_eq_true rfl) (by decide) (by decide) (v_ic_eq_f (t := 88) rfl rfl (by decide) (q_aload_n rfl rfl (q_iload rfl rfl (v_sch 97 rfl rfl (by omega) (Nat.le_of_ble_eq_true rfl) (by decide) (by decide) (by decide) (v_bip rfl (by decide) (v_ic_ne_t (t := 130) rfl rfl (by decide) ?_)))))))
  refine v_iinc (v := 34) rfl rfl (Nat.le_of_ble_eq_true rfl) (by decide) (q_goto (t := 52) rfl rfl (q_iload rfl rfl (q_aload_n rfl rfl (v_sln 41 rfl rfl (by omega) (Nat.le_of_ble_eq_true rfl) (by decide) (by decide) (v_ic_gt_f (t := 136) rfl rfl (by decide) (q_aload_n rfl rfl (v_cv rfl rfl rfl rfl (Nat.le_of_ble_eq_true rfl) ⟨⟨rfl, rfl⟩, Nat.le_of_ble_eq_true rfl, rfl⟩ (Nat.le_of_ble_eq_true rfl) (Nat.le_of_ble_eq_true rfl) ?_)))))))
  refine q_aload_n rfl rfl (v_gi (z := 4) (v := f9) rfl rfl rfl (Nat.le_of_ble_eq_true rfl) rfl rfl (hv2) (v_if_ne_f (t := 11) rfl rfl (by omega) (q_iconst rfl (q_goto (t := 12) rfl rfl (v_zret rfl rfl (by decide) (bk_inl (v_if_eq_f (t := 136) rfl rfl (by decide) ?_)))))))
  refine q_iload rfl rfl (q_aload_n rfl rfl (v_sln 41 rfl rfl (by omega) (Nat.le_of_ble_eq_true rfl) (by decide) (by decide) (v_ic_eq_f (t := 88) rfl rfl (by decide) (q_aload_n rfl rfl (q_iload rfl rfl (v_sch 121 rfl rfl (by omega) (Nat.le_of_ble_eq_true rfl) (by decide) (by decide) (by decide) (v_bip rfl (by decide) ?_)))))))
  refine v_ic_ne_t (t := 130) rfl rfl (by decide) (v_iinc (v := 35) rfl rfl (Nat.le_of_ble_eq_true rfl) (by decide) (q_goto (t := 52) rfl rfl (q_iload rfl rfl (q_aload_n rfl rfl (v_sln 41 rfl rfl (by omega) (Nat.le_of_ble_eq_true rfl) (by decide) (by decide) (v_ic_gt_f (t := 136) rfl rfl (by decide) (q_aload_n rfl rfl ?_)))))))
  refine v_cv rfl rfl rfl rfl (Nat.le_of_ble_eq_true rfl) ⟨⟨rfl, rfl⟩, Nat.le_of_ble_eq_true rfl, rfl⟩ (Nat.le_of_ble_eq_true rfl) (Nat.le_of_ble_eq_true rfl) (q_aload_n rfl rfl (v_gi (z := 4) (v := f9) rfl rfl rfl (Nat.le_of_ble_eq_true rfl) rfl rfl (hv2) (v_if_ne_f (t := 11) rfl rfl (by omega) (q_iconst rfl (q_goto (t := 12) rfl rfl (v_zret rfl rfl (by decide) (bk_inl ?_)))))))
  refine v_if_eq_f (t := 136) rfl rfl (by decide) (q_iload rfl rfl (q_aload_n rfl rfl (v_sln 41 rfl rfl (by omega) (Nat.le_of_ble_eq_true rfl) (by decide) (by decide) (v_ic_eq_f (t := 88) rfl rfl (by decide) (q_aload_n rfl rfl (q_iload rfl rfl (v_sch 32 rfl rfl (by omega) (Nat.le_of_ble_eq_true rfl) (by decide) (by decide) (by decide) ?_)))))))
  refine v_bip rfl (by decide) (v_ic_ne_f (t := 130) rfl rfl (by decide) (q_iload rfl rfl (q_iload rfl rfl (v_isub (v := 3) rfl (by decide) (q_iload_n rfl rfl (q_iload_n rfl rfl (v_isub (v := L8 - r8) rfl rfl ?_)))))))
  by_cases h_5 : 3 ≠ L8 - r8
  · refine v_ic_ne_t (t := 121) rfl rfl ⟨h_5, ⟨by decide, by decide⟩, by omega, by omega⟩ (v_iinc (v := 7) rfl rfl (Nat.le_of_ble_eq_true rfl) (by decide) (q_iload rfl rfl (q_iconst rfl (v_iadd (v := 36) rfl (by decide) (q_istore rfl (Nat.le_of_ble_eq_true rfl) (Wp_ls [(5, vi 36), (4, vi 7), (6, vi 35), (0, .ref 1), (1, .ref (a_SB + 10)), (2, vi r8), (3, vi L8)] (lsub_cons rfl (lsub_cons rfl (lsub_cons rfl (lsub_cons rfl (lsub_cons rfl (lsub_cons rfl (lsub_cons rfl lsub_nil))))))) (v_iinc (v := 36) rfl rfl (Nat.le_of_ble_eq_true rfl) (by decide) ?_)))))))
    refine q_goto (t := 52) rfl rfl (Wp_ls [(0, .ref 1), (1, .ref (a_SB + 10)), (2, vi r8), (3, vi L8), (4, vi 7), (5, vi 36), (6, vi 36)] (lsub_cons rfl (lsub_cons rfl (lsub_cons rfl (lsub_cons rfl (lsub_cons rfl (lsub_cons rfl (lsub_cons rfl lsub_nil))))))) ?_)
    exact f_10_10_7 (d := d) (r8 := r8) (L8 := L8) (W8 := W8) hI hq0 hq1 hv0 hv1 hv2 hv3 hB ((wd10_6_f (by omega)).symm.trans hdW8) K0 K1
  · refine v_ic_ne_f (t := 121) rfl rfl (Decidable.not_not.mp h_5) (q_aload_n rfl rfl (q_aload_n rfl rfl (q_iload rfl rfl (q_iload_n rfl rfl (q_iload_n rfl rfl (q_iload_n rfl rfl (v_isub (v := L8 - r8) rfl rfl ?_)))))))
    refine v_cv rfl rfl rfl rfl (Nat.le_of_ble_eq_true rfl) ⟨⟨rfl, rfl⟩, Nat.le_of_ble_eq_true rfl, rfl⟩ (Nat.le_of_ble_eq_true rfl) (Nat.le_of_ble_eq_true rfl) (q_iconst rfl (q_istore rfl (Nat.le_of_ble_eq_true rfl) (q_iload rfl rfl (q_iload rfl rfl (v_ic_ge_f (t := 38) rfl rfl ⟨by decide, by first | exact q_8d10d25b6 h_5 | omega, by first | exact q_22d63526a h_5 | omega⟩ (q_aload_n rfl rfl (q_iload_n rfl rfl ?_)))))))
    refine q_iload rfl rfl (v_iadd (v := 32) rfl (by decide) (v_sch 100 rfl rfl (by omega) (Nat.le_of_ble_eq_true rfl) (by decide) (by decide) (by decide) (q_aload_n rfl rfl (v_gr (t := 2) rfl rfl rfl (Nat.le_of_ble_eq_true rfl) rfl (q_iload_n rfl rfl (q_iload rfl rfl (v_iadd (v := r8) rfl (by omega) ?_)))))))
    have h_6 : -2147483648 ≤ (B r8) ∧ (B r8) ≤ 2147483647 := by rw [← hB r8]; exact ir_2 hI r8
    refine v_ba (v := (B r8)) rfl rfl (by decide) (by decide) (by omega) (hB r8) ?_
    by_cases h_7 : 100 = (B r8)
    · refine v_ic_eq_t (t := 32) rfl rfl h_7 (v_iinc (v := 1) rfl rfl (Nat.le_of_ble_eq_true rfl) (by decide) (q_goto (t := 3) rfl rfl (q_iload rfl rfl (q_iload rfl rfl (v_ic_ge_f (t := 38) rfl rfl ⟨by decide, by first | exact q_f1d336e40 h_5 | omega, by first | exact q_22d63526a h_5 | omega⟩ (q_aload_n rfl rfl (q_iload_n rfl rfl ?_)))))))
      refine q_iload rfl rfl (v_iadd (v := 33) rfl (by decide) (v_sch 97 rfl rfl (by omega) (Nat.le_of_ble_eq_true rfl) (by decide) (by decide) (by decide) (q_aload_n rfl rfl (v_gr (t := 2) rfl rfl rfl (Nat.le_of_ble_eq_true rfl) rfl (q_iload_n rfl rfl (q_iload rfl rfl (v_iadd (v := r8 + 1) rfl rfl ?_)))))))
      have h_8 : -2147483648 ≤ (B (r8 + 1)) ∧ (B (r8 + 1)) ≤ 2147483647 := by rw [← hB (r8 + 1)]; exact ir_2 hI (r8 + 1)
      refine v_ba (v := (B (r8 + 1))) rfl rfl (by decide) (by decide) (by omega) (hB (r8 + 1)) ?_
      by_cases h_9 : 97 = (B (r8 + 1))
      · refine v_ic_eq_t (t := 32) rfl rfl h_9 (v_iinc (v := 2) rfl rfl (Nat.le_of_ble_eq_true rfl) (by decide) (q_goto (t := 3) rfl rfl (q_iload rfl rfl (q_iload rfl rfl (v_ic_ge_f (t := 38) rfl rfl ⟨by decide, by first | exact q_3cb5391db h_5 | omega, by first | exact q_22d63526a h_5 | omega⟩ (q_aload_n rfl rfl (q_iload_n rfl rfl ?_)))))))
        refine q_iload rfl rfl (v_iadd (v := 34) rfl (by decide) (v_sch 121 rfl rfl (by omega) (Nat.le_of_ble_eq_true rfl) (by decide) (by decide) (by decide) (q_aload_n rfl rfl (v_gr (t := 2) rfl rfl rfl (Nat.le_of_ble_eq_true rfl) rfl (q_iload_n rfl rfl (q_iload rfl rfl (v_iadd (v := r8 + 2) rfl rfl ?_)))))))
        have h_10 : -2147483648 ≤ (B (r8 + 2)) ∧ (B (r8 + 2)) ≤ 2147483647 := by rw [← hB (r8 + 2)]; exact ir_2 hI (r8 + 2)
        refine v_ba (v := (B (r8 + 2))) rfl rfl (by decide) (by decide) (by omega) (hB (r8 + 2)) ?_
        by_cases h_11 : 121 = (B (r8 + 2))
        · refine v_ic_eq_t (t := 32) rfl rfl h_11 (v_iinc (v := 3) rfl rfl (Nat.le_of_ble_eq_true rfl) (by decide) (q_goto (t := 3) rfl rfl (q_iload rfl rfl (q_iload rfl rfl (v_ic_ge_t (t := 38) rfl rfl ⟨by first | exact q_2271afefa h_5 | omega, by first | exact q_8e661bf2d h_5 | omega, by decide⟩ (q_iconst rfl (v_zret rfl rfl (by decide) ?_)))))))
          refine bk_inl (v_if_eq_f (t := 121) rfl rfl (by decide) (q_aload_n rfl rfl (q_iload_n rfl rfl (v_pi (z := 2) rfl rfl rfl (Nat.le_of_ble_eq_true rfl) rfl rfl rfl (by decide) (q_iload rfl rfl (q_iret rfl rfl ?_))))))
          have hw9 : W8 = 6 := hdW8.symm.trans (wd10_6_t (by omega))
          have hI_12 := iw_1_2 (v := L8) hI ⟨by omega, by omega⟩
          have h_13 : (up c 1 2 L8) 1 2 = L8 := (up_e rfl)
          have h_14 : (up c 1 2 L8) 1 4 = f9 := ((up_n (by decide)).trans (hv2))
          have h_15 : (up c 1 2 L8) 1 5 = p9 := ((up_n (by decide)).trans (hv3))
          exact zv (by omega) (K1 (up c 1 2 L8) hI_12 (fun a j hm => up_b (Decidable.or_iff_not_imp_left.mpr (fun h1 h2 => hm (Or.inl ⟨Decidable.not_not.mp h1, h2⟩)))) (by omega) (by omega) (by omega) (by omega))
        · refine v_ic_eq_f (t := 32) rfl rfl ⟨h_11, ⟨by decide, by decide⟩, by first | exact q_f97c35332 h_10 | omega, by first | exact q_79e53d295 h_10 | omega⟩ (q_iconst rfl (v_zret rfl rfl (by decide) (bk_inl (v_if_eq_t (t := 121) rfl rfl (by decide) (v_iinc (v := 7) rfl rfl (Nat.le_of_ble_eq_true rfl) (by decide) (q_iload rfl rfl (q_iconst rfl ?_)))))))
          refine v_iadd (v := 36) rfl (by decide) (q_istore rfl (Nat.le_of_ble_eq_true rfl) (Wp_ls [(5, vi 36), (4, vi 7), (6, vi 35), (0, .ref 1), (1, .ref (a_SB + 10)), (2, vi r8), (3, vi L8)] (lsub_cons rfl (lsub_cons rfl (lsub_cons rfl (lsub_cons rfl (lsub_cons rfl (lsub_cons rfl (lsub_cons rfl lsub_nil))))))) (v_iinc (v := 36) rfl rfl (Nat.le_of_ble_eq_true rfl) (by decide) (q_goto (t := 52) rfl rfl (Wp_ls [(0, .ref 1), (1, .ref (a_SB + 10)), (2, vi r8), (3, vi L8), (4, vi 7), (5, vi 36), (6, vi 36)] (lsub_cons rfl (lsub_cons rfl (lsub_cons rfl (lsub_cons rfl (lsub_cons rfl (lsub_cons rfl (lsub_cons rfl lsub_nil))))))) ?_)))))
          exact f_10_10_7 (d := d) (r8 := r8) (L8 := L8) (W8 := W8) hI hq0 hq1 hv0 hv1 hv2 hv3 hB ((wd10_6_f (by omega)).symm.trans hdW8) K0 K1
      · refine v_ic_eq_f (t := 32) rfl rfl ⟨h_9, ⟨by decide, by decide⟩, by first | exact q_f97c35332 h_8 | omega, by first | exact q_79e53d295 h_8 | omega⟩ (q_iconst rfl (v_zret rfl rfl (by decide) (bk_inl (v_if_eq_t (t := 121) rfl rfl (by decide) (v_iinc (v := 7) rfl rfl (Nat.le_of_ble_eq_true rfl) (by decide) (q_iload rfl rfl (q_iconst rfl ?_)))))))
        refine v_iadd (v := 36) rfl (by decide) (q_istore rfl (Nat.le_of_ble_eq_true rfl) (Wp_ls [(5, vi 36), (4, vi 7), (6, vi 35), (0, .ref 1), (1, .ref (a_SB + 10)), (2, vi r8), (3, vi L8)] (lsub_cons rfl (lsub_cons rfl (lsub_cons rfl (lsub_cons rfl (lsub_cons rfl (lsub_cons rfl (lsub_cons rfl lsub_nil))))))) (v_iinc (v := 36) rfl rfl (Nat.le_of_ble_eq_true rfl) (by decide) (q_goto (t := 52) rfl rfl (Wp_ls [(0, .ref 1), (1, .ref (a_SB + 10)), (2, vi r8), (3, vi L8), (4, vi 7), (5, vi 36), (6, vi 36)] (lsub_cons rfl (lsub_cons rfl (lsub_cons rfl (lsub_cons rfl (lsub_cons rfl (lsub_cons rfl (lsub_cons rfl lsub_nil))))))) ?_)))))
        exact f_10_10_7 (d := d) (r8 := r8) (L8 := L8) (W8 := W8) hI hq0 hq1 hv0 hv1 hv2 hv3 hB ((wd10_6_f (by omega)).symm.trans hdW8) K0 K1
    · refine v_ic_eq_f (t := 32) rfl rfl ⟨h_7, ⟨by decide, by decide⟩, by first | exact q_f97c35332 h_6 | omega, by first | exact q_79e53d295 h_6 | omega⟩ (q_iconst rfl (v_zret rfl rfl (by decide) (bk_inl (v_if_eq_t (t := 121) rfl rfl (by decide) (v_iinc (v := 7) rfl rfl (Nat.le_of_ble_eq_true rfl) (by decide) (q_iload rfl rfl (q_iconst rfl ?_)))))))
      refine v_iadd (v := 36) rfl (by decide) (q_istore rfl (Nat.le_of_ble_eq_true rfl) (Wp_ls [(5, vi 36), (4, vi 7), (6, vi 35), (0, .ref 1), (1, .ref (a_SB + 10)), (2, vi r8), (3, vi L8)] (lsub_cons rfl (lsub_cons rfl (lsub_cons rfl (lsub_cons rfl (lsub_cons rfl (lsub_cons rfl (lsub_cons rfl lsub_nil))))))) (v_iinc (v := 36) rfl rfl (Nat.le_of_ble_eq_true rfl) (by decide) (q_goto (t := 52) rfl rfl (Wp_ls [(0, .ref 1), (1, .ref (a_SB + 10)), (2, vi r8), (3, vi L8), (4, vi 7), (5, vi 36), (6, vi 36)] (lsub_cons rfl (lsub_cons rfl (lsub_cons rfl (lsub_cons rfl (lsub_cons rfl (lsub_cons rfl (lsub_cons rfl lsub_nil))))))) ?_)))))
      exact f_10_10_7 (d := d) (r8 := r8) (L8 := L8) (W8 := W8) hI hq0 hq1 hv0 hv1 hv2 hv3 hB ((wd10_6_f (by omega)).symm.trans hdW8) K0 K1

set_option maxRecDepth 100000 in
set_option maxHeartbeats 4000000 in
theorem f_10_10_5 {sc : List Int32} {e : Int} {d u P Q : Nat} {c : ME} {e1 a9 f9 p9 W8 r8 L8 : Int} {B : Int → Int} {Z : AR → Prop} (hI : Iv u e P Q c) (hq0 : (f9 = 0)) (hq1 : (r8 ≥ 0 ∧ r8 ≤ L8 ∧ L8 ≤ 600)) (hv0 : c 1 1 = e1) (hv1 : c 1 2 = a9) (hv2 : c 1 4 = f9) (hv3 : c 1 5 = p9) (hB : ∀ j : Int, c 2 j = B j) (hdW8 : wd10_5 B r8 L8 = W8) (K0 : ∀ c2 : ME, Iv u e P Q c2 → (∀ (a : Nat) (j : Int), ¬ ((a = 1 ∧ j = 2) ∨ (a = 1 ∧ j = 4) ∨ (a = 1 ∧ j = 5)) → c2 a j = c a j) → ((W8 = (-1))) → (c2 1 2 = a9) → (c2 1 4 = 1) → (c2 1 5 = r8) → Z (.inl (some (vi (-1))), Wd P Q P P c2, 0, 0)) (K1 : ∀ c2 : ME, Iv u e P Q c2 → (∀ (a : Nat) (j : Int), ¬ ((a = 1 ∧ j = 2) ∨ (a = 1 ∧ j = 4) ∨ (a = 1 ∧ j = 5)) → c2 a j = c a j) → ((W8 ≥ 0 ∧ W8 ≤ 7)) → (c2 1 2 = L8) → (c2 1 4 = 0) → (c2 1 5 = p9) → Z (.inl (some (vi W8)), Wd P Q P P c2, 0, 0)) : Wp sc (d + 12) 10 52 [(0, .ref 1), (1, .ref (a_SB + 10)), (2, vi r8), (3, vi L8), (4, vi 5), (5, vi 27), (6, vi 27)] [] (Wd P Q P P c) 0 0 Z := by
  have hP := iv_P hI
  have hQ := iv_Q hI
  have h_1 := ir_1_1 hI
  have h_2 := ir_1_2 hI
  have h_3 := ir_1_4 hI
  have h_4 := ir_1_5 hI
  refine q_iload rfl rfl (q_aload_n rfl rfl (v_sln 41 rfl rfl (by omega) (Nat.le_of_ble_eq_true rfl) (by decide) (by decide) (v_ic_gt_f (t := 136) rfl rfl (by decide) (q_aload_n rfl rfl (v_cv rfl rfl rfl rfl (Nat.le_of_ble_eq_true rfl) ⟨⟨rfl, rfl⟩, Nat.le_of_ble_eq_true rfl, rfl⟩ (Nat.le_of_ble_eq_true rfl) (Nat.le_of_ble_eq_true rfl) (q_aload_n rfl rfl (v_gi (z := 4) (v := f9) rfl rfl rfl (Nat.le_of_ble_eq_true rfl) rfl rfl (hv2) ?_)))))))
  refine v_if_ne_f (t := 11) rfl rfl (by omega) (q_iconst rfl (q_goto (t := 12) rfl rfl (v_zret rfl rfl (by decide) (bk_inl (v_if_eq_f (t := 136) rfl rfl (by decide) (q_iload rfl rfl (q_aload_n rfl rfl ?_)))))))
  refine v_sln 41 rfl rfl (by omega) (Nat.le_of_ble_eq_true rfl) (by decide) (by decide) (v_ic_eq_f (t := 88) rfl rfl (by decide) (q_aload_n rfl rfl (q_iload rfl rfl (v_sch 115 rfl rfl (by omega) (Nat.le_of_ble_eq_true rfl) (by decide) (by decide) (by decide) (v_bip rfl (by decide) (v_ic_ne_t (t := 130) rfl rfl (by decide) (v_iinc (v := 28) rfl rfl (Nat.le_of_ble_eq_true rfl) (by decide) ?_)))))))
  refine q_goto (t := 52) rfl rfl (q_iload rfl rfl (q_aload_n rfl rfl (v_sln 41 rfl rfl (by omega) (Nat.le_of_ble_eq_true rfl) (by decide) (by decide) (v_ic_gt_f (t := 136) rfl rfl (by decide) (q_aload_n rfl rfl (v_cv rfl rfl rfl rfl (Nat.le_of_ble_eq_true rfl) ⟨⟨rfl, rfl⟩, Nat.le_of_ble_eq_true rfl, rfl⟩ (Nat.le_of_ble_eq_true rfl) (Nat.le_of_ble_eq_true rfl) (q_aload_n rfl rfl ?_)))))))
  refine v_gi (z := 4) (v := f9) rfl rfl rfl (Nat.le_of_ble_eq_true rfl) rfl rfl (hv2) (v_if_ne_f (t := 11) rfl rfl (by omega) (q_iconst rfl (q_goto (t := 12) rfl rfl (v_zret rfl rfl (by decide) (bk_inl (v_if_eq_f (t := 136) rfl rfl (by decide) (q_iload rfl rfl ?_)))))))
  refine q_aload_n rfl rfl (v_sln 41 rfl rfl (by omega) (Nat.le_of_ble_eq_true rfl) (by decide) (by decide) (v_ic_eq_f (t := 88) rfl rfl (by decide) (q_aload_n rfl rfl (q_iload rfl rfl (v_sch 101 rfl rfl (by omega) (Nat.le_of_ble_eq_true rfl) (by decide) (by decide) (by decide) (v_bip rfl (by decide) (v_ic_ne_t (t := 130) rfl rfl (by decide) ?_)))))))
  refine v_iinc (v := 29) rfl rfl (Nat.le_of_ble_eq_true rfl) (by decide) (q_goto (t := 52) rfl rfl (q_iload rfl rfl (q_aload_n rfl rfl (v_sln 41 rfl rfl (by omega) (Nat.le_of_ble_eq_true rfl) (by decide) (by decide) (v_ic_gt_f (t := 136) rfl rfl (by decide) (q_aload_n rfl rfl (v_cv rfl rfl rfl rfl (Nat.le_of_ble_eq_true rfl) ⟨⟨rfl, rfl⟩, Nat.le_of_ble_eq_true rfl, rfl⟩ (Nat.le_of_ble_eq_true rfl) (Nat.le_of_ble_eq_true rfl) ?_)))))))
  refine q_aload_n rfl rfl (v_gi (z := 4) (v := f9) rfl rfl rfl (Nat.le_of_ble_eq_true rfl) rfl rfl (hv2) (v_if_ne_f (t := 11) rfl rfl (by omega) (q_iconst rfl (q_goto (t := 12) rfl rfl (v_zret rfl rfl (by decide) (bk_inl (v_if_eq_f (t := 136) rfl rfl (by decide) ?_)))))))
  refine q_iload rfl rfl (q_aload_n rfl rfl (v_sln 41 rfl rfl (by omega) (Nat.le_of_ble_eq_true rfl) (by decide) (by decide) (v_ic_eq_f (t := 88) rfl rfl (by decide) (q_aload_n rfl rfl (q_iload rfl rfl (v_sch 108 rfl rfl (by omega) (Nat.le_of_ble_eq_true rfl) (by decide) (by decide) (by decide) (v_bip rfl (by decide) ?_)))))))
  refine v_ic_ne_t (t := 130) rfl rfl (by decide) (v_iinc (v := 30) rfl rfl (Nat.le_of_ble_eq_true rfl) (by decide) (q_goto (t := 52) rfl rfl (q_iload rfl rfl (q_aload_n rfl rfl (v_sln 41 rfl rfl (by omega) (Nat.le_of_ble_eq_true rfl) (by decide) (by decide) (v_ic_gt_f (t := 136) rfl rfl (by decide) (q_aload_n rfl rfl ?_)))))))
  refine v_cv rfl rfl rfl rfl (Nat.le_of_ble_eq_true rfl) ⟨⟨rfl, rfl⟩, Nat.le_of_ble_eq_true rfl, rfl⟩ (Nat.le_of_ble_eq_true rfl) (Nat.le_of_ble_eq_true rfl) (q_aload_n rfl rfl (v_gi (z := 4) (v := f9) rfl rfl rfl (Nat.le_of_ble_eq_true rfl) rfl rfl (hv2) (v_if_ne_f (t := 11) rfl rfl (by omega) (q_iconst rfl (q_goto (t := 12) rfl rfl (v_zret rfl rfl (by decide) (bk_inl ?_)))))))
  refine v_if_eq_f (t := 136) rfl rfl (by decide) (q_iload rfl rfl (q_aload_n rfl rfl (v_sln 41 rfl rfl (by omega) (Nat.le_of_ble_eq_true rfl) (by decide) (by decide) (v_ic_eq_f (t := 88) rfl rfl (by decide) (q_aload_n rfl rfl (q_iload rfl rfl (v_sch 108 rfl rfl (by omega) (Nat.le_of_ble_eq_true rfl) (by decide) (by decide) (by decide) ?_)))))))
  refine v_bip rfl (by decide) (v_ic_ne_t (t := 130) rfl rfl (by decide) (v_iinc (v := 31) rfl rfl (Nat.le_of_ble_eq_true rfl) (by decide) (q_goto (t := 52) rfl rfl (q_iload rfl rfl (q_aload_n rfl rfl (v_sln 41 rfl rfl (by omega) (Nat.le_of_ble_eq_true rfl) (by decide) (by decide) (v_ic_gt_f (t := 136) rfl rfl (by decide) ?_)))))))
  refine q_aload_n rfl rfl (v_cv rfl rfl rfl rfl (Nat.le_of_ble_eq_true rfl) ⟨⟨rfl, rfl⟩, Nat.le_of_ble_eq_true rfl, rfl⟩ (Nat.le_of_ble_eq_true rfl) (Nat.le_of_ble_eq_true rfl) (q_aload_n rfl rfl (v_gi (z := 4) (v := f9) rfl rfl rfl (Nat.le_of_ble_eq_true rfl) rfl rfl (hv2) (v_if_ne_f (t := 11) rfl rfl (by omega) (q_iconst rfl (q_goto (t := 12) rfl rfl (v_zret rfl rfl (by decide) ?_)))))))
  refine bk_inl (v_if_eq_f (t := 136) rfl rfl (by decide) (q_iload rfl rfl (q_aload_n rfl rfl (v_sln 41 rfl rfl (by omega) (Nat.le_of_ble_eq_true rfl) (by decide) (by decide) (v_ic_eq_f (t := 88) rfl rfl (by decide) (q_aload_n rfl rfl (q_iload rfl rfl ?_)))))))
  refine v_sch 32 rfl rfl (by omega) (Nat.le_of_ble_eq_true rfl) (by decide) (by decide) (by decide) (v_bip rfl (by decide) (v_ic_ne_f (t := 130) rfl rfl (by decide) (q_iload rfl rfl (q_iload rfl rfl (v_isub (v := 4) rfl (by decide) (q_iload_n rfl rfl (q_iload_n rfl rfl ?_)))))))
  refine v_isub (v := L8 - r8) rfl rfl ?_
  by_cases h_5 : 4 ≠ L8 - r8
  · refine v_ic_ne_t (t := 121) rfl rfl ⟨h_5, ⟨by decide, by decide⟩, by omega, by omega⟩ (v_iinc (v := 6) rfl rfl (Nat.le_of_ble_eq_true rfl) (by decide) (Wp_ls [(4, vi 6), (6, vi 31), (0, .ref 1), (1, .ref (a_SB + 10)), (2, vi r8), (3, vi L8), (5, vi 27)] (lsub_cons rfl (lsub_cons rfl (lsub_cons rfl (lsub_cons rfl (lsub_cons rfl (lsub_cons rfl (lsub_cons rfl lsub_nil))))))) (q_iload rfl rfl (q_iconst rfl (v_iadd (v := 32) rfl (by decide) (q_istore rfl (Nat.le_of_ble_eq_true rfl) (v_iinc (v := 32) rfl rfl (Nat.le_of_ble_eq_true rfl) (by decide) ?_)))))))
    refine q_goto (t := 52) rfl rfl (Wp_ls [(0, .ref 1), (1, .ref (a_SB + 10)), (2, vi r8), (3, vi L8), (4, vi 6), (5, vi 32), (6, vi 32)] (lsub_cons rfl (lsub_cons rfl (lsub_cons rfl (lsub_cons rfl (lsub_cons rfl (lsub_cons rfl (lsub_cons rfl lsub_nil))))))) ?_)
    exact f_10_10_6 (d := d) (r8 := r8) (L8 := L8) (W8 := W8) hI hq0 hq1 hv0 hv1 hv2 hv3 hB ((wd10_5_f (by omega)).symm.trans hdW8) K0 K1
  · refine v_ic_ne_f (t := 121) rfl rfl (Decidable.not_not.mp h_5) (q_aload_n rfl rfl (q_aload_n rfl rfl (q_iload rfl rfl (q_iload_n rfl rfl (q_iload_n rfl rfl (q_iload_n rfl rfl (v_isub (v := L8 - r8) rfl rfl ?_)))))))
    refine v_cv rfl rfl rfl rfl (Nat.le_of_ble_eq_true rfl) ⟨⟨rfl, rfl⟩, Nat.le_of_ble_eq_true rfl, rfl⟩ (Nat.le_of_ble_eq_true rfl) (Nat.le_of_ble_eq_true rfl) (q_iconst rfl (q_istore rfl (Nat.le_of_ble_eq_true rfl) (q_iload rfl rfl (q_iload rfl rfl (v_ic_ge_f (t := 38) rfl rfl ⟨by decide, by first | exact q_e102c8f11 h_5 | omega, by first | exact q_559789b9d h_5 | omega⟩ (q_aload_n rfl rfl (q_iload_n rfl rfl ?_)))))))
    refine q_iload rfl rfl (v_iadd (v := 27) rfl (by decide) (v_sch 115 rfl rfl (by omega) (Nat.le_of_ble_eq_true rfl) (by decide) (by decide) (by decide) (q_aload_n rfl rfl (v_gr (t := 2) rfl rfl rfl (Nat.le_of_ble_eq_true rfl) rfl (q_iload_n rfl rfl (q_iload rfl rfl (v_iadd (v := r8) rfl (by omega) ?_)))))))
    have h_6 : -2147483648 ≤ (B r8) ∧ (B r8) ≤ 2147483647 := by rw [← hB r8]; exact ir_2 hI r8
    refine v_ba (v := (B r8)) rfl rfl (by decide) (by decide) (by omega) (hB r8) ?_
    by_cases h_7 : 115 = (B r8)
    · refine v_ic_eq_t (t := 32) rfl rfl h_7 (v_iinc (v := 1) rfl rfl (Nat.le_of_ble_eq_true rfl) (by decide) (q_goto (t := 3) rfl rfl (q_iload rfl rfl (q_iload rfl rfl (v_ic_ge_f (t := 38) rfl rfl ⟨by decide, by first | exact q_a2240bc6c h_5 | omega, by first | exact q_559789b9d h_5 | omega⟩ (q_aload_n rfl rfl (q_iload_n rfl rfl ?_)))))))
      refine q_iload rfl rfl (v_iadd (v := 28) rfl (by decide) (v_sch 101 rfl rfl (by omega) (Nat.le_of_ble_eq_true rfl) (by decide) (by decide) (by decide) (q_aload_n rfl rfl (v_gr (t := 2) rfl rfl rfl (Nat.le_of_ble_eq_true rfl) rfl (q_iload_n rfl rfl (q_iload rfl rfl (v_iadd (v := r8 + 1) rfl rfl ?_)))))))
      have h_8 : -2147483648 ≤ (B (r8 + 1)) ∧ (B (r8 + 1)) ≤ 2147483647 := by rw [← hB (r8 + 1)]; exact ir_2 hI (r8 + 1)
      refine v_ba (v := (B (r8 + 1))) rfl rfl (by decide) (by decide) (by omega) (hB (r8 + 1)) ?_
      by_cases h_9 : 101 = (B (r8 + 1))
      · refine v_ic_eq_t (t := 32) rfl rfl h_9 (v_iinc (v := 2) rfl rfl (Nat.le_of_ble_eq_true rfl) (by decide) (q_goto (t := 3) rfl rfl (q_iload rfl rfl (q_iload rfl rfl (v_ic_ge_f (t := 38) rfl rfl ⟨by decide, by first | exact q_81cf1e9c6 h_5 | omega, by first | exact q_559789b9d h_5 | omega⟩ (q_aload_n rfl rfl (q_iload_n rfl rfl ?_)))))))
        refine q_iload rfl rfl (v_iadd (v := 29) rfl (by decide) (v_sch 108 rfl rfl (by omega) (Nat.le_of_ble_eq_true rfl) (by decide) (by decide) (by decide) (q_aload_n rfl rfl (v_gr (t := 2) rfl rfl rfl (Nat.le_of_ble_eq_true rfl) rfl (q_iload_n rfl rfl (q_iload rfl rfl (v_iadd (v := r8 + 2) rfl rfl ?_)))))))
        have h_10 : -2147483648 ≤ (B (r8 + 2)) ∧ (B (r8 + 2)) ≤ 2147483647 := by rw [← hB (r8 + 2)]; exact ir_2 hI (r8 + 2)
        refine v_ba (v := (B (r8 + 2))) rfl rfl (by decide) (by decide) (by omega) (hB (r8 + 2)) ?_
        by_cases h_11 : 108 = (B (r8 + 2))
        · refine v_ic_eq_t (t := 32) rfl rfl h_11 (v_iinc (v := 3) rfl rfl (Nat.le_of_ble_eq_true rfl) (by decide) (q_goto (t := 3) rfl rfl (q_iload rfl rfl (q_iload rfl rfl (v_ic_ge_f (t := 38) rfl rfl ⟨by decide, by first | exact q_bf9798940 h_5 | omega, by first | exact q_559789b9d h_5 | omega⟩ (q_aload_n rfl rfl (q_iload_n rfl rfl ?_)))))))
          refine q_iload rfl rfl (v_iadd (v := 30) rfl (by decide) (v_sch 108 rfl rfl (by omega) (Nat.le_of_ble_eq_true rfl) (by decide) (by decide) (by decide) (q_aload_n rfl rfl (v_gr (t := 2) rfl rfl rfl (Nat.le_of_ble_eq_true rfl) rfl (q_iload_n rfl rfl (q_iload rfl rfl (v_iadd (v := r8 + 3) rfl rfl ?_)))))))
          have h_12 : -2147483648 ≤ (B (r8 + 3)) ∧ (B (r8 + 3)) ≤ 2147483647 := by rw [← hB (r8 + 3)]; exact ir_2 hI (r8 + 3)
          refine v_ba (v := (B (r8 + 3))) rfl rfl (by decide) (by decide) (by omega) (hB (r8 + 3)) ?_
          by_cases h_13 : 108 = (B (r8 + 3))
          · refine v_ic_eq_t (t := 32) rfl rfl h_13 (v_iinc (v := 4) rfl rfl (Nat.le_of_ble_eq_true rfl) (by decide) (Wp_ls [(5, vi 4), (0, .ref 1), (1, .ref (a_SB + 10)), (2, vi 27), (3, vi r8), (4, vi (L8 - r8))] (lsub_cons rfl (lsub_cons rfl (lsub_cons rfl (lsub_cons rfl (lsub_cons rfl (lsub_cons rfl lsub_nil)))))) (q_goto (t := 3) rfl rfl (q_iload rfl rfl (q_iload rfl rfl (v_ic_ge_t (t := 38) rfl rfl ⟨by first | exact q_5edcef13d h_5 | omega, by first | exact q_62ba5a5ea h_5 | omega, by decide⟩ (q_iconst rfl ?_)))))))
            refine v_zret rfl rfl (by decide) (bk_inl (v_if_eq_f (t := 121) rfl rfl (by decide) (q_aload_n rfl rfl (q_iload_n rfl rfl (v_pi (z := 2) rfl rfl rfl (Nat.le_of_ble_eq_true rfl) rfl rfl rfl (by decide) (q_iload rfl rfl (q_iret rfl rfl ?_)))))))
            have hw9 : W8 = 5 := hdW8.symm.trans (wd10_5_t (by omega))
            have hI_14 := iw_1_2 (v := L8) hI ⟨by first | (clear h_1 h_2 h_3 h_4 h_6 h_7 h_8 h_9 h_10 h_11 h_12 h_13 hw9; omega) | omega, by first | (clear h_1 h_2 h_3 h_4 h_5 h_6 h_7 h_8 h_9 h_10 h_11 h_12 h_13 hw9; omega) | omega⟩
            have h_15 : (up c 1 2 L8) 1 2 = L8 := (up_e rfl)
            have h_16 : (up c 1 2 L8) 1 4 = f9 := ((up_n (by decide)).trans (hv2))
            have h_17 : (up c 1 2 L8) 1 5 = p9 := ((up_n (by decide)).trans (hv3))
            exact zv (by omega) (K1 (up c 1 2 L8) hI_14 (fun a j hm => up_b (Decidable.or_iff_not_imp_left.mpr (fun h1 h2 => hm (Or.inl ⟨Decidable.not_not.mp h1, h2⟩)))) (by omega) (by omega) (by omega) (by omega))
          · refine v_ic_eq_f (t := 32) rfl rfl ⟨h_13, ⟨by decide, by decide⟩, by first | exact q_f97c35332 h_12 | omega, by first | exact q_79e53d295 h_12 | omega⟩ (q_iconst rfl (v_zret rfl rfl (by decide) (bk_inl (v_if_eq_t (t := 121) rfl rfl (by decide) (v_iinc (v := 6) rfl rfl (Nat.le_of_ble_eq_true rfl) (by decide) (Wp_ls [(4, vi 6), (6, vi 31), (0, .ref 1), (1, .ref (a_SB + 10)), (2, vi r8), (3, vi L8), (5, vi 27)] (lsub_cons rfl (lsub_cons rfl (lsub_cons rfl (lsub_cons rfl (lsub_cons rfl (lsub_cons rfl (lsub_cons rfl lsub_nil))))))) (q_iload rfl rfl ?_)))))))
            refine q_iconst rfl (v_iadd (v := 32) rfl (by decide) (q_istore rfl (Nat.le_of_ble_eq_true rfl) (v_iinc (v := 32) rfl rfl (Nat.le_of_ble_eq_true rfl) (by decide) (q_goto (t := 52) rfl rfl (Wp_ls [(0, .ref 1), (1, .ref (a_SB + 10)), (2, vi r8), (3, vi L8), (4, vi 6), (5, vi 32), (6, vi 32)] (lsub_cons rfl (lsub_cons rfl (lsub_cons rfl (lsub_cons rfl (lsub_cons rfl (lsub_cons rfl (lsub_cons rfl lsub_nil))))))) ?_)))))
            exact f_10_10_6 (d := d) (r8 := r8) (L8 := L8) (W8 := W8) hI hq0 hq1 hv0 hv1 hv2 hv3 hB ((wd10_5_f (by omega)).symm.trans hdW8) K0 K1
        · refine v_ic_eq_f (t := 32) rfl rfl ⟨h_11, ⟨by decide, by decide⟩, by first | exact q_f97c35332 h_10 | omega, by first | exact q_79e53d295 h_10 | omega⟩ (q_iconst rfl (v_zret rfl rfl (by decide) (bk_inl (v_if_eq_t (t := 121) rfl rfl (by decide) (v_iinc (v := 6) rfl rfl (Nat.le_of_ble_eq_true rfl) (by decide) (Wp_ls [(4, vi 6), (6, vi 31), (0, .ref 1), (1, .ref (a_SB + 10)), (2, vi r8), (3, vi L8), (5, vi 27)] (lsub_cons rfl (lsub_cons rfl (lsub_cons rfl (lsub_cons rfl (lsub_cons rfl (lsub_cons rfl (lsub_cons rfl lsub_nil))))))) (q_iload rfl rfl ?_)))))))
          refine q_iconst rfl (v_iadd (v := 32) rfl (by decide) (q_istore rfl (Nat.le_of_ble_eq_true rfl) (v_iinc (v := 32) rfl rfl (Nat.le_of_ble_eq_true rfl) (by decide) (q_goto (t := 52) rfl rfl (Wp_ls [(0, .ref 1), (1, .ref (a_SB + 10)), (2, vi r8), (3, vi L8), (4, vi 6), (5, vi 32), (6, vi 32)] (lsub_cons rfl (lsub_cons rfl (lsub_cons rfl (lsub_cons rfl (lsub_cons rfl (lsub_cons rfl (lsub_cons rfl lsub_nil))))))) ?_)))))
          exact f_10_10_6 (d := d) (r8 := r8) (L8 := L8) (W8 := W8) hI hq0 hq1 hv0 hv1 hv2 hv3 hB ((wd10_5_f (by omega)).symm.trans hdW8) K0 K1
      · refine v_ic_eq_f (t := 32) rfl rfl ⟨h_9, ⟨by decide, by decide⟩, by first | exact q_f97c35332 h_8 | omega, by first | exact q_79e53d295 h_8 | omega⟩ (q_iconst rfl (v_zret rfl rfl (by decide) (bk_inl (v_if_eq_t (t := 121) rfl rfl (by decide) (v_iinc (v := 6) rfl rfl (Nat.le_of_ble_eq_true rfl) (by decide) (Wp_ls [(4, vi 6), (6, vi 31), (0, .ref 1), (1, .ref (a_SB + 10)), (2, vi r8), (3, vi L8), (5, vi 27)] (lsub_cons rfl (lsub_cons rfl (lsub_cons rfl (lsub_cons rfl (lsub_cons rfl (lsub_cons rfl (lsub_cons rfl lsub_nil))))))) (q_iload rfl rfl ?_)))))))
        refine q_iconst rfl (v_iadd (v := 32) rfl (by decide) (q_istore rfl (Nat.le_of_ble_eq_true rfl) (v_iinc (v := 32) rfl rfl (Nat.le_of_ble_eq_true rfl) (by decide) (q_goto (t := 52) rfl rfl (Wp_ls [(0, .ref 1), (1, .ref (a_SB + 10)), (2, vi r8), (3, vi L8), (4, vi 6), (5, vi 32), (6, vi 32)] (lsub_cons rfl (lsub_cons rfl (lsub_cons rfl (lsub_cons rfl (lsub_cons rfl (lsub_cons rfl (lsub_cons rfl lsub_nil))))))) ?_)))))
        exact f_10_10_6 (d := d) (r8 := r8) (L8 := L8) (W8 := W8) hI hq0 hq1 hv0 hv1 hv2 hv3 hB ((wd10_5_f (by omega)).symm.trans hdW8) K0 K1
    · refine v_ic_eq_f (t := 32) rfl rfl ⟨h_7, ⟨by decide, by decide⟩, by first | exact q_f97c35332 h_6 | omega, by first | exact q_79e53d295 h_6 | omega⟩ (q_iconst rfl (v_zret rfl rfl (by decide) (bk_inl (v_if_eq_t (t := 121) rfl rfl (by decide) (v_iinc (v := 6) rfl rfl (Nat.le_of_ble_eq_true rfl) (by decide) (Wp_ls [(4, vi 6), (6, vi 31), (0, .ref 1), (1, .ref (a_SB + 10)), (2, vi r8), (3, vi L8), (5, vi 27)] (lsub_cons rfl (lsub_cons rfl (lsub_cons rfl (lsub_cons rfl (lsub_cons rfl (lsub_cons rfl (lsub_cons rfl lsub_nil))))))) (q_iload rfl rfl ?_)))))))
      refine q_iconst rfl (v_iadd (v := 32) rfl (by decide) (q_istore rfl (Nat.le_of_ble_eq_true rfl) (v_iinc (v := 32) rfl rfl (Nat.le_of_ble_eq_true rfl) (by decide) (q_goto (t := 52) rfl rfl (Wp_ls [(0, .ref 1), (1, .ref (a_SB + 10)), (2, vi r8), (3, vi L8), (4, vi 6), (5, vi 32), (6, vi 32)] (lsub_cons rfl (lsub_cons rfl (lsub_cons rfl (lsub_cons rfl (lsub_cons rfl (lsub_cons rfl (lsub_cons rfl lsub_nil))))))) ?_)))))
      exact f_10_10_6 (d := d) (r8 := r8) (L8 := L8) (W8 := W8) hI hq0 hq1 hv0 hv1 hv2 hv3 hB ((wd10_5_f (by omega)).symm.trans hdW8) K0 K1

set_option maxRecDepth 100000 in
set_option maxHeartbeats 4000000 in
theorem f_10_10_4 {sc : List Int32} {e : Int} {d u P Q : Nat} {c : ME} {e1 a9 f9 p9 W8 r8 L8 : Int} {B : Int → Int} {Z : AR → Prop} (hI : Iv u e P Q c) (hq0 : (f9 = 0)) (hq1 : (r8 ≥ 0 ∧ r8 ≤ L8 ∧ L8 ≤ 600)) (hv0 : c 1 1 = e1) (hv1 : c 1 2 = a9) (hv2 : c 1 4 = f9) (hv3 : c 1 5 = p9) (hB : ∀ j : Int, c 2 j = B j) (hdW8 : wd10_4 B r8 L8 = W8) (K0 : ∀ c2 : ME, Iv u e P Q c2 → (∀ (a : Nat) (j : Int), ¬ ((a = 1 ∧ j = 2) ∨ (a = 1 ∧ j = 4) ∨ (a = 1 ∧ j = 5)) → c2 a j = c a j) → ((W8 = (-1))) → (c2 1 2 = a9) → (c2 1 4 = 1) → (c2 1 5 = r8) → Z (.inl (some (vi (-1))), Wd P Q P P c2, 0, 0)) (K1 : ∀ c2 : ME, Iv u e P Q c2 → (∀ (a : Nat) (j : Int), ¬ ((a = 1 ∧ j = 2) ∨ (a = 1 ∧ j = 4) ∨ (a = 1 ∧ j = 5)) → c2 a j = c a j) → ((W8 ≥ 0 ∧ W8 ≤ 7)) → (c2 1 2 = L8) → (c2 1 4 = 0) → (c2 1 5 = p9) → Z (.inl (some (vi W8)), Wd P Q P P c2, 0, 0)) : Wp sc (d + 12) 10 52 [(0, .ref 1), (1, .ref (a_SB + 10)), (2, vi r8), (3, vi L8), (4, vi 4), (5, vi 22), (6, vi 22)] [] (Wd P Q P P c) 0 0 Z := by
  have hP := iv_P hI
  have hQ := iv_Q hI
  have h_1 := ir_1_1 hI
  have h_2 := ir_1_2 hI
  have h_3 := ir_1_4 hI
  have h_4 := ir_1_5 hI
  refine q_iload rfl rfl (q_aload_n rfl rfl (v_sln 41 rfl rfl (by omega) (Nat.le_of_ble_eq_true rfl) (by decide) (by decide) (v_ic_gt_f (t := 136) rfl rfl (by decide) (q_aload_n rfl rfl (v_cv rfl rfl rfl rfl (Nat.le_of_ble_eq_true rfl) ⟨⟨rfl, rfl⟩, Nat.le_of_ble_eq_true rfl, rfl⟩ (Nat.le_of_ble_eq_true rfl) (Nat.le_of_ble_eq_true rfl) (q_aload_n rfl rfl (v_gi (z := 4) (v := f9) rfl rfl rfl (Nat.le_of_ble_eq_true rfl) rfl rfl (hv2) ?_)))))))
  refine v_if_ne_f (t := 11) rfl rfl (by omega) (q_iconst rfl (q_goto (t := 12) rfl rfl (v_zret rfl rfl (by decide) (bk_inl (v_if_eq_f (t := 136) rfl rfl (by decide) (q_iload rfl rfl (q_aload_n rfl rfl ?_)))))))
  refine v_sln 41 rfl rfl (by omega) (Nat.le_of_ble_eq_true rfl) (by decide) (by decide) (v_ic_eq_f (t := 88) rfl rfl (by decide) (q_aload_n rfl rfl (q_iload rfl rfl (v_sch 116 rfl rfl (by omega) (Nat.le_of_ble_eq_true rfl) (by decide) (by decide) (by decide) (v_bip rfl (by decide) (v_ic_ne_t (t := 130) rfl rfl (by decide) (v_iinc (v := 23) rfl rfl (Nat.le_of_ble_eq_true rfl) (by decide) ?_)))))))
  refine q_goto (t := 52) rfl rfl (q_iload rfl rfl (q_aload_n rfl rfl (v_sln 41 rfl rfl (by omega) (Nat.le_of_ble_eq_true rfl) (by decide) (by decide) (v_ic_gt_f (t := 136) rfl rfl (by decide) (q_aload_n rfl rfl (v_cv rfl rfl rfl rfl (Nat.le_of_ble_eq_true rfl) ⟨⟨rfl, rfl⟩, Nat.le_of_ble_eq_true rfl, rfl⟩ (Nat.le_of_ble_eq_true rfl) (Nat.le_of_ble_eq_true rfl) (q_aload_n rfl rfl ?_)))))))
  refine v_gi (z := 4) (v := f9) rfl rfl rfl (Nat.le_of_ble_eq_true rfl) rfl rfl (hv2) (v_if_ne_f (t := 11) rfl rfl (by omega) (q_iconst rfl (q_goto (t := 12) rfl rfl (v_zret rfl rfl (by decide) (bk_inl (v_if_eq_f (t := 136) rfl rfl (by decide) (q_iload rfl rfl ?_)))))))
  refine q_aload_n rfl rfl (v_sln 41 rfl rfl (by omega) (Nat.le_of_ble_eq_true rfl) (by decide) (by decide) (v_ic_eq_f (t := 88) rfl rfl (by decide) (q_aload_n rfl rfl (q_iload rfl rfl (v_sch 101 rfl rfl (by omega) (Nat.le_of_ble_eq_true rfl) (by decide) (by decide) (by decide) (v_bip rfl (by decide) (v_ic_ne_t (t := 130) rfl rfl (by decide) ?_)))))))
  refine v_iinc (v := 24) rfl rfl (Nat.le_of_ble_eq_true rfl) (by decide) (q_goto (t := 52) rfl rfl (q_iload rfl rfl (q_aload_n rfl rfl (v_sln 41 rfl rfl (by omega) (Nat.le_of_ble_eq_true rfl) (by decide) (by decide) (v_ic_gt_f (t := 136) rfl rfl (by decide) (q_aload_n rfl rfl (v_cv rfl rfl rfl rfl (Nat.le_of_ble_eq_true rfl) ⟨⟨rfl, rfl⟩, Nat.le_of_ble_eq_true rfl, rfl⟩ (Nat.le_of_ble_eq_true rfl) (Nat.le_of_ble_eq_true rfl) ?_)))))))
  refine q_aload_n rfl rfl (v_gi (z := 4) (v := f9) rfl rfl rfl (Nat.le_of_ble_eq_true rfl) rfl rfl (hv2) (v_if_ne_f (t := 11) rfl rfl (by omega) (q_iconst rfl (q_goto (t := 12) rfl rfl (v_zret rfl rfl (by decide) (bk_inl (v_if_eq_f (t := 136) rfl rfl (by decide) ?_)))))))
  refine q_iload rfl rfl (q_aload_n rfl rfl (v_sln 41 rfl rfl (by omega) (Nat.le_of_ble_eq_true rfl) (by decide) (by decide) (v_ic_eq_f (t := 88) rfl rfl (by decide) (q_aload_n rfl rfl (q_iload rfl rfl (v_sch 97 rfl rfl (by omega) (Nat.le_of_ble_eq_true rfl) (by decide) (by decide) (by decide) (v_bip rfl (by decide) ?_)))))))
  refine v_ic_ne_t (t := 130) rfl rfl (by decide) (v_iinc (v := 25) rfl rfl (Nat.le_of_ble_eq_true rfl) (by decide) (q_goto (t := 52) rfl rfl (q_iload rfl rfl (q_aload_n rfl rfl (v_sln 41 rfl rfl (by omega) (Nat.le_of_ble_eq_true rfl) (by decide) (by decide) (v_ic_gt_f (t := 136) rfl rfl (by decide) (q_aload_n rfl rfl ?_)))))))
  refine v_cv rfl rfl rfl rfl (Nat.le_of_ble_eq_true rfl) ⟨⟨rfl, rfl⟩, Nat.le_of_ble_eq_true rfl, rfl⟩ (Nat.le_of_ble_eq_true rfl) (Nat.le_of_ble_eq_true rfl) (q_aload_n rfl rfl (v_gi (z := 4) (v := f9) rfl rfl rfl (Nat.le_of_ble_eq_true rfl) rfl rfl (hv2) (v_if_ne_f (t := 11) rfl rfl (by omega) (q_iconst rfl (q_goto (t := 12) rfl rfl (v_zret rfl rfl (by decide) (bk_inl ?_)))))))
  refine v_if_eq_f (t := 136) rfl rfl (by decide) (q_iload rfl rfl (q_aload_n rfl rfl (v_sln 41 rfl rfl (by omega) (Nat.le_of_ble_eq_true rfl) (by decide) (by decide) (v_ic_eq_f (t := 88) rfl rfl (by decide) (q_aload_n rfl rfl (q_iload rfl rfl (v_sch 114 rfl rfl (by omega) (Nat.le_of_ble_eq_true rfl) (by decide) (by decide) (by decide) ?_)))))))
  refine v_bip rfl (by decide) (v_ic_ne_t (t := 130) rfl rfl (by decide) (v_iinc (v := 26) rfl rfl (Nat.le_of_ble_eq_true rfl) (by decide) (q_goto (t := 52) rfl rfl (q_iload rfl rfl (q_aload_n rfl rfl (v_sln 41 rfl rfl (by omega) (Nat.le_of_ble_eq_true rfl) (by decide) (by decide) (v_ic_gt_f (t := 136) rfl rfl (by decide) ?_)))))))
  refine q_aload_n rfl rfl (v_cv rfl rfl rfl rfl (Nat.le_of_ble_eq_true rfl) ⟨⟨rfl, rfl⟩, Nat.le_of_ble_eq_true rfl, rfl⟩ (Nat.le_of_ble_eq_true rfl) (Nat.le_of_ble_eq_true rfl) (q_aload_n rfl rfl (v_gi (z := 4) (v := f9) rfl rfl rfl (Nat.le_of_ble_eq_true rfl) rfl rfl (hv2) (v_if_ne_f (t := 11) rfl rfl (by omega) (q_iconst rfl (q_goto (t := 12) rfl rfl (v_zret rfl rfl (by decide) ?_)))))))
  refine bk_inl (v_if_eq_f (t := 136) rfl rfl (by decide) (q_iload rfl rfl (q_aload_n rfl rfl (v_sln 41 rfl rfl (by omega) (Nat.le_of_ble_eq_true rfl) (by decide) (by decide) (v_ic_eq_f (t := 88) rfl rfl (by decide) (q_aload_n rfl rfl (q_iload rfl rfl ?_)))))))
  refine v_sch 32 rfl rfl (by omega) (Nat.le_of_ble_eq_true rfl) (by decide) (by decide) (by decide) (v_bip rfl (by decide) (v_ic_ne_f (t := 130) rfl rfl (by decide) (q_iload rfl rfl (q_iload rfl rfl (v_isub (v := 4) rfl (by decide) (q_iload_n rfl rfl (q_iload_n rfl rfl ?_)))))))
  refine v_isub (v := L8 - r8) rfl rfl ?_
  by_cases h_5 : 4 ≠ L8 - r8
  · refine v_ic_ne_t (t := 121) rfl rfl ⟨h_5, ⟨by decide, by decide⟩, by omega, by omega⟩ (v_iinc (v := 5) rfl rfl (Nat.le_of_ble_eq_true rfl) (by decide) (Wp_ls [(4, vi 5), (6, vi 26), (0, .ref 1), (1, .ref (a_SB + 10)), (2, vi r8), (3, vi L8), (5, vi 22)] (lsub_cons rfl (lsub_cons rfl (lsub_cons rfl (lsub_cons rfl (lsub_cons rfl (lsub_cons rfl (lsub_cons rfl lsub_nil))))))) (q_iload rfl rfl (q_iconst rfl (v_iadd (v := 27) rfl (by decide) (q_istore rfl (Nat.le_of_ble_eq_true rfl) (v_iinc (v := 27) rfl rfl (Nat.le_of_ble_eq_true rfl) (by decide) ?_)))))))
    refine q_goto (t := 52) rfl rfl (Wp_ls [(0, .ref 1), (1, .ref (a_SB + 10)), (2, vi r8), (3, vi L8), (4, vi 5), (5, vi 27), (6, vi 27)] (lsub_cons rfl (lsub_cons rfl (lsub_cons rfl (lsub_cons rfl (lsub_cons rfl (lsub_cons rfl (lsub_cons rfl lsub_nil))))))) ?_)
    exact f_10_10_5 (d := d) (r8 := r8) (L8 := L8) (W8 := W8) hI hq0 hq1 hv0 hv1 hv2 hv3 hB ((wd10_4_f (by omega)).symm.trans hdW8) K0 K1
  · refine v_ic_ne_f (t := 121) rfl rfl (Decidable.not_not.mp h_5) (q_aload_n rfl rfl (q_aload_n rfl rfl (q_iload rfl rfl (q_iload_n rfl rfl (q_iload_n rfl rfl (q_iload_n rfl rfl (v_isub (v := L8 - r8) rfl rfl ?_)))))))
    refine v_cv rfl rfl rfl rfl (Nat.le_of_ble_eq_true rfl) ⟨⟨rfl, rfl⟩, Nat.le_of_ble_eq_true rfl, rfl⟩ (Nat.le_of_ble_eq_true rfl) (Nat.le_of_ble_eq_true rfl) (q_iconst rfl (q_istore rfl (Nat.le_of_ble_eq_true rfl) (q_iload rfl rfl (q_iload rfl rfl (v_ic_ge_f (t := 38) rfl rfl ⟨by decide, by first | exact q_e102c8f11 h_5 | omega, by first | exact q_559789b9d h_5 | omega⟩ (q_aload_n rfl rfl (q_iload_n rfl rfl ?_)))))))
    refine q_iload rfl rfl (v_iadd (v := 22) rfl (by decide) (v_sch 116 rfl rfl (by omega) (Nat.le_of_ble_eq_true rfl) (by decide) (by decide) (by decide) (q_aload_n rfl rfl (v_gr (t := 2) rfl rfl rfl (Nat.le_of_ble_eq_true rfl) rfl (q_iload_n rfl rfl (q_iload rfl rfl (v_iadd (v := r8) rfl (by omega) ?_)))))))
    have h_6 : -2147483648 ≤ (B r8) ∧ (B r8) ≤ 2147483647 := by rw [← hB r8]; exact ir_2 hI r8
    refine v_ba (v := (B r8)) rfl rfl (by decide) (by decide) (by omega) (hB r8) ?_
    by_cases h_7 : 116 = (B r8)
    · refine v_ic_eq_t (t := 32) rfl rfl h_7 (v_iinc (v := 1) rfl rfl (Nat.le_of_ble_eq_true rfl) (by decide) (q_goto (t := 3) rfl rfl (q_iload rfl rfl (q_iload rfl rfl (v_ic_ge_f (t := 38) rfl rfl ⟨by decide, by first | exact q_a2240bc6c h_5 | omega, by first | exact q_559789b9d h_5 | omega⟩ (q_aload_n rfl rfl (q_iload_n rfl rfl ?_)))))))
      refine q_iload rfl rfl (v_iadd (v := 23) rfl (by decide) (v_sch 101 rfl rfl (by omega) (Nat.le_of_ble_eq_true rfl) (by decide) (by decide) (by decide) (q_aload_n rfl rfl (v_gr (t := 2) rfl rfl rfl (Nat.le_of_ble_eq_true rfl) rfl (q_iload_n rfl rfl (q_iload rfl rfl (v_iadd (v := r8 + 1) rfl rfl ?_)))))))
      have h_8 : -2147483648 ≤ (B (r8 + 1)) ∧ (B (r8 + 1)) ≤ 2147483647 := by rw [← hB (r8 + 1)]; exact ir_2 hI (r8 + 1)
      refine v_ba (v := (B (r8 + 1))) rfl rfl (by decide) (by decide) (by omega) (hB (r8 + 1)) ?_
      by_cases h_9 : 101 = (B (r8 + 1))
      · refine v_ic_eq_t (t := 32) rfl rfl h_9 (v_iinc (v := 2) rfl rfl (Nat.le_of_ble_eq_true rfl) (by decide) (q_goto (t := 3) rfl rfl (q_iload rfl rfl (q_iload rfl rfl (v_ic_ge_f (t := 38) rfl rfl ⟨by decide, by first | exact q_81cf1e9c6 h_5 | omega, by first | exact q_559789b9d h_5 | omega⟩ (q_aload_n rfl rfl (q_iload_n rfl rfl ?_)))))))
        refine q_iload rfl rfl (v_iadd (v := 24) rfl (by decide) (v_sch 97 rfl rfl (by omega) (Nat.le_of_ble_eq_true rfl) (by decide) (by decide) (by decide) (q_aload_n rfl rfl (v_gr (t := 2) rfl rfl rfl (Nat.le_of_ble_eq_true rfl) rfl (q_iload_n rfl rfl (q_iload rfl rfl (v_iadd (v := r8 + 2) rfl rfl ?_)))))))
        have h_10 : -2147483648 ≤ (B (r8 + 2)) ∧ (B (r8 + 2)) ≤ 2147483647 := by rw [← hB (r8 + 2)]; exact ir_2 hI (r8 + 2)
        refine v_ba (v := (B (r8 + 2))) rfl rfl (by decide) (by decide) (by omega) (hB (r8 + 2)) ?_
        by_cases h_11 : 97 = (B (r8 + 2))
        · refine v_ic_eq_t (t := 32) rfl rfl h_11 (v_iinc (v := 3) rfl rfl (Nat.le_of_ble_eq_true rfl) (by decide) (q_goto (t := 3) rfl rfl (q_iload rfl rfl (q_iload rfl rfl (v_ic_ge_f (t := 38) rfl rfl ⟨by decide, by first | exact q_bf9798940 h_5 | omega, by first | exact q_559789b9d h_5 | omega⟩ (q_aload_n rfl rfl (q_iload_n rfl rfl ?_)))))))
          refine q_iload rfl rfl (v_iadd (v := 25) rfl (by decide) (v_sch 114 rfl rfl (by omega) (Nat.le_of_ble_eq_true rfl) (by decide) (by decide) (by decide) (q_aload_n rfl rfl (v_gr (t := 2) rfl rfl rfl (Nat.le_of_ble_eq_true rfl) rfl (q_iload_n rfl rfl (q_iload rfl rfl (v_iadd (v := r8 + 3) rfl rfl ?_)))))))
          have h_12 : -2147483648 ≤ (B (r8 + 3)) ∧ (B (r8 + 3)) ≤ 2147483647 := by rw [← hB (r8 + 3)]; exact ir_2 hI (r8 + 3)
          refine v_ba (v := (B (r8 + 3))) rfl rfl (by decide) (by decide) (by omega) (hB (r8 + 3)) ?_
          by_cases h_13 : 114 = (B (r8 + 3))
          · refine v_ic_eq_t (t := 32) rfl rfl h_13 (v_iinc (v := 4) rfl rfl (Nat.le_of_ble_eq_true rfl) (by decide) (Wp_ls [(5, vi 4), (0, .ref 1), (1, .ref (a_SB + 10)), (2, vi 22), (3, vi r8), (4, vi (L8 - r8))] (lsub_cons rfl (lsub_cons rfl (lsub_cons rfl (lsub_cons rfl (lsub_cons rfl (lsub_cons rfl lsub_nil)))))) (q_goto (t := 3) rfl rfl (q_iload rfl rfl (q_iload rfl rfl (v_ic_ge_t (t := 38) rfl rfl ⟨by first | exact q_5edcef13d h_5 | omega, by first | exact q_62ba5a5ea h_5 | omega, by decide⟩ (q_iconst rfl ?_)))))))
            refine v_zret rfl rfl (by decide) (bk_inl (v_if_eq_f (t := 121) rfl rfl (by decide) (q_aload_n rfl rfl (q_iload_n rfl rfl (v_pi (z := 2) rfl rfl rfl (Nat.le_of_ble_eq_true rfl) rfl rfl rfl (by decide) (q_iload rfl rfl (q_iret rfl rfl ?_)))))))
            have hw9 : W8 = 4 := hdW8.symm.trans (wd10_4_t (by omega))
            have hI_14 := iw_1_2 (v := L8) hI ⟨by first | (clear h_1 h_2 h_3 h_4 h_6 h_7 h_8 h_9 h_10 h_11 h_12 h_13 hw9; omega) | omega, by first | (clear h_1 h_2 h_3 h_4 h_5 h_6 h_7 h_8 h_9 h_10 h_11 h_12 h_13 hw9; omega) | omega⟩
            have h_15 : (up c 1 2 L8) 1 2 = L8 := (up_e rfl)
            have h_16 : (up c 1 2 L8) 1 4 = f9 := ((up_n (by decide)).trans (hv2))
            have h_17 : (up c 1 2 L8) 1 5 = p9 := ((up_n (by decide)).trans (hv3))
            exact zv (by omega) (K1 (up c 1 2 L8) hI_14 (fun a j hm => up_b (Decidable.or_iff_not_imp_left.mpr (fun h1 h2 => hm (Or.inl ⟨Decidable.not_not.mp h1, h2⟩)))) (by omega) (by omega) (by omega) (by omega))
          · refine v_ic_eq_f (t := 32) rfl rfl ⟨h_13, ⟨by decide, by decide⟩, by first | exact q_f97c35332 h_12 | omega, by first | exact q_79e53d295 h_12 | omega⟩ (q_iconst rfl (v_zret rfl rfl (by decide) (bk_inl (v_if_eq_t (t := 121) rfl rfl (by decide) (v_iinc (v := 5) rfl rfl (Nat.le_of_ble_eq_true rfl) (by decide) (Wp_ls [(4, vi 5), (6, vi 26), (0, .ref 1), (1, .ref (a_SB + 10)), (2, vi r8), (3, vi L8), (5, vi 22)] (lsub_cons rfl (lsub_cons rfl (lsub_cons rfl (lsub_cons rfl (lsub_cons rfl (lsub_cons rfl (lsub_cons rfl lsub_nil))))))) (q_iload rfl rfl ?_)))))))
            refine q_iconst rfl (v_iadd (v := 27) rfl (by decide) (q_istore rfl (Nat.le_of_ble_eq_true rfl) (v_iinc (v := 27) rfl rfl (Nat.le_of_ble_eq_true rfl) (by decide) (q_goto (t := 52) rfl rfl (Wp_ls [(0, .ref 1), (1, .ref (a_SB + 10)), (2, vi r8), (3, vi L8), (4, vi 5), (5, vi 27), (6, vi 27)] (lsub_cons rfl (lsub_cons rfl (lsub_cons rfl (lsub_cons rfl (lsub_cons rfl (lsub_cons rfl (lsub_cons rfl lsub_nil))))))) ?_)))))
            exact f_10_10_5 (d := d) (r8 := r8) (L8 := L8) (W8 := W8) hI hq0 hq1 hv0 hv1 hv2 hv3 hB ((wd10_4_f (by omega)).symm.trans hdW8) K0 K1
        · refine v_ic_eq_f (t := 32) rfl rfl ⟨h_11, ⟨by decide, by decide⟩, by first | exact q_f97c35332 h_10 | omega, by first | exact q_79e53d295 h_10 | omega⟩ (q_iconst rfl (v_zret rfl rfl (by decide) (bk_inl (v_if_eq_t (t := 121) rfl rfl (by decide) (v_iinc (v := 5) rfl rfl (Nat.le_of_ble_eq_true rfl) (by decide) (Wp_ls [(4, vi 5), (6, vi 26), (0, .ref 1), (1, .ref (a_SB + 10)), (2, vi r8), (3, vi L8), (5, vi 22)] (lsub_cons rfl (lsub_cons rfl (lsub_cons rfl (lsub_cons rfl (lsub_cons rfl (lsub_cons rfl (lsub_cons rfl lsub_nil))))))) (q_iload rfl rfl ?_)))))))
          refine q_iconst rfl (v_iadd (v := 27) rfl (by decide) (q_istore rfl (Nat.le_of_ble_eq_true rfl) (v_iinc (v := 27) rfl rfl (Nat.le_of_ble_eq_true rfl) (by decide) (q_goto (t := 52) rfl rfl (Wp_ls [(0, .ref 1), (1, .ref (a_SB + 10)), (2, vi r8), (3, vi L8), (4, vi 5), (5, vi 27), (6, vi 27)] (lsub_cons rfl (lsub_cons rfl (lsub_cons rfl (lsub_cons rfl (lsub_cons rfl (lsub_cons rfl (lsub_cons rfl lsub_nil))))))) ?_)))))
          exact f_10_10_5 (d := d) (r8 := r8) (L8 := L8) (W8 := W8) hI hq0 hq1 hv0 hv1 hv2 hv3 hB ((wd10_4_f (by omega)).symm.trans hdW8) K0 K1
      · refine v_ic_eq_f (t := 32) rfl rfl ⟨h_9, ⟨by decide, by decide⟩, by first | exact q_f97c35332 h_8 | omega, by first | exact q_79e53d295 h_8 | omega⟩ (q_iconst rfl (v_zret rfl rfl (by decide) (bk_inl (v_if_eq_t (t := 121) rfl rfl (by decide) (v_iinc (v := 5) rfl rfl (Nat.le_of_ble_eq_true rfl) (by decide) (Wp_ls [(4, vi 5), (6, vi 26), (0, .ref 1), (1, .ref (a_SB + 10)), (2, vi r8), (3, vi L8), (5, vi 22)] (lsub_cons rfl (lsub_cons rfl (lsub_cons rfl (lsub_cons rfl (lsub_cons rfl (lsub_cons rfl (lsub_cons rfl lsub_nil))))))) (q_iload rfl rfl ?_)))))))
        refine q_iconst rfl (v_iadd (v := 27) rfl (by decide) (q_istore rfl (Nat.le_of_ble_eq_true rfl) (v_iinc (v := 27) rfl rfl (Nat.le_of_ble_eq_true rfl) (by decide) (q_goto (t := 52) rfl rfl (Wp_ls [(0, .ref 1), (1, .ref (a_SB + 10)), (2, vi r8), (3, vi L8), (4, vi 5), (5, vi 27), (6, vi 27)] (lsub_cons rfl (lsub_cons rfl (lsub_cons rfl (lsub_cons rfl (lsub_cons rfl (lsub_cons rfl (lsub_cons rfl lsub_nil))))))) ?_)))))
        exact f_10_10_5 (d := d) (r8 := r8) (L8 := L8) (W8 := W8) hI hq0 hq1 hv0 hv1 hv2 hv3 hB ((wd10_4_f (by omega)).symm.trans hdW8) K0 K1
    · refine v_ic_eq_f (t := 32) rfl rfl ⟨h_7, ⟨by decide, by decide⟩, by first | exact q_f97c35332 h_6 | omega, by first | exact q_79e53d295 h_6 | omega⟩ (q_iconst rfl (v_zret rfl rfl (by decide) (bk_inl (v_if_eq_t (t := 121) rfl rfl (by decide) (v_iinc (v := 5) rfl rfl (Nat.le_of_ble_eq_true rfl) (by decide) (Wp_ls [(4, vi 5), (6, vi 26), (0, .ref 1), (1, .ref (a_SB + 10)), (2, vi r8), (3, vi L8), (5, vi 22)] (lsub_cons rfl (lsub_cons rfl (lsub_cons rfl (lsub_cons rfl (lsub_cons rfl (lsub_cons rfl (lsub_cons rfl lsub_nil))))))) (q_iload rfl rfl ?_)))))))
      refine q_iconst rfl (v_iadd (v := 27) rfl (by decide) (q_istore rfl (Nat.le_of_ble_eq_true rfl) (v_iinc (v := 27) rfl rfl (Nat.le_of_ble_eq_true rfl) (by decide) (q_goto (t := 52) rfl rfl (Wp_ls [(0, .ref 1), (1, .ref (a_SB + 10)), (2, vi r8), (3, vi L8), (4, vi 5), (5, vi 27), (6, vi 27)] (lsub_cons rfl (lsub_cons rfl (lsub_cons rfl (lsub_cons rfl (lsub_cons rfl (lsub_cons rfl (lsub_cons rfl lsub_nil))))))) ?_)))))
      exact f_10_10_5 (d := d) (r8 := r8) (L8 := L8) (W8 := W8) hI hq0 hq1 hv0 hv1 hv2 hv3 hB ((wd10_4_f (by omega)).symm.trans hdW8) K0 K1

set_option maxRecDepth 100000 in
set_option maxHeartbeats 4000000 in
theorem f_10_10_3 {sc : List Int32} {e : Int} {d u P Q : Nat} {c : ME} {e1 a9 f9 p9 W8 r8 L8 : Int} {B : Int → Int} {Z : AR → Prop} (hI : Iv u e P Q c) (hq0 : (f9 = 0)) (hq1 : (r8 ≥ 0 ∧ r8 ≤ L8 ∧ L8 ≤ 600)) (hv0 : c 1 1 = e1) (hv1 : c 1 2 = a9) (hv2 : c 1 4 = f9) (hv3 : c 1 5 = p9) (hB : ∀ j : Int, c 2 j = B j) (hdW8 : wd10_3 B r8 L8 = W8) (K0 : ∀ c2 : ME, Iv u e P Q c2 → (∀ (a : Nat) (j : Int), ¬ ((a = 1 ∧ j = 2) ∨ (a = 1 ∧ j = 4) ∨ (a = 1 ∧ j = 5)) → c2 a j = c a j) → ((W8 = (-1))) → (c2 1 2 = a9) → (c2 1 4 = 1) → (c2 1 5 = r8) → Z (.inl (some (vi (-1))), Wd P Q P P c2, 0, 0)) (K1 : ∀ c2 : ME, Iv u e P Q c2 → (∀ (a : Nat) (j : Int), ¬ ((a = 1 ∧ j = 2) ∨ (a = 1 ∧ j = 4) ∨ (a = 1 ∧ j = 5)) → c2 a j = c a j) → ((W8 ≥ 0 ∧ W8 ≤ 7)) → (c2 1 2 = L8) → (c2 1 4 = 0) → (c2 1 5 = p9) → Z (.inl (some (vi W8)), Wd P Q P P c2, 0, 0)) : Wp sc (d + 12) 10 52 [(0, .ref 1), (1, .ref (a_SB + 10)), (2, vi r8), (3, vi L8), (4, vi 3), (5, vi 16), (6, vi 16)] [] (Wd P Q P P c) 0 0 Z := by
  have hP := iv_P hI
  have hQ := iv_Q hI
  have h_1 := ir_1_1 hI
  have h_2 := ir_1_2 hI
  have h_3 := ir_1_4 hI
  have h_4 := ir_1_5 hI
  refine q_iload rfl rfl (q_aload_n rfl rfl (v_sln 41 rfl rfl (by omega) (Nat.le_of_ble_eq_true rfl) (by decide) (by decide) (v_ic_gt_f (t := 136) rfl rfl (by decide) (q_aload_n rfl rfl (v_cv rfl rfl rfl rfl (Nat.le_of_ble_eq_true rfl) ⟨⟨rfl, rfl⟩, Nat.le_of_ble_eq_true rfl, rfl⟩ (Nat.le_of_ble_eq_true rfl) (Nat.le_of_ble_eq_true rfl) (q_aload_n rfl rfl (v_gi (z := 4) (v := f9) rfl rfl rfl (Nat.le_of_ble_eq_true rfl) rfl rfl (hv2) ?_)))))))
  refine v_if_ne_f (t := 11) rfl rfl (by omega) (q_iconst rfl (q_goto (t := 12) rfl rfl (v_zret rfl rfl (by decide) (bk_inl (v_if_eq_f (t := 136) rfl rfl (by decide) (q_iload rfl rfl (q_aload_n rfl rfl ?_)))))))
  refine v_sln 41 rfl rfl (by omega) (Nat.le_of_ble_eq_true rfl) (by decide) (by decide) (v_ic_eq_f (t := 88) rfl rfl (by decide) (q_aload_n rfl rfl (q_iload rfl rfl (v_sch 115 rfl rfl (by omega) (Nat.le_of_ble_eq_true rfl) (by decide) (by decide) (by decide) (v_bip rfl (by decide) (v_ic_ne_t (t := 130) rfl rfl (by decide) (v_iinc (v := 17) rfl rfl (Nat.le_of_ble_eq_true rfl) (by decide) ?_)))))))
  refine q_goto (t := 52) rfl rfl (q_iload rfl rfl (q_aload_n rfl rfl (v_sln 41 rfl rfl (by omega) (Nat.le_of_ble_eq_true rfl) (by decide) (by decide) (v_ic_gt_f (t := 136) rfl rfl (by decide) (q_aload_n rfl rfl (v_cv rfl rfl rfl rfl (Nat.le_of_ble_eq_true rfl) ⟨⟨rfl, rfl⟩, Nat.le_of_ble_eq_true rfl, rfl⟩ (Nat.le_of_ble_eq_true rfl) (Nat.le_of_ble_eq_true rfl) (q_aload_n rfl rfl ?_)))))))
  refine v_gi (z := 4) (v := f9) rfl rfl rfl (Nat.le_of_ble_eq_true rfl) rfl rfl (hv2) (v_if_ne_f (t := 11) rfl rfl (by omega) (q_iconst rfl (q_goto (t := 12) rfl rfl (v_zret rfl rfl (by decide) (bk_inl (v_if_eq_f (t := 136) rfl rfl (by decide) (q_iload rfl rfl ?_)))))))
  refine q_aload_n rfl rfl (v_sln 41 rfl rfl (by omega) (Nat.le_of_ble_eq_true rfl) (by decide) (by decide) (v_ic_eq_f (t := 88) rfl rfl (by decide) (q_aload_n rfl rfl (q_iload rfl rfl (v_sch 99 rfl rfl (by omega) (Nat.le_of_ble_eq_true rfl) (by decide) (by decide) (by decide) (v_bip rfl (by decide) (v_ic_ne_t (t := 130) rfl rfl (by decide) ?_)))))))
  refine v_iinc (v := 18) rfl rfl (Nat.le_of_ble_eq_true rfl) (by decide) (q_goto (t := 52) rfl rfl (q_iload rfl rfl (q_aload_n rfl rfl (v_sln 41 rfl rfl (by omega) (Nat.le_of_ble_eq_true rfl) (by decide) (by decide) (v_ic_gt_f (t := 136) rfl rfl (by decide) (q_aload_n rfl rfl (v_cv rfl rfl rfl rfl (Nat.le_of_ble_eq_true rfl) ⟨⟨rfl, rfl⟩, Nat.le_of_ble_eq_true rfl, rfl⟩ (Nat.le_of_ble_eq_true rfl) (Nat.le_of_ble_eq_true rfl) ?_)))))))
  refine q_aload_n rfl rfl (v_gi (z := 4) (v := f9) rfl rfl rfl (Nat.le_of_ble_eq_true rfl) rfl rfl (hv2) (v_if_ne_f (t := 11) rfl rfl (by omega) (q_iconst rfl (q_goto (t := 12) rfl rfl (v_zret rfl rfl (by decide) (bk_inl (v_if_eq_f (t := 136) rfl rfl (by decide) ?_)))))))
  refine q_iload rfl rfl (q_aload_n rfl rfl (v_sln 41 rfl rfl (by omega) (Nat.le_of_ble_eq_true rfl) (by decide) (by decide) (v_ic_eq_f (t := 88) rfl rfl (by decide) (q_aload_n rfl rfl (q_iload rfl rfl (v_sch 111 rfl rfl (by omega) (Nat.le_of_ble_eq_true rfl) (by decide) (by decide) (by decide) (v_bip rfl (by decide) ?_)))))))
  refine v_ic_ne_t (t := 130) rfl rfl (by decide) (v_iinc (v := 19) rfl rfl (Nat.le_of_ble_eq_true rfl) (by decide) (q_goto (t := 52) rfl rfl (q_iload rfl rfl (q_aload_n rfl rfl (v_sln 41 rfl rfl (by omega) (Nat.le_of_ble_eq_true rfl) (by decide) (by decide) (v_ic_gt_f (t := 136) rfl rfl (by decide) (q_aload_n rfl rfl ?_)))))))
  refine v_cv rfl rfl rfl rfl (Nat.le_of_ble_eq_true rfl) ⟨⟨rfl, rfl⟩, Nat.le_of_ble_eq_true rfl, rfl⟩ (Nat.le_of_ble_eq_true rfl) (Nat.le_of_ble_eq_true rfl) (q_aload_n rfl rfl (v_gi (z := 4) (v := f9) rfl rfl rfl (Nat.le_of_ble_eq_true rfl) rfl rfl (hv2) (v_if_ne_f (t := 11) rfl rfl (by omega) (q_iconst rfl (q_goto (t := 12) rfl rfl (v_zret rfl rfl (by decide) (bk_inl ?_)))))))
  refine v_if_eq_f (t := 136) rfl rfl (by decide) (q_iload rfl rfl (q_aload_n rfl rfl (v_sln 41 rfl rfl (by omega) (Nat.le_of_ble_eq_true rfl) (by decide) (by decide) (v_ic_eq_f (t := 88) rfl rfl (by decide) (q_aload_n rfl rfl (q_iload rfl rfl (v_sch 111 rfl rfl (by omega) (Nat.le_of_ble_eq_true rfl) (by decide) (by decide) (by decide) ?_)))))))
  refine v_bip rfl (by decide) (v_ic_ne_t (t := 130) rfl rfl (by decide) (v_iinc (v := 20) rfl rfl (Nat.le_of_ble_eq_true rfl) (by decide) (q_goto (t := 52) rfl rfl (q_iload rfl rfl (q_aload_n rfl rfl (v_sln 41 rfl rfl (by omega) (Nat.le_of_ble_eq_true rfl) (by decide) (by decide) (v_ic_gt_f (t := 136) rfl rfl (by decide) ?_)))))))
  refine q_aload_n rfl rfl (v_cv rfl rfl rfl rfl (Nat.le_of_ble_eq_true rfl) ⟨⟨rfl, rfl⟩, Nat.le_of_ble_eq_true rfl, rfl⟩ (Nat.le_of_ble_eq_true rfl) (Nat.le_of_ble_eq_true rfl) (q_aload_n rfl rfl (v_gi (z := 4) (v := f9) rfl rfl rfl (Nat.le_of_ble_eq_true rfl) rfl rfl (hv2) (v_if_ne_f (t := 11) rfl rfl (by omega) (q_iconst rfl (q_goto (t := 12) rfl rfl (v_zret rfl rfl (by decide) ?_)))))))
  refine bk_inl (v_if_eq_f (t := 136) rfl rfl (by decide) (q_iload rfl rfl (q_aload_n rfl rfl (v_sln 41 rfl rfl (by omega) (Nat.le_of_ble_eq_true rfl) (by decide) (by decide) (v_ic_eq_f (t := 88) rfl rfl (by decide) (q_aload_n rfl rfl (q_iload rfl rfl ?_)))))))
  refine v_sch 112 rfl rfl (by omega) (Nat.le_of_ble_eq_true rfl) (by decide) (by decide) (by decide) (v_bip rfl (by decide) (v_ic_ne_t (t := 130) rfl rfl (by decide) (v_iinc (v := 21) rfl rfl (Nat.le_of_ble_eq_true rfl) (by decide) (Wp_ls [(6, vi 21), (0, .ref 1), (1, .ref (a_SB + 10)), (2, vi r8), (3, vi L8), (4, vi 3), (5, vi 16)] (lsub_cons rfl (lsub_cons rfl (lsub_cons rfl (lsub_cons rfl (lsub_cons rfl (lsub_cons rfl (lsub_cons rfl lsub_nil))))))) (q_goto (t := 52) rfl rfl (q_iload rfl rfl (q_aload_n rfl rfl ?_)))))))
  refine v_sln 41 rfl rfl (by omega) (Nat.le_of_ble_eq_true rfl) (by decide) (by decide) (v_ic_gt_f (t := 136) rfl rfl (by decide) (q_aload_n rfl rfl (v_cv rfl rfl rfl rfl (Nat.le_of_ble_eq_true rfl) ⟨⟨rfl, rfl⟩, Nat.le_of_ble_eq_true rfl, rfl⟩ (Nat.le_of_ble_eq_true rfl) (Nat.le_of_ble_eq_true rfl) (q_aload_n rfl rfl (v_gi (z := 4) (v := f9) rfl rfl rfl (Nat.le_of_ble_eq_true rfl) rfl rfl (hv2) (v_if_ne_f (t := 11) rfl rfl (by omega) (q_iconst rfl ?_)))))))
  refine q_goto (t := 12) rfl rfl (v_zret rfl rfl (by decide) (bk_inl (v_if_eq_f (t := 136) rfl rfl (by decide) (q_iload rfl rfl (q_aload_n rfl rfl (v_sln 41 rfl rfl (by omega) (Nat.le_of_ble_eq_true rfl) (by decide) (by decide) (v_ic_eq_f (t := 88) rfl rfl (by decide) ?_)))))))
  refine q_aload_n rfl rfl (q_iload rfl rfl (v_sch 32 rfl rfl (by omega) (Nat.le_of_ble_eq_true rfl) (by decide) (by decide) (by decide) (v_bip rfl (by decide) (v_ic_ne_f (t := 130) rfl rfl (by decide) (q_iload rfl rfl (q_iload rfl rfl (v_isub (v := 5) rfl (by decide) ?_)))))))
  refine q_iload_n rfl rfl (q_iload_n rfl rfl (v_isub (v := L8 - r8) rfl rfl ?_))
  by_cases h_5 : 5 ≠ L8 - r8
  · refine v_ic_ne_t (t := 121) rfl rfl ⟨h_5, ⟨by decide, by decide⟩, by omega, by omega⟩ (v_iinc (v := 4) rfl rfl (Nat.le_of_ble_eq_true rfl) (by decide) (q_iload rfl rfl (q_iconst rfl (v_iadd (v := 22) rfl (by decide) (q_istore rfl (Nat.le_of_ble_eq_true rfl) (v_iinc (v := 22) rfl rfl (Nat.le_of_ble_eq_true rfl) (by decide) (q_goto (t := 52) rfl rfl ?_)))))))
    refine Wp_ls [(0, .ref 1), (1, .ref (a_SB + 10)), (2, vi r8), (3, vi L8), (4, vi 4), (5, vi 22), (6, vi 22)] (lsub_cons rfl (lsub_cons rfl (lsub_cons rfl (lsub_cons rfl (lsub_cons rfl (lsub_cons rfl (lsub_cons rfl lsub_nil))))))) ?_
    exact f_10_10_4 (d := d) (r8 := r8) (L8 := L8) (W8 := W8) hI hq0 hq1 hv0 hv1 hv2 hv3 hB ((wd10_3_f (by omega)).symm.trans hdW8) K0 K1
  · refine v_ic_ne_f (t := 121) rfl rfl (Decidable.not_not.mp h_5) (q_aload_n rfl rfl (q_aload_n rfl rfl (q_iload rfl rfl (q_iload_n rfl rfl (q_iload_n rfl rfl (q_iload_n rfl rfl (v_isub (v := L8 - r8) rfl rfl ?_)))))))
    refine v_cv rfl rfl rfl rfl (Nat.le_of_ble_eq_true rfl) ⟨⟨rfl, rfl⟩, Nat.le_of_ble_eq_true rfl, rfl⟩ (Nat.le_of_ble_eq_true rfl) (Nat.le_of_ble_eq_true rfl) (q_iconst rfl (q_istore rfl (Nat.le_of_ble_eq_true rfl) (q_iload rfl rfl (q_iload rfl rfl (v_ic_ge_f (t := 38) rfl rfl ⟨by decide, by first | exact q_38a4b4bff h_5 | omega, by first | exact q_fe3598997 h_5 | omega⟩ (q_aload_n rfl rfl (q_iload_n rfl rfl ?_)))))))
    refine q_iload rfl rfl (v_iadd (v := 16) rfl (by decide) (v_sch 115 rfl rfl (by omega) (Nat.le_of_ble_eq_true rfl) (by decide) (by decide) (by decide) (q_aload_n rfl rfl (v_gr (t := 2) rfl rfl rfl (Nat.le_of_ble_eq_true rfl) rfl (q_iload_n rfl rfl (q_iload rfl rfl (v_iadd (v := r8) rfl (by omega) ?_)))))))
    have h_6 : -2147483648 ≤ (B r8) ∧ (B r8) ≤ 2147483647 := by rw [← hB r8]; exact ir_2 hI r8
    refine v_ba (v := (B r8)) rfl rfl (by decide) (by decide) (by omega) (hB r8) ?_
    by_cases h_7 : 115 = (B r8)
    · refine v_ic_eq_t (t := 32) rfl rfl h_7 (v_iinc (v := 1) rfl rfl (Nat.le_of_ble_eq_true rfl) (by decide) (q_goto (t := 3) rfl rfl (q_iload rfl rfl (q_iload rfl rfl (v_ic_ge_f (t := 38) rfl rfl ⟨by decide, by first | exact q_2f422e7b9 h_5 | omega, by first | exact q_fe3598997 h_5 | omega⟩ (q_aload_n rfl rfl (q_iload_n rfl rfl ?_)))))))
      refine q_iload rfl rfl (v_iadd (v := 17) rfl (by decide) (v_sch 99 rfl rfl (by omega) (Nat.le_of_ble_eq_true rfl) (by decide) (by decide) (by decide) (q_aload_n rfl rfl (v_gr (t := 2) rfl rfl rfl (Nat.le_of_ble_eq_true rfl) rfl (q_iload_n rfl rfl (q_iload rfl rfl (v_iadd (v := r8 + 1) rfl rfl ?_)))))))
      have h_8 : -2147483648 ≤ (B (r8 + 1)) ∧ (B (r8 + 1)) ≤ 2147483647 := by rw [← hB (r8 + 1)]; exact ir_2 hI (r8 + 1)
      refine v_ba (v := (B (r8 + 1))) rfl rfl (by decide) (by decide) (by omega) (hB (r8 + 1)) ?_
      by_cases h_9 : 99 = (B (r8 + 1))
      · refine v_ic_eq_t (t := 32) rfl rfl h_9 (v_iinc (v := 2) rfl rfl (Nat.le_of_ble_eq_true rfl) (by decide) (q_goto (t := 3) rfl rfl (q_iload rfl rfl (q_iload rfl rfl (v_ic_ge_f (t := 38) rfl rfl ⟨by decide, by first | exact q_415b3b712 h_5 | omega, by first | exact q_fe3598997 h_5 | omega⟩ (q_aload_n rfl rfl (q_iload_n rfl rfl ?_)))))))
        refine q_iload rfl rfl (v_iadd (v := 18) rfl (by decide) (v_sch 111 rfl rfl (by omega) (Nat.le_of_ble_eq_true rfl) (by decide) (by decide) (by decide) (q_aload_n rfl rfl (v_gr (t := 2) rfl rfl rfl (Nat.le_of_ble_eq_true rfl) rfl (q_iload_n rfl rfl (q_iload rfl rfl (v_iadd (v := r8 + 2) rfl rfl ?_)))))))
        have h_10 : -2147483648 ≤ (B (r8 + 2)) ∧ (B (r8 + 2)) ≤ 2147483647 := by rw [← hB (r8 + 2)]; exact ir_2 hI (r8 + 2)
        refine v_ba (v := (B (r8 + 2))) rfl rfl (by decide) (by decide) (by omega) (hB (r8 + 2)) ?_
        by_cases h_11 : 111 = (B (r8 + 2))
        · refine v_ic_eq_t (t := 32) rfl rfl h_11 (v_iinc (v := 3) rfl rfl (Nat.le_of_ble_eq_true rfl) (by decide) (q_goto (t := 3) rfl rfl (q_iload rfl rfl (q_iload rfl rfl (v_ic_ge_f (t := 38) rfl rfl ⟨by decide, by first | exact q_170273d75 h_5 | omega, by first | exact q_fe3598997 h_5 | omega⟩ (q_aload_n rfl rfl (q_iload_n rfl rfl ?_)))))))
          refine q_iload rfl rfl (v_iadd (v := 19) rfl (by decide) (v_sch 111 rfl rfl (by omega) (Nat.le_of_ble_eq_true rfl) (by decide) (by decide) (by decide) (q_aload_n rfl rfl (v_gr (t := 2) rfl rfl rfl (Nat.le_of_ble_eq_true rfl) rfl (q_iload_n rfl rfl (q_iload rfl rfl (v_iadd (v := r8 + 3) rfl rfl ?_)))))))
          have h_12 : -2147483648 ≤ (B (r8 + 3)) ∧ (B (r8 + 3)) ≤ 2147483647 := by rw [← hB (r8 + 3)]; exact ir_2 hI (r8 + 3)
          refine v_ba (v := (B (r8 + 3))) rfl rfl (by decide) (by decide) (by omega) (hB (r8 + 3)) ?_
          by_cases h_13 : 111 = (B (r8 + 3))
          · refine v_ic_eq_t (t := 32) rfl rfl h_13 (v_iinc (v := 4) rfl rfl (Nat.le_of_ble_eq_true rfl) (by decide) (Wp_ls [(5, vi 4), (0, .ref 1), (1, .ref (a_SB + 10)), (2, vi 16), (3, vi r8), (4, vi (L8 - r8))] (lsub_cons rfl (lsub_cons rfl (lsub_cons rfl (lsub_cons rfl (lsub_cons rfl (lsub_cons rfl lsub_nil)))))) (q_goto (t := 3) rfl rfl (q_iload rfl rfl (q_iload rfl rfl (v_ic_ge_f (t := 38) rfl rfl ⟨by decide, by first | exact q_9d61d9b81 h_5 | omega, by first | exact q_fe3598997 h_5 | omega⟩ (q_aload_n rfl rfl ?_)))))))
            refine q_iload_n rfl rfl (q_iload rfl rfl (v_iadd (v := 20) rfl (by decide) (v_sch 112 rfl rfl (by omega) (Nat.le_of_ble_eq_true rfl) (by decide) (by decide) (by decide) (q_aload_n rfl rfl (v_gr (t := 2) rfl rfl rfl (Nat.le_of_ble_eq_true rfl) rfl (q_iload_n rfl rfl (q_iload rfl rfl ?_)))))))
            refine v_iadd (v := r8 + 4) rfl rfl ?_
            have h_14 : -2147483648 ≤ (B (r8 + 4)) ∧ (B (r8 + 4)) ≤ 2147483647 := by rw [← hB (r8 + 4)]; exact ir_2 hI (r8 + 4)
            refine v_ba (v := (B (r8 + 4))) rfl rfl (by decide) (by decide) ⟨by first | (clear h_1 h_2 h_3 h_4 h_5 h_6 h_7 h_8 h_9 h_10 h_11 h_12 h_13 h_14; omega) | omega, by first | (clear h_1 h_2 h_3 h_4 h_6 h_7 h_8 h_9 h_10 h_11 h_12 h_13 h_14; omega) | omega⟩ (hB (r8 + 4)) ?_
            by_cases h_15 : 112 = (B (r8 + 4))
            · refine v_ic_eq_t (t := 32) rfl rfl h_15 (v_iinc (v := 5) rfl rfl (Nat.le_of_ble_eq_true rfl) (by decide) (q_goto (t := 3) rfl rfl (q_iload rfl rfl (q_iload rfl rfl (v_ic_ge_t (t := 38) rfl rfl ⟨by first | exact q_c439bfa43 h_5 | (clear h_1 h_2 h_3 h_4 h_6 h_7 h_8 h_9 h_10 h_11 h_12 h_13 h_14 h_15; omega) | omega, by first | exact q_fc9a05b17 h_5 | (clear h_1 h_2 h_3 h_4 h_6 h_7 h_8 h_9 h_10 h_11 h_12 h_13 h_14 h_15; omega) | omega, by decide⟩ (q_iconst rfl (v_zret rfl rfl (by decide) ?_)))))))
              refine bk_inl (v_if_eq_f (t := 121) rfl rfl (by decide) (q_aload_n rfl rfl (q_iload_n rfl rfl (v_pi (z := 2) rfl rfl rfl (Nat.le_of_ble_eq_true rfl) rfl rfl rfl (by decide) (q_iload rfl rfl (q_iret rfl rfl ?_))))))
              have hw9 : W8 = 3 := hdW8.symm.trans (wd10_3_t (by omega))
              have hI_16 := iw_1_2 (v := L8) hI ⟨by first | (clear h_1 h_2 h_3 h_4 h_6 h_7 h_8 h_9 h_10 h_11 h_12 h_13 h_14 h_15 hw9; omega) | omega, by first | (clear h_1 h_2 h_3 h_4 h_5 h_6 h_7 h_8 h_9 h_10 h_11 h_12 h_13 h_14 h_15 hw9; omega) | omega⟩
              have h_17 : (up c 1 2 L8) 1 2 = L8 := (up_e rfl)
              have h_18 : (up c 1 2 L8) 1 4 = f9 := ((up_n (by decide)).trans (hv2))
              have h_19 : (up c 1 2 L8) 1 5 = p9 := ((up_n (by decide)).trans (hv3))
              exact zv (by omega) (K1 (up c 1 2 L8) hI_16 (fun a j hm => up_b (Decidable.or_iff_not_imp_left.mpr (fun h1 h2 => hm (Or.inl ⟨Decidable.not_not.mp h1, h2⟩)))) (by omega) (by omega) (by omega) (by omega))
            · refine v_ic_eq_f (t := 32) rfl rfl ⟨h_15, ⟨by decide, by decide⟩, by first | exact q_f97c35332 h_14 | (clear h_1 h_2 h_3 h_4 h_5 h_6 h_7 h_8 h_9 h_10 h_11 h_12 h_13; omega) | omega, by first | exact q_79e53d295 h_14 | (clear h_1 h_2 h_3 h_4 h_5 h_6 h_7 h_8 h_9 h_10 h_11 h_12 h_13; omega) | omega⟩ (q_iconst rfl (v_zret rfl rfl (by decide) (bk_inl (v_if_eq_t (t := 121) rfl rfl (by decide) (v_iinc (v := 4) rfl rfl (Nat.le_of_ble_eq_true rfl) (by decide) (q_iload rfl rfl (q_iconst rfl ?_)))))))
              refine v_iadd (v := 22) rfl (by decide) (q_istore rfl (Nat.le_of_ble_eq_true rfl) (v_iinc (v := 22) rfl rfl (Nat.le_of_ble_eq_true rfl) (by decide) (q_goto (t := 52) rfl rfl (Wp_ls [(0, .ref 1), (1, .ref (a_SB + 10)), (2, vi r8), (3, vi L8), (4, vi 4), (5, vi 22), (6, vi 22)] (lsub_cons rfl (lsub_cons rfl (lsub_cons rfl (lsub_cons rfl (lsub_cons rfl (lsub_cons rfl (lsub_cons rfl lsub_nil))))))) ?_))))
              exact f_10_10_4 (d := d) (r8 := r8) (L8 := L8) (W8 := W8) hI hq0 hq1 hv0 hv1 hv2 hv3 hB ((wd10_3_f (by omega)).symm.trans hdW8) K0 K1
          · refine v_ic_eq_f (t := 32) rfl rfl ⟨h_13, ⟨by decide, by decide⟩, by first | exact q_f97c35332 h_12 | omega, by first | exact q_79e53d295 h_12 | omega⟩ (q_iconst rfl (v_zret rfl rfl (by decide) (bk_inl (v_if_eq_t (t := 121) rfl rfl (by decide) (v_iinc (v := 4) rfl rfl (Nat.le_of_ble_eq_true rfl) (by decide) (q_iload rfl rfl (q_iconst rfl ?_)))))))
            refine v_iadd (v := 22) rfl (by decide) (q_istore rfl (Nat.le_of_ble_eq_true rfl) (v_iinc (v := 22) rfl rfl (Nat.le_of_ble_eq_true rfl) (by decide) (q_goto (t := 52) rfl rfl (Wp_ls [(0, .ref 1), (1, .ref (a_SB + 10)), (2, vi r8), (3, vi L8), (4, vi 4), (5, vi 22), (6, vi 22)] (lsub_cons rfl (lsub_cons rfl (lsub_cons rfl (lsub_cons rfl (lsub_cons rfl (lsub_cons rfl (lsub_cons rfl lsub_nil))))))) ?_))))
            exact f_10_10_4 (d := d) (r8 := r8) (L8 := L8) (W8 := W8) hI hq0 hq1 hv0 hv1 hv2 hv3 hB ((wd10_3_f (by omega)).symm.trans hdW8) K0 K1
        · refine v_ic_eq_f (t := 32) rfl rfl ⟨h_11, ⟨by decide, by decide⟩, by first | exact q_f97c35332 h_10 | omega, by first | exact q_79e53d295 h_10 | omega⟩ (q_iconst rfl (v_zret rfl rfl (by decide) (bk_inl (v_if_eq_t (t := 121) rfl rfl (by decide) (v_iinc (v := 4) rfl rfl (Nat.le_of_ble_eq_true rfl) (by decide) (q_iload rfl rfl (q_iconst rfl ?_)))))))
          refine v_iadd (v := 22) rfl (by decide) (q_istore rfl (Nat.le_of_ble_eq_true rfl) (v_iinc (v := 22) rfl rfl (Nat.le_of_ble_eq_true rfl) (by decide) (q_goto (t := 52) rfl rfl (Wp_ls [(0, .ref 1), (1, .ref (a_SB + 10)), (2, vi r8), (3, vi L8), (4, vi 4), (5, vi 22), (6, vi 22)] (lsub_cons rfl (lsub_cons rfl (lsub_cons rfl (lsub_cons rfl (lsub_cons rfl (lsub_cons rfl (lsub_cons rfl lsub_nil))))))) ?_))))
          exact f_10_10_4 (d := d) (r8 := r8) (L8 := L8) (W8 := W8) hI hq0 hq1 hv0 hv1 hv2 hv3 hB ((wd10_3_f (by omega)).symm.trans hdW8) K0 K1
      · refine v_ic_eq_f (t := 32) rfl rfl ⟨h_9, ⟨by decide, by decide⟩, by first | exact q_f97c35332 h_8 | omega, by first | exact q_79e53d295 h_8 | omega⟩ (q_iconst rfl (v_zret rfl rfl (by decide) (bk_inl (v_if_eq_t (t := 121) rfl rfl (by decide) (v_iinc (v := 4) rfl rfl (Nat.le_of_ble_eq_true rfl) (by decide) (q_iload rfl rfl (q_iconst rfl ?_)))))))
        refine v_iadd (v := 22) rfl (by decide) (q_istore rfl (Nat.le_of_ble_eq_true rfl) (v_iinc (v := 22) rfl rfl (Nat.le_of_ble_eq_true rfl) (by decide) (q_goto (t := 52) rfl rfl (Wp_ls [(0, .ref 1), (1, .ref (a_SB + 10)), (2, vi r8), (3, vi L8), (4, vi 4), (5, vi 22), (6, vi 22)] (lsub_cons rfl (lsub_cons rfl (lsub_cons rfl (lsub_cons rfl (lsub_cons rfl (lsub_cons rfl (lsub_cons rfl lsub_nil))))))) ?_))))
        exact f_10_10_4 (d := d) (r8 := r8) (L8 := L8) (W8 := W8) hI hq0 hq1 hv0 hv1 hv2 hv3 hB ((wd10_3_f (by omega)).symm.trans hdW8) K0 K1
    · refine v_ic_eq_f (t := 32) rfl rfl ⟨h_7, ⟨by decide, by decide⟩, by first | exact q_f97c35332 h_6 | omega, by first | exact q_79e53d295 h_6 | omega⟩ (q_iconst rfl (v_zret rfl rfl (by decide) (bk_inl (v_if_eq_t (t := 121) rfl rfl (by decide) (v_iinc (v := 4) rfl rfl (Nat.le_of_ble_eq_true rfl) (by decide) (q_iload rfl rfl (q_iconst rfl ?_)))))))
      refine v_iadd (v := 22) rfl (by decide) (q_istore rfl (Nat.le_of_ble_eq_true rfl) (v_iinc (v := 22) rfl rfl (Nat.le_of_ble_eq_true rfl) (by decide) (q_goto (t := 52) rfl rfl (Wp_ls [(0, .ref 1), (1, .ref (a_SB + 10)), (2, vi r8), (3, vi L8), (4, vi 4), (5, vi 22), (6, vi 22)] (lsub_cons rfl (lsub_cons rfl (lsub_cons rfl (lsub_cons rfl (lsub_cons rfl (lsub_cons rfl (lsub_cons rfl lsub_nil))))))) ?_))))
      exact f_10_10_4 (d := d) (r8 := r8) (L8 := L8) (W8 := W8) hI hq0 hq1 hv0 hv1 hv2 hv3 hB ((wd10_3_f (by omega)).symm.trans hdW8) K0 K1

set_option maxRecDepth 100000 in
set_option maxHeartbeats 4000000 in
theorem f_10_10_2 {sc : List Int32} {e : Int} {d u P Q : Nat} {c : ME} {e1 a9 f9 p9 W8 r8 L8 : Int} {B : Int → Int} {Z : AR → Prop} (hI : Iv u e P Q c) (hq0 : (f9 = 0)) (hq1 : (r8 ≥ 0 ∧ r8 ≤ L8 ∧ L8 ≤ 600)) (hv0 : c 1 1 = e1) (hv1 : c 1 2 = a9) (hv2 : c 1 4 = f9) (hv3 : c 1 5 = p9) (hB : ∀ j : Int, c 2 j = B j) (hdW8 : wd10_2 B r8 L8 = W8) (K0 : ∀ c2 : ME, Iv u e P Q c2 → (∀ (a : Nat) (j : Int), ¬ ((a = 1 ∧ j = 2) ∨ (a = 1 ∧ j = 4) ∨ (a = 1 ∧ j = 5)) → c2 a j = c a j) → ((W8 = (-1))) → (c2 1 2 = a9) → (c2 1 4 = 1) → (c2 1 5 = r8) → Z (.inl (some (vi (-1))), Wd P Q P P c2, 0, 0)) (K1 : ∀ c2 : ME, Iv u e P Q c2 → (∀ (a : Nat) (j : Int), ¬ ((a = 1 ∧ j = 2) ∨ (a = 1 ∧ j = 4) ∨ (a = 1 ∧ j = 5)) → c2 a j = c a j) → ((W8 ≥ 0 ∧ W8 ≤ 7)) → (c2 1 2 = L8) → (c2 1 4 = 0) → (c2 1 5 = p9) → Z (.inl (some (vi W8)), Wd P Q P P c2, 0, 0)) : Wp sc (d + 12) 10 52 [(0, .ref 1), (1, .ref (a_SB + 10)), (2, vi r8), (3, vi L8), (4, vi 2), (5, vi 11), (6, vi 11)] [] (Wd P Q P P c) 0 0 Z := by
  have hP := iv_P hI
  have hQ := iv_Q hI
  have h_1 := ir_1_1 hI
  have h_2 := ir_1_2 hI
  have h_3 := ir_1_4 hI
  have h_4 := ir_1_5 hI
  refine q_iload rfl rfl (q_aload_n rfl rfl (v_sln 41 rfl rfl (by omega) (Nat.le_of_ble_eq_true rfl) (by decide) (by decide) (v_ic_gt_f (t := 136) rfl rfl (by decide) (q_aload_n rfl rfl (v_cv rfl rfl rfl rfl (Nat.le_of_ble_eq_true rfl) ⟨⟨rfl, rfl⟩, Nat.le_of_ble_eq_true rfl, rfl⟩ (Nat.le_of_ble_eq_true rfl) (Nat.le_of_ble_eq_true rfl) (q_aload_n rfl rfl (v_gi (z := 4) (v := f9) rfl rfl rfl (Nat.le_of_ble_eq_true rfl) rfl rfl (hv2) ?_)))))))
  refine v_if_ne_f (t := 11) rfl rfl (by omega) (q_iconst rfl (q_goto (t := 12) rfl rfl (v_zret rfl rfl (by decide) (bk_inl (v_if_eq_f (t := 136) rfl rfl (by decide) (q_iload rfl rfl (q_aload_n rfl rfl ?_)))))))
  refine v_sln 41 rfl rfl (by omega) (Nat.le_of_ble_eq_true rfl) (by decide) (by decide) (v_ic_eq_f (t := 88) rfl rfl (by decide) (q_aload_n rfl rfl (q_iload rfl rfl (v_sch 112 rfl rfl (by omega) (Nat.le_of_ble_eq_true rfl) (by decide) (by decide) (by decide) (v_bip rfl (by decide) (v_ic_ne_t (t := 130) rfl rfl (by decide) (v_iinc (v := 12) rfl rfl (Nat.le_of_ble_eq_true rfl) (by decide) ?_)))))))
  refine q_goto (t := 52) rfl rfl (q_iload rfl rfl (q_aload_n rfl rfl (v_sln 41 rfl rfl (by omega) (Nat.le_of_ble_eq_true rfl) (by decide) (by decide) (v_ic_gt_f (t := 136) rfl rfl (by decide) (q_aload_n rfl rfl (v_cv rfl rfl rfl rfl (Nat.le_of_ble_eq_true rfl) ⟨⟨rfl, rfl⟩, Nat.le_of_ble_eq_true rfl, rfl⟩ (Nat.le_of_ble_eq_true rfl) (Nat.le_of_ble_eq_true rfl) (q_aload_n rfl rfl ?_)))))))
  refine v_gi (z := 4) (v := f9) rfl rfl rfl (Nat.le_of_ble_eq_true rfl) rfl rfl (hv2) (v_if_ne_f (t := 11) rfl rfl (by omega) (q_iconst rfl (q_goto (t := 12) rfl rfl (v_zret rfl rfl (by decide) (bk_inl (v_if_eq_f (t := 136) rfl rfl (by decide) (q_iload rfl rfl ?_)))))))
  refine q_aload_n rfl rfl (v_sln 41 rfl rfl (by omega) (Nat.le_of_ble_eq_true rfl) (by decide) (by decide) (v_ic_eq_f (t := 88) rfl rfl (by decide) (q_aload_n rfl rfl (q_iload rfl rfl (v_sch 111 rfl rfl (by omega) (Nat.le_of_ble_eq_true rfl) (by decide) (by decide) (by decide) (v_bip rfl (by decide) (v_ic_ne_t (t := 130) rfl rfl (by decide) ?_)))))))
  refine v_iinc (v := 13) rfl rfl (Nat.le_of_ble_eq_true rfl) (by decide) (q_goto (t := 52) rfl rfl (q_iload rfl rfl (q_aload_n rfl rfl (v_sln 41 rfl rfl (by omega) (Nat.le_of_ble_eq_true rfl) (by decide) (by decide) (v_ic_gt_f (t := 136) rfl rfl (by decide) (q_aload_n rfl rfl (v_cv rfl rfl rfl rfl (Nat.le_of_ble_eq_true rfl) ⟨⟨rfl, rfl⟩, Nat.le_of_ble_eq_true rfl, rfl⟩ (Nat.le_of_ble_eq_true rfl) (Nat.le_of_ble_eq_true rfl) ?_)))))))
  refine q_aload_n rfl rfl (v_gi (z := 4) (v := f9) rfl rfl rfl (Nat.le_of_ble_eq_true rfl) rfl rfl (hv2) (v_if_ne_f (t := 11) rfl rfl (by omega) (q_iconst rfl (q_goto (t := 12) rfl rfl (v_zret rfl rfl (by decide) (bk_inl (v_if_eq_f (t := 136) rfl rfl (by decide) ?_)))))))
  refine q_iload rfl rfl (q_aload_n rfl rfl (v_sln 41 rfl rfl (by omega) (Nat.le_of_ble_eq_true rfl) (by decide) (by decide) (v_ic_eq_f (t := 88) rfl rfl (by decide) (q_aload_n rfl rfl (q_iload rfl rfl (v_sch 117 rfl rfl (by omega) (Nat.le_of_ble_eq_true rfl) (by decide) (by decide) (by decide) (v_bip rfl (by decide) ?_)))))))
  refine v_ic_ne_t (t := 130) rfl rfl (by decide) (v_iinc (v := 14) rfl rfl (Nat.le_of_ble_eq_true rfl) (by decide) (q_goto (t := 52) rfl rfl (q_iload rfl rfl (q_aload_n rfl rfl (v_sln 41 rfl rfl (by omega) (Nat.le_of_ble_eq_true rfl) (by decide) (by decide) (v_ic_gt_f (t := 136) rfl rfl (by decide) (q_aload_n rfl rfl ?_)))))))
  refine v_cv rfl rfl rfl rfl (Nat.le_of_ble_eq_true rfl) ⟨⟨rfl, rfl⟩, Nat.le_of_ble_eq_true rfl, rfl⟩ (Nat.le_of_ble_eq_true rfl) (Nat.le_of_ble_eq_true rfl) (q_aload_n rfl rfl (v_gi (z := 4) (v := f9) rfl rfl rfl (Nat.le_of_ble_eq_true rfl) rfl rfl (hv2) (v_if_ne_f (t := 11) rfl rfl (by omega) (q_iconst rfl (q_goto (t := 12) rfl rfl (v_zret rfl rfl (by decide) (bk_inl ?_)))))))
  refine v_if_eq_f (t := 136) rfl rfl (by decide) (q_iload rfl rfl (q_aload_n rfl rfl (v_sln 41 rfl rfl (by omega) (Nat.le_of_ble_eq_true rfl) (by decide) (by decide) (v_ic_eq_f (t := 88) rfl rfl (by decide) (q_aload_n rfl rfl (q_iload rfl rfl (v_sch 114 rfl rfl (by omega) (Nat.le_of_ble_eq_true rfl) (by decide) (by decide) (by decide) ?_)))))))
  refine v_bip rfl (by decide) (v_ic_ne_t (t := 130) rfl rfl (by decide) (v_iinc (v := 15) rfl rfl (Nat.le_of_ble_eq_true rfl) (by decide) (q_goto (t := 52) rfl rfl (q_iload rfl rfl (q_aload_n rfl rfl (v_sln 41 rfl rfl (by omega) (Nat.le_of_ble_eq_true rfl) (by decide) (by decide) (v_ic_gt_f (t := 136) rfl rfl (by decide) ?_)))))))
  refine q_aload_n rfl rfl (v_cv rfl rfl rfl rfl (Nat.le_of_ble_eq_true rfl) ⟨⟨rfl, rfl⟩, Nat.le_of_ble_eq_true rfl, rfl⟩ (Nat.le_of_ble_eq_true rfl) (Nat.le_of_ble_eq_true rfl) (q_aload_n rfl rfl (v_gi (z := 4) (v := f9) rfl rfl rfl (Nat.le_of_ble_eq_true rfl) rfl rfl (hv2) (v_if_ne_f (t := 11) rfl rfl (by omega) (q_iconst rfl (q_goto (t := 12) rfl rfl (v_zret rfl rfl (by decide) ?_)))))))
  refine bk_inl (v_if_eq_f (t := 136) rfl rfl (by decide) (q_iload rfl rfl (q_aload_n rfl rfl (v_sln 41 rfl rfl (by omega) (Nat.le_of_ble_eq_true rfl) (by decide) (by decide) (v_ic_eq_f (t := 88) rfl rfl (by decide) (q_aload_n rfl rfl (q_iload rfl rfl ?_)))))))
  refine v_sch 32 rfl rfl (by omega) (Nat.le_of_ble_eq_true rfl) (by decide) (by decide) (by decide) (v_bip rfl (by decide) (v_ic_ne_f (t := 130) rfl rfl (by decide) (q_iload rfl rfl (q_iload rfl rfl (v_isub (v := 4) rfl (by decide) (q_iload_n rfl rfl (q_iload_n rfl rfl ?_)))))))
  refine v_isub (v := L8 - r8) rfl rfl ?_
  by_cases h_5 : 4 ≠ L8 - r8
  · refine v_ic_ne_t (t := 121) rfl rfl ⟨h_5, ⟨by decide, by decide⟩, by omega, by omega⟩ (v_iinc (v := 3) rfl rfl (Nat.le_of_ble_eq_true rfl) (by decide) (Wp_ls [(4, vi 3), (6, vi 15), (0, .ref 1), (1, .ref (a_SB + 10)), (2, vi r8), (3, vi L8), (5, vi 11)] (lsub_cons rfl (lsub_cons rfl (lsub_cons rfl (lsub_cons rfl (lsub_cons rfl (lsub_cons rfl (lsub_cons rfl lsub_nil))))))) (q_iload rfl rfl (q_iconst rfl (v_iadd (v := 16) rfl (by decide) (q_istore rfl (Nat.le_of_ble_eq_true rfl) (v_iinc (v := 16) rfl rfl (Nat.le_of_ble_eq_true rfl) (by decide) ?_)))))))
    refine q_goto (t := 52) rfl rfl (Wp_ls [(0, .ref 1), (1, .ref (a_SB + 10)), (2, vi r8), (3, vi L8), (4, vi 3), (5, vi 16), (6, vi 16)] (lsub_cons rfl (lsub_cons rfl (lsub_cons rfl (lsub_cons rfl (lsub_cons rfl (lsub_cons rfl (lsub_cons rfl lsub_nil))))))) ?_)
    exact f_10_10_3 (d := d) (r8 := r8) (L8 := L8) (W8 := W8) hI hq0 hq1 hv0 hv1 hv2 hv3 hB ((wd10_2_f (by omega)).symm.trans hdW8) K0 K1
  · refine v_ic_ne_f (t := 121) rfl rfl (Decidable.not_not.mp h_5) (q_aload_n rfl rfl (q_aload_n rfl rfl (q_iload rfl rfl (q_iload_n rfl rfl (q_iload_n rfl rfl (q_iload_n rfl rfl (v_isub (v := L8 - r8) rfl rfl ?_)))))))
    refine v_cv rfl rfl rfl rfl (Nat.le_of_ble_eq_true rfl) ⟨⟨rfl, rfl⟩, Nat.le_of_ble_eq_true rfl, rfl⟩ (Nat.le_of_ble_eq_true rfl) (Nat.le_of_ble_eq_true rfl) (q_iconst rfl (q_istore rfl (Nat.le_of_ble_eq_true rfl) (q_iload rfl rfl (q_iload rfl rfl (v_ic_ge_f (t := 38) rfl rfl ⟨by decide, by first | exact q_e102c8f11 h_5 | omega, by first | exact q_559789b9d h_5 | omega⟩ (q_aload_n rfl rfl (q_iload_n rfl rfl ?_)))))))
    refine q_iload rfl rfl (v_iadd (v := 11) rfl (by decide) (v_sch 112 rfl rfl (by omega) (Nat.le_of_ble_eq_true rfl) (by decide) (by decide) (by decide) (q_aload_n rfl rfl (v_gr (t := 2) rfl rfl rfl (Nat.le_of_ble_eq_true rfl) rfl (q_iload_n rfl rfl (q_iload rfl rfl (v_iadd (v := r8) rfl (by omega) ?_)))))))
    have h_6 : -2147483648 ≤ (B r8) ∧ (B r8) ≤ 2147483647 := by rw [← hB r8]; exact ir_2 hI r8
    refine v_ba (v := (B r8)) rfl rfl (by decide) (by decide) (by omega) (hB r8) ?_
    by_cases h_7 : 112 = (B r8)
    · refine v_ic_eq_t (t := 32) rfl rfl h_7 (v_iinc (v := 1) rfl rfl (Nat.le_of_ble_eq_true rfl) (by decide) (q_goto (t := 3) rfl rfl (q_iload rfl rfl (q_iload rfl rfl (v_ic_ge_f (t := 38) rfl rfl ⟨by decide, by first | exact q_a2240bc6c h_5 | omega, by first | exact q_559789b9d h_5 | omega⟩ (q_aload_n rfl rfl (q_iload_n rfl rfl ?_)))))))
      refine q_iload rfl rfl (v_iadd (v := 12) rfl (by decide) (v_sch 111 rfl rfl (by omega) (Nat.le_of_ble_eq_true rfl) (by decide) (by decide) (by decide) (q_aload_n rfl rfl (v_gr (t := 2) rfl rfl rfl (Nat.le_of_ble_eq_true rfl) rfl (q_iload_n rfl rfl (q_iload rfl rfl (v_iadd (v := r8 + 1) rfl rfl ?_)))))))
      have h_8 : -2147483648 ≤ (B (r8 + 1)) ∧ (B (r8 + 1)) ≤ 2147483647 := by rw [← hB (r8 + 1)]; exact ir_2 hI (r8 + 1)
      refine v_ba (v := (B (r8 + 1))) rfl rfl (by decide) (by decide) (by omega) (hB (r8 + 1)) ?_
      by_cases h_9 : 111 = (B (r8 + 1))
      · refine v_ic_eq_t (t := 32) rfl rfl h_9 (v_iinc (v := 2) rfl rfl (Nat.le_of_ble_eq_true rfl) (by decide) (q_goto (t := 3) rfl rfl (q_iload rfl rfl (q_iload rfl rfl (v_ic_ge_f (t := 38) rfl rfl ⟨by decide, by first | exact q_81cf1e9c6 h_5 | omega, by first | exact q_559789b9d h_5 | omega⟩ (q_aload_n rfl rfl (q_iload_n rfl rfl ?_)))))))
        refine q_iload rfl rfl (v_iadd (v := 13) rfl (by decide) (v_sch 117 rfl rfl (by omega) (Nat.le_of_ble_eq_true rfl) (by decide) (by decide) (by decide) (q_aload_n rfl rfl (v_gr (t := 2) rfl rfl rfl (Nat.le_of_ble_eq_true rfl) rfl (q_iload_n rfl rfl (q_iload rfl rfl (v_iadd (v := r8 + 2) rfl rfl ?_)))))))
        have h_10 : -2147483648 ≤ (B (r8 + 2)) ∧ (B (r8 + 2)) ≤ 2147483647 := by rw [← hB (r8 + 2)]; exact ir_2 hI (r8 + 2)
        refine v_ba (v := (B (r8 + 2))) rfl rfl (by decide) (by decide) (by omega) (hB (r8 + 2)) ?_
        by_cases h_11 : 117 = (B (r8 + 2))
        · refine v_ic_eq_t (t := 32) rfl rfl h_11 (v_iinc (v := 3) rfl rfl (Nat.le_of_ble_eq_true rfl) (by decide) (q_goto (t := 3) rfl rfl (q_iload rfl rfl (q_iload rfl rfl (v_ic_ge_f (t := 38) rfl rfl ⟨by decide, by first | exact q_bf9798940 h_5 | omega, by first | exact q_559789b9d h_5 | omega⟩ (q_aload_n rfl rfl (q_iload_n rfl rfl ?_)))))))
          refine q_iload rfl rfl (v_iadd (v := 14) rfl (by decide) (v_sch 114 rfl rfl (by omega) (Nat.le_of_ble_eq_true rfl) (by decide) (by decide) (by decide) (q_aload_n rfl rfl (v_gr (t := 2) rfl rfl rfl (Nat.le_of_ble_eq_true rfl) rfl (q_iload_n rfl rfl (q_iload rfl rfl (v_iadd (v := r8 + 3) rfl rfl ?_)))))))
          have h_12 : -2147483648 ≤ (B (r8 + 3)) ∧ (B (r8 + 3)) ≤ 2147483647 := by rw [← hB (r8 + 3)]; exact ir_2 hI (r8 + 3)
          refine v_ba (v := (B (r8 + 3))) rfl rfl (by decide) (by decide) (by omega) (hB (r8 + 3)) ?_
          by_cases h_13 : 114 = (B (r8 + 3))
          · refine v_ic_eq_t (t := 32) rfl rfl h_13 (v_iinc (v := 4) rfl rfl (Nat.le_of_ble_eq_true rfl) (by decide) (Wp_ls [(5, vi 4), (0, .ref 1), (1, .ref (a_SB + 10)), (2, vi 11), (3, vi r8), (4, vi (L8 - r8))] (lsub_cons rfl (lsub_cons rfl (lsub_cons rfl (lsub_cons rfl (lsub_cons rfl (lsub_cons rfl lsub_nil)))))) (q_goto (t := 3) rfl rfl (q_iload rfl rfl (q_iload rfl rfl (v_ic_ge_t (t := 38) rfl rfl ⟨by first | exact q_5edcef13d h_5 | omega, by first | exact q_62ba5a5ea h_5 | omega, by decide⟩ (q_iconst rfl ?_)))))))
            refine v_zret rfl rfl (by decide) (bk_inl (v_if_eq_f (t := 121) rfl rfl (by decide) (q_aload_n rfl rfl (q_iload_n rfl rfl (v_pi (z := 2) rfl rfl rfl (Nat.le_of_ble_eq_true rfl) rfl rfl rfl (by decide) (q_iload rfl rfl (q_iret rfl rfl ?_)))))))
            have hw9 : W8 = 2 := hdW8.symm.trans (wd10_2_t (by omega))
            have hI_14 := iw_1_2 (v := L8) hI ⟨by first | (clear h_1 h_2 h_3 h_4 h_6 h_7 h_8 h_9 h_10 h_11 h_12 h_13 hw9; omega) | omega, by first | (clear h_1 h_2 h_3 h_4 h_5 h_6 h_7 h_8 h_9 h_10 h_11 h_12 h_13 hw9; omega) | omega⟩
            have h_15 : (up c 1 2 L8) 1 2 = L8 := (up_e rfl)
            have h_16 : (up c 1 2 L8) 1 4 = f9 := ((up_n (by decide)).trans (hv2))
            have h_17 : (up c 1 2 L8) 1 5 = p9 := ((up_n (by decide)).trans (hv3))
            exact zv (by omega) (K1 (up c 1 2 L8) hI_14 (fun a j hm => up_b (Decidable.or_iff_not_imp_left.mpr (fun h1 h2 => hm (Or.inl ⟨Decidable.not_not.mp h1, h2⟩)))) (by omega) (by omega) (by omega) (by omega))
          · refine v_ic_eq_f (t := 32) rfl rfl ⟨h_13, ⟨by decide, by decide⟩, by first | exact q_f97c35332 h_12 | omega, by first | exact q_79e53d295 h_12 | omega⟩ (q_iconst rfl (v_zret rfl rfl (by decide) (bk_inl (v_if_eq_t (t := 121) rfl rfl (by decide) (v_iinc (v := 3) rfl rfl (Nat.le_of_ble_eq_true rfl) (by decide) (Wp_ls [(4, vi 3), (6, vi 15), (0, .ref 1), (1, .ref (a_SB + 10)), (2, vi r8), (3, vi L8), (5, vi 11)] (lsub_cons rfl (lsub_cons rfl (lsub_cons rfl (lsub_cons rfl (lsub_cons rfl (lsub_cons rfl (lsub_cons rfl lsub_nil))))))) (q_iload rfl rfl ?_)))))))
            refine q_iconst rfl (v_iadd (v := 16) rfl (by decide) (q_istore rfl (Nat.le_of_ble_eq_true rfl) (v_iinc (v := 16) rfl rfl (Nat.le_of_ble_eq_true rfl) (by decide) (q_goto (t := 52) rfl rfl (Wp_ls [(0, .ref 1), (1, .ref (a_SB + 10)), (2, vi r8), (3, vi L8), (4, vi 3), (5, vi 16), (6, vi 16)] (lsub_cons rfl (lsub_cons rfl (lsub_cons rfl (lsub_cons rfl (lsub_cons rfl (lsub_cons rfl (lsub_cons rfl lsub_nil))))))) ?_)))))
            exact f_10_10_3 (d := d) (r8 := r8) (L8 := L8) (W8 := W8) hI hq0 hq1 hv0 hv1 hv2 hv3 hB ((wd10_2_f (by omega)).symm.trans hdW8) K0 K1
        · refine v_ic_eq_f (t := 32) rfl rfl ⟨h_11, ⟨by decide, by decide⟩, by first | exact q_f97c35332 h_10 | omega, by first | exact q_79e53d295 h_10 | omega⟩ (q_iconst rfl (v_zret rfl rfl (by decide) (bk_inl (v_if_eq_t (t := 121) rfl rfl (by decide) (v_iinc (v := 3) rfl rfl (Nat.le_of_ble_eq_true rfl) (by decide) (Wp_ls [(4, vi 3), (6, vi 15), (0, .ref 1), (1, .ref (a_SB + 10)), (2, vi r8), (3, vi L8), (5, vi 11)] (lsub_cons rfl (lsub_cons rfl (lsub_cons rfl (lsub_cons rfl (lsub_cons rfl (lsub_cons rfl (lsub_cons rfl lsub_nil))))))) (q_iload rfl rfl ?_)))))))
          refine q_iconst rfl (v_iadd (v := 16) rfl (by decide) (q_istore rfl (Nat.le_of_ble_eq_true rfl) (v_iinc (v := 16) rfl rfl (Nat.le_of_ble_eq_true rfl) (by decide) (q_goto (t := 52) rfl rfl (Wp_ls [(0, .ref 1), (1, .ref (a_SB + 10)), (2, vi r8), (3, vi L8), (4, vi 3), (5, vi 16), (6, vi 16)] (lsub_cons rfl (lsub_cons rfl (lsub_cons rfl (lsub_cons rfl (lsub_cons rfl (lsub_cons rfl (lsub_cons rfl lsub_nil))))))) ?_)))))
          exact f_10_10_3 (d := d) (r8 := r8) (L8 := L8) (W8 := W8) hI hq0 hq1 hv0 hv1 hv2 hv3 hB ((wd10_2_f (by omega)).symm.trans hdW8) K0 K1
      · refine v_ic_eq_f (t := 32) rfl rfl ⟨h_9, ⟨by decide, by decide⟩, by first | exact q_f97c35332 h_8 | omega, by first | exact q_79e53d295 h_8 | omega⟩ (q_iconst rfl (v_zret rfl rfl (by decide) (bk_inl (v_if_eq_t (t := 121) rfl rfl (by decide) (v_iinc (v := 3) rfl rfl (Nat.le_of_ble_eq_true rfl) (by decide) (Wp_ls [(4, vi 3), (6, vi 15), (0, .ref 1), (1, .ref (a_SB + 10)), (2, vi r8), (3, vi L8), (5, vi 11)] (lsub_cons rfl (lsub_cons rfl (lsub_cons rfl (lsub_cons rfl (lsub_cons rfl (lsub_cons rfl (lsub_cons rfl lsub_nil))))))) (q_iload rfl rfl ?_)))))))
        refine q_iconst rfl (v_iadd (v := 16) rfl (by decide) (q_istore rfl (Nat.le_of_ble_eq_true rfl) (v_iinc (v := 16) rfl rfl (Nat.le_of_ble_eq_true rfl) (by decide) (q_goto (t := 52) rfl rfl (Wp_ls [(0, .ref 1), (1, .ref (a_SB + 10)), (2, vi r8), (3, vi L8), (4, vi 3), (5, vi 16), (6, vi 16)] (lsub_cons rfl (lsub_cons rfl (lsub_cons rfl (lsub_cons rfl (lsub_cons rfl (lsub_cons rfl (lsub_cons rfl lsub_nil))))))) ?_)))))
        exact f_10_10_3 (d := d) (r8 := r8) (L8 := L8) (W8 := W8) hI hq0 hq1 hv0 hv1 hv2 hv3 hB ((wd10_2_f (by omega)).symm.trans hdW8) K0 K1
    · refine v_ic_eq_f (t := 32) rfl rfl ⟨h_7, ⟨by decide, by decide⟩, by first | exact q_f97c35332 h_6 | omega, by first | exact q_79e53d295 h_6 | omega⟩ (q_iconst rfl (v_zret rfl rfl (by decide) (bk_inl (v_if_eq_t (t := 121) rfl rfl (by decide) (v_iinc (v := 3) rfl rfl (Nat.le_of_ble_eq_true rfl) (by decide) (Wp_ls [(4, vi 3), (6, vi 15), (0, .ref 1), (1, .ref (a_SB + 10)), (2, vi r8), (3, vi L8), (5, vi 11)] (lsub_cons rfl (lsub_cons rfl (lsub_cons rfl (lsub_cons rfl (lsub_cons rfl (lsub_cons rfl (lsub_cons rfl lsub_nil))))))) (q_iload rfl rfl ?_)))))))
      refine q_iconst rfl (v_iadd (v := 16) rfl (by decide) (q_istore rfl (Nat.le_of_ble_eq_true rfl) (v_iinc (v := 16) rfl rfl (Nat.le_of_ble_eq_true rfl) (by decide) (q_goto (t := 52) rfl rfl (Wp_ls [(0, .ref 1), (1, .ref (a_SB + 10)), (2, vi r8), (3, vi L8), (4, vi 3), (5, vi 16), (6, vi 16)] (lsub_cons rfl (lsub_cons rfl (lsub_cons rfl (lsub_cons rfl (lsub_cons rfl (lsub_cons rfl (lsub_cons rfl lsub_nil))))))) ?_)))))
      exact f_10_10_3 (d := d) (r8 := r8) (L8 := L8) (W8 := W8) hI hq0 hq1 hv0 hv1 hv2 hv3 hB ((wd10_2_f (by omega)).symm.trans hdW8) K0 K1

set_option maxRecDepth 100000 in
set_option maxHeartbeats 4000000 in
theorem f_10_10_1 {sc : List Int32} {e : Int} {d u P Q : Nat} {c : ME} {e1 a9 f9 p9 W8 r8 L8 : Int} {B : Int → Int} {Z : AR → Prop} (hI : Iv u e P Q c) (hq0 : (f9 = 0)) (hq1 : (r8 ≥ 0 ∧ r8 ≤ L8 ∧ L8 ≤ 600)) (hv0 : c 1 1 = e1) (hv1 : c 1 2 = a9) (hv2 : c 1 4 = f9) (hv3 : c 1 5 = p9) (hB : ∀ j : Int, c 2 j = B j) (hdW8 : wd10_1 B r8 L8 = W8) (K0 : ∀ c2 : ME, Iv u e P Q c2 → (∀ (a : Nat) (j : Int), ¬ ((a = 1 ∧ j = 2) ∨ (a = 1 ∧ j = 4) ∨ (a = 1 ∧ j = 5)) → c2 a j = c a j) → ((W8 = (-1))) → (c2 1 2 = a9) → (c2 1 4 = 1) → (c2 1 5 = r8) → Z (.inl (some (vi (-1))), Wd P Q P P c2, 0, 0)) (K1 : ∀ c2 : ME, Iv u e P Q c2 → (∀ (a : Nat) (j : Int), ¬ ((a = 1 ∧ j = 2) ∨ (a = 1 ∧ j = 4) ∨ (a = 1 ∧ j = 5)) → c2 a j = c a j) → ((W8 ≥ 0 ∧ W8 ≤ 7)) → (c2 1 2 = L8) → (c2 1 4 = 0) → (c2 1 5 = p9) → Z (.inl (some (vi W8)), Wd P Q P P c2, 0, 0)) : Wp sc (d + 12) 10 52 [(0, .ref 1), (1, .ref (a_SB + 10)), (2, vi r8), (3, vi L8), (4, vi 1), (5, vi 6), (6, vi 6)] [] (Wd P Q P P c) 0 0 Z := by
  have hP := iv_P hI
  have hQ := iv_Q hI
  have h_1 := ir_1_1 hI
  have h_2 := ir_1_2 hI
  have h_3 := ir_1_4 hI
  have h_4 := ir_1_5 hI
  refine q_iload rfl rfl (q_aload_n rfl rfl (v_sln 41 rfl rfl (by omega) (Nat.le_of_ble_eq_true rfl) (by decide) (by decide) (v_ic_gt_f (t := 136) rfl rfl (by decide) (q_aload_n rfl rfl (v_cv rfl rfl rfl rfl (Nat.le_of_ble_eq_true rfl) ⟨⟨rfl, rfl⟩, Nat.le_of_ble_eq_true rfl, rfl⟩ (Nat.le_of_ble_eq_true rfl) (Nat.le_of_ble_eq_true rfl) (q_aload_n rfl rfl (v_gi (z := 4) (v := f9) rfl rfl rfl (Nat.le_of_ble_eq_true rfl) rfl rfl (hv2) ?_)))))))
  refine v_if_ne_f (t := 11) rfl rfl (by omega) (q_iconst rfl (q_goto (t := 12) rfl rfl (v_zret rfl rfl (by decide) (bk_inl (v_if_eq_f (t := 136) rfl rfl (by decide) (q_iload rfl rfl (q_aload_n rfl rfl ?_)))))))
  refine v_sln 41 rfl rfl (by omega) (Nat.le_of_ble_eq_true rfl) (by decide) (by decide) (v_ic_eq_f (t := 88) rfl rfl (by decide) (q_aload_n rfl rfl (q_iload rfl rfl (v_sch 115 rfl rfl (by omega) (Nat.le_of_ble_eq_true rfl) (by decide) (by decide) (by decide) (v_bip rfl (by decide) (v_ic_ne_t (t := 130) rfl rfl (by decide) (v_iinc (v := 7) rfl rfl (Nat.le_of_ble_eq_true rfl) (by decide) ?_)))))))
  refine q_goto (t := 52) rfl rfl (q_iload rfl rfl (q_aload_n rfl rfl (v_sln 41 rfl rfl (by omega) (Nat.le_of_ble_eq_true rfl) (by decide) (by decide) (v_ic_gt_f (t := 136) rfl rfl (by decide) (q_aload_n rfl rfl (v_cv rfl rfl rfl rfl (Nat.le_of_ble_eq_true rfl) ⟨⟨rfl, rfl⟩, Nat.le_of_ble_eq_true rfl, rfl⟩ (Nat.le_of_ble_eq_true rfl) (Nat.le_of_ble_eq_true rfl) (q_aload_n rfl rfl ?_)))))))
  refine v_gi (z := 4) (v := f9) rfl rfl rfl (Nat.le_of_ble_eq_true rfl) rfl rfl (hv2) (v_if_ne_f (t := 11) rfl rfl (by omega) (q_iconst rfl (q_goto (t := 12) rfl rfl (v_zret rfl rfl (by decide) (bk_inl (v_if_eq_f (t := 136) rfl rfl (by decide) (q_iload rfl rfl ?_)))))))
  refine q_aload_n rfl rfl (v_sln 41 rfl rfl (by omega) (Nat.le_of_ble_eq_true rfl) (by decide) (by decide) (v_ic_eq_f (t := 88) rfl rfl (by decide) (q_aload_n rfl rfl (q_iload rfl rfl (v_sch 105 rfl rfl (by omega) (Nat.le_of_ble_eq_true rfl) (by decide) (by decide) (by decide) (v_bip rfl (by decide) (v_ic_ne_t (t := 130) rfl rfl (by decide) ?_)))))))
  refine v_iinc (v := 8) rfl rfl (Nat.le_of_ble_eq_true rfl) (by decide) (q_goto (t := 52) rfl rfl (q_iload rfl rfl (q_aload_n rfl rfl (v_sln 41 rfl rfl (by omega) (Nat.le_of_ble_eq_true rfl) (by decide) (by decide) (v_ic_gt_f (t := 136) rfl rfl (by decide) (q_aload_n rfl rfl (v_cv rfl rfl rfl rfl (Nat.le_of_ble_eq_true rfl) ⟨⟨rfl, rfl⟩, Nat.le_of_ble_eq_true rfl, rfl⟩ (Nat.le_of_ble_eq_true rfl) (Nat.le_of_ble_eq_true rfl) ?_)))))))
  refine q_aload_n rfl rfl (v_gi (z := 4) (v := f9) rfl rfl rfl (Nat.le_of_ble_eq_true rfl) rfl rfl (hv2) (v_if_ne_f (t := 11) rfl rfl (by omega) (q_iconst rfl (q_goto (t := 12) rfl rfl (v_zret rfl rfl (by decide) (bk_inl (v_if_eq_f (t := 136) rfl rfl (by decide) ?_)))))))
  refine q_iload rfl rfl (q_aload_n rfl rfl (v_sln 41 rfl rfl (by omega) (Nat.le_of_ble_eq_true rfl) (by decide) (by decide) (v_ic_eq_f (t := 88) rfl rfl (by decide) (q_aload_n rfl rfl (q_iload rfl rfl (v_sch 102 rfl rfl (by omega) (Nat.le_of_ble_eq_true rfl) (by decide) (by decide) (by decide) (v_bip rfl (by decide) ?_)))))))
  refine v_ic_ne_t (t := 130) rfl rfl (by decide) (v_iinc (v := 9) rfl rfl (Nat.le_of_ble_eq_true rfl) (by decide) (q_goto (t := 52) rfl rfl (q_iload rfl rfl (q_aload_n rfl rfl (v_sln 41 rfl rfl (by omega) (Nat.le_of_ble_eq_true rfl) (by decide) (by decide) (v_ic_gt_f (t := 136) rfl rfl (by decide) (q_aload_n rfl rfl ?_)))))))
  refine v_cv rfl rfl rfl rfl (Nat.le_of_ble_eq_true rfl) ⟨⟨rfl, rfl⟩, Nat.le_of_ble_eq_true rfl, rfl⟩ (Nat.le_of_ble_eq_true rfl) (Nat.le_of_ble_eq_true rfl) (q_aload_n rfl rfl (v_gi (z := 4) (v := f9) rfl rfl rfl (Nat.le_of_ble_eq_true rfl) rfl rfl (hv2) (v_if_ne_f (t := 11) rfl rfl (by omega) (q_iconst rfl (q_goto (t := 12) rfl rfl (v_zret rfl rfl (by decide) (bk_inl ?_)))))))
  refine v_if_eq_f (t := 136) rfl rfl (by decide) (q_iload rfl rfl (q_aload_n rfl rfl (v_sln 41 rfl rfl (by omega) (Nat.le_of_ble_eq_true rfl) (by decide) (by decide) (v_ic_eq_f (t := 88) rfl rfl (by decide) (q_aload_n rfl rfl (q_iload rfl rfl (v_sch 116 rfl rfl (by omega) (Nat.le_of_ble_eq_true rfl) (by decide) (by decide) (by decide) ?_)))))))
  refine v_bip rfl (by decide) (v_ic_ne_t (t := 130) rfl rfl (by decide) (v_iinc (v := 10) rfl rfl (Nat.le_of_ble_eq_true rfl) (by decide) (q_goto (t := 52) rfl rfl (q_iload rfl rfl (q_aload_n rfl rfl (v_sln 41 rfl rfl (by omega) (Nat.le_of_ble_eq_true rfl) (by decide) (by decide) (v_ic_gt_f (t := 136) rfl rfl (by decide) ?_)))))))
  refine q_aload_n rfl rfl (v_cv rfl rfl rfl rfl (Nat.le_of_ble_eq_true rfl) ⟨⟨rfl, rfl⟩, Nat.le_of_ble_eq_true rfl, rfl⟩ (Nat.le_of_ble_eq_true rfl) (Nat.le_of_ble_eq_true rfl) (q_aload_n rfl rfl (v_gi (z := 4) (v := f9) rfl rfl rfl (Nat.le_of_ble_eq_true rfl) rfl rfl (hv2) (v_if_ne_f (t := 11) rfl rfl (by omega) (q_iconst rfl (q_goto (t := 12) rfl rfl (v_zret rfl rfl (by decide) ?_)))))))
  refine bk_inl (v_if_eq_f (t := 136) rfl rfl (by decide) (q_iload rfl rfl (q_aload_n rfl rfl (v_sln 41 rfl rfl (by omega) (Nat.le_of_ble_eq_true rfl) (by decide) (by decide) (v_ic_eq_f (t := 88) rfl rfl (by decide) (q_aload_n rfl rfl (q_iload rfl rfl ?_)))))))
  refine v_sch 32 rfl rfl (by omega) (Nat.le_of_ble_eq_true rfl) (by decide) (by decide) (by decide) (v_bip rfl (by decide) (v_ic_ne_f (t := 130) rfl rfl (by decide) (q_iload rfl rfl (q_iload rfl rfl (v_isub (v := 4) rfl (by decide) (q_iload_n rfl rfl (q_iload_n rfl rfl ?_)))))))
  refine v_isub (v := L8 - r8) rfl rfl ?_
  by_cases h_5 : 4 ≠ L8 - r8
  · refine v_ic_ne_t (t := 121) rfl rfl ⟨h_5, ⟨by decide, by decide⟩, by omega, by omega⟩ (v_iinc (v := 2) rfl rfl (Nat.le_of_ble_eq_true rfl) (by decide) (Wp_ls [(4, vi 2), (6, vi 10), (0, .ref 1), (1, .ref (a_SB + 10)), (2, vi r8), (3, vi L8), (5, vi 6)] (lsub_cons rfl (lsub_cons rfl (lsub_cons rfl (lsub_cons rfl (lsub_cons rfl (lsub_cons rfl (lsub_cons rfl lsub_nil))))))) (q_iload rfl rfl (q_iconst rfl (v_iadd (v := 11) rfl (by decide) (q_istore rfl (Nat.le_of_ble_eq_true rfl) (v_iinc (v := 11) rfl rfl (Nat.le_of_ble_eq_true rfl) (by decide) ?_)))))))
    refine q_goto (t := 52) rfl rfl (Wp_ls [(0, .ref 1), (1, .ref (a_SB + 10)), (2, vi r8), (3, vi L8), (4, vi 2), (5, vi 11), (6, vi 11)] (lsub_cons rfl (lsub_cons rfl (lsub_cons rfl (lsub_cons rfl (lsub_cons rfl (lsub_cons rfl (lsub_cons rfl lsub_nil))))))) ?_)
    exact f_10_10_2 (d := d) (r8 := r8) (L8 := L8) (W8 := W8) hI hq0 hq1 hv0 hv1 hv2 hv3 hB ((wd10_1_f (by omega)).symm.trans hdW8) K0 K1
  · refine v_ic_ne_f (t := 121) rfl rfl (Decidable.not_not.mp h_5) (q_aload_n rfl rfl (q_aload_n rfl rfl (q_iload rfl rfl (q_iload_n rfl rfl (q_iload_n rfl rfl (q_iload_n rfl rfl (v_isub (v := L8 - r8) rfl rfl ?_)))))))
    refine v_cv rfl rfl rfl rfl (Nat.le_of_ble_eq_true rfl) ⟨⟨rfl, rfl⟩, Nat.le_of_ble_eq_true rfl, rfl⟩ (Nat.le_of_ble_eq_true rfl) (Nat.le_of_ble_eq_true rfl) (q_iconst rfl (q_istore rfl (Nat.le_of_ble_eq_true rfl) (q_iload rfl rfl (q_iload rfl rfl (v_ic_ge_f (t := 38) rfl rfl ⟨by decide, by first | exact q_e102c8f11 h_5 | omega, by first | exact q_559789b9d h_5 | omega⟩ (q_aload_n rfl rfl (q_iload_n rfl rfl ?_)))))))
    refine q_iload rfl rfl (v_iadd (v := 6) rfl (by decide) (v_sch 115 rfl rfl (by omega) (Nat.le_of_ble_eq_true rfl) (by decide) (by decide) (by decide) (q_aload_n rfl rfl (v_gr (t := 2) rfl rfl rfl (Nat.le_of_ble_eq_true rfl) rfl (q_iload_n rfl rfl (q_iload rfl rfl (v_iadd (v := r8) rfl (by omega) ?_)))))))
    have h_6 : -2147483648 ≤ (B r8) ∧ (B r8) ≤ 2147483647 := by rw [← hB r8]; exact ir_2 hI r8
    refine v_ba (v := (B r8)) rfl rfl (by decide) (by decide) (by omega) (hB r8) ?_
    by_cases h_7 : 115 = (B r8)
    · refine v_ic_eq_t (t := 32) rfl rfl h_7 (v_iinc (v := 1) rfl rfl (Nat.le_of_ble_eq_true rfl) (by decide) (q_goto (t := 3) rfl rfl (q_iload rfl rfl (q_iload rfl rfl (v_ic_ge_f (t := 38) rfl rfl ⟨by decide, by first | exact q_a2240bc6c h_5 | omega, by first | exact q_559789b9d h_5 | omega⟩ (q_aload_n rfl rfl (q_iload_n rfl rfl ?_)))))))
      refine q_iload rfl rfl (v_iadd (v := 7) rfl (by decide) (v_sch 105 rfl rfl (by omega) (Nat.le_of_ble_eq_true rfl) (by decide) (by decide) (by decide) (q_aload_n rfl rfl (v_gr (t := 2) rfl rfl rfl (Nat.le_of_ble_eq_true rfl) rfl (q_iload_n rfl rfl (q_iload rfl rfl (v_iadd (v := r8 + 1) rfl rfl ?_)))))))
      have h_8 : -2147483648 ≤ (B (r8 + 1)) ∧ (B (r8 + 1)) ≤ 2147483647 := by rw [← hB (r8 + 1)]; exact ir_2 hI (r8 + 1)
      refine v_ba (v := (B (r8 + 1))) rfl rfl (by decide) (by decide) (by omega) (hB (r8 + 1)) ?_
      by_cases h_9 : 105 = (B (r8 + 1))
      · refine v_ic_eq_t (t := 32) rfl rfl h_9 (v_iinc (v := 2) rfl rfl (Nat.le_of_ble_eq_true rfl) (by decide) (q_goto (t := 3) rfl rfl (q_iload rfl rfl (q_iload rfl rfl (v_ic_ge_f (t := 38) rfl rfl ⟨by decide, by first | exact q_81cf1e9c6 h_5 | omega, by first | exact q_559789b9d h_5 | omega⟩ (q_aload_n rfl rfl (q_iload_n rfl rfl ?_)))))))
        refine q_iload rfl rfl (v_iadd (v := 8) rfl (by decide) (v_sch 102 rfl rfl (by omega) (Nat.le_of_ble_eq_true rfl) (by decide) (by decide) (by decide) (q_aload_n rfl rfl (v_gr (t := 2) rfl rfl rfl (Nat.le_of_ble_eq_true rfl) rfl (q_iload_n rfl rfl (q_iload rfl rfl (v_iadd (v := r8 + 2) rfl rfl ?_)))))))
        have h_10 : -2147483648 ≤ (B (r8 + 2)) ∧ (B (r8 + 2)) ≤ 2147483647 := by rw [← hB (r8 + 2)]; exact ir_2 hI (r8 + 2)
        refine v_ba (v := (B (r8 + 2))) rfl rfl (by decide) (by decide) (by omega) (hB (r8 + 2)) ?_
        by_cases h_11 : 102 = (B (r8 + 2))
        · refine v_ic_eq_t (t := 32) rfl rfl h_11 (v_iinc (v := 3) rfl rfl (Nat.le_of_ble_eq_true rfl) (by decide) (q_goto (t := 3) rfl rfl (q_iload rfl rfl (q_iload rfl rfl (v_ic_ge_f (t := 38) rfl rfl ⟨by decide, by first | exact q_bf9798940 h_5 | omega, by first | exact q_559789b9d h_5 | omega⟩ (q_aload_n rfl rfl (q_iload_n rfl rfl ?_)))))))
          refine q_iload rfl rfl (v_iadd (v := 9) rfl (by decide) (v_sch 116 rfl rfl (by omega) (Nat.le_of_ble_eq_true rfl) (by decide) (by decide) (by decide) (q_aload_n rfl rfl (v_gr (t := 2) rfl rfl rfl (Nat.le_of_ble_eq_true rfl) rfl (q_iload_n rfl rfl (q_iload rfl rfl (v_iadd (v := r8 + 3) rfl rfl ?_)))))))
          have h_12 : -2147483648 ≤ (B (r8 + 3)) ∧ (B (r8 + 3)) ≤ 2147483647 := by rw [← hB (r8 + 3)]; exact ir_2 hI (r8 + 3)
          refine v_ba (v := (B (r8 + 3))) rfl rfl (by decide) (by decide) (by omega) (hB (r8 + 3)) ?_
          by_cases h_13 : 116 = (B (r8 + 3))
          · refine v_ic_eq_t (t := 32) rfl rfl h_13 (v_iinc (v := 4) rfl rfl (Nat.le_of_ble_eq_true rfl) (by decide) (Wp_ls [(5, vi 4), (0, .ref 1), (1, .ref (a_SB + 10)), (2, vi 6), (3, vi r8), (4, vi (L8 - r8))] (lsub_cons rfl (lsub_cons rfl (lsub_cons rfl (lsub_cons rfl (lsub_cons rfl (lsub_cons rfl lsub_nil)))))) (q_goto (t := 3) rfl rfl (q_iload rfl rfl (q_iload rfl rfl (v_ic_ge_t (t := 38) rfl rfl ⟨by first | exact q_5edcef13d h_5 | omega, by first | exact q_62ba5a5ea h_5 | omega, by decide⟩ (q_iconst rfl ?_)))))))
            refine v_zret rfl rfl (by decide) (bk_inl (v_if_eq_f (t := 121) rfl rfl (by decide) (q_aload_n rfl rfl (q_iload_n rfl rfl (v_pi (z := 2) rfl rfl rfl (Nat.le_of_ble_eq_true rfl) rfl rfl rfl (by decide) (q_iload rfl rfl (q_iret rfl rfl ?_)))))))
            have hw9 : W8 = 1 := hdW8.symm.trans (wd10_1_t (by omega))
            have hI_14 := iw_1_2 (v := L8) hI ⟨by first | (clear h_1 h_2 h_3 h_4 h_6 h_7 h_8 h_9 h_10 h_11 h_12 h_13 hw9; omega) | omega, by first | (clear h_1 h_2 h_3 h_4 h_5 h_6 h_7 h_8 h_9 h_10 h_11 h_12 h_13 hw9; omega) | omega⟩
            have h_15 : (up c 1 2 L8) 1 2 = L8 := (up_e rfl)
            have h_16 : (up c 1 2 L8) 1 4 = f9 := ((up_n (by decide)).trans (hv2))
            have h_17 : (up c 1 2 L8) 1 5 = p9 := ((up_n (by decide)).trans (hv3))
            exact zv (by omega) (K1 (up c 1 2 L8) hI_14 (fun a j hm => up_b (Decidable.or_iff_not_imp_left.mpr (fun h1 h2 => hm (Or.inl ⟨Decidable.not_not.mp h1, h2⟩)))) (by omega) (by omega) (by omega) (by omega))
          · refine v_ic_eq_f (t := 32) rfl rfl ⟨h_13, ⟨by decide, by decide⟩, by first | exact q_f97c35332 h_12 | omega, by first | exact q_79e53d295 h_12 | omega⟩ (q_iconst rfl (v_zret rfl rfl (by decide) (bk_inl (v_if_eq_t (t := 121) rfl rfl (by decide) (v_iinc (v := 2) rfl rfl (Nat.le_of_ble_eq_true rfl) (by decide) (Wp_ls [(4, vi 2), (6, vi 10), (0, .ref 1), (1, .ref (a_SB + 10)), (2, vi r8), (3, vi L8), (5, vi 6)] (lsub_cons rfl (lsub_cons rfl (lsub_cons rfl (lsub_cons rfl (lsub_cons rfl (lsub_cons rfl (lsub_cons rfl lsub_nil))))))) (q_iload rfl rfl ?_)))))))
            refine q_iconst rfl (v_iadd (v := 11) rfl (by decide) (q_istore rfl (Nat.le_of_ble_eq_true rfl) (v_iinc (v := 11) rfl rfl (Nat.le_of_ble_eq_true rfl) (by decide) (q_goto (t := 52) rfl rfl (Wp_ls [(0, .ref 1), (1, .ref (a_SB + 10)), (2, vi r8), (3, vi L8), (4, vi 2), (5, vi 11), (6, vi 11)] (lsub_cons rfl (lsub_cons rfl (lsub_cons rfl (lsub_cons rfl (lsub_cons rfl (lsub_cons rfl (lsub_cons rfl lsub_nil))))))) ?_)))))
            exact f_10_10_2 (d := d) (r8 := r8) (L8 := L8) (W8 := W8) hI hq0 hq1 hv0 hv1 hv2 hv3 hB ((wd10_1_f (by omega)).symm.trans hdW8) K0 K1
        · refine v_ic_eq_f (t := 32) rfl rfl ⟨h_11, ⟨by decide, by decide⟩, by first | exact q_f97c35332 h_10 | omega, by first | exact q_79e53d295 h_10 | omega⟩ (q_iconst rfl (v_zret rfl rfl (by decide) (bk_inl (v_if_eq_t (t := 121) rfl rfl (by decide) (v_iinc (v := 2) rfl rfl (Nat.le_of_ble_eq_true rfl) (by decide) (Wp_ls [(4, vi 2), (6, vi 10), (0, .ref 1), (1, .ref (a_SB + 10)), (2, vi r8), (3, vi L8), (5, vi 6)] (lsub_cons rfl (lsub_cons rfl (lsub_cons rfl (lsub_cons rfl (lsub_cons rfl (lsub_cons rfl (lsub_cons rfl lsub_nil))))))) (q_iload rfl rfl ?_)))))))
          refine q_iconst rfl (v_iadd (v := 11) rfl (by decide) (q_istore rfl (Nat.le_of_ble_eq_true rfl) (v_iinc (v := 11) rfl rfl (Nat.le_of_ble_eq_true rfl) (by decide) (q_goto (t := 52) rfl rfl (Wp_ls [(0, .ref 1), (1, .ref (a_SB + 10)), (2, vi r8), (3, vi L8), (4, vi 2), (5, vi 11), (6, vi 11)] (lsub_cons rfl (lsub_cons rfl (lsub_cons rfl (lsub_cons rfl (lsub_cons rfl (lsub_cons rfl (lsub_cons rfl lsub_nil))))))) ?_)))))
          exact f_10_10_2 (d := d) (r8 := r8) (L8 := L8) (W8 := W8) hI hq0 hq1 hv0 hv1 hv2 hv3 hB ((wd10_1_f (by omega)).symm.trans hdW8) K0 K1
      · refine v_ic_eq_f (t := 32) rfl rfl ⟨h_9, ⟨by decide, by decide⟩, by first | exact q_f97c35332 h_8 | omega, by first | exact q_79e53d295 h_8 | omega⟩ (q_iconst rfl (v_zret rfl rfl (by decide) (bk_inl (v_if_eq_t (t := 121) rfl rfl (by decide) (v_iinc (v := 2) rfl rfl (Nat.le_of_ble_eq_true rfl) (by decide) (Wp_ls [(4, vi 2), (6, vi 10), (0, .ref 1), (1, .ref (a_SB + 10)), (2, vi r8), (3, vi L8), (5, vi 6)] (lsub_cons rfl (lsub_cons rfl (lsub_cons rfl (lsub_cons rfl (lsub_cons rfl (lsub_cons rfl (lsub_cons rfl lsub_nil))))))) (q_iload rfl rfl ?_)))))))
        refine q_iconst rfl (v_iadd (v := 11) rfl (by decide) (q_istore rfl (Nat.le_of_ble_eq_true rfl) (v_iinc (v := 11) rfl rfl (Nat.le_of_ble_eq_true rfl) (by decide) (q_goto (t := 52) rfl rfl (Wp_ls [(0, .ref 1), (1, .ref (a_SB + 10)), (2, vi r8), (3, vi L8), (4, vi 2), (5, vi 11), (6, vi 11)] (lsub_cons rfl (lsub_cons rfl (lsub_cons rfl (lsub_cons rfl (lsub_cons rfl (lsub_cons rfl (lsub_cons rfl lsub_nil))))))) ?_)))))
        exact f_10_10_2 (d := d) (r8 := r8) (L8 := L8) (W8 := W8) hI hq0 hq1 hv0 hv1 hv2 hv3 hB ((wd10_1_f (by omega)).symm.trans hdW8) K0 K1
    · refine v_ic_eq_f (t := 32) rfl rfl ⟨h_7, ⟨by decide, by decide⟩, by first | exact q_f97c35332 h_6 | omega, by first | exact q_79e53d295 h_6 | omega⟩ (q_iconst rfl (v_zret rfl rfl (by decide) (bk_inl (v_if_eq_t (t := 121) rfl rfl (by decide) (v_iinc (v := 2) rfl rfl (Nat.le_of_ble_eq_true rfl) (by decide) (Wp_ls [(4, vi 2), (6, vi 10), (0, .ref 1), (1, .ref (a_SB + 10)), (2, vi r8), (3, vi L8), (5, vi 6)] (lsub_cons rfl (lsub_cons rfl (lsub_cons rfl (lsub_cons rfl (lsub_cons rfl (lsub_cons rfl (lsub_cons rfl lsub_nil))))))) (q_iload rfl rfl ?_)))))))
      refine q_iconst rfl (v_iadd (v := 11) rfl (by decide) (q_istore rfl (Nat.le_of_ble_eq_true rfl) (v_iinc (v := 11) rfl rfl (Nat.le_of_ble_eq_true rfl) (by decide) (q_goto (t := 52) rfl rfl (Wp_ls [(0, .ref 1), (1, .ref (a_SB + 10)), (2, vi r8), (3, vi L8), (4, vi 2), (5, vi 11), (6, vi 11)] (lsub_cons rfl (lsub_cons rfl (lsub_cons rfl (lsub_cons rfl (lsub_cons rfl (lsub_cons rfl (lsub_cons rfl lsub_nil))))))) ?_)))))
      exact f_10_10_2 (d := d) (r8 := r8) (L8 := L8) (W8 := W8) hI hq0 hq1 hv0 hv1 hv2 hv3 hB ((wd10_1_f (by omega)).symm.trans hdW8) K0 K1

set_option maxRecDepth 100000 in
set_option maxHeartbeats 4000000 in
theorem f_10_10_0 {sc : List Int32} {e : Int} {d u P Q : Nat} {c : ME} {e1 a9 f9 p9 W8 r8 L8 : Int} {B : Int → Int} {Z : AR → Prop} (hI : Iv u e P Q c) (hq0 : (f9 = 0)) (hq1 : (r8 ≥ 0 ∧ r8 ≤ L8 ∧ L8 ≤ 600)) (hv0 : c 1 1 = e1) (hv1 : c 1 2 = a9) (hv2 : c 1 4 = f9) (hv3 : c 1 5 = p9) (hB : ∀ j : Int, c 2 j = B j) (hdW8 : wd10_0 B r8 L8 = W8) (K0 : ∀ c2 : ME, Iv u e P Q c2 → (∀ (a : Nat) (j : Int), ¬ ((a = 1 ∧ j = 2) ∨ (a = 1 ∧ j = 4) ∨ (a = 1 ∧ j = 5)) → c2 a j = c a j) → ((W8 = (-1))) → (c2 1 2 = a9) → (c2 1 4 = 1) → (c2 1 5 = r8) → Z (.inl (some (vi (-1))), Wd P Q P P c2, 0, 0)) (K1 : ∀ c2 : ME, Iv u e P Q c2 → (∀ (a : Nat) (j : Int), ¬ ((a = 1 ∧ j = 2) ∨ (a = 1 ∧ j = 4) ∨ (a = 1 ∧ j = 5)) → c2 a j = c a j) → ((W8 ≥ 0 ∧ W8 ≤ 7)) → (c2 1 2 = L8) → (c2 1 4 = 0) → (c2 1 5 = p9) → Z (.inl (some (vi W8)), Wd P Q P P c2, 0, 0)) : Wp sc (d + 12) 10 52 [(0, .ref 1), (1, .ref (a_SB + 10)), (2, vi r8), (3, vi L8), (4, vi 0), (5, vi 0), (6, vi 0)] [] (Wd P Q P P c) 0 0 Z := by
  have hP := iv_P hI
  have hQ := iv_Q hI
  have h_1 := ir_1_1 hI
  have h_2 := ir_1_2 hI
  have h_3 := ir_1_4 hI
  have h_4 := ir_1_5 hI
  refine q_iload rfl rfl (q_aload_n rfl rfl (v_sln 41 rfl rfl (by omega) (Nat.le_of_ble_eq_true rfl) (by decide) (by decide) (v_ic_gt_f (t := 136) rfl rfl (by decide) (q_aload_n rfl rfl (v_cv rfl rfl rfl rfl (Nat.le_of_ble_eq_true rfl) ⟨⟨rfl, rfl⟩, Nat.le_of_ble_eq_true rfl, rfl⟩ (Nat.le_of_ble_eq_true rfl) (Nat.le_of_ble_eq_true rfl) (q_aload_n rfl rfl (v_gi (z := 4) (v := f9) rfl rfl rfl (Nat.le_of_ble_eq_true rfl) rfl rfl (hv2) ?_)))))))
  refine v_if_ne_f (t := 11) rfl rfl (by omega) (q_iconst rfl (q_goto (t := 12) rfl rfl (v_zret rfl rfl (by decide) (bk_inl (v_if_eq_f (t := 136) rfl rfl (by decide) (q_iload rfl rfl (q_aload_n rfl rfl ?_)))))))
  refine v_sln 41 rfl rfl (by omega) (Nat.le_of_ble_eq_true rfl) (by decide) (by decide) (v_ic_eq_f (t := 88) rfl rfl (by decide) (q_aload_n rfl rfl (q_iload rfl rfl (v_sch 103 rfl rfl (by omega) (Nat.le_of_ble_eq_true rfl) (by decide) (by decide) (by decide) (v_bip rfl (by decide) (v_ic_ne_t (t := 130) rfl rfl (by decide) (v_iinc (v := 1) rfl rfl (Nat.le_of_ble_eq_true rfl) (by decide) ?_)))))))
  refine q_goto (t := 52) rfl rfl (q_iload rfl rfl (q_aload_n rfl rfl (v_sln 41 rfl rfl (by omega) (Nat.le_of_ble_eq_true rfl) (by decide) (by decide) (v_ic_gt_f (t := 136) rfl rfl (by decide) (q_aload_n rfl rfl (v_cv rfl rfl rfl rfl (Nat.le_of_ble_eq_true rfl) ⟨⟨rfl, rfl⟩, Nat.le_of_ble_eq_true rfl, rfl⟩ (Nat.le_of_ble_eq_true rfl) (Nat.le_of_ble_eq_true rfl) (q_aload_n rfl rfl ?_)))))))
  refine v_gi (z := 4) (v := f9) rfl rfl rfl (Nat.le_of_ble_eq_true rfl) rfl rfl (hv2) (v_if_ne_f (t := 11) rfl rfl (by omega) (q_iconst rfl (q_goto (t := 12) rfl rfl (v_zret rfl rfl (by decide) (bk_inl (v_if_eq_f (t := 136) rfl rfl (by decide) (q_iload rfl rfl ?_)))))))
  refine q_aload_n rfl rfl (v_sln 41 rfl rfl (by omega) (Nat.le_of_ble_eq_true rfl) (by decide) (by decide) (v_ic_eq_f (t := 88) rfl rfl (by decide) (q_aload_n rfl rfl (q_iload rfl rfl (v_sch 114 rfl rfl (by omega) (Nat.le_of_ble_eq_true rfl) (by decide) (by decide) (by decide) (v_bip rfl (by decide) (v_ic_ne_t (t := 130) rfl rfl (by decide) ?_)))))))
  refine v_iinc (v := 2) rfl rfl (Nat.le_of_ble_eq_true rfl) (by decide) (q_goto (t := 52) rfl rfl (q_iload rfl rfl (q_aload_n rfl rfl (v_sln 41 rfl rfl (by omega) (Nat.le_of_ble_eq_true rfl) (by decide) (by decide) (v_ic_gt_f (t := 136) rfl rfl (by decide) (q_aload_n rfl rfl (v_cv rfl rfl rfl rfl (Nat.le_of_ble_eq_true rfl) ⟨⟨rfl, rfl⟩, Nat.le_of_ble_eq_true rfl, rfl⟩ (Nat.le_of_ble_eq_true rfl) (Nat.le_of_ble_eq_true rfl) ?_)))))))
  refine q_aload_n rfl rfl (v_gi (z := 4) (v := f9) rfl rfl rfl (Nat.le_of_ble_eq_true rfl) rfl rfl (hv2) (v_if_ne_f (t := 11) rfl rfl (by omega) (q_iconst rfl (q_goto (t := 12) rfl rfl (v_zret rfl rfl (by decide) (bk_inl (v_if_eq_f (t := 136) rfl rfl (by decide) ?_)))))))
  refine q_iload rfl rfl (q_aload_n rfl rfl (v_sln 41 rfl rfl (by omega) (Nat.le_of_ble_eq_true rfl) (by decide) (by decide) (v_ic_eq_f (t := 88) rfl rfl (by decide) (q_aload_n rfl rfl (q_iload rfl rfl (v_sch 105 rfl rfl (by omega) (Nat.le_of_ble_eq_true rfl) (by decide) (by decide) (by decide) (v_bip rfl (by decide) ?_)))))))
  refine v_ic_ne_t (t := 130) rfl rfl (by decide) (v_iinc (v := 3) rfl rfl (Nat.le_of_ble_eq_true rfl) (by decide) (q_goto (t := 52) rfl rfl (q_iload rfl rfl (q_aload_n rfl rfl (v_sln 41 rfl rfl (by omega) (Nat.le_of_ble_eq_true rfl) (by decide) (by decide) (v_ic_gt_f (t := 136) rfl rfl (by decide) (q_aload_n rfl rfl ?_)))))))
  refine v_cv rfl rfl rfl rfl (Nat.le_of_ble_eq_true rfl) ⟨⟨rfl, rfl⟩, Nat.le_of_ble_eq_true rfl, rfl⟩ (Nat.le_of_ble_eq_true rfl) (Nat.le_of_ble_eq_true rfl) (q_aload_n rfl rfl (v_gi (z := 4) (v := f9) rfl rfl rfl (Nat.le_of_ble_eq_true rfl) rfl rfl (hv2) (v_if_ne_f (t := 11) rfl rfl (by omega) (q_iconst rfl (q_goto (t := 12) rfl rfl (v_zret rfl rfl (by decide) (bk_inl ?_)))))))
  refine v_if_eq_f (t := 136) rfl rfl (by decide) (q_iload rfl rfl (q_aload_n rfl rfl (v_sln 41 rfl rfl (by omega) (Nat.le_of_ble_eq_true rfl) (by decide) (by decide) (v_ic_eq_f (t := 88) rfl rfl (by decide) (q_aload_n rfl rfl (q_iload rfl rfl (v_sch 110 rfl rfl (by omega) (Nat.le_of_ble_eq_true rfl) (by decide) (by decide) (by decide) ?_)))))))
  refine v_bip rfl (by decide) (v_ic_ne_t (t := 130) rfl rfl (by decide) (v_iinc (v := 4) rfl rfl (Nat.le_of_ble_eq_true rfl) (by decide) (q_goto (t := 52) rfl rfl (q_iload rfl rfl (q_aload_n rfl rfl (v_sln 41 rfl rfl (by omega) (Nat.le_of_ble_eq_true rfl) (by decide) (by decide) (v_ic_gt_f (t := 136) rfl rfl (by decide) ?_)))))))
  refine q_aload_n rfl rfl (v_cv rfl rfl rfl rfl (Nat.le_of_ble_eq_true rfl) ⟨⟨rfl, rfl⟩, Nat.le_of_ble_eq_true rfl, rfl⟩ (Nat.le_of_ble_eq_true rfl) (Nat.le_of_ble_eq_true rfl) (q_aload_n rfl rfl (v_gi (z := 4) (v := f9) rfl rfl rfl (Nat.le_of_ble_eq_true rfl) rfl rfl (hv2) (v_if_ne_f (t := 11) rfl rfl (by omega) (q_iconst rfl (q_goto (t := 12) rfl rfl (v_zret rfl rfl (by decide) ?_)))))))
  refine bk_inl (v_if_eq_f (t := 136) rfl rfl (by decide) (q_iload rfl rfl (q_aload_n rfl rfl (v_sln 41 rfl rfl (by omega) (Nat.le_of_ble_eq_true rfl) (by decide) (by decide) (v_ic_eq_f (t := 88) rfl rfl (by decide) (q_aload_n rfl rfl (q_iload rfl rfl ?_)))))))
  refine v_sch 100 rfl rfl (by omega) (Nat.le_of_ble_eq_true rfl) (by decide) (by decide) (by decide) (v_bip rfl (by decide) (v_ic_ne_t (t := 130) rfl rfl (by decide) (v_iinc (v := 5) rfl rfl (Nat.le_of_ble_eq_true rfl) (by decide) (Wp_ls [(6, vi 5), (0, .ref 1), (1, .ref (a_SB + 10)), (2, vi r8), (3, vi L8), (4, vi 0), (5, vi 0)] (lsub_cons rfl (lsub_cons rfl (lsub_cons rfl (lsub_cons rfl (lsub_cons rfl (lsub_cons rfl (lsub_cons rfl lsub_nil))))))) (q_goto (t := 52) rfl rfl (q_iload rfl rfl (q_aload_n rfl rfl ?_)))))))
  refine v_sln 41 rfl rfl (by omega) (Nat.le_of_ble_eq_true rfl) (by decide) (by decide) (v_ic_gt_f (t := 136) rfl rfl (by decide) (q_aload_n rfl rfl (v_cv rfl rfl rfl rfl (Nat.le_of_ble_eq_true rfl) ⟨⟨rfl, rfl⟩, Nat.le_of_ble_eq_true rfl, rfl⟩ (Nat.le_of_ble_eq_true rfl) (Nat.le_of_ble_eq_true rfl) (q_aload_n rfl rfl (v_gi (z := 4) (v := f9) rfl rfl rfl (Nat.le_of_ble_eq_true rfl) rfl rfl (hv2) (v_if_ne_f (t := 11) rfl rfl (by omega) (q_iconst rfl ?_)))))))
  refine q_goto (t := 12) rfl rfl (v_zret rfl rfl (by decide) (bk_inl (v_if_eq_f (t := 136) rfl rfl (by decide) (q_iload rfl rfl (q_aload_n rfl rfl (v_sln 41 rfl rfl (by omega) (Nat.le_of_ble_eq_true rfl) (by decide) (by decide) (v_ic_eq_f (t := 88) rfl rfl (by decide) ?_)))))))
  refine q_aload_n rfl rfl (q_iload rfl rfl (v_sch 32 rfl rfl (by omega) (Nat.le_of_ble_eq_true rfl) (by decide) (by decide) (by decide) (v_bip rfl (by decide) (v_ic_ne_f (t := 130) rfl rfl (by decide) (q_iload rfl rfl (q_iload rfl rfl (v_isub (v := 5) rfl (by decide) ?_)))))))
  refine q_iload_n rfl rfl (q_iload_n rfl rfl (v_isub (v := L8 - r8) rfl rfl ?_))
  by_cases h_5 : 5 ≠ L8 - r8
  · refine v_ic_ne_t (t := 121) rfl rfl ⟨h_5, ⟨by decide, by decide⟩, by omega, by omega⟩ (v_iinc (v := 1) rfl rfl (Nat.le_of_ble_eq_true rfl) (by decide) (q_iload rfl rfl (q_iconst rfl (v_iadd (v := 6) rfl (by decide) (q_istore rfl (Nat.le_of_ble_eq_true rfl) (v_iinc (v := 6) rfl rfl (Nat.le_of_ble_eq_true rfl) (by decide) (q_goto (t := 52) rfl rfl ?_)))))))
    refine Wp_ls [(0, .ref 1), (1, .ref (a_SB + 10)), (2, vi r8), (3, vi L8), (4, vi 1), (5, vi 6), (6, vi 6)] (lsub_cons rfl (lsub_cons rfl (lsub_cons rfl (lsub_cons rfl (lsub_cons rfl (lsub_cons rfl (lsub_cons rfl lsub_nil))))))) ?_
    exact f_10_10_1 (d := d) (r8 := r8) (L8 := L8) (W8 := W8) hI hq0 hq1 hv0 hv1 hv2 hv3 hB ((wd10_0_f (by omega)).symm.trans hdW8) K0 K1
  · refine v_ic_ne_f (t := 121) rfl rfl (Decidable.not_not.mp h_5) (q_aload_n rfl rfl (q_aload_n rfl rfl (q_iload rfl rfl (q_iload_n rfl rfl (q_iload_n rfl rfl (q_iload_n rfl rfl (v_isub (v := L8 - r8) rfl rfl ?_)))))))
    refine v_cv rfl rfl rfl rfl (Nat.le_of_ble_eq_true rfl) ⟨⟨rfl, rfl⟩, Nat.le_of_ble_eq_true rfl, rfl⟩ (Nat.le_of_ble_eq_true rfl) (Nat.le_of_ble_eq_true rfl) (q_iconst rfl (q_istore rfl (Nat.le_of_ble_eq_true rfl) (q_iload rfl rfl (q_iload rfl rfl (v_ic_ge_f (t := 38) rfl rfl ⟨by decide, by first | exact q_38a4b4bff h_5 | omega, by first | exact q_fe3598997 h_5 | omega⟩ (q_aload_n rfl rfl (q_iload_n rfl rfl ?_)))))))
    refine q_iload rfl rfl (v_iadd (v := 0) rfl (by decide) (v_sch 103 rfl rfl (by omega) (Nat.le_of_ble_eq_true rfl) (by decide) (by decide) (by decide) (q_aload_n rfl rfl (v_gr (t := 2) rfl rfl rfl (Nat.le_of_ble_eq_true rfl) rfl (q_iload_n rfl rfl (q_iload rfl rfl (v_iadd (v := r8) rfl (by omega) ?_)))))))
    have h_6 : -2147483648 ≤ (B r8) ∧ (B r8) ≤ 2147483647 := by rw [← hB r8]; exact ir_2 hI r8
    refine v_ba (v := (B r8)) rfl rfl (by decide) (by decide) (by omega) (hB r8) ?_
    by_cases h_7 : 103 = (B r8)
    · refine v_ic_eq_t (t := 32) rfl rfl h_7 (v_iinc (v := 1) rfl rfl (Nat.le_of_ble_eq_true rfl) (by decide) (q_goto (t := 3) rfl rfl (q_iload rfl rfl (q_iload rfl rfl (v_ic_ge_f (t := 38) rfl rfl ⟨by decide, by first | exact q_2f422e7b9 h_5 | omega, by first | exact q_fe3598997 h_5 | omega⟩ (q_aload_n rfl rfl (q_iload_n rfl rfl ?_)))))))
      refine q_iload rfl rfl (v_iadd (v := 1) rfl (by decide) (v_sch 114 rfl rfl (by omega) (Nat.le_of_ble_eq_true rfl) (by decide) (by decide) (by decide) (q_aload_n rfl rfl (v_gr (t := 2) rfl rfl rfl (Nat.le_of_ble_eq_true rfl) rfl (q_iload_n rfl rfl (q_iload rfl rfl (v_iadd (v := r8 + 1) rfl rfl ?_)))))))
      have h_8 : -2147483648 ≤ (B (r8 + 1)) ∧ (B (r8 + 1)) ≤ 2147483647 := by rw [← hB (r8 + 1)]; exact ir_2 hI (r8 + 1)
      refine v_ba (v := (B (r8 + 1))) rfl rfl (by decide) (by decide) (by omega) (hB (r8 + 1)) ?_
      by_cases h_9 : 114 = (B (r8 + 1))
      · refine v_ic_eq_t (t := 32) rfl rfl h_9 (v_iinc (v := 2) rfl rfl (Nat.le_of_ble_eq_true rfl) (by decide) (q_goto (t := 3) rfl rfl (q_iload rfl rfl (q_iload rfl rfl (v_ic_ge_f (t := 38) rfl rfl ⟨by decide, by first | exact q_415b3b712 h_5 | omega, by first | exact q_fe3598997 h_5 | omega⟩ (q_aload_n rfl rfl (q_iload_n rfl rfl ?_)))))))
        refine q_iload rfl rfl (v_iadd (v := 2) rfl (by decide) (v_sch 105 rfl rfl (by omega) (Nat.le_of_ble_eq_true rfl) (by decide) (by decide) (by decide) (q_aload_n rfl rfl (v_gr (t := 2) rfl rfl rfl (Nat.le_of_ble_eq_true rfl) rfl (q_iload_n rfl rfl (q_iload rfl rfl (v_iadd (v := r8 + 2) rfl rfl ?_)))))))
        have h_10 : -2147483648 ≤ (B (r8 + 2)) ∧ (B (r8 + 2)) ≤ 2147483647 := by rw [← hB (r8 + 2)]; exact ir_2 hI (r8 + 2)
        refine v_ba (v := (B (r8 + 2))) rfl rfl (by decide) (by decide) (by omega) (hB (r8 + 2)) ?_
        by_cases h_11 : 105 = (B (r8 + 2))
        · refine v_ic_eq_t (t := 32) rfl rfl h_11 (v_iinc (v := 3) rfl rfl (Nat.le_of_ble_eq_true rfl) (by decide) (q_goto (t := 3) rfl rfl (q_iload rfl rfl (q_iload rfl rfl (v_ic_ge_f (t := 38) rfl rfl ⟨by decide, by first | exact q_170273d75 h_5 | omega, by first | exact q_fe3598997 h_5 | omega⟩ (q_aload_n rfl rfl (q_iload_n rfl rfl ?_)))))))
          refine q_iload rfl rfl (v_iadd (v := 3) rfl (by decide) (v_sch 110 rfl rfl (by omega) (Nat.le_of_ble_eq_true rfl) (by decide) (by decide) (by decide) (q_aload_n rfl rfl (v_gr (t := 2) rfl rfl rfl (Nat.le_of_ble_eq_true rfl) rfl (q_iload_n rfl rfl (q_iload rfl rfl (v_iadd (v := r8 + 3) rfl rfl ?_)))))))
          have h_12 : -2147483648 ≤ (B (r8 + 3)) ∧ (B (r8 + 3)) ≤ 2147483647 := by rw [← hB (r8 + 3)]; exact ir_2 hI (r8 + 3)
          refine v_ba (v := (B (r8 + 3))) rfl rfl (by decide) (by decide) (by omega) (hB (r8 + 3)) ?_
          by_cases h_13 : 110 = (B (r8 + 3))
          · refine v_ic_eq_t (t := 32) rfl rfl h_13 (v_iinc (v := 4) rfl rfl (Nat.le_of_ble_eq_true rfl) (by decide) (Wp_ls [(5, vi 4), (0, .ref 1), (1, .ref (a_SB + 10)), (2, vi 0), (3, vi r8), (4, vi (L8 - r8))] (lsub_cons rfl (lsub_cons rfl (lsub_cons rfl (lsub_cons rfl (lsub_cons rfl (lsub_cons rfl lsub_nil)))))) (q_goto (t := 3) rfl rfl (q_iload rfl rfl (q_iload rfl rfl (v_ic_ge_f (t := 38) rfl rfl ⟨by decide, by first | exact q_9d61d9b81 h_5 | omega, by first | exact q_fe3598997 h_5 | omega⟩ (q_aload_n rfl rfl ?_)))))))
            refine q_iload_n rfl rfl (q_iload rfl rfl (v_iadd (v := 4) rfl (by decide) (v_sch 100 rfl rfl (by omega) (Nat.le_of_ble_eq_true rfl) (by decide) (by decide) (by decide) (q_aload_n rfl rfl (v_gr (t := 2) rfl rfl rfl (Nat.le_of_ble_eq_true rfl) rfl (q_iload_n rfl rfl (q_iload rfl rfl ?_)))))))
            refine v_iadd (v := r8 + 4) rfl rfl ?_
            have h_14 : -2147483648 ≤ (B (r8 + 4)) ∧ (B (r8 + 4)) ≤ 2147483647 := by rw [← hB (r8 + 4)]; exact ir_2 hI (r8 + 4)
            refine v_ba (v := (B (r8 + 4))) rfl rfl (by decide) (by decide) ⟨by first | (clear h_1 h_2 h_3 h_4 h_5 h_6 h_7 h_8 h_9 h_10 h_11 h_12 h_13 h_14; omega) | omega, by first | (clear h_1 h_2 h_3 h_4 h_6 h_7 h_8 h_9 h_10 h_11 h_12 h_13 h_14; omega) | omega⟩ (hB (r8 + 4)) ?_
            by_cases h_15 : 100 = (B (r8 + 4))
            · refine v_ic_eq_t (t := 32) rfl rfl h_15 (v_iinc (v := 5) rfl rfl (Nat.le_of_ble_eq_true rfl) (by decide) (q_goto (t := 3) rfl rfl (q_iload rfl rfl (q_iload rfl rfl (v_ic_ge_t (t := 38) rfl rfl ⟨by first | exact q_c439bfa43 h_5 | (clear h_1 h_2 h_3 h_4 h_6 h_7 h_8 h_9 h_10 h_11 h_12 h_13 h_14 h_15; omega) | omega, by first | exact q_fc9a05b17 h_5 | (clear h_1 h_2 h_3 h_4 h_6 h_7 h_8 h_9 h_10 h_11 h_12 h_13 h_14 h_15; omega) | omega, by decide⟩ (q_iconst rfl (v_zret rfl rfl (by decide) ?_)))))))
              refine bk_inl (v_if_eq_f (t := 121) rfl rfl (by decide) (q_aload_n rfl rfl (q_iload_n rfl rfl (v_pi (z := 2) rfl rfl rfl (Nat.le_of_ble_eq_true rfl) rfl rfl rfl (by decide) (q_iload rfl rfl (q_iret rfl rfl ?_))))))
              have hw9 : W8 = 0 := hdW8.symm.trans (wd10_0_t (by omega))
              have hI_16 := iw_1_2 (v := L8) hI ⟨by first | (clear h_1 h_2 h_3 h_4 h_6 h_7 h_8 h_9 h_10 h_11 h_12 h_13 h_14 h_15 hw9; omega) | omega, by first | (clear h_1 h_2 h_3 h_4 h_5 h_6 h_7 h_8 h_9 h_10 h_11 h_12 h_13 h_14 h_15 hw9; omega) | omega⟩
              have h_17 : (up c 1 2 L8) 1 2 = L8 := (up_e rfl)
              have h_18 : (up c 1 2 L8) 1 4 = f9 := ((up_n (by decide)).trans (hv2))
              have h_19 : (up c 1 2 L8) 1 5 = p9 := ((up_n (by decide)).trans (hv3))
              exact zv (by omega) (K1 (up c 1 2 L8) hI_16 (fun a j hm => up_b (Decidable.or_iff_not_imp_left.mpr (fun h1 h2 => hm (Or.inl ⟨Decidable.not_not.mp h1, h2⟩)))) (by omega) (by omega) (by omega) (by omega))
            · refine v_ic_eq_f (t := 32) rfl rfl ⟨h_15, ⟨by decide, by decide⟩, by first | exact q_f97c35332 h_14 | (clear h_1 h_2 h_3 h_4 h_5 h_6 h_7 h_8 h_9 h_10 h_11 h_12 h_13; omega) | omega, by first | exact q_79e53d295 h_14 | (clear h_1 h_2 h_3 h_4 h_5 h_6 h_7 h_8 h_9 h_10 h_11 h_12 h_13; omega) | omega⟩ (q_iconst rfl (v_zret rfl rfl (by decide) (bk_inl (v_if_eq_t (t := 121) rfl rfl (by decide) (v_iinc (v := 1) rfl rfl (Nat.le_of_ble_eq_true rfl) (by decide) (q_iload rfl rfl (q_iconst rfl ?_)))))))
              refine v_iadd (v := 6) rfl (by decide) (q_istore rfl (Nat.le_of_ble_eq_true rfl) (v_iinc (v := 6) rfl rfl (Nat.le_of_ble_eq_true rfl) (by decide) (q_goto (t := 52) rfl rfl (Wp_ls [(0, .ref 1), (1, .ref (a_SB + 10)), (2, vi r8), (3, vi L8), (4, vi 1), (5, vi 6), (6, vi 6)] (lsub_cons rfl (lsub_cons rfl (lsub_cons rfl (lsub_cons rfl (lsub_cons rfl (lsub_cons rfl (lsub_cons rfl lsub_nil))))))) ?_))))
              exact f_10_10_1 (d := d) (r8 := r8) (L8 := L8) (W8 := W8) hI hq0 hq1 hv0 hv1 hv2 hv3 hB ((wd10_0_f (by omega)).symm.trans hdW8) K0 K1
          · refine v_ic_eq_f (t := 32) rfl rfl ⟨h_13, ⟨by decide, by decide⟩, by first | exact q_f97c35332 h_12 | omega, by first | exact q_79e53d295 h_12 | omega⟩ (q_iconst rfl (v_zret rfl rfl (by decide) (bk_inl (v_if_eq_t (t := 121) rfl rfl (by decide) (v_iinc (v := 1) rfl rfl (Nat.le_of_ble_eq_true rfl) (by decide) (q_iload rfl rfl (q_iconst rfl ?_)))))))
            refine v_iadd (v := 6) rfl (by decide) (q_istore rfl (Nat.le_of_ble_eq_true rfl) (v_iinc (v := 6) rfl rfl (Nat.le_of_ble_eq_true rfl) (by decide) (q_goto (t := 52) rfl rfl (Wp_ls [(0, .ref 1), (1, .ref (a_SB + 10)), (2, vi r8), (3, vi L8), (4, vi 1), (5, vi 6), (6, vi 6)] (lsub_cons rfl (lsub_cons rfl (lsub_cons rfl (lsub_cons rfl (lsub_cons rfl (lsub_cons rfl (lsub_cons rfl lsub_nil))))))) ?_))))
            exact f_10_10_1 (d := d) (r8 := r8) (L8 := L8) (W8 := W8) hI hq0 hq1 hv0 hv1 hv2 hv3 hB ((wd10_0_f (by omega)).symm.trans hdW8) K0 K1
        · refine v_ic_eq_f (t := 32) rfl rfl ⟨h_11, ⟨by decide, by decide⟩, by first | exact q_f97c35332 h_10 | omega, by first | exact q_79e53d295 h_10 | omega⟩ (q_iconst rfl (v_zret rfl rfl (by decide) (bk_inl (v_if_eq_t (t := 121) rfl rfl (by decide) (v_iinc (v := 1) rfl rfl (Nat.le_of_ble_eq_true rfl) (by decide) (q_iload rfl rfl (q_iconst rfl ?_)))))))
          refine v_iadd (v := 6) rfl (by decide) (q_istore rfl (Nat.le_of_ble_eq_true rfl) (v_iinc (v := 6) rfl rfl (Nat.le_of_ble_eq_true rfl) (by decide) (q_goto (t := 52) rfl rfl (Wp_ls [(0, .ref 1), (1, .ref (a_SB + 10)), (2, vi r8), (3, vi L8), (4, vi 1), (5, vi 6), (6, vi 6)] (lsub_cons rfl (lsub_cons rfl (lsub_cons rfl (lsub_cons rfl (lsub_cons rfl (lsub_cons rfl (lsub_cons rfl lsub_nil))))))) ?_))))
          exact f_10_10_1 (d := d) (r8 := r8) (L8 := L8) (W8 := W8) hI hq0 hq1 hv0 hv1 hv2 hv3 hB ((wd10_0_f (by omega)).symm.trans hdW8) K0 K1
      · refine v_ic_eq_f (t := 32) rfl rfl ⟨h_9, ⟨by decide, by decide⟩, by first | exact q_f97c35332 h_8 | omega, by first | exact q_79e53d295 h_8 | omega⟩ (q_iconst rfl (v_zret rfl rfl (by decide) (bk_inl (v_if_eq_t (t := 121) rfl rfl (by decide) (v_iinc (v := 1) rfl rfl (Nat.le_of_ble_eq_true rfl) (by decide) (q_iload rfl rfl (q_iconst rfl ?_)))))))
        refine v_iadd (v := 6) rfl (by decide) (q_istore rfl (Nat.le_of_ble_eq_true rfl) (v_iinc (v := 6) rfl rfl (Nat.le_of_ble_eq_true rfl) (by decide) (q_goto (t := 52) rfl rfl (Wp_ls [(0, .ref 1), (1, .ref (a_SB + 10)), (2, vi r8), (3, vi L8), (4, vi 1), (5, vi 6), (6, vi 6)] (lsub_cons rfl (lsub_cons rfl (lsub_cons rfl (lsub_cons rfl (lsub_cons rfl (lsub_cons rfl (lsub_cons rfl lsub_nil))))))) ?_))))
        exact f_10_10_1 (d := d) (r8 := r8) (L8 := L8) (W8 := W8) hI hq0 hq1 hv0 hv1 hv2 hv3 hB ((wd10_0_f (by omega)).symm.trans hdW8) K0 K1
    · refine v_ic_eq_f (t := 32) rfl rfl ⟨h_7, ⟨by decide, by decide⟩, by first | exact q_f97c35332 h_6 | omega, by first | exact q_79e53d295 h_6 | omega⟩ (q_iconst rfl (v_zret rfl rfl (by decide) (bk_inl (v_if_eq_t (t := 121) rfl rfl (by decide) (v_iinc (v := 1) rfl rfl (Nat.le_of_ble_eq_true rfl) (by decide) (q_iload rfl rfl (q_iconst rfl ?_)))))))
      refine v_iadd (v := 6) rfl (by decide) (q_istore rfl (Nat.le_of_ble_eq_true rfl) (v_iinc (v := 6) rfl rfl (Nat.le_of_ble_eq_true rfl) (by decide) (q_goto (t := 52) rfl rfl (Wp_ls [(0, .ref 1), (1, .ref (a_SB + 10)), (2, vi r8), (3, vi L8), (4, vi 1), (5, vi 6), (6, vi 6)] (lsub_cons rfl (lsub_cons rfl (lsub_cons rfl (lsub_cons rfl (lsub_cons rfl (lsub_cons rfl (lsub_cons rfl lsub_nil))))))) ?_))))
      exact f_10_10_1 (d := d) (r8 := r8) (L8 := L8) (W8 := W8) hI hq0 hq1 hv0 hv1 hv2 hv3 hB ((wd10_0_f (by omega)).symm.trans hdW8) K0 K1

set_option maxRecDepth 100000 in
set_option maxHeartbeats 4000000 in
theorem f_10_10_l {sc : List Int32} {e : Int} {d u P Q : Nat} {c : ME} {e1 a9 f9 p9 r8 L8 W8 : Int} {B : Int → Int} {Z : AR → Prop} (hI : Iv u e P Q c) (hv0 : c 1 1 = e1) (hv1 : c 1 2 = a9) (hv2 : c 1 4 = f9) (hv3 : c 1 5 = p9) (hB : ∀ j : Int, c 2 j = B j) (hdr8 : nx B e1 a9 = r8) (hdL8 : ln B e1 r8 = L8) (hdW8 : wd10_0 B r8 L8 = W8) (K0 : ∀ c2 : ME, Iv u e P Q c2 → (∀ (a : Nat) (j : Int), ¬ ((a = 1 ∧ j = 2) ∨ (a = 1 ∧ j = 4) ∨ (a = 1 ∧ j = 5)) → c2 a j = c a j) → ((f9 ≠ 0)) → (c2 1 2 = r8) → (c2 1 4 = f9) → (c2 1 5 = p9) → Z (.inl (some (vi (-1))), Wd P Q P P c2, 0, 0)) (K1 : ∀ c2 : ME, Iv u e P Q c2 → (∀ (a : Nat) (j : Int), ¬ ((a = 1 ∧ j = 2) ∨ (a = 1 ∧ j = 4) ∨ (a = 1 ∧ j = 5)) → c2 a j = c a j) → ((f9 = 0)) → ((W8 = (-1))) → (c2 1 2 = r8) → (c2 1 4 = 1) → (c2 1 5 = r8) → Z (.inl (some (vi (-1))), Wd P Q P P c2, 0, 0)) (K2 : ∀ c2 : ME, Iv u e P Q c2 → (∀ (a : Nat) (j : Int), ¬ ((a = 1 ∧ j = 2) ∨ (a = 1 ∧ j = 4) ∨ (a = 1 ∧ j = 5)) → c2 a j = c a j) → ((f9 = 0)) → ((W8 ≥ 0 ∧ W8 ≤ 7)) → (c2 1 2 = L8) → (c2 1 4 = 0) → (c2 1 5 = p9) → Z (.inl (some (vi W8)), Wd P Q P P c2, 0, 0)) : ∀ n : Nat, (∀ (c2 : ME) (v3 : Int), Iv u e P Q c2 → (∀ (a : Nat) (j : Int), ¬ ((a = 1 ∧ j = 2) ∨ (a = 1 ∧ j = 4) ∨ (a = 1 ∧ j = 5)) → c2 a j = c a j) → 0 ≤ v3 ∧ v3 ≤ 600 → (ln B e1 v3 = L8) → ((v3 ≥ r8)) → ((c2 1 2 = r8)) → ((c2 1 4 = f9)) → ((c2 1 5 = p9)) → 600 - v3 < (n : Int) → Wp sc (d + 13) 10 7 [(0, .ref 1), (1, .ref (a_SB + 10)), (2, vi r8), (3, vi v3)] [] (Wd P Q P P c2) 0 0 Z)
  | 0 => by intro c2 v3 hI2 hF hv3 hx0 hx1 hx2 hx3 hx4 hm9; have hP := iv_P hI; have hQ := iv_Q hI; have h_1 := ir_1_1 hI; have h_2 := ir_1_2 hI; have h_3 := ir_1_4 hI; have h_4 := ir_1_5 hI; have h_5 := ir_1_2 hI2; have h_6 := ir_1_4 hI2; have h_7 := ir_1_5 hI2; exfalso; omega
  | n + 1 => by
    have hP := iv_P hI
    have hQ := iv_Q hI
    have ih := f_10_10_l (sc := sc) (d := d) hI hv0 hv1 hv2 hv3 hB hdr8 hdL8 hdW8 K0 K1 K2 n
    intro c2 v3 hI2 hF hv3 hx0 hx1 hx2 hx3 hx4 hm9
    have h_1 := ir_1_1 hI
    have h_2 := ir_1_2 hI
    have h_3 := ir_1_4 hI
    have h_4 := ir_1_5 hI
    have hn1 := nx_bd (b := B) (e := e1) (a := a9)
    rw [hdr8] at hn1
    have hn2 := ln_bd (b := B) (e := e1) (a := r8)
    rw [hdL8] at hn2
    have h_5 := ir_1_2 hI2
    have h_6 := ir_1_4 hI2
    have h_7 := ir_1_5 hI2
    refine q_iload_n rfl rfl (q_aload_n rfl rfl ?_)
    have kn_8 : Hid (c2 1 1 = e1) := (hF 1 1 (fun q => q.elim (fun h => absurd h.2 (ni rfl)) (fun q => q.elim (fun h => absurd h.2 (ni rfl)) (fun h => absurd h.2 (ni rfl))))).trans (hv0)
    refine v_gi (z := 1) (v := e1) rfl rfl rfl (Nat.le_of_ble_eq_true rfl) rfl rfl (hid kn_8) ?_
    by_cases h_9 : v3 ≥ e1
    · refine v_ic_ge_t (t := 43) rfl rfl ⟨by omega, h_9, (Int.le_trans hv3.2 (by decide))⟩ (q_iconst rfl (q_istore rfl (Nat.le_of_ble_eq_true rfl) (q_iconst rfl (q_istore rfl (Nat.le_of_ble_eq_true rfl) (q_iconst rfl (q_istore rfl (Nat.le_of_ble_eq_true rfl) ?_))))))
      by_cases h_10 : f9 = 0
      · skip
        have hz8 : ln B e1 v3 = v3 := ln_z (by omega)
        have hz9 : v3 = L8 := hz8.symm.trans hx0
        refine Wp_ls [(0, .ref 1), (1, .ref (a_SB + 10)), (2, vi r8), (3, vi L8), (4, vi 0), (5, vi 0), (6, vi 0)] (lsub_cons rfl (lsub_cons rfl (lsub_cons rfl (lsub_cons (congrArg (fun w9 => some (vi w9)) hz9) (lsub_cons rfl (lsub_cons rfl (lsub_cons rfl lsub_nil))))))) ?_
        exact f_10_10_0 (e1 := e1) (a9 := c2 1 2) (f9 := c2 1 4) (p9 := c2 1 5) (r8 := r8) (L8 := L8) (W8 := W8) hI2 (by omega) (by omega) ((hid kn_8)) (rfl) (rfl) (rfl) (fun j => (hF 2 j (fun q => q.elim (fun h => absurd h.1 (nn rfl)) (fun q => q.elim (fun h => absurd h.1 (nn rfl)) (fun h => absurd h.1 (nn rfl))))).trans (hB j)) hdW8 (fun c9 hI9 hF9 x1 z1 z2 z3 => K1 c9 hI9 (fun a j hm => (hF9 a j hm).trans (hF a j (fun q => q.elim (fun h => hm (Or.inl h)) (fun q => q.elim (fun h => hm (Or.inr (Or.inl h))) (fun h => hm (Or.inr (Or.inr h))))))) (by omega) (by omega) (by omega) (by omega) (by omega)) (fun c9 hI9 hF9 x1 z1 z2 z3 => K2 c9 hI9 (fun a j hm => (hF9 a j hm).trans (hF a j (fun q => q.elim (fun h => hm (Or.inl h)) (fun q => q.elim (fun h => hm (Or.inr (Or.inl h))) (fun h => hm (Or.inr (Or.inr h))))))) (by omega) (by omega) (by omega) (by omega) (by omega))
      · skip
        refine q_iload rfl rfl (q_aload_n rfl rfl (v_sln 41 rfl rfl (by omega) (Nat.le_of_ble_eq_true rfl) (by decide) (by decide) (v_ic_gt_f (t := 136) rfl rfl (by decide) (q_aload_n rfl rfl (v_cv rfl rfl rfl rfl (Nat.le_of_ble_eq_true rfl) ⟨⟨rfl, rfl⟩, Nat.le_of_ble_eq_true rfl, rfl⟩ (Nat.le_of_ble_eq_true rfl) (Nat.le_of_ble_eq_true rfl) (q_aload_n rfl rfl (v_gi (z := 4) (v := c2 1 4) rfl rfl rfl (Nat.le_of_ble_eq_true rfl) rfl rfl rfl ?_)))))))
        refine v_if_ne_t (t := 11) rfl rfl ⟨by omega, ⟨(Int.le_trans (by decide) h_6.1), (Int.le_trans h_6.2 (by decide))⟩, by decide, by decide⟩ (q_iconst rfl (v_zret rfl rfl (by decide) (bk_inl (v_if_eq_t (t := 136) rfl rfl (by decide) (q_aload_n rfl rfl (q_iconst rfl (q_iload_n rfl rfl ?_)))))))
        refine v_cv rfl rfl rfl rfl (Nat.le_of_ble_eq_true rfl) ⟨⟨rfl, rfl⟩, Nat.le_of_ble_eq_true rfl, rfl⟩ (Nat.le_of_ble_eq_true rfl) (Nat.le_of_ble_eq_true rfl) (q_aload_n rfl rfl (v_gi (z := 4) (v := c2 1 4) rfl rfl rfl (Nat.le_of_ble_eq_true rfl) rfl rfl rfl (v_if_ne_t (t := 17) rfl rfl ⟨by omega, ⟨(Int.le_trans (by decide) h_6.1), (Int.le_trans h_6.2 (by decide))⟩, by decide, by decide⟩ (q_vret rfl rfl (bk_inl (q_iconst rfl (q_iret rfl rfl ?_)))))))
        exact zv (by omega) (K0 c2 hI2 (fun a j hm => hF a j (fun q => q.elim (fun h => hm (Or.inl h)) (fun q => q.elim (fun h => hm (Or.inr (Or.inl h))) (fun h => hm (Or.inr (Or.inr h)))))) (by omega) (by omega) (by omega) (by omega))
    · refine v_ic_ge_f (t := 43) rfl rfl ⟨(Int.le_trans (by decide) hv3.1), (Int.not_le.mp h_9), by omega⟩ (q_aload_n rfl rfl (v_gr (t := 2) rfl rfl rfl (Nat.le_of_ble_eq_true rfl) rfl (q_iload_n rfl rfl ?_)))
      have h_11 : -2147483648 ≤ (B v3) ∧ (B v3) ≤ 2147483647 := by rw [← hB v3]; exact ir_2 hI v3
      have kn_12 : Hid (c2 2 v3 = (B v3)) := (hF 2 v3 (fun q => q.elim (fun h => absurd h.1 (nn rfl)) (fun q => q.elim (fun h => absurd h.1 (nn rfl)) (fun h => absurd h.1 (nn rfl))))).trans (hB v3)
      refine v_ba (v := (B v3)) rfl rfl (by decide) (by decide) ⟨hv3.1, by omega⟩ (hid kn_12) (v_bip rfl (by decide) ?_)
      by_cases h_13 : (B v3) < 97
      · refine v_ic_lt_t (t := 43) rfl rfl ⟨by first | exact q_f97c35332 h_11 | omega, h_13, by decide⟩ (q_iconst rfl (q_istore rfl (Nat.le_of_ble_eq_true rfl) (q_iconst rfl (q_istore rfl (Nat.le_of_ble_eq_true rfl) (q_iconst rfl (q_istore rfl (Nat.le_of_ble_eq_true rfl) ?_))))))
        by_cases h_14 : f9 = 0
        · skip
          have hz8 : ln B e1 v3 = v3 := ln_z (by omega)
          have hz9 : v3 = L8 := hz8.symm.trans hx0
          refine Wp_ls [(0, .ref 1), (1, .ref (a_SB + 10)), (2, vi r8), (3, vi L8), (4, vi 0), (5, vi 0), (6, vi 0)] (lsub_cons rfl (lsub_cons rfl (lsub_cons rfl (lsub_cons (congrArg (fun w9 => some (vi w9)) hz9) (lsub_cons rfl (lsub_cons rfl (lsub_cons rfl lsub_nil))))))) ?_
          exact f_10_10_0 (e1 := e1) (a9 := c2 1 2) (f9 := c2 1 4) (p9 := c2 1 5) (r8 := r8) (L8 := L8) (W8 := W8) hI2 (by omega) (by omega) ((hid kn_8)) (rfl) (rfl) (rfl) (fun j => (hF 2 j (fun q => q.elim (fun h => absurd h.1 (nn rfl)) (fun q => q.elim (fun h => absurd h.1 (nn rfl)) (fun h => absurd h.1 (nn rfl))))).trans (hB j)) hdW8 (fun c9 hI9 hF9 x1 z1 z2 z3 => K1 c9 hI9 (fun a j hm => (hF9 a j hm).trans (hF a j (fun q => q.elim (fun h => hm (Or.inl h)) (fun q => q.elim (fun h => hm (Or.inr (Or.inl h))) (fun h => hm (Or.inr (Or.inr h))))))) (by omega) (by omega) (by omega) (by omega) (by omega)) (fun c9 hI9 hF9 x1 z1 z2 z3 => K2 c9 hI9 (fun a j hm => (hF9 a j hm).trans (hF a j (fun q => q.elim (fun h => hm (Or.inl h)) (fun q => q.elim (fun h => hm (Or.inr (Or.inl h))) (fun h => hm (Or.inr (Or.inr h))))))) (by omega) (by omega) (by omega) (by omega) (by omega))
        · skip
          refine q_iload rfl rfl (q_aload_n rfl rfl (v_sln 41 rfl rfl (by omega) (Nat.le_of_ble_eq_true rfl) (by decide) (by decide) (v_ic_gt_f (t := 136) rfl rfl (by decide) (q_aload_n rfl rfl (v_cv rfl rfl rfl rfl (Nat.le_of_ble_eq_true rfl) ⟨⟨rfl, rfl⟩, Nat.le_of_ble_eq_true rfl, rfl⟩ (Nat.le_of_ble_eq_true rfl) (Nat.le_of_ble_eq_true rfl) (q_aload_n rfl rfl (v_gi (z := 4) (v := c2 1 4) rfl rfl rfl (Nat.le_of_ble_eq_true rfl) rfl rfl rfl ?_)))))))
          refine v_if_ne_t (t := 11) rfl rfl ⟨by omega, ⟨(Int.le_trans (by decide) h_6.1), (Int.le_trans h_6.2 (by decide))⟩, by decide, by decide⟩ (q_iconst rfl (v_zret rfl rfl (by decide) (bk_inl (v_if_eq_t (t := 136) rfl rfl (by decide) (q_aload_n rfl rfl (q_iconst rfl (q_iload_n rfl rfl ?_)))))))
          refine v_cv rfl rfl rfl rfl (Nat.le_of_ble_eq_true rfl) ⟨⟨rfl, rfl⟩, Nat.le_of_ble_eq_true rfl, rfl⟩ (Nat.le_of_ble_eq_true rfl) (Nat.le_of_ble_eq_true rfl) (q_aload_n rfl rfl (v_gi (z := 4) (v := c2 1 4) rfl rfl rfl (Nat.le_of_ble_eq_true rfl) rfl rfl rfl (v_if_ne_t (t := 17) rfl rfl ⟨by omega, ⟨(Int.le_trans (by decide) h_6.1), (Int.le_trans h_6.2 (by decide))⟩, by decide, by decide⟩ (q_vret rfl rfl (bk_inl (q_iconst rfl (q_iret rfl rfl ?_)))))))
          exact zv (by omega) (K0 c2 hI2 (fun a j hm => hF a j (fun q => q.elim (fun h => hm (Or.inl h)) (fun q => q.elim (fun h => hm (Or.inr (Or.inl h))) (fun h => hm (Or.inr (Or.inr h)))))) (by omega) (by omega) (by omega) (by omega))
      · refine v_ic_lt_f (t := 43) rfl rfl ⟨by decide, (Int.not_lt.mp h_13), by first | exact q_79e53d295 h_11 | omega⟩ (q_aload_n rfl rfl (v_gr (t := 2) rfl rfl rfl (Nat.le_of_ble_eq_true rfl) rfl (q_iload_n rfl rfl (v_ba (v := (B v3)) rfl rfl (by decide) (by decide) ⟨hv3.1, by omega⟩ (hid kn_12) (v_bip rfl (by decide) ?_)))))
        by_cases h_15 : (B v3) > 122
        · refine v_ic_gt_t (t := 43) rfl rfl ⟨by decide, h_15, by first | exact q_79e53d295 h_11 | omega⟩ (q_iconst rfl (q_istore rfl (Nat.le_of_ble_eq_true rfl) (q_iconst rfl (q_istore rfl (Nat.le_of_ble_eq_true rfl) (q_iconst rfl (q_istore rfl (Nat.le_of_ble_eq_true rfl) ?_))))))
          by_cases h_16 : f9 = 0
          · skip
            have hz8 : ln B e1 v3 = v3 := ln_z (by omega)
            have hz9 : v3 = L8 := hz8.symm.trans hx0
            refine Wp_ls [(0, .ref 1), (1, .ref (a_SB + 10)), (2, vi r8), (3, vi L8), (4, vi 0), (5, vi 0), (6, vi 0)] (lsub_cons rfl (lsub_cons rfl (lsub_cons rfl (lsub_cons (congrArg (fun w9 => some (vi w9)) hz9) (lsub_cons rfl (lsub_cons rfl (lsub_cons rfl lsub_nil))))))) ?_
            exact f_10_10_0 (e1 := e1) (a9 := c2 1 2) (f9 := c2 1 4) (p9 := c2 1 5) (r8 := r8) (L8 := L8) (W8 := W8) hI2 (by omega) (by omega) ((hid kn_8)) (rfl) (rfl) (rfl) (fun j => (hF 2 j (fun q => q.elim (fun h => absurd h.1 (nn rfl)) (fun q => q.elim (fun h => absurd h.1 (nn rfl)) (fun h => absurd h.1 (nn rfl))))).trans (hB j)) hdW8 (fun c9 hI9 hF9 x1 z1 z2 z3 => K1 c9 hI9 (fun a j hm => (hF9 a j hm).trans (hF a j (fun q => q.elim (fun h => hm (Or.inl h)) (fun q => q.elim (fun h => hm (Or.inr (Or.inl h))) (fun h => hm (Or.inr (Or.inr h))))))) (by omega) (by omega) (by omega) (by omega) (by omega)) (fun c9 hI9 hF9 x1 z1 z2 z3 => K2 c9 hI9 (fun a j hm => (hF9 a j hm).trans (hF a j (fun q => q.elim (fun h => hm (Or.inl h)) (fun q => q.elim (fun h => hm (Or.inr (Or.inl h))) (fun h => hm (Or.inr (Or.inr h))))))) (by omega) (by omega) (by omega) (by omega) (by omega))
          · skip
            refine q_iload rfl rfl (q_aload_n rfl rfl (v_sln 41 rfl rfl (by omega) (Nat.le_of_ble_eq_true rfl) (by decide) (by decide) (v_ic_gt_f (t := 136) rfl rfl (by decide) (q_aload_n rfl rfl (v_cv rfl rfl rfl rfl (Nat.le_of_ble_eq_true rfl) ⟨⟨rfl, rfl⟩, Nat.le_of_ble_eq_true rfl, rfl⟩ (Nat.le_of_ble_eq_true rfl) (Nat.le_of_ble_eq_true rfl) (q_aload_n rfl rfl (v_gi (z := 4) (v := c2 1 4) rfl rfl rfl (Nat.le_of_ble_eq_true rfl) rfl rfl rfl ?_)))))))
            refine v_if_ne_t (t := 11) rfl rfl ⟨by omega, ⟨(Int.le_trans (by decide) h_6.1), (Int.le_trans h_6.2 (by decide))⟩, by decide, by decide⟩ (q_iconst rfl (v_zret rfl rfl (by decide) (bk_inl (v_if_eq_t (t := 136) rfl rfl (by decide) (q_aload_n rfl rfl (q_iconst rfl (q_iload_n rfl rfl ?_)))))))
            refine v_cv rfl rfl rfl rfl (Nat.le_of_ble_eq_true rfl) ⟨⟨rfl, rfl⟩, Nat.le_of_ble_eq_true rfl, rfl⟩ (Nat.le_of_ble_eq_true rfl) (Nat.le_of_ble_eq_true rfl) (q_aload_n rfl rfl (v_gi (z := 4) (v := c2 1 4) rfl rfl rfl (Nat.le_of_ble_eq_true rfl) rfl rfl rfl (v_if_ne_t (t := 17) rfl rfl ⟨by omega, ⟨(Int.le_trans (by decide) h_6.1), (Int.le_trans h_6.2 (by decide))⟩, by decide, by decide⟩ (q_vret rfl rfl (bk_inl (q_iconst rfl (q_iret rfl rfl ?_)))))))
            exact zv (by omega) (K0 c2 hI2 (fun a j hm => hF a j (fun q => q.elim (fun h => hm (Or.inl h)) (fun q => q.elim (fun h => hm (Or.inr (Or.inl h))) (fun h => hm (Or.inr (Or.inr h)))))) (by omega) (by omega) (by omega) (by omega))
        · refine v_ic_gt_f (t := 43) rfl rfl ⟨by first | exact q_831bb82af h_13 | omega, (Int.not_lt.mp h_15), by decide⟩ (v_iinc (v := v3 + 1) rfl rfl (Nat.le_of_ble_eq_true rfl) rfl (q_goto (t := 7) rfl rfl (Wp_ls [(0, .ref 1), (1, .ref (a_SB + 10)), (2, vi r8), (3, vi (v3 + 1))] (lsub_cons rfl (lsub_cons rfl (lsub_cons rfl (lsub_cons rfl lsub_nil)))) ?_)))
          exact ih c2 (v3 + 1) hI2 (fun a j hm => hF a j (fun q => q.elim (fun h => hm (Or.inl h)) (fun q => q.elim (fun h => hm (Or.inr (Or.inl h))) (fun h => hm (Or.inr (Or.inr h)))))) ⟨by omega, by omega⟩ ((ln_s (by omega)).symm.trans hx0) (by omega) (by omega) (by omega) (by omega) (by omega)
set_option maxRecDepth 100000 in
set_option maxHeartbeats 4000000 in
theorem f_10_10 {sc : List Int32} {e : Int} {d u P Q : Nat} {c : ME} {e1 a9 f9 p9 r8 L8 W8 : Int} {B : Int → Int} {Z : AR → Prop} (hI : Iv u e P Q c) (hv0 : c 1 1 = e1) (hv1 : c 1 2 = a9) (hv2 : c 1 4 = f9) (hv3 : c 1 5 = p9) (hB : ∀ j : Int, c 2 j = B j) (hdr8 : nx B e1 a9 = r8) (hdL8 : ln B e1 r8 = L8) (hdW8 : wd10_0 B r8 L8 = W8) (K0 : ∀ c2 : ME, Iv u e P Q c2 → (∀ (a : Nat) (j : Int), ¬ ((a = 1 ∧ j = 2) ∨ (a = 1 ∧ j = 4) ∨ (a = 1 ∧ j = 5)) → c2 a j = c a j) → ((f9 ≠ 0)) → (c2 1 2 = r8) → (c2 1 4 = f9) → (c2 1 5 = p9) → Z (.inl (some (vi (-1))), Wd P Q P P c2, 0, 0)) (K1 : ∀ c2 : ME, Iv u e P Q c2 → (∀ (a : Nat) (j : Int), ¬ ((a = 1 ∧ j = 2) ∨ (a = 1 ∧ j = 4) ∨ (a = 1 ∧ j = 5)) → c2 a j = c a j) → ((f9 = 0)) → ((W8 = (-1))) → (c2 1 2 = r8) → (c2 1 4 = 1) → (c2 1 5 = r8) → Z (.inl (some (vi (-1))), Wd P Q P P c2, 0, 0)) (K2 : ∀ c2 : ME, Iv u e P Q c2 → (∀ (a : Nat) (j : Int), ¬ ((a = 1 ∧ j = 2) ∨ (a = 1 ∧ j = 4) ∨ (a = 1 ∧ j = 5)) → c2 a j = c a j) → ((f9 = 0)) → ((W8 ≥ 0 ∧ W8 ≤ 7)) → (c2 1 2 = L8) → (c2 1 4 = 0) → (c2 1 5 = p9) → Z (.inl (some (vi W8)), Wd P Q P P c2, 0, 0)) : Wp sc (d + 13) 10 0 [(0, .ref 1), (1, .ref (a_SB + 10))] [] (Wd P Q P P c) 0 0 Z := by
  have hP := iv_P hI
  have hQ := iv_Q hI
  have h_17 := ir_1_1 hI
  have h_18 := ir_1_2 hI
  have h_19 := ir_1_4 hI
  have h_20 := ir_1_5 hI
  have hn1 := nx_bd (b := B) (e := e1) (a := a9)
  rw [hdr8] at hn1
  have hn2 := ln_bd (b := B) (e := e1) (a := r8)
  rw [hdL8] at hn2
  refine q_aload_n rfl rfl ?_
  have h_21 : -2147483648 ≤ (B a9) ∧ (B a9) ≤ 2147483647 := by rw [← hB a9]; exact ir_2 hI a9
  refine v_cv rfl rfl rfl rfl (Nat.le_of_ble_eq_true rfl) ⟨⟨rfl, rfl⟩, Nat.le_of_ble_eq_true rfl, rfl⟩ (Nat.le_of_ble_eq_true rfl) (Nat.le_of_ble_eq_true rfl) (f_3 (e1 := e1) (a9 := a9) (B := B) (r8 := r8) hI ((hv0)) ((hv1)) (fun j => hB j) hdr8 (fun c_22 hI_23 hF_24 hz_25 => (bk_inl (q_istore_n rfl (Nat.le_of_ble_eq_true rfl) (q_iload_n rfl rfl (q_istore_n rfl (Nat.le_of_ble_eq_true rfl) (Wp_ls [(0, .ref 1), (1, .ref (a_SB + 10)), (2, vi r8), (3, vi r8)] (lsub_cons rfl (lsub_cons rfl (lsub_cons rfl (lsub_cons rfl lsub_nil)))) ?_)))))))
  have h_26 : c_22 1 2 = r8 := (hz_25)
  have kn_27 : Hid (c_22 1 4 = f9) := (hF_24 1 4 (fun h => absurd h.2 (ni rfl))).trans (hv2)
  have h_28 : c_22 1 4 = f9 := (hid kn_27)
  have kn_29 : Hid (c_22 1 5 = p9) := (hF_24 1 5 (fun h => absurd h.2 (ni rfl))).trans (hv3)
  have h_30 : c_22 1 5 = p9 := (hid kn_29)
  exact (f_10_10_l (sc := sc) (d := d) hI hv0 hv1 hv2 hv3 hB hdr8 hdL8 hdW8 K0 K1 K2 601) c_22 r8 hI_23 (fun a j hm => hF_24 a j (fun h => hm (Or.inl h))) ⟨by omega, by omega⟩ hdL8 (by omega) (by omega) (by omega) (by omega) (by omega)
