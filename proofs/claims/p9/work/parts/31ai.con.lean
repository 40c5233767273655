/-! ===== contracts 6 ===== -/
theorem q_466f994c8 {x0 : Int} (f0 : ¬ (x0 ≥ 34)) : x0 < 34 := by omega
theorem q_1fcd92368 {x0 : Int} (f0 : ¬ (x0 ≥ 34)) : x0 + 1 ≤ 34 := by omega
theorem q_959592613 {x0 : Int} (f0 : 0 ≤ x0 ∧ x0 ≤ 6) : 4 * x0 ≤ 2147483647 := by omega
theorem q_b6dd10c5c {x0 x1 : Int} (f0 : 0 ≤ x0 ∧ x0 ≤ 6) (f1 : ¬ (x1 ≥ 4 * x0)) : x1 < 24 := by omega
theorem q_86d808b33 {x0 x1 : Int} (f0 : 0 ≤ x0 ∧ x0 ≤ 6) (f1 : ¬ (x1 ≥ 4 * x0)) : x1 < 34 := by omega
theorem q_18033a098 {x0 x1 : Int} (f0 : 0 ≤ x0 ∧ x0 ≤ 6) (f1 : ¬ (x1 ≥ 4 * x0)) : x1 + 1 ≤ 34 := by omega
theorem q_e3e978779 {x0 x1 : Int} (f0 : ¬ (x0 ≥ 4)) (f1 : 0 ≤ x1 ∧ x1 ≤ 5) : 4 * x1 + x0 < 24 := by omega
theorem q_482ef8d41 {x0 : Int} (f0 : ¬ (x0 ≥ 4)) : x0 ≤ 3 := by omega
theorem q_23711b5cc {x0 x1 : Int} (f0 : 0 ≤ x0 ∧ x0 ≤ 600) (f1 : 0 ≤ x1 ∧ x1 ≤ 20) : x1 + x0 ≤ 2147483647 := by omega
theorem q_5ccbaaa40 {x0 x1 : Int} (f0 : 0 ≤ x0 ∧ x0 ≤ 600) (f1 : 0 ≤ x1 ∧ x1 ≤ 20) : (-2147483648) ≤ x1 + x0 := by omega
theorem q_feda450ca {x0 x1 : Int} (f0 : ¬ (x0 + x1 > 600)) : x0 + x1 ≤ 600 := by omega
theorem q_4da7665fc {x0 : Int} (f0 : ¬ (x0 < 0)) : (-8) ≤ x0 - 8 := by omega
theorem q_c4fec1d75 {x0 x1 : Int} (f0 : 0 ≤ x0 ∧ x0 < x1) : 0 ≤ x0 := by omega
theorem q_3c66af975 {x0 x1 : Int} (f0 : 0 ≤ x0 ∧ x0 < x1) (f1 : 1 ≤ x1 ∧ x1 ≤ 16) : x0 ≤ 15 := by omega
theorem q_84496e02d {x0 x1 : Int} (f0 : 0 ≤ x0 ∧ x0 < x1) : x0 < x1 := by omega
set_option maxRecDepth 100000 in
set_option maxHeartbeats 4000000 in
theorem s_65a_5_l {sc : List Int32} {d P Q T : Nat} {c : ME} {Z : AR → Prop} (hI : Iv 38 (-1) P Q c)  (K : ∀ (c2 : ME), Iv 0 (-1) P Q c2 → (∀ (a : Nat) (j : Int), ¬ (a = 38) → c2 a j = c a j) → Z (.inl (none), Wd P Q P T c2, 0, 0)) : ∀ n : Nat, (∀ (c2 : ME) (v2 : Int), Iv 38 (-1) P Q c2 → (∀ (a : Nat) (j : Int), ¬ (a = 38) → c2 a j = c a j) → 0 ≤ v2 ∧ v2 ≤ 34 → (∀ j : Int, 0 ≤ j → j < v2 → j < 24 → c2 38 j ≤ 999) → 69 - 2 * v2 < (n : Int) → Wp sc (d + 7) 65 7 [(0, .ref 37), (1, .ref P), (2, vi v2)] [] (Wd P Q P T c2) 0 0 Z)
  | 0 => by intro c2 v2 hI2 hF hv2 hx0 hm9; have hP := iv_P hI; have hQ := iv_Q hI; exfalso; omega
  | n + 1 => by
    have hP := iv_P hI
    have hQ := iv_Q hI
    have ih := s_65a_5_l (sc := sc) (d := d) hI K n
    intro c2 v2 hI2 hF hv2 hx0 hm9
    refine q_iload_n rfl rfl (v_bip rfl (by decide) ?_)
    by_cases h_1 : v2 ≥ 34
    · refine v_ic_ge_t (t := 51) rfl rfl ⟨by decide, h_1, (Int.le_trans hv2.2 (by decide))⟩ (q_vret rfl rfl ?_)
      have hI_2 := iv_close hI2 (fun j hj => by
        have q9 : j % 4 = 0 ∧ 0 ≤ j ∧ j < 24 := hj
        have q0 := hx0 j (by omega) (by omega) (by omega)
        have q1 := hx0 (j + 1) (by omega) (by omega) (by omega)
        have q2 := hx0 (j + 2) (by omega) (by omega) (by omega)
        have q3 := hx0 (j + 3) (by omega) (by omega) (by omega)
        omega)
      exact K c2 hI_2 (fun a j hm => hF a j (fun h => hm h))
    · refine v_ic_ge_f (t := 51) rfl rfl ⟨(Int.le_trans (by decide) hv2.1), (Int.not_le.mp h_1), by decide⟩ (q_aload_n rfl rfl (v_gr (t := 38) rfl rfl rfl (Nat.le_of_ble_eq_true rfl) rfl (q_iload_n rfl rfl (q_iload_n rfl rfl (q_aload_n rfl rfl (v_gr (t := P) rfl rfl rfl (Nat.le_of_ble_eq_true rfl) rfl ?_))))))
      have h_3 := ir_p0_0 hI hP
      have kn_4 : Hid (c2 P 0 = c P 0) := hF P 0 (fun h => absurd h (np0 hP rfl))
      refine v_gi (z := 0) (v := c P 0) rfl rfl (ck_p0 hP) (a68z hP) rfl rfl (hid kn_4) (q_iconst rfl (v_imul (v := 4 * c P 0) rfl (by omega) ?_))
      by_cases h_5 : v2 ≥ 4 * c P 0
      · refine v_ic_ge_t (t := 43) rfl rfl ⟨by first | exact q_4cd384ca3 h_3 | omega, h_5, (Int.le_trans hv2.2 (by decide))⟩ (q_iconst rfl (v_is rfl rfl (by decide) (by decide) ⟨hv2.1, by first | exact q_466f994c8 h_1 | omega⟩ (v_iinc (v := v2 + 1) rfl rfl (Nat.le_of_ble_eq_true rfl) rfl (q_goto (t := 7) rfl rfl ?_))))
        have hI_6 := iw_row (a := 38) (j := v2) (v := 0) hI2 (by omega) (Or.inl rfl) ⟨by omega, by omega, by omega⟩
        refine Wp_ls [(0, .ref 37), (1, .ref P), (2, vi (v2 + 1))] (lsub_cons rfl (lsub_cons rfl (lsub_cons rfl lsub_nil))) ?_
        have hr_7 : ∀ j : Int, 0 ≤ j → j < v2 + 1 → j < 24 → (up c2 38 v2 0) 38 j ≤ 999 := by
          intro j hj1 hj2 hj3
          by_cases e9 : j = v2
          · have q9 : (up c2 38 v2 0) 38 j = 0 := up_e e9
            rw [q9]
            omega
          · have q9 : (up c2 38 v2 0) 38 j = c2 38 j := up_n e9
            rw [q9]
            exact hx0 j hj1 (by omega) hj3
        exact ih (up c2 38 v2 0) (v2 + 1) hI_6 (fun a j hm => (up_b (Decidable.or_iff_not_imp_left.mpr (fun h1 h2 => hm (Decidable.not_not.mp h1)))).trans (hF a j (fun h => hm h))) ⟨by first | exact rgp_l hv2.1 (by decide) | omega, by first | exact q_1fcd92368 h_1 | omega⟩ hr_7 (by omega)
      · refine v_ic_ge_f (t := 43) rfl rfl ⟨(Int.le_trans (by decide) hv2.1), (Int.not_le.mp h_5), by first | exact q_959592613 h_3 | omega⟩ (q_aload_n rfl rfl (v_gr (t := P) rfl rfl rfl (Nat.le_of_ble_eq_true rfl) rfl (v_gr (t := (P + 1)) rfl rfl (ck_p0 hP) (a68z hP) rfl (q_iload_n rfl rfl ?_))))
        have h_8 := ir_p1 hI hP v2
        have kn_9 : Hid (c2 (P + 1) v2 = c (P + 1) v2) := hF (P + 1) v2 (fun h => absurd h (np hP rfl rfl))
        refine v_ia (v := c (P + 1) v2) rfl (ck_p1 hP) (a68 hP rfl) (by decide) ⟨hv2.1, by first | exact q_b6dd10c5c h_3 h_5 | omega⟩ (hid kn_9) (q_goto (t := 44) rfl rfl (v_is rfl rfl (by decide) (by decide) ⟨hv2.1, by first | exact q_86d808b33 h_3 h_5 | omega⟩ (v_iinc (v := v2 + 1) rfl rfl (Nat.le_of_ble_eq_true rfl) rfl (q_goto (t := 7) rfl rfl ?_))))
        have hI_10 := iw_row (a := 38) (j := v2) (v := c (P + 1) v2) hI2 (by omega) (Or.inl rfl) ⟨by omega, by omega, by omega⟩
        refine Wp_ls [(0, .ref 37), (1, .ref P), (2, vi (v2 + 1))] (lsub_cons rfl (lsub_cons rfl (lsub_cons rfl lsub_nil))) ?_
        have hr_11 : ∀ j : Int, 0 ≤ j → j < v2 + 1 → j < 24 → (up c2 38 v2 (c (P + 1) v2)) 38 j ≤ 999 := by
          intro j hj1 hj2 hj3
          by_cases e9 : j = v2
          · have q9 : (up c2 38 v2 (c (P + 1) v2)) 38 j = c (P + 1) v2 := up_e e9
            rw [q9]
            omega
          · have q9 : (up c2 38 v2 (c (P + 1) v2)) 38 j = c2 38 j := up_n e9
            rw [q9]
            exact hx0 j hj1 (by omega) hj3
        exact ih (up c2 38 v2 (c (P + 1) v2)) (v2 + 1) hI_10 (fun a j hm => (up_b (Decidable.or_iff_not_imp_left.mpr (fun h1 h2 => hm (Decidable.not_not.mp h1)))).trans (hF a j (fun h => hm h))) ⟨by first | exact rgp_l hv2.1 (by decide) | omega, by first | exact q_18033a098 h_3 h_5 | omega⟩ hr_11 (by omega)
set_option maxRecDepth 100000 in
set_option maxHeartbeats 4000000 in
theorem s_65a_5 {sc : List Int32} {d P Q T : Nat} {c : ME} {Z : AR → Prop} (hI : Iv 38 (-1) P Q c)  (K : ∀ (c2 : ME), Iv 0 (-1) P Q c2 → (∀ (a : Nat) (j : Int), ¬ (a = 38) → c2 a j = c a j) → Z (.inl (none), Wd P Q P T c2, 0, 0)) : Wp sc (d + 7) 65 5 [(0, .ref 37), (1, .ref P)] [] (Wd P Q P T c) 0 0 Z := by
  have hP := iv_P hI
  have hQ := iv_Q hI
  refine q_iconst rfl (q_istore_n rfl (Nat.le_of_ble_eq_true rfl) (Wp_ls [(0, .ref 37), (1, .ref P), (2, vi 0)] (lsub_cons rfl (lsub_cons rfl (lsub_cons rfl lsub_nil))) ?_))
  have hr_12 : ∀ j : Int, 0 ≤ j → j < 0 → j < 24 → c 38 j ≤ 999 := by
    intro j hj1 hj2 hj3
    omega
  exact (s_65a_5_l (sc := sc) (d := d) hI K 72) c 0 hI (fun a j hm => rfl) ⟨by decide, by decide⟩ hr_12 (by omega)
set_option maxRecDepth 100000 in
set_option maxHeartbeats 4000000 in
theorem s_65b_5_l {sc : List Int32} {d P Q : Nat} {c : ME} {Z : AR → Prop} (hI : Iv 40 (-1) P Q c)  (K : ∀ (c2 : ME), Iv 0 (-1) P Q c2 → (∀ (a : Nat) (j : Int), ¬ (a = 40) → c2 a j = c a j) → Z (.inl (none), Wd P Q P P c2, 0, 0)) : ∀ n : Nat, (∀ (c2 : ME) (v2 : Int), Iv 40 (-1) P Q c2 → (∀ (a : Nat) (j : Int), ¬ (a = 40) → c2 a j = c a j) → 0 ≤ v2 ∧ v2 ≤ 34 → (∀ j : Int, 0 ≤ j → j < v2 → j < 24 → c2 40 j ≤ 999) → 69 - 2 * v2 < (n : Int) → Wp sc (d + 7) 65 7 [(0, .ref 39), (1, .ref P), (2, vi v2)] [] (Wd P Q P P c2) 0 0 Z)
  | 0 => by intro c2 v2 hI2 hF hv2 hx0 hm9; have hP := iv_P hI; have hQ := iv_Q hI; exfalso; omega
  | n + 1 => by
    have hP := iv_P hI
    have hQ := iv_Q hI
    have ih := s_65b_5_l (sc := sc) (d := d) hI K n
    intro c2 v2 hI2 hF hv2 hx0 hm9
    refine q_iload_n rfl rfl (v_bip rfl (by decide) ?_)
    by_cases h_1 : v2 ≥ 34
    · refine v_ic_ge_t (t := 51) rfl rfl ⟨by decide, h_1, (Int.le_trans hv2.2 (by decide))⟩ (q_vret rfl rfl ?_)
      have hI_2 := iv_close hI2 (fun j hj => by
        have q9 : j % 4 = 0 ∧ 0 ≤ j ∧ j < 24 := hj
        have q0 := hx0 j (by omega) (by omega) (by omega)
        have q1 := hx0 (j + 1) (by omega) (by omega) (by omega)
        have q2 := hx0 (j + 2) (by omega) (by omega) (by omega)
        have q3 := hx0 (j + 3) (by omega) (by omega) (by omega)
        omega)
      exact K c2 hI_2 (fun a j hm => hF a j (fun h => hm h))
    · refine v_ic_ge_f (t := 51) rfl rfl ⟨(Int.le_trans (by decide) hv2.1), (Int.not_le.mp h_1), by decide⟩ (q_aload_n rfl rfl (v_gr (t := 40) rfl rfl rfl (Nat.le_of_ble_eq_true rfl) rfl (q_iload_n rfl rfl (q_iload_n rfl rfl (q_aload_n rfl rfl (v_gr (t := P) rfl rfl rfl (Nat.le_of_ble_eq_true rfl) rfl ?_))))))
      have h_3 := ir_p0_0 hI hP
      have kn_4 : Hid (c2 P 0 = c P 0) := hF P 0 (fun h => absurd h (np0 hP rfl))
      refine v_gi (z := 0) (v := c P 0) rfl rfl (ck_p0 hP) (a68z hP) rfl rfl (hid kn_4) (q_iconst rfl (v_imul (v := 4 * c P 0) rfl (by omega) ?_))
      by_cases h_5 : v2 ≥ 4 * c P 0
      · refine v_ic_ge_t (t := 43) rfl rfl ⟨by first | exact q_4cd384ca3 h_3 | omega, h_5, (Int.le_trans hv2.2 (by decide))⟩ (q_iconst rfl (v_is rfl rfl (by decide) (by decide) ⟨hv2.1, by first | exact q_466f994c8 h_1 | omega⟩ (v_iinc (v := v2 + 1) rfl rfl (Nat.le_of_ble_eq_true rfl) rfl (q_goto (t := 7) rfl rfl ?_))))
        have hI_6 := iw_row (a := 40) (j := v2) (v := 0) hI2 (by omega) (Or.inl rfl) ⟨by omega, by omega, by omega⟩
        refine Wp_ls [(0, .ref 39), (1, .ref P), (2, vi (v2 + 1))] (lsub_cons rfl (lsub_cons rfl (lsub_cons rfl lsub_nil))) ?_
        have hr_7 : ∀ j : Int, 0 ≤ j → j < v2 + 1 → j < 24 → (up c2 40 v2 0) 40 j ≤ 999 := by
          intro j hj1 hj2 hj3
          by_cases e9 : j = v2
          · have q9 : (up c2 40 v2 0) 40 j = 0 := up_e e9
            rw [q9]
            omega
          · have q9 : (up c2 40 v2 0) 40 j = c2 40 j := up_n e9
            rw [q9]
            exact hx0 j hj1 (by omega) hj3
        exact ih (up c2 40 v2 0) (v2 + 1) hI_6 (fun a j hm => (up_b (Decidable.or_iff_not_imp_left.mpr (fun h1 h2 => hm (Decidable.not_not.mp h1)))).trans (hF a j (fun h => hm h))) ⟨by first | exact rgp_l hv2.1 (by decide) | omega, by first | exact q_1fcd92368 h_1 | omega⟩ hr_7 (by omega)
      · refine v_ic_ge_f (t := 43) rfl rfl ⟨(Int.le_trans (by decide) hv2.1), (Int.not_le.mp h_5), by first | exact q_959592613 h_3 | omega⟩ (q_aload_n rfl rfl (v_gr (t := P) rfl rfl rfl (Nat.le_of_ble_eq_true rfl) rfl (v_gr (t := (P + 1)) rfl rfl (ck_p0 hP) (a68z hP) rfl (q_iload_n rfl rfl ?_))))
        have h_8 := ir_p1 hI hP v2
        have kn_9 : Hid (c2 (P + 1) v2 = c (P + 1) v2) := hF (P + 1) v2 (fun h => absurd h (np hP rfl rfl))
        refine v_ia (v := c (P + 1) v2) rfl (ck_p1 hP) (a68 hP rfl) (by decide) ⟨hv2.1, by first | exact q_b6dd10c5c h_3 h_5 | omega⟩ (hid kn_9) (q_goto (t := 44) rfl rfl (v_is rfl rfl (by decide) (by decide) ⟨hv2.1, by first | exact q_86d808b33 h_3 h_5 | omega⟩ (v_iinc (v := v2 + 1) rfl rfl (Nat.le_of_ble_eq_true rfl) rfl (q_goto (t := 7) rfl rfl ?_))))
        have hI_10 := iw_row (a := 40) (j := v2) (v := c (P + 1) v2) hI2 (by omega) (Or.inl rfl) ⟨by omega, by omega, by omega⟩
        refine Wp_ls [(0, .ref 39), (1, .ref P), (2, vi (v2 + 1))] (lsub_cons rfl (lsub_cons rfl (lsub_cons rfl lsub_nil))) ?_
        have hr_11 : ∀ j : Int, 0 ≤ j → j < v2 + 1 → j < 24 → (up c2 40 v2 (c (P + 1) v2)) 40 j ≤ 999 := by
          intro j hj1 hj2 hj3
          by_cases e9 : j = v2
          · have q9 : (up c2 40 v2 (c (P + 1) v2)) 40 j = c (P + 1) v2 := up_e e9
            rw [q9]
            omega
          · have q9 : (up c2 40 v2 (c (P + 1) v2)) 40 j = c2 40 j := up_n e9
            rw [q9]
            exact hx0 j hj1 (by omega) hj3
        exact ih (up c2 40 v2 (c (P + 1) v2)) (v2 + 1) hI_10 (fun a j hm => (up_b (Decidable.or_iff_not_imp_left.mpr (fun h1 h2 => hm (Decidable.not_not.mp h1)))).trans (hF a j (fun h => hm h))) ⟨by first | exact rgp_l hv2.1 (by decide) | omega, by first | exact q_18033a098 h_3 h_5 | omega⟩ hr_11 (by omega)
set_option maxRecDepth 100000 in
set_option maxHeartbeats 4000000 in
theorem s_65b_5 {sc : List Int32} {d P Q : Nat} {c : ME} {Z : AR → Prop} (hI : Iv 40 (-1) P Q c)  (K : ∀ (c2 : ME), Iv 0 (-1) P Q c2 → (∀ (a : Nat) (j : Int), ¬ (a = 40) → c2 a j = c a j) → Z (.inl (none), Wd P Q P P c2, 0, 0)) : Wp sc (d + 7) 65 5 [(0, .ref 39), (1, .ref P)] [] (Wd P Q P P c) 0 0 Z := by
  have hP := iv_P hI
  have hQ := iv_Q hI
  refine q_iconst rfl (q_istore_n rfl (Nat.le_of_ble_eq_true rfl) (Wp_ls [(0, .ref 39), (1, .ref P), (2, vi 0)] (lsub_cons rfl (lsub_cons rfl (lsub_cons rfl lsub_nil))) ?_))
  have hr_12 : ∀ j : Int, 0 ≤ j → j < 0 → j < 24 → c 40 j ≤ 999 := by
    intro j hj1 hj2 hj3
    omega
  exact (s_65b_5_l (sc := sc) (d := d) hI K 72) c 0 hI (fun a j hm => rfl) ⟨by decide, by decide⟩ hr_12 (by omega)
set_option maxRecDepth 100000 in
set_option maxHeartbeats 4000000 in
theorem s_65a {sc : List Int32} {d P Q N T : Nat} {c : ME} {Z : AR → Prop} (hI : Iv 0 (-1) P Q c) (K : ∀ c2 : ME, Iv 0 (-1) P Q c2 → (∀ (a : Nat) (j : Int), ¬ (a = 38) → c2 a j = c a j) → Z (.inl none, Wd P Q P T c2, 0, 0)) : Wp sc (d + 8) 65 0 [(0, .ref 37), (1, .ref P)] [] (Wd P Q N T c) 0 0 Z := by
  refine q_aload_n rfl rfl (q_aload_n rfl rfl (v_pr (P' := P) (Q' := Q) (N' := P) (T' := T) rfl rfl rfl rfl (by decide) (Nat.lt_of_succ_le (Nat.le_of_ble_eq_true rfl)) (fun c => rfl) rfl (by decide) (fun b hb => ck_x37 hb) ?_))
  exact s_65a_5 (d := d + 1) (iv_open hI) K
set_option maxRecDepth 100000 in
set_option maxHeartbeats 4000000 in
theorem s_65b {sc : List Int32} {d P Q T : Nat} {c : ME} {Z : AR → Prop} (hI : Iv 0 (-1) P Q c) (K : ∀ c2 : ME, Iv 0 (-1) P Q c2 → (∀ (a : Nat) (j : Int), ¬ (a = 40) → c2 a j = c a j) → Z (.inl none, Wd P Q P P c2, 0, 0)) : Wp sc (d + 8) 65 0 [(0, .ref 39), (1, .ref P)] [] (Wd P Q P T c) 0 0 Z := by
  refine q_aload_n rfl rfl (q_aload_n rfl rfl (v_pr (P' := P) (Q' := Q) (N' := P) (T' := P) rfl rfl rfl rfl (by decide) (Nat.lt_of_succ_le (Nat.le_of_ble_eq_true rfl)) (fun c => rfl) rfl (by decide) (fun b hb => ck_x39 hb) ?_))
  exact s_65b_5 (d := d + 1) (iv_open hI) K

set_option maxRecDepth 100000 in
set_option maxHeartbeats 4000000 in
theorem s_66 {sc : List Int32} {d P Q : Nat} {c : ME} {Z : AR → Prop} (hI : Iv 0 (-1) P Q c)  (K : ∀ (c2 : ME), Iv 0 (-1) P Q c2 → (∀ (a : Nat) (j : Int), ¬ (a = 40) → c2 a j = c a j) → Z (.inl (none), Wd P Q P P c2, 0, 0)) : Wp sc (d + 7) 66 0 [(0, .ref 39), (1, .ref 37)] [] (Wd P Q P P c) 0 0 Z := by
  have hP := iv_P hI
  have hQ := iv_Q hI
  refine q_aload_n rfl rfl (v_gr (t := 38) rfl rfl rfl (Nat.le_of_ble_eq_true rfl) rfl (q_iconst rfl (q_aload_n rfl rfl (v_gr (t := 40) rfl rfl rfl (Nat.le_of_ble_eq_true rfl) rfl (q_iconst rfl (v_bip rfl (by decide) (v_cpy rfl rfl rfl (by decide) rfl (by decide) rfl rfl (by omega) (Nat.le_of_ble_eq_true rfl) (by omega) ?_)))))))
  refine q_vret rfl rfl ?_
  have hI_1 := cp_38_40 hI
  exact K (upc c 38 0 40 0 34) hI_1 (fun a j hm => upc_c (fun h => hm h))

set_option maxRecDepth 100000 in
set_option maxHeartbeats 4000000 in
theorem s_67_l {sc : List Int32} {e : Int} {d u P Q sh s : Nat} {c : ME} {a1 : Int} {Z : AR → Prop} (hI : Iv u e P Q c) (hs : (sh = 37 ∧ s = 38) ∨ (sh = 39 ∧ s = 40)) (ha1 : 0 ≤ a1 ∧ a1 ≤ 5) (K : ∀ (y : Int), (-2147483648) ≤ y ∧ y ≤ 2147483647 → Z (.inl (some (vi y)), Wd P Q P P c, 0, 0)) : ∀ n : Nat, (∀ (v2 : Int) (v3 : Int), (-2147483648) ≤ v2 ∧ v2 ≤ 2147483647 → 0 ≤ v3 ∧ v3 ≤ 4 → 9 - 2 * v3 < (n : Int) → Wp sc (d + 8) 67 4 [(0, .ref sh), (1, vi a1), (2, vi v2), (3, vi v3)] [] (Wd P Q P P c) 0 0 Z)
  | 0 => by intro v2 v3 hv2 hv3 hm9; have hP := iv_P hI; have hQ := iv_Q hI; exfalso; omega
  | n + 1 => by
    have hP := iv_P hI
    have hQ := iv_Q hI
    have ih := s_67_l (sc := sc) (d := d) hI hs ha1 K n
    intro v2 v3 hv2 hv3 hm9
    refine q_iload_n rfl rfl (q_iconst rfl ?_)
    by_cases h_1 : v3 ≥ 4
    · refine v_ic_ge_t (t := 32) rfl rfl ⟨by decide, h_1, (Int.le_trans hv3.2 (by decide))⟩ (q_iload_n rfl rfl (q_iret rfl rfl ?_))
      exact K v2 hv2
    · refine v_ic_ge_f (t := 32) rfl rfl ⟨(Int.le_trans (by decide) hv3.1), (Int.not_le.mp h_1), by decide⟩ (q_iload_n rfl rfl (q_aload_n rfl rfl (q_iload_n rfl rfl (q_iload_n rfl rfl ?_))))
      have h_2 := ir_s_g hI hs (j := 4 * a1 + v3) (by first | exact q_e3e978779 h_1 ha1 | omega)
      refine v_cv rfl rfl rfl (ck_sh hs) (by omega) ⟨⟨rfl, rfl⟩, by decide, rfl⟩ (Nat.le_of_ble_eq_true rfl) (Nat.le_of_ble_eq_true rfl) (s_45 (v1 := c s (4 * a1 + v3)) (r := c s (4 * a1 + v3)) (a1 := a1) (a2 := v3) hI hs (show 0 ≤ a1 ∧ a1 ≤ 5 from ha1) (show 0 ≤ v3 ∧ v3 ≤ 3 from ⟨hv3.1, by first | exact q_482ef8d41 h_1 | omega⟩) (rfl) (by omega) (bk_inl ?_))
      by_cases h_3 : c s (4 * a1 + v3) ≤ 0
      · refine v_if_le_t (t := 23) rfl rfl ⟨(Int.le_trans (by decide) h_2.1), h_3, by decide⟩ (q_iconst rfl (v_iadd (v := v2) rfl (by omega) (q_istore_n rfl (Nat.le_of_ble_eq_true rfl) (v_iinc (v := v3 + 1) rfl rfl (Nat.le_of_ble_eq_true rfl) rfl (q_goto (t := 4) rfl rfl (Wp_ls [(0, .ref sh), (1, vi a1), (2, vi v2), (3, vi (v3 + 1))] (lsub_cons rfl (lsub_cons rfl (lsub_cons rfl (lsub_cons rfl lsub_nil)))) ?_))))))
        exact ih v2 (v3 + 1) hv2 ⟨by first | exact rgp_l hv3.1 (by decide) | omega, by first | exact q_121241f94 h_1 | omega⟩ (by omega)
      · refine v_if_le_f (t := 23) rfl rfl ⟨by decide, (Int.not_le.mp h_3), (Int.le_trans h_2.2 (by decide))⟩ (q_iconst rfl (q_goto (t := 24) rfl rfl (v_iadd (v := v2 + 1) rfl rfl (v_nrm (fun y_4 hy_4 => (q_istore_n rfl (Nat.le_of_ble_eq_true rfl) (v_iinc (v := v3 + 1) rfl rfl (Nat.le_of_ble_eq_true rfl) rfl (q_goto (t := 4) rfl rfl ?_))))))))
        refine Wp_ls [(0, .ref sh), (1, vi a1), (2, vi y_4), (3, vi (v3 + 1))] (lsub_cons rfl (lsub_cons rfl (lsub_cons rfl (lsub_cons rfl lsub_nil)))) ?_
        exact ih y_4 (v3 + 1) hy_4 ⟨by first | exact rgp_l hv3.1 (by decide) | omega, by first | exact q_121241f94 h_1 | omega⟩ (by omega)
set_option maxRecDepth 100000 in
set_option maxHeartbeats 4000000 in
theorem s_67 {sc : List Int32} {e : Int} {d u P Q sh s : Nat} {c : ME} {a1 : Int} {Z : AR → Prop} (hI : Iv u e P Q c) (hs : (sh = 37 ∧ s = 38) ∨ (sh = 39 ∧ s = 40)) (ha1 : 0 ≤ a1 ∧ a1 ≤ 5) (K : ∀ (y : Int), (-2147483648) ≤ y ∧ y ≤ 2147483647 → Z (.inl (some (vi y)), Wd P Q P P c, 0, 0)) : Wp sc (d + 8) 67 0 [(0, .ref sh), (1, vi a1)] [] (Wd P Q P P c) 0 0 Z := by
  have hP := iv_P hI
  have hQ := iv_Q hI
  refine q_iconst rfl (q_istore_n rfl (Nat.le_of_ble_eq_true rfl) (q_iconst rfl (q_istore_n rfl (Nat.le_of_ble_eq_true rfl) (Wp_ls [(0, .ref sh), (1, vi a1), (2, vi 0), (3, vi 0)] (lsub_cons rfl (lsub_cons rfl (lsub_cons rfl (lsub_cons rfl lsub_nil)))) ?_))))
  exact (s_67_l (sc := sc) (d := d) hI hs ha1 K 12) 0 0 ⟨by decide, by decide⟩ ⟨by decide, by decide⟩ (by omega)

set_option maxRecDepth 100000 in
set_option maxHeartbeats 4000000 in
theorem s_68 {sc : List Int32} {e : Int} {d u P Q sh s : Nat} {c : ME} {a1 : Int} {Z : AR → Prop} (hI : Iv u e P Q c) (hs : (sh = 37 ∧ s = 38) ∨ (sh = 39 ∧ s = 40)) (ha1 : 0 ≤ a1 ∧ a1 ≤ 5) (K : ∀ (y : Int), (-2147483648) ≤ y ∧ y ≤ 2147483647 → Z (.inl (some (vi y)), Wd P Q P P c, 0, 0)) : Wp sc (d + 8) 68 0 [(0, .ref sh), (1, vi a1)] [] (Wd P Q P P c) 0 0 Z := by
  have hP := iv_P hI
  have hQ := iv_Q hI
  refine q_aload_n rfl rfl (q_iload_n rfl rfl ?_)
  have h_1 := ir_s_g hI hs (j := 4 * a1) (by first | exact q_9f1d5ffdc ha1 | omega)
  have h_2 := ir_s_g hI hs (j := 4 * a1 + 1) (by first | exact q_0a2ee6f8f ha1 | omega)
  have h_3 := ir_s_g hI hs (j := 4 * a1 + 2) (by first | exact q_e07a293a2 ha1 | omega)
  have h_4 := ir_s_g hI hs (j := 4 * a1 + 3) (by first | exact q_d09cb0b73 ha1 | omega)
  refine v_cv rfl rfl rfl (ck_sh hs) (by omega) ⟨⟨rfl, rfl⟩, by decide, rfl⟩ (Nat.le_of_ble_eq_true rfl) (Nat.le_of_ble_eq_true rfl) (s_43 (v1 := c s (4 * a1)) (v2 := c s (4 * a1 + 1)) (v3 := c s (4 * a1 + 2)) (v4 := c s (4 * a1 + 3)) (r := c s (4 * a1 + 1) + c s (4 * a1 + 2) + c s (4 * a1 + 3) + c s (4 * a1)) (a1 := a1) hI hs (show 0 ≤ a1 ∧ a1 ≤ 5 from ha1) (rfl) (rfl) (rfl) (rfl) (by omega) (bk_inl (q_istore_n rfl (Nat.le_of_ble_eq_true rfl) (q_iload_n rfl rfl ?_))))
  by_cases h_5 : c s (4 * a1 + 1) + c s (4 * a1 + 2) + c s (4 * a1 + 3) + c s (4 * a1) ≤ 0
  · refine v_if_le_t (t := 25) rfl rfl ⟨by first | exact q_e052ef40e h_1 h_2 h_3 h_4 | omega, h_5, by decide⟩ (q_iconst rfl (q_iret rfl rfl ?_))
    exact K 0 ⟨by decide, by decide⟩
  · refine v_if_le_f (t := 25) rfl rfl ⟨by decide, (Int.not_le.mp h_5), by first | exact q_db9ef1f4a h_1 h_2 h_3 h_4 | omega⟩ (v_sip rfl (by decide) (q_aload_n rfl rfl (q_iload_n rfl rfl (q_iconst rfl (v_cv rfl rfl rfl (ck_sh hs) (by omega) ⟨⟨rfl, rfl⟩, by decide, rfl⟩ (Nat.le_of_ble_eq_true rfl) (Nat.le_of_ble_eq_true rfl) (s_45 (v1 := c s (4 * a1)) (r := c s (4 * a1)) (a1 := a1) (a2 := 0) hI hs (show 0 ≤ a1 ∧ a1 ≤ 5 from ha1) (show 0 ≤ 0 ∧ 0 ≤ 3 from ⟨by decide, by decide⟩) ((congrArg (c s) (show 4 * a1 + 0 = 4 * a1 from by first | exact q_8baad3eb5 | omega))) (by omega) (bk_inl (v_imul (v := 1000 * c s (4 * a1)) rfl (by omega) ?_))))))))
    refine q_iload_n rfl rfl (v_idivx rfl ⟨by omega, by omega, by omega⟩ (fun y_6 hy_6 => (q_goto (t := 26) rfl rfl (q_iret rfl rfl ?_))))
    exact K y_6 hy_6

set_option maxRecDepth 100000 in
set_option maxHeartbeats 4000000 in
theorem s_69_l {sc : List Int32} {e : Int} {d u P Q sh s : Nat} {c : ME} {Z : AR → Prop} (hI : Iv u e P Q c) (hs : (sh = 37 ∧ s = 38) ∨ (sh = 39 ∧ s = 40)) (K : ∀ (y : Int), (-2147483648) ≤ y ∧ y ≤ 2147483647 → Z (.inl (some (vi y)), Wd P Q P P c, 0, 0)) : ∀ n : Nat, (∀ (v1 : Int) (v2 : Int), (-2147483648) ≤ v1 ∧ v1 ≤ 2147483647 → 0 ≤ v2 ∧ v2 ≤ 6 → 13 - 2 * v2 < (n : Int) → Wp sc (d + 8) 69 4 [(0, .ref sh), (1, vi v1), (2, vi v2)] [] (Wd P Q P P c) 0 0 Z)
  | 0 => by intro v1 v2 hv1 hv2 hm9; have hP := iv_P hI; have hQ := iv_Q hI; exfalso; omega
  | n + 1 => by
    have hP := iv_P hI
    have hQ := iv_Q hI
    have ih := s_69_l (sc := sc) (d := d) hI hs K n
    intro v1 v2 hv1 hv2 hm9
    refine q_iload_n rfl rfl (q_aload_n rfl rfl (v_gr (t := P) rfl rfl (ck_sh hs) (by omega) rfl ?_))
    have h_1 := ir_p0_0 hI hP
    refine v_gi (z := 0) (v := c P 0) rfl rfl (ck_p0 hP) (a68z hP) rfl rfl rfl ?_
    by_cases h_2 : v2 ≥ c P 0
    · refine v_ic_ge_t (t := 29) rfl rfl ⟨(Int.le_trans (by decide) h_1.1), h_2, (Int.le_trans hv2.2 (by decide))⟩ (q_iload_n rfl rfl (q_iret rfl rfl ?_))
      exact K v1 hv1
    · refine v_ic_ge_f (t := 29) rfl rfl ⟨(Int.le_trans (by decide) hv2.1), (Int.not_le.mp h_2), (Int.le_trans h_1.2 (by decide))⟩ (q_iload_n rfl rfl (q_aload_n rfl rfl (q_iload_n rfl rfl ?_)))
      have h_3 := ir_s_g hI hs (j := 4 * v2) (by first | exact q_aa51b186e h_1 h_2 | omega)
      have h_4 := ir_s_g hI hs (j := 4 * v2 + 1) (by first | exact q_57851f9de h_1 h_2 | omega)
      have h_5 := ir_s_g hI hs (j := 4 * v2 + 2) (by first | exact q_7296e74e6 h_1 h_2 | omega)
      have h_6 := ir_s_g hI hs (j := 4 * v2 + 3) (by first | exact q_b15525c4c h_1 h_2 | omega)
      refine v_cv rfl rfl rfl (ck_sh hs) (by omega) ⟨⟨rfl, rfl⟩, by decide, rfl⟩ (Nat.le_of_ble_eq_true rfl) (Nat.le_of_ble_eq_true rfl) (s_43 (v1 := c s (4 * v2)) (v2 := c s (4 * v2 + 1)) (v3 := c s (4 * v2 + 2)) (v4 := c s (4 * v2 + 3)) (r := c s (4 * v2 + 1) + c s (4 * v2 + 2) + c s (4 * v2 + 3) + c s (4 * v2)) (a1 := v2) hI hs (show 0 ≤ v2 ∧ v2 ≤ 5 from ⟨hv2.1, by first | exact q_d63a8538e h_1 h_2 | omega⟩) (rfl) (rfl) (rfl) (rfl) (by omega) (bk_inl (v_iadd (v := c s (4 * v2 + 1) + c s (4 * v2 + 2) + c s (4 * v2 + 3) + c s (4 * v2) + v1) rfl (by omega) (v_nrm (fun y_7 hy_7 => (q_istore_n rfl (Nat.le_of_ble_eq_true rfl) (v_iinc (v := v2 + 1) rfl rfl (Nat.le_of_ble_eq_true rfl) rfl (q_goto (t := 4) rfl rfl (Wp_ls [(0, .ref sh), (1, vi y_7), (2, vi (v2 + 1))] (lsub_cons rfl (lsub_cons rfl (lsub_cons rfl lsub_nil))) ?_)))))))))
      exact ih y_7 (v2 + 1) hy_7 ⟨by first | exact rgp_l hv2.1 (by decide) | omega, by first | exact q_4a76cd9c7 h_1 h_2 | omega⟩ (by omega)
set_option maxRecDepth 100000 in
set_option maxHeartbeats 4000000 in
theorem s_69 {sc : List Int32} {e : Int} {d u P Q sh s : Nat} {c : ME} {Z : AR → Prop} (hI : Iv u e P Q c) (hs : (sh = 37 ∧ s = 38) ∨ (sh = 39 ∧ s = 40)) (K : ∀ (y : Int), (-2147483648) ≤ y ∧ y ≤ 2147483647 → Z (.inl (some (vi y)), Wd P Q P P c, 0, 0)) : Wp sc (d + 8) 69 0 [(0, .ref sh)] [] (Wd P Q P P c) 0 0 Z := by
  have hP := iv_P hI
  have hQ := iv_Q hI
  refine q_iconst rfl (q_istore_n rfl (Nat.le_of_ble_eq_true rfl) (q_iconst rfl (q_istore_n rfl (Nat.le_of_ble_eq_true rfl) (Wp_ls [(0, .ref sh), (1, vi 0), (2, vi 0)] (lsub_cons rfl (lsub_cons rfl (lsub_cons rfl lsub_nil))) ?_))))
  exact (s_69_l (sc := sc) (d := d) hI hs K 16) 0 0 ⟨by decide, by decide⟩ ⟨by decide, by decide⟩ (by omega)

set_option maxRecDepth 100000 in
set_option maxHeartbeats 4000000 in
theorem s_70_l {sc : List Int32} {e : Int} {d u P Q sh s : Nat} {c : ME} {Z : AR → Prop} (hI : Iv u e P Q c) (hs : (sh = 37 ∧ s = 38) ∨ (sh = 39 ∧ s = 40)) (K : ∀ (y : Int), (-2147483648) ≤ y ∧ y ≤ 2147483647 → Z (.inl (some (vi y)), Wd P Q P P c, 0, 0)) : ∀ n : Nat, (∀ (v1 : Int) (v2 : Int), (-2147483648) ≤ v1 ∧ v1 ≤ 2147483647 → 0 ≤ v2 ∧ v2 ≤ 6 → 13 - 2 * v2 < (n : Int) → Wp sc (d + 8) 70 4 [(0, .ref sh), (1, vi v1), (2, vi v2)] [] (Wd P Q P P c) 0 0 Z)
  | 0 => by intro v1 v2 hv1 hv2 hm9; have hP := iv_P hI; have hQ := iv_Q hI; exfalso; omega
  | n + 1 => by
    have hP := iv_P hI
    have hQ := iv_Q hI
    have ih := s_70_l (sc := sc) (d := d) hI hs K n
    intro v1 v2 hv1 hv2 hm9
    refine q_iload_n rfl rfl (q_aload_n rfl rfl (v_gr (t := P) rfl rfl (ck_sh hs) (by omega) rfl ?_))
    have h_1 := ir_p0_0 hI hP
    refine v_gi (z := 0) (v := c P 0) rfl rfl (ck_p0 hP) (a68z hP) rfl rfl rfl ?_
    by_cases h_2 : v2 ≥ c P 0
    · refine v_ic_ge_t (t := 35) rfl rfl ⟨(Int.le_trans (by decide) h_1.1), h_2, (Int.le_trans hv2.2 (by decide))⟩ (q_iload_n rfl rfl (q_iret rfl rfl ?_))
      exact K v1 hv1
    · refine v_ic_ge_f (t := 35) rfl rfl ⟨(Int.le_trans (by decide) hv2.1), (Int.not_le.mp h_2), (Int.le_trans h_1.2 (by decide))⟩ (q_aload_n rfl rfl (q_iload_n rfl rfl ?_))
      have h_3 := ir_s_g hI hs (j := 4 * v2) (by first | exact q_aa51b186e h_1 h_2 | omega)
      have h_4 := ir_s_g hI hs (j := 4 * v2 + 1) (by first | exact q_57851f9de h_1 h_2 | omega)
      have h_5 := ir_s_g hI hs (j := 4 * v2 + 2) (by first | exact q_7296e74e6 h_1 h_2 | omega)
      have h_6 := ir_s_g hI hs (j := 4 * v2 + 3) (by first | exact q_b15525c4c h_1 h_2 | omega)
      refine v_cv rfl rfl rfl (ck_sh hs) (by omega) ⟨⟨rfl, rfl⟩, by decide, rfl⟩ (Nat.le_of_ble_eq_true rfl) (Nat.le_of_ble_eq_true rfl) (s_43 (v1 := c s (4 * v2)) (v2 := c s (4 * v2 + 1)) (v3 := c s (4 * v2 + 2)) (v4 := c s (4 * v2 + 3)) (r := c s (4 * v2 + 1) + c s (4 * v2 + 2) + c s (4 * v2 + 3) + c s (4 * v2)) (a1 := v2) hI hs (show 0 ≤ v2 ∧ v2 ≤ 5 from ⟨hv2.1, by first | exact q_d63a8538e h_1 h_2 | omega⟩) (rfl) (rfl) (rfl) (rfl) (by omega) (bk_inl ?_))
      by_cases h_7 : c s (4 * v2 + 1) + c s (4 * v2 + 2) + c s (4 * v2 + 3) + c s (4 * v2) ≠ 0
      · refine v_if_ne_t (t := 29) rfl rfl ⟨h_7, ⟨by first | exact q_e052ef40e h_3 h_4 h_5 h_6 | omega, by first | exact q_db9ef1f4a h_3 h_4 h_5 h_6 | omega⟩, by decide, by decide⟩ (v_iinc (v := v2 + 1) rfl rfl (Nat.le_of_ble_eq_true rfl) rfl (q_goto (t := 4) rfl rfl (Wp_ls [(0, .ref sh), (1, vi v1), (2, vi (v2 + 1))] (lsub_cons rfl (lsub_cons rfl (lsub_cons rfl lsub_nil))) ?_)))
        exact ih v1 (v2 + 1) hv1 ⟨by first | exact rgp_l hv2.1 (by decide) | omega, by first | exact q_4a76cd9c7 h_1 h_2 | (clear hv1 hv2 h_3 h_4 h_5 h_6 h_7; omega) | omega⟩ (by omega)
      · refine v_if_ne_f (t := 29) rfl rfl (Decidable.not_not.mp h_7) (q_iload_n rfl rfl (q_iconst rfl (q_iload_n rfl rfl (v_shl1 rfl ⟨by omega, by omega⟩ (fun y_8 hy_8 => (v_iorx rfl (fun y_9 hy_9 => (q_istore_n rfl (Nat.le_of_ble_eq_true rfl) (v_iinc (v := v2 + 1) rfl rfl (Nat.le_of_ble_eq_true rfl) rfl ?_)))))))))
        refine q_goto (t := 4) rfl rfl (Wp_ls [(0, .ref sh), (1, vi y_9), (2, vi (v2 + 1))] (lsub_cons rfl (lsub_cons rfl (lsub_cons rfl lsub_nil))) ?_)
        exact ih y_9 (v2 + 1) hy_9 ⟨by first | exact rgp_l hv2.1 (by decide) | omega, by first | exact q_4a76cd9c7 h_1 h_2 | omega⟩ (by omega)
set_option maxRecDepth 100000 in
set_option maxHeartbeats 4000000 in
theorem s_70 {sc : List Int32} {e : Int} {d u P Q sh s : Nat} {c : ME} {Z : AR → Prop} (hI : Iv u e P Q c) (hs : (sh = 37 ∧ s = 38) ∨ (sh = 39 ∧ s = 40)) (K : ∀ (y : Int), (-2147483648) ≤ y ∧ y ≤ 2147483647 → Z (.inl (some (vi y)), Wd P Q P P c, 0, 0)) : Wp sc (d + 8) 70 0 [(0, .ref sh)] [] (Wd P Q P P c) 0 0 Z := by
  have hP := iv_P hI
  have hQ := iv_Q hI
  refine q_iconst rfl (q_istore_n rfl (Nat.le_of_ble_eq_true rfl) (q_iconst rfl (q_istore_n rfl (Nat.le_of_ble_eq_true rfl) (Wp_ls [(0, .ref sh), (1, vi 0), (2, vi 0)] (lsub_cons rfl (lsub_cons rfl (lsub_cons rfl lsub_nil))) ?_))))
  exact (s_70_l (sc := sc) (d := d) hI hs K 16) 0 0 ⟨by decide, by decide⟩ ⟨by decide, by decide⟩ (by omega)

set_option maxRecDepth 100000 in
set_option maxHeartbeats 4000000 in
theorem s_72 {sc : List Int32} {e : Int} {d u P Q : Nat} {c : ME} {a1 : Int} {Z : AR → Prop} (hI : Iv u e P Q c) (ha1 : 0 ≤ a1 ∧ a1 ≤ 20) (K : ∀ (y : Int), 0 ≤ y ∧ y ≤ 1 → ((y = 0) ∨ (a1 + c 1 3 ≤ 600)) → Z (.inl (some (vi y)), Wd P Q P P c, 0, 0)) : Wp sc (d + 7) 72 0 [(0, .ref 1), (1, vi a1)] [] (Wd P Q P P c) 0 0 Z := by
  have hP := iv_P hI
  have hQ := iv_Q hI
  refine q_aload_n rfl rfl ?_
  have h_1 := ir_1_3 hI
  refine v_gi (z := 3) (v := c 1 3) rfl rfl rfl (Nat.le_of_ble_eq_true rfl) rfl rfl rfl (q_iload_n rfl rfl (v_iadd (v := a1 + c 1 3) rfl (by omega) (q_aload_n rfl rfl (v_gr (t := 2) rfl rfl rfl (Nat.le_of_ble_eq_true rfl) rfl (v_al rfl rfl (by decide) (by decide) ?_)))))
  by_cases h_2 : a1 + c 1 3 > 600
  · refine v_ic_gt_t (t := 18) rfl rfl ⟨by decide, h_2, by first | exact q_23711b5cc h_1 ha1 | omega⟩ (q_iconst rfl (v_zret rfl rfl (by decide) ?_))
    exact K 0 ⟨by decide, by decide⟩ (Or.inl (by first | decide | omega))
  · refine v_ic_gt_f (t := 18) rfl rfl ⟨by first | exact q_5ccbaaa40 h_1 ha1 | omega, (Int.not_lt.mp h_2), by decide⟩ (q_iconst rfl (q_goto (t := 19) rfl rfl (v_zret rfl rfl (by decide) ?_)))
    exact K 1 ⟨by decide, by decide⟩ (Or.inr (by first | exact q_feda450ca h_2 | omega))

set_option maxRecDepth 100000 in
set_option maxHeartbeats 4000000 in
theorem s_73_l {sc : List Int32} {e : Int} {d u P Q : Nat} {c : ME} {a1 : Int} {Z : AR → Prop} (hI : Iv u e P Q c) (ha1 : (-2147483648) ≤ a1 ∧ a1 ≤ 2147483647) (K : ∀ (c2 : ME), Iv u e P Q c2 → (∀ (a : Nat) (j : Int), ¬ ((a = 1 ∧ j = 3) ∨ a = 2) → c2 a j = c a j) → Z (.inl (none), Wd P Q P P c2, 0, 0)) : ∀ n : Nat, (∀ (c2 : ME) (v2 : Int), Iv u e P Q c2 → (∀ (a : Nat) (j : Int), ¬ ((a = 1 ∧ j = 3) ∨ a = 2) → c2 a j = c a j) → (-8) ≤ v2 ∧ v2 ≤ 24 → 2 * v2 + 17 < (n : Int) → Wp sc (d + 8) 73 3 [(0, .ref 1), (1, vi a1), (2, vi v2)] [] (Wd P Q P P c2) 0 0 Z)
  | 0 => by intro c2 v2 hI2 hF hv2 hm9; have hP := iv_P hI; have hQ := iv_Q hI; exfalso; omega
  | n + 1 => by
    have hP := iv_P hI
    have hQ := iv_Q hI
    have ih := s_73_l (sc := sc) (d := d) hI ha1 K n
    intro c2 v2 hI2 hF hv2 hm9
    refine q_iload_n rfl rfl ?_
    by_cases h_1 : v2 < 0
    · refine v_if_lt_t (t := 44) rfl rfl ⟨(Int.le_trans (by decide) hv2.1), h_1, by decide⟩ (q_vret rfl rfl ?_)
      exact K c2 hI2 (fun a j hm => hF a j (fun q => q.elim (fun h => hm (Or.inl h)) (fun h => hm (Or.inr h))))
    · refine v_if_lt_f (t := 44) rfl rfl ⟨by decide, (Int.not_lt.mp h_1), (Int.le_trans hv2.2 (by decide))⟩ (q_aload_n rfl rfl (q_iconst rfl ?_))
      have h_2 := ir_1_3 hI2
      refine v_cv rfl rfl rfl rfl (Nat.le_of_ble_eq_true rfl) ⟨⟨rfl, rfl⟩, Nat.le_of_ble_eq_true rfl, rfl⟩ (Nat.le_of_ble_eq_true rfl) (Nat.le_of_ble_eq_true rfl) (s_72 (a1 := 1) hI2 (show 0 ≤ 1 ∧ 1 ≤ 20 from ⟨by decide, by decide⟩) (fun y_3 hy_3 h_4 => (bk_inl ?_)))
      by_cases h_5 : y_3 = 0
      · refine v_if_eq_t (t := 44) rfl rfl h_5 (q_vret rfl rfl ?_)
        exact K c2 hI2 (fun a j hm => hF a j (fun q => q.elim (fun h => hm (Or.inl h)) (fun h => hm (Or.inr h))))
      · refine v_if_eq_f (t := 44) rfl rfl ⟨h_5, ⟨(Int.le_trans (by decide) hy_3.1), (Int.le_trans hy_3.2 (by decide))⟩, by decide, by decide⟩ (q_aload_n rfl rfl (v_gr (t := 2) rfl rfl rfl (Nat.le_of_ble_eq_true rfl) rfl (q_aload_n rfl rfl (v_gi (z := 3) (v := c2 1 3) rfl rfl rfl (Nat.le_of_ble_eq_true rfl) rfl rfl rfl (q_iload_n rfl rfl (q_iload_n rfl rfl (v_ishrx rfl (fun y_6 hy_6 => ?_))))))))
        refine v_i2b rfl (v_bs rfl rfl (by decide) (by decide) ⟨h_2.1, by omega⟩ (q_aload_n rfl rfl (q_dup rfl rfl (v_gi (z := 3) (v := c2 1 3) rfl rfl rfl (Nat.le_of_ble_eq_true rfl) rfl rfl (up_c (nn rfl)) (q_iconst rfl (v_iadd (v := c2 1 3 + 1) rfl rfl (v_pi (z := 3) rfl rfl rfl (Nat.le_of_ble_eq_true rfl) rfl rfl rfl (by decide) ?_)))))))
        refine v_iinc (v := v2 - 8) rfl rfl (Nat.le_of_ble_eq_true rfl) (by first | (clear ha1 hv2 h_1 h_2 h_4 h_5; omega) | omega) (q_goto (t := 3) rfl rfl ?_)
        have h_7 := sb_rng (sb y_6)
        have hI_8 := iw_2 (j := c2 1 3) (v := (sb (sb y_6))) hI2 ⟨by first | (clear ha1 hv2 h_1 h_2 h_4 h_5; omega) | omega, by first | (clear ha1 hv2 h_1 h_2 h_4 h_5; omega) | omega⟩
        have hI_9 := iw_1_3 (v := c2 1 3 + 1) hI_8 ⟨by first | exact rgp_l h_2.1 (by decide) | omega, by omega⟩
        refine Wp_ls [(0, .ref 1), (1, vi a1), (2, vi (v2 - 8))] (lsub_cons rfl (lsub_cons rfl (lsub_cons rfl lsub_nil))) ?_
        exact ih (up (up c2 2 (c2 1 3) (sb (sb y_6))) 1 3 (c2 1 3 + 1)) (v2 - 8) hI_9 (fun a j hm => (up_b (Decidable.or_iff_not_imp_left.mpr (fun h1 h2 => hm (Or.inl ⟨Decidable.not_not.mp h1, h2⟩)))).trans ((up_b (Decidable.or_iff_not_imp_left.mpr (fun h1 h2 => hm (Or.inr (Decidable.not_not.mp h1))))).trans (hF a j (fun q => q.elim (fun h => hm (Or.inl h)) (fun h => hm (Or.inr h)))))) ⟨by first | exact q_4da7665fc h_1 | (clear ha1 hv2 h_2 h_4 h_5; omega) | omega, by first | exact rgm_h hv2.2 (by decide) | omega⟩ (by omega)
set_option maxRecDepth 100000 in
set_option maxHeartbeats 4000000 in
theorem s_73 {sc : List Int32} {e : Int} {d u P Q : Nat} {c : ME} {a1 : Int} {Z : AR → Prop} (hI : Iv u e P Q c) (ha1 : (-2147483648) ≤ a1 ∧ a1 ≤ 2147483647) (K : ∀ (c2 : ME), Iv u e P Q c2 → (∀ (a : Nat) (j : Int), ¬ ((a = 1 ∧ j = 3) ∨ a = 2) → c2 a j = c a j) → Z (.inl (none), Wd P Q P P c2, 0, 0)) : Wp sc (d + 8) 73 0 [(0, .ref 1), (1, vi a1)] [] (Wd P Q P P c) 0 0 Z := by
  have hP := iv_P hI
  have hQ := iv_Q hI
  refine v_bip rfl (by decide) (q_istore_n rfl (Nat.le_of_ble_eq_true rfl) (Wp_ls [(0, .ref 1), (1, vi a1), (2, vi 24)] (lsub_cons rfl (lsub_cons rfl (lsub_cons rfl lsub_nil))) ?_))
  exact (s_73_l (sc := sc) (d := d) hI ha1 K 68) c 24 hI (fun a j hm => rfl) ⟨by decide, by decide⟩ (by omega)

set_option maxRecDepth 100000 in
set_option maxHeartbeats 4000000 in
theorem s_74 {sc : List Int32} {e : Int} {d u P Q : Nat} {c : ME} {a1 : Int} {Z : AR → Prop} (hI : Iv u e P Q c) (ha1 : 0 ≤ a1 ∧ a1 ≤ 600) (K : ∀ (c2 : ME), Iv u e P Q c2 → (∀ (a : Nat) (j : Int), ¬ ((a = 1 ∧ j = 1) ∨ (a = 1 ∧ j = 2) ∨ (a = 1 ∧ j = 3) ∨ (a = 1 ∧ j = 4) ∨ (a = 1 ∧ j = 5)) → c2 a j = c a j) → ((c2 1 3 = 0)) → Z (.inl (none), Wd P Q P P c2, 0, 0)) : Wp sc (d + 7) 74 0 [(0, .ref 1), (1, vi a1)] [] (Wd P Q P P c) 0 0 Z := by
  have hP := iv_P hI
  have hQ := iv_Q hI
  refine q_aload_n rfl rfl (q_iload_n rfl rfl (q_aload_n rfl rfl ?_))
  have h_1 := ir_1_3 hI
  refine v_gi (z := 3) (v := c 1 3) rfl rfl rfl (Nat.le_of_ble_eq_true rfl) rfl rfl rfl (v_minx rfl rfl (by omega) (Nat.le_of_ble_eq_true rfl) ⟨by omega, by omega, by omega, by omega⟩ (fun y_2 hy_2 => (v_pi (z := 1) rfl rfl rfl (Nat.le_of_ble_eq_true rfl) rfl rfl rfl (by decide) (q_aload_n rfl rfl (q_iconst rfl (v_pi (z := 2) rfl rfl rfl (Nat.le_of_ble_eq_true rfl) rfl rfl rfl (by decide) (q_aload_n rfl rfl (q_iconst rfl ?_))))))))
  refine v_pi (z := 3) rfl rfl rfl (Nat.le_of_ble_eq_true rfl) rfl rfl rfl (by decide) (q_aload_n rfl rfl (q_iconst rfl (v_pi (z := 4) rfl rfl rfl (Nat.le_of_ble_eq_true rfl) rfl rfl rfl (by decide) (q_aload_n rfl rfl (q_iconst rfl (v_pi (z := 5) rfl rfl rfl (Nat.le_of_ble_eq_true rfl) rfl rfl rfl (by decide) (q_vret rfl rfl ?_)))))))
  have hI_3 := iw_1_1 (v := y_2) hI ⟨by omega, by omega⟩
  have hI_4 := iw_1_2 (v := 0) hI_3 ⟨by decide, by decide⟩
  have hI_5 := iw_1_3 (v := 0) hI_4 ⟨by decide, by decide⟩
  have hI_6 := iw_1_4 (v := 0) hI_5 ⟨by decide, by decide⟩
  have hI_7 := iw_1_5 (v := (-1)) hI_6 ⟨by decide, by decide⟩
  have h_8 : (up (up (up (up (up c 1 1 y_2) 1 2 0) 1 3 0) 1 4 0) 1 5 (-1)) 1 3 = 0 := ((up_n (by decide)).trans ((up_n (by decide)).trans (up_e rfl)))
  exact K (up (up (up (up (up c 1 1 y_2) 1 2 0) 1 3 0) 1 4 0) 1 5 (-1)) hI_7 (fun a j hm => (up_b (Decidable.or_iff_not_imp_left.mpr (fun h1 h2 => hm (Or.inr (Or.inr (Or.inr (Or.inr ⟨Decidable.not_not.mp h1, h2⟩))))))).trans ((up_b (Decidable.or_iff_not_imp_left.mpr (fun h1 h2 => hm (Or.inr (Or.inr (Or.inr (Or.inl ⟨Decidable.not_not.mp h1, h2⟩))))))).trans ((up_b (Decidable.or_iff_not_imp_left.mpr (fun h1 h2 => hm (Or.inr (Or.inr (Or.inl ⟨Decidable.not_not.mp h1, h2⟩)))))).trans ((up_b (Decidable.or_iff_not_imp_left.mpr (fun h1 h2 => hm (Or.inr (Or.inl ⟨Decidable.not_not.mp h1, h2⟩))))).trans (up_b (Decidable.or_iff_not_imp_left.mpr (fun h1 h2 => hm (Or.inl ⟨Decidable.not_not.mp h1, h2⟩)))))))) (by first | decide | omega)

set_option maxRecDepth 100000 in
set_option maxHeartbeats 4000000 in
theorem s_76 {sc : List Int32} {e : Int} {d u P Q : Nat} {c : ME} {a1 : Int} {Z : AR → Prop} (hI : Iv u e P Q c) (ha1 : 1 ≤ a1 ∧ a1 ≤ 16) (K : ∀ (c2 : ME) (y : Int), Iv u e P Q c2 → (∀ (a : Nat) (j : Int), ¬ ((a = 9 ∧ j = 0)) → c2 a j = c a j) → 0 ≤ y ∧ y ≤ 15 → ((y < a1)) → Z (.inl (some (vi y)), Wd P Q P P c2, 0, 0)) : Wp sc (d + 7) 76 0 [(0, .ref 9), (1, vi a1)] [] (Wd P Q P P c) 0 0 Z := by
  have hP := iv_P hI
  have hQ := iv_Q hI
  refine q_aload_n rfl rfl (q_aload_n rfl rfl ?_)
  have h_1 := ir_9_0 hI
  refine v_gi (z := 0) (v := c 9 0) rfl rfl rfl (Nat.le_of_ble_eq_true rfl) rfl rfl rfl (v_ldc (n := 1103515245) rfl rfl (by decide +kernel) (v_imul (v := 1103515245 * c 9 0) rfl (by omega) (v_nrm (fun y_2 hy_2 => (v_sip rfl (by decide) (v_iadd (v := y_2 + 12345) rfl rfl (v_nrm (fun y_3 hy_3 => (v_pi (z := 0) rfl rfl rfl (Nat.le_of_ble_eq_true rfl) rfl rfl rfl (by decide) ?_)))))))))
  refine q_iload_n rfl rfl (v_if_le_f (t := 35) rfl rfl ⟨by decide, (Int.lt_of_lt_of_le (by decide) ha1.1), (Int.le_trans ha1.2 (by decide))⟩ (q_aload_n rfl rfl (v_gi (z := 0) (v := y_3) rfl rfl rfl (Nat.le_of_ble_eq_true rfl) rfl rfl (up_e rfl) (v_bip rfl (by decide) (v_iushrx rfl (fun y_4 hy_4 => (v_sip rfl (by decide) (v_and15 (v := (y_4 % 32768)) rfl rfl ?_))))))))
  refine q_iload_n rfl rfl ?_
  have h_5 : 0 ≤ ((y_4 % 32768) % a1) ∧ ((y_4 % 32768) % a1) < a1 := rem_bd (by omega)
  refine v_irem (v := ((y_4 % 32768) % a1)) rfl (by omega) rfl (q_goto (t := 36) rfl rfl (q_iret rfl rfl ?_))
  have hI_6 := iw_9_0 (v := y_3) hI ⟨hy_3.1, hy_3.2⟩
  exact K (up c 9 0 y_3) ((y_4 % 32768) % a1) hI_6 (fun a j hm => up_b (Decidable.or_iff_not_imp_left.mpr (fun h1 h2 => hm ⟨Decidable.not_not.mp h1, h2⟩))) ⟨by first | exact q_c4fec1d75 h_5 | omega, by first | exact q_3c66af975 h_5 ha1 | omega⟩ (by first | exact q_84496e02d h_5 | omega)
