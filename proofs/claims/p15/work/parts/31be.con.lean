/-! ===== contracts 18 ===== -/
set_option maxRecDepth 100000 in
set_option maxHeartbeats 4000000 in
theorem s_195 {sc : List Int32} {e : Int} {d u P Q : Nat} {c : ME} {a1 : Int} {a2 : Int} {a3 : Int} {a4 : Int} {a5 : Int} {a6 : Int} {a7 : Int} {Z : AR → Prop} (hI : Iv u e P Q c) (ha1 : 0 ≤ a1 ∧ a1 ≤ 9999) (ha2 : 0 ≤ a2 ∧ a2 ≤ 9999) (ha3 : 0 ≤ a3 ∧ a3 ≤ 9999) (ha4 : 0 ≤ a4 ∧ a4 ≤ 9999) (ha5 : (-2147483648) ≤ a5 ∧ a5 ≤ 2147483647) (ha6 : (-2147483648) ≤ a6 ∧ a6 ≤ 2147483647) (ha7 : (-2147483648) ≤ a7 ∧ a7 ≤ 2147483647) (K : ∀ (c2 : ME) (y : Int), Iv u e P Q c2 → (∀ (a : Nat) (j : Int), ¬ (a = 54 ∨ a = 55) → c2 a j = c a j) → 0 ≤ y ∧ y ≤ 99 → Z (.inl (some (vi y)), Wd P Q P P c2, 0, 0)) : Wp sc (d + 10) 195 0 [(0, .ref 41), (1, vi a1), (2, vi a2), (3, vi a3), (4, vi a4), (5, vi a5), (6, vi a6), (7, vi a7)] [] (Wd P Q P P c) 0 0 Z := by
  have hP := iv_P hI
  have hQ := iv_Q hI
  refine q_aload_n rfl rfl ?_
  refine v_gr (t := 55) rfl rfl rfl (by decide) rfl ?_
  refine q_iconst rfl ?_
  refine q_iload_n rfl rfl ?_
  refine v_is rfl rfl (by decide) (by decide) (by decide) ?_
  refine q_aload_n rfl rfl ?_
  refine v_gr (t := 55) rfl rfl rfl (by decide) rfl ?_
  refine q_iconst rfl ?_
  refine q_iload_n rfl rfl ?_
  refine v_is rfl rfl (by decide) (by decide) (by decide) ?_
  refine q_aload_n rfl rfl ?_
  refine v_gr (t := 55) rfl rfl rfl (by decide) rfl ?_
  refine q_iconst rfl ?_
  refine q_iload_n rfl rfl ?_
  refine v_is rfl rfl (by decide) (by decide) (by decide) ?_
  refine q_aload_n rfl rfl ?_
  refine v_gr (t := 55) rfl rfl rfl (by decide) rfl ?_
  refine q_iconst rfl ?_
  refine q_iload rfl rfl ?_
  refine v_is rfl rfl (by decide) (by decide) (by decide) ?_
  refine q_aload_n rfl rfl ?_
  refine v_gr (t := 55) rfl rfl rfl (by decide) rfl ?_
  refine q_iconst rfl ?_
  refine q_iload_n rfl rfl ?_
  refine q_iload_n rfl rfl ?_
  refine v_iadd (v := a1 + a2) rfl rfl ?_
  refine q_iload_n rfl rfl ?_
  refine v_iadd (v := a1 + a2 + a3) rfl rfl ?_
  refine q_iload rfl rfl ?_
  refine v_iadd (v := a1 + a2 + a3 + a4) rfl rfl ?_
  refine v_is rfl rfl (by decide) (by decide) (by decide) ?_
  refine q_aload_n rfl rfl ?_
  refine v_gr (t := 55) rfl rfl rfl (by decide) rfl ?_
  refine q_iconst rfl ?_
  refine q_iload rfl rfl ?_
  refine v_is rfl rfl (by decide) (by decide) (by decide) ?_
  refine q_aload_n rfl rfl ?_
  refine v_gr (t := 55) rfl rfl rfl (by decide) rfl ?_
  refine v_bip rfl (by decide) ?_
  refine q_iload rfl rfl ?_
  refine v_is rfl rfl (by decide) (by decide) (by decide) ?_
  refine q_aload_n rfl rfl ?_
  refine v_gr (t := 55) rfl rfl rfl (by decide) rfl ?_
  refine v_bip rfl (by decide) ?_
  refine q_iload rfl rfl ?_
  refine v_is rfl rfl (by decide) (by decide) (by decide) ?_
  refine q_aload_n rfl rfl ?_
  have hI_1 := iw_55 (j := 0) (v := a1) hI ⟨(Int.le_trans (by decide) ha1.1), (Int.le_trans ha1.2 (by decide))⟩
  have hI_2 := iw_55 (j := 1) (v := a2) hI_1 ⟨(Int.le_trans (by decide) ha2.1), (Int.le_trans ha2.2 (by decide))⟩
  have hI_3 := iw_55 (j := 2) (v := a3) hI_2 ⟨(Int.le_trans (by decide) ha3.1), (Int.le_trans ha3.2 (by decide))⟩
  have hI_4 := iw_55 (j := 3) (v := a4) hI_3 ⟨(Int.le_trans (by decide) ha4.1), (Int.le_trans ha4.2 (by decide))⟩
  have hI_5 := iw_55 (j := 4) (v := a1 + a2 + a3 + a4) hI_4 ⟨by omega, by omega⟩
  have hI_6 := iw_55 (j := 5) (v := a5) hI_5 ⟨ha5.1, ha5.2⟩
  have hI_7 := iw_55 (j := 6) (v := a6) hI_6 ⟨ha6.1, ha6.2⟩
  have hI_8 := iw_55 (j := 7) (v := a7) hI_7 ⟨ha7.1, ha7.2⟩
  have h_9 : (up (up (up (up (up (up (up (up c 55 0 a1) 55 1 a2) 55 2 a3) 55 3 a4) 55 4 (a1 + a2 + a3 + a4)) 55 5 a5) 55 6 a6) 55 7 a7) 55 4 = a1 + a2 + a3 + a4 := ((up_n (by decide)).trans ((up_n (by decide)).trans ((up_n (by decide)).trans (up_e rfl))))
  have h_10 : (up (up (up (up (up (up (up (up c 55 0 a1) 55 1 a2) 55 2 a3) 55 3 a4) 55 4 (a1 + a2 + a3 + a4)) 55 5 a5) 55 6 a6) 55 7 a7) 55 0 = a1 := ((up_n (by decide)).trans ((up_n (by decide)).trans ((up_n (by decide)).trans ((up_n (by decide)).trans ((up_n (by decide)).trans ((up_n (by decide)).trans ((up_n (by decide)).trans (up_e rfl))))))))
  refine v_cv rfl rfl rfl rfl (by decide) ⟨⟨rfl, rfl⟩, by decide, rfl⟩ (Nat.le_of_ble_eq_true rfl) (Nat.le_of_ble_eq_true rfl) (s_180 hI_8 ⟨by omega, by omega⟩ ⟨by omega, by omega⟩ (fun c_11 y_14 hI_12 hF_13 hy_14 => ?_))
  refine bk_inl ?_
  refine q_iret rfl rfl ?_
  exact K c_11 y_14 hI_12 (fun a j hm => (hF_13 a j (fun h => hm (Or.inl h))).trans ((up_b (Decidable.or_iff_not_imp_left.mpr (fun h1 h2 => hm (Or.inr (Decidable.not_not.mp h1))))).trans ((up_b (Decidable.or_iff_not_imp_left.mpr (fun h1 h2 => hm (Or.inr (Decidable.not_not.mp h1))))).trans ((up_b (Decidable.or_iff_not_imp_left.mpr (fun h1 h2 => hm (Or.inr (Decidable.not_not.mp h1))))).trans ((up_b (Decidable.or_iff_not_imp_left.mpr (fun h1 h2 => hm (Or.inr (Decidable.not_not.mp h1))))).trans ((up_b (Decidable.or_iff_not_imp_left.mpr (fun h1 h2 => hm (Or.inr (Decidable.not_not.mp h1))))).trans ((up_b (Decidable.or_iff_not_imp_left.mpr (fun h1 h2 => hm (Or.inr (Decidable.not_not.mp h1))))).trans ((up_b (Decidable.or_iff_not_imp_left.mpr (fun h1 h2 => hm (Or.inr (Decidable.not_not.mp h1))))).trans (up_b (Decidable.or_iff_not_imp_left.mpr (fun h1 h2 => hm (Or.inr (Decidable.not_not.mp h1))))))))))))) hy_14

set_option maxRecDepth 100000 in
set_option maxHeartbeats 4000000 in
theorem s_196 {sc : List Int32} {e : Int} {d u P Q : Nat} {c : ME} {a1 : Int} {Z : AR → Prop} (hI : Iv u e P Q c) (ha1 : 0 ≤ a1 ∧ a1 ≤ 5) (K : ∀ (c2 : ME) (y : Int), Iv u e P Q c2 → (∀ (a : Nat) (j : Int), ¬ (a = 54 ∨ a = 55) → c2 a j = c a j) → 0 ≤ y ∧ y ≤ 99 → Z (.inl (some (vi y)), Wd P Q P P c2, 0, 0)) : Wp sc (d + 11) 196 0 [(0, .ref 41), (1, vi a1)] [] (Wd P Q P P c) 0 0 Z := by
  have hP := iv_P hI
  have hQ := iv_Q hI
  refine q_aload_n rfl rfl ?_
  refine q_aload_n rfl rfl ?_
  refine v_gr (t := 59) rfl rfl rfl (by decide) rfl ?_
  refine q_iconst rfl ?_
  refine q_iload_n rfl rfl ?_
  refine v_imul (v := 4 * a1) rfl rfl ?_
  have h_1 := ir_59_g hI (j := 4 * a1) (by omega)
  refine v_ia (v := c 59 (4 * a1)) rfl rfl (by decide) (by decide) (by omega) rfl ?_
  refine q_aload_n rfl rfl ?_
  refine v_gr (t := 59) rfl rfl rfl (by decide) rfl ?_
  refine q_iconst rfl ?_
  refine q_iload_n rfl rfl ?_
  refine v_imul (v := 4 * a1) rfl rfl ?_
  refine q_iconst rfl ?_
  refine v_iadd (v := 4 * a1 + 1) rfl rfl ?_
  have h_2 := ir_59_g hI (j := 4 * a1 + 1) (by omega)
  refine v_ia (v := c 59 (4 * a1 + 1)) rfl rfl (by decide) (by decide) (by omega) rfl ?_
  refine q_aload_n rfl rfl ?_
  refine v_gr (t := 59) rfl rfl rfl (by decide) rfl ?_
  refine q_iconst rfl ?_
  refine q_iload_n rfl rfl ?_
  refine v_imul (v := 4 * a1) rfl rfl ?_
  refine q_iconst rfl ?_
  refine v_iadd (v := 4 * a1 + 2) rfl rfl ?_
  have h_3 := ir_59_g hI (j := 4 * a1 + 2) (by omega)
  refine v_ia (v := c 59 (4 * a1 + 2)) rfl rfl (by decide) (by decide) (by omega) rfl ?_
  refine q_aload_n rfl rfl ?_
  refine v_gr (t := 59) rfl rfl rfl (by decide) rfl ?_
  refine q_iconst rfl ?_
  refine q_iload_n rfl rfl ?_
  refine v_imul (v := 4 * a1) rfl rfl ?_
  refine q_iconst rfl ?_
  refine v_iadd (v := 4 * a1 + 3) rfl rfl ?_
  have h_4 := ir_59_g hI (j := 4 * a1 + 3) (by omega)
  refine v_ia (v := c 59 (4 * a1 + 3)) rfl rfl (by decide) (by decide) (by omega) rfl ?_
  refine q_aload_n rfl rfl ?_
  refine v_gr (t := 59) rfl rfl rfl (by decide) rfl ?_
  refine v_bip rfl (by decide) ?_
  refine q_iload_n rfl rfl ?_
  refine v_iadd (v := a1 + 24) rfl (by omega) ?_
  have h_5 := ir_59 hI (a1 + 24)
  refine v_ia (v := c 59 (a1 + 24)) rfl rfl (by decide) (by decide) (by omega) rfl ?_
  refine q_aload_n rfl rfl ?_
  refine v_gr (t := 59) rfl rfl rfl (by decide) rfl ?_
  refine v_bip rfl (by decide) ?_
  have h_6 := ir_59 hI 34
  refine v_ia (v := c 59 34) rfl rfl (by decide) (by decide) (by decide) rfl ?_
  refine q_iload_n rfl rfl ?_
  refine v_cv rfl rfl rfl rfl (by decide) ⟨⟨rfl, rfl⟩, by decide, rfl⟩ (Nat.le_of_ble_eq_true rfl) (Nat.le_of_ble_eq_true rfl) (s_195 (a1 := c 59 (4 * a1)) (a2 := c 59 (4 * a1 + 1)) (a3 := c 59 (4 * a1 + 2)) (a4 := c 59 (4 * a1 + 3)) (a5 := c 59 (a1 + 24)) (a6 := c 59 34) (a7 := a1) hI (show 0 ≤ c 59 (4 * a1) ∧ c 59 (4 * a1) ≤ 9999 from h_1) (show 0 ≤ c 59 (4 * a1 + 1) ∧ c 59 (4 * a1 + 1) ≤ 9999 from h_2) (show 0 ≤ c 59 (4 * a1 + 2) ∧ c 59 (4 * a1 + 2) ≤ 9999 from h_3) (show 0 ≤ c 59 (4 * a1 + 3) ∧ c 59 (4 * a1 + 3) ≤ 9999 from h_4) (show (-2147483648) ≤ c 59 (a1 + 24) ∧ c 59 (a1 + 24) ≤ 2147483647 from h_5) (show (-2147483648) ≤ c 59 34 ∧ c 59 34 ≤ 2147483647 from h_6) (show (-2147483648) ≤ a1 ∧ a1 ≤ 2147483647 from ⟨(Int.le_trans (by decide) ha1.1), (Int.le_trans ha1.2 (by decide))⟩) (fun c_7 y_10 hI_8 hF_9 hy_10 => ?_))
  refine bk_inl ?_
  refine q_iret rfl rfl ?_
  exact K c_7 y_10 hI_8 (fun a j hm => hF_9 a j (fun q => q.elim (fun h => hm (Or.inl h)) (fun h => hm (Or.inr h)))) hy_10

set_option maxRecDepth 100000 in
set_option maxHeartbeats 4000000 in
theorem s_197 {sc : List Int32} {e : Int} {d u P Q : Nat} {c : ME} {a1 : Int} {Z : AR → Prop} (hI : Iv u e P Q c) (ha1 : 0 ≤ a1 ∧ a1 ≤ 5) (K : ∀ (c2 : ME) (y : Int), Iv u e P Q c2 → (∀ (a : Nat) (j : Int), ¬ (a = 54 ∨ a = 55) → c2 a j = c a j) → 0 ≤ y ∧ y ≤ 1 → Z (.inl (some (vi y)), Wd P Q P P c2, 0, 0)) : Wp sc (d + 12) 197 0 [(0, .ref 41), (1, vi a1)] [] (Wd P Q P P c) 0 0 Z := by
  have hP := iv_P hI
  have hQ := iv_Q hI
  refine q_aload_n rfl rfl ?_
  refine q_iload_n rfl rfl ?_
  have h_1 := ir_59_g hI (j := 4 * a1) (by omega)
  have h_2 := ir_59_g hI (j := 4 * a1 + 1) (by omega)
  have h_3 := ir_59_g hI (j := 4 * a1 + 2) (by omega)
  have h_4 := ir_59_g hI (j := 4 * a1 + 3) (by omega)
  refine v_cv rfl rfl rfl rfl (by decide) ⟨⟨rfl, rfl⟩, by decide, rfl⟩ (Nat.le_of_ble_eq_true rfl) (Nat.le_of_ble_eq_true rfl) (s_187 (v1 := c 59 (4 * a1)) (v2 := c 59 (4 * a1 + 1)) (v3 := c 59 (4 * a1 + 2)) (v4 := c 59 (4 * a1 + 3)) (r := c 59 (4 * a1 + 1) + c 59 (4 * a1 + 2) + c 59 (4 * a1 + 3) + c 59 (4 * a1)) (a1 := a1) hI (show 0 ≤ a1 ∧ a1 ≤ 5 from ha1) (rfl) (rfl) (rfl) (rfl) (by omega) ?_)
  refine bk_inl ?_
  by_cases h_5 : c 59 (4 * a1 + 1) + c 59 (4 * a1 + 2) + c 59 (4 * a1 + 3) + c 59 (4 * a1) ≤ 0
  · refine v_if_le_t (t := 22) rfl (by decide) ⟨by omega, h_5, by decide⟩ ?_
    refine q_iconst rfl ?_
    refine v_zret rfl rfl (by decide) ?_
    exact K c 0 hI (fun a j hm => rfl) ⟨by decide, by decide⟩
  · refine v_if_le_f (t := 22) rfl (by decide) ⟨by decide, (Int.not_le.mp h_5), by omega⟩ ?_
    refine q_aload_n rfl rfl ?_
    refine q_iload_n rfl rfl ?_
    refine v_cv rfl rfl rfl rfl (by decide) ⟨⟨rfl, rfl⟩, by decide, rfl⟩ (Nat.le_of_ble_eq_true rfl) (Nat.le_of_ble_eq_true rfl) (s_196 (a1 := a1) hI (show 0 ≤ a1 ∧ a1 ≤ 5 from ha1) (fun c_6 y_9 hI_7 hF_8 hy_9 => ?_))
    refine bk_inl ?_
    refine v_bip rfl (by decide) ?_
    by_cases h_10 : y_9 < 50
    · refine v_ic_lt_t (t := 22) rfl (by decide) ⟨(Int.le_trans (by decide) hy_9.1), h_10, by decide⟩ ?_
      refine q_iconst rfl ?_
      refine v_zret rfl rfl (by decide) ?_
      exact K c_6 0 hI_7 (fun a j hm => hF_8 a j (fun q => q.elim (fun h => hm (Or.inl h)) (fun h => hm (Or.inr h)))) ⟨by decide, by decide⟩
    · refine v_ic_lt_f (t := 22) rfl (by decide) ⟨by decide, (Int.not_lt.mp h_10), (Int.le_trans hy_9.2 (by decide))⟩ ?_
      refine q_iconst rfl ?_
      refine q_goto (t := 23) rfl (by decide) ?_
      refine v_zret rfl rfl (by decide) ?_
      exact K c_6 1 hI_7 (fun a j hm => hF_8 a j (fun q => q.elim (fun h => hm (Or.inl h)) (fun h => hm (Or.inr h)))) ⟨by decide, by decide⟩

set_option maxRecDepth 100000 in
set_option maxHeartbeats 4000000 in
theorem s_198 {sc : List Int32} {d P Q : Nat} {c : ME} {a1 : Int} {Z : AR → Prop} (hI : Iv 0 (-1) P Q c) (ha1 : 0 ≤ a1 ∧ a1 ≤ 5) (K : ∀ (c2 : ME) (y : Int), Iv 0 (-1) P Q c2 → (∀ (a : Nat) (j : Int), ¬ (a = 59 ∨ a = 54 ∨ a = 55) → c2 a j = c a j) → 0 ≤ y ∧ y ≤ 1 → Z (.inl (some (vi y)), Wd P Q P P c2, 0, 0)) : Wp sc (d + 13) 198 0 [(0, .ref 41), (1, vi a1)] [] (Wd P Q P P c) 0 0 Z := by
  have hP := iv_P hI
  have hQ := iv_Q hI
  have hIo : Iv 59 (-1) P Q c := iv_open hI
  have hsum_1 := ir_59_r hI (by decide) (j := a1) (by omega)
  have h_2 := ir_59_g hI (j := 4 * a1) (by omega)
  have h_3 := ir_59_g hI (j := 4 * a1 + 1) (by omega)
  have h_4 := ir_59_g hI (j := 4 * a1 + 2) (by omega)
  have h_5 := ir_59_g hI (j := 4 * a1 + 3) (by omega)
  refine q_aload_n rfl rfl ?_
  refine q_iload_n rfl rfl ?_
  refine v_cv rfl rfl rfl rfl (by decide) ⟨⟨rfl, rfl⟩, by decide, rfl⟩ (Nat.le_of_ble_eq_true rfl) (Nat.le_of_ble_eq_true rfl) (s_197 (a1 := a1) hIo (show 0 ≤ a1 ∧ a1 ≤ 5 from ha1) (fun c_6 y_9 hI_7 hF_8 hy_9 => ?_))
  refine bk_inl ?_
  by_cases h_10 : y_9 ≠ 0
  · refine v_if_ne_t (t := 10) rfl (by decide) ⟨h_10, ⟨(Int.le_trans (by decide) hy_9.1), (Int.le_trans hy_9.2 (by decide))⟩, by decide, by decide⟩ ?_
    refine q_aload_n rfl rfl ?_
    refine v_gr (t := 59) rfl rfl rfl (by decide) rfl ?_
    refine v_bip rfl (by decide) ?_
    refine q_dup2 rfl ⟨rfl, rfl⟩ ?_
    have h_11 := ir_59 hI 36
    have kn_12 : Hid (c_6 59 36 = c 59 36) := hF_8 59 36 (fun q => q.elim (fun h => absurd h (nn rfl)) (fun h => absurd h (nn rfl)))
    refine v_ia (v := c 59 36) rfl rfl (by decide) (by decide) (by decide) (hid kn_12) ?_
    refine q_aload_n rfl rfl ?_
    refine q_iload_n rfl rfl ?_
    have kn_13 : Hid (c_6 59 (4 * a1) = c 59 (4 * a1)) := hF_8 59 (4 * a1) (fun q => q.elim (fun h => absurd h (nn rfl)) (fun h => absurd h (nn rfl)))
    have kn_14 : Hid (c_6 59 (4 * a1 + 1) = c 59 (4 * a1 + 1)) := hF_8 59 (4 * a1 + 1) (fun q => q.elim (fun h => absurd h (nn rfl)) (fun h => absurd h (nn rfl)))
    have kn_15 : Hid (c_6 59 (4 * a1 + 2) = c 59 (4 * a1 + 2)) := hF_8 59 (4 * a1 + 2) (fun q => q.elim (fun h => absurd h (nn rfl)) (fun h => absurd h (nn rfl)))
    have kn_16 : Hid (c_6 59 (4 * a1 + 3) = c 59 (4 * a1 + 3)) := hF_8 59 (4 * a1 + 3) (fun q => q.elim (fun h => absurd h (nn rfl)) (fun h => absurd h (nn rfl)))
    refine v_cv rfl rfl rfl rfl (by decide) ⟨⟨rfl, rfl⟩, by decide, rfl⟩ (Nat.le_of_ble_eq_true rfl) (Nat.le_of_ble_eq_true rfl) (s_187 (v1 := c 59 (4 * a1)) (v2 := c 59 (4 * a1 + 1)) (v3 := c 59 (4 * a1 + 2)) (v4 := c 59 (4 * a1 + 3)) (r := c 59 (4 * a1 + 1) + c 59 (4 * a1 + 2) + c 59 (4 * a1 + 3) + c 59 (4 * a1)) (a1 := a1) hI_7 (show 0 ≤ a1 ∧ a1 ≤ 5 from ha1) ((hid kn_13)) ((hid kn_14)) ((hid kn_15)) ((hid kn_16)) (by omega) ?_)
    refine bk_inl ?_
    refine v_bip rfl (by decide) ?_
    refine v_idiv (v := ((c 59 (4 * a1 + 1) + c 59 (4 * a1 + 2) + c 59 (4 * a1 + 3) + c 59 (4 * a1)) / 10)) rfl (by omega) rfl ?_
    refine v_iadd (v := ((c 59 (4 * a1 + 1) + c 59 (4 * a1 + 2) + c 59 (4 * a1 + 3) + c 59 (4 * a1)) / 10) + c 59 36) rfl (by first | (clear ha1 h_2 h_3 h_4 h_5 h_11 h_10; omega) | omega) ?_
    refine v_nrm (fun y_17 hy_17 => ?_)
    refine v_is rfl rfl (by decide) (by decide) (by decide) ?_
    refine q_aload_n rfl rfl ?_
    refine q_iload_n rfl rfl ?_
    have hI_18 := iw_row (a := 59) (j := 36) (v := y_17) hI_7 (by omega) (Or.inr (by omega)) ⟨by omega, by omega, by omega⟩
    refine v_cv rfl rfl rfl rfl (by decide) ⟨⟨rfl, rfl⟩, by decide, rfl⟩ (Nat.le_of_ble_eq_true rfl) (Nat.le_of_ble_eq_true rfl) (s_192 (a1 := a1) hI_18 (show 0 ≤ a1 ∧ a1 ≤ 5 from ha1) (fun c_19 hI_20 hF_21 h_22 => ?_))
    refine bk_inl ?_
    have h_23 := ir_59_g hI_20 (j := 4 * a1 + 1) (by first | (clear h_2 h_3 h_4 h_5 h_11 h_10; omega) | omega)
    have h_24 := ir_59_g hI_20 (j := 4 * a1 + 2) (by first | (clear h_2 h_3 h_4 h_5 h_11 h_23 h_10; omega) | omega)
    have h_25 := ir_59_g hI_20 (j := 4 * a1 + 3) (by first | (clear h_2 h_3 h_4 h_5 h_11 h_23 h_24 h_10; omega) | omega)
    have h_26 := ir_59_g hI_20 (j := 4 * a1) (by first | (clear h_2 h_3 h_4 h_5 h_11 h_23 h_24 h_25 h_10; omega) | omega)
    refine q_iconst rfl ?_
    refine v_zret rfl rfl (by decide) ?_
    have hr_27 : ∀ j : Int, rs 59 j → c_19 59 j + c_19 59 (j + 1) + c_19 59 (j + 2) + c_19 59 (j + 3) ≤ 9999 := by
      intro j9 hj9
      obtain ⟨k9, rfl, hk9⟩ := rs_59 hj9
      by_cases e_28 : k9 = a1
      · skip
        have h_29 : c_19 59 (4 * k9) = c_19 59 (4 * a1) := (congrArg (c_19 59) (show 4 * k9 = 4 * a1 from by first | assumption | exact Int.le_antisymm (by omega) (by omega)))
        have h_30 : c_19 59 (4 * k9 + 1) = c_19 59 (4 * a1 + 1) := (congrArg (c_19 59) (show 4 * k9 + 1 = 4 * a1 + 1 from by first | assumption | exact Int.le_antisymm (by omega) (by omega)))
        have h_31 : c_19 59 (4 * k9 + 2) = c_19 59 (4 * a1 + 2) := (congrArg (c_19 59) (show 4 * k9 + 2 = 4 * a1 + 2 from by first | assumption | exact Int.le_antisymm (by omega) (by omega)))
        have h_32 : c_19 59 (4 * k9 + 3) = c_19 59 (4 * a1 + 3) := (congrArg (c_19 59) (show 4 * k9 + 3 = 4 * a1 + 3 from by first | assumption | exact Int.le_antisymm (by omega) (by omega)))
        omega
      have h_33 := iv_r hI 59 (4 * k9) hj9 (by omega)
      have h_34 := ir_59_g hI (j := 4 * k9) (by first | (clear ha1 h_2 h_3 h_4 h_5 h_11 h_23 h_24 h_25 h_26 h_22 h_10; omega) | omega)
      have kn_35 : Hid (c_6 59 (4 * k9) = c 59 (4 * k9)) := hF_8 59 (4 * k9) (fun q => q.elim (fun h => absurd h (nn rfl)) (fun h => absurd h (nn rfl)))
      have kn_36 : Hid (c_19 59 (4 * k9) = c 59 (4 * k9)) := (hF_21 59 (4 * k9) (by omega)).trans ((up_n (by omega)).trans (hid kn_35))
      have h_37 : c_19 59 (4 * k9) = c 59 (4 * k9) := (hid kn_36)
      have h_38 := ir_59_g hI (j := 4 * k9 + 1) (by first | (clear ha1 h_2 h_3 h_4 h_5 h_11 h_23 h_24 h_25 h_26 h_22 h_34 h_10; omega) | omega)
      have kn_39 : Hid (c_6 59 (4 * k9 + 1) = c 59 (4 * k9 + 1)) := hF_8 59 (4 * k9 + 1) (fun q => q.elim (fun h => absurd h (nn rfl)) (fun h => absurd h (nn rfl)))
      have kn_40 : Hid (c_19 59 (4 * k9 + 1) = c 59 (4 * k9 + 1)) := (hF_21 59 (4 * k9 + 1) (by omega)).trans ((up_n (by omega)).trans (hid kn_39))
      have h_41 : c_19 59 (4 * k9 + 1) = c 59 (4 * k9 + 1) := (hid kn_40)
      have h_42 := ir_59_g hI (j := 4 * k9 + 2) (by first | (clear ha1 h_2 h_3 h_4 h_5 h_11 h_23 h_24 h_25 h_26 h_22 h_34 h_38 h_10; omega) | omega)
      have kn_43 : Hid (c_6 59 (4 * k9 + 2) = c 59 (4 * k9 + 2)) := hF_8 59 (4 * k9 + 2) (fun q => q.elim (fun h => absurd h (nn rfl)) (fun h => absurd h (nn rfl)))
      have kn_44 : Hid (c_19 59 (4 * k9 + 2) = c 59 (4 * k9 + 2)) := (hF_21 59 (4 * k9 + 2) (by omega)).trans ((up_n (by omega)).trans (hid kn_43))
      have h_45 : c_19 59 (4 * k9 + 2) = c 59 (4 * k9 + 2) := (hid kn_44)
      have h_46 := ir_59_g hI (j := 4 * k9 + 3) (by first | (clear ha1 h_2 h_3 h_4 h_5 h_11 h_23 h_24 h_25 h_26 h_22 h_34 h_38 h_42 h_10; omega) | omega)
      have kn_47 : Hid (c_6 59 (4 * k9 + 3) = c 59 (4 * k9 + 3)) := hF_8 59 (4 * k9 + 3) (fun q => q.elim (fun h => absurd h (nn rfl)) (fun h => absurd h (nn rfl)))
      have kn_48 : Hid (c_19 59 (4 * k9 + 3) = c 59 (4 * k9 + 3)) := (hF_21 59 (4 * k9 + 3) (by omega)).trans ((up_n (by omega)).trans (hid kn_47))
      have h_49 : c_19 59 (4 * k9 + 3) = c 59 (4 * k9 + 3) := (hid kn_48)
      omega
    have hI_50 := iv_close hI_20 hr_27
    exact K c_19 1 hI_50 (fun a j hm => (hF_21 a j (fun q => q.elim (fun h => hm (Or.inl h.1)) (fun q => q.elim (fun h => hm (Or.inl h.1)) (fun q => q.elim (fun h => hm (Or.inl h.1)) (fun q => q.elim (fun h => hm (Or.inl h.1)) (fun h => hm (Or.inl h.1))))))).trans ((up_b (Decidable.or_iff_not_imp_left.mpr (fun h1 h2 => hm (Or.inl (Decidable.not_not.mp h1))))).trans (hF_8 a j (fun q => q.elim (fun h => hm (Or.inr (Or.inl h))) (fun h => hm (Or.inr (Or.inr h))))))) ⟨by decide, by decide⟩
  · refine v_if_ne_f (t := 10) rfl (by decide) (Decidable.not_not.mp h_10) ?_
    refine q_iconst rfl ?_
    refine v_zret rfl rfl (by decide) ?_
    have hr_51 : ∀ j : Int, rs 59 j → c_6 59 j + c_6 59 (j + 1) + c_6 59 (j + 2) + c_6 59 (j + 3) ≤ 9999 := by
      intro j9 hj9
      obtain ⟨k9, rfl, hk9⟩ := rs_59 hj9
      by_cases e_52 : k9 = a1
      · skip
        have kn_53 : Hid (c_6 59 (4 * a1) = c 59 (4 * a1)) := hF_8 59 (4 * a1) (fun q => q.elim (fun h => absurd h (nn rfl)) (fun h => absurd h (nn rfl)))
        have h_54 : c_6 59 (4 * k9) = c 59 (4 * a1) := (congrArg (c_6 59) (show 4 * k9 = 4 * a1 from by omega)).trans (hid kn_53)
        have kn_55 : Hid (c_6 59 (4 * a1 + 1) = c 59 (4 * a1 + 1)) := hF_8 59 (4 * a1 + 1) (fun q => q.elim (fun h => absurd h (nn rfl)) (fun h => absurd h (nn rfl)))
        have h_56 : c_6 59 (4 * k9 + 1) = c 59 (4 * a1 + 1) := (congrArg (c_6 59) (show 4 * k9 + 1 = 4 * a1 + 1 from by omega)).trans (hid kn_55)
        have kn_57 : Hid (c_6 59 (4 * a1 + 2) = c 59 (4 * a1 + 2)) := hF_8 59 (4 * a1 + 2) (fun q => q.elim (fun h => absurd h (nn rfl)) (fun h => absurd h (nn rfl)))
        have h_58 : c_6 59 (4 * k9 + 2) = c 59 (4 * a1 + 2) := (congrArg (c_6 59) (show 4 * k9 + 2 = 4 * a1 + 2 from by omega)).trans (hid kn_57)
        have kn_59 : Hid (c_6 59 (4 * a1 + 3) = c 59 (4 * a1 + 3)) := hF_8 59 (4 * a1 + 3) (fun q => q.elim (fun h => absurd h (nn rfl)) (fun h => absurd h (nn rfl)))
        have h_60 : c_6 59 (4 * k9 + 3) = c 59 (4 * a1 + 3) := (congrArg (c_6 59) (show 4 * k9 + 3 = 4 * a1 + 3 from by omega)).trans (hid kn_59)
        omega
      have h_61 := iv_r hI 59 (4 * k9) hj9 (by omega)
      have h_62 := ir_59_g hI (j := 4 * k9) (by omega)
      have kn_63 : Hid (c_6 59 (4 * k9) = c 59 (4 * k9)) := hF_8 59 (4 * k9) (fun q => q.elim (fun h => absurd h (nn rfl)) (fun h => absurd h (nn rfl)))
      have h_64 : c_6 59 (4 * k9) = c 59 (4 * k9) := (hid kn_63)
      have h_65 := ir_59_g hI (j := 4 * k9 + 1) (by omega)
      have kn_66 : Hid (c_6 59 (4 * k9 + 1) = c 59 (4 * k9 + 1)) := hF_8 59 (4 * k9 + 1) (fun q => q.elim (fun h => absurd h (nn rfl)) (fun h => absurd h (nn rfl)))
      have h_67 : c_6 59 (4 * k9 + 1) = c 59 (4 * k9 + 1) := (hid kn_66)
      have h_68 := ir_59_g hI (j := 4 * k9 + 2) (by omega)
      have kn_69 : Hid (c_6 59 (4 * k9 + 2) = c 59 (4 * k9 + 2)) := hF_8 59 (4 * k9 + 2) (fun q => q.elim (fun h => absurd h (nn rfl)) (fun h => absurd h (nn rfl)))
      have h_70 : c_6 59 (4 * k9 + 2) = c 59 (4 * k9 + 2) := (hid kn_69)
      have h_71 := ir_59_g hI (j := 4 * k9 + 3) (by omega)
      have kn_72 : Hid (c_6 59 (4 * k9 + 3) = c 59 (4 * k9 + 3)) := hF_8 59 (4 * k9 + 3) (fun q => q.elim (fun h => absurd h (nn rfl)) (fun h => absurd h (nn rfl)))
      have h_73 : c_6 59 (4 * k9 + 3) = c 59 (4 * k9 + 3) := (hid kn_72)
      omega
    have hI_74 := iv_close hI_7 hr_51
    exact K c_6 0 hI_74 (fun a j hm => hF_8 a j (fun q => q.elim (fun h => hm (Or.inr (Or.inl h))) (fun h => hm (Or.inr (Or.inr h))))) ⟨by decide, by decide⟩

set_option maxRecDepth 100000 in
set_option maxHeartbeats 4000000 in
theorem s_199_l {sc : List Int32} {e : Int} {d u P Q : Nat} {c : ME} {Z : AR → Prop} (hI : Iv u e P Q c)  (K : ∀ (c2 : ME), Iv u e P Q c2 → (∀ (a : Nat) (j : Int), ¬ (a = 59) → c2 a j = c a j) → Z (.inl (none), Wd P Q P P c2, 0, 0)) : ∀ n : Nat, (∀ (c2 : ME) (v1 : Int), Iv u e P Q c2 → (∀ (a : Nat) (j : Int), ¬ (a = 59) → c2 a j = c a j) → 0 ≤ v1 ∧ v1 ≤ 6 → 13 - 2 * v1 < (n : Int) → Wp sc (d + 8) 199 2 [(0, .ref 41), (1, vi v1)] [] (Wd P Q P P c2) 0 0 Z)
  | 0 => by intro c2 v1 hI2 hF hv1 hm9; have hP := iv_P hI; have hQ := iv_Q hI; exfalso; omega
  | n + 1 => by
    have hP := iv_P hI
    have hQ := iv_Q hI
    have ih := s_199_l (sc := sc) (d := d) hI K n
    intro c2 v1 hI2 hF hv1 hm9
    refine q_iload_n rfl rfl ?_
    refine q_aload_n rfl rfl ?_
    have h_1 := ir_41_20 hI
    have kn_2 : Hid (c2 41 20 = c 41 20) := hF 41 20 (fun h => absurd h (nn rfl))
    refine v_gi (z := 20) (v := c 41 20) rfl rfl rfl (by decide) rfl rfl (hid kn_2) ?_
    by_cases h_3 : v1 ≥ c 41 20
    · refine v_ic_ge_t (t := 41) rfl (by decide) ⟨by omega, h_3, (Int.le_trans hv1.2 (by decide))⟩ ?_
      refine q_aload_n rfl rfl ?_
      refine v_gr (t := 59) rfl rfl rfl (by decide) rfl ?_
      refine v_bip rfl (by decide) ?_
      refine q_dup2 rfl ⟨rfl, rfl⟩ ?_
      have h_4 := ir_59 hI2 34
      refine v_ia (v := c2 59 34) rfl rfl (by decide) (by decide) (by decide) rfl ?_
      refine q_iconst rfl ?_
      refine v_iadd (v := c2 59 34 + 1) rfl rfl ?_
      refine v_nrm (fun y_5 hy_5 => ?_)
      refine v_is rfl rfl (by decide) (by decide) (by decide) ?_
      refine q_vret rfl rfl ?_
      have hI_6 := iw_row (a := 59) (j := 34) (v := y_5) hI2 (by omega) (Or.inr (by omega)) ⟨by omega, by omega, by omega⟩
      exact K (up c2 59 34 y_5) hI_6 (fun a j hm => (up_b (Decidable.or_iff_not_imp_left.mpr (fun h1 h2 => hm (Decidable.not_not.mp h1)))).trans (hF a j (fun h => hm h)))
    · refine v_ic_ge_f (t := 41) rfl (by decide) ⟨(Int.le_trans (by decide) hv1.1), (Int.not_le.mp h_3), by omega⟩ ?_
      refine q_aload_n rfl rfl ?_
      refine v_gr (t := 59) rfl rfl rfl (by decide) rfl ?_
      refine v_bip rfl (by decide) ?_
      refine q_iload_n rfl rfl ?_
      refine v_iadd (v := v1 + 24) rfl (by omega) ?_
      refine q_dup2 rfl ⟨rfl, rfl⟩ ?_
      have h_7 := ir_59 hI2 (v1 + 24)
      refine v_ia (v := c2 59 (v1 + 24)) rfl rfl (by decide) (by decide) (by omega) rfl ?_
      refine q_aload_n rfl rfl ?_
      refine q_iload_n rfl rfl ?_
      have h_8 := ir_59_g hI2 (j := 4 * v1) (by omega)
      have h_9 := ir_59_g hI2 (j := 4 * v1 + 1) (by omega)
      have h_10 := ir_59_g hI2 (j := 4 * v1 + 2) (by omega)
      have h_11 := ir_59_g hI2 (j := 4 * v1 + 3) (by omega)
      refine v_cv rfl rfl rfl rfl (by decide) ⟨⟨rfl, rfl⟩, by decide, rfl⟩ (Nat.le_of_ble_eq_true rfl) (Nat.le_of_ble_eq_true rfl) (s_187 (v1 := c2 59 (4 * v1)) (v2 := c2 59 (4 * v1 + 1)) (v3 := c2 59 (4 * v1 + 2)) (v4 := c2 59 (4 * v1 + 3)) (r := c2 59 (4 * v1 + 1) + c2 59 (4 * v1 + 2) + c2 59 (4 * v1 + 3) + c2 59 (4 * v1)) (a1 := v1) hI2 (show 0 ≤ v1 ∧ v1 ≤ 5 from ⟨hv1.1, by omega⟩) (rfl) (rfl) (rfl) (rfl) (by omega) ?_)
      refine bk_inl ?_
      by_cases h_12 : c2 59 (4 * v1 + 1) + c2 59 (4 * v1 + 2) + c2 59 (4 * v1 + 3) + c2 59 (4 * v1) ≤ 0
      · refine v_if_le_t (t := 32) rfl (by decide) ⟨by omega, h_12, by decide⟩ ?_
        refine q_iconst rfl ?_
        refine v_iadd (v := c2 59 (v1 + 24)) rfl (by omega) ?_
        refine v_is rfl rfl (by decide) (by decide) (by omega) ?_
        refine v_iinc (v := v1 + 1) rfl rfl (by decide) rfl ?_
        refine q_goto (t := 2) rfl (by decide) ?_
        have hI_13 := iw_row (a := 59) (j := v1 + 24) (v := c2 59 (v1 + 24)) hI2 (by omega) (Or.inr (by omega)) ⟨by omega, by omega, by omega⟩
        refine Wp_ls [(0, .ref 41), (1, vi (v1 + 1))] (lsub_cons rfl (lsub_cons rfl lsub_nil)) ?_
        exact ih (up c2 59 (v1 + 24) (c2 59 (v1 + 24))) (v1 + 1) hI_13 (fun a j hm => (up_b (Decidable.or_iff_not_imp_left.mpr (fun h1 h2 => hm (Decidable.not_not.mp h1)))).trans (hF a j (fun h => hm h))) ⟨by first | exact rgp_l hv1.1 (by decide) | omega, by omega⟩ (by omega)
      · refine v_if_le_f (t := 32) rfl (by decide) ⟨by decide, (Int.not_le.mp h_12), by omega⟩ ?_
        refine q_iconst rfl ?_
        refine q_goto (t := 33) rfl (by decide) ?_
        refine v_iadd (v := c2 59 (v1 + 24) + 1) rfl rfl ?_
        refine v_nrm (fun y_14 hy_14 => ?_)
        refine v_is rfl rfl (by decide) (by decide) (by omega) ?_
        refine v_iinc (v := v1 + 1) rfl rfl (by decide) rfl ?_
        refine q_goto (t := 2) rfl (by decide) ?_
        have hI_15 := iw_row (a := 59) (j := v1 + 24) (v := y_14) hI2 (by omega) (Or.inr (by omega)) ⟨by omega, by omega, by omega⟩
        refine Wp_ls [(0, .ref 41), (1, vi (v1 + 1))] (lsub_cons rfl (lsub_cons rfl lsub_nil)) ?_
        exact ih (up c2 59 (v1 + 24) y_14) (v1 + 1) hI_15 (fun a j hm => (up_b (Decidable.or_iff_not_imp_left.mpr (fun h1 h2 => hm (Decidable.not_not.mp h1)))).trans (hF a j (fun h => hm h))) ⟨by first | exact rgp_l hv1.1 (by decide) | omega, by omega⟩ (by omega)
set_option maxRecDepth 100000 in
set_option maxHeartbeats 4000000 in
theorem s_199 {sc : List Int32} {e : Int} {d u P Q : Nat} {c : ME} {Z : AR → Prop} (hI : Iv u e P Q c)  (K : ∀ (c2 : ME), Iv u e P Q c2 → (∀ (a : Nat) (j : Int), ¬ (a = 59) → c2 a j = c a j) → Z (.inl (none), Wd P Q P P c2, 0, 0)) : Wp sc (d + 8) 199 0 [(0, .ref 41)] [] (Wd P Q P P c) 0 0 Z := by
  have hP := iv_P hI
  have hQ := iv_Q hI
  refine q_iconst rfl ?_
  refine q_istore_n rfl (by decide) ?_
  refine Wp_ls [(0, .ref 41), (1, vi 0)] (lsub_cons rfl (lsub_cons rfl lsub_nil)) ?_
  exact (s_199_l (sc := sc) (d := d) hI K 16) c 0 hI (fun a j hm => rfl) ⟨by decide, by decide⟩ (by omega)

set_option maxRecDepth 100000 in
set_option maxHeartbeats 4000000 in
theorem s_200 {sc : List Int32} {d P Q : Nat} {c : ME} {t : Int} {Z : AR → Prop} (hI : Iv 0 (-1) P Q c) (ht : 0 ≤ t ∧ t ≤ 49) (K : ∀ (c2 : ME) (y : Int), Iv 0 (-1) P Q c2 → (∀ (a : Nat) (j : Int), ¬ (a = 59 ∨ a = 54 ∨ a = 55) → c2 a j = c a j) → 0 ≤ y ∧ y ≤ 1 → Z (.inl (some (vi y)), Wd P Q P P c2, 0, 0)) : Wp sc (d + 14) 200 0 [(0, .ref 41), (1, vi (5 * t))] [] (Wd P Q P P c) 0 0 Z := by
  have hP := iv_P hI
  have hQ := iv_Q hI
  have h_1 := ir_57 hI (5 * t)
  have h_2 := ir_57 hI (5 * t + 1)
  have h_3 := ir_57 hI (5 * t + 2)
  have h_4 := ir_ag hI (a := 57) (by omega) (t := t) (by omega) (by omega)
  have h_5 := ir_57 hI (5 * t + 3)
  have h_6 := ir_57 hI (5 * t + 4)
  have hso := ir_so (a := 57) hI (by unfold Sg; omega) (t := t) (by omega) (by omega)
  refine q_aload_n rfl rfl ?_
  refine v_gr (t := 57) rfl rfl rfl (by decide) rfl ?_
  refine q_iload_n rfl rfl ?_
  refine v_ia (v := c 57 (5 * t)) rfl rfl (by decide) (by decide) (by omega) rfl ?_
  refine q_istore_n rfl (by decide) ?_
  refine q_aload_n rfl rfl ?_
  refine v_gr (t := 57) rfl rfl rfl (by decide) rfl ?_
  refine q_iload_n rfl rfl ?_
  refine q_iconst rfl ?_
  refine v_iadd (v := 5 * t + 1) rfl rfl ?_
  refine v_ia (v := c 57 (5 * t + 1)) rfl rfl (by decide) (by decide) (by omega) rfl ?_
  refine q_istore_n rfl (by decide) ?_
  refine q_aload_n rfl rfl ?_
  refine v_gr (t := 57) rfl rfl rfl (by decide) rfl ?_
  refine q_iload_n rfl rfl ?_
  refine q_iconst rfl ?_
  refine v_iadd (v := 5 * t + 2) rfl rfl ?_
  refine v_ia (v := c 57 (5 * t + 2)) rfl rfl (by decide) (by decide) (by omega) rfl ?_
  refine q_istore rfl (by decide) ?_
  refine q_aload_n rfl rfl ?_
  refine v_gr (t := 57) rfl rfl rfl (by decide) rfl ?_
  refine q_iload_n rfl rfl ?_
  refine q_iconst rfl ?_
  refine v_iadd (v := 5 * t + 3) rfl rfl ?_
  refine v_ia (v := c 57 (5 * t + 3)) rfl rfl (by decide) (by decide) (by omega) rfl ?_
  refine q_istore rfl (by decide) ?_
  refine q_iload_n rfl rfl ?_
  by_cases h_7 : c 57 (5 * t) ≠ 0
  · refine v_if_ne_t (t := 48) rfl (by decide) ⟨h_7, ⟨(Int.le_trans (by decide) h_1.1), (Int.le_trans h_1.2 (by decide))⟩, by decide, by decide⟩ ?_
    refine q_iload_n rfl rfl ?_
    refine q_iconst rfl ?_
    by_cases h_8 : c 57 (5 * t) ≠ 1
    · refine v_ic_ne_t (t := 71) rfl (by decide) ⟨h_8, ⟨(Int.le_trans (by decide) h_1.1), (Int.le_trans h_1.2 (by decide))⟩, by decide, by decide⟩ ?_
      refine q_iload_n rfl rfl ?_
      refine q_iconst rfl ?_
      by_cases h_9 : c 57 (5 * t) ≠ 2
      · refine v_ic_ne_t (t := 89) rfl (by decide) ⟨h_9, ⟨(Int.le_trans (by decide) h_1.1), (Int.le_trans h_1.2 (by decide))⟩, by decide, by decide⟩ ?_
        refine q_iload_n rfl rfl ?_
        refine q_iconst rfl ?_
        by_cases h_10 : c 57 (5 * t) ≠ 3
        · refine v_ic_ne_t (t := 104) rfl (by decide) ⟨h_10, ⟨(Int.le_trans (by decide) h_1.1), (Int.le_trans h_1.2 (by decide))⟩, by decide, by decide⟩ ?_
          refine q_iload_n rfl rfl ?_
          refine q_iconst rfl ?_
          by_cases h_11 : c 57 (5 * t) ≠ 5
          · refine v_ic_ne_t (t := 115) rfl (by decide) ⟨h_11, ⟨(Int.le_trans (by decide) h_1.1), (Int.le_trans h_1.2 (by decide))⟩, by decide, by decide⟩ ?_
            refine q_iload_n rfl rfl ?_
            refine v_bip rfl (by decide) ?_
            by_cases h_12 : c 57 (5 * t) ≠ 6
            · refine v_ic_ne_t (t := 136) rfl (by decide) ⟨h_12, ⟨(Int.le_trans (by decide) h_1.1), (Int.le_trans h_1.2 (by decide))⟩, by decide, by decide⟩ ?_
              refine q_iload_n rfl rfl ?_
              refine q_iconst rfl ?_
              by_cases h_13 : c 57 (5 * t) ≠ 4
              · refine v_ic_ne_t (t := 164) rfl (by decide) ⟨h_13, ⟨(Int.le_trans (by decide) h_1.1), (Int.le_trans h_1.2 (by decide))⟩, by decide, by decide⟩ ?_
                refine q_aload_n rfl rfl ?_
                refine v_cv rfl rfl rfl rfl (by decide) ⟨⟨rfl, rfl⟩, by decide, rfl⟩ (Nat.le_of_ble_eq_true rfl) (Nat.le_of_ble_eq_true rfl) (s_199 hI (fun c_14 hI_15 hF_16 => ?_))
                refine bk_inl ?_
                refine q_iconst rfl ?_
                refine v_zret rfl rfl (by decide) ?_
                exact K c_14 1 hI_15 (fun a j hm => hF_16 a j (fun h => hm (Or.inl h))) ⟨by decide, by decide⟩
              · refine v_ic_ne_f (t := 164) rfl (by decide) (Decidable.not_not.mp h_13) ?_
                refine q_aload_n rfl rfl ?_
                refine v_gr (t := 59) rfl rfl rfl (by decide) rfl ?_
                refine v_bip rfl (by decide) ?_
                refine q_iload_n rfl rfl ?_
                refine v_iadd (v := c 57 (5 * t + 1) + 30) rfl (by first | (clear ht h_1 h_2 h_3 h_5 h_6 h_4 h_7 h_8 h_9 h_10 h_11 h_12; omega) | omega) ?_
                refine q_iconst rfl ?_
                refine q_aload_n rfl rfl ?_
                refine v_gr (t := 59) rfl rfl rfl (by decide) rfl ?_
                refine v_bip rfl (by decide) ?_
                refine q_iload_n rfl rfl ?_
                refine v_iadd (v := c 57 (5 * t + 1) + 30) rfl (by first | (clear ht h_1 h_2 h_3 h_5 h_6 h_4 h_7 h_8 h_9 h_10 h_11 h_12; omega) | omega) ?_
                have h_17 := ir_59 hI (c 57 (5 * t + 1) + 30)
                refine v_ia (v := c 59 (c 57 (5 * t + 1) + 30)) rfl rfl (by decide) (by decide) (by omega) rfl ?_
                refine v_isub (v := 1 - c 59 (c 57 (5 * t + 1) + 30)) rfl (by first | (clear ht h_1 h_2 h_3 h_5 h_6 h_17 h_4 h_7 h_8 h_9 h_10 h_11 h_12; omega) | omega) ?_
                refine v_nrm (fun y_18 hy_18 => ?_)
                refine v_is rfl rfl (by decide) (by decide) (by omega) ?_
                refine q_goto (t := 168) rfl (by decide) ?_
                refine q_iconst rfl ?_
                refine v_zret rfl rfl (by decide) ?_
                have hI_19 := iw_row (a := 59) (j := c 57 (5 * t + 1) + 30) (v := y_18) hI (by omega) (Or.inr (by omega)) ⟨by omega, by omega, by omega⟩
                exact K (up c 59 (c 57 (5 * t + 1) + 30) y_18) 1 hI_19 (fun a j hm => up_b (Decidable.or_iff_not_imp_left.mpr (fun h1 h2 => hm (Or.inl (Decidable.not_not.mp h1))))) ⟨by decide, by decide⟩
            · refine v_ic_ne_f (t := 136) rfl (by decide) (Decidable.not_not.mp h_12) ?_
              refine q_aload_n rfl rfl ?_
              refine v_gr (t := 59) rfl rfl rfl (by decide) rfl ?_
              refine v_bip rfl (by decide) ?_
              have h_20 := ir_59 hI 34
              refine v_ia (v := c 59 34) rfl rfl (by decide) (by decide) (by decide) rfl ?_
              refine v_sip rfl (by decide) ?_
              by_cases h_21 : c 59 34 < 400
              · refine v_ic_lt_t (t := 136) rfl (by decide) ⟨h_20.1, h_21, by decide⟩ ?_
                refine q_iload_n rfl rfl ?_
                refine q_iconst rfl ?_
                refine v_ic_ne_t (t := 164) rfl (by decide) ⟨by first | (clear ht h_1 h_2 h_3 h_5 h_6 h_20 h_21 h_4 h_7 h_8 h_9 h_10 h_11; omega) | omega, ⟨(Int.le_trans (by decide) h_1.1), (Int.le_trans h_1.2 (by decide))⟩, by decide, by decide⟩ ?_
                refine q_aload_n rfl rfl ?_
                refine v_cv rfl rfl rfl rfl (by decide) ⟨⟨rfl, rfl⟩, by decide, rfl⟩ (Nat.le_of_ble_eq_true rfl) (Nat.le_of_ble_eq_true rfl) (s_199 hI (fun c_22 hI_23 hF_24 => ?_))
                refine bk_inl ?_
                refine q_iconst rfl ?_
                refine v_zret rfl rfl (by decide) ?_
                exact K c_22 1 hI_23 (fun a j hm => hF_24 a j (fun h => hm (Or.inl h))) ⟨by decide, by decide⟩
              · refine v_ic_lt_f (t := 136) rfl (by decide) ⟨by decide, (Int.not_lt.mp h_21), h_20.2⟩ ?_
                refine q_iconst rfl ?_
                refine v_zret rfl rfl (by decide) ?_
                exact K c 0 hI (fun a j hm => rfl) ⟨by decide, by decide⟩
          · refine v_ic_ne_f (t := 115) rfl (by decide) (Decidable.not_not.mp h_11) ?_
            refine q_aload_n rfl rfl ?_
            refine q_iload_n rfl rfl ?_
            refine v_cv rfl rfl rfl rfl (by decide) ⟨⟨rfl, rfl⟩, by decide, rfl⟩ (Nat.le_of_ble_eq_true rfl) (Nat.le_of_ble_eq_true rfl) (s_198 (a1 := c 57 (5 * t + 1)) hI (show 0 ≤ c 57 (5 * t + 1) ∧ c 57 (5 * t + 1) ≤ 5 from ⟨h_2.1, by first | (clear ht h_1 h_2 h_3 h_5 h_6 h_4 h_7 h_8 h_9 h_10; omega) | omega⟩) (fun c_25 y_28 hI_26 hF_27 hy_28 => ?_))
            refine bk_inl ?_
            refine v_zret rfl rfl (by omega) ?_
            exact K c_25 y_28 hI_26 (fun a j hm => hF_27 a j (fun q => q.elim (fun h => hm (Or.inl h)) (fun q => q.elim (fun h => hm (Or.inr (Or.inl h))) (fun h => hm (Or.inr (Or.inr h)))))) hy_28
        · refine v_ic_ne_f (t := 104) rfl (by decide) (Decidable.not_not.mp h_10) ?_
          refine q_aload_n rfl rfl ?_
          refine q_iload_n rfl rfl ?_
          refine q_iload rfl rfl ?_
          refine q_iload rfl rfl ?_
          refine v_cv rfl rfl rfl rfl (by decide) ⟨⟨rfl, rfl⟩, by decide, rfl⟩ (Nat.le_of_ble_eq_true rfl) (Nat.le_of_ble_eq_true rfl) (s_194 (a1 := c 57 (5 * t + 1)) (a2 := c 57 (5 * t + 2)) (a3 := c 57 (5 * t + 3)) hI (show 0 ≤ c 57 (5 * t + 1) ∧ c 57 (5 * t + 1) ≤ 5 from ⟨h_2.1, by first | (clear ht h_1 h_2 h_3 h_5 h_6 h_4 h_7 h_8 h_9; omega) | omega⟩) (show 0 ≤ c 57 (5 * t + 2) ∧ c 57 (5 * t + 2) ≤ 5 from ⟨h_3.1, by first | (clear ht h_1 h_2 h_3 h_5 h_6 h_4 h_7 h_8 h_9; omega) | omega⟩) (show 0 ≤ c 57 (5 * t + 3) ∧ c 57 (5 * t + 3) ≤ 99999 from ⟨h_5.1, (Int.le_trans h_5.2 (by decide))⟩) (fun c_29 y_32 hI_30 hF_31 hy_32 => ?_))
          refine bk_inl ?_
          refine v_zret rfl rfl (by omega) ?_
          exact K c_29 y_32 hI_30 (fun a j hm => hF_31 a j (fun h => hm (Or.inl h))) hy_32
      · refine v_ic_ne_f (t := 89) rfl (by decide) (Decidable.not_not.mp h_9) ?_
        refine q_aload_n rfl rfl ?_
        refine q_iload_n rfl rfl ?_
        refine q_iload rfl rfl ?_
        refine q_aload_n rfl rfl ?_
        refine q_iload_n rfl rfl ?_
        have h_33 := ir_59_g hI (j := 4 * c 57 (5 * t + 1)) (by first | (clear ht h_1 h_2 h_3 h_5 h_6 h_4 h_7 h_8; omega) | omega)
        have h_34 := ir_59_g hI (j := 4 * c 57 (5 * t + 1) + 1) (by first | (clear ht h_1 h_2 h_3 h_5 h_6 h_33 h_4 h_7 h_8; omega) | omega)
        have h_35 := ir_59_g hI (j := 4 * c 57 (5 * t + 1) + 2) (by first | (clear ht h_1 h_2 h_3 h_5 h_6 h_33 h_34 h_4 h_7 h_8; omega) | omega)
        have h_36 := ir_59_g hI (j := 4 * c 57 (5 * t + 1) + 3) (by first | (clear ht h_1 h_2 h_3 h_5 h_6 h_33 h_34 h_35 h_4 h_7 h_8; omega) | omega)
        refine v_cv rfl rfl rfl rfl (by decide) ⟨⟨rfl, rfl⟩, by decide, rfl⟩ (Nat.le_of_ble_eq_true rfl) (Nat.le_of_ble_eq_true rfl) (s_187 (v1 := c 59 (4 * c 57 (5 * t + 1))) (v2 := c 59 (4 * c 57 (5 * t + 1) + 1)) (v3 := c 59 (4 * c 57 (5 * t + 1) + 2)) (v4 := c 59 (4 * c 57 (5 * t + 1) + 3)) (r := c 59 (4 * c 57 (5 * t + 1) + 1) + c 59 (4 * c 57 (5 * t + 1) + 2) + c 59 (4 * c 57 (5 * t + 1) + 3) + c 59 (4 * c 57 (5 * t + 1))) (a1 := c 57 (5 * t + 1)) hI (show 0 ≤ c 57 (5 * t + 1) ∧ c 57 (5 * t + 1) ≤ 5 from ⟨h_2.1, by first | (clear ht h_1 h_2 h_3 h_5 h_6 h_4 h_7 h_8; omega) | omega⟩) ((congrArg (c 59) (show 4 * (c 57 (5 * t + 1)) = 4 * c 57 (5 * t + 1) from by first | assumption | exact Int.le_antisymm (by omega) (by omega)))) ((congrArg (c 59) (show 4 * (c 57 (5 * t + 1)) + 1 = 4 * c 57 (5 * t + 1) + 1 from by first | assumption | exact Int.le_antisymm (by omega) (by omega)))) ((congrArg (c 59) (show 4 * (c 57 (5 * t + 1)) + 2 = 4 * c 57 (5 * t + 1) + 2 from by first | assumption | exact Int.le_antisymm (by omega) (by omega)))) ((congrArg (c 59) (show 4 * (c 57 (5 * t + 1)) + 3 = 4 * c 57 (5 * t + 1) + 3 from by first | assumption | exact Int.le_antisymm (by omega) (by omega)))) (by omega) ?_)
        refine bk_inl ?_
        refine v_cv rfl rfl rfl rfl (by decide) ⟨⟨rfl, rfl⟩, by decide, rfl⟩ (Nat.le_of_ble_eq_true rfl) (Nat.le_of_ble_eq_true rfl) (s_194 (a1 := c 57 (5 * t + 1)) (a2 := c 57 (5 * t + 2)) (a3 := c 59 (4 * c 57 (5 * t + 1) + 1) + c 59 (4 * c 57 (5 * t + 1) + 2) + c 59 (4 * c 57 (5 * t + 1) + 3) + c 59 (4 * c 57 (5 * t + 1))) hI (show 0 ≤ c 57 (5 * t + 1) ∧ c 57 (5 * t + 1) ≤ 5 from ⟨h_2.1, by first | (clear ht h_1 h_2 h_3 h_5 h_6 h_33 h_34 h_35 h_36 h_4 h_7 h_8; omega) | omega⟩) (show 0 ≤ c 57 (5 * t + 2) ∧ c 57 (5 * t + 2) ≤ 5 from ⟨h_3.1, by first | (clear ht h_1 h_2 h_3 h_5 h_6 h_33 h_34 h_35 h_36 h_4 h_7 h_8; omega) | omega⟩) (show 0 ≤ c 59 (4 * c 57 (5 * t + 1) + 1) + c 59 (4 * c 57 (5 * t + 1) + 2) + c 59 (4 * c 57 (5 * t + 1) + 3) + c 59 (4 * c 57 (5 * t + 1)) ∧ c 59 (4 * c 57 (5 * t + 1) + 1) + c 59 (4 * c 57 (5 * t + 1) + 2) + c 59 (4 * c 57 (5 * t + 1) + 3) + c 59 (4 * c 57 (5 * t + 1)) ≤ 99999 from ⟨by first | (clear ht h_1 h_2 h_3 h_5 h_6 h_4 h_7 h_8; omega) | omega, by first | (clear ht h_1 h_2 h_3 h_5 h_6 h_4 h_7 h_8; omega) | omega⟩) (fun c_37 y_40 hI_38 hF_39 hy_40 => ?_))
        refine bk_inl ?_
        refine v_zret rfl rfl (by omega) ?_
        exact K c_37 y_40 hI_38 (fun a j hm => hF_39 a j (fun h => hm (Or.inl h))) hy_40
    · refine v_ic_ne_f (t := 71) rfl (by decide) (Decidable.not_not.mp h_8) ?_
      refine q_aload_n rfl rfl ?_
      refine q_iload_n rfl rfl ?_
      refine q_iload rfl rfl ?_
      refine q_iload rfl rfl ?_
      refine q_aload_n rfl rfl ?_
      refine v_gr (t := 57) rfl rfl rfl (by decide) rfl ?_
      refine q_iload_n rfl rfl ?_
      refine q_iconst rfl ?_
      refine v_iadd (v := 5 * t + 4) rfl rfl ?_
      refine v_ia (v := c 57 (5 * t + 4)) rfl rfl (by decide) (by decide) (by omega) rfl ?_
      refine v_cv rfl rfl rfl rfl (by decide) ⟨⟨rfl, rfl⟩, by decide, rfl⟩ (Nat.le_of_ble_eq_true rfl) (Nat.le_of_ble_eq_true rfl) (s_193 (a1 := c 57 (5 * t + 1)) (a2 := c 57 (5 * t + 2)) (a3 := c 57 (5 * t + 3)) (a4 := c 57 (5 * t + 4)) hI (show 0 ≤ c 57 (5 * t + 1) ∧ c 57 (5 * t + 1) ≤ 3 from ⟨h_2.1, by first | (clear ht h_1 h_2 h_3 h_5 h_6 h_4 h_7; omega) | omega⟩) (show 0 ≤ c 57 (5 * t + 2) ∧ c 57 (5 * t + 2) ≤ 5 from ⟨h_3.1, by first | (clear ht h_1 h_2 h_3 h_5 h_6 h_4 h_7; omega) | omega⟩) (show 0 ≤ c 57 (5 * t + 3) ∧ c 57 (5 * t + 3) ≤ 5 from ⟨h_5.1, by first | (clear ht h_1 h_2 h_3 h_5 h_6 h_4 h_7; omega) | omega⟩) (show 0 ≤ c 57 (5 * t + 4) ∧ c 57 (5 * t + 4) ≤ 5 from ⟨h_6.1, by first | (clear ht h_1 h_2 h_3 h_5 h_6 h_4 h_7; omega) | omega⟩) (fun c_41 y_44 hI_42 hF_43 hy_44 => ?_))
      refine bk_inl ?_
      refine v_zret rfl rfl (by omega) ?_
      exact K c_41 y_44 hI_42 (fun a j hm => hF_43 a j (fun h => hm (Or.inl h))) hy_44
  · refine v_if_ne_f (t := 48) rfl (by decide) (Decidable.not_not.mp h_7) ?_
    refine q_aload_n rfl rfl ?_
    refine q_iload_n rfl rfl ?_
    refine q_iload rfl rfl ?_
    refine v_cv rfl rfl rfl rfl (by decide) ⟨⟨rfl, rfl⟩, by decide, rfl⟩ (Nat.le_of_ble_eq_true rfl) (Nat.le_of_ble_eq_true rfl) (s_188 (a1 := c 57 (5 * t + 1)) (a2 := c 57 (5 * t + 2)) hI (show 0 ≤ c 57 (5 * t + 1) ∧ c 57 (5 * t + 1) ≤ 3 from ⟨h_2.1, by first | (clear ht h_1 h_2 h_3 h_5 h_6 h_4; omega) | omega⟩) (show 0 ≤ c 57 (5 * t + 2) ∧ c 57 (5 * t + 2) ≤ 5 from ⟨h_3.1, by first | (clear ht h_1 h_2 h_3 h_5 h_6 h_4; omega) | omega⟩) (fun c_45 y_48 hI_46 hF_47 hy_48 => ?_))
    refine bk_inl ?_
    refine v_zret rfl rfl (by omega) ?_
    exact K c_45 y_48 hI_46 (fun a j hm => hF_47 a j (fun h => hm (Or.inl h))) hy_48

set_option maxRecDepth 100000 in
set_option maxHeartbeats 4000000 in
theorem s_201_l {sc : List Int32} {d P Q : Nat} {c : ME} {t : Int} {a2 : Int} {Z : AR → Prop} (hI : Iv 0 (-1) P Q c) (ht : 0 ≤ t ∧ t ≤ 50) (ha2 : 0 ≤ a2 ∧ a2 ≤ 250) (H201 : ∀ (c : ME) (t2 : Int) (a2 : Int) (z : Int) (Z : AR → Prop), (t + 1 ≤ t2 ∧ t2 ≤ 50) ∧ z = 5 * t2 → Iv 0 (-1) P Q c → 0 ≤ a2 ∧ a2 ≤ 250 → (∀ c2 : ME, Iv 0 (-1) P Q c2 → (∀ (a : Nat) (j : Int), ¬ ((a = 41 ∧ j = 37) ∨ (a = 41 ∧ j = 38) ∨ (a = 41 ∧ j = 39) ∨ a = 59 ∨ a = 54 ∨ a = 55) → c2 a j = c a j) → (c2 41 37 ≥ c 41 37) → Z (.inl none, Wd P Q P P c2, 0, 0)) → Wp sc (d + 15) 201 0 [(0, .ref 41), (1, vi z), (2, vi a2)] [] (Wd P Q P P c) 0 0 Z) (K : ∀ (c2 : ME), Iv 0 (-1) P Q c2 → (∀ (a : Nat) (j : Int), ¬ ((a = 41 ∧ j = 37) ∨ (a = 41 ∧ j = 38) ∨ (a = 41 ∧ j = 39) ∨ a = 59 ∨ a = 54 ∨ a = 55) → c2 a j = c a j) → ((c2 41 37 ≥ c 41 37)) → Z (.inl (none), Wd P Q P P c2, 0, 0)) : ∀ n : Nat, (∀ (c2 : ME) (v3 : Int), Iv 0 (-1) P Q c2 → (∀ (a : Nat) (j : Int), ¬ ((a = 41 ∧ j = 37) ∨ (a = 41 ∧ j = 38) ∨ (a = 41 ∧ j = 39) ∨ a = 59 ∨ a = 54 ∨ a = 55) → c2 a j = c a j) → 0 ≤ v3 ∧ v3 ≤ 50 → ((c2 41 37 ≥ c 41 37)) → ((v3 ≥ t)) → 40002000 - 200010 * c2 41 37 < (n : Int) → Wp sc (d + 16) 201 2 [(0, .ref 41), (1, vi (5 * t)), (2, vi a2), (3, vi (5 * v3))] [] (Wd P Q P P c2) 0 0 Z) ∧ (∀ (c2 : ME) (v3 : Int) (v4 : Int) (v5 : Int), Iv 0 (-1) P Q c2 → (∀ (a : Nat) (j : Int), ¬ ((a = 41 ∧ j = 37) ∨ (a = 41 ∧ j = 38) ∨ (a = 41 ∧ j = 39) ∨ a = 59 ∨ a = 54 ∨ a = 55) → c2 a j = c a j) → 0 ≤ v3 ∧ v3 ≤ 49 → 0 ≤ v4 ∧ v4 ≤ 50 → 0 ≤ v5 ∧ v5 ≤ 999 → ((c2 41 37 ≥ c 41 37)) → ((v3 ≥ t)) → ((v4 ≥ v3 + 1)) → 40202003 - 200010 * c2 41 37 - 2 * v5 < (n : Int) → Wp sc (d + 16) 201 51 [(0, .ref 41), (1, vi (5 * t)), (2, vi a2), (3, vi (5 * v3)), (4, vi (5 * v4)), (5, vi v5)] [] (Wd P Q P P c2) 0 0 Z)
  | 0 => by exact ⟨by (intro c2 v3 hI2 hF hv3 hx0 hx1 hm9; have hP := iv_P hI; have hQ := iv_Q hI; have h_46 := ir_41_37 hI2; exfalso; omega), by (intro c2 v3 v4 v5 hI2 hF hv3 hv4 hv5 hx0 hx1 hx2 hm9; have hP := iv_P hI; have hQ := iv_Q hI; have h_47 := ir_41_37 hI2; exfalso; omega)⟩
  | n + 1 => by
    have hP := iv_P hI
    have hQ := iv_Q hI
    have ih := s_201_l (sc := sc) (d := d) hI ht ha2 H201 K n
    refine ⟨?_, ?_⟩
    · skip
      intro c2 v3 hI2 hF hv3 hx0 hx1 hm9
      have h_1 := ir_41_37 hI
      have h_2 := ir_41_37 hI2
      refine q_iload_n rfl rfl ?_
      refine q_iload_n rfl rfl ?_
      by_cases h_3 : 5 * v3 ≥ a2
      · refine v_ic_ge_t (t := 132) rfl (by decide) ⟨(Int.le_trans (by decide) ha2.1), h_3, by omega⟩ ?_
        refine q_vret rfl rfl ?_
        exact K c2 hI2 (fun a j hm => hF a j (fun q => q.elim (fun h => hm (Or.inl h)) (fun q => q.elim (fun h => hm (Or.inr (Or.inl h))) (fun q => q.elim (fun h => hm (Or.inr (Or.inr (Or.inl h)))) (fun q => q.elim (fun h => hm (Or.inr (Or.inr (Or.inr (Or.inl h))))) (fun q => q.elim (fun h => hm (Or.inr (Or.inr (Or.inr (Or.inr (Or.inl h)))))) (fun h => hm (Or.inr (Or.inr (Or.inr (Or.inr (Or.inr h)))))))))))) (by omega)
      · refine v_ic_ge_f (t := 132) rfl (by decide) ⟨by omega, (Int.not_le.mp h_3), (Int.le_trans ha2.2 (by decide))⟩ ?_
        refine q_aload_n rfl rfl ?_
        refine v_gi (z := 37) (v := c2 41 37) rfl rfl rfl (by decide) rfl rfl rfl ?_
        refine v_sip rfl (by decide) ?_
        by_cases h_4 : c2 41 37 ≥ 200
        · refine v_ic_ge_t (t := 132) rfl (by decide) ⟨by decide, h_4, (Int.le_trans h_2.2 (by decide))⟩ ?_
          refine q_vret rfl rfl ?_
          exact K c2 hI2 (fun a j hm => hF a j (fun q => q.elim (fun h => hm (Or.inl h)) (fun q => q.elim (fun h => hm (Or.inr (Or.inl h))) (fun q => q.elim (fun h => hm (Or.inr (Or.inr (Or.inl h)))) (fun q => q.elim (fun h => hm (Or.inr (Or.inr (Or.inr (Or.inl h))))) (fun q => q.elim (fun h => hm (Or.inr (Or.inr (Or.inr (Or.inr (Or.inl h)))))) (fun h => hm (Or.inr (Or.inr (Or.inr (Or.inr (Or.inr h)))))))))))) (by omega)
        · refine v_ic_ge_f (t := 132) rfl (by decide) ⟨(Int.le_trans (by decide) h_2.1), (Int.not_le.mp h_4), by decide⟩ ?_
          refine q_aload_n rfl rfl ?_
          refine q_dup rfl rfl ?_
          refine v_gi (z := 37) (v := c2 41 37) rfl rfl rfl (by decide) rfl rfl rfl ?_
          refine q_iconst rfl ?_
          refine v_iadd (v := c2 41 37 + 1) rfl rfl ?_
          refine v_pi (z := 37) rfl rfl rfl (by decide) rfl rfl rfl (by decide) ?_
          refine q_aload_n rfl rfl ?_
          refine v_gr (t := 57) rfl rfl rfl (by decide) rfl ?_
          refine q_iload_n rfl rfl ?_
          have h_5 := ir_57 hI (5 * v3)
          have kn_6 : Hid (c2 57 (5 * v3) = c 57 (5 * v3)) := hF 57 (5 * v3) (fun q => q.elim (fun h => absurd h.1 (nn rfl)) (fun q => q.elim (fun h => absurd h.1 (nn rfl)) (fun q => q.elim (fun h => absurd h.1 (nn rfl)) (fun q => q.elim (fun h => absurd h (nn rfl)) (fun q => q.elim (fun h => absurd h (nn rfl)) (fun h => absurd h (nn rfl)))))))
          refine v_ia (v := c 57 (5 * v3)) rfl rfl (by decide) (by decide) (by omega) ((up_c (nn rfl)).trans (hid kn_6)) ?_
          refine v_bip rfl (by decide) ?_
          by_cases h_7 : c 57 (5 * v3) ≠ 7
          · refine v_ic_ne_t (t := 95) rfl (by decide) ⟨h_7, ⟨by omega, by omega⟩, by decide, by decide⟩ ?_
            refine q_aload_n rfl rfl ?_
            refine q_iload_n rfl rfl ?_
            have hI_8 := iw_41_37 (v := c2 41 37 + 1) hI2 ⟨by first | exact rgp_l h_2.1 (by decide) | omega, by first | (clear ht ha2 hv3 hx0 hx1 h_1 h_2 h_5 h_7; omega) | omega⟩
            refine v_cv rfl rfl rfl rfl (by decide) ⟨⟨rfl, rfl⟩, by decide, rfl⟩ (Nat.le_of_ble_eq_true rfl) (Nat.le_of_ble_eq_true rfl) (s_200 (t := v3) hI_8 (show 0 ≤ v3 ∧ v3 ≤ 49 from by omega) (fun c_9 y_12 hI_10 hF_11 hy_12 => ?_))
            refine bk_inl ?_
            by_cases h_13 : y_12 = 0
            · refine v_if_eq_t (t := 116) rfl (by decide) h_13 ?_
              refine q_aload_n rfl rfl ?_
              refine q_dup rfl rfl ?_
              have h_14 := ir_41_39 hI2
              have kn_15 : Hid (c_9 41 39 = c2 41 39) := (hF_11 41 39 (fun q => q.elim (fun h => absurd h (nn rfl)) (fun q => q.elim (fun h => absurd h (nn rfl)) (fun h => absurd h (nn rfl))))).trans (up_n (by decide))
              refine v_gi (z := 39) (v := c2 41 39) rfl rfl rfl (by decide) rfl rfl (hid kn_15) ?_
              refine q_iconst rfl ?_
              refine v_iadd (v := c2 41 39 + 1) rfl rfl ?_
              refine v_nrm (fun y_16 hy_16 => ?_)
              refine v_pi (z := 39) rfl rfl rfl (by decide) rfl rfl rfl (by decide) ?_
              refine v_iinc (v := 5 * v3 + 5) rfl rfl (by decide) rfl ?_
              refine q_goto (t := 2) rfl (by decide) ?_
              have e_17 : 5 * v3 + 5 = 5 * (v3 + 1) := by omega
              have hI_18 := iw_41_39 (v := y_16) hI_10 ⟨hy_16.1, hy_16.2⟩
              refine Wp_ls [(0, .ref 41), (1, vi (5 * t)), (2, vi a2), (3, vi (5 * (v3 + 1)))] (lsub_cons rfl (lsub_cons rfl (lsub_cons rfl (lsub_cons (congrArg (fun w9 => some (vi w9)) e_17) lsub_nil)))) ?_
              have kn_19 : Hid (c_9 41 37 = c2 41 37 + 1) := (hF_11 41 37 (fun q => q.elim (fun h => absurd h (nn rfl)) (fun q => q.elim (fun h => absurd h (nn rfl)) (fun h => absurd h (nn rfl))))).trans (up_e rfl)
              have h_20 : (up c_9 41 39 y_16) 41 37 = c2 41 37 + 1 := ((up_n (by decide)).trans (hid kn_19))
              exact ih.1 (up c_9 41 39 y_16) (v3 + 1) hI_18 (fun a j hm => (up_b (Decidable.or_iff_not_imp_left.mpr (fun h1 h2 => hm (Or.inr (Or.inr (Or.inl ⟨Decidable.not_not.mp h1, h2⟩)))))).trans ((hF_11 a j (fun q => q.elim (fun h => hm (Or.inr (Or.inr (Or.inr (Or.inl h))))) (fun q => q.elim (fun h => hm (Or.inr (Or.inr (Or.inr (Or.inr (Or.inl h)))))) (fun h => hm (Or.inr (Or.inr (Or.inr (Or.inr (Or.inr h))))))))).trans ((up_b (Decidable.or_iff_not_imp_left.mpr (fun h1 h2 => hm (Or.inl ⟨Decidable.not_not.mp h1, h2⟩)))).trans (hF a j (fun q => q.elim (fun h => hm (Or.inl h)) (fun q => q.elim (fun h => hm (Or.inr (Or.inl h))) (fun q => q.elim (fun h => hm (Or.inr (Or.inr (Or.inl h)))) (fun q => q.elim (fun h => hm (Or.inr (Or.inr (Or.inr (Or.inl h))))) (fun q => q.elim (fun h => hm (Or.inr (Or.inr (Or.inr (Or.inr (Or.inl h)))))) (fun h => hm (Or.inr (Or.inr (Or.inr (Or.inr (Or.inr h))))))))))))))) ⟨by first | exact rgp_l hv3.1 (by decide) | omega, by first | (clear ht hv3 hx0 hx1 h_1 h_2 h_5 h_13 h_14 h_7; omega) | omega⟩ (by first | (clear ht ha2 hv3 hx1 h_1 h_2 h_5 h_13 h_14 h_7; omega) | omega) (by first | (clear ht ha2 hv3 hx0 h_1 h_2 h_5 h_13 h_14 h_7; omega) | omega) (by omega)
            · refine v_if_eq_f (t := 116) rfl (by decide) ⟨h_13, ⟨(Int.le_trans (by decide) hy_12.1), (Int.le_trans hy_12.2 (by decide))⟩, by decide, by decide⟩ ?_
              refine q_aload_n rfl rfl ?_
              refine q_dup rfl rfl ?_
              have h_21 := ir_41_38 hI2
              have kn_22 : Hid (c_9 41 38 = c2 41 38) := (hF_11 41 38 (fun q => q.elim (fun h => absurd h (nn rfl)) (fun q => q.elim (fun h => absurd h (nn rfl)) (fun h => absurd h (nn rfl))))).trans (up_n (by decide))
              refine v_gi (z := 38) (v := c2 41 38) rfl rfl rfl (by decide) rfl rfl (hid kn_22) ?_
              refine q_iconst rfl ?_
              refine v_iadd (v := c2 41 38 + 1) rfl rfl ?_
              refine v_nrm (fun y_23 hy_23 => ?_)
              refine v_pi (z := 38) rfl rfl rfl (by decide) rfl rfl rfl (by decide) ?_
              refine q_goto (t := 126) rfl (by decide) ?_
              refine v_iinc (v := 5 * v3 + 5) rfl rfl (by decide) rfl ?_
              refine q_goto (t := 2) rfl (by decide) ?_
              have e_24 : 5 * v3 + 5 = 5 * (v3 + 1) := by omega
              have hI_25 := iw_41_38 (v := y_23) hI_10 ⟨hy_23.1, hy_23.2⟩
              refine Wp_ls [(0, .ref 41), (1, vi (5 * t)), (2, vi a2), (3, vi (5 * (v3 + 1)))] (lsub_cons rfl (lsub_cons rfl (lsub_cons rfl (lsub_cons (congrArg (fun w9 => some (vi w9)) e_24) lsub_nil)))) ?_
              have kn_26 : Hid (c_9 41 37 = c2 41 37 + 1) := (hF_11 41 37 (fun q => q.elim (fun h => absurd h (nn rfl)) (fun q => q.elim (fun h => absurd h (nn rfl)) (fun h => absurd h (nn rfl))))).trans (up_e rfl)
              have h_27 : (up c_9 41 38 y_23) 41 37 = c2 41 37 + 1 := ((up_n (by decide)).trans (hid kn_26))
              exact ih.1 (up c_9 41 38 y_23) (v3 + 1) hI_25 (fun a j hm => (up_b (Decidable.or_iff_not_imp_left.mpr (fun h1 h2 => hm (Or.inr (Or.inl ⟨Decidable.not_not.mp h1, h2⟩))))).trans ((hF_11 a j (fun q => q.elim (fun h => hm (Or.inr (Or.inr (Or.inr (Or.inl h))))) (fun q => q.elim (fun h => hm (Or.inr (Or.inr (Or.inr (Or.inr (Or.inl h)))))) (fun h => hm (Or.inr (Or.inr (Or.inr (Or.inr (Or.inr h))))))))).trans ((up_b (Decidable.or_iff_not_imp_left.mpr (fun h1 h2 => hm (Or.inl ⟨Decidable.not_not.mp h1, h2⟩)))).trans (hF a j (fun q => q.elim (fun h => hm (Or.inl h)) (fun q => q.elim (fun h => hm (Or.inr (Or.inl h))) (fun q => q.elim (fun h => hm (Or.inr (Or.inr (Or.inl h)))) (fun q => q.elim (fun h => hm (Or.inr (Or.inr (Or.inr (Or.inl h))))) (fun q => q.elim (fun h => hm (Or.inr (Or.inr (Or.inr (Or.inr (Or.inl h)))))) (fun h => hm (Or.inr (Or.inr (Or.inr (Or.inr (Or.inr h))))))))))))))) ⟨by first | exact rgp_l hv3.1 (by decide) | omega, by first | (clear ht hv3 hx0 hx1 h_1 h_2 h_5 h_21 h_7; omega) | omega⟩ (by first | (clear ht ha2 hv3 hx1 h_1 h_2 h_5 h_21 h_7; omega) | omega) (by first | (clear ht ha2 hv3 hx0 h_1 h_2 h_5 h_21 h_7; omega) | omega) (by omega)
          · refine v_ic_ne_f (t := 95) rfl (by decide) (Decidable.not_not.mp h_7) ?_
            refine q_aload_n rfl rfl ?_
            refine v_gr (t := 57) rfl rfl rfl (by decide) rfl ?_
            refine q_iload_n rfl rfl ?_
            refine q_iconst rfl ?_
            refine v_iadd (v := 5 * v3 + 2) rfl rfl ?_
            have h_28 := ir_57 hI (5 * v3 + 2)
            have h_29 := ir_ag hI (a := 57) (by omega) (t := v3) (by omega) (by omega)
            have kn_30 : Hid (c2 57 (5 * v3 + 2) = c 57 (5 * v3 + 2)) := hF 57 (5 * v3 + 2) (fun q => q.elim (fun h => absurd h.1 (nn rfl)) (fun q => q.elim (fun h => absurd h.1 (nn rfl)) (fun q => q.elim (fun h => absurd h.1 (nn rfl)) (fun q => q.elim (fun h => absurd h (nn rfl)) (fun q => q.elim (fun h => absurd h (nn rfl)) (fun h => absurd h (nn rfl)))))))
            refine v_ia (v := c 57 (5 * v3 + 2)) rfl rfl (by decide) (by decide) (by omega) ((up_c (nn rfl)).trans (hid kn_30)) ?_
            refine q_istore rfl (by decide) ?_
            refine q_iconst rfl ?_
            refine q_istore rfl (by decide) ?_
            obtain ⟨z_31, e_32⟩ : ∃ z : Int, c 57 (5 * v3 + 2) = 5 * z := ⟨(c 57 (5 * v3 + 2)) / 5, by omega⟩
            have hI_33 := iw_41_37 (v := c2 41 37 + 1) hI2 ⟨by first | exact rgp_l h_2.1 (by decide) | omega, by first | (clear ht ha2 hv3 hx0 hx1 h_1 h_2 h_5 h_28 h_29; omega) | omega⟩
            refine Wp_ls [(0, .ref 41), (1, vi (5 * t)), (2, vi a2), (3, vi (5 * v3)), (4, vi (5 * z_31)), (5, vi 0)] (lsub_cons rfl (lsub_cons rfl (lsub_cons rfl (lsub_cons rfl (lsub_cons (congrArg (fun w9 => some (vi w9)) e_32) (lsub_cons rfl lsub_nil)))))) ?_
            have h_34 : (up c2 41 37 (c2 41 37 + 1)) 41 37 = c2 41 37 + 1 := (up_e rfl)
            exact ih.2 (up c2 41 37 (c2 41 37 + 1)) v3 z_31 0 hI_33 (fun a j hm => (up_b (Decidable.or_iff_not_imp_left.mpr (fun h1 h2 => hm (Or.inl ⟨Decidable.not_not.mp h1, h2⟩)))).trans (hF a j (fun q => q.elim (fun h => hm (Or.inl h)) (fun q => q.elim (fun h => hm (Or.inr (Or.inl h))) (fun q => q.elim (fun h => hm (Or.inr (Or.inr (Or.inl h)))) (fun q => q.elim (fun h => hm (Or.inr (Or.inr (Or.inr (Or.inl h))))) (fun q => q.elim (fun h => hm (Or.inr (Or.inr (Or.inr (Or.inr (Or.inl h)))))) (fun h => hm (Or.inr (Or.inr (Or.inr (Or.inr (Or.inr h))))))))))))) ⟨hv3.1, by first | (clear ht hv3 hx0 hx1 h_1 h_2 h_5 h_28 h_29; omega) | omega⟩ ⟨by first | (clear ht ha2 hv3 hx0 hx1 h_1 h_2 h_5 h_29; omega) | omega, by omega⟩ ⟨by decide, by decide⟩ (by first | (clear ht ha2 hv3 hx1 h_1 h_2 h_5 h_28 h_29; omega) | omega) (by first | (clear ht ha2 hv3 hx0 h_1 h_2 h_5 h_28 h_29; omega) | omega) (by omega) (by omega)
    · skip
      intro c2 v3 v4 v5 hI2 hF hv3 hv4 hv5 hx0 hx1 hx2 hm9
      have h_35 := ir_41_37 hI
      have h_36 := ir_41_37 hI2
      refine q_iload rfl rfl ?_
      refine q_aload_n rfl rfl ?_
      refine v_gr (t := 57) rfl rfl rfl (by decide) rfl ?_
      refine q_iload_n rfl rfl ?_
      refine q_iconst rfl ?_
      refine v_iadd (v := 5 * v3 + 1) rfl rfl ?_
      have h_37 := ir_57 hI (5 * v3 + 1)
      have kn_38 : Hid (c2 57 (5 * v3 + 1) = c 57 (5 * v3 + 1)) := hF 57 (5 * v3 + 1) (fun q => q.elim (fun h => absurd h.1 (nn rfl)) (fun q => q.elim (fun h => absurd h.1 (nn rfl)) (fun q => q.elim (fun h => absurd h.1 (nn rfl)) (fun q => q.elim (fun h => absurd h (nn rfl)) (fun q => q.elim (fun h => absurd h (nn rfl)) (fun h => absurd h (nn rfl)))))))
      refine v_ia (v := c 57 (5 * v3 + 1)) rfl rfl (by decide) (by decide) (by omega) (hid kn_38) ?_
      by_cases h_39 : v5 ≥ c 57 (5 * v3 + 1)
      · refine v_ic_ge_t (t := 89) rfl (by decide) ⟨by omega, h_39, (Int.le_trans hv5.2 (by decide))⟩ ?_
        refine q_iload rfl rfl ?_
        refine q_istore_n rfl (by decide) ?_
        refine q_goto (t := 2) rfl (by decide) ?_
        refine Wp_ls [(0, .ref 41), (1, vi (5 * t)), (2, vi a2), (3, vi (5 * v4))] (lsub_cons rfl (lsub_cons rfl (lsub_cons rfl (lsub_cons rfl lsub_nil)))) ?_
        exact ih.1 c2 v4 hI2 (fun a j hm => hF a j (fun q => q.elim (fun h => hm (Or.inl h)) (fun q => q.elim (fun h => hm (Or.inr (Or.inl h))) (fun q => q.elim (fun h => hm (Or.inr (Or.inr (Or.inl h)))) (fun q => q.elim (fun h => hm (Or.inr (Or.inr (Or.inr (Or.inl h))))) (fun q => q.elim (fun h => hm (Or.inr (Or.inr (Or.inr (Or.inr (Or.inl h)))))) (fun h => hm (Or.inr (Or.inr (Or.inr (Or.inr (Or.inr h)))))))))))) hv4 (by omega) (by omega) (by omega)
      · refine v_ic_ge_f (t := 89) rfl (by decide) ⟨(Int.le_trans (by decide) hv5.1), (Int.not_le.mp h_39), by omega⟩ ?_
        refine q_aload_n rfl rfl ?_
        refine v_gi (z := 37) (v := c2 41 37) rfl rfl rfl (by decide) rfl rfl rfl ?_
        refine v_sip rfl (by decide) ?_
        by_cases h_40 : c2 41 37 ≥ 200
        · refine v_ic_ge_t (t := 89) rfl (by decide) ⟨by decide, h_40, (Int.le_trans h_36.2 (by decide))⟩ ?_
          refine q_iload rfl rfl ?_
          refine q_istore_n rfl (by decide) ?_
          refine q_goto (t := 2) rfl (by decide) ?_
          refine Wp_ls [(0, .ref 41), (1, vi (5 * t)), (2, vi a2), (3, vi (5 * v4))] (lsub_cons rfl (lsub_cons rfl (lsub_cons rfl (lsub_cons rfl lsub_nil)))) ?_
          exact ih.1 c2 v4 hI2 (fun a j hm => hF a j (fun q => q.elim (fun h => hm (Or.inl h)) (fun q => q.elim (fun h => hm (Or.inr (Or.inl h))) (fun q => q.elim (fun h => hm (Or.inr (Or.inr (Or.inl h)))) (fun q => q.elim (fun h => hm (Or.inr (Or.inr (Or.inr (Or.inl h))))) (fun q => q.elim (fun h => hm (Or.inr (Or.inr (Or.inr (Or.inr (Or.inl h)))))) (fun h => hm (Or.inr (Or.inr (Or.inr (Or.inr (Or.inr h)))))))))))) hv4 (by omega) (by omega) (by omega)
        · refine v_ic_ge_f (t := 89) rfl (by decide) ⟨(Int.le_trans (by decide) h_36.1), (Int.not_le.mp h_40), by decide⟩ ?_
          refine q_aload_n rfl rfl ?_
          refine q_iload_n rfl rfl ?_
          refine q_iconst rfl ?_
          refine v_iadd (v := 5 * v3 + 5) rfl rfl ?_
          refine q_iload rfl rfl ?_
          refine v_cv rfl rfl rfl rfl (by decide) ⟨⟨rfl, rfl⟩, by decide, rfl⟩ (Nat.le_of_ble_eq_true rfl) (Nat.le_of_ble_eq_true rfl) (H201 _ (v3 + 1) (5 * v4) _ _ (by omega) hI2 (by omega) (fun c_41 hI_42 hF_43 h_44 => ?_))
          refine bk_inl ?_
          have h_45 := ir_41_37 hI_42
          refine v_iinc (v := v5 + 1) rfl rfl (by decide) rfl ?_
          refine q_goto (t := 51) rfl (by decide) ?_
          refine Wp_ls [(0, .ref 41), (1, vi (5 * t)), (2, vi a2), (3, vi (5 * v3)), (4, vi (5 * v4)), (5, vi (v5 + 1))] (lsub_cons rfl (lsub_cons rfl (lsub_cons rfl (lsub_cons rfl (lsub_cons rfl (lsub_cons rfl lsub_nil)))))) ?_
          exact ih.2 c_41 v3 v4 (v5 + 1) hI_42 (fun a j hm => (hF_43 a j (fun q => q.elim (fun h => hm (Or.inl h)) (fun q => q.elim (fun h => hm (Or.inr (Or.inl h))) (fun q => q.elim (fun h => hm (Or.inr (Or.inr (Or.inl h)))) (fun q => q.elim (fun h => hm (Or.inr (Or.inr (Or.inr (Or.inl h))))) (fun q => q.elim (fun h => hm (Or.inr (Or.inr (Or.inr (Or.inr (Or.inl h)))))) (fun h => hm (Or.inr (Or.inr (Or.inr (Or.inr (Or.inr h)))))))))))).trans (hF a j (fun q => q.elim (fun h => hm (Or.inl h)) (fun q => q.elim (fun h => hm (Or.inr (Or.inl h))) (fun q => q.elim (fun h => hm (Or.inr (Or.inr (Or.inl h)))) (fun q => q.elim (fun h => hm (Or.inr (Or.inr (Or.inr (Or.inl h))))) (fun q => q.elim (fun h => hm (Or.inr (Or.inr (Or.inr (Or.inr (Or.inl h)))))) (fun h => hm (Or.inr (Or.inr (Or.inr (Or.inr (Or.inr h))))))))))))) hv3 hv4 ⟨by first | exact rgp_l hv5.1 (by decide) | omega, by omega⟩ (by omega) (by omega) (by omega) (by omega)
set_option maxRecDepth 100000 in
set_option maxHeartbeats 4000000 in
theorem s_201 {sc : List Int32} {d P Q : Nat} {c : ME} {t : Int} {a2 : Int} {Z : AR → Prop} (hI : Iv 0 (-1) P Q c) (ht : 0 ≤ t ∧ t ≤ 50) (ha2 : 0 ≤ a2 ∧ a2 ≤ 250) (H201 : ∀ (c : ME) (t2 : Int) (a2 : Int) (z : Int) (Z : AR → Prop), (t + 1 ≤ t2 ∧ t2 ≤ 50) ∧ z = 5 * t2 → Iv 0 (-1) P Q c → 0 ≤ a2 ∧ a2 ≤ 250 → (∀ c2 : ME, Iv 0 (-1) P Q c2 → (∀ (a : Nat) (j : Int), ¬ ((a = 41 ∧ j = 37) ∨ (a = 41 ∧ j = 38) ∨ (a = 41 ∧ j = 39) ∨ a = 59 ∨ a = 54 ∨ a = 55) → c2 a j = c a j) → (c2 41 37 ≥ c 41 37) → Z (.inl none, Wd P Q P P c2, 0, 0)) → Wp sc (d + 15) 201 0 [(0, .ref 41), (1, vi z), (2, vi a2)] [] (Wd P Q P P c) 0 0 Z) (K : ∀ (c2 : ME), Iv 0 (-1) P Q c2 → (∀ (a : Nat) (j : Int), ¬ ((a = 41 ∧ j = 37) ∨ (a = 41 ∧ j = 38) ∨ (a = 41 ∧ j = 39) ∨ a = 59 ∨ a = 54 ∨ a = 55) → c2 a j = c a j) → ((c2 41 37 ≥ c 41 37)) → Z (.inl (none), Wd P Q P P c2, 0, 0)) : Wp sc (d + 16) 201 0 [(0, .ref 41), (1, vi (5 * t)), (2, vi a2)] [] (Wd P Q P P c) 0 0 Z := by
  have hP := iv_P hI
  have hQ := iv_Q hI
  refine q_iload_n rfl rfl ?_
  refine q_istore_n rfl (by decide) ?_
  refine Wp_ls [(0, .ref 41), (1, vi (5 * t)), (2, vi a2), (3, vi (5 * t))] (lsub_cons rfl (lsub_cons rfl (lsub_cons rfl (lsub_cons rfl lsub_nil)))) ?_
  have h_48 := ir_41_37 hI
  exact (s_201_l (sc := sc) (d := d) hI ht ha2 H201 K 40300000).1 c t hI (fun a j hm => rfl) ht (by omega) (by omega) (by omega)
set_option maxRecDepth 100000 in
set_option maxHeartbeats 4000000 in
theorem r_201_n {sc : List Int32} {d P Q : Nat} : ∀ (m : Nat) (c : ME) (t a2 : Int) (Z : AR → Prop), 50 - t ≤ (m : Int) → 0 ≤ t ∧ t ≤ 50 → Iv 0 (-1) P Q c → 0 ≤ a2 ∧ a2 ≤ 250 → (∀ c2 : ME, Iv 0 (-1) P Q c2 → (∀ (a : Nat) (j : Int), ¬ ((a = 41 ∧ j = 37) ∨ (a = 41 ∧ j = 38) ∨ (a = 41 ∧ j = 39) ∨ a = 59 ∨ a = 54 ∨ a = 55) → c2 a j = c a j) → (c2 41 37 ≥ c 41 37) → Z (.inl none, Wd P Q P P c2, 0, 0)) → Wp sc (d + m + 16) 201 0 [(0, .ref 41), (1, vi (5 * t)), (2, vi a2)] [] (Wd P Q P P c) 0 0 Z
  | 0, c, t, a2, Z, hm, h0, hI, ha, K => s_201 (d := d) (t := t) (a2 := a2) hI h0 ha (fun c9 t2 a9 z9 Z9 hc => absurd hc (by omega)) K
  | m + 1, c, t, a2, Z, hm, h0, hI, ha, K => s_201 (d := d + (m + 1)) (t := t) (a2 := a2) hI h0 ha (fun c9 t2 a9 z9 Z9 hc hI9 ha9 K9 => by
    have r := r_201_n (sc := sc) (d := d) m c9 t2 a9 Z9 (by omega) (by omega) hI9 ha9 K9
    rw [show d + m + 16 = d + (m + 1) + 15 by omega] at r
    rw [hc.2]
    exact r) K
set_option maxRecDepth 100000 in
set_option maxHeartbeats 4000000 in
theorem r_201 {sc : List Int32} {d P Q : Nat} {c : ME} {t a2 : Int} {Z : AR → Prop} (hI : Iv 0 (-1) P Q c) (ht : 0 ≤ t ∧ t ≤ 50) (ha2 : 0 ≤ a2 ∧ a2 ≤ 250) (K : (∀ c2 : ME, Iv 0 (-1) P Q c2 → (∀ (a : Nat) (j : Int), ¬ ((a = 41 ∧ j = 37) ∨ (a = 41 ∧ j = 38) ∨ (a = 41 ∧ j = 39) ∨ a = 59 ∨ a = 54 ∨ a = 55) → c2 a j = c a j) → (c2 41 37 ≥ c 41 37) → Z (.inl none, Wd P Q P P c2, 0, 0))) : Wp sc (d + 66) 201 0 [(0, .ref 41), (1, vi (5 * t)), (2, vi a2)] [] (Wd P Q P P c) 0 0 Z :=
  r_201_n (d := d) 50 c t a2 Z (by omega) ht hI ha2 K

set_option maxRecDepth 100000 in
set_option maxHeartbeats 4000000 in
theorem s_202c {sc : List Int32} {d P Q : Nat} {c : ME} {Z : AR → Prop} (hI : Iv 0 (-1) P Q c) (hq0 : (c 41 35 ≤ 15)) (hq1 : (((c 41 34) % 5) = 0)) (hq2 : (c 41 34 ≤ 250)) (K : ∀ (c2 : ME) (y : Int), Iv 0 (-1) P Q c2 → (∀ (a : Nat) (j : Int), ¬ ((a = 41 ∧ j = 35) ∨ (a = 41 ∧ j = 36) ∨ (a = 41 ∧ j = 37) ∨ (a = 41 ∧ j = 38) ∨ (a = 41 ∧ j = 39) ∨ a = 58 ∨ a = 59 ∨ a = 54 ∨ a = 55) → c2 a j = c a j) → (-2147483648) ≤ y ∧ y ≤ 2147483647 → Z (.inl (some (vi y)), Wd P Q P P c2, 0, 0)) : Wp sc (d + 67) 202 155 [(0, .ref 41)] [] (Wd P Q P P c) 0 0 Z := by
  have hP := iv_P hI
  have hQ := iv_Q hI
  have h_1 := ir_41_35 hI
  have h_2 := ir_41_34 hI
  refine q_aload_n rfl rfl ?_
  refine q_dup rfl rfl ?_
  refine v_gi (z := 35) (v := c 41 35) rfl rfl rfl (by decide) rfl rfl rfl ?_
  refine q_iconst rfl ?_
  refine v_iadd (v := c 41 35 + 1) rfl rfl ?_
  refine v_pi (z := 35) rfl rfl rfl (by decide) rfl rfl rfl (by decide) ?_
  refine q_aload_n rfl rfl ?_
  have hI_3 := iw_41_35 (v := c 41 35 + 1) hI ⟨by first | exact rgp_l h_1.1 (by decide) | omega, by omega⟩
  refine v_cv rfl rfl rfl rfl (by decide) ⟨⟨rfl, rfl⟩, by decide, rfl⟩ (Nat.le_of_ble_eq_true rfl) (Nat.le_of_ble_eq_true rfl) (s_186 hI_3 (fun c_4 hI_5 hF_6 => ?_))
  refine bk_inl ?_
  refine q_aload_n rfl rfl ?_
  refine q_iconst rfl ?_
  refine v_pi (z := 37) rfl rfl rfl (by decide) rfl rfl rfl (by decide) ?_
  refine q_aload_n rfl rfl ?_
  refine q_iconst rfl ?_
  refine v_pi (z := 38) rfl rfl rfl (by decide) rfl rfl rfl (by decide) ?_
  refine q_aload_n rfl rfl ?_
  refine q_iconst rfl ?_
  refine v_pi (z := 39) rfl rfl rfl (by decide) rfl rfl rfl (by decide) ?_
  refine q_aload_n rfl rfl ?_
  refine q_iconst rfl ?_
  refine q_aload_n rfl rfl ?_
  have kn_7 : Hid (c_4 41 34 = c 41 34) := (hF_6 41 34 (fun h => absurd h (nn rfl))).trans (up_n (by decide))
  refine v_gi (z := 34) (v := c 41 34) rfl rfl rfl (by decide) rfl rfl ((up_n (by decide)).trans ((up_n (by decide)).trans ((up_n (by decide)).trans (hid kn_7)))) ?_
  have hI_8 := iw_41_37 (v := 0) hI_5 ⟨by decide, by decide⟩
  have hI_9 := iw_41_38 (v := 0) hI_8 ⟨by decide, by decide⟩
  have hI_10 := iw_41_39 (v := 0) hI_9 ⟨by decide, by decide⟩
  have h_11 : (up (up (up c_4 41 37 0) 41 38 0) 41 39 0) 41 37 = 0 := ((up_n (by decide)).trans ((up_n (by decide)).trans (up_e rfl)))
  refine v_cv rfl rfl rfl rfl (by decide) ⟨⟨rfl, rfl⟩, by decide, rfl⟩ (Nat.le_of_ble_eq_true rfl) (Nat.le_of_ble_eq_true rfl) (r_201 (t := 0) (a2 := c 41 34) hI_10 (show 0 ≤ 0 ∧ 0 ≤ 50 from by omega) (show 0 ≤ c 41 34 ∧ c 41 34 ≤ 250 from h_2) (fun c_12 hI_13 hF_14 h_15 => ?_))
  refine bk_inl ?_
  have h_16 := ir_41_37 hI_13
  refine q_aload_n rfl rfl ?_
  refine q_aload_n rfl rfl ?_
  refine v_gr (t := 59) rfl rfl rfl (by decide) rfl ?_
  refine q_aload_n rfl rfl ?_
  refine v_gr (t := 58) rfl rfl rfl (by decide) rfl ?_
  refine v_bip rfl (by decide) ?_
  refine v_cv rfl rfl rfl rfl (by decide) ⟨⟨rfl, rfl⟩, by decide, rfl⟩ (Nat.le_of_ble_eq_true rfl) (Nat.le_of_ble_eq_true rfl) (s_148 (f := 59) (t := 58) (nf := 37) (nt := 37) (n := 37) rfl rfl (by decide) (by decide) (by decide) (by decide) (by decide) (by omega) ?_)
  refine bk_inl ?_
  refine q_aload_n rfl rfl ?_
  refine q_aload_n rfl rfl ?_
  have h_17 := ir_41_39 hI_13
  refine v_gi (z := 39) (v := c_12 41 39) rfl rfl rfl (by decide) rfl rfl (upc_c (by omega)) ?_
  refine v_pi (z := 36) rfl rfl rfl (by decide) rfl rfl rfl (by decide) ?_
  refine q_aload_n rfl rfl ?_
  have h_18 := ir_41_38 hI_13
  refine v_gi (z := 38) (v := c_12 41 38) rfl rfl rfl (by decide) rfl rfl ((up_n (by decide)).trans (upc_c (by omega))) ?_
  refine q_iret rfl rfl ?_
  have hI_19 := cp_59_58 hI_13
  have hI_20 := iw_41_36 (v := c_12 41 39) hI_19 ⟨h_17.1, h_17.2⟩
  exact K (up (upc c_12 59 0 58 0 37) 41 36 (c_12 41 39)) (c_12 41 38) hI_20 (fun a j hm => (up_b (Decidable.or_iff_not_imp_left.mpr (fun h1 h2 => hm (Or.inr (Or.inl ⟨Decidable.not_not.mp h1, h2⟩))))).trans ((upc_c (fun h => hm (Or.inr (Or.inr (Or.inr (Or.inr (Or.inr (Or.inl h)))))))).trans ((hF_14 a j (fun q => q.elim (fun h => hm (Or.inr (Or.inr (Or.inl h)))) (fun q => q.elim (fun h => hm (Or.inr (Or.inr (Or.inr (Or.inl h))))) (fun q => q.elim (fun h => hm (Or.inr (Or.inr (Or.inr (Or.inr (Or.inl h)))))) (fun q => q.elim (fun h => hm (Or.inr (Or.inr (Or.inr (Or.inr (Or.inr (Or.inr (Or.inl h)))))))) (fun q => q.elim (fun h => hm (Or.inr (Or.inr (Or.inr (Or.inr (Or.inr (Or.inr (Or.inr (Or.inl h))))))))) (fun h => hm (Or.inr (Or.inr (Or.inr (Or.inr (Or.inr (Or.inr (Or.inr (Or.inr h))))))))))))))).trans ((up_b (Decidable.or_iff_not_imp_left.mpr (fun h1 h2 => hm (Or.inr (Or.inr (Or.inr (Or.inr (Or.inl ⟨Decidable.not_not.mp h1, h2⟩)))))))).trans ((up_b (Decidable.or_iff_not_imp_left.mpr (fun h1 h2 => hm (Or.inr (Or.inr (Or.inr (Or.inl ⟨Decidable.not_not.mp h1, h2⟩))))))).trans ((up_b (Decidable.or_iff_not_imp_left.mpr (fun h1 h2 => hm (Or.inr (Or.inr (Or.inl ⟨Decidable.not_not.mp h1, h2⟩)))))).trans ((hF_6 a j (fun h => hm (Or.inr (Or.inr (Or.inr (Or.inr (Or.inr (Or.inr (Or.inl h))))))))).trans (up_b (Decidable.or_iff_not_imp_left.mpr (fun h1 h2 => hm (Or.inl ⟨Decidable.not_not.mp h1, h2⟩))))))))))) h_18
set_option maxRecDepth 100000 in
set_option maxHeartbeats 4000000 in
theorem s_202b_l {sc : List Int32} {d P Q : Nat} {c : ME} {Z : AR → Prop} (hI : Iv 60 (-1) P Q c) (hq0 : (c 41 35 ≤ 15)) (hq1 : (((c 41 34) % 5) = 0)) (hq2 : (c 41 34 ≤ 250)) (hq3 : ∀ j : Int, rs 60 j → c 60 j + c 60 (j + 1) + c 60 (j + 2) + c 60 (j + 3) ≤ 9999) (K : ∀ (c2 : ME) (y : Int), Iv 0 (-1) P Q c2 → (∀ (a : Nat) (j : Int), ¬ ((a = 41 ∧ j = 35) ∨ (a = 41 ∧ j = 36) ∨ (a = 41 ∧ j = 37) ∨ (a = 41 ∧ j = 38) ∨ (a = 41 ∧ j = 39) ∨ a = 58 ∨ a = 59 ∨ a = 54 ∨ a = 55 ∨ a = 60) → c2 a j = c a j) → (-2147483648) ≤ y ∧ y ≤ 2147483647 → Z (.inl (some (vi y)), Wd P Q P P c2, 0, 0)) : ∀ n : Nat, (∀ (c2 : ME) (v3 : Int), Iv 60 (-1) P Q c2 → (∀ (a : Nat) (j : Int), ¬ (a = 60) → c2 a j = c a j) → 0 ≤ v3 ∧ v3 ≤ 37 → (∀ j : Int, 0 ≤ j → j < v3 → c2 60 (37 * c 41 35 + j) = c 58 j) → (∀ j : Int, ¬ (37 * c 41 35 ≤ j ∧ j < 37 * c 41 35 + 37) → c2 60 j = c 60 j) → 75 - 2 * v3 < (n : Int) → Wp sc (d + 67) 202 123 [(0, .ref 41), (3, vi v3)] [] (Wd P Q P P c2) 0 0 Z)
  | 0 => by intro c2 v3 hI2 hF hv3 hx0 hx1 hm9; have hP := iv_P hI; have hQ := iv_Q hI; exfalso; omega
  | n + 1 => by
    have hP := iv_P hI
    have hQ := iv_Q hI
    have ih := s_202b_l (sc := sc) (d := d) hI hq0 hq1 hq2 hq3 K n
    intro c2 v3 hI2 hF hv3 hx0 hx1 hm9
    have h_1 := ir_41_35 hI
    have h_2 := ir_41_34 hI
    refine q_iload_n rfl rfl ?_
    refine v_bip rfl (by decide) ?_
    by_cases h_3 : v3 ≥ 37
    · refine v_ic_ge_t (t := 155) rfl (by decide) ⟨by decide, h_3, (Int.le_trans hv3.2 (by decide))⟩ ?_
      refine Wp_ls [(0, .ref 41)] (lsub_cons rfl lsub_nil) ?_
      have hc9 : Iv 0 (-1) P Q c2 := iv_close hI2 (fun j hj => by
        by_cases q9 : 37 * c 41 35 ≤ j ∧ j < 37 * c 41 35 + 37
        · rw [ri_60] at hj
          have h8 : j / 37 = c 41 35 := by omega
          obtain ⟨i9, hi9⟩ : ∃ i : Int, j = 37 * c 41 35 + i := ⟨j - 37 * c 41 35, by omega⟩
          subst hi9
          rw [show 37 * c 41 35 + i9 + 1 = 37 * c 41 35 + (i9 + 1) by omega, show 37 * c 41 35 + i9 + 2 = 37 * c 41 35 + (i9 + 2) by omega, show 37 * c 41 35 + i9 + 3 = 37 * c 41 35 + (i9 + 3) by omega, hx0 i9 (by omega) (by omega), hx0 (i9 + 1) (by omega) (by omega), hx0 (i9 + 2) (by omega) (by omega), hx0 (i9 + 3) (by omega) (by omega)]
          exact iv_r hI 58 i9 (by rw [ri_58]; omega) (by omega)
        · have hj9 := hj
          rw [ri_60] at hj9
          have h7 : ¬ j / 37 = c 41 35 := by omega
          rw [hx1 j q9, hx1 (j + 1) (by omega), hx1 (j + 2) (by omega), hx1 (j + 3) (by omega)]
          exact hq3 j hj)
      exact s_202c hc9 (by rw [hF 41 35 (by omega)]; omega) (by rw [hF 41 34 (by omega)]; omega) (by rw [hF 41 34 (by omega)]; omega) (fun c9 y9 hI9 hF9 hy9 => K c9 y9 hI9 (fun a j hm => (hF9 a j (by omega)).trans (hF a j (by omega))) hy9)
    · refine v_ic_ge_f (t := 155) rfl (by decide) ⟨(Int.le_trans (by decide) hv3.1), (Int.not_le.mp h_3), by decide⟩ ?_
      refine q_aload_n rfl rfl ?_
      refine v_gr (t := 60) rfl rfl rfl (by decide) rfl ?_
      refine v_bip rfl (by decide) ?_
      refine q_aload_n rfl rfl ?_
      have kn_4 : Hid (c2 41 35 = c 41 35) := hF 41 35 (fun h => absurd h (nn rfl))
      refine v_gi (z := 35) (v := c 41 35) rfl rfl rfl (by decide) rfl rfl (hid kn_4) ?_
      refine v_imul (v := 37 * c 41 35) rfl (by omega) ?_
      refine q_iload_n rfl rfl ?_
      refine v_iadd (v := 37 * c 41 35 + v3) rfl rfl ?_
      refine q_aload_n rfl rfl ?_
      refine v_gr (t := 58) rfl rfl rfl (by decide) rfl ?_
      refine q_iload_n rfl rfl ?_
      have h_5 := ir_58 hI v3
      have kn_6 : Hid (c2 58 v3 = c 58 v3) := hF 58 v3 (fun h => absurd h (nn rfl))
      refine v_ia (v := c 58 v3) rfl rfl (by decide) (by decide) (by omega) (hid kn_6) ?_
      refine v_is rfl rfl (by decide) (by decide) (by omega) ?_
      refine v_iinc (v := v3 + 1) rfl rfl (by decide) rfl ?_
      refine q_goto (t := 123) rfl (by decide) ?_
      have hI_7 := iw_60 (j := 37 * c 41 35 + v3) (v := c 58 v3) hI2 (fun h9 => ir_58_g hI (by omega)) ⟨by omega, by omega⟩
      refine Wp_ls [(0, .ref 41), (3, vi (v3 + 1))] (lsub_cons rfl (lsub_cons rfl lsub_nil)) ?_
      have hr_8 : ∀ j : Int, 0 ≤ j → j < v3 + 1 → (up c2 60 (37 * c 41 35 + v3) (c 58 v3)) 60 (37 * c 41 35 + j) = c 58 j := by
        intro j hj1 hj2
        by_cases e9 : j = v3
        · rw [show (up c2 60 (37 * c 41 35 + v3) (c 58 v3)) 60 (37 * c 41 35 + j) = c 58 v3 from up_e (by omega), e9]
        · rw [show (up c2 60 (37 * c 41 35 + v3) (c 58 v3)) 60 (37 * c 41 35 + j) = c2 60 (37 * c 41 35 + j) from up_n (by omega)]; exact hx0 j hj1 (by omega)
      have hr_9 : ∀ j : Int, ¬ (37 * c 41 35 ≤ j ∧ j < 37 * c 41 35 + 37) → (up c2 60 (37 * c 41 35 + v3) (c 58 v3)) 60 j = c 60 j := by
        intro j hj1
        rw [show (up c2 60 (37 * c 41 35 + v3) (c 58 v3)) 60 j = c2 60 j from up_n (by omega)]; exact hx1 j hj1
      exact ih (up c2 60 (37 * c 41 35 + v3) (c 58 v3)) (v3 + 1) hI_7 (fun a j hm => (up_b (Decidable.or_iff_not_imp_left.mpr (fun h1 h2 => hm (Decidable.not_not.mp h1)))).trans (hF a j (fun h => hm h))) ⟨by first | exact rgp_l hv3.1 (by decide) | omega, by omega⟩ hr_8 hr_9 (by omega)
set_option maxRecDepth 100000 in
set_option maxHeartbeats 4000000 in
theorem s_202b {sc : List Int32} {d P Q : Nat} {c : ME} {Z : AR → Prop} (hI : Iv 60 (-1) P Q c) (hq0 : (c 41 35 ≤ 15)) (hq1 : (((c 41 34) % 5) = 0)) (hq2 : (c 41 34 ≤ 250)) (hq3 : ∀ j : Int, rs 60 j → c 60 j + c 60 (j + 1) + c 60 (j + 2) + c 60 (j + 3) ≤ 9999) (K : ∀ (c2 : ME) (y : Int), Iv 0 (-1) P Q c2 → (∀ (a : Nat) (j : Int), ¬ ((a = 41 ∧ j = 35) ∨ (a = 41 ∧ j = 36) ∨ (a = 41 ∧ j = 37) ∨ (a = 41 ∧ j = 38) ∨ (a = 41 ∧ j = 39) ∨ a = 58 ∨ a = 59 ∨ a = 54 ∨ a = 55 ∨ a = 60) → c2 a j = c a j) → (-2147483648) ≤ y ∧ y ≤ 2147483647 → Z (.inl (some (vi y)), Wd P Q P P c2, 0, 0)) : Wp sc (d + 67) 202 121 [(0, .ref 41)] [] (Wd P Q P P c) 0 0 Z := by
  have hP := iv_P hI
  have hQ := iv_Q hI
  have h_10 := ir_41_35 hI
  have h_11 := ir_41_34 hI
  refine q_iconst rfl ?_
  refine q_istore_n rfl (by decide) ?_
  refine Wp_ls [(0, .ref 41), (3, vi 0)] (lsub_cons rfl (lsub_cons rfl lsub_nil)) ?_
  have hr_12 : ∀ j : Int, 0 ≤ j → j < 0 → c 60 (37 * c 41 35 + j) = c 58 j := by
    intro j hj1 hj2
    omega
  have hr_13 : ∀ j : Int, ¬ (37 * c 41 35 ≤ j ∧ j < 37 * c 41 35 + 37) → c 60 j = c 60 j := by
    intro j hj1
    rfl
  exact (s_202b_l (sc := sc) (d := d) hI hq0 hq1 hq2 hq3 K 78) c 0 hI (fun a j hm => rfl) ⟨by decide, by decide⟩ hr_12 hr_13 (by omega)
set_option maxRecDepth 100000 in
set_option maxHeartbeats 4000000 in
theorem s_202_l {sc : List Int32} {d P Q : Nat} {c : ME} {a1 : Int} {Z : AR → Prop} (hI : Iv 0 (-1) P Q c) (ha1 : (-2147483648) ≤ a1 ∧ a1 ≤ 2147483647) (K : ∀ (c2 : ME) (y : Int), Iv 0 (-1) P Q c2 → (∀ (a : Nat) (j : Int), ¬ ((a = 41 ∧ j = 0) ∨ a = 42 ∨ (a = 41 ∧ j = 2) ∨ (a = 41 ∧ j = 3) ∨ (a = 41 ∧ j = 4) ∨ (a = 41 ∧ j = 5) ∨ (a = 41 ∧ j = 6) ∨ (a = 41 ∧ j = 7) ∨ (a = 41 ∧ j = 8) ∨ (a = 41 ∧ j = 34) ∨ a = 56 ∨ a = 57 ∨ a = 60 ∨ (a = 41 ∧ j = 35) ∨ (a = 41 ∧ j = 36) ∨ (a = 41 ∧ j = 37) ∨ (a = 41 ∧ j = 38) ∨ (a = 41 ∧ j = 39) ∨ a = 58 ∨ a = 59 ∨ a = 54 ∨ a = 55) → c2 a j = c a j) → (-2147483648) ≤ y ∧ y ≤ 2147483647 → ((c2 41 2 = 0 ∧ a1 ≥ 0 ∧ a1 ≤ c 41 2 ∧ a1 ≤ 150) ∨ (c2 41 2 = c 41 2 ∧ a1 < 0) ∨ (c2 41 2 = c 41 2 ∧ a1 > c 41 2) ∨ (c2 41 2 = c 41 2 ∧ a1 > 150)) → Z (.inl (some (vi y)), Wd P Q P P c2, 0, 0)) : ∀ n : Nat, (∀ (c2 : ME), Iv 0 (-1) P Q c2 → (∀ (a : Nat) (j : Int), ¬ ((a = 41 ∧ j = 0) ∨ a = 42 ∨ (a = 41 ∧ j = 2) ∨ (a = 41 ∧ j = 3) ∨ (a = 41 ∧ j = 4) ∨ (a = 41 ∧ j = 5) ∨ (a = 41 ∧ j = 6) ∨ (a = 41 ∧ j = 7) ∨ (a = 41 ∧ j = 8) ∨ (a = 41 ∧ j = 34) ∨ a = 56 ∨ a = 57 ∨ a = 60 ∨ (a = 41 ∧ j = 35) ∨ (a = 41 ∧ j = 36) ∨ (a = 41 ∧ j = 37) ∨ (a = 41 ∧ j = 38) ∨ (a = 41 ∧ j = 39) ∨ a = 58 ∨ a = 59 ∨ a = 54 ∨ a = 55) → c2 a j = c a j) → ((c2 41 5 = (-1))) → ((c2 41 4 ≤ c2 41 3)) → ((c2 41 3 ≤ 150)) → ((3 * c2 41 34 ≤ 5 * c2 41 4)) → ((((c2 41 34) % 5) = 0)) → ((c2 41 7 = 0)) → ((c2 41 35 ≤ 15)) → ((c2 41 4 ≥ 0)) → ((c2 41 34 ≥ 0)) → ((c2 41 34 ≤ 250)) → (Ap c2 56 0 (c2 41 34)) → ((c2 41 2 = 0 ∧ a1 ≥ 0 ∧ a1 ≤ c 41 2 ∧ a1 ≤ 150)) → 1211 - 2 * c2 41 4 < (n : Int) → Wp sc (d + 67) 202 75 [(0, .ref 41), (1, vi a1)] [] (Wd P Q P P c2) 0 0 Z)
  | 0 => by intro c2 hI2 hF hx0 hx1 hx2 hx3 hx4 hx5 hx6 hx7 hx8 hx9 hx10 hx11 hm9; have hP := iv_P hI; have hQ := iv_Q hI; have h_74 := ir_41_4 hI2; exfalso; omega
  | n + 1 => by
    have hP := iv_P hI
    have hQ := iv_Q hI
    have ih := s_202_l (sc := sc) (d := d) hI ha1 K n
    intro c2 hI2 hF hx0 hx1 hx2 hx3 hx4 hx5 hx6 hx7 hx8 hx9 hx10 hx11 hm9
    have h_1 := ir_41_5 hI2
    have h_2 := ir_41_3 hI2
    have h_3 := ir_41_4 hI2
    have h_4 := ir_41_34 hI2
    have h_5 := ir_41_7 hI2
    have h_6 := ir_41_35 hI2
    have h_7 := ir_41_2 hI
    have h_8 := ir_41_2 hI2
    refine q_aload_n rfl rfl ?_
    refine v_cv rfl rfl rfl rfl (by decide) ⟨⟨rfl, rfl⟩, by decide, rfl⟩ (Nat.le_of_ble_eq_true rfl) (Nat.le_of_ble_eq_true rfl) (s_162 hI2 (fun c_9 y_12 hI_10 hF_11 hy_12 h_13 h_14 h_15 => ?_))
    refine bk_inl ?_
    have h_16 := ir_41_4 hI_10
    by_cases h_17 : y_12 = 0
    · refine v_if_eq_t (t := 89) rfl (by decide) h_17 ?_
      refine q_aload_n rfl rfl ?_
      refine q_iconst rfl ?_
      refine v_cv rfl rfl rfl rfl (by decide) ⟨⟨rfl, rfl⟩, by decide, rfl⟩ (Nat.le_of_ble_eq_true rfl) (Nat.le_of_ble_eq_true rfl) (s_164 (a1 := 0) hI_10 (show (-2147483648) ≤ 0 ∧ 0 ≤ 2147483647 from ⟨by decide, by decide⟩) (fun c_18 y_21 hI_19 hF_20 hy_21 => ?_))
      refine bk_inl ?_
      refine q_istore_n rfl (by decide) ?_
      refine q_aload_n rfl rfl ?_
      have kn_22 : Hid (c_9 41 5 = c2 41 5) := hF_11 41 5 (fun h => absurd h.2 (ni rfl))
      have kn_23 : Hid (c_18 41 5 = c2 41 5) := (hF_20 41 5 (fun h => absurd h.2 (ni rfl))).trans (hid kn_22)
      refine v_gi (z := 5) (v := c2 41 5) rfl rfl rfl (by decide) rfl rfl (hid kn_23) ?_
      refine q_iconst rfl ?_
      refine v_ic_eq_t (t := 105) rfl (by decide) (by first | (clear ha1 hx1 hx2 hx3 hx4 hx5 hx6 hx7 hx8 hx9 hx11 h_1 h_2 h_3 h_4 h_5 h_6 h_7 h_8 h_16 h_13 h_17 h_14 h_15; omega) | omega) ?_
      refine q_aload_n rfl rfl ?_
      refine q_aload_n rfl rfl ?_
      refine v_gr (t := 56) rfl rfl rfl (by decide) rfl ?_
      refine q_aload_n rfl rfl ?_
      refine v_gr (t := 57) rfl rfl rfl (by decide) rfl ?_
      refine q_aload_n rfl rfl ?_
      have kn_24 : Hid (c_9 41 34 = c2 41 34) := hF_11 41 34 (fun h => absurd h.2 (ni rfl))
      have kn_25 : Hid (c_18 41 34 = c2 41 34) := (hF_20 41 34 (fun h => absurd h.2 (ni rfl))).trans (hid kn_24)
      refine v_gi (z := 34) (v := c2 41 34) rfl rfl rfl (by decide) rfl rfl (hid kn_25) ?_
      refine v_cv rfl rfl rfl rfl (by decide) ⟨⟨rfl, rfl⟩, by decide, rfl⟩ (Nat.le_of_ble_eq_true rfl) (Nat.le_of_ble_eq_true rfl) (s_148 (f := 56) (t := 57) (nf := 250) (nt := 250) (n := c2 41 34) rfl rfl (by decide) (by decide) (by decide) (by decide) (by decide) (by omega) ?_)
      refine bk_inl ?_
      have hI_26 := cp_56_57 (n := c2 41 34) hI_19 (by omega) (ap_fr (c := c2) (hi := c2 41 34) hx10 (by omega) rfl (by omega) (fun j h1 h2 => (hF_20 56 j (fun h => absurd h.1 (nn rfl))).trans (hF_11 56 j (fun h => absurd h.1 (nn rfl)))))
      have kn_27 : Hid (c_9 41 35 = c2 41 35) := hF_11 41 35 (fun h => absurd h.2 (ni rfl))
      have kn_28 : Hid (c_18 41 35 = c2 41 35) := (hF_20 41 35 (fun h => absurd h.2 (ni rfl))).trans (hid kn_27)
      have hw35 : (upc c_18 56 0 57 0 (c2 41 34)) 41 35 = c2 41 35 := ((upc_c (by omega)).trans (hid kn_28))
      have hw34 : (upc c_18 56 0 57 0 (c2 41 34)) 41 34 = c2 41 34 := ((upc_c (by omega)).trans (hid kn_25))
      have kn_29 : Hid (c_9 41 2 = c2 41 2) := hF_11 41 2 (fun h => absurd h.2 (ni rfl))
      have kn_30 : Hid (c_18 41 2 = c2 41 2) := (hF_20 41 2 (fun h => absurd h.2 (ni rfl))).trans (hid kn_29)
      have hz9 : (upc c_18 56 0 57 0 (c2 41 34)) 41 2 = 0 := (((upc_c (by omega)).trans (hid kn_30))).trans (by omega)
      refine Wp_ls [(0, .ref 41)] (lsub_cons rfl lsub_nil) ?_
      exact s_202b (iv_open hI_26) (by omega) (by omega) (by omega) (fun j hj => iv_r hI_26 60 j hj (by omega)) (fun c9 y9 hI9 hF9 hy9 => K c9 y9 hI9 (fun a j hm => (hF9 a j (fun q => q.elim (fun h => hm (Or.inr (Or.inr (Or.inr (Or.inr (Or.inr (Or.inr (Or.inr (Or.inr (Or.inr (Or.inr (Or.inr (Or.inr (Or.inr (Or.inl h))))))))))))))) (fun q => q.elim (fun h => hm (Or.inr (Or.inr (Or.inr (Or.inr (Or.inr (Or.inr (Or.inr (Or.inr (Or.inr (Or.inr (Or.inr (Or.inr (Or.inr (Or.inr (Or.inl h)))))))))))))))) (fun q => q.elim (fun h => hm (Or.inr (Or.inr (Or.inr (Or.inr (Or.inr (Or.inr (Or.inr (Or.inr (Or.inr (Or.inr (Or.inr (Or.inr (Or.inr (Or.inr (Or.inr (Or.inl h))))))))))))))))) (fun q => q.elim (fun h => hm (Or.inr (Or.inr (Or.inr (Or.inr (Or.inr (Or.inr (Or.inr (Or.inr (Or.inr (Or.inr (Or.inr (Or.inr (Or.inr (Or.inr (Or.inr (Or.inr (Or.inl h)))))))))))))))))) (fun q => q.elim (fun h => hm (Or.inr (Or.inr (Or.inr (Or.inr (Or.inr (Or.inr (Or.inr (Or.inr (Or.inr (Or.inr (Or.inr (Or.inr (Or.inr (Or.inr (Or.inr (Or.inr (Or.inr (Or.inl h))))))))))))))))))) (fun q => q.elim (fun h => hm (Or.inr (Or.inr (Or.inr (Or.inr (Or.inr (Or.inr (Or.inr (Or.inr (Or.inr (Or.inr (Or.inr (Or.inr (Or.inr (Or.inr (Or.inr (Or.inr (Or.inr (Or.inr (Or.inl h)))))))))))))))))))) (fun q => q.elim (fun h => hm (Or.inr (Or.inr (Or.inr (Or.inr (Or.inr (Or.inr (Or.inr (Or.inr (Or.inr (Or.inr (Or.inr (Or.inr (Or.inr (Or.inr (Or.inr (Or.inr (Or.inr (Or.inr (Or.inr (Or.inl h))))))))))))))))))))) (fun q => q.elim (fun h => hm (Or.inr (Or.inr (Or.inr (Or.inr (Or.inr (Or.inr (Or.inr (Or.inr (Or.inr (Or.inr (Or.inr (Or.inr (Or.inr (Or.inr (Or.inr (Or.inr (Or.inr (Or.inr (Or.inr (Or.inr (Or.inl h)))))))))))))))))))))) (fun q => q.elim (fun h => hm (Or.inr (Or.inr (Or.inr (Or.inr (Or.inr (Or.inr (Or.inr (Or.inr (Or.inr (Or.inr (Or.inr (Or.inr (Or.inr (Or.inr (Or.inr (Or.inr (Or.inr (Or.inr (Or.inr (Or.inr (Or.inr h)))))))))))))))))))))) (fun h => hm (Or.inr (Or.inr (Or.inr (Or.inr (Or.inr (Or.inr (Or.inr (Or.inr (Or.inr (Or.inr (Or.inr (Or.inr (Or.inl h)))))))))))))))))))))))).trans ((upc_c (fun h => hm (Or.inr (Or.inr (Or.inr (Or.inr (Or.inr (Or.inr (Or.inr (Or.inr (Or.inr (Or.inr (Or.inr (Or.inl h)))))))))))))).trans ((hF_20 a j (fun h => hm (Or.inr (Or.inr (Or.inr (Or.inr (Or.inr (Or.inr (Or.inr (Or.inr (Or.inl h))))))))))).trans ((hF_11 a j (fun h => hm (Or.inr (Or.inr (Or.inr (Or.inr (Or.inl h))))))).trans (hF a j (fun q => q.elim (fun h => hm (Or.inl h)) (fun q => q.elim (fun h => hm (Or.inr (Or.inl h))) (fun q => q.elim (fun h => hm (Or.inr (Or.inr (Or.inl h)))) (fun q => q.elim (fun h => hm (Or.inr (Or.inr (Or.inr (Or.inl h))))) (fun q => q.elim (fun h => hm (Or.inr (Or.inr (Or.inr (Or.inr (Or.inl h)))))) (fun q => q.elim (fun h => hm (Or.inr (Or.inr (Or.inr (Or.inr (Or.inr (Or.inl h))))))) (fun q => q.elim (fun h => hm (Or.inr (Or.inr (Or.inr (Or.inr (Or.inr (Or.inr (Or.inl h)))))))) (fun q => q.elim (fun h => hm (Or.inr (Or.inr (Or.inr (Or.inr (Or.inr (Or.inr (Or.inr (Or.inl h))))))))) (fun q => q.elim (fun h => hm (Or.inr (Or.inr (Or.inr (Or.inr (Or.inr (Or.inr (Or.inr (Or.inr (Or.inl h)))))))))) (fun q => q.elim (fun h => hm (Or.inr (Or.inr (Or.inr (Or.inr (Or.inr (Or.inr (Or.inr (Or.inr (Or.inr (Or.inl h))))))))))) (fun q => q.elim (fun h => hm (Or.inr (Or.inr (Or.inr (Or.inr (Or.inr (Or.inr (Or.inr (Or.inr (Or.inr (Or.inr (Or.inl h)))))))))))) (fun q => q.elim (fun h => hm (Or.inr (Or.inr (Or.inr (Or.inr (Or.inr (Or.inr (Or.inr (Or.inr (Or.inr (Or.inr (Or.inr (Or.inl h))))))))))))) (fun q => q.elim (fun h => hm (Or.inr (Or.inr (Or.inr (Or.inr (Or.inr (Or.inr (Or.inr (Or.inr (Or.inr (Or.inr (Or.inr (Or.inr (Or.inl h)))))))))))))) (fun q => q.elim (fun h => hm (Or.inr (Or.inr (Or.inr (Or.inr (Or.inr (Or.inr (Or.inr (Or.inr (Or.inr (Or.inr (Or.inr (Or.inr (Or.inr (Or.inl h))))))))))))))) (fun q => q.elim (fun h => hm (Or.inr (Or.inr (Or.inr (Or.inr (Or.inr (Or.inr (Or.inr (Or.inr (Or.inr (Or.inr (Or.inr (Or.inr (Or.inr (Or.inr (Or.inl h)))))))))))))))) (fun q => q.elim (fun h => hm (Or.inr (Or.inr (Or.inr (Or.inr (Or.inr (Or.inr (Or.inr (Or.inr (Or.inr (Or.inr (Or.inr (Or.inr (Or.inr (Or.inr (Or.inr (Or.inl h))))))))))))))))) (fun q => q.elim (fun h => hm (Or.inr (Or.inr (Or.inr (Or.inr (Or.inr (Or.inr (Or.inr (Or.inr (Or.inr (Or.inr (Or.inr (Or.inr (Or.inr (Or.inr (Or.inr (Or.inr (Or.inl h)))))))))))))))))) (fun q => q.elim (fun h => hm (Or.inr (Or.inr (Or.inr (Or.inr (Or.inr (Or.inr (Or.inr (Or.inr (Or.inr (Or.inr (Or.inr (Or.inr (Or.inr (Or.inr (Or.inr (Or.inr (Or.inr (Or.inl h))))))))))))))))))) (fun q => q.elim (fun h => hm (Or.inr (Or.inr (Or.inr (Or.inr (Or.inr (Or.inr (Or.inr (Or.inr (Or.inr (Or.inr (Or.inr (Or.inr (Or.inr (Or.inr (Or.inr (Or.inr (Or.inr (Or.inr (Or.inl h)))))))))))))))))))) (fun q => q.elim (fun h => hm (Or.inr (Or.inr (Or.inr (Or.inr (Or.inr (Or.inr (Or.inr (Or.inr (Or.inr (Or.inr (Or.inr (Or.inr (Or.inr (Or.inr (Or.inr (Or.inr (Or.inr (Or.inr (Or.inr (Or.inl h))))))))))))))))))))) (fun q => q.elim (fun h => hm (Or.inr (Or.inr (Or.inr (Or.inr (Or.inr (Or.inr (Or.inr (Or.inr (Or.inr (Or.inr (Or.inr (Or.inr (Or.inr (Or.inr (Or.inr (Or.inr (Or.inr (Or.inr (Or.inr (Or.inr (Or.inl h)))))))))))))))))))))) (fun h => hm (Or.inr (Or.inr (Or.inr (Or.inr (Or.inr (Or.inr (Or.inr (Or.inr (Or.inr (Or.inr (Or.inr (Or.inr (Or.inr (Or.inr (Or.inr (Or.inr (Or.inr (Or.inr (Or.inr (Or.inr (Or.inr h)))))))))))))))))))))))))))))))))))))))))))))))) hy9 (Or.inl ⟨(hF9 41 2 (by omega)).trans hz9, by omega, by omega, by omega⟩))
    · refine v_if_eq_f (t := 89) rfl (by decide) ⟨h_17, ⟨(Int.le_trans (by decide) hy_12.1), (Int.le_trans hy_12.2 (by decide))⟩, by decide, by decide⟩ ?_
      refine q_aload_n rfl rfl ?_
      have kn_31 : Hid (c_9 41 5 = c2 41 5) := hF_11 41 5 (fun h => absurd h.2 (ni rfl))
      have h_32 : c_9 41 5 = c2 41 5 := (hid kn_31)
      have kn_33 : Hid (c_9 41 3 = c2 41 3) := hF_11 41 3 (fun h => absurd h.2 (ni rfl))
      have h_34 : c_9 41 3 = c2 41 3 := (hid kn_33)
      have kn_35 : Hid (c_9 41 34 = c2 41 34) := hF_11 41 34 (fun h => absurd h.2 (ni rfl))
      have h_36 : c_9 41 34 = c2 41 34 := (hid kn_35)
      have kn_37 : Hid (c_9 41 7 = c2 41 7) := hF_11 41 7 (fun h => absurd h.2 (ni rfl))
      have h_38 : c_9 41 7 = c2 41 7 := (hid kn_37)
      have h_39 : c_9 41 34 = c2 41 34 := (hid kn_35)
      refine v_cv rfl rfl rfl rfl (by decide) ⟨⟨rfl, rfl⟩, by decide, rfl⟩ (Nat.le_of_ble_eq_true rfl) (Nat.le_of_ble_eq_true rfl) (r_185 (o := 0) hI_10 (show 0 ≤ 0 ∧ 0 ≤ 6 from by omega) (by first | (clear ha1 hx1 hx2 hx3 hx4 hx5 hx6 hx7 hx8 hx9 hx11 h_1 h_2 h_3 h_4 h_5 h_6 h_7 h_8 h_16 h_13 h_14 h_15; omega) | omega) (by first | (clear ha1 hx0 hx3 hx4 hx5 hx6 hx7 hx8 hx9 hx11 h_1 h_3 h_4 h_5 h_6 h_7 h_8; omega) | omega) (by first | (clear ha1 hx0 hx1 hx3 hx4 hx5 hx6 hx7 hx8 hx9 hx11 h_1 h_2 h_3 h_4 h_5 h_6 h_7 h_8 h_16 h_13 h_14 h_15; omega) | omega) (by first | (clear ha1 hx0 hx1 hx2 hx4 hx5 hx6 hx7 hx8 hx9 hx11 h_1 h_2 h_3 h_4 h_5 h_6 h_7 h_8 h_16 h_14 h_15; omega) | omega) (by first | (clear ha1 hx0 hx1 hx2 hx3 hx5 hx6 hx7 hx8 hx9 hx11 h_1 h_2 h_3 h_4 h_5 h_6 h_7 h_8 h_16 h_13 h_14 h_15; omega) | omega) (by first | (clear ha1 hx0 hx1 hx2 hx3 hx4 hx6 hx7 hx8 hx9 hx11 h_1 h_2 h_3 h_4 h_5 h_6 h_7 h_8 h_16 h_13 h_14 h_15; omega) | omega) (fun c_40 hI_41 hF_42 h_43 h_44 h_45 h_46 h_47 h_48 hA_49 => ?_))
      refine bk_inl ?_
      have h_50 := ir_41_4 hI_41
      have h_51 := ir_41_7 hI_41
      have h_52 := ir_41_34 hI_41
      have h_53 := ir_41_5 hI_41
      refine q_goto (t := 68) rfl (by decide) ?_
      refine q_aload_n rfl rfl ?_
      refine v_cv rfl rfl rfl rfl (by decide) ⟨⟨rfl, rfl⟩, by decide, rfl⟩ (Nat.le_of_ble_eq_true rfl) (Nat.le_of_ble_eq_true rfl) ?_
      refine q_aload_n rfl rfl ?_
      refine v_gi (z := 5) (v := c_40 41 5) rfl rfl rfl (by decide) rfl rfl rfl ?_
      refine q_iconst rfl ?_
      by_cases h_54 : c_40 41 5 ≠ (-1)
      · refine v_ic_ne_t (t := 12) rfl (by decide) ⟨h_54, ⟨(Int.le_trans (by decide) h_53.1), (Int.le_trans h_53.2 (by decide))⟩, by decide, by decide⟩ ?_
        refine q_iconst rfl ?_
        refine v_zret rfl rfl (by decide) ?_
        refine bk_inl ?_
        refine v_if_eq_t (t := 89) rfl (by decide) (by decide) ?_
        refine q_aload_n rfl rfl ?_
        refine q_iconst rfl ?_
        refine v_cv rfl rfl rfl rfl (by decide) ⟨⟨rfl, rfl⟩, by decide, rfl⟩ (Nat.le_of_ble_eq_true rfl) (Nat.le_of_ble_eq_true rfl) (s_164 (a1 := 0) hI_41 (show (-2147483648) ≤ 0 ∧ 0 ≤ 2147483647 from ⟨by decide, by decide⟩) (fun c_55 y_58 hI_56 hF_57 hy_58 => ?_))
        refine bk_inl ?_
        refine q_istore_n rfl (by decide) ?_
        refine q_aload_n rfl rfl ?_
        have kn_59 : Hid (c_55 41 5 = c_40 41 5) := hF_57 41 5 (fun h => absurd h.2 (ni rfl))
        refine v_gi (z := 5) (v := c_40 41 5) rfl rfl rfl (by decide) rfl rfl (hid kn_59) ?_
        refine q_iconst rfl ?_
        refine v_ic_eq_f (t := 105) rfl (by decide) ⟨by first | (clear ha1 hx0 hx1 hx2 hx3 hx4 hx5 hx6 hx7 hx8 hx9 hx11 h_1 h_2 h_3 h_4 h_5 h_6 h_7 h_8 h_16 h_13 h_50 h_43 h_51 h_44 h_52 h_45 h_47 h_48 h_14 h_15; omega) | omega, ⟨(Int.le_trans (by decide) h_53.1), (Int.le_trans h_53.2 (by decide))⟩, by decide, by decide⟩ ?_
        refine q_iload_n rfl rfl ?_
        refine q_iret rfl rfl ?_
        have kn_60 : Hid (c_9 41 2 = c2 41 2) := hF_11 41 2 (fun h => absurd h.2 (ni rfl))
        have kn_61 : Hid (c_40 41 2 = c2 41 2) := (hF_42 41 2 (fun q => q.elim (fun h => absurd h.2 (ni rfl)) (fun q => q.elim (fun h => absurd h.2 (ni rfl)) (fun q => q.elim (fun h => absurd h.2 (ni rfl)) (fun q => q.elim (fun h => absurd h.2 (ni rfl)) (fun q => q.elim (fun h => absurd h.2 (ni rfl)) (fun h => absurd h.1 (nn rfl)))))))).trans (hid kn_60)
        have kn_62 : Hid (c_55 41 2 = c2 41 2) := (hF_57 41 2 (fun h => absurd h.2 (ni rfl))).trans (hid kn_61)
        have h_63 : c_55 41 2 = c2 41 2 := (hid kn_62)
        exact K c_55 y_58 hI_56 (fun a j hm => (hF_57 a j (fun h => hm (Or.inr (Or.inr (Or.inr (Or.inr (Or.inr (Or.inr (Or.inr (Or.inr (Or.inl h))))))))))).trans ((hF_42 a j (fun q => q.elim (fun h => hm (Or.inr (Or.inr (Or.inr (Or.inr (Or.inl h)))))) (fun q => q.elim (fun h => hm (Or.inr (Or.inr (Or.inr (Or.inr (Or.inr (Or.inl h))))))) (fun q => q.elim (fun h => hm (Or.inr (Or.inr (Or.inr (Or.inr (Or.inr (Or.inr (Or.inl h)))))))) (fun q => q.elim (fun h => hm (Or.inr (Or.inr (Or.inr (Or.inr (Or.inr (Or.inr (Or.inr (Or.inl h))))))))) (fun q => q.elim (fun h => hm (Or.inr (Or.inr (Or.inr (Or.inr (Or.inr (Or.inr (Or.inr (Or.inr (Or.inr (Or.inl h))))))))))) (fun h => hm (Or.inr (Or.inr (Or.inr (Or.inr (Or.inr (Or.inr (Or.inr (Or.inr (Or.inr (Or.inr (Or.inl h.1)))))))))))))))))).trans ((hF_11 a j (fun h => hm (Or.inr (Or.inr (Or.inr (Or.inr (Or.inl h))))))).trans (hF a j (fun q => q.elim (fun h => hm (Or.inl h)) (fun q => q.elim (fun h => hm (Or.inr (Or.inl h))) (fun q => q.elim (fun h => hm (Or.inr (Or.inr (Or.inl h)))) (fun q => q.elim (fun h => hm (Or.inr (Or.inr (Or.inr (Or.inl h))))) (fun q => q.elim (fun h => hm (Or.inr (Or.inr (Or.inr (Or.inr (Or.inl h)))))) (fun q => q.elim (fun h => hm (Or.inr (Or.inr (Or.inr (Or.inr (Or.inr (Or.inl h))))))) (fun q => q.elim (fun h => hm (Or.inr (Or.inr (Or.inr (Or.inr (Or.inr (Or.inr (Or.inl h)))))))) (fun q => q.elim (fun h => hm (Or.inr (Or.inr (Or.inr (Or.inr (Or.inr (Or.inr (Or.inr (Or.inl h))))))))) (fun q => q.elim (fun h => hm (Or.inr (Or.inr (Or.inr (Or.inr (Or.inr (Or.inr (Or.inr (Or.inr (Or.inl h)))))))))) (fun q => q.elim (fun h => hm (Or.inr (Or.inr (Or.inr (Or.inr (Or.inr (Or.inr (Or.inr (Or.inr (Or.inr (Or.inl h))))))))))) (fun q => q.elim (fun h => hm (Or.inr (Or.inr (Or.inr (Or.inr (Or.inr (Or.inr (Or.inr (Or.inr (Or.inr (Or.inr (Or.inl h)))))))))))) (fun q => q.elim (fun h => hm (Or.inr (Or.inr (Or.inr (Or.inr (Or.inr (Or.inr (Or.inr (Or.inr (Or.inr (Or.inr (Or.inr (Or.inl h))))))))))))) (fun q => q.elim (fun h => hm (Or.inr (Or.inr (Or.inr (Or.inr (Or.inr (Or.inr (Or.inr (Or.inr (Or.inr (Or.inr (Or.inr (Or.inr (Or.inl h)))))))))))))) (fun q => q.elim (fun h => hm (Or.inr (Or.inr (Or.inr (Or.inr (Or.inr (Or.inr (Or.inr (Or.inr (Or.inr (Or.inr (Or.inr (Or.inr (Or.inr (Or.inl h))))))))))))))) (fun q => q.elim (fun h => hm (Or.inr (Or.inr (Or.inr (Or.inr (Or.inr (Or.inr (Or.inr (Or.inr (Or.inr (Or.inr (Or.inr (Or.inr (Or.inr (Or.inr (Or.inl h)))))))))))))))) (fun q => q.elim (fun h => hm (Or.inr (Or.inr (Or.inr (Or.inr (Or.inr (Or.inr (Or.inr (Or.inr (Or.inr (Or.inr (Or.inr (Or.inr (Or.inr (Or.inr (Or.inr (Or.inl h))))))))))))))))) (fun q => q.elim (fun h => hm (Or.inr (Or.inr (Or.inr (Or.inr (Or.inr (Or.inr (Or.inr (Or.inr (Or.inr (Or.inr (Or.inr (Or.inr (Or.inr (Or.inr (Or.inr (Or.inr (Or.inl h)))))))))))))))))) (fun q => q.elim (fun h => hm (Or.inr (Or.inr (Or.inr (Or.inr (Or.inr (Or.inr (Or.inr (Or.inr (Or.inr (Or.inr (Or.inr (Or.inr (Or.inr (Or.inr (Or.inr (Or.inr (Or.inr (Or.inl h))))))))))))))))))) (fun q => q.elim (fun h => hm (Or.inr (Or.inr (Or.inr (Or.inr (Or.inr (Or.inr (Or.inr (Or.inr (Or.inr (Or.inr (Or.inr (Or.inr (Or.inr (Or.inr (Or.inr (Or.inr (Or.inr (Or.inr (Or.inl h)))))))))))))))))))) (fun q => q.elim (fun h => hm (Or.inr (Or.inr (Or.inr (Or.inr (Or.inr (Or.inr (Or.inr (Or.inr (Or.inr (Or.inr (Or.inr (Or.inr (Or.inr (Or.inr (Or.inr (Or.inr (Or.inr (Or.inr (Or.inr (Or.inl h))))))))))))))))))))) (fun q => q.elim (fun h => hm (Or.inr (Or.inr (Or.inr (Or.inr (Or.inr (Or.inr (Or.inr (Or.inr (Or.inr (Or.inr (Or.inr (Or.inr (Or.inr (Or.inr (Or.inr (Or.inr (Or.inr (Or.inr (Or.inr (Or.inr (Or.inl h)))))))))))))))))))))) (fun h => hm (Or.inr (Or.inr (Or.inr (Or.inr (Or.inr (Or.inr (Or.inr (Or.inr (Or.inr (Or.inr (Or.inr (Or.inr (Or.inr (Or.inr (Or.inr (Or.inr (Or.inr (Or.inr (Or.inr (Or.inr (Or.inr h))))))))))))))))))))))))))))))))))))))))))))))) hy_58 (Or.inl ⟨by first | (clear ha1 hx0 hx1 hx2 hx3 hx4 hx5 hx6 hx7 hx8 hx9 h_1 h_2 h_3 h_4 h_5 h_6 h_7 h_8 h_16 h_13 h_50 h_43 h_51 h_44 h_52 h_45 h_53 h_47 h_48 h_14 h_15 h_46 h_54; omega) | omega, by first | (clear ha1 hx0 hx1 hx2 hx3 hx4 hx5 hx6 hx7 hx8 hx9 h_1 h_2 h_3 h_4 h_5 h_6 h_7 h_8 h_16 h_13 h_50 h_43 h_51 h_44 h_52 h_45 h_53 h_47 h_48 h_14 h_15 h_46 h_54; omega) | omega, by first | (clear ha1 hx0 hx1 hx2 hx3 hx4 hx5 hx6 hx7 hx8 hx9 h_1 h_2 h_3 h_4 h_5 h_6 h_7 h_8 h_16 h_13 h_50 h_43 h_51 h_44 h_52 h_45 h_53 h_47 h_48 h_14 h_15 h_46 h_54; omega) | omega, by first | (clear ha1 hx0 hx1 hx2 hx3 hx4 hx5 hx6 hx7 hx8 hx9 h_1 h_2 h_3 h_4 h_5 h_6 h_7 h_8 h_16 h_13 h_50 h_43 h_51 h_44 h_52 h_45 h_53 h_47 h_48 h_14 h_15 h_46 h_54; omega) | omega⟩)
      · refine v_ic_ne_f (t := 12) rfl (by decide) (Decidable.not_not.mp h_54) ?_
        refine q_iconst rfl ?_
        refine q_goto (t := 13) rfl (by decide) ?_
        refine v_zret rfl rfl (by decide) ?_
        refine bk_inl ?_
        refine v_if_eq_f (t := 89) rfl (by decide) (by decide) ?_
        refine Wp_ls [(0, .ref 41), (1, vi a1)] (lsub_cons rfl (lsub_cons rfl lsub_nil)) ?_
        have kn_64 : Hid (c_9 41 2 = c2 41 2) := hF_11 41 2 (fun h => absurd h.2 (ni rfl))
        have kn_65 : Hid (c_40 41 2 = c2 41 2) := (hF_42 41 2 (fun q => q.elim (fun h => absurd h.2 (ni rfl)) (fun q => q.elim (fun h => absurd h.2 (ni rfl)) (fun q => q.elim (fun h => absurd h.2 (ni rfl)) (fun q => q.elim (fun h => absurd h.2 (ni rfl)) (fun q => q.elim (fun h => absurd h.2 (ni rfl)) (fun h => absurd h.1 (nn rfl)))))))).trans (hid kn_64)
        have h_66 : c_40 41 2 = c2 41 2 := (hid kn_65)
        have kn_67 : Hid (c_40 41 3 = c2 41 3) := (hF_42 41 3 (fun q => q.elim (fun h => absurd h.2 (ni rfl)) (fun q => q.elim (fun h => absurd h.2 (ni rfl)) (fun q => q.elim (fun h => absurd h.2 (ni rfl)) (fun q => q.elim (fun h => absurd h.2 (ni rfl)) (fun q => q.elim (fun h => absurd h.2 (ni rfl)) (fun h => absurd h.1 (nn rfl)))))))).trans (hid kn_33)
        have h_68 : c_40 41 3 = c2 41 3 := (hid kn_67)
        have kn_69 : Hid (c_9 41 35 = c2 41 35) := hF_11 41 35 (fun h => absurd h.2 (ni rfl))
        have kn_70 : Hid (c_40 41 35 = c2 41 35) := (hF_42 41 35 (fun q => q.elim (fun h => absurd h.2 (ni rfl)) (fun q => q.elim (fun h => absurd h.2 (ni rfl)) (fun q => q.elim (fun h => absurd h.2 (ni rfl)) (fun q => q.elim (fun h => absurd h.2 (ni rfl)) (fun q => q.elim (fun h => absurd h.2 (ni rfl)) (fun h => absurd h.1 (nn rfl)))))))).trans (hid kn_69)
        have h_71 : c_40 41 35 = c2 41 35 := (hid kn_70)
        have h_72 : c_40 41 34 = c_40 41 34 := rfl
        have h_73 : c_9 41 34 = c2 41 34 := (hid kn_35)
        exact ih c_40 hI_41 (fun a j hm => (hF_42 a j (fun q => q.elim (fun h => hm (Or.inr (Or.inr (Or.inr (Or.inr (Or.inl h)))))) (fun q => q.elim (fun h => hm (Or.inr (Or.inr (Or.inr (Or.inr (Or.inr (Or.inl h))))))) (fun q => q.elim (fun h => hm (Or.inr (Or.inr (Or.inr (Or.inr (Or.inr (Or.inr (Or.inl h)))))))) (fun q => q.elim (fun h => hm (Or.inr (Or.inr (Or.inr (Or.inr (Or.inr (Or.inr (Or.inr (Or.inl h))))))))) (fun q => q.elim (fun h => hm (Or.inr (Or.inr (Or.inr (Or.inr (Or.inr (Or.inr (Or.inr (Or.inr (Or.inr (Or.inl h))))))))))) (fun h => hm (Or.inr (Or.inr (Or.inr (Or.inr (Or.inr (Or.inr (Or.inr (Or.inr (Or.inr (Or.inr (Or.inl h.1)))))))))))))))))).trans ((hF_11 a j (fun h => hm (Or.inr (Or.inr (Or.inr (Or.inr (Or.inl h))))))).trans (hF a j (fun q => q.elim (fun h => hm (Or.inl h)) (fun q => q.elim (fun h => hm (Or.inr (Or.inl h))) (fun q => q.elim (fun h => hm (Or.inr (Or.inr (Or.inl h)))) (fun q => q.elim (fun h => hm (Or.inr (Or.inr (Or.inr (Or.inl h))))) (fun q => q.elim (fun h => hm (Or.inr (Or.inr (Or.inr (Or.inr (Or.inl h)))))) (fun q => q.elim (fun h => hm (Or.inr (Or.inr (Or.inr (Or.inr (Or.inr (Or.inl h))))))) (fun q => q.elim (fun h => hm (Or.inr (Or.inr (Or.inr (Or.inr (Or.inr (Or.inr (Or.inl h)))))))) (fun q => q.elim (fun h => hm (Or.inr (Or.inr (Or.inr (Or.inr (Or.inr (Or.inr (Or.inr (Or.inl h))))))))) (fun q => q.elim (fun h => hm (Or.inr (Or.inr (Or.inr (Or.inr (Or.inr (Or.inr (Or.inr (Or.inr (Or.inl h)))))))))) (fun q => q.elim (fun h => hm (Or.inr (Or.inr (Or.inr (Or.inr (Or.inr (Or.inr (Or.inr (Or.inr (Or.inr (Or.inl h))))))))))) (fun q => q.elim (fun h => hm (Or.inr (Or.inr (Or.inr (Or.inr (Or.inr (Or.inr (Or.inr (Or.inr (Or.inr (Or.inr (Or.inl h)))))))))))) (fun q => q.elim (fun h => hm (Or.inr (Or.inr (Or.inr (Or.inr (Or.inr (Or.inr (Or.inr (Or.inr (Or.inr (Or.inr (Or.inr (Or.inl h))))))))))))) (fun q => q.elim (fun h => hm (Or.inr (Or.inr (Or.inr (Or.inr (Or.inr (Or.inr (Or.inr (Or.inr (Or.inr (Or.inr (Or.inr (Or.inr (Or.inl h)))))))))))))) (fun q => q.elim (fun h => hm (Or.inr (Or.inr (Or.inr (Or.inr (Or.inr (Or.inr (Or.inr (Or.inr (Or.inr (Or.inr (Or.inr (Or.inr (Or.inr (Or.inl h))))))))))))))) (fun q => q.elim (fun h => hm (Or.inr (Or.inr (Or.inr (Or.inr (Or.inr (Or.inr (Or.inr (Or.inr (Or.inr (Or.inr (Or.inr (Or.inr (Or.inr (Or.inr (Or.inl h)))))))))))))))) (fun q => q.elim (fun h => hm (Or.inr (Or.inr (Or.inr (Or.inr (Or.inr (Or.inr (Or.inr (Or.inr (Or.inr (Or.inr (Or.inr (Or.inr (Or.inr (Or.inr (Or.inr (Or.inl h))))))))))))))))) (fun q => q.elim (fun h => hm (Or.inr (Or.inr (Or.inr (Or.inr (Or.inr (Or.inr (Or.inr (Or.inr (Or.inr (Or.inr (Or.inr (Or.inr (Or.inr (Or.inr (Or.inr (Or.inr (Or.inl h)))))))))))))))))) (fun q => q.elim (fun h => hm (Or.inr (Or.inr (Or.inr (Or.inr (Or.inr (Or.inr (Or.inr (Or.inr (Or.inr (Or.inr (Or.inr (Or.inr (Or.inr (Or.inr (Or.inr (Or.inr (Or.inr (Or.inl h))))))))))))))))))) (fun q => q.elim (fun h => hm (Or.inr (Or.inr (Or.inr (Or.inr (Or.inr (Or.inr (Or.inr (Or.inr (Or.inr (Or.inr (Or.inr (Or.inr (Or.inr (Or.inr (Or.inr (Or.inr (Or.inr (Or.inr (Or.inl h)))))))))))))))))))) (fun q => q.elim (fun h => hm (Or.inr (Or.inr (Or.inr (Or.inr (Or.inr (Or.inr (Or.inr (Or.inr (Or.inr (Or.inr (Or.inr (Or.inr (Or.inr (Or.inr (Or.inr (Or.inr (Or.inr (Or.inr (Or.inr (Or.inl h))))))))))))))))))))) (fun q => q.elim (fun h => hm (Or.inr (Or.inr (Or.inr (Or.inr (Or.inr (Or.inr (Or.inr (Or.inr (Or.inr (Or.inr (Or.inr (Or.inr (Or.inr (Or.inr (Or.inr (Or.inr (Or.inr (Or.inr (Or.inr (Or.inr (Or.inl h)))))))))))))))))))))) (fun h => hm (Or.inr (Or.inr (Or.inr (Or.inr (Or.inr (Or.inr (Or.inr (Or.inr (Or.inr (Or.inr (Or.inr (Or.inr (Or.inr (Or.inr (Or.inr (Or.inr (Or.inr (Or.inr (Or.inr (Or.inr (Or.inr h)))))))))))))))))))))))))))))))))))))))))))))) (by first | (clear ha1 hx0 hx1 hx2 hx3 hx4 hx5 hx6 hx7 hx8 hx9 hx11 h_1 h_2 h_3 h_4 h_5 h_6 h_7 h_8 h_16 h_13 h_50 h_43 h_51 h_44 h_52 h_45 h_47 h_48 h_14 h_15 h_46; omega) | omega) (by first | (clear ha1 hx0 hx3 hx4 hx5 hx6 hx7 hx8 hx9 hx11 h_1 h_3 h_4 h_5 h_6 h_7 h_8 h_16 h_13 h_51 h_44 h_52 h_53 h_47 h_48; omega) | omega) (by first | (clear ha1 hx0 hx1 hx3 hx4 hx5 hx6 hx7 hx8 hx9 hx11 h_1 h_2 h_3 h_4 h_5 h_6 h_7 h_8 h_16 h_13 h_50 h_43 h_51 h_44 h_52 h_45 h_53 h_47 h_48 h_14 h_15 h_46; omega) | omega) (by first | (clear ha1 hx0 hx1 hx2 hx4 hx5 hx6 hx7 hx8 hx9 hx11 h_1 h_2 h_3 h_4 h_5 h_6 h_7 h_8 h_16 h_50 h_43 h_51 h_44 h_52 h_53 h_47 h_48 h_14 h_15 h_46; omega) | omega) (by first | (clear ha1 hx0 hx1 hx2 hx3 hx4 hx5 hx6 hx7 hx8 hx9 hx11 h_1 h_2 h_3 h_4 h_5 h_6 h_7 h_8 h_16 h_13 h_50 h_43 h_51 h_44 h_52 h_45 h_53 h_48 h_14 h_15 h_46; omega) | omega) (by first | (clear ha1 hx0 hx1 hx2 hx3 hx4 hx6 hx7 hx8 hx9 hx11 h_1 h_2 h_3 h_4 h_5 h_6 h_7 h_8 h_16 h_13 h_50 h_43 h_52 h_45 h_53 h_47 h_48 h_14 h_15 h_46; omega) | omega) (by first | (clear ha1 hx0 hx1 hx2 hx3 hx4 hx5 hx7 hx8 hx9 hx11 h_1 h_2 h_3 h_4 h_5 h_6 h_7 h_8 h_16 h_13 h_50 h_43 h_51 h_44 h_52 h_45 h_53 h_47 h_48 h_14 h_15 h_46; omega) | omega) (by first | (clear ha1 hx0 hx1 hx2 hx3 hx4 hx5 hx6 hx7 hx8 hx9 hx11 h_1 h_2 h_3 h_4 h_5 h_6 h_7 h_8 h_16 h_13 h_43 h_51 h_44 h_52 h_45 h_53 h_47 h_48 h_14 h_15 h_46; omega) | omega) (by first | (clear ha1 hx0 hx1 hx2 hx3 hx4 hx5 hx6 hx7 hx8 hx9 hx11 h_1 h_2 h_3 h_4 h_5 h_6 h_7 h_8 h_16 h_13 h_50 h_43 h_51 h_44 h_45 h_53 h_47 h_48 h_14 h_15 h_46; omega) | omega) (by first | (clear ha1 hx0 hx1 hx2 hx3 hx4 hx5 hx6 hx7 hx8 hx9 hx11 h_1 h_2 h_3 h_4 h_5 h_6 h_7 h_8 h_16 h_13 h_50 h_43 h_51 h_44 h_45 h_53 h_47 h_48 h_14 h_15 h_46; omega) | omega) (ap_join (ap_fr (c2 := c_40) hx10 (by omega) rfl rfl (fun j h1 h2 => (hF_42 56 j (by omega)).trans (hF_11 56 j (fun h => absurd h.1 (nn rfl))))) (show c_9 41 34 = c2 41 34 from by omega) (hA_49 (by omega))) ⟨by first | (clear ha1 hx0 hx1 hx2 hx3 hx4 hx5 hx6 hx7 hx8 hx9 h_1 h_2 h_3 h_4 h_5 h_6 h_7 h_8 h_16 h_13 h_50 h_43 h_51 h_44 h_52 h_45 h_53 h_47 h_48 h_14 h_15 h_46; omega) | omega, by first | (clear ha1 hx0 hx1 hx2 hx3 hx4 hx5 hx6 hx7 hx8 hx9 h_1 h_2 h_3 h_4 h_5 h_6 h_7 h_8 h_16 h_13 h_50 h_43 h_51 h_44 h_52 h_45 h_53 h_47 h_48 h_14 h_15 h_46; omega) | omega, by first | (clear ha1 hx0 hx1 hx2 hx3 hx4 hx5 hx6 hx7 hx8 hx9 h_1 h_2 h_3 h_4 h_5 h_6 h_7 h_8 h_16 h_13 h_50 h_43 h_51 h_44 h_52 h_45 h_53 h_47 h_48 h_14 h_15 h_46; omega) | omega, by first | (clear ha1 hx0 hx1 hx2 hx3 hx4 hx5 hx6 hx7 hx8 hx9 h_1 h_2 h_3 h_4 h_5 h_6 h_7 h_8 h_16 h_13 h_50 h_43 h_51 h_44 h_52 h_45 h_53 h_47 h_48 h_14 h_15 h_46; omega) | omega⟩ (by omega)
set_option maxRecDepth 100000 in
set_option maxHeartbeats 4000000 in
theorem s_202 {sc : List Int32} {d P Q : Nat} {c : ME} {a1 : Int} {Z : AR → Prop} (hI : Iv 0 (-1) P Q c) (ha1 : (-2147483648) ≤ a1 ∧ a1 ≤ 2147483647) (K : ∀ (c2 : ME) (y : Int), Iv 0 (-1) P Q c2 → (∀ (a : Nat) (j : Int), ¬ ((a = 41 ∧ j = 0) ∨ a = 42 ∨ (a = 41 ∧ j = 2) ∨ (a = 41 ∧ j = 3) ∨ (a = 41 ∧ j = 4) ∨ (a = 41 ∧ j = 5) ∨ (a = 41 ∧ j = 6) ∨ (a = 41 ∧ j = 7) ∨ (a = 41 ∧ j = 8) ∨ (a = 41 ∧ j = 34) ∨ a = 56 ∨ a = 57 ∨ a = 60 ∨ (a = 41 ∧ j = 35) ∨ (a = 41 ∧ j = 36) ∨ (a = 41 ∧ j = 37) ∨ (a = 41 ∧ j = 38) ∨ (a = 41 ∧ j = 39) ∨ a = 58 ∨ a = 59 ∨ a = 54 ∨ a = 55) → c2 a j = c a j) → (-2147483648) ≤ y ∧ y ≤ 2147483647 → ((c2 41 2 = 0 ∧ a1 ≥ 0 ∧ a1 ≤ c 41 2 ∧ a1 ≤ 150) ∨ (c2 41 2 = c 41 2 ∧ a1 < 0) ∨ (c2 41 2 = c 41 2 ∧ a1 > c 41 2) ∨ (c2 41 2 = c 41 2 ∧ a1 > 150)) → Z (.inl (some (vi y)), Wd P Q P P c2, 0, 0)) : Wp sc (d + 67) 202 0 [(0, .ref 41), (1, vi a1)] [] (Wd P Q P P c) 0 0 Z := by
  have hP := iv_P hI
  have hQ := iv_Q hI
  refine q_aload_n rfl rfl ?_
  refine q_iconst rfl ?_
  refine v_pi (z := 0) rfl rfl rfl (by decide) rfl rfl rfl (by decide) ?_
  refine q_aload_n rfl rfl ?_
  refine q_iload_n rfl rfl ?_
  by_cases h_75 : a1 < 0
  · refine v_if_lt_t (t := 29) rfl (by decide) ⟨ha1.1, h_75, by decide⟩ ?_
    refine q_iconst rfl ?_
    refine q_iconst rfl ?_
    refine q_iconst rfl ?_
    refine v_cv rfl rfl rfl rfl (by decide) ⟨⟨rfl, rfl⟩, by decide, rfl⟩ (Nat.le_of_ble_eq_true rfl) (Nat.le_of_ble_eq_true rfl) ?_
    refine q_iload_n rfl rfl ?_
    refine v_if_ne_f (t := 26) rfl (by decide) (by decide) ?_
    refine q_aload_n rfl rfl ?_
    refine v_gi (z := 0) (v := 0) rfl rfl rfl (by decide) rfl rfl (up_e rfl) ?_
    refine v_if_ne_f (t := 26) rfl (by decide) (by decide) ?_
    refine q_aload_n rfl rfl ?_
    refine q_iload_n rfl rfl ?_
    refine v_pi (z := 0) rfl rfl rfl (by decide) rfl rfl rfl (by decide) ?_
    refine q_aload_n rfl rfl ?_
    refine v_gr (t := 42) rfl rfl rfl (by decide) rfl ?_
    refine q_iload_n rfl rfl ?_
    refine q_dup2 rfl ⟨rfl, rfl⟩ ?_
    have h_76 := ir_42 hI 1
    refine v_ia (v := c 42 1) rfl rfl (by decide) (by decide) (by decide) ((up_c (nn rfl)).trans (up_c (nn rfl))) ?_
    refine q_iconst rfl ?_
    refine v_iadd (v := c 42 1 + 1) rfl rfl ?_
    refine v_nrm (fun y_77 hy_77 => ?_)
    refine v_is rfl rfl (by decide) (by decide) (by decide) ?_
    refine q_aload_n rfl rfl ?_
    refine v_gi (z := 0) (v := 1) rfl rfl rfl (by decide) rfl rfl ((up_c (nn rfl)).trans (up_e rfl)) ?_
    refine v_if_ne_t (t := 37) rfl (by decide) (by decide) ?_
    refine q_iconst rfl ?_
    refine v_zret rfl rfl (by decide) ?_
    refine bk_inl ?_
    refine v_if_ne_f (t := 40) rfl (by decide) (by decide) ?_
    refine q_iconst rfl ?_
    refine q_iret rfl rfl ?_
    have hI_78 := iw_41_0 (v := 0) hI ⟨by decide, by decide⟩
    have hI_79 := iw_41_0 (v := 1) hI_78 ⟨by decide, by decide⟩
    have hI_80 := iw_42 (j := 1) (v := y_77) hI_79 ⟨hy_77.1, hy_77.2⟩
    have h_81 := ir_41_2 hI
    have h_82 : (up (up (up c 41 0 0) 41 0 1) 42 1 y_77) 41 2 = c 41 2 := ((up_c (nn rfl)).trans ((up_n (by decide)).trans (up_n (by decide))))
    exact K (up (up (up c 41 0 0) 41 0 1) 42 1 y_77) 0 hI_80 (fun a j hm => (up_b (Decidable.or_iff_not_imp_left.mpr (fun h1 h2 => hm (Or.inr (Or.inl (Decidable.not_not.mp h1)))))).trans ((up_b (Decidable.or_iff_not_imp_left.mpr (fun h1 h2 => hm (Or.inl ⟨Decidable.not_not.mp h1, h2⟩)))).trans (up_b (Decidable.or_iff_not_imp_left.mpr (fun h1 h2 => hm (Or.inl ⟨Decidable.not_not.mp h1, h2⟩)))))) ⟨by decide, by decide⟩ (Or.inr (Or.inl ⟨by omega, by omega⟩))
  · refine v_if_lt_f (t := 29) rfl (by decide) ⟨by decide, (Int.not_lt.mp h_75), ha1.2⟩ ?_
    refine q_iload_n rfl rfl ?_
    refine q_aload_n rfl rfl ?_
    have h_83 := ir_41_2 hI
    refine v_gi (z := 2) (v := c 41 2) rfl rfl rfl (by decide) rfl rfl (up_n (by decide)) ?_
    by_cases h_84 : a1 > c 41 2
    · refine v_ic_gt_t (t := 29) rfl (by decide) ⟨(Int.le_trans (by decide) h_83.1), h_84, ha1.2⟩ ?_
      refine q_iconst rfl ?_
      refine q_iconst rfl ?_
      refine q_iconst rfl ?_
      refine v_cv rfl rfl rfl rfl (by decide) ⟨⟨rfl, rfl⟩, by decide, rfl⟩ (Nat.le_of_ble_eq_true rfl) (Nat.le_of_ble_eq_true rfl) ?_
      refine q_iload_n rfl rfl ?_
      refine v_if_ne_f (t := 26) rfl (by decide) (by decide) ?_
      refine q_aload_n rfl rfl ?_
      refine v_gi (z := 0) (v := 0) rfl rfl rfl (by decide) rfl rfl (up_e rfl) ?_
      refine v_if_ne_f (t := 26) rfl (by decide) (by decide) ?_
      refine q_aload_n rfl rfl ?_
      refine q_iload_n rfl rfl ?_
      refine v_pi (z := 0) rfl rfl rfl (by decide) rfl rfl rfl (by decide) ?_
      refine q_aload_n rfl rfl ?_
      refine v_gr (t := 42) rfl rfl rfl (by decide) rfl ?_
      refine q_iload_n rfl rfl ?_
      refine q_dup2 rfl ⟨rfl, rfl⟩ ?_
      have h_85 := ir_42 hI 1
      refine v_ia (v := c 42 1) rfl rfl (by decide) (by decide) (by decide) ((up_c (nn rfl)).trans (up_c (nn rfl))) ?_
      refine q_iconst rfl ?_
      refine v_iadd (v := c 42 1 + 1) rfl rfl ?_
      refine v_nrm (fun y_86 hy_86 => ?_)
      refine v_is rfl rfl (by decide) (by decide) (by decide) ?_
      refine q_aload_n rfl rfl ?_
      refine v_gi (z := 0) (v := 1) rfl rfl rfl (by decide) rfl rfl ((up_c (nn rfl)).trans (up_e rfl)) ?_
      refine v_if_ne_t (t := 37) rfl (by decide) (by decide) ?_
      refine q_iconst rfl ?_
      refine v_zret rfl rfl (by decide) ?_
      refine bk_inl ?_
      refine v_if_ne_f (t := 40) rfl (by decide) (by decide) ?_
      refine q_iconst rfl ?_
      refine q_iret rfl rfl ?_
      have hI_87 := iw_41_0 (v := 0) hI ⟨by decide, by decide⟩
      have hI_88 := iw_41_0 (v := 1) hI_87 ⟨by decide, by decide⟩
      have hI_89 := iw_42 (j := 1) (v := y_86) hI_88 ⟨hy_86.1, hy_86.2⟩
      have h_90 : (up (up (up c 41 0 0) 41 0 1) 42 1 y_86) 41 2 = c 41 2 := ((up_c (nn rfl)).trans ((up_n (by decide)).trans (up_n (by decide))))
      exact K (up (up (up c 41 0 0) 41 0 1) 42 1 y_86) 0 hI_89 (fun a j hm => (up_b (Decidable.or_iff_not_imp_left.mpr (fun h1 h2 => hm (Or.inr (Or.inl (Decidable.not_not.mp h1)))))).trans ((up_b (Decidable.or_iff_not_imp_left.mpr (fun h1 h2 => hm (Or.inl ⟨Decidable.not_not.mp h1, h2⟩)))).trans (up_b (Decidable.or_iff_not_imp_left.mpr (fun h1 h2 => hm (Or.inl ⟨Decidable.not_not.mp h1, h2⟩)))))) ⟨by decide, by decide⟩ (Or.inr (Or.inr (Or.inl ⟨by omega, by omega⟩)))
    · refine v_ic_gt_f (t := 29) rfl (by decide) ⟨ha1.1, (Int.not_lt.mp h_84), (Int.le_trans h_83.2 (by decide))⟩ ?_
      refine q_iload_n rfl rfl ?_
      refine v_sip rfl (by decide) ?_
      by_cases h_91 : a1 > 150
      · refine v_ic_gt_t (t := 29) rfl (by decide) ⟨by decide, h_91, ha1.2⟩ ?_
        refine q_iconst rfl ?_
        refine q_iconst rfl ?_
        refine q_iconst rfl ?_
        refine v_cv rfl rfl rfl rfl (by decide) ⟨⟨rfl, rfl⟩, by decide, rfl⟩ (Nat.le_of_ble_eq_true rfl) (Nat.le_of_ble_eq_true rfl) ?_
        refine q_iload_n rfl rfl ?_
        refine v_if_ne_f (t := 26) rfl (by decide) (by decide) ?_
        refine q_aload_n rfl rfl ?_
        refine v_gi (z := 0) (v := 0) rfl rfl rfl (by decide) rfl rfl (up_e rfl) ?_
        refine v_if_ne_f (t := 26) rfl (by decide) (by decide) ?_
        refine q_aload_n rfl rfl ?_
        refine q_iload_n rfl rfl ?_
        refine v_pi (z := 0) rfl rfl rfl (by decide) rfl rfl rfl (by decide) ?_
        refine q_aload_n rfl rfl ?_
        refine v_gr (t := 42) rfl rfl rfl (by decide) rfl ?_
        refine q_iload_n rfl rfl ?_
        refine q_dup2 rfl ⟨rfl, rfl⟩ ?_
        have h_92 := ir_42 hI 1
        refine v_ia (v := c 42 1) rfl rfl (by decide) (by decide) (by decide) ((up_c (nn rfl)).trans (up_c (nn rfl))) ?_
        refine q_iconst rfl ?_
        refine v_iadd (v := c 42 1 + 1) rfl rfl ?_
        refine v_nrm (fun y_93 hy_93 => ?_)
        refine v_is rfl rfl (by decide) (by decide) (by decide) ?_
        refine q_aload_n rfl rfl ?_
        refine v_gi (z := 0) (v := 1) rfl rfl rfl (by decide) rfl rfl ((up_c (nn rfl)).trans (up_e rfl)) ?_
        refine v_if_ne_t (t := 37) rfl (by decide) (by decide) ?_
        refine q_iconst rfl ?_
        refine v_zret rfl rfl (by decide) ?_
        refine bk_inl ?_
        refine v_if_ne_f (t := 40) rfl (by decide) (by decide) ?_
        refine q_iconst rfl ?_
        refine q_iret rfl rfl ?_
        have hI_94 := iw_41_0 (v := 0) hI ⟨by decide, by decide⟩
        have hI_95 := iw_41_0 (v := 1) hI_94 ⟨by decide, by decide⟩
        have hI_96 := iw_42 (j := 1) (v := y_93) hI_95 ⟨hy_93.1, hy_93.2⟩
        have h_97 : (up (up (up c 41 0 0) 41 0 1) 42 1 y_93) 41 2 = c 41 2 := ((up_c (nn rfl)).trans ((up_n (by decide)).trans (up_n (by decide))))
        exact K (up (up (up c 41 0 0) 41 0 1) 42 1 y_93) 0 hI_96 (fun a j hm => (up_b (Decidable.or_iff_not_imp_left.mpr (fun h1 h2 => hm (Or.inr (Or.inl (Decidable.not_not.mp h1)))))).trans ((up_b (Decidable.or_iff_not_imp_left.mpr (fun h1 h2 => hm (Or.inl ⟨Decidable.not_not.mp h1, h2⟩)))).trans (up_b (Decidable.or_iff_not_imp_left.mpr (fun h1 h2 => hm (Or.inl ⟨Decidable.not_not.mp h1, h2⟩)))))) ⟨by decide, by decide⟩ (Or.inr (Or.inr (Or.inr ⟨by omega, by omega⟩)))
      · refine v_ic_gt_f (t := 29) rfl (by decide) ⟨ha1.1, (Int.not_lt.mp h_91), by decide⟩ ?_
        refine q_iconst rfl ?_
        refine q_goto (t := 30) rfl (by decide) ?_
        refine q_iconst rfl ?_
        refine q_iconst rfl ?_
        refine v_cv rfl rfl rfl rfl (by decide) ⟨⟨rfl, rfl⟩, by decide, rfl⟩ (Nat.le_of_ble_eq_true rfl) (Nat.le_of_ble_eq_true rfl) ?_
        refine q_iload_n rfl rfl ?_
        refine v_if_ne_t (t := 26) rfl (by decide) (by decide) ?_
        refine q_aload_n rfl rfl ?_
        refine v_gi (z := 0) (v := 0) rfl rfl rfl (by decide) rfl rfl (up_e rfl) ?_
        refine v_if_ne_f (t := 37) rfl (by decide) (by decide) ?_
        refine q_iconst rfl ?_
        refine q_goto (t := 38) rfl (by decide) ?_
        refine v_zret rfl rfl (by decide) ?_
        refine bk_inl ?_
        refine v_if_ne_t (t := 40) rfl (by decide) (by decide) ?_
        refine q_aload_n rfl rfl ?_
        refine q_iload_n rfl rfl ?_
        have hI_98 := iw_41_0 (v := 0) hI ⟨by decide, by decide⟩
        refine v_cv rfl rfl rfl rfl (by decide) ⟨⟨rfl, rfl⟩, by decide, rfl⟩ (Nat.le_of_ble_eq_true rfl) (Nat.le_of_ble_eq_true rfl) (s_163 (a1 := a1) hI_98 (show 0 ≤ a1 ∧ a1 ≤ 600 from ⟨by omega, by omega⟩) (fun c_99 hI_100 hF_101 h_102 => ?_))
        refine bk_inl ?_
        have h_103 := ir_41_2 hI_100
        have h_104 := ir_41_3 hI_100
        have h_105 := ir_41_4 hI_100
        have h_106 := ir_41_5 hI_100
        have h_107 := ir_41_7 hI_100
        refine q_aload_n rfl rfl ?_
        have h_108 := ir_41_35 hI
        have kn_109 : Hid (c_99 41 35 = c 41 35) := (hF_101 41 35 (fun q => q.elim (fun h => absurd h.2 (ni rfl)) (fun q => q.elim (fun h => absurd h.2 (ni rfl)) (fun q => q.elim (fun h => absurd h.2 (ni rfl)) (fun q => q.elim (fun h => absurd h.2 (ni rfl)) (fun q => q.elim (fun h => absurd h.2 (ni rfl)) (fun h => absurd h.2 (ni rfl)))))))).trans (up_n (by decide))
        refine v_gi (z := 35) (v := c 41 35) rfl rfl rfl (by decide) rfl rfl (hid kn_109) ?_
        refine v_bip rfl (by decide) ?_
        by_cases h_110 : c 41 35 ≠ 16
        · refine v_ic_ne_t (t := 63) rfl (by decide) ⟨h_110, ⟨by omega, by omega⟩, by decide, by decide⟩ ?_
          refine q_aload_n rfl rfl ?_
          refine q_iconst rfl ?_
          refine v_pi (z := 34) rfl rfl rfl (by decide) rfl rfl rfl (by decide) ?_
          refine q_aload_n rfl rfl ?_
          refine v_cv rfl rfl rfl rfl (by decide) ⟨⟨rfl, rfl⟩, by decide, rfl⟩ (Nat.le_of_ble_eq_true rfl) (Nat.le_of_ble_eq_true rfl) ?_
          refine q_aload_n rfl rfl ?_
          refine v_gi (z := 5) (v := c_99 41 5) rfl rfl rfl (by decide) rfl rfl (up_n (by decide)) ?_
          refine q_iconst rfl ?_
          refine v_ic_ne_f (t := 12) rfl (by decide) (by first | (clear ha1 h_83 h_103 h_104 h_105 h_107 h_108 h_110; omega) | omega) ?_
          refine q_iconst rfl ?_
          refine q_goto (t := 13) rfl (by decide) ?_
          refine v_zret rfl rfl (by decide) ?_
          refine bk_inl ?_
          refine v_if_eq_f (t := 89) rfl (by decide) (by decide) ?_
          have hI_111 := iw_41_34 (v := 0) hI_100 ⟨by decide, by decide⟩
          refine Wp_ls [(0, .ref 41), (1, vi a1)] (lsub_cons rfl (lsub_cons rfl lsub_nil)) ?_
          have h_112 : (up c_99 41 34 0) 41 34 = 0 := (up_e rfl)
          have h_113 : (up c_99 41 34 0) 41 2 = c_99 41 2 := (up_n (by decide))
          have h_114 : (up c_99 41 34 0) 41 3 = c_99 41 3 := (up_n (by decide))
          have h_115 : (up c_99 41 34 0) 41 34 = 0 := (up_e rfl)
          have h_116 : (up c_99 41 34 0) 41 35 = c 41 35 := ((up_n (by decide)).trans (hid kn_109))
          have h_117 : (up c_99 41 34 0) 41 4 = c_99 41 4 := (up_n (by decide))
          have h_118 : (up c_99 41 34 0) 41 5 = c_99 41 5 := (up_n (by decide))
          have h_119 : (up c_99 41 34 0) 41 7 = c_99 41 7 := (up_n (by decide))
          have h_120 : (up c_99 41 34 0) 41 34 = 0 := (up_e rfl)
          exact (s_202_l (sc := sc) (d := d) hI ha1 K 1214) (up c_99 41 34 0) hI_111 (fun a j hm => (up_b (Decidable.or_iff_not_imp_left.mpr (fun h1 h2 => hm (Or.inr (Or.inr (Or.inr (Or.inr (Or.inr (Or.inr (Or.inr (Or.inr (Or.inr (Or.inl ⟨Decidable.not_not.mp h1, h2⟩))))))))))))).trans ((hF_101 a j (fun q => q.elim (fun h => hm (Or.inr (Or.inr (Or.inl h)))) (fun q => q.elim (fun h => hm (Or.inr (Or.inr (Or.inr (Or.inl h))))) (fun q => q.elim (fun h => hm (Or.inr (Or.inr (Or.inr (Or.inr (Or.inl h)))))) (fun q => q.elim (fun h => hm (Or.inr (Or.inr (Or.inr (Or.inr (Or.inr (Or.inl h))))))) (fun q => q.elim (fun h => hm (Or.inr (Or.inr (Or.inr (Or.inr (Or.inr (Or.inr (Or.inr (Or.inl h))))))))) (fun h => hm (Or.inr (Or.inr (Or.inr (Or.inr (Or.inr (Or.inr (Or.inr (Or.inr (Or.inl h)))))))))))))))).trans (up_b (Decidable.or_iff_not_imp_left.mpr (fun h1 h2 => hm (Or.inl ⟨Decidable.not_not.mp h1, h2⟩)))))) (by first | (clear ha1 h_83 h_103 h_104 h_105 h_107 h_108 h_110; omega) | omega) (by first | (clear ha1 h_83 h_103 h_105 h_106 h_107 h_108 h_110; omega) | omega) (by first | (clear ha1 h_83 h_103 h_104 h_105 h_106 h_107 h_108 h_110; omega) | omega) (by first | (clear ha1 h_83 h_103 h_104 h_106 h_107 h_102 h_108 h_110; omega) | omega) (by first | (clear ha1 h_83 h_103 h_104 h_105 h_106 h_107 h_102 h_108 h_110; omega) | omega) (by first | (clear ha1 h_83 h_103 h_104 h_105 h_106 h_108 h_110; omega) | omega) (by omega) (by first | (clear ha1 h_83 h_103 h_104 h_106 h_107 h_102 h_108 h_110; omega) | omega) (by first | (clear ha1 h_83 h_103 h_104 h_105 h_106 h_107 h_102 h_108 h_110; omega) | omega) (by first | (clear ha1 h_83 h_103 h_104 h_105 h_106 h_107 h_102 h_108 h_110; omega) | omega) (ap_nil (by omega)) ⟨by first | (clear ha1 h_83 h_104 h_105 h_106 h_107 h_108 h_110; omega) | omega, by first | (clear ha1 h_83 h_103 h_104 h_105 h_106 h_107 h_102 h_108 h_110; omega) | omega, by first | (clear ha1 h_83 h_103 h_104 h_105 h_106 h_107 h_102 h_108 h_110; omega) | omega, by first | (clear ha1 h_83 h_103 h_104 h_105 h_106 h_107 h_102 h_108 h_110; omega) | omega⟩ (by omega)
        · refine v_ic_ne_f (t := 63) rfl (by decide) (Decidable.not_not.mp h_110) ?_
          refine q_aload_n rfl rfl ?_
          refine q_iconst rfl ?_
          refine v_cv rfl rfl rfl rfl (by decide) ⟨⟨rfl, rfl⟩, by decide, rfl⟩ (Nat.le_of_ble_eq_true rfl) (Nat.le_of_ble_eq_true rfl) (s_164 (a1 := 0) hI_100 (show (-2147483648) ≤ 0 ∧ 0 ≤ 2147483647 from ⟨by decide, by decide⟩) (fun c_121 y_124 hI_122 hF_123 hy_124 => ?_))
          refine bk_inl ?_
          refine q_pop rfl rfl ?_
          refine v_bip rfl (by decide) ?_
          refine q_iret rfl rfl ?_
          have kn_125 : Hid (c_121 41 2 = c_99 41 2) := hF_123 41 2 (fun h => absurd h.2 (ni rfl))
          have h_126 : c_121 41 2 = c_99 41 2 := (hid kn_125)
          exact K c_121 (-20) hI_122 (fun a j hm => (hF_123 a j (fun h => hm (Or.inr (Or.inr (Or.inr (Or.inr (Or.inr (Or.inr (Or.inr (Or.inr (Or.inl h))))))))))).trans ((hF_101 a j (fun q => q.elim (fun h => hm (Or.inr (Or.inr (Or.inl h)))) (fun q => q.elim (fun h => hm (Or.inr (Or.inr (Or.inr (Or.inl h))))) (fun q => q.elim (fun h => hm (Or.inr (Or.inr (Or.inr (Or.inr (Or.inl h)))))) (fun q => q.elim (fun h => hm (Or.inr (Or.inr (Or.inr (Or.inr (Or.inr (Or.inl h))))))) (fun q => q.elim (fun h => hm (Or.inr (Or.inr (Or.inr (Or.inr (Or.inr (Or.inr (Or.inr (Or.inl h))))))))) (fun h => hm (Or.inr (Or.inr (Or.inr (Or.inr (Or.inr (Or.inr (Or.inr (Or.inr (Or.inl h)))))))))))))))).trans (up_b (Decidable.or_iff_not_imp_left.mpr (fun h1 h2 => hm (Or.inl ⟨Decidable.not_not.mp h1, h2⟩)))))) ⟨by decide, by decide⟩ (Or.inl ⟨by omega, by omega, by omega, by omega⟩)

set_option maxRecDepth 100000 in
set_option maxHeartbeats 4000000 in
theorem s_203_l {sc : List Int32} {e : Int} {d u P Q : Nat} {c : ME} {Z : AR → Prop} (hI : Iv u e P Q c)  (K : ∀ (y : Int), (-2147483648) ≤ y ∧ y ≤ 2147483647 → Z (.inl (some (vi y)), Wd P Q P P c, 0, 0)) : ∀ n : Nat, (∀ (v1 : Int) (v2 : Int), (-2147483648) ≤ v1 ∧ v1 ≤ 2147483647 → 0 ≤ v2 ∧ v2 ≤ 6 → 13 - 2 * v2 < (n : Int) → Wp sc (d + 8) 203 4 [(0, .ref 41), (1, vi v1), (2, vi v2)] [] (Wd P Q P P c) 0 0 Z)
  | 0 => by intro v1 v2 hv1 hv2 hm9; have hP := iv_P hI; have hQ := iv_Q hI; exfalso; omega
  | n + 1 => by
    have hP := iv_P hI
    have hQ := iv_Q hI
    have ih := s_203_l (sc := sc) (d := d) hI K n
    intro v1 v2 hv1 hv2 hm9
    refine q_iload_n rfl rfl ?_
    refine q_aload_n rfl rfl ?_
    have h_1 := ir_41_20 hI
    refine v_gi (z := 20) (v := c 41 20) rfl rfl rfl (by decide) rfl rfl rfl ?_
    by_cases h_2 : v2 ≥ c 41 20
    · refine v_ic_ge_t (t := 26) rfl (by decide) ⟨(Int.le_trans (by decide) h_1.1), h_2, (Int.le_trans hv2.2 (by decide))⟩ ?_
      refine q_iload_n rfl rfl ?_
      refine q_iret rfl rfl ?_
      exact K v1 hv1
    · refine v_ic_ge_f (t := 26) rfl (by decide) ⟨(Int.le_trans (by decide) hv2.1), (Int.not_le.mp h_2), (Int.le_trans h_1.2 (by decide))⟩ ?_
      refine q_iload_n rfl rfl ?_
      refine q_aload_n rfl rfl ?_
      refine q_iload_n rfl rfl ?_
      have h_3 := ir_59_g hI (j := 4 * v2) (by omega)
      have h_4 := ir_59_g hI (j := 4 * v2 + 1) (by omega)
      have h_5 := ir_59_g hI (j := 4 * v2 + 2) (by omega)
      have h_6 := ir_59_g hI (j := 4 * v2 + 3) (by omega)
      refine v_cv rfl rfl rfl rfl (by decide) ⟨⟨rfl, rfl⟩, by decide, rfl⟩ (Nat.le_of_ble_eq_true rfl) (Nat.le_of_ble_eq_true rfl) (s_187 (v1 := c 59 (4 * v2)) (v2 := c 59 (4 * v2 + 1)) (v3 := c 59 (4 * v2 + 2)) (v4 := c 59 (4 * v2 + 3)) (r := c 59 (4 * v2 + 1) + c 59 (4 * v2 + 2) + c 59 (4 * v2 + 3) + c 59 (4 * v2)) (a1 := v2) hI (show 0 ≤ v2 ∧ v2 ≤ 5 from ⟨hv2.1, by omega⟩) (rfl) (rfl) (rfl) (rfl) (by omega) ?_)
      refine bk_inl ?_
      refine v_iadd (v := c 59 (4 * v2 + 1) + c 59 (4 * v2 + 2) + c 59 (4 * v2 + 3) + c 59 (4 * v2) + v1) rfl (by omega) ?_
      refine v_nrm (fun y_7 hy_7 => ?_)
      refine q_istore_n rfl (by decide) ?_
      refine v_iinc (v := v2 + 1) rfl rfl (by decide) rfl ?_
      refine q_goto (t := 4) rfl (by decide) ?_
      refine Wp_ls [(0, .ref 41), (1, vi y_7), (2, vi (v2 + 1))] (lsub_cons rfl (lsub_cons rfl (lsub_cons rfl lsub_nil))) ?_
      exact ih y_7 (v2 + 1) hy_7 ⟨by first | exact rgp_l hv2.1 (by decide) | omega, by omega⟩ (by omega)
set_option maxRecDepth 100000 in
set_option maxHeartbeats 4000000 in
theorem s_203 {sc : List Int32} {e : Int} {d u P Q : Nat} {c : ME} {Z : AR → Prop} (hI : Iv u e P Q c)  (K : ∀ (y : Int), (-2147483648) ≤ y ∧ y ≤ 2147483647 → Z (.inl (some (vi y)), Wd P Q P P c, 0, 0)) : Wp sc (d + 8) 203 0 [(0, .ref 41)] [] (Wd P Q P P c) 0 0 Z := by
  have hP := iv_P hI
  have hQ := iv_Q hI
  refine q_iconst rfl ?_
  refine q_istore_n rfl (by decide) ?_
  refine q_iconst rfl ?_
  refine q_istore_n rfl (by decide) ?_
  refine Wp_ls [(0, .ref 41), (1, vi 0), (2, vi 0)] (lsub_cons rfl (lsub_cons rfl (lsub_cons rfl lsub_nil))) ?_
  exact (s_203_l (sc := sc) (d := d) hI K 16) 0 0 ⟨by decide, by decide⟩ ⟨by decide, by decide⟩ (by omega)

set_option maxRecDepth 100000 in
set_option maxHeartbeats 4000000 in
theorem s_204 {sc : List Int32} {e : Int} {d u P Q : Nat} {c : ME} {a1 : Int} {Z : AR → Prop} (hI : Iv u e P Q c) (ha1 : 0 ≤ a1 ∧ a1 ≤ 5) (K : ∀ (y : Int), (-2147483648) ≤ y ∧ y ≤ 2147483647 → Z (.inl (some (vi y)), Wd P Q P P c, 0, 0)) : Wp sc (d + 8) 204 0 [(0, .ref 41), (1, vi a1)] [] (Wd P Q P P c) 0 0 Z := by
  have hP := iv_P hI
  have hQ := iv_Q hI
  refine q_aload_n rfl rfl ?_
  refine q_iload_n rfl rfl ?_
  have h_1 := ir_59_g hI (j := 4 * a1) (by omega)
  have h_2 := ir_59_g hI (j := 4 * a1 + 1) (by omega)
  have h_3 := ir_59_g hI (j := 4 * a1 + 2) (by omega)
  have h_4 := ir_59_g hI (j := 4 * a1 + 3) (by omega)
  refine v_cv rfl rfl rfl rfl (by decide) ⟨⟨rfl, rfl⟩, by decide, rfl⟩ (Nat.le_of_ble_eq_true rfl) (Nat.le_of_ble_eq_true rfl) (s_187 (v1 := c 59 (4 * a1)) (v2 := c 59 (4 * a1 + 1)) (v3 := c 59 (4 * a1 + 2)) (v4 := c 59 (4 * a1 + 3)) (r := c 59 (4 * a1 + 1) + c 59 (4 * a1 + 2) + c 59 (4 * a1 + 3) + c 59 (4 * a1)) (a1 := a1) hI (show 0 ≤ a1 ∧ a1 ≤ 5 from ha1) (rfl) (rfl) (rfl) (rfl) (by omega) ?_)
  refine bk_inl ?_
  by_cases h_5 : c 59 (4 * a1 + 1) + c 59 (4 * a1 + 2) + c 59 (4 * a1 + 3) + c 59 (4 * a1) ≠ 0
  · refine v_if_ne_t (t := 12) rfl (by decide) ⟨h_5, ⟨by omega, by omega⟩, by decide, by decide⟩ ?_
    refine v_sip rfl (by decide) ?_
    refine q_aload_n rfl rfl ?_
    refine v_gr (t := 59) rfl rfl rfl (by decide) rfl ?_
    refine q_iconst rfl ?_
    refine q_iload_n rfl rfl ?_
    refine v_imul (v := 4 * a1) rfl rfl ?_
    refine v_ia (v := c 59 (4 * a1)) rfl rfl (by decide) (by decide) (by omega) rfl ?_
    refine v_imul (v := 1000 * c 59 (4 * a1)) rfl (by first | (clear ha1 h_1 h_2 h_3 h_4 h_5; omega) | omega) ?_
    refine q_aload_n rfl rfl ?_
    refine q_iload_n rfl rfl ?_
    refine v_cv rfl rfl rfl rfl (by decide) ⟨⟨rfl, rfl⟩, by decide, rfl⟩ (Nat.le_of_ble_eq_true rfl) (Nat.le_of_ble_eq_true rfl) (s_187 (v1 := c 59 (4 * a1)) (v2 := c 59 (4 * a1 + 1)) (v3 := c 59 (4 * a1 + 2)) (v4 := c 59 (4 * a1 + 3)) (r := c 59 (4 * a1 + 1) + c 59 (4 * a1 + 2) + c 59 (4 * a1 + 3) + c 59 (4 * a1)) (a1 := a1) hI (show 0 ≤ a1 ∧ a1 ≤ 5 from ha1) (rfl) (rfl) (rfl) (rfl) (by omega) ?_)
    refine bk_inl ?_
    refine v_idivx rfl ⟨by omega, by omega, by omega⟩ (fun y_6 hy_6 => ?_)
    refine q_iret rfl rfl ?_
    exact K y_6 hy_6
  · refine v_if_ne_f (t := 12) rfl (by decide) (Decidable.not_not.mp h_5) ?_
    refine q_iconst rfl ?_
    refine q_goto (t := 30) rfl (by decide) ?_
    refine q_iret rfl rfl ?_
    exact K 0 ⟨by decide, by decide⟩

set_option maxRecDepth 100000 in
set_option maxHeartbeats 4000000 in
theorem s_206_l {sc : List Int32} {e : Int} {d u P Q : Nat} {c : ME} {a1 : Int} {Z : AR → Prop} (hI : Iv u e P Q c) (ha1 : (-2147483648) ≤ a1 ∧ a1 ≤ 2147483647) (K : ∀ (c2 : ME) (y : Int), Iv u e P Q c2 → (∀ (a : Nat) (j : Int), ¬ ((a = 41 ∧ j = 0) ∨ a = 42 ∨ (a = 41 ∧ j = 2) ∨ (a = 41 ∧ j = 3) ∨ (a = 41 ∧ j = 4) ∨ (a = 41 ∧ j = 5) ∨ (a = 41 ∧ j = 6) ∨ (a = 41 ∧ j = 7) ∨ (a = 41 ∧ j = 8) ∨ (a = 41 ∧ j = 47) ∨ a = 61 ∨ a = 62) → c2 a j = c a j) → (-2147483648) ≤ y ∧ y ≤ 2147483647 → ((c2 41 2 = 0 ∧ a1 ≥ 0 ∧ a1 ≤ c 41 2 ∧ a1 ≤ 60) ∨ (c2 41 2 = c 41 2 ∧ a1 < 0) ∨ (c2 41 2 = c 41 2 ∧ a1 > c 41 2) ∨ (c2 41 2 = c 41 2 ∧ a1 > 60)) → Z (.inl (some (vi y)), Wd P Q P P c2, 0, 0)) : ∀ n : Nat, (∀ (c2 : ME) (v2 : Int), Iv u e P Q c2 → (∀ (a : Nat) (j : Int), ¬ ((a = 41 ∧ j = 0) ∨ a = 42 ∨ (a = 41 ∧ j = 2) ∨ (a = 41 ∧ j = 3) ∨ (a = 41 ∧ j = 4) ∨ (a = 41 ∧ j = 5) ∨ (a = 41 ∧ j = 6) ∨ (a = 41 ∧ j = 7) ∨ (a = 41 ∧ j = 8) ∨ (a = 41 ∧ j = 47) ∨ a = 61 ∨ a = 62) → c2 a j = c a j) → 0 ≤ v2 ∧ v2 ≤ 8 → ((c2 41 2 = 0 ∧ a1 ≥ 0 ∧ a1 ≤ c 41 2 ∧ a1 ≤ 60)) → 1211 - 2 * c2 41 4 < (n : Int) → Wp sc (d + 9) 206 22 [(0, .ref 41), (1, vi a1), (2, vi v2)] [] (Wd P Q P P c2) 0 0 Z)
  | 0 => by intro c2 v2 hI2 hF hv2 hx0 hm9; have hP := iv_P hI; have hQ := iv_Q hI; have h_133 := ir_41_4 hI2; exfalso; omega
  | n + 1 => by
    have hP := iv_P hI
    have hQ := iv_Q hI
    have ih := s_206_l (sc := sc) (d := d) hI ha1 K n
    intro c2 v2 hI2 hF hv2 hx0 hm9
    have h_1 := ir_41_2 hI
    have h_2 := ir_41_2 hI2
    have h_3 := ir_41_4 hI2
    refine q_aload_n rfl rfl ?_
    refine v_cv rfl rfl rfl rfl (by decide) ⟨⟨rfl, rfl⟩, by decide, rfl⟩ (Nat.le_of_ble_eq_true rfl) (Nat.le_of_ble_eq_true rfl) ?_
    refine q_aload_n rfl rfl ?_
    have h_4 := ir_41_5 hI2
    refine v_gi (z := 5) (v := c2 41 5) rfl rfl rfl (by decide) rfl rfl rfl ?_
    refine q_iconst rfl ?_
    by_cases h_5 : c2 41 5 ≠ (-1)
    · refine v_ic_ne_t (t := 12) rfl (by decide) ⟨h_5, ⟨(Int.le_trans (by decide) h_4.1), (Int.le_trans h_4.2 (by decide))⟩, by decide, by decide⟩ ?_
      refine q_iconst rfl ?_
      refine v_zret rfl rfl (by decide) ?_
      refine bk_inl ?_
      refine v_if_eq_t (t := 103) rfl (by decide) (by decide) ?_
      refine q_aload_n rfl rfl ?_
      refine q_iload_n rfl rfl ?_
      refine v_cv rfl rfl rfl rfl (by decide) ⟨⟨rfl, rfl⟩, by decide, rfl⟩ (Nat.le_of_ble_eq_true rfl) (Nat.le_of_ble_eq_true rfl) (s_164 (a1 := v2) hI2 (show (-2147483648) ≤ v2 ∧ v2 ≤ 2147483647 from ⟨(Int.le_trans (by decide) hv2.1), (Int.le_trans hv2.2 (by decide))⟩) (fun c_6 y_9 hI_7 hF_8 hy_9 => ?_))
      refine bk_inl ?_
      refine q_istore_n rfl (by decide) ?_
      refine q_aload_n rfl rfl ?_
      have kn_10 : Hid (c_6 41 5 = c2 41 5) := hF_8 41 5 (fun h => absurd h.2 (ni rfl))
      refine v_gi (z := 5) (v := c2 41 5) rfl rfl rfl (by decide) rfl rfl (hid kn_10) ?_
      refine q_iconst rfl ?_
      refine v_ic_eq_f (t := 119) rfl (by decide) ⟨by omega, ⟨(Int.le_trans (by decide) h_4.1), (Int.le_trans h_4.2 (by decide))⟩, by decide, by decide⟩ ?_
      refine q_iload_n rfl rfl ?_
      refine q_iret rfl rfl ?_
      have kn_11 : Hid (c_6 41 2 = c2 41 2) := hF_8 41 2 (fun h => absurd h.2 (ni rfl))
      have h_12 : c_6 41 2 = c2 41 2 := (hid kn_11)
      exact K c_6 y_9 hI_7 (fun a j hm => (hF_8 a j (fun h => hm (Or.inr (Or.inr (Or.inr (Or.inr (Or.inr (Or.inr (Or.inr (Or.inr (Or.inl h))))))))))).trans (hF a j (fun q => q.elim (fun h => hm (Or.inl h)) (fun q => q.elim (fun h => hm (Or.inr (Or.inl h))) (fun q => q.elim (fun h => hm (Or.inr (Or.inr (Or.inl h)))) (fun q => q.elim (fun h => hm (Or.inr (Or.inr (Or.inr (Or.inl h))))) (fun q => q.elim (fun h => hm (Or.inr (Or.inr (Or.inr (Or.inr (Or.inl h)))))) (fun q => q.elim (fun h => hm (Or.inr (Or.inr (Or.inr (Or.inr (Or.inr (Or.inl h))))))) (fun q => q.elim (fun h => hm (Or.inr (Or.inr (Or.inr (Or.inr (Or.inr (Or.inr (Or.inl h)))))))) (fun q => q.elim (fun h => hm (Or.inr (Or.inr (Or.inr (Or.inr (Or.inr (Or.inr (Or.inr (Or.inl h))))))))) (fun q => q.elim (fun h => hm (Or.inr (Or.inr (Or.inr (Or.inr (Or.inr (Or.inr (Or.inr (Or.inr (Or.inl h)))))))))) (fun q => q.elim (fun h => hm (Or.inr (Or.inr (Or.inr (Or.inr (Or.inr (Or.inr (Or.inr (Or.inr (Or.inr (Or.inl h))))))))))) (fun q => q.elim (fun h => hm (Or.inr (Or.inr (Or.inr (Or.inr (Or.inr (Or.inr (Or.inr (Or.inr (Or.inr (Or.inr (Or.inl h)))))))))))) (fun h => hm (Or.inr (Or.inr (Or.inr (Or.inr (Or.inr (Or.inr (Or.inr (Or.inr (Or.inr (Or.inr (Or.inr h))))))))))))))))))))))))) hy_9 (Or.inl ⟨by first | (clear ha1 hv2 h_1 h_2 h_3 h_4 h_5; omega) | omega, by first | (clear ha1 hv2 h_1 h_2 h_3 h_4 h_5; omega) | omega, by first | (clear ha1 hv2 h_1 h_2 h_3 h_4 h_5; omega) | omega, by first | (clear ha1 hv2 h_1 h_2 h_3 h_4 h_5; omega) | omega⟩)
    · refine v_ic_ne_f (t := 12) rfl (by decide) (Decidable.not_not.mp h_5) ?_
      refine q_iconst rfl ?_
      refine q_goto (t := 13) rfl (by decide) ?_
      refine v_zret rfl rfl (by decide) ?_
      refine bk_inl ?_
      refine v_if_eq_f (t := 103) rfl (by decide) (by decide) ?_
      refine q_aload_n rfl rfl ?_
      have h_13 := ir_41_3 hI2
      refine v_cv rfl rfl rfl rfl (by decide) ⟨⟨rfl, rfl⟩, by decide, rfl⟩ (Nat.le_of_ble_eq_true rfl) (Nat.le_of_ble_eq_true rfl) (s_162 hI2 (fun c_14 y_17 hI_15 hF_16 hy_17 h_18 h_19 h_20 => ?_))
      refine bk_inl ?_
      have h_21 := ir_41_4 hI_15
      by_cases h_22 : y_17 = 0
      · refine v_if_eq_t (t := 103) rfl (by decide) h_22 ?_
        refine q_aload_n rfl rfl ?_
        refine q_iload_n rfl rfl ?_
        refine v_cv rfl rfl rfl rfl (by decide) ⟨⟨rfl, rfl⟩, by decide, rfl⟩ (Nat.le_of_ble_eq_true rfl) (Nat.le_of_ble_eq_true rfl) (s_164 (a1 := v2) hI_15 (show (-2147483648) ≤ v2 ∧ v2 ≤ 2147483647 from ⟨(Int.le_trans (by decide) hv2.1), (Int.le_trans hv2.2 (by decide))⟩) (fun c_23 y_26 hI_24 hF_25 hy_26 => ?_))
        refine bk_inl ?_
        refine q_istore_n rfl (by decide) ?_
        refine q_aload_n rfl rfl ?_
        have kn_27 : Hid (c_14 41 5 = c2 41 5) := hF_16 41 5 (fun h => absurd h.2 (ni rfl))
        have kn_28 : Hid (c_23 41 5 = c2 41 5) := (hF_25 41 5 (fun h => absurd h.2 (ni rfl))).trans (hid kn_27)
        refine v_gi (z := 5) (v := c2 41 5) rfl rfl rfl (by decide) rfl rfl (hid kn_28) ?_
        refine q_iconst rfl ?_
        refine v_ic_eq_t (t := 119) rfl (by decide) (by first | (clear ha1 hv2 hx0 h_1 h_2 h_3 h_13 h_21 h_18 h_22 h_19 h_20; omega) | omega) ?_
        refine q_aload_n rfl rfl ?_
        refine q_iload_n rfl rfl ?_
        refine v_pi (z := 47) rfl rfl rfl (by decide) rfl rfl rfl (by decide) ?_
        refine q_aload_n rfl rfl ?_
        refine q_aload_n rfl rfl ?_
        refine v_gr (t := 61) rfl rfl rfl (by decide) rfl ?_
        refine q_aload_n rfl rfl ?_
        refine v_gr (t := 62) rfl rfl rfl (by decide) rfl ?_
        refine v_bip rfl (by decide) ?_
        refine v_cv rfl rfl rfl rfl (by decide) ⟨⟨rfl, rfl⟩, by decide, rfl⟩ (Nat.le_of_ble_eq_true rfl) (Nat.le_of_ble_eq_true rfl) (s_148 (f := 61) (t := 62) (nf := 8) (nt := 8) (n := 8) rfl rfl (by decide) (by decide) (by decide) (by decide) (by decide) (by omega) ?_)
        refine bk_inl ?_
        refine q_iload_n rfl rfl ?_
        refine q_iret rfl rfl ?_
        have hI_29 := iw_41_47 (v := v2) hI_24 ⟨hv2.1, hv2.2⟩
        have hI_30 := cp_61_62 hI_29
        have kn_31 : Hid (c_14 41 2 = c2 41 2) := hF_16 41 2 (fun h => absurd h.2 (ni rfl))
        have kn_32 : Hid (c_23 41 2 = c2 41 2) := (hF_25 41 2 (fun h => absurd h.2 (ni rfl))).trans (hid kn_31)
        have h_33 : (upc (up c_23 41 47 v2) 61 0 62 0 8) 41 2 = c2 41 2 := ((upc_c (by omega)).trans ((up_n (by decide)).trans (hid kn_32)))
        exact K (upc (up c_23 41 47 v2) 61 0 62 0 8) y_26 hI_30 (fun a j hm => (upc_c (fun h => hm (Or.inr (Or.inr (Or.inr (Or.inr (Or.inr (Or.inr (Or.inr (Or.inr (Or.inr (Or.inr (Or.inr h))))))))))))).trans ((up_b (Decidable.or_iff_not_imp_left.mpr (fun h1 h2 => hm (Or.inr (Or.inr (Or.inr (Or.inr (Or.inr (Or.inr (Or.inr (Or.inr (Or.inr (Or.inl ⟨Decidable.not_not.mp h1, h2⟩))))))))))))).trans ((hF_25 a j (fun h => hm (Or.inr (Or.inr (Or.inr (Or.inr (Or.inr (Or.inr (Or.inr (Or.inr (Or.inl h))))))))))).trans ((hF_16 a j (fun h => hm (Or.inr (Or.inr (Or.inr (Or.inr (Or.inl h))))))).trans (hF a j (fun q => q.elim (fun h => hm (Or.inl h)) (fun q => q.elim (fun h => hm (Or.inr (Or.inl h))) (fun q => q.elim (fun h => hm (Or.inr (Or.inr (Or.inl h)))) (fun q => q.elim (fun h => hm (Or.inr (Or.inr (Or.inr (Or.inl h))))) (fun q => q.elim (fun h => hm (Or.inr (Or.inr (Or.inr (Or.inr (Or.inl h)))))) (fun q => q.elim (fun h => hm (Or.inr (Or.inr (Or.inr (Or.inr (Or.inr (Or.inl h))))))) (fun q => q.elim (fun h => hm (Or.inr (Or.inr (Or.inr (Or.inr (Or.inr (Or.inr (Or.inl h)))))))) (fun q => q.elim (fun h => hm (Or.inr (Or.inr (Or.inr (Or.inr (Or.inr (Or.inr (Or.inr (Or.inl h))))))))) (fun q => q.elim (fun h => hm (Or.inr (Or.inr (Or.inr (Or.inr (Or.inr (Or.inr (Or.inr (Or.inr (Or.inl h)))))))))) (fun q => q.elim (fun h => hm (Or.inr (Or.inr (Or.inr (Or.inr (Or.inr (Or.inr (Or.inr (Or.inr (Or.inr (Or.inl h))))))))))) (fun q => q.elim (fun h => hm (Or.inr (Or.inr (Or.inr (Or.inr (Or.inr (Or.inr (Or.inr (Or.inr (Or.inr (Or.inr (Or.inl h)))))))))))) (fun h => hm (Or.inr (Or.inr (Or.inr (Or.inr (Or.inr (Or.inr (Or.inr (Or.inr (Or.inr (Or.inr (Or.inr h)))))))))))))))))))))))))))) hy_26 (Or.inl ⟨by first | (clear ha1 hv2 h_1 h_2 h_3 h_4 h_13 h_21 h_18 h_22 h_19 h_20; omega) | omega, by first | (clear ha1 hv2 h_1 h_2 h_3 h_4 h_13 h_21 h_18 h_22 h_19 h_20; omega) | omega, by first | (clear ha1 hv2 h_1 h_2 h_3 h_4 h_13 h_21 h_18 h_22 h_19 h_20; omega) | omega, by first | (clear ha1 hv2 h_1 h_2 h_3 h_4 h_13 h_21 h_18 h_22 h_19 h_20; omega) | omega⟩)
      · refine v_if_eq_f (t := 103) rfl (by decide) ⟨h_22, ⟨(Int.le_trans (by decide) hy_17.1), (Int.le_trans hy_17.2 (by decide))⟩, by decide, by decide⟩ ?_
        refine q_aload_n rfl rfl ?_
        refine v_gi (z := 4) (v := c_14 41 4) rfl rfl rfl (by decide) rfl rfl rfl ?_
        refine q_istore_n rfl (by decide) ?_
        refine q_aload_n rfl rfl ?_
        refine q_iconst rfl ?_
        refine q_aload_n rfl rfl ?_
        have h_34 := ir_41_22 hI
        have kn_35 : Hid (c2 41 22 = c 41 22) := hF 41 22 (fun q => q.elim (fun h => absurd h.2 (ni rfl)) (fun q => q.elim (fun h => absurd h (nn rfl)) (fun q => q.elim (fun h => absurd h.2 (ni rfl)) (fun q => q.elim (fun h => absurd h.2 (ni rfl)) (fun q => q.elim (fun h => absurd h.2 (ni rfl)) (fun q => q.elim (fun h => absurd h.2 (ni rfl)) (fun q => q.elim (fun h => absurd h.2 (ni rfl)) (fun q => q.elim (fun h => absurd h.2 (ni rfl)) (fun q => q.elim (fun h => absurd h.2 (ni rfl)) (fun q => q.elim (fun h => absurd h.2 (ni rfl)) (fun q => q.elim (fun h => absurd h (nn rfl)) (fun h => absurd h (nn rfl)))))))))))))
        have kn_36 : Hid (c_14 41 22 = c 41 22) := (hF_16 41 22 (fun h => absurd h.2 (ni rfl))).trans (hid kn_35)
        refine v_gi (z := 22) (v := c 41 22) rfl rfl rfl (by decide) rfl rfl (hid kn_36) ?_
        refine q_iconst rfl ?_
        refine v_isub (v := c 41 22 - 1) rfl rfl ?_
        have kn_37 : Hid (c_14 41 3 = c2 41 3) := hF_16 41 3 (fun h => absurd h.2 (ni rfl))
        have h_38 : c_14 41 3 = c2 41 3 := (hid kn_37)
        have kn_39 : Hid (c_14 41 5 = c2 41 5) := hF_16 41 5 (fun h => absurd h.2 (ni rfl))
        have h_40 : c_14 41 5 = c2 41 5 := (hid kn_39)
        refine v_cv rfl rfl rfl rfl (by decide) ⟨⟨rfl, rfl⟩, by decide, rfl⟩ (Nat.le_of_ble_eq_true rfl) (Nat.le_of_ble_eq_true rfl) (s_160 (a1 := 0) (a2 := c 41 22 - 1) hI_15 (show 0 ≤ 0 ∧ 0 ≤ 1 from ⟨by decide, by decide⟩) (show (-1) ≤ c 41 22 - 1 ∧ c 41 22 - 1 ≤ 9999 from ⟨by first | (clear ha1 hv2 hx0 h_1 h_2 h_3 h_4 h_13 h_21 h_18 h_19 h_20; omega) | omega, by first | (clear ha1 hv2 hx0 h_1 h_2 h_3 h_4 h_13 h_21 h_18 h_19 h_20; omega) | omega⟩) (fun c_41 y_44 hI_42 hF_43 hy_44 h_45 h_46 h_47 h_48 h_49 => ?_))
        refine bk_inl ?_
        have h_50 := ir_41_4 hI_42
        have h_51 := ir_41_5 hI_42
        refine q_istore rfl (by decide) ?_
        refine q_aload_n rfl rfl ?_
        refine v_cv rfl rfl rfl rfl (by decide) ⟨⟨rfl, rfl⟩, by decide, rfl⟩ (Nat.le_of_ble_eq_true rfl) (Nat.le_of_ble_eq_true rfl) ?_
        refine q_aload_n rfl rfl ?_
        refine v_gi (z := 5) (v := c_41 41 5) rfl rfl rfl (by decide) rfl rfl rfl ?_
        refine q_iconst rfl ?_
        by_cases h_52 : c_41 41 5 ≠ (-1)
        · refine v_ic_ne_t (t := 12) rfl (by decide) ⟨h_52, ⟨(Int.le_trans (by decide) h_51.1), (Int.le_trans h_51.2 (by decide))⟩, by decide, by decide⟩ ?_
          refine q_iconst rfl ?_
          refine v_zret rfl rfl (by decide) ?_
          refine bk_inl ?_
          refine v_if_eq_t (t := 73) rfl (by decide) (by decide) ?_
          refine q_aload_n rfl rfl ?_
          refine v_bip rfl (by decide) ?_
          have kn_53 : Hid (c_41 41 3 = c2 41 3) := (hF_43 41 3 (fun q => q.elim (fun h => absurd h.2 (ni rfl)) (fun q => q.elim (fun h => absurd h.2 (ni rfl)) (fun h => absurd h.2 (ni rfl))))).trans (hid kn_37)
          have h_54 : c_41 41 3 = c2 41 3 := (hid kn_53)
          refine v_cv rfl rfl rfl rfl (by decide) ⟨⟨rfl, rfl⟩, by decide, rfl⟩ (Nat.le_of_ble_eq_true rfl) (Nat.le_of_ble_eq_true rfl) (s_161 (a1 := 59) hI_42 (show 1 ≤ 59 ∧ 59 ≤ 255 from ⟨by decide, by decide⟩) (fun c_55 hI_56 hF_57 h_58 h_59 h_60 h_61 => ?_))
          refine bk_inl ?_
          have h_62 := ir_41_4 hI_56
          have h_63 := ir_41_5 hI_56
          refine q_aload_n rfl rfl ?_
          refine v_cv rfl rfl rfl rfl (by decide) ⟨⟨rfl, rfl⟩, by decide, rfl⟩ (Nat.le_of_ble_eq_true rfl) (Nat.le_of_ble_eq_true rfl) ?_
          refine q_aload_n rfl rfl ?_
          refine v_gi (z := 5) (v := c_55 41 5) rfl rfl rfl (by decide) rfl rfl rfl ?_
          refine q_iconst rfl ?_
          refine v_ic_ne_t (t := 12) rfl (by decide) ⟨by first | (clear ha1 hv2 hx0 h_1 h_2 h_3 h_4 h_21 h_18 h_34 h_47; omega) | omega, ⟨(Int.le_trans (by decide) h_63.1), (Int.le_trans h_63.2 (by decide))⟩, by decide, by decide⟩ ?_
          refine q_iconst rfl ?_
          refine v_zret rfl rfl (by decide) ?_
          refine bk_inl ?_
          refine v_if_ne_f (t := 89) rfl (by decide) (by decide) ?_
          refine q_goto (t := 103) rfl (by decide) ?_
          refine q_aload_n rfl rfl ?_
          refine q_iload_n rfl rfl ?_
          refine v_cv rfl rfl rfl rfl (by decide) ⟨⟨rfl, rfl⟩, by decide, rfl⟩ (Nat.le_of_ble_eq_true rfl) (Nat.le_of_ble_eq_true rfl) (s_164 (a1 := v2) hI_56 (show (-2147483648) ≤ v2 ∧ v2 ≤ 2147483647 from ⟨(Int.le_trans (by decide) hv2.1), (Int.le_trans hv2.2 (by decide))⟩) (fun c_64 y_67 hI_65 hF_66 hy_67 => ?_))
          refine bk_inl ?_
          refine q_istore_n rfl (by decide) ?_
          refine q_aload_n rfl rfl ?_
          have kn_68 : Hid (c_64 41 5 = c_55 41 5) := hF_66 41 5 (fun h => absurd h.2 (ni rfl))
          refine v_gi (z := 5) (v := c_55 41 5) rfl rfl rfl (by decide) rfl rfl (hid kn_68) ?_
          refine q_iconst rfl ?_
          refine v_ic_eq_f (t := 119) rfl (by decide) ⟨by first | (clear ha1 hv2 hx0 h_1 h_2 h_3 h_4 h_21 h_18 h_34 h_47; omega) | omega, ⟨(Int.le_trans (by decide) h_63.1), (Int.le_trans h_63.2 (by decide))⟩, by decide, by decide⟩ ?_
          refine q_iload_n rfl rfl ?_
          refine q_iret rfl rfl ?_
          have kn_69 : Hid (c_14 41 2 = c2 41 2) := hF_16 41 2 (fun h => absurd h.2 (ni rfl))
          have kn_70 : Hid (c_41 41 2 = c2 41 2) := (hF_43 41 2 (fun q => q.elim (fun h => absurd h.2 (ni rfl)) (fun q => q.elim (fun h => absurd h.2 (ni rfl)) (fun h => absurd h.2 (ni rfl))))).trans (hid kn_69)
          have kn_71 : Hid (c_55 41 2 = c2 41 2) := (hF_57 41 2 (fun q => q.elim (fun h => absurd h.2 (ni rfl)) (fun q => q.elim (fun h => absurd h.2 (ni rfl)) (fun h => absurd h.2 (ni rfl))))).trans (hid kn_70)
          have kn_72 : Hid (c_64 41 2 = c2 41 2) := (hF_66 41 2 (fun h => absurd h.2 (ni rfl))).trans (hid kn_71)
          have h_73 : c_64 41 2 = c2 41 2 := (hid kn_72)
          exact K c_64 y_67 hI_65 (fun a j hm => (hF_66 a j (fun h => hm (Or.inr (Or.inr (Or.inr (Or.inr (Or.inr (Or.inr (Or.inr (Or.inr (Or.inl h))))))))))).trans ((hF_57 a j (fun q => q.elim (fun h => hm (Or.inr (Or.inr (Or.inr (Or.inr (Or.inl h)))))) (fun q => q.elim (fun h => hm (Or.inr (Or.inr (Or.inr (Or.inr (Or.inr (Or.inl h))))))) (fun h => hm (Or.inr (Or.inr (Or.inr (Or.inr (Or.inr (Or.inr (Or.inl h))))))))))).trans ((hF_43 a j (fun q => q.elim (fun h => hm (Or.inr (Or.inr (Or.inr (Or.inr (Or.inl h)))))) (fun q => q.elim (fun h => hm (Or.inr (Or.inr (Or.inr (Or.inr (Or.inr (Or.inl h))))))) (fun h => hm (Or.inr (Or.inr (Or.inr (Or.inr (Or.inr (Or.inr (Or.inl h))))))))))).trans ((hF_16 a j (fun h => hm (Or.inr (Or.inr (Or.inr (Or.inr (Or.inl h))))))).trans (hF a j (fun q => q.elim (fun h => hm (Or.inl h)) (fun q => q.elim (fun h => hm (Or.inr (Or.inl h))) (fun q => q.elim (fun h => hm (Or.inr (Or.inr (Or.inl h)))) (fun q => q.elim (fun h => hm (Or.inr (Or.inr (Or.inr (Or.inl h))))) (fun q => q.elim (fun h => hm (Or.inr (Or.inr (Or.inr (Or.inr (Or.inl h)))))) (fun q => q.elim (fun h => hm (Or.inr (Or.inr (Or.inr (Or.inr (Or.inr (Or.inl h))))))) (fun q => q.elim (fun h => hm (Or.inr (Or.inr (Or.inr (Or.inr (Or.inr (Or.inr (Or.inl h)))))))) (fun q => q.elim (fun h => hm (Or.inr (Or.inr (Or.inr (Or.inr (Or.inr (Or.inr (Or.inr (Or.inl h))))))))) (fun q => q.elim (fun h => hm (Or.inr (Or.inr (Or.inr (Or.inr (Or.inr (Or.inr (Or.inr (Or.inr (Or.inl h)))))))))) (fun q => q.elim (fun h => hm (Or.inr (Or.inr (Or.inr (Or.inr (Or.inr (Or.inr (Or.inr (Or.inr (Or.inr (Or.inl h))))))))))) (fun q => q.elim (fun h => hm (Or.inr (Or.inr (Or.inr (Or.inr (Or.inr (Or.inr (Or.inr (Or.inr (Or.inr (Or.inr (Or.inl h)))))))))))) (fun h => hm (Or.inr (Or.inr (Or.inr (Or.inr (Or.inr (Or.inr (Or.inr (Or.inr (Or.inr (Or.inr (Or.inr h)))))))))))))))))))))))))))) hy_67 (Or.inl ⟨by first | (clear ha1 hv2 h_1 h_2 h_3 h_4 h_13 h_21 h_18 h_34 h_50 h_45 h_51 h_62 h_58 h_63 h_19 h_20 h_46 h_47 h_48 h_49 h_52 h_59 h_60 h_61; omega) | omega, by first | (clear ha1 hv2 h_1 h_2 h_3 h_4 h_13 h_21 h_18 h_34 h_50 h_45 h_51 h_62 h_58 h_63 h_19 h_20 h_46 h_47 h_48 h_49 h_52 h_59 h_60 h_61; omega) | omega, by first | (clear ha1 hv2 h_1 h_2 h_3 h_4 h_13 h_21 h_18 h_34 h_50 h_45 h_51 h_62 h_58 h_63 h_19 h_20 h_46 h_47 h_48 h_49 h_52 h_59 h_60 h_61; omega) | omega, by first | (clear ha1 hv2 h_1 h_2 h_3 h_4 h_13 h_21 h_18 h_34 h_50 h_45 h_51 h_62 h_58 h_63 h_19 h_20 h_46 h_47 h_48 h_49 h_52 h_59 h_60 h_61; omega) | omega⟩)
        · refine v_ic_ne_f (t := 12) rfl (by decide) (Decidable.not_not.mp h_52) ?_
          refine q_iconst rfl ?_
          refine q_goto (t := 13) rfl (by decide) ?_
          refine v_zret rfl rfl (by decide) ?_
          refine bk_inl ?_
          refine v_if_eq_f (t := 73) rfl (by decide) (by decide) ?_
          refine q_iload_n rfl rfl ?_
          refine v_bip rfl (by decide) ?_
          by_cases h_74 : v2 ≠ 8
          · refine v_ic_ne_t (t := 73) rfl (by decide) ⟨h_74, ⟨(Int.le_trans (by decide) hv2.1), (Int.le_trans hv2.2 (by decide))⟩, by decide, by decide⟩ ?_
            refine q_aload_n rfl rfl ?_
            refine v_bip rfl (by decide) ?_
            have kn_75 : Hid (c_41 41 3 = c2 41 3) := (hF_43 41 3 (fun q => q.elim (fun h => absurd h.2 (ni rfl)) (fun q => q.elim (fun h => absurd h.2 (ni rfl)) (fun h => absurd h.2 (ni rfl))))).trans (hid kn_37)
            have h_76 : c_41 41 3 = c2 41 3 := (hid kn_75)
            refine v_cv rfl rfl rfl rfl (by decide) ⟨⟨rfl, rfl⟩, by decide, rfl⟩ (Nat.le_of_ble_eq_true rfl) (Nat.le_of_ble_eq_true rfl) (s_161 (a1 := 59) hI_42 (show 1 ≤ 59 ∧ 59 ≤ 255 from ⟨by decide, by decide⟩) (fun c_77 hI_78 hF_79 h_80 h_81 h_82 h_83 => ?_))
            refine bk_inl ?_
            have h_84 := ir_41_4 hI_78
            have h_85 := ir_41_5 hI_78
            refine q_aload_n rfl rfl ?_
            refine v_cv rfl rfl rfl rfl (by decide) ⟨⟨rfl, rfl⟩, by decide, rfl⟩ (Nat.le_of_ble_eq_true rfl) (Nat.le_of_ble_eq_true rfl) ?_
            refine q_aload_n rfl rfl ?_
            refine v_gi (z := 5) (v := c_77 41 5) rfl rfl rfl (by decide) rfl rfl rfl ?_
            refine q_iconst rfl ?_
            by_cases h_86 : c_77 41 5 ≠ (-1)
            · refine v_ic_ne_t (t := 12) rfl (by decide) ⟨h_86, ⟨(Int.le_trans (by decide) h_85.1), (Int.le_trans h_85.2 (by decide))⟩, by decide, by decide⟩ ?_
              refine q_iconst rfl ?_
              refine v_zret rfl rfl (by decide) ?_
              refine bk_inl ?_
              refine v_if_ne_f (t := 89) rfl (by decide) (by decide) ?_
              refine q_goto (t := 103) rfl (by decide) ?_
              refine q_aload_n rfl rfl ?_
              refine q_iload_n rfl rfl ?_
              refine v_cv rfl rfl rfl rfl (by decide) ⟨⟨rfl, rfl⟩, by decide, rfl⟩ (Nat.le_of_ble_eq_true rfl) (Nat.le_of_ble_eq_true rfl) (s_164 (a1 := v2) hI_78 (show (-2147483648) ≤ v2 ∧ v2 ≤ 2147483647 from ⟨(Int.le_trans (by decide) hv2.1), (Int.le_trans hv2.2 (by decide))⟩) (fun c_87 y_90 hI_88 hF_89 hy_90 => ?_))
              refine bk_inl ?_
              refine q_istore_n rfl (by decide) ?_
              refine q_aload_n rfl rfl ?_
              have kn_91 : Hid (c_87 41 5 = c_77 41 5) := hF_89 41 5 (fun h => absurd h.2 (ni rfl))
              refine v_gi (z := 5) (v := c_77 41 5) rfl rfl rfl (by decide) rfl rfl (hid kn_91) ?_
              refine q_iconst rfl ?_
              refine v_ic_eq_f (t := 119) rfl (by decide) ⟨by first | (clear ha1 hv2 hx0 h_1 h_2 h_3 h_4 h_13 h_21 h_18 h_34 h_50 h_45 h_51 h_84 h_80 h_19 h_20 h_46 h_47 h_48 h_49 h_74 h_81; omega) | omega, ⟨(Int.le_trans (by decide) h_85.1), (Int.le_trans h_85.2 (by decide))⟩, by decide, by decide⟩ ?_
              refine q_iload_n rfl rfl ?_
              refine q_iret rfl rfl ?_
              have kn_92 : Hid (c_14 41 2 = c2 41 2) := hF_16 41 2 (fun h => absurd h.2 (ni rfl))
              have kn_93 : Hid (c_41 41 2 = c2 41 2) := (hF_43 41 2 (fun q => q.elim (fun h => absurd h.2 (ni rfl)) (fun q => q.elim (fun h => absurd h.2 (ni rfl)) (fun h => absurd h.2 (ni rfl))))).trans (hid kn_92)
              have kn_94 : Hid (c_77 41 2 = c2 41 2) := (hF_79 41 2 (fun q => q.elim (fun h => absurd h.2 (ni rfl)) (fun q => q.elim (fun h => absurd h.2 (ni rfl)) (fun h => absurd h.2 (ni rfl))))).trans (hid kn_93)
              have kn_95 : Hid (c_87 41 2 = c2 41 2) := (hF_89 41 2 (fun h => absurd h.2 (ni rfl))).trans (hid kn_94)
              have h_96 : c_87 41 2 = c2 41 2 := (hid kn_95)
              exact K c_87 y_90 hI_88 (fun a j hm => (hF_89 a j (fun h => hm (Or.inr (Or.inr (Or.inr (Or.inr (Or.inr (Or.inr (Or.inr (Or.inr (Or.inl h))))))))))).trans ((hF_79 a j (fun q => q.elim (fun h => hm (Or.inr (Or.inr (Or.inr (Or.inr (Or.inl h)))))) (fun q => q.elim (fun h => hm (Or.inr (Or.inr (Or.inr (Or.inr (Or.inr (Or.inl h))))))) (fun h => hm (Or.inr (Or.inr (Or.inr (Or.inr (Or.inr (Or.inr (Or.inl h))))))))))).trans ((hF_43 a j (fun q => q.elim (fun h => hm (Or.inr (Or.inr (Or.inr (Or.inr (Or.inl h)))))) (fun q => q.elim (fun h => hm (Or.inr (Or.inr (Or.inr (Or.inr (Or.inr (Or.inl h))))))) (fun h => hm (Or.inr (Or.inr (Or.inr (Or.inr (Or.inr (Or.inr (Or.inl h))))))))))).trans ((hF_16 a j (fun h => hm (Or.inr (Or.inr (Or.inr (Or.inr (Or.inl h))))))).trans (hF a j (fun q => q.elim (fun h => hm (Or.inl h)) (fun q => q.elim (fun h => hm (Or.inr (Or.inl h))) (fun q => q.elim (fun h => hm (Or.inr (Or.inr (Or.inl h)))) (fun q => q.elim (fun h => hm (Or.inr (Or.inr (Or.inr (Or.inl h))))) (fun q => q.elim (fun h => hm (Or.inr (Or.inr (Or.inr (Or.inr (Or.inl h)))))) (fun q => q.elim (fun h => hm (Or.inr (Or.inr (Or.inr (Or.inr (Or.inr (Or.inl h))))))) (fun q => q.elim (fun h => hm (Or.inr (Or.inr (Or.inr (Or.inr (Or.inr (Or.inr (Or.inl h)))))))) (fun q => q.elim (fun h => hm (Or.inr (Or.inr (Or.inr (Or.inr (Or.inr (Or.inr (Or.inr (Or.inl h))))))))) (fun q => q.elim (fun h => hm (Or.inr (Or.inr (Or.inr (Or.inr (Or.inr (Or.inr (Or.inr (Or.inr (Or.inl h)))))))))) (fun q => q.elim (fun h => hm (Or.inr (Or.inr (Or.inr (Or.inr (Or.inr (Or.inr (Or.inr (Or.inr (Or.inr (Or.inl h))))))))))) (fun q => q.elim (fun h => hm (Or.inr (Or.inr (Or.inr (Or.inr (Or.inr (Or.inr (Or.inr (Or.inr (Or.inr (Or.inr (Or.inl h)))))))))))) (fun h => hm (Or.inr (Or.inr (Or.inr (Or.inr (Or.inr (Or.inr (Or.inr (Or.inr (Or.inr (Or.inr (Or.inr h)))))))))))))))))))))))))))) hy_90 (Or.inl ⟨by first | (clear ha1 hv2 h_1 h_2 h_3 h_4 h_13 h_21 h_18 h_34 h_50 h_45 h_51 h_84 h_80 h_85 h_19 h_20 h_46 h_47 h_48 h_49 h_74 h_81 h_82 h_83 h_86; omega) | omega, by first | (clear ha1 hv2 h_1 h_2 h_3 h_4 h_13 h_21 h_18 h_34 h_50 h_45 h_51 h_84 h_80 h_85 h_19 h_20 h_46 h_47 h_48 h_49 h_74 h_81 h_82 h_83 h_86; omega) | omega, by first | (clear ha1 hv2 h_1 h_2 h_3 h_4 h_13 h_21 h_18 h_34 h_50 h_45 h_51 h_84 h_80 h_85 h_19 h_20 h_46 h_47 h_48 h_49 h_74 h_81 h_82 h_83 h_86; omega) | omega, by first | (clear ha1 hv2 h_1 h_2 h_3 h_4 h_13 h_21 h_18 h_34 h_50 h_45 h_51 h_84 h_80 h_85 h_19 h_20 h_46 h_47 h_48 h_49 h_74 h_81 h_82 h_83 h_86; omega) | omega⟩)
            · refine v_ic_ne_f (t := 12) rfl (by decide) (Decidable.not_not.mp h_86) ?_
              refine q_iconst rfl ?_
              refine q_goto (t := 13) rfl (by decide) ?_
              refine v_zret rfl rfl (by decide) ?_
              refine bk_inl ?_
              refine v_if_ne_t (t := 89) rfl (by decide) (by decide) ?_
              refine q_aload_n rfl rfl ?_
              refine v_gr (t := 61) rfl rfl rfl (by decide) rfl ?_
              refine q_iload_n rfl rfl ?_
              refine q_iload rfl rfl ?_
              refine v_is rfl rfl (by decide) (by decide) (by omega) ?_
              refine v_iinc (v := v2 + 1) rfl rfl (by decide) rfl ?_
              refine q_goto (t := 22) rfl (by decide) ?_
              have hI_97 := iw_61 (j := v2) (v := y_44) hI_78 ⟨hy_44.1, by first | (clear ha1 hv2 hx0 h_1 h_2 h_3 h_4 h_13 h_21 h_18 h_50 h_45 h_51 h_84 h_80 h_85 h_19 h_20 h_46 h_48 h_49 h_74 h_81 h_82 h_83; omega) | omega⟩
              refine Wp_ls [(0, .ref 41), (1, vi a1), (2, vi (v2 + 1))] (lsub_cons rfl (lsub_cons rfl (lsub_cons rfl lsub_nil))) ?_
              have kn_98 : Hid (c_14 41 2 = c2 41 2) := hF_16 41 2 (fun h => absurd h.2 (ni rfl))
              have kn_99 : Hid (c_41 41 2 = c2 41 2) := (hF_43 41 2 (fun q => q.elim (fun h => absurd h.2 (ni rfl)) (fun q => q.elim (fun h => absurd h.2 (ni rfl)) (fun h => absurd h.2 (ni rfl))))).trans (hid kn_98)
              have kn_100 : Hid (c_77 41 2 = c2 41 2) := (hF_79 41 2 (fun q => q.elim (fun h => absurd h.2 (ni rfl)) (fun q => q.elim (fun h => absurd h.2 (ni rfl)) (fun h => absurd h.2 (ni rfl))))).trans (hid kn_99)
              have h_101 : (up c_77 61 v2 y_44) 41 2 = c2 41 2 := ((up_c (nn rfl)).trans (hid kn_100))
              have h_102 : (up c_77 61 v2 y_44) 41 4 = c_77 41 4 := (up_c (nn rfl))
              exact ih (up c_77 61 v2 y_44) (v2 + 1) hI_97 (fun a j hm => (up_b (Decidable.or_iff_not_imp_left.mpr (fun h1 h2 => hm (Or.inr (Or.inr (Or.inr (Or.inr (Or.inr (Or.inr (Or.inr (Or.inr (Or.inr (Or.inr (Or.inl (Decidable.not_not.mp h1))))))))))))))).trans ((hF_79 a j (fun q => q.elim (fun h => hm (Or.inr (Or.inr (Or.inr (Or.inr (Or.inl h)))))) (fun q => q.elim (fun h => hm (Or.inr (Or.inr (Or.inr (Or.inr (Or.inr (Or.inl h))))))) (fun h => hm (Or.inr (Or.inr (Or.inr (Or.inr (Or.inr (Or.inr (Or.inl h))))))))))).trans ((hF_43 a j (fun q => q.elim (fun h => hm (Or.inr (Or.inr (Or.inr (Or.inr (Or.inl h)))))) (fun q => q.elim (fun h => hm (Or.inr (Or.inr (Or.inr (Or.inr (Or.inr (Or.inl h))))))) (fun h => hm (Or.inr (Or.inr (Or.inr (Or.inr (Or.inr (Or.inr (Or.inl h))))))))))).trans ((hF_16 a j (fun h => hm (Or.inr (Or.inr (Or.inr (Or.inr (Or.inl h))))))).trans (hF a j (fun q => q.elim (fun h => hm (Or.inl h)) (fun q => q.elim (fun h => hm (Or.inr (Or.inl h))) (fun q => q.elim (fun h => hm (Or.inr (Or.inr (Or.inl h)))) (fun q => q.elim (fun h => hm (Or.inr (Or.inr (Or.inr (Or.inl h))))) (fun q => q.elim (fun h => hm (Or.inr (Or.inr (Or.inr (Or.inr (Or.inl h)))))) (fun q => q.elim (fun h => hm (Or.inr (Or.inr (Or.inr (Or.inr (Or.inr (Or.inl h))))))) (fun q => q.elim (fun h => hm (Or.inr (Or.inr (Or.inr (Or.inr (Or.inr (Or.inr (Or.inl h)))))))) (fun q => q.elim (fun h => hm (Or.inr (Or.inr (Or.inr (Or.inr (Or.inr (Or.inr (Or.inr (Or.inl h))))))))) (fun q => q.elim (fun h => hm (Or.inr (Or.inr (Or.inr (Or.inr (Or.inr (Or.inr (Or.inr (Or.inr (Or.inl h)))))))))) (fun q => q.elim (fun h => hm (Or.inr (Or.inr (Or.inr (Or.inr (Or.inr (Or.inr (Or.inr (Or.inr (Or.inr (Or.inl h))))))))))) (fun q => q.elim (fun h => hm (Or.inr (Or.inr (Or.inr (Or.inr (Or.inr (Or.inr (Or.inr (Or.inr (Or.inr (Or.inr (Or.inl h)))))))))))) (fun h => hm (Or.inr (Or.inr (Or.inr (Or.inr (Or.inr (Or.inr (Or.inr (Or.inr (Or.inr (Or.inr (Or.inr h)))))))))))))))))))))))))))) ⟨by first | exact rgp_l hv2.1 (by decide) | omega, by first | (clear ha1 hx0 h_1 h_2 h_3 h_4 h_13 h_21 h_18 h_34 h_50 h_45 h_51 h_84 h_80 h_85 h_19 h_20 h_46 h_47 h_48 h_49 h_81 h_82 h_83; omega) | omega⟩ ⟨by first | (clear ha1 hv2 h_1 h_2 h_3 h_4 h_13 h_21 h_18 h_34 h_50 h_45 h_51 h_84 h_80 h_85 h_19 h_20 h_46 h_47 h_48 h_49 h_74 h_81 h_82 h_83; omega) | omega, by first | (clear ha1 hv2 h_1 h_2 h_3 h_4 h_13 h_21 h_18 h_34 h_50 h_45 h_51 h_84 h_80 h_85 h_19 h_20 h_46 h_47 h_48 h_49 h_74 h_81 h_82 h_83; omega) | omega, by first | (clear ha1 hv2 h_1 h_2 h_3 h_4 h_13 h_21 h_18 h_34 h_50 h_45 h_51 h_84 h_80 h_85 h_19 h_20 h_46 h_47 h_48 h_49 h_74 h_81 h_82 h_83; omega) | omega, by first | (clear ha1 hv2 h_1 h_2 h_3 h_4 h_13 h_21 h_18 h_34 h_50 h_45 h_51 h_84 h_80 h_85 h_19 h_20 h_46 h_47 h_48 h_49 h_74 h_81 h_82 h_83; omega) | omega⟩ (by omega)
          · refine v_ic_ne_f (t := 73) rfl (by decide) (Decidable.not_not.mp h_74) ?_
            refine q_aload_n rfl rfl ?_
            refine q_iconst rfl ?_
            refine q_iload_n rfl rfl ?_
            refine v_cv rfl rfl rfl rfl (by decide) ⟨⟨rfl, rfl⟩, by decide, rfl⟩ (Nat.le_of_ble_eq_true rfl) (Nat.le_of_ble_eq_true rfl) (s_153 (a1 := 3) (a2 := c_14 41 4) hI_42 (show 1 ≤ 3 ∧ 3 ≤ 3 from ⟨by decide, by decide⟩) (show 0 ≤ c_14 41 4 ∧ c_14 41 4 ≤ 605 from h_21) (fun c_103 hI_104 hF_105 h_106 => ?_))
            refine bk_inl ?_
            have h_107 := ir_41_5 hI_104
            refine q_aload_n rfl rfl ?_
            refine v_bip rfl (by decide) ?_
            have kn_108 : Hid (c_103 41 4 = c_41 41 4) := hF_105 41 4 (fun q => q.elim (fun h => absurd h.2 (ni rfl)) (fun h => absurd h.2 (ni rfl)))
            have h_109 : c_103 41 4 = c_41 41 4 := (hid kn_108)
            have kn_110 : Hid (c_41 41 3 = c2 41 3) := (hF_43 41 3 (fun q => q.elim (fun h => absurd h.2 (ni rfl)) (fun q => q.elim (fun h => absurd h.2 (ni rfl)) (fun h => absurd h.2 (ni rfl))))).trans (hid kn_37)
            have kn_111 : Hid (c_103 41 3 = c2 41 3) := (hF_105 41 3 (fun q => q.elim (fun h => absurd h.2 (ni rfl)) (fun h => absurd h.2 (ni rfl)))).trans (hid kn_110)
            have h_112 : c_103 41 3 = c2 41 3 := (hid kn_111)
            refine v_cv rfl rfl rfl rfl (by decide) ⟨⟨rfl, rfl⟩, by decide, rfl⟩ (Nat.le_of_ble_eq_true rfl) (Nat.le_of_ble_eq_true rfl) (s_161 (a1 := 59) hI_104 (show 1 ≤ 59 ∧ 59 ≤ 255 from ⟨by decide, by decide⟩) (fun c_113 hI_114 hF_115 h_116 h_117 h_118 h_119 => ?_))
            refine bk_inl ?_
            have h_120 := ir_41_4 hI_114
            have h_121 := ir_41_5 hI_114
            refine q_aload_n rfl rfl ?_
            refine v_cv rfl rfl rfl rfl (by decide) ⟨⟨rfl, rfl⟩, by decide, rfl⟩ (Nat.le_of_ble_eq_true rfl) (Nat.le_of_ble_eq_true rfl) ?_
            refine q_aload_n rfl rfl ?_
            refine v_gi (z := 5) (v := c_113 41 5) rfl rfl rfl (by decide) rfl rfl rfl ?_
            refine q_iconst rfl ?_
            refine v_ic_ne_t (t := 12) rfl (by decide) ⟨by first | (clear ha1 hv2 hx0 h_1 h_2 h_3 h_4 h_21 h_18 h_34 h_51 h_47 h_48; omega) | omega, ⟨(Int.le_trans (by decide) h_121.1), (Int.le_trans h_121.2 (by decide))⟩, by decide, by decide⟩ ?_
            refine q_iconst rfl ?_
            refine v_zret rfl rfl (by decide) ?_
            refine bk_inl ?_
            refine v_if_ne_f (t := 89) rfl (by decide) (by decide) ?_
            refine q_goto (t := 103) rfl (by decide) ?_
            refine q_aload_n rfl rfl ?_
            refine q_iload_n rfl rfl ?_
            refine v_cv rfl rfl rfl rfl (by decide) ⟨⟨rfl, rfl⟩, by decide, rfl⟩ (Nat.le_of_ble_eq_true rfl) (Nat.le_of_ble_eq_true rfl) (s_164 (a1 := v2) hI_114 (show (-2147483648) ≤ v2 ∧ v2 ≤ 2147483647 from ⟨(Int.le_trans (by decide) hv2.1), (Int.le_trans hv2.2 (by decide))⟩) (fun c_122 y_125 hI_123 hF_124 hy_125 => ?_))
            refine bk_inl ?_
            refine q_istore_n rfl (by decide) ?_
            refine q_aload_n rfl rfl ?_
            have kn_126 : Hid (c_122 41 5 = c_113 41 5) := hF_124 41 5 (fun h => absurd h.2 (ni rfl))
            refine v_gi (z := 5) (v := c_113 41 5) rfl rfl rfl (by decide) rfl rfl (hid kn_126) ?_
            refine q_iconst rfl ?_
            refine v_ic_eq_f (t := 119) rfl (by decide) ⟨by first | (clear ha1 hv2 hx0 h_1 h_2 h_3 h_4 h_21 h_18 h_34 h_51 h_47 h_48; omega) | omega, ⟨(Int.le_trans (by decide) h_121.1), (Int.le_trans h_121.2 (by decide))⟩, by decide, by decide⟩ ?_
            refine q_iload_n rfl rfl ?_
            refine q_iret rfl rfl ?_
            have kn_127 : Hid (c_14 41 2 = c2 41 2) := hF_16 41 2 (fun h => absurd h.2 (ni rfl))
            have kn_128 : Hid (c_41 41 2 = c2 41 2) := (hF_43 41 2 (fun q => q.elim (fun h => absurd h.2 (ni rfl)) (fun q => q.elim (fun h => absurd h.2 (ni rfl)) (fun h => absurd h.2 (ni rfl))))).trans (hid kn_127)
            have kn_129 : Hid (c_103 41 2 = c2 41 2) := (hF_105 41 2 (fun q => q.elim (fun h => absurd h.2 (ni rfl)) (fun h => absurd h.2 (ni rfl)))).trans (hid kn_128)
            have kn_130 : Hid (c_113 41 2 = c2 41 2) := (hF_115 41 2 (fun q => q.elim (fun h => absurd h.2 (ni rfl)) (fun q => q.elim (fun h => absurd h.2 (ni rfl)) (fun h => absurd h.2 (ni rfl))))).trans (hid kn_129)
            have kn_131 : Hid (c_122 41 2 = c2 41 2) := (hF_124 41 2 (fun h => absurd h.2 (ni rfl))).trans (hid kn_130)
            have h_132 : c_122 41 2 = c2 41 2 := (hid kn_131)
            exact K c_122 y_125 hI_123 (fun a j hm => (hF_124 a j (fun h => hm (Or.inr (Or.inr (Or.inr (Or.inr (Or.inr (Or.inr (Or.inr (Or.inr (Or.inl h))))))))))).trans ((hF_115 a j (fun q => q.elim (fun h => hm (Or.inr (Or.inr (Or.inr (Or.inr (Or.inl h)))))) (fun q => q.elim (fun h => hm (Or.inr (Or.inr (Or.inr (Or.inr (Or.inr (Or.inl h))))))) (fun h => hm (Or.inr (Or.inr (Or.inr (Or.inr (Or.inr (Or.inr (Or.inl h))))))))))).trans ((hF_105 a j (fun q => q.elim (fun h => hm (Or.inr (Or.inr (Or.inr (Or.inr (Or.inr (Or.inl h))))))) (fun h => hm (Or.inr (Or.inr (Or.inr (Or.inr (Or.inr (Or.inr (Or.inl h)))))))))).trans ((hF_43 a j (fun q => q.elim (fun h => hm (Or.inr (Or.inr (Or.inr (Or.inr (Or.inl h)))))) (fun q => q.elim (fun h => hm (Or.inr (Or.inr (Or.inr (Or.inr (Or.inr (Or.inl h))))))) (fun h => hm (Or.inr (Or.inr (Or.inr (Or.inr (Or.inr (Or.inr (Or.inl h))))))))))).trans ((hF_16 a j (fun h => hm (Or.inr (Or.inr (Or.inr (Or.inr (Or.inl h))))))).trans (hF a j (fun q => q.elim (fun h => hm (Or.inl h)) (fun q => q.elim (fun h => hm (Or.inr (Or.inl h))) (fun q => q.elim (fun h => hm (Or.inr (Or.inr (Or.inl h)))) (fun q => q.elim (fun h => hm (Or.inr (Or.inr (Or.inr (Or.inl h))))) (fun q => q.elim (fun h => hm (Or.inr (Or.inr (Or.inr (Or.inr (Or.inl h)))))) (fun q => q.elim (fun h => hm (Or.inr (Or.inr (Or.inr (Or.inr (Or.inr (Or.inl h))))))) (fun q => q.elim (fun h => hm (Or.inr (Or.inr (Or.inr (Or.inr (Or.inr (Or.inr (Or.inl h)))))))) (fun q => q.elim (fun h => hm (Or.inr (Or.inr (Or.inr (Or.inr (Or.inr (Or.inr (Or.inr (Or.inl h))))))))) (fun q => q.elim (fun h => hm (Or.inr (Or.inr (Or.inr (Or.inr (Or.inr (Or.inr (Or.inr (Or.inr (Or.inl h)))))))))) (fun q => q.elim (fun h => hm (Or.inr (Or.inr (Or.inr (Or.inr (Or.inr (Or.inr (Or.inr (Or.inr (Or.inr (Or.inl h))))))))))) (fun q => q.elim (fun h => hm (Or.inr (Or.inr (Or.inr (Or.inr (Or.inr (Or.inr (Or.inr (Or.inr (Or.inr (Or.inr (Or.inl h)))))))))))) (fun h => hm (Or.inr (Or.inr (Or.inr (Or.inr (Or.inr (Or.inr (Or.inr (Or.inr (Or.inr (Or.inr (Or.inr h))))))))))))))))))))))))))))) hy_125 (Or.inl ⟨by first | (clear ha1 hv2 h_1 h_2 h_3 h_4 h_13 h_21 h_18 h_34 h_50 h_45 h_51 h_107 h_120 h_116 h_121 h_19 h_20 h_46 h_47 h_48 h_49 h_106 h_117 h_118 h_119; omega) | omega, by first | (clear ha1 hv2 h_1 h_2 h_3 h_4 h_13 h_21 h_18 h_34 h_50 h_45 h_51 h_107 h_120 h_116 h_121 h_19 h_20 h_46 h_47 h_48 h_49 h_106 h_117 h_118 h_119; omega) | omega, by first | (clear ha1 hv2 h_1 h_2 h_3 h_4 h_13 h_21 h_18 h_34 h_50 h_45 h_51 h_107 h_120 h_116 h_121 h_19 h_20 h_46 h_47 h_48 h_49 h_106 h_117 h_118 h_119; omega) | omega, by first | (clear ha1 hv2 h_1 h_2 h_3 h_4 h_13 h_21 h_18 h_34 h_50 h_45 h_51 h_107 h_120 h_116 h_121 h_19 h_20 h_46 h_47 h_48 h_49 h_106 h_117 h_118 h_119; omega) | omega⟩)
set_option maxRecDepth 100000 in
set_option maxHeartbeats 4000000 in
theorem s_206 {sc : List Int32} {e : Int} {d u P Q : Nat} {c : ME} {a1 : Int} {Z : AR → Prop} (hI : Iv u e P Q c) (ha1 : (-2147483648) ≤ a1 ∧ a1 ≤ 2147483647) (K : ∀ (c2 : ME) (y : Int), Iv u e P Q c2 → (∀ (a : Nat) (j : Int), ¬ ((a = 41 ∧ j = 0) ∨ a = 42 ∨ (a = 41 ∧ j = 2) ∨ (a = 41 ∧ j = 3) ∨ (a = 41 ∧ j = 4) ∨ (a = 41 ∧ j = 5) ∨ (a = 41 ∧ j = 6) ∨ (a = 41 ∧ j = 7) ∨ (a = 41 ∧ j = 8) ∨ (a = 41 ∧ j = 47) ∨ a = 61 ∨ a = 62) → c2 a j = c a j) → (-2147483648) ≤ y ∧ y ≤ 2147483647 → ((c2 41 2 = 0 ∧ a1 ≥ 0 ∧ a1 ≤ c 41 2 ∧ a1 ≤ 60) ∨ (c2 41 2 = c 41 2 ∧ a1 < 0) ∨ (c2 41 2 = c 41 2 ∧ a1 > c 41 2) ∨ (c2 41 2 = c 41 2 ∧ a1 > 60)) → Z (.inl (some (vi y)), Wd P Q P P c2, 0, 0)) : Wp sc (d + 9) 206 0 [(0, .ref 41), (1, vi a1)] [] (Wd P Q P P c) 0 0 Z := by
  have hP := iv_P hI
  have hQ := iv_Q hI
  refine q_aload_n rfl rfl ?_
  refine q_iconst rfl ?_
  refine v_pi (z := 0) rfl rfl rfl (by decide) rfl rfl rfl (by decide) ?_
  refine q_aload_n rfl rfl ?_
  refine q_iload_n rfl rfl ?_
  refine v_cv rfl rfl rfl rfl (by decide) ⟨⟨rfl, rfl⟩, by decide, rfl⟩ (Nat.le_of_ble_eq_true rfl) (Nat.le_of_ble_eq_true rfl) ?_
  refine q_aload_n rfl rfl ?_
  refine q_iload_n rfl rfl ?_
  by_cases h_134 : a1 < 0
  · refine v_if_lt_t (t := 23) rfl (by decide) ⟨ha1.1, h_134, by decide⟩ ?_
    refine q_iconst rfl ?_
    refine q_iconst rfl ?_
    refine q_iconst rfl ?_
    refine v_cv rfl rfl rfl rfl (by decide) ⟨⟨rfl, rfl⟩, by decide, rfl⟩ (Nat.le_of_ble_eq_true rfl) (Nat.le_of_ble_eq_true rfl) ?_
    refine q_iload_n rfl rfl ?_
    refine v_if_ne_f (t := 26) rfl (by decide) (by decide) ?_
    refine q_aload_n rfl rfl ?_
    refine v_gi (z := 0) (v := 0) rfl rfl rfl (by decide) rfl rfl (up_e rfl) ?_
    refine v_if_ne_f (t := 26) rfl (by decide) (by decide) ?_
    refine q_aload_n rfl rfl ?_
    refine q_iload_n rfl rfl ?_
    refine v_pi (z := 0) rfl rfl rfl (by decide) rfl rfl rfl (by decide) ?_
    refine q_aload_n rfl rfl ?_
    refine v_gr (t := 42) rfl rfl rfl (by decide) rfl ?_
    refine q_iload_n rfl rfl ?_
    refine q_dup2 rfl ⟨rfl, rfl⟩ ?_
    have h_135 := ir_42 hI 1
    refine v_ia (v := c 42 1) rfl rfl (by decide) (by decide) (by decide) ((up_c (nn rfl)).trans (up_c (nn rfl))) ?_
    refine q_iconst rfl ?_
    refine v_iadd (v := c 42 1 + 1) rfl rfl ?_
    refine v_nrm (fun y_136 hy_136 => ?_)
    refine v_is rfl rfl (by decide) (by decide) (by decide) ?_
    refine q_aload_n rfl rfl ?_
    refine v_gi (z := 0) (v := 1) rfl rfl rfl (by decide) rfl rfl ((up_c (nn rfl)).trans (up_e rfl)) ?_
    refine v_if_ne_t (t := 37) rfl (by decide) (by decide) ?_
    refine q_iconst rfl ?_
    refine v_zret rfl rfl (by decide) ?_
    refine bk_inl ?_
    refine v_zret rfl rfl (by decide) ?_
    refine bk_inl ?_
    refine v_if_ne_f (t := 15) rfl (by decide) (by decide) ?_
    refine q_iconst rfl ?_
    refine q_iret rfl rfl ?_
    have hI_137 := iw_41_0 (v := 0) hI ⟨by decide, by decide⟩
    have hI_138 := iw_41_0 (v := 1) hI_137 ⟨by decide, by decide⟩
    have hI_139 := iw_42 (j := 1) (v := y_136) hI_138 ⟨hy_136.1, hy_136.2⟩
    have h_140 := ir_41_2 hI
    have h_141 : (up (up (up c 41 0 0) 41 0 1) 42 1 y_136) 41 2 = c 41 2 := ((up_c (nn rfl)).trans ((up_n (by decide)).trans (up_n (by decide))))
    exact K (up (up (up c 41 0 0) 41 0 1) 42 1 y_136) 0 hI_139 (fun a j hm => (up_b (Decidable.or_iff_not_imp_left.mpr (fun h1 h2 => hm (Or.inr (Or.inl (Decidable.not_not.mp h1)))))).trans ((up_b (Decidable.or_iff_not_imp_left.mpr (fun h1 h2 => hm (Or.inl ⟨Decidable.not_not.mp h1, h2⟩)))).trans (up_b (Decidable.or_iff_not_imp_left.mpr (fun h1 h2 => hm (Or.inl ⟨Decidable.not_not.mp h1, h2⟩)))))) ⟨by decide, by decide⟩ (Or.inr (Or.inl ⟨by omega, by omega⟩))
  · refine v_if_lt_f (t := 23) rfl (by decide) ⟨by decide, (Int.not_lt.mp h_134), ha1.2⟩ ?_
    refine q_iload_n rfl rfl ?_
    refine q_aload_n rfl rfl ?_
    have h_142 := ir_41_2 hI
    refine v_gi (z := 2) (v := c 41 2) rfl rfl rfl (by decide) rfl rfl (up_n (by decide)) ?_
    by_cases h_143 : a1 > c 41 2
    · refine v_ic_gt_t (t := 23) rfl (by decide) ⟨(Int.le_trans (by decide) h_142.1), h_143, ha1.2⟩ ?_
      refine q_iconst rfl ?_
      refine q_iconst rfl ?_
      refine q_iconst rfl ?_
      refine v_cv rfl rfl rfl rfl (by decide) ⟨⟨rfl, rfl⟩, by decide, rfl⟩ (Nat.le_of_ble_eq_true rfl) (Nat.le_of_ble_eq_true rfl) ?_
      refine q_iload_n rfl rfl ?_
      refine v_if_ne_f (t := 26) rfl (by decide) (by decide) ?_
      refine q_aload_n rfl rfl ?_
      refine v_gi (z := 0) (v := 0) rfl rfl rfl (by decide) rfl rfl (up_e rfl) ?_
      refine v_if_ne_f (t := 26) rfl (by decide) (by decide) ?_
      refine q_aload_n rfl rfl ?_
      refine q_iload_n rfl rfl ?_
      refine v_pi (z := 0) rfl rfl rfl (by decide) rfl rfl rfl (by decide) ?_
      refine q_aload_n rfl rfl ?_
      refine v_gr (t := 42) rfl rfl rfl (by decide) rfl ?_
      refine q_iload_n rfl rfl ?_
      refine q_dup2 rfl ⟨rfl, rfl⟩ ?_
      have h_144 := ir_42 hI 1
      refine v_ia (v := c 42 1) rfl rfl (by decide) (by decide) (by decide) ((up_c (nn rfl)).trans (up_c (nn rfl))) ?_
      refine q_iconst rfl ?_
      refine v_iadd (v := c 42 1 + 1) rfl rfl ?_
      refine v_nrm (fun y_145 hy_145 => ?_)
      refine v_is rfl rfl (by decide) (by decide) (by decide) ?_
      refine q_aload_n rfl rfl ?_
      refine v_gi (z := 0) (v := 1) rfl rfl rfl (by decide) rfl rfl ((up_c (nn rfl)).trans (up_e rfl)) ?_
      refine v_if_ne_t (t := 37) rfl (by decide) (by decide) ?_
      refine q_iconst rfl ?_
      refine v_zret rfl rfl (by decide) ?_
      refine bk_inl ?_
      refine v_zret rfl rfl (by decide) ?_
      refine bk_inl ?_
      refine v_if_ne_f (t := 15) rfl (by decide) (by decide) ?_
      refine q_iconst rfl ?_
      refine q_iret rfl rfl ?_
      have hI_146 := iw_41_0 (v := 0) hI ⟨by decide, by decide⟩
      have hI_147 := iw_41_0 (v := 1) hI_146 ⟨by decide, by decide⟩
      have hI_148 := iw_42 (j := 1) (v := y_145) hI_147 ⟨hy_145.1, hy_145.2⟩
      have h_149 : (up (up (up c 41 0 0) 41 0 1) 42 1 y_145) 41 2 = c 41 2 := ((up_c (nn rfl)).trans ((up_n (by decide)).trans (up_n (by decide))))
      exact K (up (up (up c 41 0 0) 41 0 1) 42 1 y_145) 0 hI_148 (fun a j hm => (up_b (Decidable.or_iff_not_imp_left.mpr (fun h1 h2 => hm (Or.inr (Or.inl (Decidable.not_not.mp h1)))))).trans ((up_b (Decidable.or_iff_not_imp_left.mpr (fun h1 h2 => hm (Or.inl ⟨Decidable.not_not.mp h1, h2⟩)))).trans (up_b (Decidable.or_iff_not_imp_left.mpr (fun h1 h2 => hm (Or.inl ⟨Decidable.not_not.mp h1, h2⟩)))))) ⟨by decide, by decide⟩ (Or.inr (Or.inr (Or.inl ⟨by omega, by omega⟩)))
    · refine v_ic_gt_f (t := 23) rfl (by decide) ⟨ha1.1, (Int.not_lt.mp h_143), (Int.le_trans h_142.2 (by decide))⟩ ?_
      refine q_iload_n rfl rfl ?_
      refine v_bip rfl (by decide) ?_
      by_cases h_150 : a1 > 60
      · refine v_ic_gt_t (t := 23) rfl (by decide) ⟨by decide, h_150, ha1.2⟩ ?_
        refine q_iconst rfl ?_
        refine q_iconst rfl ?_
        refine q_iconst rfl ?_
        refine v_cv rfl rfl rfl rfl (by decide) ⟨⟨rfl, rfl⟩, by decide, rfl⟩ (Nat.le_of_ble_eq_true rfl) (Nat.le_of_ble_eq_true rfl) ?_
        refine q_iload_n rfl rfl ?_
        refine v_if_ne_f (t := 26) rfl (by decide) (by decide) ?_
        refine q_aload_n rfl rfl ?_
        refine v_gi (z := 0) (v := 0) rfl rfl rfl (by decide) rfl rfl (up_e rfl) ?_
        refine v_if_ne_f (t := 26) rfl (by decide) (by decide) ?_
        refine q_aload_n rfl rfl ?_
        refine q_iload_n rfl rfl ?_
        refine v_pi (z := 0) rfl rfl rfl (by decide) rfl rfl rfl (by decide) ?_
        refine q_aload_n rfl rfl ?_
        refine v_gr (t := 42) rfl rfl rfl (by decide) rfl ?_
        refine q_iload_n rfl rfl ?_
        refine q_dup2 rfl ⟨rfl, rfl⟩ ?_
        have h_151 := ir_42 hI 1
        refine v_ia (v := c 42 1) rfl rfl (by decide) (by decide) (by decide) ((up_c (nn rfl)).trans (up_c (nn rfl))) ?_
        refine q_iconst rfl ?_
        refine v_iadd (v := c 42 1 + 1) rfl rfl ?_
        refine v_nrm (fun y_152 hy_152 => ?_)
        refine v_is rfl rfl (by decide) (by decide) (by decide) ?_
        refine q_aload_n rfl rfl ?_
        refine v_gi (z := 0) (v := 1) rfl rfl rfl (by decide) rfl rfl ((up_c (nn rfl)).trans (up_e rfl)) ?_
        refine v_if_ne_t (t := 37) rfl (by decide) (by decide) ?_
        refine q_iconst rfl ?_
        refine v_zret rfl rfl (by decide) ?_
        refine bk_inl ?_
        refine v_zret rfl rfl (by decide) ?_
        refine bk_inl ?_
        refine v_if_ne_f (t := 15) rfl (by decide) (by decide) ?_
        refine q_iconst rfl ?_
        refine q_iret rfl rfl ?_
        have hI_153 := iw_41_0 (v := 0) hI ⟨by decide, by decide⟩
        have hI_154 := iw_41_0 (v := 1) hI_153 ⟨by decide, by decide⟩
        have hI_155 := iw_42 (j := 1) (v := y_152) hI_154 ⟨hy_152.1, hy_152.2⟩
        have h_156 : (up (up (up c 41 0 0) 41 0 1) 42 1 y_152) 41 2 = c 41 2 := ((up_c (nn rfl)).trans ((up_n (by decide)).trans (up_n (by decide))))
        exact K (up (up (up c 41 0 0) 41 0 1) 42 1 y_152) 0 hI_155 (fun a j hm => (up_b (Decidable.or_iff_not_imp_left.mpr (fun h1 h2 => hm (Or.inr (Or.inl (Decidable.not_not.mp h1)))))).trans ((up_b (Decidable.or_iff_not_imp_left.mpr (fun h1 h2 => hm (Or.inl ⟨Decidable.not_not.mp h1, h2⟩)))).trans (up_b (Decidable.or_iff_not_imp_left.mpr (fun h1 h2 => hm (Or.inl ⟨Decidable.not_not.mp h1, h2⟩)))))) ⟨by decide, by decide⟩ (Or.inr (Or.inr (Or.inr ⟨by omega, by omega⟩)))
      · refine v_ic_gt_f (t := 23) rfl (by decide) ⟨ha1.1, (Int.not_lt.mp h_150), by decide⟩ ?_
        refine q_iconst rfl ?_
        refine q_goto (t := 24) rfl (by decide) ?_
        refine q_iconst rfl ?_
        refine q_iconst rfl ?_
        refine v_cv rfl rfl rfl rfl (by decide) ⟨⟨rfl, rfl⟩, by decide, rfl⟩ (Nat.le_of_ble_eq_true rfl) (Nat.le_of_ble_eq_true rfl) ?_
        refine q_iload_n rfl rfl ?_
        refine v_if_ne_t (t := 26) rfl (by decide) (by decide) ?_
        refine q_aload_n rfl rfl ?_
        refine v_gi (z := 0) (v := 0) rfl rfl rfl (by decide) rfl rfl (up_e rfl) ?_
        refine v_if_ne_f (t := 37) rfl (by decide) (by decide) ?_
        refine q_iconst rfl ?_
        refine q_goto (t := 38) rfl (by decide) ?_
        refine v_zret rfl rfl (by decide) ?_
        refine bk_inl ?_
        refine v_zret rfl rfl (by decide) ?_
        refine bk_inl ?_
        refine v_if_ne_t (t := 15) rfl (by decide) (by decide) ?_
        refine q_aload_n rfl rfl ?_
        refine q_iload_n rfl rfl ?_
        have hI_157 := iw_41_0 (v := 0) hI ⟨by decide, by decide⟩
        refine v_cv rfl rfl rfl rfl (by decide) ⟨⟨rfl, rfl⟩, by decide, rfl⟩ (Nat.le_of_ble_eq_true rfl) (Nat.le_of_ble_eq_true rfl) (s_163 (a1 := a1) hI_157 (show 0 ≤ a1 ∧ a1 ≤ 600 from ⟨by omega, by omega⟩) (fun c_158 hI_159 hF_160 h_161 => ?_))
        refine bk_inl ?_
        have h_162 := ir_41_2 hI_159
        have h_163 := ir_41_3 hI_159
        have h_164 := ir_41_4 hI_159
        have h_165 := ir_41_5 hI_159
        have h_166 := ir_41_7 hI_159
        refine q_iconst rfl ?_
        refine q_istore_n rfl (by decide) ?_
        refine Wp_ls [(0, .ref 41), (1, vi a1), (2, vi 0)] (lsub_cons rfl (lsub_cons rfl (lsub_cons rfl lsub_nil))) ?_
        exact (s_206_l (sc := sc) (d := d) hI ha1 K 1214) c_158 0 hI_159 (fun a j hm => (hF_160 a j (fun q => q.elim (fun h => hm (Or.inr (Or.inr (Or.inl h)))) (fun q => q.elim (fun h => hm (Or.inr (Or.inr (Or.inr (Or.inl h))))) (fun q => q.elim (fun h => hm (Or.inr (Or.inr (Or.inr (Or.inr (Or.inl h)))))) (fun q => q.elim (fun h => hm (Or.inr (Or.inr (Or.inr (Or.inr (Or.inr (Or.inl h))))))) (fun q => q.elim (fun h => hm (Or.inr (Or.inr (Or.inr (Or.inr (Or.inr (Or.inr (Or.inr (Or.inl h))))))))) (fun h => hm (Or.inr (Or.inr (Or.inr (Or.inr (Or.inr (Or.inr (Or.inr (Or.inr (Or.inl h)))))))))))))))).trans (up_b (Decidable.or_iff_not_imp_left.mpr (fun h1 h2 => hm (Or.inl ⟨Decidable.not_not.mp h1, h2⟩))))) ⟨by decide, by decide⟩ ⟨by omega, by omega, by omega, by omega⟩ (by omega)

