/-! ===== contracts 17 ===== -/
set_option maxRecDepth 100000 in
set_option maxHeartbeats 4000000 in
theorem s_195 {sc : List Int32} {e : Int} {d u P Q : Nat} {c : ME} {a1 : Int} {a2 : Int} {a3 : Int} {a4 : Int} {a5 : Int} {a6 : Int} {a7 : Int} {Z : AR → Prop} (hI : Iv u e P Q c) (ha1 : 0 ≤ a1 ∧ a1 ≤ 9999) (ha2 : 0 ≤ a2 ∧ a2 ≤ 9999) (ha3 : 0 ≤ a3 ∧ a3 ≤ 9999) (ha4 : 0 ≤ a4 ∧ a4 ≤ 9999) (ha5 : (-2147483648) ≤ a5 ∧ a5 ≤ 2147483647) (ha6 : (-2147483648) ≤ a6 ∧ a6 ≤ 2147483647) (ha7 : (-2147483648) ≤ a7 ∧ a7 ≤ 2147483647) (K : ∀ (c2 : ME) (y : Int), Iv u e P Q c2 → (∀ (a : Nat) (j : Int), ¬ (a = 54 ∨ a = 55) → c2 a j = c a j) → 0 ≤ y ∧ y ≤ 99 → Z (.inl (some (vi y)), Wd P Q P P c2, 0, 0)) : Wp sc (d + 10) 195 0 [(0, .ref 41), (1, vi a1), (2, vi a2), (3, vi a3), (4, vi a4), (5, vi a5), (6, vi a6), (7, vi a7)] [] (Wd P Q P P c) 0 0 Z := by
  have hP := iv_P hI
  have hQ := iv_Q hI
  refine q_aload_n rfl rfl ?_
  refine v_gr (t := 55) rfl rfl rfl (by decide) rfl ?_
  refine q_iconst rfl ?_
  refine q_iload_n rfl rfl ?_
  refine v_is rfl rfl (by decide) (by decide) (by decide) ?_
  refine q_aload_n rfl rfl ?_
  refine v_gr (t := 55) rfl rfl rfl (by decide) rfl ?_
  refine q_iconst rfl ?_
  refine q_iload_n rfl rfl ?_
  refine v_is rfl rfl (by decide) (by decide) (by decide) ?_
  refine q_aload_n rfl rfl ?_
  refine v_gr (t := 55) rfl rfl rfl (by decide) rfl ?_
  refine q_iconst rfl ?_
  refine q_iload_n rfl rfl ?_
  refine v_is rfl rfl (by decide) (by decide) (by decide) ?_
  refine q_aload_n rfl rfl ?_
  refine v_gr (t := 55) rfl rfl rfl (by decide) rfl ?_
  refine q_iconst rfl ?_
  refine q_iload rfl rfl ?_
  refine v_is rfl rfl (by decide) (by decide) (by decide) ?_
  refine q_aload_n rfl rfl ?_
  refine v_gr (t := 55) rfl rfl rfl (by decide) rfl ?_
  refine q_iconst rfl ?_
  refine q_iload_n rfl rfl ?_
  refine q_iload_n rfl rfl ?_
  refine v_iadd (v := a1 + a2) rfl (by omega) ?_
  refine q_iload_n rfl rfl ?_
  refine v_iadd (v := a1 + a2 + a3) rfl (by omega) ?_
  refine q_iload rfl rfl ?_
  refine v_iadd (v := a1 + a2 + a3 + a4) rfl (by omega) ?_
  refine v_is rfl rfl (by decide) (by decide) (by decide) ?_
  refine q_aload_n rfl rfl ?_
  refine v_gr (t := 55) rfl rfl rfl (by decide) rfl ?_
  refine q_iconst rfl ?_
  refine q_iload rfl rfl ?_
  refine v_is rfl rfl (by decide) (by decide) (by decide) ?_
  refine q_aload_n rfl rfl ?_
  refine v_gr (t := 55) rfl rfl rfl (by decide) rfl ?_
  refine v_bip rfl (by decide) ?_
  refine q_iload rfl rfl ?_
  refine v_is rfl rfl (by decide) (by decide) (by decide) ?_
  refine q_aload_n rfl rfl ?_
  refine v_gr (t := 55) rfl rfl rfl (by decide) rfl ?_
  refine v_bip rfl (by decide) ?_
  refine q_iload rfl rfl ?_
  refine v_is rfl rfl (by decide) (by decide) (by decide) ?_
  refine q_aload_n rfl rfl ?_
  have hI_1 := iw_55 (j := 0) (v := a1) hI ⟨by omega, by omega⟩
  have hI_2 := iw_55 (j := 1) (v := a2) hI_1 ⟨by omega, by omega⟩
  have hI_3 := iw_55 (j := 2) (v := a3) hI_2 ⟨by omega, by omega⟩
  have hI_4 := iw_55 (j := 3) (v := a4) hI_3 ⟨by omega, by omega⟩
  have hI_5 := iw_55 (j := 4) (v := a1 + a2 + a3 + a4) hI_4 ⟨by omega, by omega⟩
  have hI_6 := iw_55 (j := 5) (v := a5) hI_5 ⟨by omega, by omega⟩
  have hI_7 := iw_55 (j := 6) (v := a6) hI_6 ⟨by omega, by omega⟩
  have hI_8 := iw_55 (j := 7) (v := a7) hI_7 ⟨by omega, by omega⟩
  have h_9 : (up (up (up (up (up (up (up (up c 55 0 a1) 55 1 a2) 55 2 a3) 55 3 a4) 55 4 (a1 + a2 + a3 + a4)) 55 5 a5) 55 6 a6) 55 7 a7) 55 4 = a1 + a2 + a3 + a4 := ((up_n (by decide)).trans ((up_n (by decide)).trans ((up_n (by decide)).trans (up_e rfl))))
  have h_10 : (up (up (up (up (up (up (up (up c 55 0 a1) 55 1 a2) 55 2 a3) 55 3 a4) 55 4 (a1 + a2 + a3 + a4)) 55 5 a5) 55 6 a6) 55 7 a7) 55 0 = a1 := ((up_n (by decide)).trans ((up_n (by decide)).trans ((up_n (by decide)).trans ((up_n (by decide)).trans ((up_n (by decide)).trans ((up_n (by decide)).trans ((up_n (by decide)).trans (up_e rfl))))))))
  refine v_cv rfl rfl rfl rfl (by decide) ⟨⟨rfl, rfl⟩, by decide, rfl⟩ (Nat.le_of_ble_eq_true rfl) (Nat.le_of_ble_eq_true rfl) (s_180 hI_8 (by omega) (by omega) (fun c_11 y_14 hI_12 hF_13 hy_14 => ?_))
  refine bk_inl ?_
  refine q_iret rfl rfl ?_
  exact K c_11 y_14 hI_12 (fun a j hm => (hF_13 a j (by omega)).trans ((up_b (by omega)).trans ((up_b (by omega)).trans ((up_b (by omega)).trans ((up_b (by omega)).trans ((up_b (by omega)).trans ((up_b (by omega)).trans ((up_b (by omega)).trans (up_b (by omega)))))))))) ⟨by omega, by omega⟩

set_option maxRecDepth 100000 in
set_option maxHeartbeats 4000000 in
theorem s_196 {sc : List Int32} {e : Int} {d u P Q : Nat} {c : ME} {a1 : Int} {Z : AR → Prop} (hI : Iv u e P Q c) (ha1 : 0 ≤ a1 ∧ a1 ≤ 5) (K : ∀ (c2 : ME) (y : Int), Iv u e P Q c2 → (∀ (a : Nat) (j : Int), ¬ (a = 54 ∨ a = 55) → c2 a j = c a j) → 0 ≤ y ∧ y ≤ 99 → Z (.inl (some (vi y)), Wd P Q P P c2, 0, 0)) : Wp sc (d + 11) 196 0 [(0, .ref 41), (1, vi a1)] [] (Wd P Q P P c) 0 0 Z := by
  have hP := iv_P hI
  have hQ := iv_Q hI
  refine q_aload_n rfl rfl ?_
  refine q_aload_n rfl rfl ?_
  refine v_gr (t := 59) rfl rfl rfl (by decide) rfl ?_
  refine q_iconst rfl ?_
  refine q_iload_n rfl rfl ?_
  refine v_imul (v := 4 * a1) rfl (by omega) ?_
  have h_1 := ir_59_g hI (j := 4 * a1) (by omega)
  refine v_ia (v := c 59 (4 * a1)) rfl rfl (by decide) (by decide) (by omega) rfl ?_
  refine q_aload_n rfl rfl ?_
  refine v_gr (t := 59) rfl rfl rfl (by decide) rfl ?_
  refine q_iconst rfl ?_
  refine q_iload_n rfl rfl ?_
  refine v_imul (v := 4 * a1) rfl (by omega) ?_
  refine q_iconst rfl ?_
  refine v_iadd (v := 4 * a1 + 1) rfl (by omega) ?_
  have h_2 := ir_59_g hI (j := 4 * a1 + 1) (by omega)
  refine v_ia (v := c 59 (4 * a1 + 1)) rfl rfl (by decide) (by decide) (by omega) rfl ?_
  refine q_aload_n rfl rfl ?_
  refine v_gr (t := 59) rfl rfl rfl (by decide) rfl ?_
  refine q_iconst rfl ?_
  refine q_iload_n rfl rfl ?_
  refine v_imul (v := 4 * a1) rfl (by omega) ?_
  refine q_iconst rfl ?_
  refine v_iadd (v := 4 * a1 + 2) rfl (by omega) ?_
  have h_3 := ir_59_g hI (j := 4 * a1 + 2) (by omega)
  refine v_ia (v := c 59 (4 * a1 + 2)) rfl rfl (by decide) (by decide) (by omega) rfl ?_
  refine q_aload_n rfl rfl ?_
  refine v_gr (t := 59) rfl rfl rfl (by decide) rfl ?_
  refine q_iconst rfl ?_
  refine q_iload_n rfl rfl ?_
  refine v_imul (v := 4 * a1) rfl (by omega) ?_
  refine q_iconst rfl ?_
  refine v_iadd (v := 4 * a1 + 3) rfl (by omega) ?_
  have h_4 := ir_59_g hI (j := 4 * a1 + 3) (by omega)
  refine v_ia (v := c 59 (4 * a1 + 3)) rfl rfl (by decide) (by decide) (by omega) rfl ?_
  refine q_aload_n rfl rfl ?_
  refine v_gr (t := 59) rfl rfl rfl (by decide) rfl ?_
  refine v_bip rfl (by decide) ?_
  refine q_iload_n rfl rfl ?_
  refine v_iadd (v := a1 + 24) rfl (by omega) ?_
  have h_5 := ir_59 hI (a1 + 24)
  refine v_ia (v := c 59 (a1 + 24)) rfl rfl (by decide) (by decide) (by omega) rfl ?_
  refine q_aload_n rfl rfl ?_
  refine v_gr (t := 59) rfl rfl rfl (by decide) rfl ?_
  refine v_bip rfl (by decide) ?_
  have h_6 := ir_59 hI 34
  refine v_ia (v := c 59 34) rfl rfl (by decide) (by decide) (by decide) rfl ?_
  refine q_iload_n rfl rfl ?_
  refine v_cv rfl rfl rfl rfl (by decide) ⟨⟨rfl, rfl⟩, by decide, rfl⟩ (Nat.le_of_ble_eq_true rfl) (Nat.le_of_ble_eq_true rfl) (s_195 (a1 := c 59 (4 * a1)) (a2 := c 59 (4 * a1 + 1)) (a3 := c 59 (4 * a1 + 2)) (a4 := c 59 (4 * a1 + 3)) (a5 := c 59 (a1 + 24)) (a6 := c 59 34) (a7 := a1) hI (show 0 ≤ c 59 (4 * a1) ∧ c 59 (4 * a1) ≤ 9999 from by omega) (show 0 ≤ c 59 (4 * a1 + 1) ∧ c 59 (4 * a1 + 1) ≤ 9999 from by omega) (show 0 ≤ c 59 (4 * a1 + 2) ∧ c 59 (4 * a1 + 2) ≤ 9999 from by omega) (show 0 ≤ c 59 (4 * a1 + 3) ∧ c 59 (4 * a1 + 3) ≤ 9999 from by omega) (show (-2147483648) ≤ c 59 (a1 + 24) ∧ c 59 (a1 + 24) ≤ 2147483647 from by omega) (show (-2147483648) ≤ c 59 34 ∧ c 59 34 ≤ 2147483647 from by omega) (show (-2147483648) ≤ a1 ∧ a1 ≤ 2147483647 from by omega) (fun c_7 y_10 hI_8 hF_9 hy_10 => ?_))
  refine bk_inl ?_
  refine q_iret rfl rfl ?_
  exact K c_7 y_10 hI_8 (fun a j hm => hF_9 a j (by omega)) ⟨by omega, by omega⟩

set_option maxRecDepth 100000 in
set_option maxHeartbeats 4000000 in
theorem s_197 {sc : List Int32} {e : Int} {d u P Q : Nat} {c : ME} {a1 : Int} {Z : AR → Prop} (hI : Iv u e P Q c) (ha1 : 0 ≤ a1 ∧ a1 ≤ 5) (K : ∀ (c2 : ME) (y : Int), Iv u e P Q c2 → (∀ (a : Nat) (j : Int), ¬ (a = 54 ∨ a = 55) → c2 a j = c a j) → 0 ≤ y ∧ y ≤ 1 → Z (.inl (some (vi y)), Wd P Q P P c2, 0, 0)) : Wp sc (d + 12) 197 0 [(0, .ref 41), (1, vi a1)] [] (Wd P Q P P c) 0 0 Z := by
  have hP := iv_P hI
  have hQ := iv_Q hI
  refine q_aload_n rfl rfl ?_
  refine q_iload_n rfl rfl ?_
  have h_1 := ir_59_g hI (j := 4 * a1) (by omega)
  have h_2 := ir_59_g hI (j := 4 * a1 + 1) (by omega)
  have h_3 := ir_59_g hI (j := 4 * a1 + 2) (by omega)
  have h_4 := ir_59_g hI (j := 4 * a1 + 3) (by omega)
  refine v_cv rfl rfl rfl rfl (by decide) ⟨⟨rfl, rfl⟩, by decide, rfl⟩ (Nat.le_of_ble_eq_true rfl) (Nat.le_of_ble_eq_true rfl) (s_187 (v1 := c 59 (4 * a1)) (v2 := c 59 (4 * a1 + 1)) (v3 := c 59 (4 * a1 + 2)) (v4 := c 59 (4 * a1 + 3)) (r := c 59 (4 * a1 + 1) + c 59 (4 * a1 + 2) + c 59 (4 * a1 + 3) + c 59 (4 * a1)) (a1 := a1) hI (show 0 ≤ a1 ∧ a1 ≤ 5 from by omega) (rfl) (rfl) (rfl) (rfl) (by omega) ?_)
  refine bk_inl ?_
  by_cases h_5 : c 59 (4 * a1 + 1) + c 59 (4 * a1 + 2) + c 59 (4 * a1 + 3) + c 59 (4 * a1) ≤ 0
  · refine v_if_le_t (t := 22) rfl (by decide) (by omega) ?_
    refine q_iconst rfl ?_
    refine v_zret rfl rfl (by omega) ?_
    exact K c 0 hI (fun a j hm => rfl) ⟨by decide, by decide⟩
  · refine v_if_le_f (t := 22) rfl (by decide) (by omega) ?_
    refine q_aload_n rfl rfl ?_
    refine q_iload_n rfl rfl ?_
    refine v_cv rfl rfl rfl rfl (by decide) ⟨⟨rfl, rfl⟩, by decide, rfl⟩ (Nat.le_of_ble_eq_true rfl) (Nat.le_of_ble_eq_true rfl) (s_196 (a1 := a1) hI (show 0 ≤ a1 ∧ a1 ≤ 5 from by omega) (fun c_6 y_9 hI_7 hF_8 hy_9 => ?_))
    refine bk_inl ?_
    refine v_bip rfl (by decide) ?_
    by_cases h_10 : y_9 < 50
    · refine v_ic_lt_t (t := 22) rfl (by decide) (by omega) ?_
      refine q_iconst rfl ?_
      refine v_zret rfl rfl (by omega) ?_
      exact K c_6 0 hI_7 (fun a j hm => hF_8 a j (by omega)) ⟨by decide, by decide⟩
    · refine v_ic_lt_f (t := 22) rfl (by decide) (by omega) ?_
      refine q_iconst rfl ?_
      refine q_goto (t := 23) rfl (by decide) ?_
      refine v_zret rfl rfl (by omega) ?_
      exact K c_6 1 hI_7 (fun a j hm => hF_8 a j (by omega)) ⟨by decide, by decide⟩

set_option maxRecDepth 100000 in
set_option maxHeartbeats 4000000 in
theorem s_198 {sc : List Int32} {d P Q : Nat} {c : ME} {a1 : Int} {Z : AR → Prop} (hI : Iv 0 (-1) P Q c) (ha1 : 0 ≤ a1 ∧ a1 ≤ 5) (K : ∀ (c2 : ME) (y : Int), Iv 0 (-1) P Q c2 → (∀ (a : Nat) (j : Int), ¬ (a = 59 ∨ a = 54 ∨ a = 55) → c2 a j = c a j) → 0 ≤ y ∧ y ≤ 1 → Z (.inl (some (vi y)), Wd P Q P P c2, 0, 0)) : Wp sc (d + 13) 198 0 [(0, .ref 41), (1, vi a1)] [] (Wd P Q P P c) 0 0 Z := by
  have hP := iv_P hI
  have hQ := iv_Q hI
  have hIo : Iv 59 (-1) P Q c := iv_open hI
  have hsum_1 := ir_59_r hI (by decide) (j := a1) (by omega)
  have h_2 := ir_59_g hI (j := 4 * a1) (by omega)
  have h_3 := ir_59_g hI (j := 4 * a1 + 1) (by omega)
  have h_4 := ir_59_g hI (j := 4 * a1 + 2) (by omega)
  have h_5 := ir_59_g hI (j := 4 * a1 + 3) (by omega)
  refine q_aload_n rfl rfl ?_
  refine q_iload_n rfl rfl ?_
  refine v_cv rfl rfl rfl rfl (by decide) ⟨⟨rfl, rfl⟩, by decide, rfl⟩ (Nat.le_of_ble_eq_true rfl) (Nat.le_of_ble_eq_true rfl) (s_197 (a1 := a1) hIo (show 0 ≤ a1 ∧ a1 ≤ 5 from by omega) (fun c_6 y_9 hI_7 hF_8 hy_9 => ?_))
  refine bk_inl ?_
  by_cases h_10 : y_9 ≠ 0
  · refine v_if_ne_t (t := 10) rfl (by decide) (by omega) ?_
    refine q_aload_n rfl rfl ?_
    refine v_gr (t := 59) rfl rfl rfl (by decide) rfl ?_
    refine v_bip rfl (by decide) ?_
    refine q_dup2 rfl ⟨rfl, rfl⟩ ?_
    have h_11 := ir_59 hI 36
    refine v_ia (v := c 59 36) rfl rfl (by decide) (by decide) (by decide) (hF_8 59 36 (by omega)) ?_
    refine q_aload_n rfl rfl ?_
    refine q_iload_n rfl rfl ?_
    refine v_cv rfl rfl rfl rfl (by decide) ⟨⟨rfl, rfl⟩, by decide, rfl⟩ (Nat.le_of_ble_eq_true rfl) (Nat.le_of_ble_eq_true rfl) (s_187 (v1 := c 59 (4 * a1)) (v2 := c 59 (4 * a1 + 1)) (v3 := c 59 (4 * a1 + 2)) (v4 := c 59 (4 * a1 + 3)) (r := c 59 (4 * a1 + 1) + c 59 (4 * a1 + 2) + c 59 (4 * a1 + 3) + c 59 (4 * a1)) (a1 := a1) hI_7 (show 0 ≤ a1 ∧ a1 ≤ 5 from by omega) ((hF_8 59 (4 * a1) (by omega))) ((hF_8 59 (4 * a1 + 1) (by omega))) ((hF_8 59 (4 * a1 + 2) (by omega))) ((hF_8 59 (4 * a1 + 3) (by omega))) (by omega) ?_)
    refine bk_inl ?_
    refine v_bip rfl (by decide) ?_
    refine v_idiv (v := ((c 59 (4 * a1 + 1) + c 59 (4 * a1 + 2) + c 59 (4 * a1 + 3) + c 59 (4 * a1)) / 10)) rfl (by omega) rfl ?_
    refine v_iadd (v := ((c 59 (4 * a1 + 1) + c 59 (4 * a1 + 2) + c 59 (4 * a1 + 3) + c 59 (4 * a1)) / 10) + c 59 36) rfl (by omega) ?_
    refine v_nrm (fun y_12 hy_12 => ?_)
    refine v_is rfl rfl (by decide) (by decide) (by decide) ?_
    refine q_aload_n rfl rfl ?_
    refine q_iload_n rfl rfl ?_
    have hI_13 := iw_row (a := 59) (j := 36) (v := y_12) hI_7 (by omega) (Or.inr (by omega)) ⟨by omega, by omega, by omega⟩
    refine v_cv rfl rfl rfl rfl (by decide) ⟨⟨rfl, rfl⟩, by decide, rfl⟩ (Nat.le_of_ble_eq_true rfl) (Nat.le_of_ble_eq_true rfl) (s_192 (a1 := a1) hI_13 (show 0 ≤ a1 ∧ a1 ≤ 5 from by omega) (fun c_14 hI_15 hF_16 h_17 => ?_))
    refine bk_inl ?_
    have h_18 := ir_59_g hI_15 (j := 4 * a1 + 1) (by omega)
    have h_19 := ir_59_g hI_15 (j := 4 * a1 + 2) (by omega)
    have h_20 := ir_59_g hI_15 (j := 4 * a1 + 3) (by omega)
    have h_21 := ir_59_g hI_15 (j := 4 * a1) (by omega)
    refine q_iconst rfl ?_
    refine v_zret rfl rfl (by omega) ?_
    have hr_22 : ∀ j : Int, rs 59 j → c_14 59 j + c_14 59 (j + 1) + c_14 59 (j + 2) + c_14 59 (j + 3) ≤ 9999 := by
      intro j9 hj9
      obtain ⟨k9, rfl, hk9⟩ := rs_59 hj9
      by_cases e_23 : k9 = a1
      · skip
        have h_24 : c_14 59 (4 * k9) = c_14 59 (4 * a1) := (congrArg (c_14 59) (show 4 * k9 = 4 * a1 from by omega))
        have h_25 : c_14 59 (4 * k9 + 1) = c_14 59 (4 * a1 + 1) := (congrArg (c_14 59) (show 4 * k9 + 1 = 4 * a1 + 1 from by omega))
        have h_26 : c_14 59 (4 * k9 + 2) = c_14 59 (4 * a1 + 2) := (congrArg (c_14 59) (show 4 * k9 + 2 = 4 * a1 + 2 from by omega))
        have h_27 : c_14 59 (4 * k9 + 3) = c_14 59 (4 * a1 + 3) := (congrArg (c_14 59) (show 4 * k9 + 3 = 4 * a1 + 3 from by omega))
        omega
      have h_28 := iv_r hI 59 (4 * k9) hj9 (by omega)
      have h_29 := ir_59_g hI (j := 4 * k9) (by omega)
      have h_30 : c_14 59 (4 * k9) = c 59 (4 * k9) := ((hF_16 59 (4 * k9) (by omega)).trans ((up_n (by omega)).trans (hF_8 59 (4 * k9) (by omega))))
      have h_31 := ir_59_g hI (j := 4 * k9 + 1) (by omega)
      have h_32 : c_14 59 (4 * k9 + 1) = c 59 (4 * k9 + 1) := ((hF_16 59 (4 * k9 + 1) (by omega)).trans ((up_n (by omega)).trans (hF_8 59 (4 * k9 + 1) (by omega))))
      have h_33 := ir_59_g hI (j := 4 * k9 + 2) (by omega)
      have h_34 : c_14 59 (4 * k9 + 2) = c 59 (4 * k9 + 2) := ((hF_16 59 (4 * k9 + 2) (by omega)).trans ((up_n (by omega)).trans (hF_8 59 (4 * k9 + 2) (by omega))))
      have h_35 := ir_59_g hI (j := 4 * k9 + 3) (by omega)
      have h_36 : c_14 59 (4 * k9 + 3) = c 59 (4 * k9 + 3) := ((hF_16 59 (4 * k9 + 3) (by omega)).trans ((up_n (by omega)).trans (hF_8 59 (4 * k9 + 3) (by omega))))
      omega
    have hI_37 := iv_close hI_15 hr_22
    exact K c_14 1 hI_37 (fun a j hm => (hF_16 a j (by omega)).trans ((up_b (by omega)).trans (hF_8 a j (by omega)))) ⟨by decide, by decide⟩
  · refine v_if_ne_f (t := 10) rfl (by decide) (by omega) ?_
    refine q_iconst rfl ?_
    refine v_zret rfl rfl (by omega) ?_
    have hr_38 : ∀ j : Int, rs 59 j → c_6 59 j + c_6 59 (j + 1) + c_6 59 (j + 2) + c_6 59 (j + 3) ≤ 9999 := by
      intro j9 hj9
      obtain ⟨k9, rfl, hk9⟩ := rs_59 hj9
      by_cases e_39 : k9 = a1
      · skip
        have h_40 : c_6 59 (4 * k9) = c 59 (4 * a1) := (congrArg (c_6 59) (show 4 * k9 = 4 * a1 from by omega)).trans (hF_8 59 (4 * a1) (by omega))
        have h_41 : c_6 59 (4 * k9 + 1) = c 59 (4 * a1 + 1) := (congrArg (c_6 59) (show 4 * k9 + 1 = 4 * a1 + 1 from by omega)).trans (hF_8 59 (4 * a1 + 1) (by omega))
        have h_42 : c_6 59 (4 * k9 + 2) = c 59 (4 * a1 + 2) := (congrArg (c_6 59) (show 4 * k9 + 2 = 4 * a1 + 2 from by omega)).trans (hF_8 59 (4 * a1 + 2) (by omega))
        have h_43 : c_6 59 (4 * k9 + 3) = c 59 (4 * a1 + 3) := (congrArg (c_6 59) (show 4 * k9 + 3 = 4 * a1 + 3 from by omega)).trans (hF_8 59 (4 * a1 + 3) (by omega))
        omega
      have h_44 := iv_r hI 59 (4 * k9) hj9 (by omega)
      have h_45 := ir_59_g hI (j := 4 * k9) (by omega)
      have h_46 : c_6 59 (4 * k9) = c 59 (4 * k9) := (hF_8 59 (4 * k9) (by omega))
      have h_47 := ir_59_g hI (j := 4 * k9 + 1) (by omega)
      have h_48 : c_6 59 (4 * k9 + 1) = c 59 (4 * k9 + 1) := (hF_8 59 (4 * k9 + 1) (by omega))
      have h_49 := ir_59_g hI (j := 4 * k9 + 2) (by omega)
      have h_50 : c_6 59 (4 * k9 + 2) = c 59 (4 * k9 + 2) := (hF_8 59 (4 * k9 + 2) (by omega))
      have h_51 := ir_59_g hI (j := 4 * k9 + 3) (by omega)
      have h_52 : c_6 59 (4 * k9 + 3) = c 59 (4 * k9 + 3) := (hF_8 59 (4 * k9 + 3) (by omega))
      omega
    have hI_53 := iv_close hI_7 hr_38
    exact K c_6 0 hI_53 (fun a j hm => hF_8 a j (by omega)) ⟨by decide, by decide⟩

set_option maxRecDepth 100000 in
set_option maxHeartbeats 4000000 in
theorem s_199_l {sc : List Int32} {e : Int} {d u P Q : Nat} {c : ME} {Z : AR → Prop} (hI : Iv u e P Q c)  (K : ∀ (c2 : ME), Iv u e P Q c2 → (∀ (a : Nat) (j : Int), ¬ (a = 59) → c2 a j = c a j) → Z (.inl (none), Wd P Q P P c2, 0, 0)) : ∀ n : Nat, (∀ (c2 : ME) (v1 : Int), Iv u e P Q c2 → (∀ (a : Nat) (j : Int), ¬ (a = 59) → c2 a j = c a j) → 0 ≤ v1 ∧ v1 ≤ 6 → 13 - 2 * v1 < (n : Int) → Wp sc (d + 8) 199 2 [(0, .ref 41), (1, vi v1)] [] (Wd P Q P P c2) 0 0 Z)
  | 0 => by intro c2 v1 hI2 hF hv1 hm9; have hP := iv_P hI; have hQ := iv_Q hI; exfalso; omega
  | n + 1 => by
    have hP := iv_P hI
    have hQ := iv_Q hI
    have ih := s_199_l (sc := sc) (d := d) hI K n
    intro c2 v1 hI2 hF hv1 hm9
    refine q_iload_n rfl rfl ?_
    refine q_aload_n rfl rfl ?_
    have h_1 := ir_41_20 hI
    refine v_gi (z := 20) (v := c 41 20) rfl rfl rfl (by decide) rfl rfl (hF 41 20 (by omega)) ?_
    by_cases h_2 : v1 ≥ c 41 20
    · refine v_ic_ge_t (t := 41) rfl (by decide) (by omega) ?_
      refine q_aload_n rfl rfl ?_
      refine v_gr (t := 59) rfl rfl rfl (by decide) rfl ?_
      refine v_bip rfl (by decide) ?_
      refine q_dup2 rfl ⟨rfl, rfl⟩ ?_
      have h_3 := ir_59 hI2 34
      refine v_ia (v := c2 59 34) rfl rfl (by decide) (by decide) (by decide) rfl ?_
      refine q_iconst rfl ?_
      refine v_iadd (v := c2 59 34 + 1) rfl (by omega) ?_
      refine v_nrm (fun y_4 hy_4 => ?_)
      refine v_is rfl rfl (by decide) (by decide) (by decide) ?_
      refine q_vret rfl rfl ?_
      have hI_5 := iw_row (a := 59) (j := 34) (v := y_4) hI2 (by omega) (Or.inr (by omega)) ⟨by omega, by omega, by omega⟩
      exact K (up c2 59 34 y_4) hI_5 (fun a j hm => (up_b (by omega)).trans (hF a j (by omega)))
    · refine v_ic_ge_f (t := 41) rfl (by decide) (by omega) ?_
      refine q_aload_n rfl rfl ?_
      refine v_gr (t := 59) rfl rfl rfl (by decide) rfl ?_
      refine v_bip rfl (by decide) ?_
      refine q_iload_n rfl rfl ?_
      refine v_iadd (v := v1 + 24) rfl (by omega) ?_
      refine q_dup2 rfl ⟨rfl, rfl⟩ ?_
      have h_6 := ir_59 hI2 (v1 + 24)
      refine v_ia (v := c2 59 (v1 + 24)) rfl rfl (by decide) (by decide) (by omega) rfl ?_
      refine q_aload_n rfl rfl ?_
      refine q_iload_n rfl rfl ?_
      have h_7 := ir_59_g hI2 (j := 4 * v1) (by omega)
      have h_8 := ir_59_g hI2 (j := 4 * v1 + 1) (by omega)
      have h_9 := ir_59_g hI2 (j := 4 * v1 + 2) (by omega)
      have h_10 := ir_59_g hI2 (j := 4 * v1 + 3) (by omega)
      refine v_cv rfl rfl rfl rfl (by decide) ⟨⟨rfl, rfl⟩, by decide, rfl⟩ (Nat.le_of_ble_eq_true rfl) (Nat.le_of_ble_eq_true rfl) (s_187 (v1 := c2 59 (4 * v1)) (v2 := c2 59 (4 * v1 + 1)) (v3 := c2 59 (4 * v1 + 2)) (v4 := c2 59 (4 * v1 + 3)) (r := c2 59 (4 * v1 + 1) + c2 59 (4 * v1 + 2) + c2 59 (4 * v1 + 3) + c2 59 (4 * v1)) (a1 := v1) hI2 (show 0 ≤ v1 ∧ v1 ≤ 5 from by omega) (rfl) (rfl) (rfl) (rfl) (by omega) ?_)
      refine bk_inl ?_
      by_cases h_11 : c2 59 (4 * v1 + 1) + c2 59 (4 * v1 + 2) + c2 59 (4 * v1 + 3) + c2 59 (4 * v1) ≤ 0
      · refine v_if_le_t (t := 32) rfl (by decide) (by omega) ?_
        refine q_iconst rfl ?_
        refine v_iadd (v := c2 59 (v1 + 24)) rfl (by omega) ?_
        refine v_is rfl rfl (by decide) (by decide) (by omega) ?_
        refine v_iinc (v := v1 + 1) rfl rfl (by decide) (by omega) ?_
        refine q_goto (t := 2) rfl (by decide) ?_
        have hI_12 := iw_row (a := 59) (j := v1 + 24) (v := c2 59 (v1 + 24)) hI2 (by omega) (Or.inr (by omega)) ⟨by omega, by omega, by omega⟩
        refine Wp_ls [(0, .ref 41), (1, vi (v1 + 1))] (lsub_cons rfl (lsub_cons rfl lsub_nil)) ?_
        exact ih (up c2 59 (v1 + 24) (c2 59 (v1 + 24))) (v1 + 1) hI_12 (fun a j hm => (up_b (by omega)).trans (hF a j (by omega))) ⟨by omega, by omega⟩ (by omega)
      · refine v_if_le_f (t := 32) rfl (by decide) (by omega) ?_
        refine q_iconst rfl ?_
        refine q_goto (t := 33) rfl (by decide) ?_
        refine v_iadd (v := c2 59 (v1 + 24) + 1) rfl (by omega) ?_
        refine v_nrm (fun y_13 hy_13 => ?_)
        refine v_is rfl rfl (by decide) (by decide) (by omega) ?_
        refine v_iinc (v := v1 + 1) rfl rfl (by decide) (by omega) ?_
        refine q_goto (t := 2) rfl (by decide) ?_
        have hI_14 := iw_row (a := 59) (j := v1 + 24) (v := y_13) hI2 (by omega) (Or.inr (by omega)) ⟨by omega, by omega, by omega⟩
        refine Wp_ls [(0, .ref 41), (1, vi (v1 + 1))] (lsub_cons rfl (lsub_cons rfl lsub_nil)) ?_
        exact ih (up c2 59 (v1 + 24) y_13) (v1 + 1) hI_14 (fun a j hm => (up_b (by omega)).trans (hF a j (by omega))) ⟨by omega, by omega⟩ (by omega)
set_option maxRecDepth 100000 in
set_option maxHeartbeats 4000000 in
theorem s_199 {sc : List Int32} {e : Int} {d u P Q : Nat} {c : ME} {Z : AR → Prop} (hI : Iv u e P Q c)  (K : ∀ (c2 : ME), Iv u e P Q c2 → (∀ (a : Nat) (j : Int), ¬ (a = 59) → c2 a j = c a j) → Z (.inl (none), Wd P Q P P c2, 0, 0)) : Wp sc (d + 8) 199 0 [(0, .ref 41)] [] (Wd P Q P P c) 0 0 Z := by
  have hP := iv_P hI
  have hQ := iv_Q hI
  refine q_iconst rfl ?_
  refine q_istore_n rfl (by decide) ?_
  refine Wp_ls [(0, .ref 41), (1, vi 0)] (lsub_cons rfl (lsub_cons rfl lsub_nil)) ?_
  exact (s_199_l (sc := sc) (d := d) hI K 16) c 0 hI (fun a j hm => rfl) ⟨by decide, by decide⟩ (by omega)

set_option maxRecDepth 100000 in
set_option maxHeartbeats 4000000 in
theorem s_200 {sc : List Int32} {d P Q : Nat} {c : ME} {t : Int} {Z : AR → Prop} (hI : Iv 0 (-1) P Q c) (ht : 0 ≤ t ∧ t ≤ 49) (K : ∀ (c2 : ME) (y : Int), Iv 0 (-1) P Q c2 → (∀ (a : Nat) (j : Int), ¬ (a = 59 ∨ a = 54 ∨ a = 55) → c2 a j = c a j) → 0 ≤ y ∧ y ≤ 1 → Z (.inl (some (vi y)), Wd P Q P P c2, 0, 0)) : Wp sc (d + 14) 200 0 [(0, .ref 41), (1, vi (5 * t))] [] (Wd P Q P P c) 0 0 Z := by
  have hP := iv_P hI
  have hQ := iv_Q hI
  have h_1 := ir_57 hI (5 * t)
  have h_2 := ir_57 hI (5 * t + 1)
  have h_3 := ir_57 hI (5 * t + 2)
  have h_4 := ir_ag hI (a := 57) (by omega) (t := t) (by omega) (by omega)
  have h_5 := ir_57 hI (5 * t + 3)
  have h_6 := ir_57 hI (5 * t + 4)
  have hso := ir_so (a := 57) hI (by unfold Sg; omega) (t := t) (by omega) (by omega)
  refine q_aload_n rfl rfl ?_
  refine v_gr (t := 57) rfl rfl rfl (by decide) rfl ?_
  refine q_iload_n rfl rfl ?_
  refine v_ia (v := c 57 (5 * t)) rfl rfl (by decide) (by decide) (by omega) rfl ?_
  refine q_istore_n rfl (by decide) ?_
  refine q_aload_n rfl rfl ?_
  refine v_gr (t := 57) rfl rfl rfl (by decide) rfl ?_
  refine q_iload_n rfl rfl ?_
  refine q_iconst rfl ?_
  refine v_iadd (v := 5 * t + 1) rfl (by omega) ?_
  refine v_ia (v := c 57 (5 * t + 1)) rfl rfl (by decide) (by decide) (by omega) rfl ?_
  refine q_istore_n rfl (by decide) ?_
  refine q_aload_n rfl rfl ?_
  refine v_gr (t := 57) rfl rfl rfl (by decide) rfl ?_
  refine q_iload_n rfl rfl ?_
  refine q_iconst rfl ?_
  refine v_iadd (v := 5 * t + 2) rfl (by omega) ?_
  refine v_ia (v := c 57 (5 * t + 2)) rfl rfl (by decide) (by decide) (by omega) rfl ?_
  refine q_istore rfl (by decide) ?_
  refine q_aload_n rfl rfl ?_
  refine v_gr (t := 57) rfl rfl rfl (by decide) rfl ?_
  refine q_iload_n rfl rfl ?_
  refine q_iconst rfl ?_
  refine v_iadd (v := 5 * t + 3) rfl (by omega) ?_
  refine v_ia (v := c 57 (5 * t + 3)) rfl rfl (by decide) (by decide) (by omega) rfl ?_
  refine q_istore rfl (by decide) ?_
  refine q_iload_n rfl rfl ?_
  by_cases h_7 : c 57 (5 * t) ≠ 0
  · refine v_if_ne_t (t := 48) rfl (by decide) (by omega) ?_
    refine q_iload_n rfl rfl ?_
    refine q_iconst rfl ?_
    by_cases h_8 : c 57 (5 * t) ≠ 1
    · refine v_ic_ne_t (t := 71) rfl (by decide) (by omega) ?_
      refine q_iload_n rfl rfl ?_
      refine q_iconst rfl ?_
      by_cases h_9 : c 57 (5 * t) ≠ 2
      · refine v_ic_ne_t (t := 89) rfl (by decide) (by omega) ?_
        refine q_iload_n rfl rfl ?_
        refine q_iconst rfl ?_
        by_cases h_10 : c 57 (5 * t) ≠ 3
        · refine v_ic_ne_t (t := 104) rfl (by decide) (by omega) ?_
          refine q_iload_n rfl rfl ?_
          refine q_iconst rfl ?_
          by_cases h_11 : c 57 (5 * t) ≠ 5
          · refine v_ic_ne_t (t := 115) rfl (by decide) (by omega) ?_
            refine q_iload_n rfl rfl ?_
            refine v_bip rfl (by decide) ?_
            by_cases h_12 : c 57 (5 * t) ≠ 6
            · refine v_ic_ne_t (t := 136) rfl (by decide) (by omega) ?_
              refine q_iload_n rfl rfl ?_
              refine q_iconst rfl ?_
              by_cases h_13 : c 57 (5 * t) ≠ 4
              · refine v_ic_ne_t (t := 164) rfl (by decide) (by omega) ?_
                refine q_aload_n rfl rfl ?_
                refine v_cv rfl rfl rfl rfl (by decide) ⟨⟨rfl, rfl⟩, by decide, rfl⟩ (Nat.le_of_ble_eq_true rfl) (Nat.le_of_ble_eq_true rfl) (s_199 hI (fun c_14 hI_15 hF_16 => ?_))
                refine bk_inl ?_
                refine q_iconst rfl ?_
                refine v_zret rfl rfl (by omega) ?_
                exact K c_14 1 hI_15 (fun a j hm => hF_16 a j (by omega)) ⟨by decide, by decide⟩
              · refine v_ic_ne_f (t := 164) rfl (by decide) (by omega) ?_
                refine q_aload_n rfl rfl ?_
                refine v_gr (t := 59) rfl rfl rfl (by decide) rfl ?_
                refine v_bip rfl (by decide) ?_
                refine q_iload_n rfl rfl ?_
                refine v_iadd (v := c 57 (5 * t + 1) + 30) rfl (by omega) ?_
                refine q_iconst rfl ?_
                refine q_aload_n rfl rfl ?_
                refine v_gr (t := 59) rfl rfl rfl (by decide) rfl ?_
                refine v_bip rfl (by decide) ?_
                refine q_iload_n rfl rfl ?_
                refine v_iadd (v := c 57 (5 * t + 1) + 30) rfl (by omega) ?_
                have h_17 := ir_59 hI (c 57 (5 * t + 1) + 30)
                refine v_ia (v := c 59 (c 57 (5 * t + 1) + 30)) rfl rfl (by decide) (by decide) (by omega) rfl ?_
                refine v_isub (v := 1 - c 59 (c 57 (5 * t + 1) + 30)) rfl (by omega) ?_
                refine v_nrm (fun y_18 hy_18 => ?_)
                refine v_is rfl rfl (by decide) (by decide) (by omega) ?_
                refine q_goto (t := 168) rfl (by decide) ?_
                refine q_iconst rfl ?_
                refine v_zret rfl rfl (by omega) ?_
                have hI_19 := iw_row (a := 59) (j := c 57 (5 * t + 1) + 30) (v := y_18) hI (by omega) (Or.inr (by omega)) ⟨by omega, by omega, by omega⟩
                exact K (up c 59 (c 57 (5 * t + 1) + 30) y_18) 1 hI_19 (fun a j hm => up_b (by omega)) ⟨by decide, by decide⟩
            · refine v_ic_ne_f (t := 136) rfl (by decide) (by omega) ?_
              refine q_aload_n rfl rfl ?_
              refine v_gr (t := 59) rfl rfl rfl (by decide) rfl ?_
              refine v_bip rfl (by decide) ?_
              have h_20 := ir_59 hI 34
              refine v_ia (v := c 59 34) rfl rfl (by decide) (by decide) (by decide) rfl ?_
              refine v_sip rfl (by decide) ?_
              by_cases h_21 : c 59 34 < 400
              · refine v_ic_lt_t (t := 136) rfl (by decide) (by omega) ?_
                refine q_iload_n rfl rfl ?_
                refine q_iconst rfl ?_
                refine v_ic_ne_t (t := 164) rfl (by decide) (by omega) ?_
                refine q_aload_n rfl rfl ?_
                refine v_cv rfl rfl rfl rfl (by decide) ⟨⟨rfl, rfl⟩, by decide, rfl⟩ (Nat.le_of_ble_eq_true rfl) (Nat.le_of_ble_eq_true rfl) (s_199 hI (fun c_22 hI_23 hF_24 => ?_))
                refine bk_inl ?_
                refine q_iconst rfl ?_
                refine v_zret rfl rfl (by omega) ?_
                exact K c_22 1 hI_23 (fun a j hm => hF_24 a j (by omega)) ⟨by decide, by decide⟩
              · refine v_ic_lt_f (t := 136) rfl (by decide) (by omega) ?_
                refine q_iconst rfl ?_
                refine v_zret rfl rfl (by omega) ?_
                exact K c 0 hI (fun a j hm => rfl) ⟨by decide, by decide⟩
          · refine v_ic_ne_f (t := 115) rfl (by decide) (by omega) ?_
            refine q_aload_n rfl rfl ?_
            refine q_iload_n rfl rfl ?_
            refine v_cv rfl rfl rfl rfl (by decide) ⟨⟨rfl, rfl⟩, by decide, rfl⟩ (Nat.le_of_ble_eq_true rfl) (Nat.le_of_ble_eq_true rfl) (s_198 (a1 := c 57 (5 * t + 1)) hI (show 0 ≤ c 57 (5 * t + 1) ∧ c 57 (5 * t + 1) ≤ 5 from by omega) (fun c_25 y_28 hI_26 hF_27 hy_28 => ?_))
            refine bk_inl ?_
            refine v_zret rfl rfl (by omega) ?_
            exact K c_25 y_28 hI_26 (fun a j hm => hF_27 a j (by omega)) ⟨by omega, by omega⟩
        · refine v_ic_ne_f (t := 104) rfl (by decide) (by omega) ?_
          refine q_aload_n rfl rfl ?_
          refine q_iload_n rfl rfl ?_
          refine q_iload rfl rfl ?_
          refine q_iload rfl rfl ?_
          refine v_cv rfl rfl rfl rfl (by decide) ⟨⟨rfl, rfl⟩, by decide, rfl⟩ (Nat.le_of_ble_eq_true rfl) (Nat.le_of_ble_eq_true rfl) (s_194 (a1 := c 57 (5 * t + 1)) (a2 := c 57 (5 * t + 2)) (a3 := c 57 (5 * t + 3)) hI (show 0 ≤ c 57 (5 * t + 1) ∧ c 57 (5 * t + 1) ≤ 5 from by omega) (show 0 ≤ c 57 (5 * t + 2) ∧ c 57 (5 * t + 2) ≤ 5 from by omega) (show 0 ≤ c 57 (5 * t + 3) ∧ c 57 (5 * t + 3) ≤ 99999 from by omega) (fun c_29 y_32 hI_30 hF_31 hy_32 => ?_))
          refine bk_inl ?_
          refine v_zret rfl rfl (by omega) ?_
          exact K c_29 y_32 hI_30 (fun a j hm => hF_31 a j (by omega)) ⟨by omega, by omega⟩
      · refine v_ic_ne_f (t := 89) rfl (by decide) (by omega) ?_
        refine q_aload_n rfl rfl ?_
        refine q_iload_n rfl rfl ?_
        refine q_iload rfl rfl ?_
        refine q_aload_n rfl rfl ?_
        refine q_iload_n rfl rfl ?_
        have h_33 := ir_59_g hI (j := 4 * c 57 (5 * t + 1)) (by omega)
        have h_34 := ir_59_g hI (j := 4 * c 57 (5 * t + 1) + 1) (by omega)
        have h_35 := ir_59_g hI (j := 4 * c 57 (5 * t + 1) + 2) (by omega)
        have h_36 := ir_59_g hI (j := 4 * c 57 (5 * t + 1) + 3) (by omega)
        refine v_cv rfl rfl rfl rfl (by decide) ⟨⟨rfl, rfl⟩, by decide, rfl⟩ (Nat.le_of_ble_eq_true rfl) (Nat.le_of_ble_eq_true rfl) (s_187 (v1 := c 59 (4 * c 57 (5 * t + 1))) (v2 := c 59 (4 * c 57 (5 * t + 1) + 1)) (v3 := c 59 (4 * c 57 (5 * t + 1) + 2)) (v4 := c 59 (4 * c 57 (5 * t + 1) + 3)) (r := c 59 (4 * c 57 (5 * t + 1) + 1) + c 59 (4 * c 57 (5 * t + 1) + 2) + c 59 (4 * c 57 (5 * t + 1) + 3) + c 59 (4 * c 57 (5 * t + 1))) (a1 := c 57 (5 * t + 1)) hI (show 0 ≤ c 57 (5 * t + 1) ∧ c 57 (5 * t + 1) ≤ 5 from by omega) ((congrArg (c 59) (show 4 * (c 57 (5 * t + 1)) = 4 * c 57 (5 * t + 1) from by omega))) ((congrArg (c 59) (show 4 * (c 57 (5 * t + 1)) + 1 = 4 * c 57 (5 * t + 1) + 1 from by omega))) ((congrArg (c 59) (show 4 * (c 57 (5 * t + 1)) + 2 = 4 * c 57 (5 * t + 1) + 2 from by omega))) ((congrArg (c 59) (show 4 * (c 57 (5 * t + 1)) + 3 = 4 * c 57 (5 * t + 1) + 3 from by omega))) (by omega) ?_)
        refine bk_inl ?_
        refine v_cv rfl rfl rfl rfl (by decide) ⟨⟨rfl, rfl⟩, by decide, rfl⟩ (Nat.le_of_ble_eq_true rfl) (Nat.le_of_ble_eq_true rfl) (s_194 (a1 := c 57 (5 * t + 1)) (a2 := c 57 (5 * t + 2)) (a3 := c 59 (4 * c 57 (5 * t + 1) + 1) + c 59 (4 * c 57 (5 * t + 1) + 2) + c 59 (4 * c 57 (5 * t + 1) + 3) + c 59 (4 * c 57 (5 * t + 1))) hI (show 0 ≤ c 57 (5 * t + 1) ∧ c 57 (5 * t + 1) ≤ 5 from by omega) (show 0 ≤ c 57 (5 * t + 2) ∧ c 57 (5 * t + 2) ≤ 5 from by omega) (show 0 ≤ c 59 (4 * c 57 (5 * t + 1) + 1) + c 59 (4 * c 57 (5 * t + 1) + 2) + c 59 (4 * c 57 (5 * t + 1) + 3) + c 59 (4 * c 57 (5 * t + 1)) ∧ c 59 (4 * c 57 (5 * t + 1) + 1) + c 59 (4 * c 57 (5 * t + 1) + 2) + c 59 (4 * c 57 (5 * t + 1) + 3) + c 59 (4 * c 57 (5 * t + 1)) ≤ 99999 from by omega) (fun c_37 y_40 hI_38 hF_39 hy_40 => ?_))
        refine bk_inl ?_
        refine v_zret rfl rfl (by omega) ?_
        exact K c_37 y_40 hI_38 (fun a j hm => hF_39 a j (by omega)) ⟨by omega, by omega⟩
    · refine v_ic_ne_f (t := 71) rfl (by decide) (by omega) ?_
      refine q_aload_n rfl rfl ?_
      refine q_iload_n rfl rfl ?_
      refine q_iload rfl rfl ?_
      refine q_iload rfl rfl ?_
      refine q_aload_n rfl rfl ?_
      refine v_gr (t := 57) rfl rfl rfl (by decide) rfl ?_
      refine q_iload_n rfl rfl ?_
      refine q_iconst rfl ?_
      refine v_iadd (v := 5 * t + 4) rfl (by omega) ?_
      refine v_ia (v := c 57 (5 * t + 4)) rfl rfl (by decide) (by decide) (by omega) rfl ?_
      refine v_cv rfl rfl rfl rfl (by decide) ⟨⟨rfl, rfl⟩, by decide, rfl⟩ (Nat.le_of_ble_eq_true rfl) (Nat.le_of_ble_eq_true rfl) (s_193 (a1 := c 57 (5 * t + 1)) (a2 := c 57 (5 * t + 2)) (a3 := c 57 (5 * t + 3)) (a4 := c 57 (5 * t + 4)) hI (show 0 ≤ c 57 (5 * t + 1) ∧ c 57 (5 * t + 1) ≤ 3 from by omega) (show 0 ≤ c 57 (5 * t + 2) ∧ c 57 (5 * t + 2) ≤ 5 from by omega) (show 0 ≤ c 57 (5 * t + 3) ∧ c 57 (5 * t + 3) ≤ 5 from by omega) (show 0 ≤ c 57 (5 * t + 4) ∧ c 57 (5 * t + 4) ≤ 5 from by omega) (fun c_41 y_44 hI_42 hF_43 hy_44 => ?_))
      refine bk_inl ?_
      refine v_zret rfl rfl (by omega) ?_
      exact K c_41 y_44 hI_42 (fun a j hm => hF_43 a j (by omega)) ⟨by omega, by omega⟩
  · refine v_if_ne_f (t := 48) rfl (by decide) (by omega) ?_
    refine q_aload_n rfl rfl ?_
    refine q_iload_n rfl rfl ?_
    refine q_iload rfl rfl ?_
    refine v_cv rfl rfl rfl rfl (by decide) ⟨⟨rfl, rfl⟩, by decide, rfl⟩ (Nat.le_of_ble_eq_true rfl) (Nat.le_of_ble_eq_true rfl) (s_188 (a1 := c 57 (5 * t + 1)) (a2 := c 57 (5 * t + 2)) hI (show 0 ≤ c 57 (5 * t + 1) ∧ c 57 (5 * t + 1) ≤ 3 from by omega) (show 0 ≤ c 57 (5 * t + 2) ∧ c 57 (5 * t + 2) ≤ 5 from by omega) (fun c_45 y_48 hI_46 hF_47 hy_48 => ?_))
    refine bk_inl ?_
    refine v_zret rfl rfl (by omega) ?_
    exact K c_45 y_48 hI_46 (fun a j hm => hF_47 a j (by omega)) ⟨by omega, by omega⟩

set_option maxRecDepth 100000 in
set_option maxHeartbeats 4000000 in
theorem s_201_l {sc : List Int32} {d P Q : Nat} {c : ME} {t : Int} {a2 : Int} {Z : AR → Prop} (hI : Iv 0 (-1) P Q c) (ht : 0 ≤ t ∧ t ≤ 50) (ha2 : 0 ≤ a2 ∧ a2 ≤ 250) (H201 : ∀ (c : ME) (t2 : Int) (a2 : Int) (Z : AR → Prop), t + 1 ≤ t2 ∧ t2 ≤ 50 → Iv 0 (-1) P Q c → 0 ≤ a2 ∧ a2 ≤ 250 → (∀ c2 : ME, Iv 0 (-1) P Q c2 → (∀ (a : Nat) (j : Int), ¬ ((a = 41 ∧ j = 37) ∨ (a = 41 ∧ j = 38) ∨ (a = 41 ∧ j = 39) ∨ a = 59 ∨ a = 54 ∨ a = 55) → c2 a j = c a j) → (c2 41 37 ≥ c 41 37) → Z (.inl none, Wd P Q P P c2, 0, 0)) → Wp sc (d + 15) 201 0 [(0, .ref 41), (1, vi (5 * t2)), (2, vi a2)] [] (Wd P Q P P c) 0 0 Z) (K : ∀ (c2 : ME), Iv 0 (-1) P Q c2 → (∀ (a : Nat) (j : Int), ¬ ((a = 41 ∧ j = 37) ∨ (a = 41 ∧ j = 38) ∨ (a = 41 ∧ j = 39) ∨ a = 59 ∨ a = 54 ∨ a = 55) → c2 a j = c a j) → ((c2 41 37 ≥ c 41 37)) → Z (.inl (none), Wd P Q P P c2, 0, 0)) : ∀ n : Nat, (∀ (c2 : ME) (v3 : Int), Iv 0 (-1) P Q c2 → (∀ (a : Nat) (j : Int), ¬ ((a = 41 ∧ j = 37) ∨ (a = 41 ∧ j = 38) ∨ (a = 41 ∧ j = 39) ∨ a = 59 ∨ a = 54 ∨ a = 55) → c2 a j = c a j) → 0 ≤ v3 ∧ v3 ≤ 50 → ((c2 41 37 ≥ c 41 37)) → ((v3 ≥ t)) → 40002000 - 200010 * c2 41 37 < (n : Int) → Wp sc (d + 16) 201 2 [(0, .ref 41), (1, vi (5 * t)), (2, vi a2), (3, vi (5 * v3))] [] (Wd P Q P P c2) 0 0 Z) ∧ (∀ (c2 : ME) (v3 : Int) (v4 : Int) (v5 : Int), Iv 0 (-1) P Q c2 → (∀ (a : Nat) (j : Int), ¬ ((a = 41 ∧ j = 37) ∨ (a = 41 ∧ j = 38) ∨ (a = 41 ∧ j = 39) ∨ a = 59 ∨ a = 54 ∨ a = 55) → c2 a j = c a j) → 0 ≤ v3 ∧ v3 ≤ 49 → 0 ≤ v4 ∧ v4 ≤ 50 → 0 ≤ v5 ∧ v5 ≤ 999 → ((c2 41 37 ≥ c 41 37)) → ((v3 ≥ t)) → ((v4 ≥ v3 + 1)) → 40202003 - 200010 * c2 41 37 - 2 * v5 < (n : Int) → Wp sc (d + 16) 201 51 [(0, .ref 41), (1, vi (5 * t)), (2, vi a2), (3, vi (5 * v3)), (4, vi (5 * v4)), (5, vi v5)] [] (Wd P Q P P c2) 0 0 Z)
  | 0 => by exact ⟨by (intro c2 v3 hI2 hF hv3 hx0 hx1 hm9; have hP := iv_P hI; have hQ := iv_Q hI; have h_37 := ir_41_37 hI2; exfalso; omega), by (intro c2 v3 v4 v5 hI2 hF hv3 hv4 hv5 hx0 hx1 hx2 hm9; have hP := iv_P hI; have hQ := iv_Q hI; have h_38 := ir_41_37 hI2; exfalso; omega)⟩
  | n + 1 => by
    have hP := iv_P hI
    have hQ := iv_Q hI
    have ih := s_201_l (sc := sc) (d := d) hI ht ha2 H201 K n
    refine ⟨?_, ?_⟩
    · skip
      intro c2 v3 hI2 hF hv3 hx0 hx1 hm9
      have h_1 := ir_41_37 hI
      have h_2 := ir_41_37 hI2
      refine q_iload_n rfl rfl ?_
      refine q_iload_n rfl rfl ?_
      by_cases h_3 : 5 * v3 ≥ a2
      · refine v_ic_ge_t (t := 132) rfl (by decide) (by omega) ?_
        refine q_vret rfl rfl ?_
        exact K c2 hI2 (fun a j hm => hF a j (by omega)) (by omega)
      · refine v_ic_ge_f (t := 132) rfl (by decide) (by omega) ?_
        refine q_aload_n rfl rfl ?_
        refine v_gi (z := 37) (v := c2 41 37) rfl rfl rfl (by decide) rfl rfl rfl ?_
        refine v_sip rfl (by decide) ?_
        by_cases h_4 : c2 41 37 ≥ 200
        · refine v_ic_ge_t (t := 132) rfl (by decide) (by omega) ?_
          refine q_vret rfl rfl ?_
          exact K c2 hI2 (fun a j hm => hF a j (by omega)) (by omega)
        · refine v_ic_ge_f (t := 132) rfl (by decide) (by omega) ?_
          refine q_aload_n rfl rfl ?_
          refine q_dup rfl rfl ?_
          refine v_gi (z := 37) (v := c2 41 37) rfl rfl rfl (by decide) rfl rfl rfl ?_
          refine q_iconst rfl ?_
          refine v_iadd (v := c2 41 37 + 1) rfl (by omega) ?_
          refine v_pi (z := 37) rfl rfl rfl (by decide) rfl rfl rfl (by decide) ?_
          refine q_aload_n rfl rfl ?_
          refine v_gr (t := 57) rfl rfl rfl (by decide) rfl ?_
          refine q_iload_n rfl rfl ?_
          have h_5 := ir_57 hI (5 * v3)
          refine v_ia (v := c 57 (5 * v3)) rfl rfl (by decide) (by decide) (by omega) ((up_c (by decide)).trans (hF 57 (5 * v3) (by omega))) ?_
          refine v_bip rfl (by decide) ?_
          by_cases h_6 : c 57 (5 * v3) ≠ 7
          · refine v_ic_ne_t (t := 95) rfl (by decide) (by omega) ?_
            refine q_aload_n rfl rfl ?_
            refine q_iload_n rfl rfl ?_
            have hI_7 := iw_41_37 (v := c2 41 37 + 1) hI2 ⟨by omega, by omega⟩
            refine v_cv rfl rfl rfl rfl (by decide) ⟨⟨rfl, rfl⟩, by decide, rfl⟩ (Nat.le_of_ble_eq_true rfl) (Nat.le_of_ble_eq_true rfl) (s_200 (t := v3) hI_7 (show 0 ≤ v3 ∧ v3 ≤ 49 from by omega) (fun c_8 y_11 hI_9 hF_10 hy_11 => ?_))
            refine bk_inl ?_
            by_cases h_12 : y_11 = 0
            · refine v_if_eq_t (t := 116) rfl (by decide) (by omega) ?_
              refine q_aload_n rfl rfl ?_
              refine q_dup rfl rfl ?_
              have h_13 := ir_41_39 hI2
              refine v_gi (z := 39) (v := c2 41 39) rfl rfl rfl (by decide) rfl rfl ((hF_10 41 39 (by omega)).trans (up_n (by decide))) ?_
              refine q_iconst rfl ?_
              refine v_iadd (v := c2 41 39 + 1) rfl (by omega) ?_
              refine v_nrm (fun y_14 hy_14 => ?_)
              refine v_pi (z := 39) rfl rfl rfl (by decide) rfl rfl rfl (by decide) ?_
              refine v_iinc (v := 5 * v3 + 5) rfl rfl (by decide) (by omega) ?_
              refine q_goto (t := 2) rfl (by decide) ?_
              have hI_15 := iw_41_39 (v := y_14) hI_9 ⟨by omega, by omega⟩
              refine Wp_ls [(0, .ref 41), (1, vi (5 * t)), (2, vi a2), (3, vi (5 * v3 + 5))] (lsub_cons rfl (lsub_cons rfl (lsub_cons rfl (lsub_cons rfl lsub_nil)))) ?_
              have h_16 : (up c_8 41 39 y_14) 41 37 = c2 41 37 + 1 := ((up_n (by decide)).trans ((hF_10 41 37 (by omega)).trans (up_e rfl)))
              exact ih.1 (up c_8 41 39 y_14) (v3 + 1) hI_15 (fun a j hm => (up_b (by omega)).trans ((hF_10 a j (by omega)).trans ((up_b (by omega)).trans (hF a j (by omega))))) ⟨by omega, by omega⟩ (by omega) (by omega) (by omega)
            · refine v_if_eq_f (t := 116) rfl (by decide) (by omega) ?_
              refine q_aload_n rfl rfl ?_
              refine q_dup rfl rfl ?_
              have h_17 := ir_41_38 hI2
              refine v_gi (z := 38) (v := c2 41 38) rfl rfl rfl (by decide) rfl rfl ((hF_10 41 38 (by omega)).trans (up_n (by decide))) ?_
              refine q_iconst rfl ?_
              refine v_iadd (v := c2 41 38 + 1) rfl (by omega) ?_
              refine v_nrm (fun y_18 hy_18 => ?_)
              refine v_pi (z := 38) rfl rfl rfl (by decide) rfl rfl rfl (by decide) ?_
              refine q_goto (t := 126) rfl (by decide) ?_
              refine v_iinc (v := 5 * v3 + 5) rfl rfl (by decide) (by omega) ?_
              refine q_goto (t := 2) rfl (by decide) ?_
              have hI_19 := iw_41_38 (v := y_18) hI_9 ⟨by omega, by omega⟩
              refine Wp_ls [(0, .ref 41), (1, vi (5 * t)), (2, vi a2), (3, vi (5 * v3 + 5))] (lsub_cons rfl (lsub_cons rfl (lsub_cons rfl (lsub_cons rfl lsub_nil)))) ?_
              have h_20 : (up c_8 41 38 y_18) 41 37 = c2 41 37 + 1 := ((up_n (by decide)).trans ((hF_10 41 37 (by omega)).trans (up_e rfl)))
              exact ih.1 (up c_8 41 38 y_18) (v3 + 1) hI_19 (fun a j hm => (up_b (by omega)).trans ((hF_10 a j (by omega)).trans ((up_b (by omega)).trans (hF a j (by omega))))) ⟨by omega, by omega⟩ (by omega) (by omega) (by omega)
          · refine v_ic_ne_f (t := 95) rfl (by decide) (by omega) ?_
            refine q_aload_n rfl rfl ?_
            refine v_gr (t := 57) rfl rfl rfl (by decide) rfl ?_
            refine q_iload_n rfl rfl ?_
            refine q_iconst rfl ?_
            refine v_iadd (v := 5 * v3 + 2) rfl (by omega) ?_
            have h_21 := ir_57 hI (5 * v3 + 2)
            have h_22 := ir_ag hI (a := 57) (by omega) (t := v3) (by omega) (by omega)
            refine v_ia (v := c 57 (5 * v3 + 2)) rfl rfl (by decide) (by decide) (by omega) ((up_c (by decide)).trans (hF 57 (5 * v3 + 2) (by omega))) ?_
            refine q_istore rfl (by decide) ?_
            refine q_iconst rfl ?_
            refine q_istore rfl (by decide) ?_
            obtain ⟨z_23, e_24⟩ : ∃ z : Int, c 57 (5 * v3 + 2) = 5 * z := ⟨(c 57 (5 * v3 + 2)) / 5, by omega⟩
            have hI_25 := iw_41_37 (v := c2 41 37 + 1) hI2 ⟨by omega, by omega⟩
            refine Wp_ls [(0, .ref 41), (1, vi (5 * t)), (2, vi a2), (3, vi (5 * v3)), (4, vi (5 * z_23)), (5, vi 0)] (lsub_cons rfl (lsub_cons rfl (lsub_cons rfl (lsub_cons rfl (lsub_cons (congrArg (fun w9 => some (vi w9)) e_24) (lsub_cons rfl lsub_nil)))))) ?_
            have h_26 : (up c2 41 37 (c2 41 37 + 1)) 41 37 = c2 41 37 + 1 := (up_e rfl)
            exact ih.2 (up c2 41 37 (c2 41 37 + 1)) v3 z_23 0 hI_25 (fun a j hm => (up_b (by omega)).trans (hF a j (by omega))) ⟨by omega, by omega⟩ ⟨by omega, by omega⟩ ⟨by decide, by decide⟩ (by omega) (by omega) (by omega) (by omega)
    · skip
      intro c2 v3 v4 v5 hI2 hF hv3 hv4 hv5 hx0 hx1 hx2 hm9
      have h_27 := ir_41_37 hI
      have h_28 := ir_41_37 hI2
      refine q_iload rfl rfl ?_
      refine q_aload_n rfl rfl ?_
      refine v_gr (t := 57) rfl rfl rfl (by decide) rfl ?_
      refine q_iload_n rfl rfl ?_
      refine q_iconst rfl ?_
      refine v_iadd (v := 5 * v3 + 1) rfl (by omega) ?_
      have h_29 := ir_57 hI (5 * v3 + 1)
      refine v_ia (v := c 57 (5 * v3 + 1)) rfl rfl (by decide) (by decide) (by omega) (hF 57 (5 * v3 + 1) (by omega)) ?_
      by_cases h_30 : v5 ≥ c 57 (5 * v3 + 1)
      · refine v_ic_ge_t (t := 89) rfl (by decide) (by omega) ?_
        refine q_iload rfl rfl ?_
        refine q_istore_n rfl (by decide) ?_
        refine q_goto (t := 2) rfl (by decide) ?_
        refine Wp_ls [(0, .ref 41), (1, vi (5 * t)), (2, vi a2), (3, vi (5 * v4))] (lsub_cons rfl (lsub_cons rfl (lsub_cons rfl (lsub_cons rfl lsub_nil)))) ?_
        exact ih.1 c2 v4 hI2 (fun a j hm => hF a j (by omega)) ⟨by omega, by omega⟩ (by omega) (by omega) (by omega)
      · refine v_ic_ge_f (t := 89) rfl (by decide) (by omega) ?_
        refine q_aload_n rfl rfl ?_
        refine v_gi (z := 37) (v := c2 41 37) rfl rfl rfl (by decide) rfl rfl rfl ?_
        refine v_sip rfl (by decide) ?_
        by_cases h_31 : c2 41 37 ≥ 200
        · refine v_ic_ge_t (t := 89) rfl (by decide) (by omega) ?_
          refine q_iload rfl rfl ?_
          refine q_istore_n rfl (by decide) ?_
          refine q_goto (t := 2) rfl (by decide) ?_
          refine Wp_ls [(0, .ref 41), (1, vi (5 * t)), (2, vi a2), (3, vi (5 * v4))] (lsub_cons rfl (lsub_cons rfl (lsub_cons rfl (lsub_cons rfl lsub_nil)))) ?_
          exact ih.1 c2 v4 hI2 (fun a j hm => hF a j (by omega)) ⟨by omega, by omega⟩ (by omega) (by omega) (by omega)
        · refine v_ic_ge_f (t := 89) rfl (by decide) (by omega) ?_
          refine q_aload_n rfl rfl ?_
          refine q_iload_n rfl rfl ?_
          refine q_iconst rfl ?_
          refine v_iadd (v := 5 * v3 + 5) rfl (by omega) ?_
          refine q_iload rfl rfl ?_
          refine v_cv rfl rfl rfl rfl (by decide) ⟨⟨rfl, rfl⟩, by decide, rfl⟩ (Nat.le_of_ble_eq_true rfl) (Nat.le_of_ble_eq_true rfl) (H201 _ (v3 + 1) (5 * v4) _ (by omega) hI2 (by omega) (fun c_32 hI_33 hF_34 h_35 => ?_))
          refine bk_inl ?_
          have h_36 := ir_41_37 hI_33
          refine v_iinc (v := v5 + 1) rfl rfl (by decide) (by omega) ?_
          refine q_goto (t := 51) rfl (by decide) ?_
          refine Wp_ls [(0, .ref 41), (1, vi (5 * t)), (2, vi a2), (3, vi (5 * v3)), (4, vi (5 * v4)), (5, vi (v5 + 1))] (lsub_cons rfl (lsub_cons rfl (lsub_cons rfl (lsub_cons rfl (lsub_cons rfl (lsub_cons rfl lsub_nil)))))) ?_
          exact ih.2 c_32 v3 v4 (v5 + 1) hI_33 (fun a j hm => (hF_34 a j (by omega)).trans (hF a j (by omega))) ⟨by omega, by omega⟩ ⟨by omega, by omega⟩ ⟨by omega, by omega⟩ (by omega) (by omega) (by omega) (by omega)
set_option maxRecDepth 100000 in
set_option maxHeartbeats 4000000 in
theorem s_201 {sc : List Int32} {d P Q : Nat} {c : ME} {t : Int} {a2 : Int} {Z : AR → Prop} (hI : Iv 0 (-1) P Q c) (ht : 0 ≤ t ∧ t ≤ 50) (ha2 : 0 ≤ a2 ∧ a2 ≤ 250) (H201 : ∀ (c : ME) (t2 : Int) (a2 : Int) (Z : AR → Prop), t + 1 ≤ t2 ∧ t2 ≤ 50 → Iv 0 (-1) P Q c → 0 ≤ a2 ∧ a2 ≤ 250 → (∀ c2 : ME, Iv 0 (-1) P Q c2 → (∀ (a : Nat) (j : Int), ¬ ((a = 41 ∧ j = 37) ∨ (a = 41 ∧ j = 38) ∨ (a = 41 ∧ j = 39) ∨ a = 59 ∨ a = 54 ∨ a = 55) → c2 a j = c a j) → (c2 41 37 ≥ c 41 37) → Z (.inl none, Wd P Q P P c2, 0, 0)) → Wp sc (d + 15) 201 0 [(0, .ref 41), (1, vi (5 * t2)), (2, vi a2)] [] (Wd P Q P P c) 0 0 Z) (K : ∀ (c2 : ME), Iv 0 (-1) P Q c2 → (∀ (a : Nat) (j : Int), ¬ ((a = 41 ∧ j = 37) ∨ (a = 41 ∧ j = 38) ∨ (a = 41 ∧ j = 39) ∨ a = 59 ∨ a = 54 ∨ a = 55) → c2 a j = c a j) → ((c2 41 37 ≥ c 41 37)) → Z (.inl (none), Wd P Q P P c2, 0, 0)) : Wp sc (d + 16) 201 0 [(0, .ref 41), (1, vi (5 * t)), (2, vi a2)] [] (Wd P Q P P c) 0 0 Z := by
  have hP := iv_P hI
  have hQ := iv_Q hI
  refine q_iload_n rfl rfl ?_
  refine q_istore_n rfl (by decide) ?_
  refine Wp_ls [(0, .ref 41), (1, vi (5 * t)), (2, vi a2), (3, vi (5 * t))] (lsub_cons rfl (lsub_cons rfl (lsub_cons rfl (lsub_cons rfl lsub_nil)))) ?_
  have h_39 := ir_41_37 hI
  exact (s_201_l (sc := sc) (d := d) hI ht ha2 H201 K 40300000).1 c t hI (fun a j hm => rfl) ⟨by omega, by omega⟩ (by omega) (by omega) (by omega)
set_option maxRecDepth 100000 in
set_option maxHeartbeats 4000000 in
theorem r_201_n {sc : List Int32} {P Q : Nat} : ∀ (m : Nat) (d : Nat) (c : ME) (t a2 : Int) (Z : AR → Prop), t + (m : Int) = 50 → 0 ≤ t → Iv 0 (-1) P Q c → 0 ≤ a2 ∧ a2 ≤ 250 → (∀ c2 : ME, Iv 0 (-1) P Q c2 → (∀ (a : Nat) (j : Int), ¬ ((a = 41 ∧ j = 37) ∨ (a = 41 ∧ j = 38) ∨ (a = 41 ∧ j = 39) ∨ a = 59 ∨ a = 54 ∨ a = 55) → c2 a j = c a j) → (c2 41 37 ≥ c 41 37) → Z (.inl none, Wd P Q P P c2, 0, 0)) → Wp sc (d + m + 16) 201 0 [(0, .ref 41), (1, vi (5 * t)), (2, vi a2)] [] (Wd P Q P P c) 0 0 Z
  | 0, d, c, t, a2, Z, hm, h0, hI, ha, K => s_201 (d := d) (t := t) (a2 := a2) hI (show 0 ≤ t ∧ t ≤ 50 from ⟨by omega, by omega⟩) ha (fun c9 t2 a9 Z9 hc => absurd hc (by omega)) K
  | m + 1, d, c, t, a2, Z, hm, h0, hI, ha, K => by
    refine s_201 (d := d + (m + 1)) (t := t) (a2 := a2) hI (show 0 ≤ t ∧ t ≤ 50 from ⟨by omega, by omega⟩) ha (fun c9 t2 a9 Z9 hc hI9 ha9 K9 => ?_) K
    obtain ⟨q, hq⟩ : ∃ q : Nat, (q : Int) = 50 - t2 := ⟨(50 - t2).toNat, by omega⟩
    have r := r_201_n (sc := sc) q (d + m - q) c9 t2 a9 Z9 (by omega) (by omega) hI9 ha9 K9
    rw [show d + m - q + q + 16 = d + (m + 1) + 15 by omega] at r
    exact r
  termination_by m => m
  decreasing_by omega
set_option maxRecDepth 100000 in
set_option maxHeartbeats 4000000 in
theorem r_201 {sc : List Int32} {d P Q : Nat} {c : ME} {t a2 : Int} {Z : AR → Prop} (hI : Iv 0 (-1) P Q c) (ht : 0 ≤ t ∧ t ≤ 50) (ha2 : 0 ≤ a2 ∧ a2 ≤ 250) (K : (∀ c2 : ME, Iv 0 (-1) P Q c2 → (∀ (a : Nat) (j : Int), ¬ ((a = 41 ∧ j = 37) ∨ (a = 41 ∧ j = 38) ∨ (a = 41 ∧ j = 39) ∨ a = 59 ∨ a = 54 ∨ a = 55) → c2 a j = c a j) → (c2 41 37 ≥ c 41 37) → Z (.inl none, Wd P Q P P c2, 0, 0))) : Wp sc (d + 66) 201 0 [(0, .ref 41), (1, vi (5 * t)), (2, vi a2)] [] (Wd P Q P P c) 0 0 Z := by
  obtain ⟨m, hm⟩ : ∃ m : Nat, (m : Int) = 50 - t := ⟨(50 - t).toNat, by omega⟩
  rw [show d + 66 = (d + 50 - m) + m + 16 by omega]
  exact r_201_n m _ c t a2 Z (by omega) (by omega) hI ha2 K

set_option maxRecDepth 100000 in
set_option maxHeartbeats 4000000 in
theorem s_202c {sc : List Int32} {d P Q : Nat} {c : ME} {Z : AR → Prop} (hI : Iv 0 (-1) P Q c) (hq0 : (c 41 35 ≤ 15)) (hq1 : (((c 41 34) % 5) = 0)) (hq2 : (c 41 34 ≤ 250)) (K : ∀ (c2 : ME) (y : Int), Iv 0 (-1) P Q c2 → (∀ (a : Nat) (j : Int), ¬ ((a = 41 ∧ j = 35) ∨ (a = 41 ∧ j = 36) ∨ (a = 41 ∧ j = 37) ∨ (a = 41 ∧ j = 38) ∨ (a = 41 ∧ j = 39) ∨ a = 58 ∨ a = 59 ∨ a = 54 ∨ a = 55) → c2 a j = c a j) → (-2147483648) ≤ y ∧ y ≤ 2147483647 → Z (.inl (some (vi y)), Wd P Q P P c2, 0, 0)) : Wp sc (d + 67) 202 155 [(0, .ref 41)] [] (Wd P Q P P c) 0 0 Z := by
  have hP := iv_P hI
  have hQ := iv_Q hI
  have h_1 := ir_41_35 hI
  have h_2 := ir_41_34 hI
  refine q_aload_n rfl rfl ?_
  refine q_dup rfl rfl ?_
  refine v_gi (z := 35) (v := c 41 35) rfl rfl rfl (by decide) rfl rfl rfl ?_
  refine q_iconst rfl ?_
  refine v_iadd (v := c 41 35 + 1) rfl (by omega) ?_
  refine v_pi (z := 35) rfl rfl rfl (by decide) rfl rfl rfl (by decide) ?_
  refine q_aload_n rfl rfl ?_
  have hI_3 := iw_41_35 (v := c 41 35 + 1) hI ⟨by omega, by omega⟩
  refine v_cv rfl rfl rfl rfl (by decide) ⟨⟨rfl, rfl⟩, by decide, rfl⟩ (Nat.le_of_ble_eq_true rfl) (Nat.le_of_ble_eq_true rfl) (s_186 hI_3 (fun c_4 hI_5 hF_6 => ?_))
  refine bk_inl ?_
  refine q_aload_n rfl rfl ?_
  refine q_iconst rfl ?_
  refine v_pi (z := 37) rfl rfl rfl (by decide) rfl rfl rfl (by decide) ?_
  refine q_aload_n rfl rfl ?_
  refine q_iconst rfl ?_
  refine v_pi (z := 38) rfl rfl rfl (by decide) rfl rfl rfl (by decide) ?_
  refine q_aload_n rfl rfl ?_
  refine q_iconst rfl ?_
  refine v_pi (z := 39) rfl rfl rfl (by decide) rfl rfl rfl (by decide) ?_
  refine q_aload_n rfl rfl ?_
  refine q_iconst rfl ?_
  refine q_aload_n rfl rfl ?_
  refine v_gi (z := 34) (v := c 41 34) rfl rfl rfl (by decide) rfl rfl ((up_n (by decide)).trans ((up_n (by decide)).trans ((up_n (by decide)).trans ((hF_6 41 34 (by omega)).trans (up_n (by decide)))))) ?_
  have hI_7 := iw_41_37 (v := 0) hI_5 ⟨by decide, by decide⟩
  have hI_8 := iw_41_38 (v := 0) hI_7 ⟨by decide, by decide⟩
  have hI_9 := iw_41_39 (v := 0) hI_8 ⟨by decide, by decide⟩
  have h_10 : (up (up (up c_4 41 37 0) 41 38 0) 41 39 0) 41 37 = 0 := ((up_n (by decide)).trans ((up_n (by decide)).trans (up_e rfl)))
  refine v_cv rfl rfl rfl rfl (by decide) ⟨⟨rfl, rfl⟩, by decide, rfl⟩ (Nat.le_of_ble_eq_true rfl) (Nat.le_of_ble_eq_true rfl) (r_201 (t := 0) (a2 := c 41 34) hI_9 (show 0 ≤ 0 ∧ 0 ≤ 50 from by omega) (show 0 ≤ c 41 34 ∧ c 41 34 ≤ 250 from by omega) (fun c_11 hI_12 hF_13 h_14 => ?_))
  refine bk_inl ?_
  have h_15 := ir_41_37 hI_12
  refine q_aload_n rfl rfl ?_
  refine q_aload_n rfl rfl ?_
  refine v_gr (t := 59) rfl rfl rfl (by decide) rfl ?_
  refine q_aload_n rfl rfl ?_
  refine v_gr (t := 58) rfl rfl rfl (by decide) rfl ?_
  refine v_bip rfl (by decide) ?_
  refine v_cv rfl rfl rfl rfl (by decide) ⟨⟨rfl, rfl⟩, by decide, rfl⟩ (Nat.le_of_ble_eq_true rfl) (Nat.le_of_ble_eq_true rfl) (s_148 (f := 59) (t := 58) (nf := 37) (nt := 37) (n := 37) rfl rfl (by decide) (by decide) (by decide) (by decide) (by decide) (by omega) ?_)
  refine bk_inl ?_
  refine q_aload_n rfl rfl ?_
  refine q_aload_n rfl rfl ?_
  have h_16 := ir_41_39 hI_12
  refine v_gi (z := 39) (v := c_11 41 39) rfl rfl rfl (by decide) rfl rfl (upc_c (by omega)) ?_
  refine v_pi (z := 36) rfl rfl rfl (by decide) rfl rfl rfl (by decide) ?_
  refine q_aload_n rfl rfl ?_
  have h_17 := ir_41_38 hI_12
  refine v_gi (z := 38) (v := c_11 41 38) rfl rfl rfl (by decide) rfl rfl ((up_n (by decide)).trans (upc_c (by omega))) ?_
  refine q_iret rfl rfl ?_
  have hI_18 := cp_59_58 hI_12
  have hI_19 := iw_41_36 (v := c_11 41 39) hI_18 ⟨by omega, by omega⟩
  exact K (up (upc c_11 59 0 58 0 37) 41 36 (c_11 41 39)) (c_11 41 38) hI_19 (fun a j hm => (up_b (by omega)).trans ((upc_c (by omega)).trans ((hF_13 a j (by omega)).trans ((up_b (by omega)).trans ((up_b (by omega)).trans ((up_b (by omega)).trans ((hF_6 a j (by omega)).trans (up_b (by omega))))))))) ⟨by omega, by omega⟩
set_option maxRecDepth 100000 in
set_option maxHeartbeats 4000000 in
theorem s_202b_l {sc : List Int32} {d P Q : Nat} {c : ME} {Z : AR → Prop} (hI : Iv 60 (-1) P Q c) (hq0 : (c 41 35 ≤ 15)) (hq1 : (((c 41 34) % 5) = 0)) (hq2 : (c 41 34 ≤ 250)) (hq3 : ∀ j : Int, rs 60 j → c 60 j + c 60 (j + 1) + c 60 (j + 2) + c 60 (j + 3) ≤ 9999) (K : ∀ (c2 : ME) (y : Int), Iv 0 (-1) P Q c2 → (∀ (a : Nat) (j : Int), ¬ ((a = 41 ∧ j = 35) ∨ (a = 41 ∧ j = 36) ∨ (a = 41 ∧ j = 37) ∨ (a = 41 ∧ j = 38) ∨ (a = 41 ∧ j = 39) ∨ a = 58 ∨ a = 59 ∨ a = 54 ∨ a = 55 ∨ a = 60) → c2 a j = c a j) → (-2147483648) ≤ y ∧ y ≤ 2147483647 → Z (.inl (some (vi y)), Wd P Q P P c2, 0, 0)) : ∀ n : Nat, (∀ (c2 : ME) (v3 : Int), Iv 60 (-1) P Q c2 → (∀ (a : Nat) (j : Int), ¬ (a = 60) → c2 a j = c a j) → 0 ≤ v3 ∧ v3 ≤ 37 → (∀ j : Int, 0 ≤ j → j < v3 → c2 60 (37 * c 41 35 + j) = c 58 j) → (∀ j : Int, ¬ (37 * c 41 35 ≤ j ∧ j < 37 * c 41 35 + 37) → c2 60 j = c 60 j) → 75 - 2 * v3 < (n : Int) → Wp sc (d + 67) 202 123 [(0, .ref 41), (3, vi v3)] [] (Wd P Q P P c2) 0 0 Z)
  | 0 => by intro c2 v3 hI2 hF hv3 hx0 hx1 hm9; have hP := iv_P hI; have hQ := iv_Q hI; exfalso; omega
  | n + 1 => by
    have hP := iv_P hI
    have hQ := iv_Q hI
    have ih := s_202b_l (sc := sc) (d := d) hI hq0 hq1 hq2 hq3 K n
    intro c2 v3 hI2 hF hv3 hx0 hx1 hm9
    have h_1 := ir_41_35 hI
    have h_2 := ir_41_34 hI
    refine q_iload_n rfl rfl ?_
    refine v_bip rfl (by decide) ?_
    by_cases h_3 : v3 ≥ 37
    · refine v_ic_ge_t (t := 155) rfl (by decide) (by omega) ?_
      refine Wp_ls [(0, .ref 41)] (lsub_cons rfl lsub_nil) ?_
      have hc9 : Iv 0 (-1) P Q c2 := iv_close hI2 (fun j hj => by
        by_cases q9 : 37 * c 41 35 ≤ j ∧ j < 37 * c 41 35 + 37
        · rw [ri_60] at hj
          have h8 : j / 37 = c 41 35 := by omega
          obtain ⟨i9, hi9⟩ : ∃ i : Int, j = 37 * c 41 35 + i := ⟨j - 37 * c 41 35, by omega⟩
          subst hi9
          rw [show 37 * c 41 35 + i9 + 1 = 37 * c 41 35 + (i9 + 1) by omega, show 37 * c 41 35 + i9 + 2 = 37 * c 41 35 + (i9 + 2) by omega, show 37 * c 41 35 + i9 + 3 = 37 * c 41 35 + (i9 + 3) by omega, hx0 i9 (by omega) (by omega), hx0 (i9 + 1) (by omega) (by omega), hx0 (i9 + 2) (by omega) (by omega), hx0 (i9 + 3) (by omega) (by omega)]
          exact iv_r hI 58 i9 (by rw [ri_58]; omega) (by omega)
        · have hj9 := hj
          rw [ri_60] at hj9
          have h7 : ¬ j / 37 = c 41 35 := by omega
          rw [hx1 j q9, hx1 (j + 1) (by omega), hx1 (j + 2) (by omega), hx1 (j + 3) (by omega)]
          exact hq3 j hj)
      exact s_202c hc9 (by rw [hF 41 35 (by omega)]; omega) (by rw [hF 41 34 (by omega)]; omega) (by rw [hF 41 34 (by omega)]; omega) (fun c9 y9 hI9 hF9 hy9 => K c9 y9 hI9 (fun a j hm => (hF9 a j (by omega)).trans (hF a j (by omega))) hy9)
    · refine v_ic_ge_f (t := 155) rfl (by decide) (by omega) ?_
      refine q_aload_n rfl rfl ?_
      refine v_gr (t := 60) rfl rfl rfl (by decide) rfl ?_
      refine v_bip rfl (by decide) ?_
      refine q_aload_n rfl rfl ?_
      refine v_gi (z := 35) (v := c 41 35) rfl rfl rfl (by decide) rfl rfl (hF 41 35 (by omega)) ?_
      refine v_imul (v := 37 * c 41 35) rfl (by omega) ?_
      refine q_iload_n rfl rfl ?_
      refine v_iadd (v := 37 * c 41 35 + v3) rfl (by omega) ?_
      refine q_aload_n rfl rfl ?_
      refine v_gr (t := 58) rfl rfl rfl (by decide) rfl ?_
      refine q_iload_n rfl rfl ?_
      have h_4 := ir_58 hI v3
      refine v_ia (v := c 58 v3) rfl rfl (by decide) (by decide) (by omega) (hF 58 v3 (by omega)) ?_
      refine v_is rfl rfl (by decide) (by decide) (by omega) ?_
      refine v_iinc (v := v3 + 1) rfl rfl (by decide) (by omega) ?_
      refine q_goto (t := 123) rfl (by decide) ?_
      have hI_5 := iw_60 (j := 37 * c 41 35 + v3) (v := c 58 v3) hI2 (fun h9 => ir_58_g hI (by omega)) ⟨by omega, by omega⟩
      refine Wp_ls [(0, .ref 41), (3, vi (v3 + 1))] (lsub_cons rfl (lsub_cons rfl lsub_nil)) ?_
      have hr_6 : ∀ j : Int, 0 ≤ j → j < v3 + 1 → (up c2 60 (37 * c 41 35 + v3) (c 58 v3)) 60 (37 * c 41 35 + j) = c 58 j := by
        intro j hj1 hj2
        by_cases e9 : j = v3
        · rw [show (up c2 60 (37 * c 41 35 + v3) (c 58 v3)) 60 (37 * c 41 35 + j) = c 58 v3 from up_e (by omega), e9]
        · rw [show (up c2 60 (37 * c 41 35 + v3) (c 58 v3)) 60 (37 * c 41 35 + j) = c2 60 (37 * c 41 35 + j) from up_n (by omega)]; exact hx0 j hj1 (by omega)
      have hr_7 : ∀ j : Int, ¬ (37 * c 41 35 ≤ j ∧ j < 37 * c 41 35 + 37) → (up c2 60 (37 * c 41 35 + v3) (c 58 v3)) 60 j = c 60 j := by
        intro j hj1
        rw [show (up c2 60 (37 * c 41 35 + v3) (c 58 v3)) 60 j = c2 60 j from up_n (by omega)]; exact hx1 j hj1
      exact ih (up c2 60 (37 * c 41 35 + v3) (c 58 v3)) (v3 + 1) hI_5 (fun a j hm => (up_b (by omega)).trans (hF a j (by omega))) ⟨by omega, by omega⟩ hr_6 hr_7 (by omega)
set_option maxRecDepth 100000 in
set_option maxHeartbeats 4000000 in
theorem s_202b {sc : List Int32} {d P Q : Nat} {c : ME} {Z : AR → Prop} (hI : Iv 60 (-1) P Q c) (hq0 : (c 41 35 ≤ 15)) (hq1 : (((c 41 34) % 5) = 0)) (hq2 : (c 41 34 ≤ 250)) (hq3 : ∀ j : Int, rs 60 j → c 60 j + c 60 (j + 1) + c 60 (j + 2) + c 60 (j + 3) ≤ 9999) (K : ∀ (c2 : ME) (y : Int), Iv 0 (-1) P Q c2 → (∀ (a : Nat) (j : Int), ¬ ((a = 41 ∧ j = 35) ∨ (a = 41 ∧ j = 36) ∨ (a = 41 ∧ j = 37) ∨ (a = 41 ∧ j = 38) ∨ (a = 41 ∧ j = 39) ∨ a = 58 ∨ a = 59 ∨ a = 54 ∨ a = 55 ∨ a = 60) → c2 a j = c a j) → (-2147483648) ≤ y ∧ y ≤ 2147483647 → Z (.inl (some (vi y)), Wd P Q P P c2, 0, 0)) : Wp sc (d + 67) 202 121 [(0, .ref 41)] [] (Wd P Q P P c) 0 0 Z := by
  have hP := iv_P hI
  have hQ := iv_Q hI
  have h_8 := ir_41_35 hI
  have h_9 := ir_41_34 hI
  refine q_iconst rfl ?_
  refine q_istore_n rfl (by decide) ?_
  refine Wp_ls [(0, .ref 41), (3, vi 0)] (lsub_cons rfl (lsub_cons rfl lsub_nil)) ?_
  have hr_10 : ∀ j : Int, 0 ≤ j → j < 0 → c 60 (37 * c 41 35 + j) = c 58 j := by
    intro j hj1 hj2
    omega
  have hr_11 : ∀ j : Int, ¬ (37 * c 41 35 ≤ j ∧ j < 37 * c 41 35 + 37) → c 60 j = c 60 j := by
    intro j hj1
    rfl
  exact (s_202b_l (sc := sc) (d := d) hI hq0 hq1 hq2 hq3 K 78) c 0 hI (fun a j hm => rfl) ⟨by decide, by decide⟩ hr_10 hr_11 (by omega)
set_option maxRecDepth 100000 in
set_option maxHeartbeats 4000000 in
theorem s_202_l {sc : List Int32} {d P Q : Nat} {c : ME} {a1 : Int} {Z : AR → Prop} (hI : Iv 0 (-1) P Q c) (ha1 : (-2147483648) ≤ a1 ∧ a1 ≤ 2147483647) (K : ∀ (c2 : ME) (y : Int), Iv 0 (-1) P Q c2 → (∀ (a : Nat) (j : Int), ¬ ((a = 41 ∧ j = 0) ∨ a = 42 ∨ (a = 41 ∧ j = 2) ∨ (a = 41 ∧ j = 3) ∨ (a = 41 ∧ j = 4) ∨ (a = 41 ∧ j = 5) ∨ (a = 41 ∧ j = 6) ∨ (a = 41 ∧ j = 7) ∨ (a = 41 ∧ j = 8) ∨ (a = 41 ∧ j = 34) ∨ a = 56 ∨ a = 57 ∨ a = 60 ∨ (a = 41 ∧ j = 35) ∨ (a = 41 ∧ j = 36) ∨ (a = 41 ∧ j = 37) ∨ (a = 41 ∧ j = 38) ∨ (a = 41 ∧ j = 39) ∨ a = 58 ∨ a = 59 ∨ a = 54 ∨ a = 55) → c2 a j = c a j) → (-2147483648) ≤ y ∧ y ≤ 2147483647 → Z (.inl (some (vi y)), Wd P Q P P c2, 0, 0)) : ∀ n : Nat, (∀ (c2 : ME), Iv 0 (-1) P Q c2 → (∀ (a : Nat) (j : Int), ¬ ((a = 41 ∧ j = 0) ∨ a = 42 ∨ (a = 41 ∧ j = 2) ∨ (a = 41 ∧ j = 3) ∨ (a = 41 ∧ j = 4) ∨ (a = 41 ∧ j = 5) ∨ (a = 41 ∧ j = 6) ∨ (a = 41 ∧ j = 7) ∨ (a = 41 ∧ j = 8) ∨ (a = 41 ∧ j = 34) ∨ a = 56 ∨ a = 57 ∨ a = 60 ∨ (a = 41 ∧ j = 35) ∨ (a = 41 ∧ j = 36) ∨ (a = 41 ∧ j = 37) ∨ (a = 41 ∧ j = 38) ∨ (a = 41 ∧ j = 39) ∨ a = 58 ∨ a = 59 ∨ a = 54 ∨ a = 55) → c2 a j = c a j) → ((c2 41 5 = (-1))) → ((c2 41 4 ≤ c2 41 3)) → ((c2 41 3 ≤ 150)) → ((3 * c2 41 34 ≤ 5 * c2 41 4)) → ((((c2 41 34) % 5) = 0)) → ((c2 41 7 = 0)) → ((c2 41 35 ≤ 15)) → ((c2 41 4 ≥ 0)) → ((c2 41 34 ≥ 0)) → ((c2 41 34 ≤ 250)) → (Ap c2 56 0 (c2 41 34)) → 1211 - 2 * c2 41 4 < (n : Int) → Wp sc (d + 67) 202 75 [(0, .ref 41), (1, vi a1)] [] (Wd P Q P P c2) 0 0 Z)
  | 0 => by intro c2 hI2 hF hx0 hx1 hx2 hx3 hx4 hx5 hx6 hx7 hx8 hx9 hx10 hm9; have hP := iv_P hI; have hQ := iv_Q hI; have h_49 := ir_41_4 hI2; exfalso; omega
  | n + 1 => by
    have hP := iv_P hI
    have hQ := iv_Q hI
    have ih := s_202_l (sc := sc) (d := d) hI ha1 K n
    intro c2 hI2 hF hx0 hx1 hx2 hx3 hx4 hx5 hx6 hx7 hx8 hx9 hx10 hm9
    have h_1 := ir_41_5 hI2
    have h_2 := ir_41_3 hI2
    have h_3 := ir_41_4 hI2
    have h_4 := ir_41_34 hI2
    have h_5 := ir_41_7 hI2
    have h_6 := ir_41_35 hI2
    refine q_aload_n rfl rfl ?_
    refine v_cv rfl rfl rfl rfl (by decide) ⟨⟨rfl, rfl⟩, by decide, rfl⟩ (Nat.le_of_ble_eq_true rfl) (Nat.le_of_ble_eq_true rfl) (s_162 hI2 (fun c_7 y_10 hI_8 hF_9 hy_10 h_11 h_12 h_13 => ?_))
    refine bk_inl ?_
    have h_14 := ir_41_4 hI_8
    by_cases h_15 : y_10 = 0
    · refine v_if_eq_t (t := 89) rfl (by decide) (by omega) ?_
      refine q_aload_n rfl rfl ?_
      refine q_iconst rfl ?_
      refine v_cv rfl rfl rfl rfl (by decide) ⟨⟨rfl, rfl⟩, by decide, rfl⟩ (Nat.le_of_ble_eq_true rfl) (Nat.le_of_ble_eq_true rfl) (s_164 (a1 := 0) hI_8 (show (-2147483648) ≤ 0 ∧ 0 ≤ 2147483647 from by omega) (fun c_16 y_19 hI_17 hF_18 hy_19 => ?_))
      refine bk_inl ?_
      refine q_istore_n rfl (by decide) ?_
      refine q_aload_n rfl rfl ?_
      refine v_gi (z := 5) (v := c2 41 5) rfl rfl rfl (by decide) rfl rfl ((hF_18 41 5 (by omega)).trans (hF_9 41 5 (by omega))) ?_
      refine q_iconst rfl ?_
      refine v_ic_eq_t (t := 105) rfl (by decide) (by omega) ?_
      refine q_aload_n rfl rfl ?_
      refine q_aload_n rfl rfl ?_
      refine v_gr (t := 56) rfl rfl rfl (by decide) rfl ?_
      refine q_aload_n rfl rfl ?_
      refine v_gr (t := 57) rfl rfl rfl (by decide) rfl ?_
      refine q_aload_n rfl rfl ?_
      refine v_gi (z := 34) (v := c2 41 34) rfl rfl rfl (by decide) rfl rfl ((hF_18 41 34 (by omega)).trans (hF_9 41 34 (by omega))) ?_
      refine v_cv rfl rfl rfl rfl (by decide) ⟨⟨rfl, rfl⟩, by decide, rfl⟩ (Nat.le_of_ble_eq_true rfl) (Nat.le_of_ble_eq_true rfl) (s_148 (f := 56) (t := 57) (nf := 250) (nt := 250) (n := c2 41 34) rfl rfl (by decide) (by decide) (by decide) (by decide) (by decide) (by omega) ?_)
      refine bk_inl ?_
      have hI_20 := cp_56_57 (n := c2 41 34) hI_17 (by omega) (ap_fr (c := c2) (hi := c2 41 34) hx10 (by omega) rfl (by omega) (fun j h1 h2 => (hF_18 56 j (by omega)).trans (hF_9 56 j (by omega))))
      have hw35 : (upc c_16 56 0 57 0 (c2 41 34)) 41 35 = c2 41 35 := ((upc_c (by omega)).trans ((hF_18 41 35 (by omega)).trans (hF_9 41 35 (by omega))))
      have hw34 : (upc c_16 56 0 57 0 (c2 41 34)) 41 34 = c2 41 34 := ((upc_c (by omega)).trans ((hF_18 41 34 (by omega)).trans (hF_9 41 34 (by omega))))
      refine Wp_ls [(0, .ref 41)] (lsub_cons rfl lsub_nil) ?_
      exact s_202b (iv_open hI_20) (by omega) (by omega) (by omega) (fun j hj => iv_r hI_20 60 j hj (by omega)) (fun c9 y9 hI9 hF9 hy9 => K c9 y9 hI9 (fun a j hm => (hF9 a j (by omega)).trans ((upc_c (by omega)).trans ((hF_18 a j (by omega)).trans ((hF_9 a j (by omega)).trans (hF a j (by omega)))))) hy9)
    · refine v_if_eq_f (t := 89) rfl (by decide) (by omega) ?_
      refine q_aload_n rfl rfl ?_
      have h_21 : c_7 41 5 = c2 41 5 := (hF_9 41 5 (by omega))
      have h_22 : c_7 41 3 = c2 41 3 := (hF_9 41 3 (by omega))
      have h_23 : c_7 41 34 = c2 41 34 := (hF_9 41 34 (by omega))
      have h_24 : c_7 41 7 = c2 41 7 := (hF_9 41 7 (by omega))
      have h_25 : c_7 41 34 = c2 41 34 := (hF_9 41 34 (by omega))
      refine v_cv rfl rfl rfl rfl (by decide) ⟨⟨rfl, rfl⟩, by decide, rfl⟩ (Nat.le_of_ble_eq_true rfl) (Nat.le_of_ble_eq_true rfl) (r_185 (o := 0) hI_8 (show 0 ≤ 0 ∧ 0 ≤ 6 from by omega) (by omega) (by omega) (by omega) (by omega) (by omega) (by omega) (fun c_26 hI_27 hF_28 h_29 h_30 h_31 h_32 h_33 h_34 hA_35 => ?_))
      refine bk_inl ?_
      have h_36 := ir_41_4 hI_27
      have h_37 := ir_41_7 hI_27
      have h_38 := ir_41_34 hI_27
      have h_39 := ir_41_5 hI_27
      refine q_goto (t := 68) rfl (by decide) ?_
      refine q_aload_n rfl rfl ?_
      refine v_cv rfl rfl rfl rfl (by decide) ⟨⟨rfl, rfl⟩, by decide, rfl⟩ (Nat.le_of_ble_eq_true rfl) (Nat.le_of_ble_eq_true rfl) ?_
      refine q_aload_n rfl rfl ?_
      refine v_gi (z := 5) (v := c_26 41 5) rfl rfl rfl (by decide) rfl rfl rfl ?_
      refine q_iconst rfl ?_
      by_cases h_40 : c_26 41 5 ≠ (-1)
      · refine v_ic_ne_t (t := 12) rfl (by decide) (by omega) ?_
        refine q_iconst rfl ?_
        refine v_zret rfl rfl (by omega) ?_
        refine bk_inl ?_
        refine v_if_eq_t (t := 89) rfl (by decide) (by decide) ?_
        refine q_aload_n rfl rfl ?_
        refine q_iconst rfl ?_
        refine v_cv rfl rfl rfl rfl (by decide) ⟨⟨rfl, rfl⟩, by decide, rfl⟩ (Nat.le_of_ble_eq_true rfl) (Nat.le_of_ble_eq_true rfl) (s_164 (a1 := 0) hI_27 (show (-2147483648) ≤ 0 ∧ 0 ≤ 2147483647 from by omega) (fun c_41 y_44 hI_42 hF_43 hy_44 => ?_))
        refine bk_inl ?_
        refine q_istore_n rfl (by decide) ?_
        refine q_aload_n rfl rfl ?_
        refine v_gi (z := 5) (v := c_26 41 5) rfl rfl rfl (by decide) rfl rfl (hF_43 41 5 (by omega)) ?_
        refine q_iconst rfl ?_
        refine v_ic_eq_f (t := 105) rfl (by decide) (by omega) ?_
        refine q_iload_n rfl rfl ?_
        refine q_iret rfl rfl ?_
        exact K c_41 y_44 hI_42 (fun a j hm => (hF_43 a j (by omega)).trans ((hF_28 a j (by omega)).trans ((hF_9 a j (by omega)).trans (hF a j (by omega))))) ⟨by omega, by omega⟩
      · refine v_ic_ne_f (t := 12) rfl (by decide) (by omega) ?_
        refine q_iconst rfl ?_
        refine q_goto (t := 13) rfl (by decide) ?_
        refine v_zret rfl rfl (by omega) ?_
        refine bk_inl ?_
        refine v_if_eq_f (t := 89) rfl (by decide) (by decide) ?_
        refine Wp_ls [(0, .ref 41), (1, vi a1)] (lsub_cons rfl (lsub_cons rfl lsub_nil)) ?_
        have h_45 : c_26 41 3 = c2 41 3 := ((hF_28 41 3 (by omega)).trans (hF_9 41 3 (by omega)))
        have h_46 : c_26 41 35 = c2 41 35 := ((hF_28 41 35 (by omega)).trans (hF_9 41 35 (by omega)))
        have h_47 : c_26 41 34 = c_26 41 34 := rfl
        have h_48 : c_7 41 34 = c2 41 34 := (hF_9 41 34 (by omega))
        exact ih c_26 hI_27 (fun a j hm => (hF_28 a j (by omega)).trans ((hF_9 a j (by omega)).trans (hF a j (by omega)))) (by omega) (by omega) (by omega) (by omega) (by omega) (by omega) (by omega) (by omega) (by omega) (by omega) (ap_join (ap_fr (c2 := c_26) hx10 (by omega) rfl rfl (fun j h1 h2 => (hF_28 56 j (by omega)).trans (hF_9 56 j (by omega)))) (show c_7 41 34 = c2 41 34 from by omega) (hA_35 (by omega))) (by omega)
set_option maxRecDepth 100000 in
set_option maxHeartbeats 4000000 in
theorem s_202 {sc : List Int32} {d P Q : Nat} {c : ME} {a1 : Int} {Z : AR → Prop} (hI : Iv 0 (-1) P Q c) (ha1 : (-2147483648) ≤ a1 ∧ a1 ≤ 2147483647) (K : ∀ (c2 : ME) (y : Int), Iv 0 (-1) P Q c2 → (∀ (a : Nat) (j : Int), ¬ ((a = 41 ∧ j = 0) ∨ a = 42 ∨ (a = 41 ∧ j = 2) ∨ (a = 41 ∧ j = 3) ∨ (a = 41 ∧ j = 4) ∨ (a = 41 ∧ j = 5) ∨ (a = 41 ∧ j = 6) ∨ (a = 41 ∧ j = 7) ∨ (a = 41 ∧ j = 8) ∨ (a = 41 ∧ j = 34) ∨ a = 56 ∨ a = 57 ∨ a = 60 ∨ (a = 41 ∧ j = 35) ∨ (a = 41 ∧ j = 36) ∨ (a = 41 ∧ j = 37) ∨ (a = 41 ∧ j = 38) ∨ (a = 41 ∧ j = 39) ∨ a = 58 ∨ a = 59 ∨ a = 54 ∨ a = 55) → c2 a j = c a j) → (-2147483648) ≤ y ∧ y ≤ 2147483647 → Z (.inl (some (vi y)), Wd P Q P P c2, 0, 0)) : Wp sc (d + 67) 202 0 [(0, .ref 41), (1, vi a1)] [] (Wd P Q P P c) 0 0 Z := by
  have hP := iv_P hI
  have hQ := iv_Q hI
  refine q_aload_n rfl rfl ?_
  refine q_iconst rfl ?_
  refine v_pi (z := 0) rfl rfl rfl (by decide) rfl rfl rfl (by decide) ?_
  refine q_aload_n rfl rfl ?_
  refine q_iload_n rfl rfl ?_
  by_cases h_50 : a1 < 0
  · refine v_if_lt_t (t := 29) rfl (by decide) (by omega) ?_
    refine q_iconst rfl ?_
    refine q_iconst rfl ?_
    refine q_iconst rfl ?_
    refine v_cv rfl rfl rfl rfl (by decide) ⟨⟨rfl, rfl⟩, by decide, rfl⟩ (Nat.le_of_ble_eq_true rfl) (Nat.le_of_ble_eq_true rfl) ?_
    refine q_iload_n rfl rfl ?_
    refine v_if_ne_f (t := 26) rfl (by decide) (by decide) ?_
    refine q_aload_n rfl rfl ?_
    refine v_gi (z := 0) (v := 0) rfl rfl rfl (by decide) rfl rfl (up_e rfl) ?_
    refine v_if_ne_f (t := 26) rfl (by decide) (by decide) ?_
    refine q_aload_n rfl rfl ?_
    refine q_iload_n rfl rfl ?_
    refine v_pi (z := 0) rfl rfl rfl (by decide) rfl rfl rfl (by decide) ?_
    refine q_aload_n rfl rfl ?_
    refine v_gr (t := 42) rfl rfl rfl (by decide) rfl ?_
    refine q_iload_n rfl rfl ?_
    refine q_dup2 rfl ⟨rfl, rfl⟩ ?_
    have h_51 := ir_42 hI 1
    refine v_ia (v := c 42 1) rfl rfl (by decide) (by decide) (by decide) ((up_c (by decide)).trans (up_c (by decide))) ?_
    refine q_iconst rfl ?_
    refine v_iadd (v := c 42 1 + 1) rfl (by omega) ?_
    refine v_nrm (fun y_52 hy_52 => ?_)
    refine v_is rfl rfl (by decide) (by decide) (by decide) ?_
    refine q_aload_n rfl rfl ?_
    refine v_gi (z := 0) (v := 1) rfl rfl rfl (by decide) rfl rfl ((up_c (by decide)).trans (up_e rfl)) ?_
    refine v_if_ne_t (t := 37) rfl (by decide) (by decide) ?_
    refine q_iconst rfl ?_
    refine v_zret rfl rfl (by omega) ?_
    refine bk_inl ?_
    refine v_if_ne_f (t := 40) rfl (by decide) (by decide) ?_
    refine q_iconst rfl ?_
    refine q_iret rfl rfl ?_
    have hI_53 := iw_41_0 (v := 0) hI ⟨by decide, by decide⟩
    have hI_54 := iw_41_0 (v := 1) hI_53 ⟨by decide, by decide⟩
    have hI_55 := iw_42 (j := 1) (v := y_52) hI_54 ⟨by omega, by omega⟩
    exact K (up (up (up c 41 0 0) 41 0 1) 42 1 y_52) 0 hI_55 (fun a j hm => (up_b (by omega)).trans ((up_b (by omega)).trans (up_b (by omega)))) ⟨by decide, by decide⟩
  · refine v_if_lt_f (t := 29) rfl (by decide) (by omega) ?_
    refine q_iload_n rfl rfl ?_
    refine q_aload_n rfl rfl ?_
    have h_56 := ir_41_2 hI
    refine v_gi (z := 2) (v := c 41 2) rfl rfl rfl (by decide) rfl rfl (up_n (by decide)) ?_
    by_cases h_57 : a1 > c 41 2
    · refine v_ic_gt_t (t := 29) rfl (by decide) (by omega) ?_
      refine q_iconst rfl ?_
      refine q_iconst rfl ?_
      refine q_iconst rfl ?_
      refine v_cv rfl rfl rfl rfl (by decide) ⟨⟨rfl, rfl⟩, by decide, rfl⟩ (Nat.le_of_ble_eq_true rfl) (Nat.le_of_ble_eq_true rfl) ?_
      refine q_iload_n rfl rfl ?_
      refine v_if_ne_f (t := 26) rfl (by decide) (by decide) ?_
      refine q_aload_n rfl rfl ?_
      refine v_gi (z := 0) (v := 0) rfl rfl rfl (by decide) rfl rfl (up_e rfl) ?_
      refine v_if_ne_f (t := 26) rfl (by decide) (by decide) ?_
      refine q_aload_n rfl rfl ?_
      refine q_iload_n rfl rfl ?_
      refine v_pi (z := 0) rfl rfl rfl (by decide) rfl rfl rfl (by decide) ?_
      refine q_aload_n rfl rfl ?_
      refine v_gr (t := 42) rfl rfl rfl (by decide) rfl ?_
      refine q_iload_n rfl rfl ?_
      refine q_dup2 rfl ⟨rfl, rfl⟩ ?_
      have h_58 := ir_42 hI 1
      refine v_ia (v := c 42 1) rfl rfl (by decide) (by decide) (by decide) ((up_c (by decide)).trans (up_c (by decide))) ?_
      refine q_iconst rfl ?_
      refine v_iadd (v := c 42 1 + 1) rfl (by omega) ?_
      refine v_nrm (fun y_59 hy_59 => ?_)
      refine v_is rfl rfl (by decide) (by decide) (by decide) ?_
      refine q_aload_n rfl rfl ?_
      refine v_gi (z := 0) (v := 1) rfl rfl rfl (by decide) rfl rfl ((up_c (by decide)).trans (up_e rfl)) ?_
      refine v_if_ne_t (t := 37) rfl (by decide) (by decide) ?_
      refine q_iconst rfl ?_
      refine v_zret rfl rfl (by omega) ?_
      refine bk_inl ?_
      refine v_if_ne_f (t := 40) rfl (by decide) (by decide) ?_
      refine q_iconst rfl ?_
      refine q_iret rfl rfl ?_
      have hI_60 := iw_41_0 (v := 0) hI ⟨by decide, by decide⟩
      have hI_61 := iw_41_0 (v := 1) hI_60 ⟨by decide, by decide⟩
      have hI_62 := iw_42 (j := 1) (v := y_59) hI_61 ⟨by omega, by omega⟩
      exact K (up (up (up c 41 0 0) 41 0 1) 42 1 y_59) 0 hI_62 (fun a j hm => (up_b (by omega)).trans ((up_b (by omega)).trans (up_b (by omega)))) ⟨by decide, by decide⟩
    · refine v_ic_gt_f (t := 29) rfl (by decide) (by omega) ?_
      refine q_iload_n rfl rfl ?_
      refine v_sip rfl (by decide) ?_
      by_cases h_63 : a1 > 150
      · refine v_ic_gt_t (t := 29) rfl (by decide) (by omega) ?_
        refine q_iconst rfl ?_
        refine q_iconst rfl ?_
        refine q_iconst rfl ?_
        refine v_cv rfl rfl rfl rfl (by decide) ⟨⟨rfl, rfl⟩, by decide, rfl⟩ (Nat.le_of_ble_eq_true rfl) (Nat.le_of_ble_eq_true rfl) ?_
        refine q_iload_n rfl rfl ?_
        refine v_if_ne_f (t := 26) rfl (by decide) (by decide) ?_
        refine q_aload_n rfl rfl ?_
        refine v_gi (z := 0) (v := 0) rfl rfl rfl (by decide) rfl rfl (up_e rfl) ?_
        refine v_if_ne_f (t := 26) rfl (by decide) (by decide) ?_
        refine q_aload_n rfl rfl ?_
        refine q_iload_n rfl rfl ?_
        refine v_pi (z := 0) rfl rfl rfl (by decide) rfl rfl rfl (by decide) ?_
        refine q_aload_n rfl rfl ?_
        refine v_gr (t := 42) rfl rfl rfl (by decide) rfl ?_
        refine q_iload_n rfl rfl ?_
        refine q_dup2 rfl ⟨rfl, rfl⟩ ?_
        have h_64 := ir_42 hI 1
        refine v_ia (v := c 42 1) rfl rfl (by decide) (by decide) (by decide) ((up_c (by decide)).trans (up_c (by decide))) ?_
        refine q_iconst rfl ?_
        refine v_iadd (v := c 42 1 + 1) rfl (by omega) ?_
        refine v_nrm (fun y_65 hy_65 => ?_)
        refine v_is rfl rfl (by decide) (by decide) (by decide) ?_
        refine q_aload_n rfl rfl ?_
        refine v_gi (z := 0) (v := 1) rfl rfl rfl (by decide) rfl rfl ((up_c (by decide)).trans (up_e rfl)) ?_
        refine v_if_ne_t (t := 37) rfl (by decide) (by decide) ?_
        refine q_iconst rfl ?_
        refine v_zret rfl rfl (by omega) ?_
        refine bk_inl ?_
        refine v_if_ne_f (t := 40) rfl (by decide) (by decide) ?_
        refine q_iconst rfl ?_
        refine q_iret rfl rfl ?_
        have hI_66 := iw_41_0 (v := 0) hI ⟨by decide, by decide⟩
        have hI_67 := iw_41_0 (v := 1) hI_66 ⟨by decide, by decide⟩
        have hI_68 := iw_42 (j := 1) (v := y_65) hI_67 ⟨by omega, by omega⟩
        exact K (up (up (up c 41 0 0) 41 0 1) 42 1 y_65) 0 hI_68 (fun a j hm => (up_b (by omega)).trans ((up_b (by omega)).trans (up_b (by omega)))) ⟨by decide, by decide⟩
      · refine v_ic_gt_f (t := 29) rfl (by decide) (by omega) ?_
        refine q_iconst rfl ?_
        refine q_goto (t := 30) rfl (by decide) ?_
        refine q_iconst rfl ?_
        refine q_iconst rfl ?_
        refine v_cv rfl rfl rfl rfl (by decide) ⟨⟨rfl, rfl⟩, by decide, rfl⟩ (Nat.le_of_ble_eq_true rfl) (Nat.le_of_ble_eq_true rfl) ?_
        refine q_iload_n rfl rfl ?_
        refine v_if_ne_t (t := 26) rfl (by decide) (by decide) ?_
        refine q_aload_n rfl rfl ?_
        refine v_gi (z := 0) (v := 0) rfl rfl rfl (by decide) rfl rfl (up_e rfl) ?_
        refine v_if_ne_f (t := 37) rfl (by decide) (by decide) ?_
        refine q_iconst rfl ?_
        refine q_goto (t := 38) rfl (by decide) ?_
        refine v_zret rfl rfl (by omega) ?_
        refine bk_inl ?_
        refine v_if_ne_t (t := 40) rfl (by decide) (by decide) ?_
        refine q_aload_n rfl rfl ?_
        refine q_iload_n rfl rfl ?_
        have hI_69 := iw_41_0 (v := 0) hI ⟨by decide, by decide⟩
        refine v_cv rfl rfl rfl rfl (by decide) ⟨⟨rfl, rfl⟩, by decide, rfl⟩ (Nat.le_of_ble_eq_true rfl) (Nat.le_of_ble_eq_true rfl) (s_163 (a1 := a1) hI_69 (show 0 ≤ a1 ∧ a1 ≤ 600 from by omega) (fun c_70 hI_71 hF_72 h_73 => ?_))
        refine bk_inl ?_
        have h_74 := ir_41_2 hI_71
        have h_75 := ir_41_3 hI_71
        have h_76 := ir_41_4 hI_71
        have h_77 := ir_41_5 hI_71
        have h_78 := ir_41_7 hI_71
        refine q_aload_n rfl rfl ?_
        have h_79 := ir_41_35 hI
        refine v_gi (z := 35) (v := c 41 35) rfl rfl rfl (by decide) rfl rfl ((hF_72 41 35 (by omega)).trans (up_n (by decide))) ?_
        refine v_bip rfl (by decide) ?_
        by_cases h_80 : c 41 35 ≠ 16
        · refine v_ic_ne_t (t := 63) rfl (by decide) (by omega) ?_
          refine q_aload_n rfl rfl ?_
          refine q_iconst rfl ?_
          refine v_pi (z := 34) rfl rfl rfl (by decide) rfl rfl rfl (by decide) ?_
          refine q_aload_n rfl rfl ?_
          refine v_cv rfl rfl rfl rfl (by decide) ⟨⟨rfl, rfl⟩, by decide, rfl⟩ (Nat.le_of_ble_eq_true rfl) (Nat.le_of_ble_eq_true rfl) ?_
          refine q_aload_n rfl rfl ?_
          refine v_gi (z := 5) (v := c_70 41 5) rfl rfl rfl (by decide) rfl rfl (up_n (by decide)) ?_
          refine q_iconst rfl ?_
          refine v_ic_ne_f (t := 12) rfl (by decide) (by omega) ?_
          refine q_iconst rfl ?_
          refine q_goto (t := 13) rfl (by decide) ?_
          refine v_zret rfl rfl (by omega) ?_
          refine bk_inl ?_
          refine v_if_eq_f (t := 89) rfl (by decide) (by decide) ?_
          have hI_81 := iw_41_34 (v := 0) hI_71 ⟨by decide, by decide⟩
          refine Wp_ls [(0, .ref 41), (1, vi a1)] (lsub_cons rfl (lsub_cons rfl lsub_nil)) ?_
          have h_82 : (up c_70 41 34 0) 41 34 = 0 := (up_e rfl)
          have h_83 : (up c_70 41 34 0) 41 3 = c_70 41 3 := (up_n (by decide))
          have h_84 : (up c_70 41 34 0) 41 34 = 0 := (up_e rfl)
          have h_85 : (up c_70 41 34 0) 41 35 = c 41 35 := ((up_n (by decide)).trans ((hF_72 41 35 (by omega)).trans (up_n (by decide))))
          have h_86 : (up c_70 41 34 0) 41 4 = c_70 41 4 := (up_n (by decide))
          have h_87 : (up c_70 41 34 0) 41 5 = c_70 41 5 := (up_n (by decide))
          have h_88 : (up c_70 41 34 0) 41 7 = c_70 41 7 := (up_n (by decide))
          have h_89 : (up c_70 41 34 0) 41 34 = 0 := (up_e rfl)
          exact (s_202_l (sc := sc) (d := d) hI ha1 K 1214) (up c_70 41 34 0) hI_81 (fun a j hm => (up_b (by omega)).trans ((hF_72 a j (by omega)).trans (up_b (by omega)))) (by omega) (by omega) (by omega) (by omega) (by omega) (by omega) (by omega) (by omega) (by omega) (by omega) (ap_nil (by omega)) (by omega)
        · refine v_ic_ne_f (t := 63) rfl (by decide) (by omega) ?_
          refine q_aload_n rfl rfl ?_
          refine q_iconst rfl ?_
          refine v_cv rfl rfl rfl rfl (by decide) ⟨⟨rfl, rfl⟩, by decide, rfl⟩ (Nat.le_of_ble_eq_true rfl) (Nat.le_of_ble_eq_true rfl) (s_164 (a1 := 0) hI_71 (show (-2147483648) ≤ 0 ∧ 0 ≤ 2147483647 from by omega) (fun c_90 y_93 hI_91 hF_92 hy_93 => ?_))
          refine bk_inl ?_
          refine q_pop rfl rfl ?_
          refine v_bip rfl (by decide) ?_
          refine q_iret rfl rfl ?_
          exact K c_90 (-20) hI_91 (fun a j hm => (hF_92 a j (by omega)).trans ((hF_72 a j (by omega)).trans (up_b (by omega)))) ⟨by decide, by decide⟩

set_option maxRecDepth 100000 in
set_option maxHeartbeats 4000000 in
theorem s_203_l {sc : List Int32} {e : Int} {d u P Q : Nat} {c : ME} {Z : AR → Prop} (hI : Iv u e P Q c)  (K : ∀ (y : Int), (-2147483648) ≤ y ∧ y ≤ 2147483647 → Z (.inl (some (vi y)), Wd P Q P P c, 0, 0)) : ∀ n : Nat, (∀ (v1 : Int) (v2 : Int), (-2147483648) ≤ v1 ∧ v1 ≤ 2147483647 → 0 ≤ v2 ∧ v2 ≤ 6 → 13 - 2 * v2 < (n : Int) → Wp sc (d + 8) 203 4 [(0, .ref 41), (1, vi v1), (2, vi v2)] [] (Wd P Q P P c) 0 0 Z)
  | 0 => by intro v1 v2 hv1 hv2 hm9; have hP := iv_P hI; have hQ := iv_Q hI; exfalso; omega
  | n + 1 => by
    have hP := iv_P hI
    have hQ := iv_Q hI
    have ih := s_203_l (sc := sc) (d := d) hI K n
    intro v1 v2 hv1 hv2 hm9
    refine q_iload_n rfl rfl ?_
    refine q_aload_n rfl rfl ?_
    have h_1 := ir_41_20 hI
    refine v_gi (z := 20) (v := c 41 20) rfl rfl rfl (by decide) rfl rfl rfl ?_
    by_cases h_2 : v2 ≥ c 41 20
    · refine v_ic_ge_t (t := 26) rfl (by decide) (by omega) ?_
      refine q_iload_n rfl rfl ?_
      refine q_iret rfl rfl ?_
      exact K v1 ⟨by omega, by omega⟩
    · refine v_ic_ge_f (t := 26) rfl (by decide) (by omega) ?_
      refine q_iload_n rfl rfl ?_
      refine q_aload_n rfl rfl ?_
      refine q_iload_n rfl rfl ?_
      have h_3 := ir_59_g hI (j := 4 * v2) (by omega)
      have h_4 := ir_59_g hI (j := 4 * v2 + 1) (by omega)
      have h_5 := ir_59_g hI (j := 4 * v2 + 2) (by omega)
      have h_6 := ir_59_g hI (j := 4 * v2 + 3) (by omega)
      refine v_cv rfl rfl rfl rfl (by decide) ⟨⟨rfl, rfl⟩, by decide, rfl⟩ (Nat.le_of_ble_eq_true rfl) (Nat.le_of_ble_eq_true rfl) (s_187 (v1 := c 59 (4 * v2)) (v2 := c 59 (4 * v2 + 1)) (v3 := c 59 (4 * v2 + 2)) (v4 := c 59 (4 * v2 + 3)) (r := c 59 (4 * v2 + 1) + c 59 (4 * v2 + 2) + c 59 (4 * v2 + 3) + c 59 (4 * v2)) (a1 := v2) hI (show 0 ≤ v2 ∧ v2 ≤ 5 from by omega) (rfl) (rfl) (rfl) (rfl) (by omega) ?_)
      refine bk_inl ?_
      refine v_iadd (v := c 59 (4 * v2 + 1) + c 59 (4 * v2 + 2) + c 59 (4 * v2 + 3) + c 59 (4 * v2) + v1) rfl (by omega) ?_
      refine v_nrm (fun y_7 hy_7 => ?_)
      refine q_istore_n rfl (by decide) ?_
      refine v_iinc (v := v2 + 1) rfl rfl (by decide) (by omega) ?_
      refine q_goto (t := 4) rfl (by decide) ?_
      refine Wp_ls [(0, .ref 41), (1, vi y_7), (2, vi (v2 + 1))] (lsub_cons rfl (lsub_cons rfl (lsub_cons rfl lsub_nil))) ?_
      exact ih y_7 (v2 + 1) ⟨by omega, by omega⟩ ⟨by omega, by omega⟩ (by omega)
set_option maxRecDepth 100000 in
set_option maxHeartbeats 4000000 in
theorem s_203 {sc : List Int32} {e : Int} {d u P Q : Nat} {c : ME} {Z : AR → Prop} (hI : Iv u e P Q c)  (K : ∀ (y : Int), (-2147483648) ≤ y ∧ y ≤ 2147483647 → Z (.inl (some (vi y)), Wd P Q P P c, 0, 0)) : Wp sc (d + 8) 203 0 [(0, .ref 41)] [] (Wd P Q P P c) 0 0 Z := by
  have hP := iv_P hI
  have hQ := iv_Q hI
  refine q_iconst rfl ?_
  refine q_istore_n rfl (by decide) ?_
  refine q_iconst rfl ?_
  refine q_istore_n rfl (by decide) ?_
  refine Wp_ls [(0, .ref 41), (1, vi 0), (2, vi 0)] (lsub_cons rfl (lsub_cons rfl (lsub_cons rfl lsub_nil))) ?_
  exact (s_203_l (sc := sc) (d := d) hI K 16) 0 0 ⟨by decide, by decide⟩ ⟨by decide, by decide⟩ (by omega)

set_option maxRecDepth 100000 in
set_option maxHeartbeats 4000000 in
theorem s_204 {sc : List Int32} {e : Int} {d u P Q : Nat} {c : ME} {a1 : Int} {Z : AR → Prop} (hI : Iv u e P Q c) (ha1 : 0 ≤ a1 ∧ a1 ≤ 5) (K : ∀ (y : Int), (-2147483648) ≤ y ∧ y ≤ 2147483647 → Z (.inl (some (vi y)), Wd P Q P P c, 0, 0)) : Wp sc (d + 8) 204 0 [(0, .ref 41), (1, vi a1)] [] (Wd P Q P P c) 0 0 Z := by
  have hP := iv_P hI
  have hQ := iv_Q hI
  refine q_aload_n rfl rfl ?_
  refine q_iload_n rfl rfl ?_
  have h_1 := ir_59_g hI (j := 4 * a1) (by omega)
  have h_2 := ir_59_g hI (j := 4 * a1 + 1) (by omega)
  have h_3 := ir_59_g hI (j := 4 * a1 + 2) (by omega)
  have h_4 := ir_59_g hI (j := 4 * a1 + 3) (by omega)
  refine v_cv rfl rfl rfl rfl (by decide) ⟨⟨rfl, rfl⟩, by decide, rfl⟩ (Nat.le_of_ble_eq_true rfl) (Nat.le_of_ble_eq_true rfl) (s_187 (v1 := c 59 (4 * a1)) (v2 := c 59 (4 * a1 + 1)) (v3 := c 59 (4 * a1 + 2)) (v4 := c 59 (4 * a1 + 3)) (r := c 59 (4 * a1 + 1) + c 59 (4 * a1 + 2) + c 59 (4 * a1 + 3) + c 59 (4 * a1)) (a1 := a1) hI (show 0 ≤ a1 ∧ a1 ≤ 5 from by omega) (rfl) (rfl) (rfl) (rfl) (by omega) ?_)
  refine bk_inl ?_
  by_cases h_5 : c 59 (4 * a1 + 1) + c 59 (4 * a1 + 2) + c 59 (4 * a1 + 3) + c 59 (4 * a1) ≠ 0
  · refine v_if_ne_t (t := 12) rfl (by decide) (by omega) ?_
    refine v_sip rfl (by decide) ?_
    refine q_aload_n rfl rfl ?_
    refine v_gr (t := 59) rfl rfl rfl (by decide) rfl ?_
    refine q_iconst rfl ?_
    refine q_iload_n rfl rfl ?_
    refine v_imul (v := 4 * a1) rfl (by omega) ?_
    refine v_ia (v := c 59 (4 * a1)) rfl rfl (by decide) (by decide) (by omega) rfl ?_
    refine v_imul (v := 1000 * c 59 (4 * a1)) rfl (by omega) ?_
    refine q_aload_n rfl rfl ?_
    refine q_iload_n rfl rfl ?_
    refine v_cv rfl rfl rfl rfl (by decide) ⟨⟨rfl, rfl⟩, by decide, rfl⟩ (Nat.le_of_ble_eq_true rfl) (Nat.le_of_ble_eq_true rfl) (s_187 (v1 := c 59 (4 * a1)) (v2 := c 59 (4 * a1 + 1)) (v3 := c 59 (4 * a1 + 2)) (v4 := c 59 (4 * a1 + 3)) (r := c 59 (4 * a1 + 1) + c 59 (4 * a1 + 2) + c 59 (4 * a1 + 3) + c 59 (4 * a1)) (a1 := a1) hI (show 0 ≤ a1 ∧ a1 ≤ 5 from by omega) (rfl) (rfl) (rfl) (rfl) (by omega) ?_)
    refine bk_inl ?_
    refine v_idivx rfl ⟨by omega, by omega, by omega⟩ (fun y_6 hy_6 => ?_)
    refine q_iret rfl rfl ?_
    exact K y_6 ⟨by omega, by omega⟩
  · refine v_if_ne_f (t := 12) rfl (by decide) (by omega) ?_
    refine q_iconst rfl ?_
    refine q_goto (t := 30) rfl (by decide) ?_
    refine q_iret rfl rfl ?_
    exact K 0 ⟨by decide, by decide⟩

set_option maxRecDepth 100000 in
set_option maxHeartbeats 4000000 in
theorem s_206_l {sc : List Int32} {e : Int} {d u P Q : Nat} {c : ME} {a1 : Int} {Z : AR → Prop} (hI : Iv u e P Q c) (ha1 : (-2147483648) ≤ a1 ∧ a1 ≤ 2147483647) (K : ∀ (c2 : ME) (y : Int), Iv u e P Q c2 → (∀ (a : Nat) (j : Int), ¬ ((a = 41 ∧ j = 0) ∨ a = 42 ∨ (a = 41 ∧ j = 2) ∨ (a = 41 ∧ j = 3) ∨ (a = 41 ∧ j = 4) ∨ (a = 41 ∧ j = 5) ∨ (a = 41 ∧ j = 6) ∨ (a = 41 ∧ j = 7) ∨ (a = 41 ∧ j = 8) ∨ (a = 41 ∧ j = 47) ∨ a = 61 ∨ a = 62) → c2 a j = c a j) → (-2147483648) ≤ y ∧ y ≤ 2147483647 → Z (.inl (some (vi y)), Wd P Q P P c2, 0, 0)) : ∀ n : Nat, (∀ (c2 : ME) (v2 : Int), Iv u e P Q c2 → (∀ (a : Nat) (j : Int), ¬ ((a = 41 ∧ j = 0) ∨ a = 42 ∨ (a = 41 ∧ j = 2) ∨ (a = 41 ∧ j = 3) ∨ (a = 41 ∧ j = 4) ∨ (a = 41 ∧ j = 5) ∨ (a = 41 ∧ j = 6) ∨ (a = 41 ∧ j = 7) ∨ (a = 41 ∧ j = 8) ∨ (a = 41 ∧ j = 47) ∨ a = 61 ∨ a = 62) → c2 a j = c a j) → 0 ≤ v2 ∧ v2 ≤ 8 → ((c 41 3 = c 41 3)) → 1211 - 2 * c2 41 4 < (n : Int) → Wp sc (d + 9) 206 22 [(0, .ref 41), (1, vi a1), (2, vi v2)] [] (Wd P Q P P c2) 0 0 Z)
  | 0 => by intro c2 v2 hI2 hF hv2 hx0 hm9; have hP := iv_P hI; have hQ := iv_Q hI; have h_92 := ir_41_4 hI2; exfalso; omega
  | n + 1 => by
    have hP := iv_P hI
    have hQ := iv_Q hI
    have ih := s_206_l (sc := sc) (d := d) hI ha1 K n
    intro c2 v2 hI2 hF hv2 hx0 hm9
    have h_1 := ir_41_3 hI
    have h_2 := ir_41_4 hI2
    refine q_aload_n rfl rfl ?_
    refine v_cv rfl rfl rfl rfl (by decide) ⟨⟨rfl, rfl⟩, by decide, rfl⟩ (Nat.le_of_ble_eq_true rfl) (Nat.le_of_ble_eq_true rfl) ?_
    refine q_aload_n rfl rfl ?_
    have h_3 := ir_41_5 hI2
    refine v_gi (z := 5) (v := c2 41 5) rfl rfl rfl (by decide) rfl rfl rfl ?_
    refine q_iconst rfl ?_
    by_cases h_4 : c2 41 5 ≠ (-1)
    · refine v_ic_ne_t (t := 12) rfl (by decide) (by omega) ?_
      refine q_iconst rfl ?_
      refine v_zret rfl rfl (by omega) ?_
      refine bk_inl ?_
      refine v_if_eq_t (t := 103) rfl (by decide) (by decide) ?_
      refine q_aload_n rfl rfl ?_
      refine q_iload_n rfl rfl ?_
      refine v_cv rfl rfl rfl rfl (by decide) ⟨⟨rfl, rfl⟩, by decide, rfl⟩ (Nat.le_of_ble_eq_true rfl) (Nat.le_of_ble_eq_true rfl) (s_164 (a1 := v2) hI2 (show (-2147483648) ≤ v2 ∧ v2 ≤ 2147483647 from by omega) (fun c_5 y_8 hI_6 hF_7 hy_8 => ?_))
      refine bk_inl ?_
      refine q_istore_n rfl (by decide) ?_
      refine q_aload_n rfl rfl ?_
      refine v_gi (z := 5) (v := c2 41 5) rfl rfl rfl (by decide) rfl rfl (hF_7 41 5 (by omega)) ?_
      refine q_iconst rfl ?_
      refine v_ic_eq_f (t := 119) rfl (by decide) (by omega) ?_
      refine q_iload_n rfl rfl ?_
      refine q_iret rfl rfl ?_
      exact K c_5 y_8 hI_6 (fun a j hm => (hF_7 a j (by omega)).trans (hF a j (by omega))) ⟨by omega, by omega⟩
    · refine v_ic_ne_f (t := 12) rfl (by decide) (by omega) ?_
      refine q_iconst rfl ?_
      refine q_goto (t := 13) rfl (by decide) ?_
      refine v_zret rfl rfl (by omega) ?_
      refine bk_inl ?_
      refine v_if_eq_f (t := 103) rfl (by decide) (by decide) ?_
      refine q_aload_n rfl rfl ?_
      have h_9 := ir_41_3 hI2
      refine v_cv rfl rfl rfl rfl (by decide) ⟨⟨rfl, rfl⟩, by decide, rfl⟩ (Nat.le_of_ble_eq_true rfl) (Nat.le_of_ble_eq_true rfl) (s_162 hI2 (fun c_10 y_13 hI_11 hF_12 hy_13 h_14 h_15 h_16 => ?_))
      refine bk_inl ?_
      have h_17 := ir_41_4 hI_11
      by_cases h_18 : y_13 = 0
      · refine v_if_eq_t (t := 103) rfl (by decide) (by omega) ?_
        refine q_aload_n rfl rfl ?_
        refine q_iload_n rfl rfl ?_
        refine v_cv rfl rfl rfl rfl (by decide) ⟨⟨rfl, rfl⟩, by decide, rfl⟩ (Nat.le_of_ble_eq_true rfl) (Nat.le_of_ble_eq_true rfl) (s_164 (a1 := v2) hI_11 (show (-2147483648) ≤ v2 ∧ v2 ≤ 2147483647 from by omega) (fun c_19 y_22 hI_20 hF_21 hy_22 => ?_))
        refine bk_inl ?_
        refine q_istore_n rfl (by decide) ?_
        refine q_aload_n rfl rfl ?_
        refine v_gi (z := 5) (v := c2 41 5) rfl rfl rfl (by decide) rfl rfl ((hF_21 41 5 (by omega)).trans (hF_12 41 5 (by omega))) ?_
        refine q_iconst rfl ?_
        refine v_ic_eq_t (t := 119) rfl (by decide) (by omega) ?_
        refine q_aload_n rfl rfl ?_
        refine q_iload_n rfl rfl ?_
        refine v_pi (z := 47) rfl rfl rfl (by decide) rfl rfl rfl (by decide) ?_
        refine q_aload_n rfl rfl ?_
        refine q_aload_n rfl rfl ?_
        refine v_gr (t := 61) rfl rfl rfl (by decide) rfl ?_
        refine q_aload_n rfl rfl ?_
        refine v_gr (t := 62) rfl rfl rfl (by decide) rfl ?_
        refine v_bip rfl (by decide) ?_
        refine v_cv rfl rfl rfl rfl (by decide) ⟨⟨rfl, rfl⟩, by decide, rfl⟩ (Nat.le_of_ble_eq_true rfl) (Nat.le_of_ble_eq_true rfl) (s_148 (f := 61) (t := 62) (nf := 8) (nt := 8) (n := 8) rfl rfl (by decide) (by decide) (by decide) (by decide) (by decide) (by omega) ?_)
        refine bk_inl ?_
        refine q_iload_n rfl rfl ?_
        refine q_iret rfl rfl ?_
        have hI_23 := iw_41_47 (v := v2) hI_20 ⟨by omega, by omega⟩
        have hI_24 := cp_61_62 hI_23
        exact K (upc (up c_19 41 47 v2) 61 0 62 0 8) y_22 hI_24 (fun a j hm => (upc_c (by omega)).trans ((up_b (by omega)).trans ((hF_21 a j (by omega)).trans ((hF_12 a j (by omega)).trans (hF a j (by omega)))))) ⟨by omega, by omega⟩
      · refine v_if_eq_f (t := 103) rfl (by decide) (by omega) ?_
        refine q_aload_n rfl rfl ?_
        refine v_gi (z := 4) (v := c_10 41 4) rfl rfl rfl (by decide) rfl rfl rfl ?_
        refine q_istore_n rfl (by decide) ?_
        refine q_aload_n rfl rfl ?_
        refine q_iconst rfl ?_
        refine q_aload_n rfl rfl ?_
        have h_25 := ir_41_22 hI
        refine v_gi (z := 22) (v := c 41 22) rfl rfl rfl (by decide) rfl rfl ((hF_12 41 22 (by omega)).trans (hF 41 22 (by omega))) ?_
        refine q_iconst rfl ?_
        refine v_isub (v := c 41 22 - 1) rfl (by omega) ?_
        have h_26 : c_10 41 3 = c2 41 3 := (hF_12 41 3 (by omega))
        have h_27 : c_10 41 5 = c2 41 5 := (hF_12 41 5 (by omega))
        refine v_cv rfl rfl rfl rfl (by decide) ⟨⟨rfl, rfl⟩, by decide, rfl⟩ (Nat.le_of_ble_eq_true rfl) (Nat.le_of_ble_eq_true rfl) (s_160 (a1 := 0) (a2 := c 41 22 - 1) hI_11 (show 0 ≤ 0 ∧ 0 ≤ 1 from by omega) (show (-1) ≤ c 41 22 - 1 ∧ c 41 22 - 1 ≤ 9999 from by omega) (fun c_28 y_31 hI_29 hF_30 hy_31 h_32 h_33 h_34 h_35 h_36 => ?_))
        refine bk_inl ?_
        have h_37 := ir_41_4 hI_29
        have h_38 := ir_41_5 hI_29
        refine q_istore rfl (by decide) ?_
        refine q_aload_n rfl rfl ?_
        refine v_cv rfl rfl rfl rfl (by decide) ⟨⟨rfl, rfl⟩, by decide, rfl⟩ (Nat.le_of_ble_eq_true rfl) (Nat.le_of_ble_eq_true rfl) ?_
        refine q_aload_n rfl rfl ?_
        refine v_gi (z := 5) (v := c_28 41 5) rfl rfl rfl (by decide) rfl rfl rfl ?_
        refine q_iconst rfl ?_
        by_cases h_39 : c_28 41 5 ≠ (-1)
        · refine v_ic_ne_t (t := 12) rfl (by decide) (by omega) ?_
          refine q_iconst rfl ?_
          refine v_zret rfl rfl (by omega) ?_
          refine bk_inl ?_
          refine v_if_eq_t (t := 73) rfl (by decide) (by decide) ?_
          refine q_aload_n rfl rfl ?_
          refine v_bip rfl (by decide) ?_
          have h_40 : c_28 41 3 = c2 41 3 := ((hF_30 41 3 (by omega)).trans (hF_12 41 3 (by omega)))
          refine v_cv rfl rfl rfl rfl (by decide) ⟨⟨rfl, rfl⟩, by decide, rfl⟩ (Nat.le_of_ble_eq_true rfl) (Nat.le_of_ble_eq_true rfl) (s_161 (a1 := 59) hI_29 (show 1 ≤ 59 ∧ 59 ≤ 255 from by omega) (fun c_41 hI_42 hF_43 h_44 h_45 h_46 h_47 => ?_))
          refine bk_inl ?_
          have h_48 := ir_41_4 hI_42
          have h_49 := ir_41_5 hI_42
          refine q_aload_n rfl rfl ?_
          refine v_cv rfl rfl rfl rfl (by decide) ⟨⟨rfl, rfl⟩, by decide, rfl⟩ (Nat.le_of_ble_eq_true rfl) (Nat.le_of_ble_eq_true rfl) ?_
          refine q_aload_n rfl rfl ?_
          refine v_gi (z := 5) (v := c_41 41 5) rfl rfl rfl (by decide) rfl rfl rfl ?_
          refine q_iconst rfl ?_
          refine v_ic_ne_t (t := 12) rfl (by decide) (by omega) ?_
          refine q_iconst rfl ?_
          refine v_zret rfl rfl (by omega) ?_
          refine bk_inl ?_
          refine v_if_ne_f (t := 89) rfl (by decide) (by decide) ?_
          refine q_goto (t := 103) rfl (by decide) ?_
          refine q_aload_n rfl rfl ?_
          refine q_iload_n rfl rfl ?_
          refine v_cv rfl rfl rfl rfl (by decide) ⟨⟨rfl, rfl⟩, by decide, rfl⟩ (Nat.le_of_ble_eq_true rfl) (Nat.le_of_ble_eq_true rfl) (s_164 (a1 := v2) hI_42 (show (-2147483648) ≤ v2 ∧ v2 ≤ 2147483647 from by omega) (fun c_50 y_53 hI_51 hF_52 hy_53 => ?_))
          refine bk_inl ?_
          refine q_istore_n rfl (by decide) ?_
          refine q_aload_n rfl rfl ?_
          refine v_gi (z := 5) (v := c_41 41 5) rfl rfl rfl (by decide) rfl rfl (hF_52 41 5 (by omega)) ?_
          refine q_iconst rfl ?_
          refine v_ic_eq_f (t := 119) rfl (by decide) (by omega) ?_
          refine q_iload_n rfl rfl ?_
          refine q_iret rfl rfl ?_
          exact K c_50 y_53 hI_51 (fun a j hm => (hF_52 a j (by omega)).trans ((hF_43 a j (by omega)).trans ((hF_30 a j (by omega)).trans ((hF_12 a j (by omega)).trans (hF a j (by omega)))))) ⟨by omega, by omega⟩
        · refine v_ic_ne_f (t := 12) rfl (by decide) (by omega) ?_
          refine q_iconst rfl ?_
          refine q_goto (t := 13) rfl (by decide) ?_
          refine v_zret rfl rfl (by omega) ?_
          refine bk_inl ?_
          refine v_if_eq_f (t := 73) rfl (by decide) (by decide) ?_
          refine q_iload_n rfl rfl ?_
          refine v_bip rfl (by decide) ?_
          by_cases h_54 : v2 ≠ 8
          · refine v_ic_ne_t (t := 73) rfl (by decide) (by omega) ?_
            refine q_aload_n rfl rfl ?_
            refine v_bip rfl (by decide) ?_
            have h_55 : c_28 41 3 = c2 41 3 := ((hF_30 41 3 (by omega)).trans (hF_12 41 3 (by omega)))
            refine v_cv rfl rfl rfl rfl (by decide) ⟨⟨rfl, rfl⟩, by decide, rfl⟩ (Nat.le_of_ble_eq_true rfl) (Nat.le_of_ble_eq_true rfl) (s_161 (a1 := 59) hI_29 (show 1 ≤ 59 ∧ 59 ≤ 255 from by omega) (fun c_56 hI_57 hF_58 h_59 h_60 h_61 h_62 => ?_))
            refine bk_inl ?_
            have h_63 := ir_41_4 hI_57
            have h_64 := ir_41_5 hI_57
            refine q_aload_n rfl rfl ?_
            refine v_cv rfl rfl rfl rfl (by decide) ⟨⟨rfl, rfl⟩, by decide, rfl⟩ (Nat.le_of_ble_eq_true rfl) (Nat.le_of_ble_eq_true rfl) ?_
            refine q_aload_n rfl rfl ?_
            refine v_gi (z := 5) (v := c_56 41 5) rfl rfl rfl (by decide) rfl rfl rfl ?_
            refine q_iconst rfl ?_
            by_cases h_65 : c_56 41 5 ≠ (-1)
            · refine v_ic_ne_t (t := 12) rfl (by decide) (by omega) ?_
              refine q_iconst rfl ?_
              refine v_zret rfl rfl (by omega) ?_
              refine bk_inl ?_
              refine v_if_ne_f (t := 89) rfl (by decide) (by decide) ?_
              refine q_goto (t := 103) rfl (by decide) ?_
              refine q_aload_n rfl rfl ?_
              refine q_iload_n rfl rfl ?_
              refine v_cv rfl rfl rfl rfl (by decide) ⟨⟨rfl, rfl⟩, by decide, rfl⟩ (Nat.le_of_ble_eq_true rfl) (Nat.le_of_ble_eq_true rfl) (s_164 (a1 := v2) hI_57 (show (-2147483648) ≤ v2 ∧ v2 ≤ 2147483647 from by omega) (fun c_66 y_69 hI_67 hF_68 hy_69 => ?_))
              refine bk_inl ?_
              refine q_istore_n rfl (by decide) ?_
              refine q_aload_n rfl rfl ?_
              refine v_gi (z := 5) (v := c_56 41 5) rfl rfl rfl (by decide) rfl rfl (hF_68 41 5 (by omega)) ?_
              refine q_iconst rfl ?_
              refine v_ic_eq_f (t := 119) rfl (by decide) (by omega) ?_
              refine q_iload_n rfl rfl ?_
              refine q_iret rfl rfl ?_
              exact K c_66 y_69 hI_67 (fun a j hm => (hF_68 a j (by omega)).trans ((hF_58 a j (by omega)).trans ((hF_30 a j (by omega)).trans ((hF_12 a j (by omega)).trans (hF a j (by omega)))))) ⟨by omega, by omega⟩
            · refine v_ic_ne_f (t := 12) rfl (by decide) (by omega) ?_
              refine q_iconst rfl ?_
              refine q_goto (t := 13) rfl (by decide) ?_
              refine v_zret rfl rfl (by omega) ?_
              refine bk_inl ?_
              refine v_if_ne_t (t := 89) rfl (by decide) (by decide) ?_
              refine q_aload_n rfl rfl ?_
              refine v_gr (t := 61) rfl rfl rfl (by decide) rfl ?_
              refine q_iload_n rfl rfl ?_
              refine q_iload rfl rfl ?_
              refine v_is rfl rfl (by decide) (by decide) (by omega) ?_
              refine v_iinc (v := v2 + 1) rfl rfl (by decide) (by omega) ?_
              refine q_goto (t := 22) rfl (by decide) ?_
              have hI_70 := iw_61 (j := v2) (v := y_31) hI_57 ⟨by omega, by omega⟩
              refine Wp_ls [(0, .ref 41), (1, vi a1), (2, vi (v2 + 1))] (lsub_cons rfl (lsub_cons rfl (lsub_cons rfl lsub_nil))) ?_
              have h_71 : (up c_56 61 v2 y_31) 41 4 = c_56 41 4 := (up_c (by decide))
              exact ih (up c_56 61 v2 y_31) (v2 + 1) hI_70 (fun a j hm => (up_b (by omega)).trans ((hF_58 a j (by omega)).trans ((hF_30 a j (by omega)).trans ((hF_12 a j (by omega)).trans (hF a j (by omega)))))) ⟨by omega, by omega⟩ (by omega) (by omega)
          · refine v_ic_ne_f (t := 73) rfl (by decide) (by omega) ?_
            refine q_aload_n rfl rfl ?_
            refine q_iconst rfl ?_
            refine q_iload_n rfl rfl ?_
            refine v_cv rfl rfl rfl rfl (by decide) ⟨⟨rfl, rfl⟩, by decide, rfl⟩ (Nat.le_of_ble_eq_true rfl) (Nat.le_of_ble_eq_true rfl) (s_153 (a1 := 3) (a2 := c_10 41 4) hI_29 (show 1 ≤ 3 ∧ 3 ≤ 3 from by omega) (show 0 ≤ c_10 41 4 ∧ c_10 41 4 ≤ 605 from by omega) (fun c_72 hI_73 hF_74 h_75 => ?_))
            refine bk_inl ?_
            have h_76 := ir_41_5 hI_73
            refine q_aload_n rfl rfl ?_
            refine v_bip rfl (by decide) ?_
            have h_77 : c_72 41 4 = c_28 41 4 := (hF_74 41 4 (by omega))
            have h_78 : c_72 41 3 = c2 41 3 := ((hF_74 41 3 (by omega)).trans ((hF_30 41 3 (by omega)).trans (hF_12 41 3 (by omega))))
            refine v_cv rfl rfl rfl rfl (by decide) ⟨⟨rfl, rfl⟩, by decide, rfl⟩ (Nat.le_of_ble_eq_true rfl) (Nat.le_of_ble_eq_true rfl) (s_161 (a1 := 59) hI_73 (show 1 ≤ 59 ∧ 59 ≤ 255 from by omega) (fun c_79 hI_80 hF_81 h_82 h_83 h_84 h_85 => ?_))
            refine bk_inl ?_
            have h_86 := ir_41_4 hI_80
            have h_87 := ir_41_5 hI_80
            refine q_aload_n rfl rfl ?_
            refine v_cv rfl rfl rfl rfl (by decide) ⟨⟨rfl, rfl⟩, by decide, rfl⟩ (Nat.le_of_ble_eq_true rfl) (Nat.le_of_ble_eq_true rfl) ?_
            refine q_aload_n rfl rfl ?_
            refine v_gi (z := 5) (v := c_79 41 5) rfl rfl rfl (by decide) rfl rfl rfl ?_
            refine q_iconst rfl ?_
            refine v_ic_ne_t (t := 12) rfl (by decide) (by omega) ?_
            refine q_iconst rfl ?_
            refine v_zret rfl rfl (by omega) ?_
            refine bk_inl ?_
            refine v_if_ne_f (t := 89) rfl (by decide) (by decide) ?_
            refine q_goto (t := 103) rfl (by decide) ?_
            refine q_aload_n rfl rfl ?_
            refine q_iload_n rfl rfl ?_
            refine v_cv rfl rfl rfl rfl (by decide) ⟨⟨rfl, rfl⟩, by decide, rfl⟩ (Nat.le_of_ble_eq_true rfl) (Nat.le_of_ble_eq_true rfl) (s_164 (a1 := v2) hI_80 (show (-2147483648) ≤ v2 ∧ v2 ≤ 2147483647 from by omega) (fun c_88 y_91 hI_89 hF_90 hy_91 => ?_))
            refine bk_inl ?_
            refine q_istore_n rfl (by decide) ?_
            refine q_aload_n rfl rfl ?_
            refine v_gi (z := 5) (v := c_79 41 5) rfl rfl rfl (by decide) rfl rfl (hF_90 41 5 (by omega)) ?_
            refine q_iconst rfl ?_
            refine v_ic_eq_f (t := 119) rfl (by decide) (by omega) ?_
            refine q_iload_n rfl rfl ?_
            refine q_iret rfl rfl ?_
            exact K c_88 y_91 hI_89 (fun a j hm => (hF_90 a j (by omega)).trans ((hF_81 a j (by omega)).trans ((hF_74 a j (by omega)).trans ((hF_30 a j (by omega)).trans ((hF_12 a j (by omega)).trans (hF a j (by omega))))))) ⟨by omega, by omega⟩
set_option maxRecDepth 100000 in
set_option maxHeartbeats 4000000 in
theorem s_206 {sc : List Int32} {e : Int} {d u P Q : Nat} {c : ME} {a1 : Int} {Z : AR → Prop} (hI : Iv u e P Q c) (ha1 : (-2147483648) ≤ a1 ∧ a1 ≤ 2147483647) (K : ∀ (c2 : ME) (y : Int), Iv u e P Q c2 → (∀ (a : Nat) (j : Int), ¬ ((a = 41 ∧ j = 0) ∨ a = 42 ∨ (a = 41 ∧ j = 2) ∨ (a = 41 ∧ j = 3) ∨ (a = 41 ∧ j = 4) ∨ (a = 41 ∧ j = 5) ∨ (a = 41 ∧ j = 6) ∨ (a = 41 ∧ j = 7) ∨ (a = 41 ∧ j = 8) ∨ (a = 41 ∧ j = 47) ∨ a = 61 ∨ a = 62) → c2 a j = c a j) → (-2147483648) ≤ y ∧ y ≤ 2147483647 → Z (.inl (some (vi y)), Wd P Q P P c2, 0, 0)) : Wp sc (d + 9) 206 0 [(0, .ref 41), (1, vi a1)] [] (Wd P Q P P c) 0 0 Z := by
  have hP := iv_P hI
  have hQ := iv_Q hI
  refine q_aload_n rfl rfl ?_
  refine q_iconst rfl ?_
  refine v_pi (z := 0) rfl rfl rfl (by decide) rfl rfl rfl (by decide) ?_
  refine q_aload_n rfl rfl ?_
  refine q_iload_n rfl rfl ?_
  refine v_cv rfl rfl rfl rfl (by decide) ⟨⟨rfl, rfl⟩, by decide, rfl⟩ (Nat.le_of_ble_eq_true rfl) (Nat.le_of_ble_eq_true rfl) ?_
  refine q_aload_n rfl rfl ?_
  refine q_iload_n rfl rfl ?_
  by_cases h_93 : a1 < 0
  · refine v_if_lt_t (t := 23) rfl (by decide) (by omega) ?_
    refine q_iconst rfl ?_
    refine q_iconst rfl ?_
    refine q_iconst rfl ?_
    refine v_cv rfl rfl rfl rfl (by decide) ⟨⟨rfl, rfl⟩, by decide, rfl⟩ (Nat.le_of_ble_eq_true rfl) (Nat.le_of_ble_eq_true rfl) ?_
    refine q_iload_n rfl rfl ?_
    refine v_if_ne_f (t := 26) rfl (by decide) (by decide) ?_
    refine q_aload_n rfl rfl ?_
    refine v_gi (z := 0) (v := 0) rfl rfl rfl (by decide) rfl rfl (up_e rfl) ?_
    refine v_if_ne_f (t := 26) rfl (by decide) (by decide) ?_
    refine q_aload_n rfl rfl ?_
    refine q_iload_n rfl rfl ?_
    refine v_pi (z := 0) rfl rfl rfl (by decide) rfl rfl rfl (by decide) ?_
    refine q_aload_n rfl rfl ?_
    refine v_gr (t := 42) rfl rfl rfl (by decide) rfl ?_
    refine q_iload_n rfl rfl ?_
    refine q_dup2 rfl ⟨rfl, rfl⟩ ?_
    have h_94 := ir_42 hI 1
    refine v_ia (v := c 42 1) rfl rfl (by decide) (by decide) (by decide) ((up_c (by decide)).trans (up_c (by decide))) ?_
    refine q_iconst rfl ?_
    refine v_iadd (v := c 42 1 + 1) rfl (by omega) ?_
    refine v_nrm (fun y_95 hy_95 => ?_)
    refine v_is rfl rfl (by decide) (by decide) (by decide) ?_
    refine q_aload_n rfl rfl ?_
    refine v_gi (z := 0) (v := 1) rfl rfl rfl (by decide) rfl rfl ((up_c (by decide)).trans (up_e rfl)) ?_
    refine v_if_ne_t (t := 37) rfl (by decide) (by decide) ?_
    refine q_iconst rfl ?_
    refine v_zret rfl rfl (by omega) ?_
    refine bk_inl ?_
    refine v_zret rfl rfl (by omega) ?_
    refine bk_inl ?_
    refine v_if_ne_f (t := 15) rfl (by decide) (by decide) ?_
    refine q_iconst rfl ?_
    refine q_iret rfl rfl ?_
    have hI_96 := iw_41_0 (v := 0) hI ⟨by decide, by decide⟩
    have hI_97 := iw_41_0 (v := 1) hI_96 ⟨by decide, by decide⟩
    have hI_98 := iw_42 (j := 1) (v := y_95) hI_97 ⟨by omega, by omega⟩
    exact K (up (up (up c 41 0 0) 41 0 1) 42 1 y_95) 0 hI_98 (fun a j hm => (up_b (by omega)).trans ((up_b (by omega)).trans (up_b (by omega)))) ⟨by decide, by decide⟩
  · refine v_if_lt_f (t := 23) rfl (by decide) (by omega) ?_
    refine q_iload_n rfl rfl ?_
    refine q_aload_n rfl rfl ?_
    have h_99 := ir_41_2 hI
    refine v_gi (z := 2) (v := c 41 2) rfl rfl rfl (by decide) rfl rfl (up_n (by decide)) ?_
    by_cases h_100 : a1 > c 41 2
    · refine v_ic_gt_t (t := 23) rfl (by decide) (by omega) ?_
      refine q_iconst rfl ?_
      refine q_iconst rfl ?_
      refine q_iconst rfl ?_
      refine v_cv rfl rfl rfl rfl (by decide) ⟨⟨rfl, rfl⟩, by decide, rfl⟩ (Nat.le_of_ble_eq_true rfl) (Nat.le_of_ble_eq_true rfl) ?_
      refine q_iload_n rfl rfl ?_
      refine v_if_ne_f (t := 26) rfl (by decide) (by decide) ?_
      refine q_aload_n rfl rfl ?_
      refine v_gi (z := 0) (v := 0) rfl rfl rfl (by decide) rfl rfl (up_e rfl) ?_
      refine v_if_ne_f (t := 26) rfl (by decide) (by decide) ?_
      refine q_aload_n rfl rfl ?_
      refine q_iload_n rfl rfl ?_
      refine v_pi (z := 0) rfl rfl rfl (by decide) rfl rfl rfl (by decide) ?_
      refine q_aload_n rfl rfl ?_
      refine v_gr (t := 42) rfl rfl rfl (by decide) rfl ?_
      refine q_iload_n rfl rfl ?_
      refine q_dup2 rfl ⟨rfl, rfl⟩ ?_
      have h_101 := ir_42 hI 1
      refine v_ia (v := c 42 1) rfl rfl (by decide) (by decide) (by decide) ((up_c (by decide)).trans (up_c (by decide))) ?_
      refine q_iconst rfl ?_
      refine v_iadd (v := c 42 1 + 1) rfl (by omega) ?_
      refine v_nrm (fun y_102 hy_102 => ?_)
      refine v_is rfl rfl (by decide) (by decide) (by decide) ?_
      refine q_aload_n rfl rfl ?_
      refine v_gi (z := 0) (v := 1) rfl rfl rfl (by decide) rfl rfl ((up_c (by decide)).trans (up_e rfl)) ?_
      refine v_if_ne_t (t := 37) rfl (by decide) (by decide) ?_
      refine q_iconst rfl ?_
      refine v_zret rfl rfl (by omega) ?_
      refine bk_inl ?_
      refine v_zret rfl rfl (by omega) ?_
      refine bk_inl ?_
      refine v_if_ne_f (t := 15) rfl (by decide) (by decide) ?_
      refine q_iconst rfl ?_
      refine q_iret rfl rfl ?_
      have hI_103 := iw_41_0 (v := 0) hI ⟨by decide, by decide⟩
      have hI_104 := iw_41_0 (v := 1) hI_103 ⟨by decide, by decide⟩
      have hI_105 := iw_42 (j := 1) (v := y_102) hI_104 ⟨by omega, by omega⟩
      exact K (up (up (up c 41 0 0) 41 0 1) 42 1 y_102) 0 hI_105 (fun a j hm => (up_b (by omega)).trans ((up_b (by omega)).trans (up_b (by omega)))) ⟨by decide, by decide⟩
    · refine v_ic_gt_f (t := 23) rfl (by decide) (by omega) ?_
      refine q_iload_n rfl rfl ?_
      refine v_bip rfl (by decide) ?_
      by_cases h_106 : a1 > 60
      · refine v_ic_gt_t (t := 23) rfl (by decide) (by omega) ?_
        refine q_iconst rfl ?_
        refine q_iconst rfl ?_
        refine q_iconst rfl ?_
        refine v_cv rfl rfl rfl rfl (by decide) ⟨⟨rfl, rfl⟩, by decide, rfl⟩ (Nat.le_of_ble_eq_true rfl) (Nat.le_of_ble_eq_true rfl) ?_
        refine q_iload_n rfl rfl ?_
        refine v_if_ne_f (t := 26) rfl (by decide) (by decide) ?_
        refine q_aload_n rfl rfl ?_
        refine v_gi (z := 0) (v := 0) rfl rfl rfl (by decide) rfl rfl (up_e rfl) ?_
        refine v_if_ne_f (t := 26) rfl (by decide) (by decide) ?_
        refine q_aload_n rfl rfl ?_
        refine q_iload_n rfl rfl ?_
        refine v_pi (z := 0) rfl rfl rfl (by decide) rfl rfl rfl (by decide) ?_
        refine q_aload_n rfl rfl ?_
        refine v_gr (t := 42) rfl rfl rfl (by decide) rfl ?_
        refine q_iload_n rfl rfl ?_
        refine q_dup2 rfl ⟨rfl, rfl⟩ ?_
        have h_107 := ir_42 hI 1
        refine v_ia (v := c 42 1) rfl rfl (by decide) (by decide) (by decide) ((up_c (by decide)).trans (up_c (by decide))) ?_
        refine q_iconst rfl ?_
        refine v_iadd (v := c 42 1 + 1) rfl (by omega) ?_
        refine v_nrm (fun y_108 hy_108 => ?_)
        refine v_is rfl rfl (by decide) (by decide) (by decide) ?_
        refine q_aload_n rfl rfl ?_
        refine v_gi (z := 0) (v := 1) rfl rfl rfl (by decide) rfl rfl ((up_c (by decide)).trans (up_e rfl)) ?_
        refine v_if_ne_t (t := 37) rfl (by decide) (by decide) ?_
        refine q_iconst rfl ?_
        refine v_zret rfl rfl (by omega) ?_
        refine bk_inl ?_
        refine v_zret rfl rfl (by omega) ?_
        refine bk_inl ?_
        refine v_if_ne_f (t := 15) rfl (by decide) (by decide) ?_
        refine q_iconst rfl ?_
        refine q_iret rfl rfl ?_
        have hI_109 := iw_41_0 (v := 0) hI ⟨by decide, by decide⟩
        have hI_110 := iw_41_0 (v := 1) hI_109 ⟨by decide, by decide⟩
        have hI_111 := iw_42 (j := 1) (v := y_108) hI_110 ⟨by omega, by omega⟩
        exact K (up (up (up c 41 0 0) 41 0 1) 42 1 y_108) 0 hI_111 (fun a j hm => (up_b (by omega)).trans ((up_b (by omega)).trans (up_b (by omega)))) ⟨by decide, by decide⟩
      · refine v_ic_gt_f (t := 23) rfl (by decide) (by omega) ?_
        refine q_iconst rfl ?_
        refine q_goto (t := 24) rfl (by decide) ?_
        refine q_iconst rfl ?_
        refine q_iconst rfl ?_
        refine v_cv rfl rfl rfl rfl (by decide) ⟨⟨rfl, rfl⟩, by decide, rfl⟩ (Nat.le_of_ble_eq_true rfl) (Nat.le_of_ble_eq_true rfl) ?_
        refine q_iload_n rfl rfl ?_
        refine v_if_ne_t (t := 26) rfl (by decide) (by decide) ?_
        refine q_aload_n rfl rfl ?_
        refine v_gi (z := 0) (v := 0) rfl rfl rfl (by decide) rfl rfl (up_e rfl) ?_
        refine v_if_ne_f (t := 37) rfl (by decide) (by decide) ?_
        refine q_iconst rfl ?_
        refine q_goto (t := 38) rfl (by decide) ?_
        refine v_zret rfl rfl (by omega) ?_
        refine bk_inl ?_
        refine v_zret rfl rfl (by omega) ?_
        refine bk_inl ?_
        refine v_if_ne_t (t := 15) rfl (by decide) (by decide) ?_
        refine q_aload_n rfl rfl ?_
        refine q_iload_n rfl rfl ?_
        have hI_112 := iw_41_0 (v := 0) hI ⟨by decide, by decide⟩
        refine v_cv rfl rfl rfl rfl (by decide) ⟨⟨rfl, rfl⟩, by decide, rfl⟩ (Nat.le_of_ble_eq_true rfl) (Nat.le_of_ble_eq_true rfl) (s_163 (a1 := a1) hI_112 (show 0 ≤ a1 ∧ a1 ≤ 600 from by omega) (fun c_113 hI_114 hF_115 h_116 => ?_))
        refine bk_inl ?_
        have h_117 := ir_41_2 hI_114
        have h_118 := ir_41_3 hI_114
        have h_119 := ir_41_4 hI_114
        have h_120 := ir_41_5 hI_114
        have h_121 := ir_41_7 hI_114
        refine q_iconst rfl ?_
        refine q_istore_n rfl (by decide) ?_
        refine Wp_ls [(0, .ref 41), (1, vi a1), (2, vi 0)] (lsub_cons rfl (lsub_cons rfl (lsub_cons rfl lsub_nil))) ?_
        exact (s_206_l (sc := sc) (d := d) hI ha1 K 1214) c_113 0 hI_114 (fun a j hm => (hF_115 a j (by omega)).trans (up_b (by omega))) ⟨by decide, by decide⟩ (by omega) (by omega)

