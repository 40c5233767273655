/-! ===== contracts 9 ===== -/
set_option maxRecDepth 100000 in
set_option maxHeartbeats 4000000 in
theorem s_163 {sc : List Int32} {e : Int} {d u P Q : Nat} {c : ME} {a1 : Int} {Z : AR → Prop} (hI : Iv u e P Q c) (ha1 : 0 ≤ a1 ∧ a1 ≤ 600) (K : ∀ (c2 : ME), Iv u e P Q c2 → (∀ (a : Nat) (j : Int), ¬ ((a = 41 ∧ j = 2) ∨ (a = 41 ∧ j = 3) ∨ (a = 41 ∧ j = 4) ∨ (a = 41 ∧ j = 5) ∨ (a = 41 ∧ j = 7) ∨ (a = 41 ∧ j = 8)) → c2 a j = c a j) → ((c2 41 3 = a1 ∧ c2 41 4 = 0 ∧ c2 41 5 = (-1) ∧ c2 41 7 = 0 ∧ c2 41 2 = 0)) → Z (.inl (none), Wd P Q P P c2, 0, 0)) : Wp sc (d + 7) 163 0 [(0, .ref 41), (1, vi a1)] [] (Wd P Q P P c) 0 0 Z := by
  have hP := iv_P hI
  have hQ := iv_Q hI
  refine q_aload_n rfl rfl ?_
  refine q_iconst rfl ?_
  refine v_pi (z := 2) rfl rfl rfl (by decide) rfl rfl rfl (by decide) ?_
  refine q_aload_n rfl rfl ?_
  refine q_iconst rfl ?_
  refine v_pi (z := 8) rfl rfl rfl (by decide) rfl rfl rfl (by decide) ?_
  refine q_aload_n rfl rfl ?_
  refine q_iload_n rfl rfl ?_
  refine v_pi (z := 3) rfl rfl rfl (by decide) rfl rfl rfl (by decide) ?_
  refine q_aload_n rfl rfl ?_
  refine q_iconst rfl ?_
  refine v_pi (z := 4) rfl rfl rfl (by decide) rfl rfl rfl (by decide) ?_
  refine q_aload_n rfl rfl ?_
  refine q_iconst rfl ?_
  refine v_pi (z := 5) rfl rfl rfl (by decide) rfl rfl rfl (by decide) ?_
  refine q_aload_n rfl rfl ?_
  refine q_iconst rfl ?_
  refine v_pi (z := 7) rfl rfl rfl (by decide) rfl rfl rfl (by decide) ?_
  refine q_vret rfl rfl ?_
  have hI_1 := iw_41_2 (v := 0) hI ⟨by decide, by decide⟩
  have hI_2 := iw_41_8 (v := (-1)) hI_1 ⟨by decide, by decide⟩
  have hI_3 := iw_41_3 (v := a1) hI_2 ⟨by omega, by omega⟩
  have hI_4 := iw_41_4 (v := 0) hI_3 ⟨by decide, by decide⟩
  have hI_5 := iw_41_5 (v := (-1)) hI_4 ⟨by decide, by decide⟩
  have hI_6 := iw_41_7 (v := 0) hI_5 ⟨by decide, by decide⟩
  have h_7 : (up (up (up (up (up (up c 41 2 0) 41 8 (-1)) 41 3 a1) 41 4 0) 41 5 (-1)) 41 7 0) 41 2 = 0 := ((up_n (by decide)).trans ((up_n (by decide)).trans ((up_n (by decide)).trans ((up_n (by decide)).trans ((up_n (by decide)).trans (up_e rfl))))))
  have h_8 : (up (up (up (up (up (up c 41 2 0) 41 8 (-1)) 41 3 a1) 41 4 0) 41 5 (-1)) 41 7 0) 41 3 = a1 := ((up_n (by decide)).trans ((up_n (by decide)).trans ((up_n (by decide)).trans (up_e rfl))))
  have h_9 : (up (up (up (up (up (up c 41 2 0) 41 8 (-1)) 41 3 a1) 41 4 0) 41 5 (-1)) 41 7 0) 41 4 = 0 := ((up_n (by decide)).trans ((up_n (by decide)).trans (up_e rfl)))
  have h_10 : (up (up (up (up (up (up c 41 2 0) 41 8 (-1)) 41 3 a1) 41 4 0) 41 5 (-1)) 41 7 0) 41 5 = (-1) := ((up_n (by decide)).trans (up_e rfl))
  have h_11 : (up (up (up (up (up (up c 41 2 0) 41 8 (-1)) 41 3 a1) 41 4 0) 41 5 (-1)) 41 7 0) 41 7 = 0 := (up_e rfl)
  exact K (up (up (up (up (up (up c 41 2 0) 41 8 (-1)) 41 3 a1) 41 4 0) 41 5 (-1)) 41 7 0) hI_6 (fun a j hm => (up_b (by omega)).trans ((up_b (by omega)).trans ((up_b (by omega)).trans ((up_b (by omega)).trans ((up_b (by omega)).trans (up_b (by omega))))))) (by omega)

set_option maxRecDepth 100000 in
set_option maxHeartbeats 4000000 in
theorem s_164 {sc : List Int32} {e : Int} {d u P Q : Nat} {c : ME} {a1 : Int} {Z : AR → Prop} (hI : Iv u e P Q c) (ha1 : (-2147483648) ≤ a1 ∧ a1 ≤ 2147483647) (K : ∀ (c2 : ME) (y : Int), Iv u e P Q c2 → (∀ (a : Nat) (j : Int), ¬ ((a = 41 ∧ j = 8)) → c2 a j = c a j) → (-2147483648) ≤ y ∧ y ≤ 2147483647 → Z (.inl (some (vi y)), Wd P Q P P c2, 0, 0)) : Wp sc (d + 8) 164 0 [(0, .ref 41), (1, vi a1)] [] (Wd P Q P P c) 0 0 Z := by
  have hP := iv_P hI
  have hQ := iv_Q hI
  refine q_aload_n rfl rfl ?_
  refine q_aload_n rfl rfl ?_
  have h_1 := ir_41_5 hI
  refine v_gi (z := 5) (v := c 41 5) rfl rfl rfl (by decide) rfl rfl rfl ?_
  refine v_pi (z := 8) rfl rfl rfl (by decide) rfl rfl rfl (by decide) ?_
  refine q_aload_n rfl rfl ?_
  refine v_cv rfl rfl rfl rfl (by decide) ⟨⟨rfl, rfl⟩, by decide, rfl⟩ (Nat.le_of_ble_eq_true rfl) (Nat.le_of_ble_eq_true rfl) ?_
  refine q_aload_n rfl rfl ?_
  refine v_gi (z := 5) (v := c 41 5) rfl rfl rfl (by decide) rfl rfl (up_n (by decide)) ?_
  refine q_iconst rfl ?_
  by_cases h_2 : c 41 5 ≠ (-1)
  · refine v_ic_ne_t (t := 12) rfl (by decide) (by omega) ?_
    refine q_iconst rfl ?_
    refine v_zret rfl rfl (by omega) ?_
    refine bk_inl ?_
    refine v_if_eq_t (t := 19) rfl (by decide) (by decide) ?_
    refine q_aload_n rfl rfl ?_
    have h_3 := ir_41_6 hI
    refine v_gi (z := 6) (v := c 41 6) rfl rfl rfl (by decide) rfl rfl (up_n (by decide)) ?_
    refine v_bip rfl (by decide) ?_
    refine v_isub (v := c 41 6 - 10) rfl (by omega) ?_
    refine q_iret rfl rfl ?_
    have hI_4 := iw_41_8 (v := c 41 5) hI ⟨by omega, by omega⟩
    exact K (up c 41 8 (c 41 5)) (c 41 6 - 10) hI_4 (fun a j hm => up_b (by omega)) ⟨by omega, by omega⟩
  · refine v_ic_ne_f (t := 12) rfl (by decide) (by omega) ?_
    refine q_iconst rfl ?_
    refine q_goto (t := 13) rfl (by decide) ?_
    refine v_zret rfl rfl (by omega) ?_
    refine bk_inl ?_
    refine v_if_eq_f (t := 19) rfl (by decide) (by decide) ?_
    refine q_iload_n rfl rfl ?_
    refine q_goto (t := 26) rfl (by decide) ?_
    refine q_iret rfl rfl ?_
    have hI_5 := iw_41_8 (v := c 41 5) hI ⟨by omega, by omega⟩
    exact K (up c 41 8 (c 41 5)) a1 hI_5 (fun a j hm => up_b (by omega)) ⟨by omega, by omega⟩

set_option maxRecDepth 100000 in
set_option maxHeartbeats 4000000 in
theorem s_165 {sc : List Int32} {e : Int} {d u P Q : Nat} {c : ME} {Z : AR → Prop} (hI : Iv u e P Q c)  (K : ∀ (c2 : ME) (y : Int), Iv u e P Q c2 → (∀ (a : Nat) (j : Int), ¬ ((a = 41 ∧ j = 0)) → c2 a j = c a j) → (-1) ≤ y ∧ y ≤ 605 → Z (.inl (some (vi y)), Wd P Q P P c2, 0, 0)) : Wp sc (d + 7) 165 0 [(0, .ref 41)] [] (Wd P Q P P c) 0 0 Z := by
  have hP := iv_P hI
  have hQ := iv_Q hI
  refine q_aload_n rfl rfl ?_
  refine q_iconst rfl ?_
  refine v_pi (z := 0) rfl rfl rfl (by decide) rfl rfl rfl (by decide) ?_
  refine q_aload_n rfl rfl ?_
  have h_1 := ir_41_8 hI
  refine v_gi (z := 8) (v := c 41 8) rfl rfl rfl (by decide) rfl rfl (up_n (by decide)) ?_
  refine q_iret rfl rfl ?_
  have hI_2 := iw_41_0 (v := 0) hI ⟨by decide, by decide⟩
  exact K (up c 41 0 0) (c 41 8) hI_2 (fun a j hm => up_b (by omega)) ⟨by omega, by omega⟩

set_option maxRecDepth 100000 in
set_option maxHeartbeats 4000000 in
theorem s_166 {sc : List Int32} {e : Int} {d u P Q : Nat} {c : ME} {a0 : Int} {Z : AR → Prop} (hI : Iv u e P Q c) (ha0 : (-2147483648) ≤ a0 ∧ a0 ≤ 2147483647) (K : ∀ (y : Int), 0 ≤ y ∧ y ≤ 1 → ((y = 0) ∨ (a0 > 0)) → Z (.inl (some (vi y)), Wd P Q P P c, 0, 0)) : Wp sc (d + 8) 166 0 [(0, vi a0)] [] (Wd P Q P P c) 0 0 Z := by
  have hP := iv_P hI
  have hQ := iv_Q hI
  refine q_iload_n rfl rfl ?_
  refine q_ldc_s rfl rfl rfl (by decide) ?_
  refine q_call rfl rfl rfl rfl (s_158_16 ?_)
  refine bk_inl ?_
  by_cases h_1 : a0 = 10290
  · refine v_ic_eq_t (t := 36) rfl (by decide) (by omega) ?_
    refine q_iconst rfl ?_
    refine q_goto (t := 41) rfl (by decide) ?_
    refine v_zret rfl rfl (by omega) ?_
    exact K 1 ⟨by decide, by decide⟩ (by omega)
  · refine v_ic_eq_f (t := 36) rfl (by decide) (by omega) ?_
    refine q_iload_n rfl rfl ?_
    refine q_ldc_s rfl rfl rfl (by decide) ?_
    refine q_call rfl rfl rfl rfl (s_158_17 ?_)
    refine bk_inl ?_
    by_cases h_2 : a0 = 20594117
    · refine v_ic_eq_t (t := 36) rfl (by decide) (by omega) ?_
      refine q_iconst rfl ?_
      refine q_goto (t := 41) rfl (by decide) ?_
      refine v_zret rfl rfl (by omega) ?_
      exact K 1 ⟨by decide, by decide⟩ (by omega)
    · refine v_ic_eq_f (t := 36) rfl (by decide) (by omega) ?_
      refine q_iload_n rfl rfl ?_
      refine q_ldc_s rfl rfl rfl (by decide) ?_
      refine q_call rfl rfl rfl rfl (s_158_18 ?_)
      refine bk_inl ?_
      by_cases h_3 : a0 = 20223685
      · refine v_ic_eq_t (t := 36) rfl (by decide) (by omega) ?_
        refine q_iconst rfl ?_
        refine q_goto (t := 41) rfl (by decide) ?_
        refine v_zret rfl rfl (by omega) ?_
        exact K 1 ⟨by decide, by decide⟩ (by omega)
      · refine v_ic_eq_f (t := 36) rfl (by decide) (by omega) ?_
        refine q_iload_n rfl rfl ?_
        refine q_ldc_s rfl rfl rfl (by decide) ?_
        refine q_call rfl rfl rfl rfl (s_158_19 ?_)
        refine bk_inl ?_
        by_cases h_4 : a0 ≠ 153204
        · refine v_ic_ne_t (t := 40) rfl (by decide) (by omega) ?_
          refine q_iconst rfl ?_
          refine v_zret rfl rfl (by omega) ?_
          exact K 0 ⟨by decide, by decide⟩ (by omega)
        · refine v_ic_ne_f (t := 40) rfl (by decide) (by omega) ?_
          refine q_iconst rfl ?_
          refine q_goto (t := 41) rfl (by decide) ?_
          refine v_zret rfl rfl (by omega) ?_
          exact K 1 ⟨by decide, by decide⟩ (by omega)

set_option maxRecDepth 100000 in
set_option maxHeartbeats 4000000 in
theorem s_168_l {sc : List Int32} {e : Int} {d u P Q : Nat} {c : ME} {a1 : Int} {Z : AR → Prop} (hI : Iv u e P Q c) (ha1 : (-2147483648) ≤ a1 ∧ a1 ≤ 2147483647) (hq0 : (a1 ≠ 10290) ∨ (c 41 16 ≤ 5)) (hq1 : (a1 ≠ 20594117) ∨ (c 41 17 ≤ 3)) (hq2 : (a1 ≠ 20223685) ∨ (c 41 18 ≤ 3)) (K : ∀ (c2 : ME), Iv u e P Q c2 → (∀ (a : Nat) (j : Int), ¬ ((a = 41 ∧ j = 4) ∨ (a = 41 ∧ j = 5) ∨ (a = 41 ∧ j = 6) ∨ (a = 41 ∧ j = 16) ∨ (a = 41 ∧ j = 17) ∨ (a = 41 ∧ j = 18) ∨ (a = 41 ∧ j = 19) ∨ a = 44 ∨ a = 45 ∨ a = 46) → c2 a j = c a j) → ((c2 41 4 ≥ c 41 4)) → Z (.inl (none), Wd P Q P P c2, 0, 0)) : ∀ n : Nat, (∀ (c2 : ME) (v2 : Int), Iv u e P Q c2 → (∀ (a : Nat) (j : Int), ¬ ((a = 41 ∧ j = 4) ∨ (a = 41 ∧ j = 5) ∨ (a = 41 ∧ j = 6) ∨ (a = 41 ∧ j = 16) ∨ (a = 41 ∧ j = 17) ∨ (a = 41 ∧ j = 18) ∨ (a = 41 ∧ j = 19) ∨ a = 44 ∨ a = 45 ∨ a = 46) → c2 a j = c a j) → 0 ≤ v2 ∧ v2 ≤ 4 → ((c2 41 16 ≤ 5)) → ((c2 41 4 ≥ c 41 4)) → 18 - 2 * v2 < (n : Int) → Wp sc (d + 9) 168 11 [(0, .ref 41), (1, vi a1), (2, vi v2)] [] (Wd P Q P P c2) 0 0 Z) ∧ (∀ (c2 : ME) (v2 : Int), Iv u e P Q c2 → (∀ (a : Nat) (j : Int), ¬ ((a = 41 ∧ j = 4) ∨ (a = 41 ∧ j = 5) ∨ (a = 41 ∧ j = 6) ∨ (a = 41 ∧ j = 16) ∨ (a = 41 ∧ j = 17) ∨ (a = 41 ∧ j = 18) ∨ (a = 41 ∧ j = 19) ∨ a = 44 ∨ a = 45 ∨ a = 46) → c2 a j = c a j) → 0 ≤ v2 ∧ v2 ≤ 3 → ((c2 41 17 ≤ 3)) → ((c2 41 4 ≥ c 41 4)) → 7 - 2 * v2 < (n : Int) → Wp sc (d + 9) 168 67 [(0, .ref 41), (1, vi a1), (2, vi v2)] [] (Wd P Q P P c2) 0 0 Z)
  | 0 => by exact ⟨by (intro c2 v2 hI2 hF hv2 hx0 hx1 hm9; have hP := iv_P hI; have hQ := iv_Q hI; exfalso; omega), by (intro c2 v2 hI2 hF hv2 hx0 hx1 hm9; have hP := iv_P hI; have hQ := iv_Q hI; exfalso; omega)⟩
  | n + 1 => by
    have hP := iv_P hI
    have hQ := iv_Q hI
    have ih := s_168_l (sc := sc) (d := d) hI ha1 hq0 hq1 hq2 K n
    refine ⟨?_, ?_⟩
    · skip
      intro c2 v2 hI2 hF hv2 hx0 hx1 hm9
      have h_1 := ir_41_16 hI2
      have h_2 := ir_41_4 hI
      have h_3 := ir_41_4 hI2
      refine q_iload_n rfl rfl ?_
      refine q_iconst rfl ?_
      by_cases h_4 : v2 ≥ 4
      · refine v_ic_ge_t (t := 43) rfl (by decide) (by omega) ?_
        refine q_aload_n rfl rfl ?_
        refine q_dup rfl rfl ?_
        refine v_gi (z := 16) (v := c2 41 16) rfl rfl rfl (by decide) rfl rfl rfl ?_
        refine q_iconst rfl ?_
        refine v_iadd (v := c2 41 16 + 1) rfl (by omega) ?_
        refine v_pi (z := 16) rfl rfl rfl (by decide) rfl rfl rfl (by decide) ?_
        refine q_goto (t := 159) rfl (by decide) ?_
        refine q_vret rfl rfl ?_
        have hI_5 := iw_41_16 (v := c2 41 16 + 1) hI2 ⟨by omega, by omega⟩
        have h_6 : (up c2 41 16 (c2 41 16 + 1)) 41 4 = c2 41 4 := (up_n (by decide))
        exact K (up c2 41 16 (c2 41 16 + 1)) hI_5 (fun a j hm => (up_b (by omega)).trans (hF a j (by omega))) (by omega)
      · refine v_ic_ge_f (t := 43) rfl (by decide) (by omega) ?_
        refine q_aload_n rfl rfl ?_
        refine v_gr (t := 44) rfl rfl rfl (by decide) rfl ?_
        refine q_iconst rfl ?_
        refine q_aload_n rfl rfl ?_
        refine v_gi (z := 16) (v := c2 41 16) rfl rfl rfl (by decide) rfl rfl rfl ?_
        refine v_imul (v := 4 * c2 41 16) rfl (by omega) ?_
        refine q_iload_n rfl rfl ?_
        refine v_iadd (v := 4 * c2 41 16 + v2) rfl (by omega) ?_
        refine q_aload_n rfl rfl ?_
        refine q_iconst rfl ?_
        refine v_sip rfl (by decide) ?_
        have h_7 := ir_41_3 hI
        have h_8 : c2 41 3 = c 41 3 := (hF 41 3 (by omega))
        have h_9 := ir_41_5 hI2
        refine v_cv rfl rfl rfl rfl (by decide) ⟨⟨rfl, rfl⟩, by decide, rfl⟩ (Nat.le_of_ble_eq_true rfl) (Nat.le_of_ble_eq_true rfl) (s_160 (a1 := 0) (a2 := 999) hI2 (show 0 ≤ 0 ∧ 0 ≤ 1 from by omega) (show (-1) ≤ 999 ∧ 999 ≤ 9999 from by omega) (fun c_10 y_13 hI_11 hF_12 hy_13 h_14 h_15 h_16 h_17 h_18 => ?_))
        refine bk_inl ?_
        have h_19 := ir_41_4 hI_11
        have h_20 := ir_41_5 hI_11
        refine v_is rfl rfl (by decide) (by decide) (by omega) ?_
        refine v_iinc (v := v2 + 1) rfl rfl (by decide) (by omega) ?_
        refine q_goto (t := 11) rfl (by decide) ?_
        have hI_21 := iw_44 (j := 4 * c2 41 16 + v2) (v := y_13) hI_11 ⟨by omega, by omega⟩
        refine Wp_ls [(0, .ref 41), (1, vi a1), (2, vi (v2 + 1))] (lsub_cons rfl (lsub_cons rfl (lsub_cons rfl lsub_nil))) ?_
        have h_22 : (up c_10 44 (4 * c2 41 16 + v2) y_13) 41 16 = c2 41 16 := ((up_c (by decide)).trans (hF_12 41 16 (by omega)))
        have h_23 : (up c_10 44 (4 * c2 41 16 + v2) y_13) 41 4 = c_10 41 4 := (up_c (by decide))
        exact ih.1 (up c_10 44 (4 * c2 41 16 + v2) y_13) (v2 + 1) hI_21 (fun a j hm => (up_b (by omega)).trans ((hF_12 a j (by omega)).trans (hF a j (by omega)))) ⟨by omega, by omega⟩ (by omega) (by omega) (by omega)
    · skip
      intro c2 v2 hI2 hF hv2 hx0 hx1 hm9
      have h_24 := ir_41_17 hI2
      have h_25 := ir_41_4 hI
      have h_26 := ir_41_4 hI2
      refine q_iload_n rfl rfl ?_
      refine q_iconst rfl ?_
      by_cases h_27 : v2 ≥ 3
      · refine v_ic_ge_t (t := 98) rfl (by decide) (by omega) ?_
        refine q_aload_n rfl rfl ?_
        refine q_dup rfl rfl ?_
        refine v_gi (z := 17) (v := c2 41 17) rfl rfl rfl (by decide) rfl rfl rfl ?_
        refine q_iconst rfl ?_
        refine v_iadd (v := c2 41 17 + 1) rfl (by omega) ?_
        refine v_pi (z := 17) rfl rfl rfl (by decide) rfl rfl rfl (by decide) ?_
        refine q_goto (t := 159) rfl (by decide) ?_
        refine q_vret rfl rfl ?_
        have hI_28 := iw_41_17 (v := c2 41 17 + 1) hI2 ⟨by omega, by omega⟩
        have h_29 : (up c2 41 17 (c2 41 17 + 1)) 41 4 = c2 41 4 := (up_n (by decide))
        exact K (up c2 41 17 (c2 41 17 + 1)) hI_28 (fun a j hm => (up_b (by omega)).trans (hF a j (by omega))) (by omega)
      · refine v_ic_ge_f (t := 98) rfl (by decide) (by omega) ?_
        refine q_aload_n rfl rfl ?_
        refine v_gr (t := 45) rfl rfl rfl (by decide) rfl ?_
        refine q_iconst rfl ?_
        refine q_aload_n rfl rfl ?_
        refine v_gi (z := 17) (v := c2 41 17) rfl rfl rfl (by decide) rfl rfl rfl ?_
        refine v_imul (v := 3 * c2 41 17) rfl (by omega) ?_
        refine q_iload_n rfl rfl ?_
        refine v_iadd (v := 3 * c2 41 17 + v2) rfl (by omega) ?_
        refine q_aload_n rfl rfl ?_
        refine q_iconst rfl ?_
        refine v_bip rfl (by decide) ?_
        have h_30 := ir_41_3 hI
        have h_31 : c2 41 3 = c 41 3 := (hF 41 3 (by omega))
        have h_32 := ir_41_5 hI2
        refine v_cv rfl rfl rfl rfl (by decide) ⟨⟨rfl, rfl⟩, by decide, rfl⟩ (Nat.le_of_ble_eq_true rfl) (Nat.le_of_ble_eq_true rfl) (s_160 (a1 := 0) (a2 := 10) hI2 (show 0 ≤ 0 ∧ 0 ≤ 1 from by omega) (show (-1) ≤ 10 ∧ 10 ≤ 9999 from by omega) (fun c_33 y_36 hI_34 hF_35 hy_36 h_37 h_38 h_39 h_40 h_41 => ?_))
        refine bk_inl ?_
        have h_42 := ir_41_4 hI_34
        have h_43 := ir_41_5 hI_34
        refine v_is rfl rfl (by decide) (by decide) (by omega) ?_
        refine v_iinc (v := v2 + 1) rfl rfl (by decide) (by omega) ?_
        refine q_goto (t := 67) rfl (by decide) ?_
        have hI_44 := iw_45 (j := 3 * c2 41 17 + v2) (v := y_36) hI_34 ⟨by omega, by omega⟩
        refine Wp_ls [(0, .ref 41), (1, vi a1), (2, vi (v2 + 1))] (lsub_cons rfl (lsub_cons rfl (lsub_cons rfl lsub_nil))) ?_
        have h_45 : (up c_33 45 (3 * c2 41 17 + v2) y_36) 41 17 = c2 41 17 := ((up_c (by decide)).trans (hF_35 41 17 (by omega)))
        have h_46 : (up c_33 45 (3 * c2 41 17 + v2) y_36) 41 4 = c_33 41 4 := (up_c (by decide))
        exact ih.2 (up c_33 45 (3 * c2 41 17 + v2) y_36) (v2 + 1) hI_44 (fun a j hm => (up_b (by omega)).trans ((hF_35 a j (by omega)).trans (hF a j (by omega)))) ⟨by omega, by omega⟩ (by omega) (by omega) (by omega)
set_option maxRecDepth 100000 in
set_option maxHeartbeats 4000000 in
theorem s_168 {sc : List Int32} {e : Int} {d u P Q : Nat} {c : ME} {a1 : Int} {Z : AR → Prop} (hI : Iv u e P Q c) (ha1 : (-2147483648) ≤ a1 ∧ a1 ≤ 2147483647) (hq0 : (a1 ≠ 10290) ∨ (c 41 16 ≤ 5)) (hq1 : (a1 ≠ 20594117) ∨ (c 41 17 ≤ 3)) (hq2 : (a1 ≠ 20223685) ∨ (c 41 18 ≤ 3)) (K : ∀ (c2 : ME), Iv u e P Q c2 → (∀ (a : Nat) (j : Int), ¬ ((a = 41 ∧ j = 4) ∨ (a = 41 ∧ j = 5) ∨ (a = 41 ∧ j = 6) ∨ (a = 41 ∧ j = 16) ∨ (a = 41 ∧ j = 17) ∨ (a = 41 ∧ j = 18) ∨ (a = 41 ∧ j = 19) ∨ a = 44 ∨ a = 45 ∨ a = 46) → c2 a j = c a j) → ((c2 41 4 ≥ c 41 4)) → Z (.inl (none), Wd P Q P P c2, 0, 0)) : Wp sc (d + 9) 168 0 [(0, .ref 41), (1, vi a1)] [] (Wd P Q P P c) 0 0 Z := by
  have hP := iv_P hI
  have hQ := iv_Q hI
  have h_47 := ir_41_16 hI
  have h_48 := ir_41_17 hI
  have h_49 := ir_41_18 hI
  refine q_iload_n rfl rfl ?_
  refine q_ldc_s rfl rfl rfl (by decide) ?_
  refine q_call rfl rfl rfl rfl (s_158_16 ?_)
  refine bk_inl ?_
  by_cases h_50 : a1 ≠ 10290
  · refine v_ic_ne_t (t := 56) rfl (by decide) (by omega) ?_
    refine q_iload_n rfl rfl ?_
    refine q_ldc_s rfl rfl rfl (by decide) ?_
    refine q_call rfl rfl rfl rfl (s_158_17 ?_)
    refine bk_inl ?_
    by_cases h_51 : a1 ≠ 20594117
    · refine v_ic_ne_t (t := 111) rfl (by decide) (by omega) ?_
      refine q_iload_n rfl rfl ?_
      refine q_ldc_s rfl rfl rfl (by decide) ?_
      refine q_call rfl rfl rfl rfl (s_158_18 ?_)
      refine bk_inl ?_
      by_cases h_52 : a1 ≠ 20223685
      · refine v_ic_ne_t (t := 148) rfl (by decide) (by omega) ?_
        refine q_aload_n rfl rfl ?_
        refine q_aload_n rfl rfl ?_
        refine q_iconst rfl ?_
        refine v_bip rfl (by decide) ?_
        have h_53 := ir_41_4 hI
        have h_54 := ir_41_3 hI
        have h_55 := ir_41_5 hI
        refine v_cv rfl rfl rfl rfl (by decide) ⟨⟨rfl, rfl⟩, by decide, rfl⟩ (Nat.le_of_ble_eq_true rfl) (Nat.le_of_ble_eq_true rfl) (s_160 (a1 := 0) (a2 := 50) hI (show 0 ≤ 0 ∧ 0 ≤ 1 from by omega) (show (-1) ≤ 50 ∧ 50 ≤ 9999 from by omega) (fun c_56 y_59 hI_57 hF_58 hy_59 h_60 h_61 h_62 h_63 h_64 => ?_))
        refine bk_inl ?_
        have h_65 := ir_41_4 hI_57
        have h_66 := ir_41_5 hI_57
        refine v_pi (z := 19) rfl rfl rfl (by decide) rfl rfl rfl (by decide) ?_
        refine q_vret rfl rfl ?_
        have hI_67 := iw_41_19 (v := y_59) hI_57 ⟨by omega, by omega⟩
        have h_68 : (up c_56 41 19 y_59) 41 4 = c_56 41 4 := (up_n (by decide))
        exact K (up c_56 41 19 y_59) hI_67 (fun a j hm => (up_b (by omega)).trans (hF_58 a j (by omega))) (by omega)
      · refine v_ic_ne_f (t := 148) rfl (by decide) (by omega) ?_
        refine q_aload_n rfl rfl ?_
        refine v_gr (t := 46) rfl rfl rfl (by decide) rfl ?_
        refine q_aload_n rfl rfl ?_
        refine v_gi (z := 18) (v := c 41 18) rfl rfl rfl (by decide) rfl rfl rfl ?_
        refine q_aload_n rfl rfl ?_
        refine q_iconst rfl ?_
        refine q_iconst rfl ?_
        have h_69 := ir_41_4 hI
        have h_70 := ir_41_3 hI
        have h_71 := ir_41_5 hI
        refine v_cv rfl rfl rfl rfl (by decide) ⟨⟨rfl, rfl⟩, by decide, rfl⟩ (Nat.le_of_ble_eq_true rfl) (Nat.le_of_ble_eq_true rfl) (s_160 (a1 := 0) (a2 := 2) hI (show 0 ≤ 0 ∧ 0 ≤ 1 from by omega) (show (-1) ≤ 2 ∧ 2 ≤ 9999 from by omega) (fun c_72 y_75 hI_73 hF_74 hy_75 h_76 h_77 h_78 h_79 h_80 => ?_))
        refine bk_inl ?_
        have h_81 := ir_41_4 hI_73
        have h_82 := ir_41_5 hI_73
        refine v_is rfl rfl (by decide) (by decide) (by omega) ?_
        refine q_aload_n rfl rfl ?_
        refine q_dup rfl rfl ?_
        refine v_gi (z := 18) (v := c 41 18) rfl rfl rfl (by decide) rfl rfl ((up_c (by decide)).trans (hF_74 41 18 (by omega))) ?_
        refine q_iconst rfl ?_
        refine v_iadd (v := c 41 18 + 1) rfl (by omega) ?_
        refine v_pi (z := 18) rfl rfl rfl (by decide) rfl rfl rfl (by decide) ?_
        refine q_goto (t := 159) rfl (by decide) ?_
        refine q_vret rfl rfl ?_
        have hI_83 := iw_46 (j := c 41 18) (v := y_75) hI_73 ⟨by omega, by omega⟩
        have hI_84 := iw_41_18 (v := c 41 18 + 1) hI_83 ⟨by omega, by omega⟩
        have h_85 : (up (up c_72 46 (c 41 18) y_75) 41 18 (c 41 18 + 1)) 41 4 = c_72 41 4 := ((up_n (by decide)).trans (up_c (by decide)))
        exact K (up (up c_72 46 (c 41 18) y_75) 41 18 (c 41 18 + 1)) hI_84 (fun a j hm => (up_b (by omega)).trans ((up_b (by omega)).trans (hF_74 a j (by omega)))) (by omega)
    · refine v_ic_ne_f (t := 111) rfl (by decide) (by omega) ?_
      refine q_iconst rfl ?_
      refine q_istore_n rfl (by decide) ?_
      refine Wp_ls [(0, .ref 41), (1, vi a1), (2, vi 0)] (lsub_cons rfl (lsub_cons rfl (lsub_cons rfl lsub_nil))) ?_
      have h_86 := ir_41_4 hI
      exact (s_168_l (sc := sc) (d := d) hI ha1 hq0 hq1 hq2 K 21).2 c 0 hI (fun a j hm => rfl) ⟨by decide, by decide⟩ (by omega) (by omega) (by omega)
  · refine v_ic_ne_f (t := 56) rfl (by decide) (by omega) ?_
    refine q_iconst rfl ?_
    refine q_istore_n rfl (by decide) ?_
    refine Wp_ls [(0, .ref 41), (1, vi a1), (2, vi 0)] (lsub_cons rfl (lsub_cons rfl (lsub_cons rfl lsub_nil))) ?_
    have h_87 := ir_41_4 hI
    exact (s_168_l (sc := sc) (d := d) hI ha1 hq0 hq1 hq2 K 21).1 c 0 hI (fun a j hm => rfl) ⟨by decide, by decide⟩ (by omega) (by omega) (by omega)

set_option maxRecDepth 100000 in
set_option maxHeartbeats 4000000 in
theorem s_171 {sc : List Int32} {e : Int} {d u P Q : Nat} {c : ME} {a1 : Int} {Z : AR → Prop} (hI : Iv u e P Q c) (ha1 : 1 ≤ a1 ∧ a1 ≤ 5) (hq0 : (c 41 7 ≤ 6)) (hq1 : (c 41 4 ≤ 600)) (K : ∀ (c2 : ME), Iv u e P Q c2 → (∀ (a : Nat) (j : Int), ¬ ((a = 41 ∧ j = 4) ∨ (a = 41 ∧ j = 5) ∨ (a = 41 ∧ j = 6) ∨ (a = 41 ∧ j = 7)) → c2 a j = c a j) → ((c2 41 4 ≥ c 41 4)) → ((c2 41 7 = c 41 7 + 1)) → ((c 41 5 = (-1)) ∨ (c2 41 5 = c 41 5)) → ((c2 41 5 < (-1)) ∨ (c2 41 5 > (-1)) ∨ (c2 41 4 = a1 + c 41 4 ∧ c 41 7 ≤ 5 ∧ c 41 5 = (-1))) → Z (.inl (none), Wd P Q P P c2, 0, 0)) : Wp sc (d + 8) 171 0 [(0, .ref 41), (1, vi a1)] [] (Wd P Q P P c) 0 0 Z := by
  have hP := iv_P hI
  have hQ := iv_Q hI
  have h_1 := ir_41_7 hI
  have h_2 := ir_41_4 hI
  refine q_aload_n rfl rfl ?_
  refine v_cv rfl rfl rfl rfl (by decide) ⟨⟨rfl, rfl⟩, by decide, rfl⟩ (Nat.le_of_ble_eq_true rfl) (Nat.le_of_ble_eq_true rfl) ?_
  refine q_aload_n rfl rfl ?_
  have h_3 := ir_41_5 hI
  refine v_gi (z := 5) (v := c 41 5) rfl rfl rfl (by decide) rfl rfl rfl ?_
  refine q_iconst rfl ?_
  by_cases h_4 : c 41 5 ≠ (-1)
  · refine v_ic_ne_t (t := 12) rfl (by decide) (by omega) ?_
    refine q_iconst rfl ?_
    refine v_zret rfl rfl (by omega) ?_
    refine bk_inl ?_
    refine v_if_eq_t (t := 25) rfl (by decide) (by decide) ?_
    refine q_aload_n rfl rfl ?_
    refine v_cv rfl rfl rfl rfl (by decide) ⟨⟨rfl, rfl⟩, by decide, rfl⟩ (Nat.le_of_ble_eq_true rfl) (Nat.le_of_ble_eq_true rfl) ?_
    refine q_aload_n rfl rfl ?_
    refine v_gi (z := 5) (v := c 41 5) rfl rfl rfl (by decide) rfl rfl rfl ?_
    refine q_iconst rfl ?_
    refine v_ic_ne_t (t := 12) rfl (by decide) (by omega) ?_
    refine q_iconst rfl ?_
    refine v_zret rfl rfl (by omega) ?_
    refine bk_inl ?_
    refine v_if_eq_t (t := 42) rfl (by decide) (by decide) ?_
    refine q_aload_n rfl rfl ?_
    refine q_dup rfl rfl ?_
    refine v_gi (z := 7) (v := c 41 7) rfl rfl rfl (by decide) rfl rfl rfl ?_
    refine q_iconst rfl ?_
    refine v_iadd (v := c 41 7 + 1) rfl (by omega) ?_
    refine v_pi (z := 7) rfl rfl rfl (by decide) rfl rfl rfl (by decide) ?_
    refine q_vret rfl rfl ?_
    have hI_5 := iw_41_7 (v := c 41 7 + 1) hI ⟨by omega, by omega⟩
    have h_6 : (up c 41 7 (c 41 7 + 1)) 41 4 = c 41 4 := (up_n (by decide))
    have h_7 : (up c 41 7 (c 41 7 + 1)) 41 5 = c 41 5 := (up_n (by decide))
    have h_8 : (up c 41 7 (c 41 7 + 1)) 41 7 = c 41 7 + 1 := (up_e rfl)
    exact K (up c 41 7 (c 41 7 + 1)) hI_5 (fun a j hm => up_b (by omega)) (by omega) (by omega) (by omega) (by omega)
  · refine v_ic_ne_f (t := 12) rfl (by decide) (by omega) ?_
    refine q_iconst rfl ?_
    refine q_goto (t := 13) rfl (by decide) ?_
    refine v_zret rfl rfl (by omega) ?_
    refine bk_inl ?_
    refine v_if_eq_f (t := 25) rfl (by decide) (by decide) ?_
    refine q_aload_n rfl rfl ?_
    refine v_gi (z := 7) (v := c 41 7) rfl rfl rfl (by decide) rfl rfl rfl ?_
    refine v_bip rfl (by decide) ?_
    by_cases h_9 : c 41 7 ≠ 6
    · refine v_ic_ne_t (t := 25) rfl (by decide) (by omega) ?_
      refine q_aload_n rfl rfl ?_
      refine v_cv rfl rfl rfl rfl (by decide) ⟨⟨rfl, rfl⟩, by decide, rfl⟩ (Nat.le_of_ble_eq_true rfl) (Nat.le_of_ble_eq_true rfl) ?_
      refine q_aload_n rfl rfl ?_
      refine v_gi (z := 5) (v := c 41 5) rfl rfl rfl (by decide) rfl rfl rfl ?_
      refine q_iconst rfl ?_
      refine v_ic_ne_f (t := 12) rfl (by decide) (by omega) ?_
      refine q_iconst rfl ?_
      refine q_goto (t := 13) rfl (by decide) ?_
      refine v_zret rfl rfl (by omega) ?_
      refine bk_inl ?_
      refine v_if_eq_f (t := 42) rfl (by decide) (by decide) ?_
      refine q_aload_n rfl rfl ?_
      refine q_dup rfl rfl ?_
      refine v_gi (z := 4) (v := c 41 4) rfl rfl rfl (by decide) rfl rfl rfl ?_
      refine q_iload_n rfl rfl ?_
      refine v_iadd (v := a1 + c 41 4) rfl (by omega) ?_
      refine v_pi (z := 4) rfl rfl rfl (by decide) rfl rfl rfl (by decide) ?_
      refine q_aload_n rfl rfl ?_
      refine q_dup rfl rfl ?_
      refine v_gi (z := 7) (v := c 41 7) rfl rfl rfl (by decide) rfl rfl (up_n (by decide)) ?_
      refine q_iconst rfl ?_
      refine v_iadd (v := c 41 7 + 1) rfl (by omega) ?_
      refine v_pi (z := 7) rfl rfl rfl (by decide) rfl rfl rfl (by decide) ?_
      refine q_vret rfl rfl ?_
      have hI_10 := iw_41_4 (v := a1 + c 41 4) hI ⟨by omega, by omega⟩
      have hI_11 := iw_41_7 (v := c 41 7 + 1) hI_10 ⟨by omega, by omega⟩
      have h_12 : (up (up c 41 4 (a1 + c 41 4)) 41 7 (c 41 7 + 1)) 41 4 = a1 + c 41 4 := ((up_n (by decide)).trans (up_e rfl))
      have h_13 : (up (up c 41 4 (a1 + c 41 4)) 41 7 (c 41 7 + 1)) 41 5 = c 41 5 := ((up_n (by decide)).trans (up_n (by decide)))
      have h_14 : (up (up c 41 4 (a1 + c 41 4)) 41 7 (c 41 7 + 1)) 41 7 = c 41 7 + 1 := (up_e rfl)
      exact K (up (up c 41 4 (a1 + c 41 4)) 41 7 (c 41 7 + 1)) hI_11 (fun a j hm => (up_b (by omega)).trans (up_b (by omega))) (by omega) (by omega) (by omega) (by omega)
    · refine v_ic_ne_f (t := 25) rfl (by decide) (by omega) ?_
      refine q_aload_n rfl rfl ?_
      refine q_iconst rfl ?_
      refine q_aload_n rfl rfl ?_
      refine v_gi (z := 4) (v := c 41 4) rfl rfl rfl (by decide) rfl rfl rfl ?_
      refine v_cv rfl rfl rfl rfl (by decide) ⟨⟨rfl, rfl⟩, by decide, rfl⟩ (Nat.le_of_ble_eq_true rfl) (Nat.le_of_ble_eq_true rfl) (s_153 (a1 := 3) (a2 := c 41 4) hI (show 1 ≤ 3 ∧ 3 ≤ 3 from by omega) (show 0 ≤ c 41 4 ∧ c 41 4 ≤ 605 from by omega) (fun c_15 hI_16 hF_17 h_18 => ?_))
      refine bk_inl ?_
      have h_19 := ir_41_5 hI_16
      refine q_aload_n rfl rfl ?_
      refine v_cv rfl rfl rfl rfl (by decide) ⟨⟨rfl, rfl⟩, by decide, rfl⟩ (Nat.le_of_ble_eq_true rfl) (Nat.le_of_ble_eq_true rfl) ?_
      refine q_aload_n rfl rfl ?_
      refine v_gi (z := 5) (v := c_15 41 5) rfl rfl rfl (by decide) rfl rfl rfl ?_
      refine q_iconst rfl ?_
      refine v_ic_ne_t (t := 12) rfl (by decide) (by omega) ?_
      refine q_iconst rfl ?_
      refine v_zret rfl rfl (by omega) ?_
      refine bk_inl ?_
      refine v_if_eq_t (t := 42) rfl (by decide) (by decide) ?_
      refine q_aload_n rfl rfl ?_
      refine q_dup rfl rfl ?_
      refine v_gi (z := 7) (v := c 41 7) rfl rfl rfl (by decide) rfl rfl (hF_17 41 7 (by omega)) ?_
      refine q_iconst rfl ?_
      refine v_iadd (v := c 41 7 + 1) rfl (by omega) ?_
      refine v_pi (z := 7) rfl rfl rfl (by decide) rfl rfl rfl (by decide) ?_
      refine q_vret rfl rfl ?_
      have hI_20 := iw_41_7 (v := c 41 7 + 1) hI_16 ⟨by omega, by omega⟩
      have h_21 : (up c_15 41 7 (c 41 7 + 1)) 41 4 = c 41 4 := ((up_n (by decide)).trans (hF_17 41 4 (by omega)))
      have h_22 : (up c_15 41 7 (c 41 7 + 1)) 41 5 = c_15 41 5 := (up_n (by decide))
      have h_23 : (up c_15 41 7 (c 41 7 + 1)) 41 7 = c 41 7 + 1 := (up_e rfl)
      exact K (up c_15 41 7 (c 41 7 + 1)) hI_20 (fun a j hm => (up_b (by omega)).trans (hF_17 a j (by omega))) (by omega) (by omega) (by omega) (by omega)

set_option maxRecDepth 100000 in
set_option maxHeartbeats 4000000 in
theorem s_178 {sc : List Int32} {e : Int} {d u P Q : Nat} {c : ME} {a0 : Int} {a1 : Int} {a2 : Int} {Z : AR → Prop} (hI : Iv u e P Q c) (ha0 : (-2147483648) ≤ a0 ∧ a0 ≤ 2147483647) (ha1 : (-2147483648) ≤ a1 ∧ a1 ≤ 2147483647) (ha2 : (-2147483648) ≤ a2 ∧ a2 ≤ 2147483647) (K : ∀ (y : Int), (-2147483648) ≤ y ∧ y ≤ 2147483647 → Z (.inl (some (vi y)), Wd P Q P P c, 0, 0)) : Wp sc (d + 7) 178 0 [(0, vi a0), (1, vi a1), (2, vi a2)] [] (Wd P Q P P c) 0 0 Z := by
  have hP := iv_P hI
  have hQ := iv_Q hI
  refine q_iload_n rfl rfl ?_
  refine q_iconst rfl ?_
  by_cases h_1 : a0 ≠ 2
  · refine v_ic_ne_t (t := 9) rfl (by decide) (by omega) ?_
    refine q_iload_n rfl rfl ?_
    refine q_iconst rfl ?_
    by_cases h_2 : a0 ≠ 3
    · refine v_ic_ne_t (t := 18) rfl (by decide) (by omega) ?_
      refine q_iload_n rfl rfl ?_
      refine q_iconst rfl ?_
      by_cases h_3 : a0 ≠ 4
      · refine v_ic_ne_t (t := 27) rfl (by decide) (by omega) ?_
        refine q_iload_n rfl rfl ?_
        refine q_iconst rfl ?_
        by_cases h_4 : a0 = 5
        · refine v_ic_eq_t (t := 38) rfl (by decide) (by omega) ?_
          refine q_iload_n rfl rfl ?_
          by_cases h_5 : a2 ≠ 0
          · refine v_if_ne_t (t := 46) rfl (by decide) (by omega) ?_
            refine q_iload_n rfl rfl ?_
            refine q_iconst rfl ?_
            refine v_ic_ne_f (t := 57) rfl (by decide) (by omega) ?_
            refine q_iload_n rfl rfl ?_
            refine q_iload_n rfl rfl ?_
            refine v_idivx rfl ⟨by omega, by omega, by omega⟩ (fun y_6 hy_6 => ?_)
            refine q_goto (t := 60) rfl (by decide) ?_
            refine q_iret rfl rfl ?_
            exact K y_6 ⟨by omega, by omega⟩
          · refine v_if_ne_f (t := 46) rfl (by decide) (by omega) ?_
            refine q_iconst rfl ?_
            refine q_goto (t := 60) rfl (by decide) ?_
            refine q_iret rfl rfl ?_
            exact K 0 ⟨by decide, by decide⟩
        · refine v_ic_eq_f (t := 38) rfl (by decide) (by omega) ?_
          refine q_iload_n rfl rfl ?_
          refine v_bip rfl (by decide) ?_
          by_cases h_7 : a0 ≠ 8
          · refine v_ic_ne_t (t := 61) rfl (by decide) (by omega) ?_
            refine q_iload_n rfl rfl ?_
            refine q_iload_n rfl rfl ?_
            by_cases h_8 : a1 ≥ a2
            · refine v_ic_ge_t (t := 70) rfl (by decide) (by omega) ?_
              refine q_iconst rfl ?_
              refine q_iload_n rfl rfl ?_
              refine v_bip rfl (by decide) ?_
              by_cases h_9 : a0 ≠ 6
              · refine v_ic_ne_t (t := 81) rfl (by decide) (by omega) ?_
                refine q_iconst rfl ?_
                refine v_ic_ne_f (t := 89) rfl (by decide) (by decide) ?_
                refine q_iload_n rfl rfl ?_
                refine q_goto (t := 90) rfl (by decide) ?_
                refine q_iret rfl rfl ?_
                exact K a1 ⟨by omega, by omega⟩
              · refine v_ic_ne_f (t := 81) rfl (by decide) (by omega) ?_
                refine q_iconst rfl ?_
                refine q_goto (t := 82) rfl (by decide) ?_
                refine v_ic_ne_t (t := 89) rfl (by decide) (by decide) ?_
                refine q_iload_n rfl rfl ?_
                refine q_iret rfl rfl ?_
                exact K a2 ⟨by omega, by omega⟩
            · refine v_ic_ge_f (t := 70) rfl (by decide) (by omega) ?_
              refine q_iconst rfl ?_
              refine q_goto (t := 71) rfl (by decide) ?_
              refine q_iload_n rfl rfl ?_
              refine v_bip rfl (by decide) ?_
              by_cases h_10 : a0 ≠ 6
              · refine v_ic_ne_t (t := 81) rfl (by decide) (by omega) ?_
                refine q_iconst rfl ?_
                refine v_ic_ne_t (t := 89) rfl (by decide) (by decide) ?_
                refine q_iload_n rfl rfl ?_
                refine q_iret rfl rfl ?_
                exact K a2 ⟨by omega, by omega⟩
              · refine v_ic_ne_f (t := 81) rfl (by decide) (by omega) ?_
                refine q_iconst rfl ?_
                refine q_goto (t := 82) rfl (by decide) ?_
                refine v_ic_ne_f (t := 89) rfl (by decide) (by decide) ?_
                refine q_iload_n rfl rfl ?_
                refine q_goto (t := 90) rfl (by decide) ?_
                refine q_iret rfl rfl ?_
                exact K a1 ⟨by omega, by omega⟩
          · refine v_ic_ne_f (t := 61) rfl (by decide) (by omega) ?_
            refine q_iload_n rfl rfl ?_
            by_cases h_11 : a2 ≠ 0
            · refine v_if_ne_t (t := 46) rfl (by decide) (by omega) ?_
              refine q_iload_n rfl rfl ?_
              refine q_iconst rfl ?_
              refine v_ic_ne_t (t := 57) rfl (by decide) (by omega) ?_
              refine q_iload_n rfl rfl ?_
              refine q_iload_n rfl rfl ?_
              refine v_iremx rfl ⟨by omega, by omega, by omega⟩ (fun y_12 hy_12 => ?_)
              refine q_iret rfl rfl ?_
              exact K y_12 ⟨by omega, by omega⟩
            · refine v_if_ne_f (t := 46) rfl (by decide) (by omega) ?_
              refine q_iconst rfl ?_
              refine q_goto (t := 60) rfl (by decide) ?_
              refine q_iret rfl rfl ?_
              exact K 0 ⟨by decide, by decide⟩
      · refine v_ic_ne_f (t := 27) rfl (by decide) (by omega) ?_
        refine q_iload_n rfl rfl ?_
        refine q_iload_n rfl rfl ?_
        refine v_imul (v := (a1 * a2)) rfl rfl ?_
        refine v_nrm (fun y_13 hy_13 => ?_)
        refine q_iret rfl rfl ?_
        exact K y_13 ⟨by omega, by omega⟩
    · refine v_ic_ne_f (t := 18) rfl (by decide) (by omega) ?_
      refine q_iload_n rfl rfl ?_
      refine q_iload_n rfl rfl ?_
      refine v_isub (v := a1 - a2) rfl (by omega) ?_
      refine v_nrm (fun y_14 hy_14 => ?_)
      refine q_iret rfl rfl ?_
      exact K y_14 ⟨by omega, by omega⟩
  · refine v_ic_ne_f (t := 9) rfl (by decide) (by omega) ?_
    refine q_iload_n rfl rfl ?_
    refine q_iload_n rfl rfl ?_
    refine v_iadd (v := a1 + a2) rfl (by omega) ?_
    refine v_nrm (fun y_15 hy_15 => ?_)
    refine q_iret rfl rfl ?_
    exact K y_15 ⟨by omega, by omega⟩

set_option maxRecDepth 100000 in
set_option maxHeartbeats 4000000 in
theorem s_179_l {sc : List Int32} {e : Int} {d u P Q : Nat} {c : ME} {Z : AR → Prop} (hI : Iv u e P Q c)  (K : ∀ (c2 : ME) (y : Int), Iv u e P Q c2 → (∀ (a : Nat) (j : Int), ¬ (a = 54) → c2 a j = c a j) → (-2147483648) ≤ y ∧ y ≤ 2147483647 → Z (.inl (some (vi y)), Wd P Q P P c2, 0, 0)) : ∀ n : Nat, (∀ (c2 : ME) (v1 : Int) (v2 : Int), Iv u e P Q c2 → (∀ (a : Nat) (j : Int), ¬ (a = 54) → c2 a j = c a j) → 0 ≤ v1 ∧ v1 ≤ 150 → 0 ≤ v2 ∧ v2 ≤ 150 → ((v1 ≤ v2)) → (v1 = hgt (c 52) v2.toNat) → 301 - 2 * v2 < (n : Int) → Wp sc (d + 8) 179 4 [(0, .ref 41), (1, vi v1), (2, vi v2)] [] (Wd P Q P P c2) 0 0 Z)
  | 0 => by intro c2 v1 v2 hI2 hF hv1 hv2 hx0 hx1 hm9; have hP := iv_P hI; have hQ := iv_Q hI; exfalso; omega
  | n + 1 => by
    have hP := iv_P hI
    have hQ := iv_Q hI
    have ih := s_179_l (sc := sc) (d := d) hI K n
    intro c2 v1 v2 hI2 hF hv1 hv2 hx0 hx1 hm9
    have h_1 := ir_52 hI v2
    have h_2 := ir_53 hI v2
    have h_3 := ir_41_30 hI
    have hh1 := ir_hc hI (k := v2) (by omega)
    have hh2 := hgt_s (f := c 52) (k := v2) (by omega)
    refine q_iload_n rfl rfl ?_
    refine q_aload_n rfl rfl ?_
    refine v_gi (z := 30) (v := c 41 30) rfl rfl rfl (by decide) rfl rfl (hF 41 30 (by omega)) ?_
    by_cases h_4 : v2 ≥ c 41 30
    · refine v_ic_ge_t (t := 95) rfl (by decide) (by omega) ?_
      refine q_aload_n rfl rfl ?_
      refine v_gr (t := 54) rfl rfl rfl (by decide) rfl ?_
      refine q_iconst rfl ?_
      have h_5 := ir_54 hI2 0
      refine v_ia (v := c2 54 0) rfl rfl (by decide) (by decide) (by decide) rfl ?_
      refine q_iret rfl rfl ?_
      exact K c2 (c2 54 0) hI2 (fun a j hm => hF a j (by omega)) ⟨by omega, by omega⟩
    · refine v_ic_ge_f (t := 95) rfl (by decide) (by omega) ?_
      refine q_aload_n rfl rfl ?_
      refine v_gr (t := 52) rfl rfl rfl (by decide) rfl ?_
      refine q_iload_n rfl rfl ?_
      refine v_ia (v := c 52 v2) rfl rfl (by decide) (by decide) (by omega) (hF 52 v2 (by omega)) ?_
      refine q_istore_n rfl (by decide) ?_
      refine q_iload_n rfl rfl ?_
      refine q_iconst rfl ?_
      by_cases h_6 : c 52 v2 > 1
      · refine v_ic_gt_t (t := 60) rfl (by decide) (by omega) ?_
        refine v_iinc (v := v1 - 1) rfl rfl (by decide) (by omega) ?_
        refine q_aload_n rfl rfl ?_
        refine v_gr (t := 54) rfl rfl rfl (by decide) rfl ?_
        refine q_iload_n rfl rfl ?_
        refine q_iconst rfl ?_
        refine v_isub (v := v1 - 2) rfl (by omega) ?_
        refine q_iload_n rfl rfl ?_
        refine q_aload_n rfl rfl ?_
        refine v_gr (t := 54) rfl rfl rfl (by decide) rfl ?_
        refine q_iload_n rfl rfl ?_
        refine q_iconst rfl ?_
        refine v_isub (v := v1 - 2) rfl (by omega) ?_
        have h_7 := ir_54 hI2 (v1 - 2)
        refine v_ia (v := c2 54 (v1 - 2)) rfl rfl (by decide) (by decide) (by omega) rfl ?_
        refine q_aload_n rfl rfl ?_
        refine v_gr (t := 54) rfl rfl rfl (by decide) rfl ?_
        refine q_iload_n rfl rfl ?_
        have h_8 := ir_54 hI2 (v1 - 1)
        refine v_ia (v := c2 54 (v1 - 1)) rfl rfl (by decide) (by decide) (by omega) rfl ?_
        refine q_call rfl rfl rfl rfl (s_178 (a0 := c 52 v2) (a1 := c2 54 (v1 - 2)) (a2 := c2 54 (v1 - 1)) hI2 (show (-2147483648) ≤ c 52 v2 ∧ c 52 v2 ≤ 2147483647 from by omega) (show (-2147483648) ≤ c2 54 (v1 - 2) ∧ c2 54 (v1 - 2) ≤ 2147483647 from by omega) (show (-2147483648) ≤ c2 54 (v1 - 1) ∧ c2 54 (v1 - 1) ≤ 2147483647 from by omega) (fun y_9 hy_9 => ?_))
        refine bk_inl ?_
        refine v_is rfl rfl (by decide) (by decide) (by omega) ?_
        refine v_iinc (v := v2 + 1) rfl rfl (by decide) (by omega) ?_
        refine q_goto (t := 4) rfl (by decide) ?_
        have hI_10 := iw_54 (j := v1 - 2) (v := y_9) hI2 ⟨by omega, by omega⟩
        refine Wp_ls [(0, .ref 41), (1, vi (v1 - 1)), (2, vi (v2 + 1))] (lsub_cons rfl (lsub_cons rfl (lsub_cons rfl lsub_nil))) ?_
        exact ih (up c2 54 (v1 - 2) y_9) (v1 - 1) (v2 + 1) hI_10 (fun a j hm => (up_b (by omega)).trans (hF a j (by omega))) ⟨by omega, by omega⟩ ⟨by omega, by omega⟩ (by omega) (by omega) (by omega)
      · refine v_ic_gt_f (t := 60) rfl (by decide) (by omega) ?_
        refine q_aload_n rfl rfl ?_
        refine v_gr (t := 54) rfl rfl rfl (by decide) rfl ?_
        refine q_iload_n rfl rfl ?_
        refine q_iload_n rfl rfl ?_
        by_cases h_11 : c 52 v2 ≠ 0
        · refine v_if_ne_t (t := 42) rfl (by decide) (by omega) ?_
          refine q_aload_n rfl rfl ?_
          refine v_gr (t := 55) rfl rfl rfl (by decide) rfl ?_
          refine q_aload_n rfl rfl ?_
          refine v_gr (t := 53) rfl rfl rfl (by decide) rfl ?_
          refine q_iload_n rfl rfl ?_
          refine v_ia (v := c 53 v2) rfl rfl (by decide) (by decide) (by omega) (hF 53 v2 (by omega)) ?_
          have h_12 := ir_55 hI (c 53 v2)
          refine v_ia (v := c 55 (c 53 v2)) rfl rfl (by decide) (by decide) (by omega) (hF 55 (c 53 v2) (by omega)) ?_
          refine v_is rfl rfl (by decide) (by decide) (by omega) ?_
          refine v_iinc (v := v1 + 1) rfl rfl (by decide) (by omega) ?_
          refine q_goto (t := 89) rfl (by decide) ?_
          refine v_iinc (v := v2 + 1) rfl rfl (by decide) (by omega) ?_
          refine q_goto (t := 4) rfl (by decide) ?_
          have hI_13 := iw_54 (j := v1) (v := c 55 (c 53 v2)) hI2 ⟨by omega, by omega⟩
          refine Wp_ls [(0, .ref 41), (1, vi (v1 + 1)), (2, vi (v2 + 1))] (lsub_cons rfl (lsub_cons rfl (lsub_cons rfl lsub_nil))) ?_
          exact ih (up c2 54 v1 (c 55 (c 53 v2))) (v1 + 1) (v2 + 1) hI_13 (fun a j hm => (up_b (by omega)).trans (hF a j (by omega))) ⟨by omega, by omega⟩ ⟨by omega, by omega⟩ (by omega) (by omega) (by omega)
        · refine v_if_ne_f (t := 42) rfl (by decide) (by omega) ?_
          refine q_aload_n rfl rfl ?_
          refine v_gr (t := 53) rfl rfl rfl (by decide) rfl ?_
          refine q_iload_n rfl rfl ?_
          refine v_ia (v := c 53 v2) rfl rfl (by decide) (by decide) (by omega) (hF 53 v2 (by omega)) ?_
          refine q_goto (t := 53) rfl (by decide) ?_
          refine v_is rfl rfl (by decide) (by decide) (by omega) ?_
          refine v_iinc (v := v1 + 1) rfl rfl (by decide) (by omega) ?_
          refine q_goto (t := 89) rfl (by decide) ?_
          refine v_iinc (v := v2 + 1) rfl rfl (by decide) (by omega) ?_
          refine q_goto (t := 4) rfl (by decide) ?_
          have hI_14 := iw_54 (j := v1) (v := c 53 v2) hI2 ⟨by omega, by omega⟩
          refine Wp_ls [(0, .ref 41), (1, vi (v1 + 1)), (2, vi (v2 + 1))] (lsub_cons rfl (lsub_cons rfl (lsub_cons rfl lsub_nil))) ?_
          exact ih (up c2 54 v1 (c 53 v2)) (v1 + 1) (v2 + 1) hI_14 (fun a j hm => (up_b (by omega)).trans (hF a j (by omega))) ⟨by omega, by omega⟩ ⟨by omega, by omega⟩ (by omega) (by omega) (by omega)
set_option maxRecDepth 100000 in
set_option maxHeartbeats 4000000 in
theorem s_179 {sc : List Int32} {e : Int} {d u P Q : Nat} {c : ME} {Z : AR → Prop} (hI : Iv u e P Q c)  (K : ∀ (c2 : ME) (y : Int), Iv u e P Q c2 → (∀ (a : Nat) (j : Int), ¬ (a = 54) → c2 a j = c a j) → (-2147483648) ≤ y ∧ y ≤ 2147483647 → Z (.inl (some (vi y)), Wd P Q P P c2, 0, 0)) : Wp sc (d + 8) 179 0 [(0, .ref 41)] [] (Wd P Q P P c) 0 0 Z := by
  have hP := iv_P hI
  have hQ := iv_Q hI
  refine q_iconst rfl ?_
  refine q_istore_n rfl (by decide) ?_
  refine q_iconst rfl ?_
  refine q_istore_n rfl (by decide) ?_
  refine Wp_ls [(0, .ref 41), (1, vi 0), (2, vi 0)] (lsub_cons rfl (lsub_cons rfl (lsub_cons rfl lsub_nil))) ?_
  exact (s_179_l (sc := sc) (d := d) hI K 304) c 0 0 hI (fun a j hm => rfl) ⟨by decide, by decide⟩ ⟨by decide, by decide⟩ (by omega) (show (0 : Int) = hgt (c 52) 0 from rfl) (by omega)

set_option maxRecDepth 100000 in
set_option maxHeartbeats 4000000 in
theorem s_180 {sc : List Int32} {e : Int} {d u P Q : Nat} {c : ME} {Z : AR → Prop} (hI : Iv u e P Q c) (hq0 : (c 55 4 ≥ 0 ∧ c 55 4 ≤ 39996)) (hq1 : (c 55 0 ≥ 0 ∧ c 55 0 ≤ 9999)) (K : ∀ (c2 : ME) (y : Int), Iv u e P Q c2 → (∀ (a : Nat) (j : Int), ¬ (a = 54) → c2 a j = c a j) → 0 ≤ y ∧ y ≤ 99 → Z (.inl (some (vi y)), Wd P Q P P c2, 0, 0)) : Wp sc (d + 9) 180 0 [(0, .ref 41)] [] (Wd P Q P P c) 0 0 Z := by
  have hP := iv_P hI
  have hQ := iv_Q hI
  have h_1 := ir_55 hI 4
  have h_2 := ir_55 hI 0
  refine q_aload_n rfl rfl ?_
  have h_3 := ir_41_30 hI
  refine v_gi (z := 30) (v := c 41 30) rfl rfl rfl (by decide) rfl rfl rfl ?_
  by_cases h_4 : c 41 30 ≠ 0
  · refine v_if_ne_t (t := 28) rfl (by decide) (by omega) ?_
    refine q_aload_n rfl rfl ?_
    refine v_cv rfl rfl rfl rfl (by decide) ⟨⟨rfl, rfl⟩, by decide, rfl⟩ (Nat.le_of_ble_eq_true rfl) (Nat.le_of_ble_eq_true rfl) (s_179 hI (fun c_5 y_8 hI_6 hF_7 hy_8 => ?_))
    refine bk_inl ?_
    refine q_istore_n rfl (by decide) ?_
    refine q_iload_n rfl rfl ?_
    by_cases h_9 : y_8 ≥ 0
    · refine v_if_ge_t (t := 41) rfl (by decide) (by omega) ?_
      refine q_iload_n rfl rfl ?_
      refine v_bip rfl (by decide) ?_
      by_cases h_10 : y_8 ≤ 99
      · refine v_ic_le_t (t := 52) rfl (by decide) (by omega) ?_
        refine q_iload_n rfl rfl ?_
        refine q_iret rfl rfl ?_
        exact K c_5 y_8 hI_6 (fun a j hm => hF_7 a j (by omega)) ⟨by omega, by omega⟩
      · refine v_ic_le_f (t := 52) rfl (by decide) (by omega) ?_
        refine v_bip rfl (by decide) ?_
        refine q_goto (t := 53) rfl (by decide) ?_
        refine q_iret rfl rfl ?_
        exact K c_5 99 hI_6 (fun a j hm => hF_7 a j (by omega)) ⟨by decide, by decide⟩
    · refine v_if_ge_f (t := 41) rfl (by decide) (by omega) ?_
      refine q_iconst rfl ?_
      refine q_goto (t := 53) rfl (by decide) ?_
      refine q_iret rfl rfl ?_
      exact K c_5 0 hI_6 (fun a j hm => hF_7 a j (by omega)) ⟨by decide, by decide⟩
  · refine v_if_ne_f (t := 28) rfl (by decide) (by omega) ?_
    refine q_aload_n rfl rfl ?_
    refine v_gr (t := 55) rfl rfl rfl (by decide) rfl ?_
    refine q_iconst rfl ?_
    refine v_ia (v := c 55 0) rfl rfl (by decide) (by decide) (by decide) rfl ?_
    refine v_bip rfl (by decide) ?_
    refine v_imul (v := 90 * c 55 0) rfl (by omega) ?_
    refine q_aload_n rfl rfl ?_
    refine v_gr (t := 55) rfl rfl rfl (by decide) rfl ?_
    refine q_iconst rfl ?_
    refine v_ia (v := c 55 4) rfl rfl (by decide) (by decide) (by decide) rfl ?_
    refine q_iconst rfl ?_
    refine v_iadd (v := c 55 4 + 1) rfl (by omega) ?_
    refine v_idivx rfl ⟨by omega, by omega, by omega⟩ (fun y_11 hy_11 => ?_)
    refine q_goto (t := 32) rfl (by decide) ?_
    refine q_istore_n rfl (by decide) ?_
    refine q_iload_n rfl rfl ?_
    by_cases h_12 : y_11 ≥ 0
    · refine v_if_ge_t (t := 41) rfl (by decide) (by omega) ?_
      refine q_iload_n rfl rfl ?_
      refine v_bip rfl (by decide) ?_
      by_cases h_13 : y_11 ≤ 99
      · refine v_ic_le_t (t := 52) rfl (by decide) (by omega) ?_
        refine q_iload_n rfl rfl ?_
        refine q_iret rfl rfl ?_
        exact K c y_11 hI (fun a j hm => rfl) ⟨by omega, by omega⟩
      · refine v_ic_le_f (t := 52) rfl (by decide) (by omega) ?_
        refine v_bip rfl (by decide) ?_
        refine q_goto (t := 53) rfl (by decide) ?_
        refine q_iret rfl rfl ?_
        exact K c 99 hI (fun a j hm => rfl) ⟨by decide, by decide⟩
    · refine v_if_ge_f (t := 41) rfl (by decide) (by omega) ?_
      refine q_iconst rfl ?_
      refine q_goto (t := 53) rfl (by decide) ?_
      refine q_iret rfl rfl ?_
      exact K c 0 hI (fun a j hm => rfl) ⟨by decide, by decide⟩

set_option maxRecDepth 100000 in
set_option maxHeartbeats 4000000 in
theorem s_183 {sc : List Int32} {e : Int} {d u P Q : Nat} {c : ME} {Z : AR → Prop} (hI : Iv u e P Q c)  (K : ∀ (c2 : ME) (y : Int), Iv u e P Q c2 → (∀ (a : Nat) (j : Int), ¬ ((a = 41 ∧ j = 4) ∨ (a = 41 ∧ j = 5) ∨ (a = 41 ∧ j = 6)) → c2 a j = c a j) → 0 ≤ y ∧ y ≤ 5 → ((c2 41 4 ≥ c 41 4)) → ((c2 41 4 ≤ c 41 3) ∨ (c2 41 4 = c 41 4)) → ((c 41 5 = (-1)) ∨ (c2 41 5 = c 41 5)) → ((c2 41 5 < (-1)) ∨ (c2 41 5 > (-1)) ∨ (c2 41 4 > c 41 4 ∧ c2 41 4 ≤ c 41 3 ∧ c 41 5 = (-1))) → Z (.inl (some (vi y)), Wd P Q P P c2, 0, 0)) : Wp sc (d + 9) 183 0 [(0, .ref 41)] [] (Wd P Q P P c) 0 0 Z := by
  have hP := iv_P hI
  have hQ := iv_Q hI
  refine q_aload_n rfl rfl ?_
  refine q_iconst rfl ?_
  refine q_aload_n rfl rfl ?_
  have h_1 := ir_41_20 hI
  refine v_gi (z := 20) (v := c 41 20) rfl rfl rfl (by decide) rfl rfl rfl ?_
  refine q_iconst rfl ?_
  refine v_isub (v := c 41 20 - 1) rfl (by omega) ?_
  have h_2 := ir_41_4 hI
  have h_3 := ir_41_3 hI
  have h_4 := ir_41_5 hI
  refine v_cv rfl rfl rfl rfl (by decide) ⟨⟨rfl, rfl⟩, by decide, rfl⟩ (Nat.le_of_ble_eq_true rfl) (Nat.le_of_ble_eq_true rfl) (s_160 (a1 := 0) (a2 := c 41 20 - 1) hI (show 0 ≤ 0 ∧ 0 ≤ 1 from by omega) (show (-1) ≤ c 41 20 - 1 ∧ c 41 20 - 1 ≤ 9999 from by omega) (fun c_5 y_8 hI_6 hF_7 hy_8 h_9 h_10 h_11 h_12 h_13 => ?_))
  refine bk_inl ?_
  have h_14 := ir_41_4 hI_6
  have h_15 := ir_41_5 hI_6
  refine q_iret rfl rfl ?_
  exact K c_5 y_8 hI_6 (fun a j hm => hF_7 a j (by omega)) ⟨by omega, by omega⟩ (by omega) (by omega) (by omega) (by omega)

set_option maxRecDepth 100000 in
set_option maxHeartbeats 4000000 in
theorem s_186 {sc : List Int32} {d P Q : Nat} {c : ME} {Z : AR → Prop} (hI : Iv 0 (-1) P Q c)  (K : ∀ (c2 : ME), Iv 0 (-1) P Q c2 → (∀ (a : Nat) (j : Int), ¬ (a = 59) → c2 a j = c a j) → Z (.inl (none), Wd P Q P P c2, 0, 0)) : Wp sc (d + 7) 186 0 [(0, .ref 41)] [] (Wd P Q P P c) 0 0 Z := by
  have hP := iv_P hI
  have hQ := iv_Q hI
  refine q_aload_n rfl rfl ?_
  refine q_aload_n rfl rfl ?_
  refine v_gr (t := 58) rfl rfl rfl (by decide) rfl ?_
  refine q_aload_n rfl rfl ?_
  refine v_gr (t := 59) rfl rfl rfl (by decide) rfl ?_
  refine v_bip rfl (by decide) ?_
  refine v_cv rfl rfl rfl rfl (by decide) ⟨⟨rfl, rfl⟩, by decide, rfl⟩ (Nat.le_of_ble_eq_true rfl) (Nat.le_of_ble_eq_true rfl) (s_148 (f := 58) (t := 59) (nf := 37) (nt := 37) (n := 37) rfl rfl (by decide) (by decide) (by decide) (by decide) (by decide) (by omega) ?_)
  refine bk_inl ?_
  refine q_vret rfl rfl ?_
  have hI_1 := cp_58_59 hI
  exact K (upc c 58 0 59 0 37) hI_1 (fun a j hm => upc_c (by omega))

set_option maxRecDepth 100000 in
set_option maxHeartbeats 4000000 in
theorem s_187 {sc : List Int32} {e : Int} {d u P Q : Nat} {c : ME} {v1 v2 v3 v4 r : Int} {a1 : Int} {Z : AR → Prop} (hI : Iv u e P Q c) (ha1 : 0 ≤ a1 ∧ a1 ≤ 5) (hv0 : c 59 (4 * a1) = v1) (hv1 : c 59 (4 * a1 + 1) = v2) (hv2 : c 59 (4 * a1 + 2) = v3) (hv3 : c 59 (4 * a1 + 3) = v4) (hr9 : v1 + v2 + v3 + v4 = r) (K : Z (.inl (some (vi r)), Wd P Q P P c, 0, 0)) : Wp sc (d + 7) 187 0 [(0, .ref 41), (1, vi a1)] [] (Wd P Q P P c) 0 0 Z := by
  have hP := iv_P hI
  have hQ := iv_Q hI
  have h_1 := ir_59_g hI (j := 4 * a1) (by omega)
  have h_2 := ir_59_g hI (j := 4 * a1 + 1) (by omega)
  have h_3 := ir_59_g hI (j := 4 * a1 + 2) (by omega)
  have h_4 := ir_59_g hI (j := 4 * a1 + 3) (by omega)
  refine q_iconst rfl ?_
  refine q_istore_n rfl (by decide) ?_
  refine q_iconst rfl ?_
  refine q_istore_n rfl (by decide) ?_
  refine q_iload_n rfl rfl ?_
  refine q_iconst rfl ?_
  refine v_ic_ge_f (t := 28) rfl (by decide) (by decide) ?_
  refine q_iload_n rfl rfl ?_
  refine q_aload_n rfl rfl ?_
  refine v_gr (t := 59) rfl rfl rfl (by decide) rfl ?_
  refine q_iconst rfl ?_
  refine q_iload_n rfl rfl ?_
  refine v_imul (v := 4 * a1) rfl (by omega) ?_
  refine q_iload_n rfl rfl ?_
  refine v_iadd (v := 4 * a1) rfl (by omega) ?_
  refine v_ia (v := v1) rfl rfl (by decide) (by decide) (by omega) (hv0) ?_
  refine v_iadd (v := v1) rfl (by omega) ?_
  refine q_istore_n rfl (by decide) ?_
  refine v_iinc (v := 1) rfl rfl (by decide) (by decide) ?_
  refine q_goto (t := 4) rfl (by decide) ?_
  refine q_iload_n rfl rfl ?_
  refine q_iconst rfl ?_
  refine v_ic_ge_f (t := 28) rfl (by decide) (by decide) ?_
  refine q_iload_n rfl rfl ?_
  refine q_aload_n rfl rfl ?_
  refine v_gr (t := 59) rfl rfl rfl (by decide) rfl ?_
  refine q_iconst rfl ?_
  refine q_iload_n rfl rfl ?_
  refine v_imul (v := 4 * a1) rfl (by omega) ?_
  refine q_iload_n rfl rfl ?_
  refine v_iadd (v := 4 * a1 + 1) rfl (by omega) ?_
  refine v_ia (v := v2) rfl rfl (by decide) (by decide) (by omega) (hv1) ?_
  refine v_iadd (v := v1 + v2) rfl (by omega) ?_
  refine q_istore_n rfl (by decide) ?_
  refine Wp_ls [(2, vi (v1 + v2)), (3, vi 1), (0, .ref 41), (1, vi a1)] (lsub_cons rfl (lsub_cons rfl (lsub_cons rfl (lsub_cons rfl lsub_nil)))) ?_
  refine v_iinc (v := 2) rfl rfl (by decide) (by decide) ?_
  refine q_goto (t := 4) rfl (by decide) ?_
  refine q_iload_n rfl rfl ?_
  refine q_iconst rfl ?_
  refine v_ic_ge_f (t := 28) rfl (by decide) (by decide) ?_
  refine q_iload_n rfl rfl ?_
  refine q_aload_n rfl rfl ?_
  refine v_gr (t := 59) rfl rfl rfl (by decide) rfl ?_
  refine q_iconst rfl ?_
  refine q_iload_n rfl rfl ?_
  refine v_imul (v := 4 * a1) rfl (by omega) ?_
  refine q_iload_n rfl rfl ?_
  refine v_iadd (v := 4 * a1 + 2) rfl (by omega) ?_
  refine v_ia (v := v3) rfl rfl (by decide) (by decide) (by omega) (hv2) ?_
  refine v_iadd (v := v1 + v2 + v3) rfl (by omega) ?_
  refine q_istore_n rfl (by decide) ?_
  refine v_iinc (v := 3) rfl rfl (by decide) (by decide) ?_
  refine q_goto (t := 4) rfl (by decide) ?_
  refine q_iload_n rfl rfl ?_
  refine q_iconst rfl ?_
  refine v_ic_ge_f (t := 28) rfl (by decide) (by decide) ?_
  refine q_iload_n rfl rfl ?_
  refine q_aload_n rfl rfl ?_
  refine v_gr (t := 59) rfl rfl rfl (by decide) rfl ?_
  refine q_iconst rfl ?_
  refine q_iload_n rfl rfl ?_
  refine v_imul (v := 4 * a1) rfl (by omega) ?_
  refine q_iload_n rfl rfl ?_
  refine v_iadd (v := 4 * a1 + 3) rfl (by omega) ?_
  refine v_ia (v := v4) rfl rfl (by decide) (by decide) (by omega) (hv3) ?_
  refine v_iadd (v := v1 + v2 + v3 + v4) rfl (by omega) ?_
  refine q_istore_n rfl (by decide) ?_
  refine v_iinc (v := 4) rfl rfl (by decide) (by decide) ?_
  refine Wp_ls [(3, vi 4), (2, vi (v1 + v2 + v3 + v4)), (0, .ref 41), (1, vi a1)] (lsub_cons rfl (lsub_cons rfl (lsub_cons rfl (lsub_cons rfl lsub_nil)))) ?_
  refine q_goto (t := 4) rfl (by decide) ?_
  refine q_iload_n rfl rfl ?_
  refine q_iconst rfl ?_
  refine v_ic_ge_t (t := 28) rfl (by decide) (by decide) ?_
  refine q_iload_n rfl rfl ?_
  refine q_iret rfl rfl ?_
  exact zv (by omega) (K)

set_option maxRecDepth 100000 in
set_option maxHeartbeats 4000000 in
theorem s_188 {sc : List Int32} {d P Q : Nat} {c : ME} {a1 : Int} {a2 : Int} {Z : AR → Prop} (hI : Iv 0 (-1) P Q c) (ha1 : 0 ≤ a1 ∧ a1 ≤ 3) (ha2 : 0 ≤ a2 ∧ a2 ≤ 5) (K : ∀ (c2 : ME) (y : Int), Iv 0 (-1) P Q c2 → (∀ (a : Nat) (j : Int), ¬ (a = 59) → c2 a j = c a j) → 0 ≤ y ∧ y ≤ 1 → Z (.inl (some (vi y)), Wd P Q P P c2, 0, 0)) : Wp sc (d + 8) 188 0 [(0, .ref 41), (1, vi a1), (2, vi a2)] [] (Wd P Q P P c) 0 0 Z := by
  have hP := iv_P hI
  have hQ := iv_Q hI
  have hIo : Iv 59 (-1) P Q c := iv_open hI
  have hsum_1 := ir_59_r hI (by decide) (j := a2) (by omega)
  have h_2 := ir_59_g hI (j := 4 * a2) (by omega)
  have h_3 := ir_59_g hI (j := 4 * a2 + 1) (by omega)
  have h_4 := ir_59_g hI (j := 4 * a2 + 2) (by omega)
  have h_5 := ir_59_g hI (j := 4 * a2 + 3) (by omega)
  refine q_aload_n rfl rfl ?_
  refine q_iload_n rfl rfl ?_
  refine v_cv rfl rfl rfl rfl (by decide) ⟨⟨rfl, rfl⟩, by decide, rfl⟩ (Nat.le_of_ble_eq_true rfl) (Nat.le_of_ble_eq_true rfl) (s_187 (v1 := c 59 (4 * a2)) (v2 := c 59 (4 * a2 + 1)) (v3 := c 59 (4 * a2 + 2)) (v4 := c 59 (4 * a2 + 3)) (r := c 59 (4 * a2 + 1) + c 59 (4 * a2 + 2) + c 59 (4 * a2 + 3) + c 59 (4 * a2)) (a1 := a2) hIo (show 0 ≤ a2 ∧ a2 ≤ 5 from by omega) (rfl) (rfl) (rfl) (rfl) (by omega) ?_)
  refine bk_inl ?_
  by_cases h_6 : c 59 (4 * a2 + 1) + c 59 (4 * a2 + 2) + c 59 (4 * a2 + 3) + c 59 (4 * a2) ≠ 0
  · refine v_if_ne_t (t := 10) rfl (by decide) (by omega) ?_
    refine q_iconst rfl ?_
    refine q_istore_n rfl (by decide) ?_
    refine q_iload_n rfl rfl ?_
    refine q_iconst rfl ?_
    refine v_ic_ge_f (t := 83) rfl (by decide) (by decide) ?_
    refine q_aload_n rfl rfl ?_
    refine v_gr (t := 59) rfl rfl rfl (by decide) rfl ?_
    refine q_iconst rfl ?_
    refine q_iload_n rfl rfl ?_
    refine v_imul (v := 4 * a2) rfl (by omega) ?_
    refine q_iload_n rfl rfl ?_
    refine v_iadd (v := 4 * a2 + 1) rfl (by omega) ?_
    refine v_ia (v := c 59 (4 * a2 + 1)) rfl rfl (by decide) (by decide) (by omega) rfl ?_
    refine q_aload_n rfl rfl ?_
    refine v_gr (t := 48) rfl rfl rfl (by decide) rfl ?_
    refine q_iconst rfl ?_
    refine q_iload_n rfl rfl ?_
    refine v_imul (v := 3 * a1) rfl (by omega) ?_
    refine q_iload_n rfl rfl ?_
    refine v_iadd (v := 3 * a1 + 1) rfl (by omega) ?_
    refine q_iconst rfl ?_
    refine v_isub (v := 3 * a1) rfl (by omega) ?_
    have h_7 := ir_48 hI (3 * a1)
    refine v_ia (v := c 48 (3 * a1)) rfl rfl (by decide) (by decide) (by omega) rfl ?_
    have h_8 : 0 ≤ (c 59 (4 * a2 + 1)) * (c 48 (3 * a1)) ∧ (c 59 (4 * a2 + 1)) * (c 48 (3 * a1)) ≤ 10 * (c 59 (4 * a2 + 1)) := mul_bd (by omega) (by omega) (by omega)
    have h_9 : 0 ≤ (c 59 (4 * a2 + 1)) * (c 48 (3 * a1)) ∧ (c 59 (4 * a2 + 1)) * (c 48 (3 * a1)) ≤ 9999 * (c 48 (3 * a1)) := mul_bd2 (by omega) (by omega) (by omega)
    refine v_imul (v := ((c 59 (4 * a2 + 1)) * (c 48 (3 * a1)))) rfl rfl ?_
    refine v_bip rfl (by decide) ?_
    refine v_idiv (v := (((c 59 (4 * a2 + 1)) * (c 48 (3 * a1))) / 10)) rfl (by omega) rfl ?_
    refine q_istore rfl (by decide) ?_
    refine q_aload_n rfl rfl ?_
    refine v_gr (t := 59) rfl rfl rfl (by decide) rfl ?_
    refine q_iconst rfl ?_
    refine q_iload_n rfl rfl ?_
    refine v_imul (v := 4 * a2) rfl (by omega) ?_
    refine q_iload_n rfl rfl ?_
    refine v_iadd (v := 4 * a2 + 1) rfl (by omega) ?_
    refine q_dup2 rfl ⟨rfl, rfl⟩ ?_
    refine v_ia (v := c 59 (4 * a2 + 1)) rfl rfl (by decide) (by decide) (by omega) rfl ?_
    refine q_iload rfl rfl ?_
    refine v_isub (v := c 59 (4 * a2 + 1) - (((c 59 (4 * a2 + 1)) * (c 48 (3 * a1))) / 10)) rfl (by omega) ?_
    refine v_is rfl rfl (by decide) (by decide) (by omega) ?_
    refine q_aload_n rfl rfl ?_
    refine v_gr (t := 59) rfl rfl rfl (by decide) rfl ?_
    refine q_iconst rfl ?_
    refine q_iload_n rfl rfl ?_
    refine v_imul (v := 4 * a2) rfl (by omega) ?_
    refine q_iload_n rfl rfl ?_
    refine v_iadd (v := 4 * a2 + 1) rfl (by omega) ?_
    refine q_iconst rfl ?_
    refine v_isub (v := 4 * a2) rfl (by omega) ?_
    refine q_dup2 rfl ⟨rfl, rfl⟩ ?_
    refine v_ia (v := c 59 (4 * a2)) rfl rfl (by decide) (by decide) (by omega) (up_n (by omega)) ?_
    refine q_iload rfl rfl ?_
    refine v_iadd (v := (((c 59 (4 * a2 + 1)) * (c 48 (3 * a1))) / 10) + c 59 (4 * a2)) rfl (by omega) ?_
    refine v_is rfl rfl (by decide) (by decide) (by omega) ?_
    refine v_iinc (v := 2) rfl rfl (by decide) (by decide) ?_
    refine q_goto (t := 12) rfl (by decide) ?_
    refine q_iload_n rfl rfl ?_
    refine q_iconst rfl ?_
    refine v_ic_ge_f (t := 83) rfl (by decide) (by decide) ?_
    refine q_aload_n rfl rfl ?_
    refine v_gr (t := 59) rfl rfl rfl (by decide) rfl ?_
    refine q_iconst rfl ?_
    refine q_iload_n rfl rfl ?_
    refine v_imul (v := 4 * a2) rfl (by omega) ?_
    refine q_iload_n rfl rfl ?_
    refine v_iadd (v := 4 * a2 + 2) rfl (by omega) ?_
    refine v_ia (v := c 59 (4 * a2 + 2)) rfl rfl (by decide) (by decide) (by omega) ((up_n (by omega)).trans (up_n (by omega))) ?_
    refine q_aload_n rfl rfl ?_
    refine v_gr (t := 48) rfl rfl rfl (by decide) rfl ?_
    refine q_iconst rfl ?_
    refine q_iload_n rfl rfl ?_
    refine v_imul (v := 3 * a1) rfl (by omega) ?_
    refine q_iload_n rfl rfl ?_
    refine v_iadd (v := 3 * a1 + 2) rfl (by omega) ?_
    refine q_iconst rfl ?_
    refine v_isub (v := 3 * a1 + 1) rfl (by omega) ?_
    have h_10 := ir_48 hI (3 * a1 + 1)
    refine v_ia (v := c 48 (3 * a1 + 1)) rfl rfl (by decide) (by decide) (by omega) ((up_c (by decide)).trans (up_c (by decide))) ?_
    have h_11 : 0 ≤ (c 59 (4 * a2 + 2)) * (c 48 (3 * a1 + 1)) ∧ (c 59 (4 * a2 + 2)) * (c 48 (3 * a1 + 1)) ≤ 10 * (c 59 (4 * a2 + 2)) := mul_bd (by omega) (by omega) (by omega)
    have h_12 : 0 ≤ (c 59 (4 * a2 + 2)) * (c 48 (3 * a1 + 1)) ∧ (c 59 (4 * a2 + 2)) * (c 48 (3 * a1 + 1)) ≤ 9999 * (c 48 (3 * a1 + 1)) := mul_bd2 (by omega) (by omega) (by omega)
    refine v_imul (v := ((c 59 (4 * a2 + 2)) * (c 48 (3 * a1 + 1)))) rfl rfl ?_
    refine v_bip rfl (by decide) ?_
    refine v_idiv (v := (((c 59 (4 * a2 + 2)) * (c 48 (3 * a1 + 1))) / 10)) rfl (by omega) rfl ?_
    refine q_istore rfl (by decide) ?_
    refine q_aload_n rfl rfl ?_
    refine v_gr (t := 59) rfl rfl rfl (by decide) rfl ?_
    refine q_iconst rfl ?_
    refine q_iload_n rfl rfl ?_
    refine v_imul (v := 4 * a2) rfl (by omega) ?_
    refine q_iload_n rfl rfl ?_
    refine v_iadd (v := 4 * a2 + 2) rfl (by omega) ?_
    refine q_dup2 rfl ⟨rfl, rfl⟩ ?_
    refine v_ia (v := c 59 (4 * a2 + 2)) rfl rfl (by decide) (by decide) (by omega) ((up_n (by omega)).trans (up_n (by omega))) ?_
    refine q_iload rfl rfl ?_
    refine v_isub (v := c 59 (4 * a2 + 2) - (((c 59 (4 * a2 + 2)) * (c 48 (3 * a1 + 1))) / 10)) rfl (by omega) ?_
    refine v_is rfl rfl (by decide) (by decide) (by omega) ?_
    refine q_aload_n rfl rfl ?_
    refine v_gr (t := 59) rfl rfl rfl (by decide) rfl ?_
    refine q_iconst rfl ?_
    refine q_iload_n rfl rfl ?_
    refine v_imul (v := 4 * a2) rfl (by omega) ?_
    refine q_iload_n rfl rfl ?_
    refine v_iadd (v := 4 * a2 + 2) rfl (by omega) ?_
    refine q_iconst rfl ?_
    refine v_isub (v := 4 * a2 + 1) rfl (by omega) ?_
    refine q_dup2 rfl ⟨rfl, rfl⟩ ?_
    refine v_ia (v := c 59 (4 * a2 + 1) - (((c 59 (4 * a2 + 1)) * (c 48 (3 * a1))) / 10)) rfl rfl (by decide) (by decide) (by omega) ((up_n (by omega)).trans ((up_n (by omega)).trans (up_e rfl))) ?_
    refine q_iload rfl rfl ?_
    refine v_iadd (v := (((c 59 (4 * a2 + 2)) * (c 48 (3 * a1 + 1))) / 10) + c 59 (4 * a2 + 1) - (((c 59 (4 * a2 + 1)) * (c 48 (3 * a1))) / 10)) rfl (by omega) ?_
    refine v_is rfl rfl (by decide) (by decide) (by omega) ?_
    refine v_iinc (v := 3) rfl rfl (by decide) (by decide) ?_
    refine Wp_ls [(3, vi 3), (4, vi (((c 59 (4 * a2 + 2)) * (c 48 (3 * a1 + 1))) / 10)), (0, .ref 41), (1, vi a1), (2, vi a2)] (lsub_cons rfl (lsub_cons rfl (lsub_cons rfl (lsub_cons rfl (lsub_cons rfl lsub_nil))))) ?_
    refine q_goto (t := 12) rfl (by decide) ?_
    refine q_iload_n rfl rfl ?_
    refine q_iconst rfl ?_
    refine v_ic_ge_f (t := 83) rfl (by decide) (by decide) ?_
    refine q_aload_n rfl rfl ?_
    refine v_gr (t := 59) rfl rfl rfl (by decide) rfl ?_
    refine q_iconst rfl ?_
    refine q_iload_n rfl rfl ?_
    refine v_imul (v := 4 * a2) rfl (by omega) ?_
    refine q_iload_n rfl rfl ?_
    refine v_iadd (v := 4 * a2 + 3) rfl (by omega) ?_
    refine v_ia (v := c 59 (4 * a2 + 3)) rfl rfl (by decide) (by decide) (by omega) ((up_n (by omega)).trans ((up_n (by omega)).trans ((up_n (by omega)).trans (up_n (by omega))))) ?_
    refine q_aload_n rfl rfl ?_
    refine v_gr (t := 48) rfl rfl rfl (by decide) rfl ?_
    refine q_iconst rfl ?_
    refine q_iload_n rfl rfl ?_
    refine v_imul (v := 3 * a1) rfl (by omega) ?_
    refine q_iload_n rfl rfl ?_
    refine v_iadd (v := 3 * a1 + 3) rfl (by omega) ?_
    refine q_iconst rfl ?_
    refine v_isub (v := 3 * a1 + 2) rfl (by omega) ?_
    have h_13 := ir_48 hI (3 * a1 + 2)
    refine v_ia (v := c 48 (3 * a1 + 2)) rfl rfl (by decide) (by decide) (by omega) ((up_c (by decide)).trans ((up_c (by decide)).trans ((up_c (by decide)).trans (up_c (by decide))))) ?_
    have h_14 : 0 ≤ (c 59 (4 * a2 + 3)) * (c 48 (3 * a1 + 2)) ∧ (c 59 (4 * a2 + 3)) * (c 48 (3 * a1 + 2)) ≤ 10 * (c 59 (4 * a2 + 3)) := mul_bd (by omega) (by omega) (by omega)
    have h_15 : 0 ≤ (c 59 (4 * a2 + 3)) * (c 48 (3 * a1 + 2)) ∧ (c 59 (4 * a2 + 3)) * (c 48 (3 * a1 + 2)) ≤ 9999 * (c 48 (3 * a1 + 2)) := mul_bd2 (by omega) (by omega) (by omega)
    refine v_imul (v := ((c 59 (4 * a2 + 3)) * (c 48 (3 * a1 + 2)))) rfl rfl ?_
    refine v_bip rfl (by decide) ?_
    refine v_idiv (v := (((c 59 (4 * a2 + 3)) * (c 48 (3 * a1 + 2))) / 10)) rfl (by omega) rfl ?_
    refine q_istore rfl (by decide) ?_
    refine q_aload_n rfl rfl ?_
    refine v_gr (t := 59) rfl rfl rfl (by decide) rfl ?_
    refine q_iconst rfl ?_
    refine q_iload_n rfl rfl ?_
    refine v_imul (v := 4 * a2) rfl (by omega) ?_
    refine q_iload_n rfl rfl ?_
    refine v_iadd (v := 4 * a2 + 3) rfl (by omega) ?_
    refine q_dup2 rfl ⟨rfl, rfl⟩ ?_
    refine v_ia (v := c 59 (4 * a2 + 3)) rfl rfl (by decide) (by decide) (by omega) ((up_n (by omega)).trans ((up_n (by omega)).trans ((up_n (by omega)).trans (up_n (by omega))))) ?_
    refine q_iload rfl rfl ?_
    refine v_isub (v := c 59 (4 * a2 + 3) - (((c 59 (4 * a2 + 3)) * (c 48 (3 * a1 + 2))) / 10)) rfl (by omega) ?_
    refine v_is rfl rfl (by decide) (by decide) (by omega) ?_
    refine q_aload_n rfl rfl ?_
    refine v_gr (t := 59) rfl rfl rfl (by decide) rfl ?_
    refine q_iconst rfl ?_
    refine q_iload_n rfl rfl ?_
    refine v_imul (v := 4 * a2) rfl (by omega) ?_
    refine q_iload_n rfl rfl ?_
    refine v_iadd (v := 4 * a2 + 3) rfl (by omega) ?_
    refine q_iconst rfl ?_
    refine v_isub (v := 4 * a2 + 2) rfl (by omega) ?_
    refine q_dup2 rfl ⟨rfl, rfl⟩ ?_
    refine v_ia (v := c 59 (4 * a2 + 2) - (((c 59 (4 * a2 + 2)) * (c 48 (3 * a1 + 1))) / 10)) rfl rfl (by decide) (by decide) (by omega) ((up_n (by omega)).trans ((up_n (by omega)).trans (up_e rfl))) ?_
    refine q_iload rfl rfl ?_
    refine v_iadd (v := (((c 59 (4 * a2 + 3)) * (c 48 (3 * a1 + 2))) / 10) + c 59 (4 * a2 + 2) - (((c 59 (4 * a2 + 2)) * (c 48 (3 * a1 + 1))) / 10)) rfl (by omega) ?_
    refine v_is rfl rfl (by decide) (by decide) (by omega) ?_
    refine v_iinc (v := 4) rfl rfl (by decide) (by decide) ?_
    refine q_goto (t := 12) rfl (by decide) ?_
    refine q_iload_n rfl rfl ?_
    refine q_iconst rfl ?_
    refine v_ic_ge_t (t := 83) rfl (by decide) (by decide) ?_
    refine q_aload_n rfl rfl ?_
    refine v_gr (t := 59) rfl rfl rfl (by decide) rfl ?_
    refine q_iconst rfl ?_
    refine q_iload_n rfl rfl ?_
    refine v_imul (v := 4 * a2) rfl (by omega) ?_
    refine v_ia (v := (((c 59 (4 * a2 + 1)) * (c 48 (3 * a1))) / 10) + c 59 (4 * a2)) rfl rfl (by decide) (by decide) (by omega) ((up_n (by omega)).trans ((up_n (by omega)).trans ((up_n (by omega)).trans ((up_n (by omega)).trans (up_e rfl))))) ?_
    refine q_aload_n rfl rfl ?_
    have h_16 := ir_41_23 hI
    refine v_gi (z := 23) (v := c 41 23) rfl rfl rfl (by decide) rfl rfl ((up_c (by decide)).trans ((up_c (by decide)).trans ((up_c (by decide)).trans ((up_c (by decide)).trans ((up_c (by decide)).trans (up_c (by decide))))))) ?_
    have h_17 : 0 ≤ ((((c 59 (4 * a2 + 1)) * (c 48 (3 * a1))) / 10) + c 59 (4 * a2)) * (c 41 23) ∧ ((((c 59 (4 * a2 + 1)) * (c 48 (3 * a1))) / 10) + c 59 (4 * a2)) * (c 41 23) ≤ 50 * ((((c 59 (4 * a2 + 1)) * (c 48 (3 * a1))) / 10) + c 59 (4 * a2)) := mul_bd (by omega) (by omega) (by omega)
    have h_18 : 0 ≤ ((((c 59 (4 * a2 + 1)) * (c 48 (3 * a1))) / 10) + c 59 (4 * a2)) * (c 41 23) ∧ ((((c 59 (4 * a2 + 1)) * (c 48 (3 * a1))) / 10) + c 59 (4 * a2)) * (c 41 23) ≤ 9999 * (c 41 23) := mul_bd2 (by omega) (by omega) (by omega)
    refine v_imul (v := (((((c 59 (4 * a2 + 1)) * (c 48 (3 * a1))) / 10) + c 59 (4 * a2)) * (c 41 23))) rfl rfl ?_
    refine v_bip rfl (by decide) ?_
    refine v_idiv (v := ((((((c 59 (4 * a2 + 1)) * (c 48 (3 * a1))) / 10) + c 59 (4 * a2)) * (c 41 23)) / 100)) rfl (by omega) rfl ?_
    refine q_istore_n rfl (by decide) ?_
    refine q_aload_n rfl rfl ?_
    refine v_gr (t := 59) rfl rfl rfl (by decide) rfl ?_
    refine q_iconst rfl ?_
    refine q_iload_n rfl rfl ?_
    refine v_imul (v := 4 * a2) rfl (by omega) ?_
    refine q_dup2 rfl ⟨rfl, rfl⟩ ?_
    refine v_ia (v := (((c 59 (4 * a2 + 1)) * (c 48 (3 * a1))) / 10) + c 59 (4 * a2)) rfl rfl (by decide) (by decide) (by omega) ((up_n (by omega)).trans ((up_n (by omega)).trans ((up_n (by omega)).trans ((up_n (by omega)).trans (up_e rfl))))) ?_
    refine q_iload_n rfl rfl ?_
    refine v_isub (v := (((c 59 (4 * a2 + 1)) * (c 48 (3 * a1))) / 10) + c 59 (4 * a2) - ((((((c 59 (4 * a2 + 1)) * (c 48 (3 * a1))) / 10) + c 59 (4 * a2)) * (c 41 23)) / 100)) rfl (by omega) ?_
    refine v_is rfl rfl (by decide) (by decide) (by omega) ?_
    refine q_aload_n rfl rfl ?_
    refine v_gr (t := 59) rfl rfl rfl (by decide) rfl ?_
    refine v_bip rfl (by decide) ?_
    refine q_dup2 rfl ⟨rfl, rfl⟩ ?_
    have h_19 := ir_59 hI 35
    refine v_ia (v := c 59 35) rfl rfl (by decide) (by decide) (by decide) ((up_n (by omega)).trans ((up_n (by omega)).trans ((up_n (by omega)).trans ((up_n (by omega)).trans ((up_n (by omega)).trans ((up_n (by omega)).trans (up_n (by omega)))))))) ?_
    refine q_iload_n rfl rfl ?_
    refine v_iadd (v := ((((((c 59 (4 * a2 + 1)) * (c 48 (3 * a1))) / 10) + c 59 (4 * a2)) * (c 41 23)) / 100) + c 59 35) rfl (by omega) ?_
    refine v_nrm (fun y_20 hy_20 => ?_)
    refine v_is rfl rfl (by decide) (by decide) (by decide) ?_
    refine q_iconst rfl ?_
    refine v_zret rfl rfl (by omega) ?_
    have hI_21 := iw_row (a := 59) (j := 4 * a2 + 1) (v := c 59 (4 * a2 + 1) - (((c 59 (4 * a2 + 1)) * (c 48 (3 * a1))) / 10)) hIo (by omega) (Or.inl rfl) ⟨by omega, by omega, by omega⟩
    have hI_22 := iw_row (a := 59) (j := 4 * a2) (v := (((c 59 (4 * a2 + 1)) * (c 48 (3 * a1))) / 10) + c 59 (4 * a2)) hI_21 (by omega) (Or.inl rfl) ⟨by omega, by omega, by omega⟩
    have hI_23 := iw_row (a := 59) (j := 4 * a2 + 2) (v := c 59 (4 * a2 + 2) - (((c 59 (4 * a2 + 2)) * (c 48 (3 * a1 + 1))) / 10)) hI_22 (by omega) (Or.inl rfl) ⟨by omega, by omega, by omega⟩
    have hI_24 := iw_row (a := 59) (j := 4 * a2 + 1) (v := (((c 59 (4 * a2 + 2)) * (c 48 (3 * a1 + 1))) / 10) + c 59 (4 * a2 + 1) - (((c 59 (4 * a2 + 1)) * (c 48 (3 * a1))) / 10)) hI_23 (by omega) (Or.inl rfl) ⟨by omega, by omega, by omega⟩
    have hI_25 := iw_row (a := 59) (j := 4 * a2 + 3) (v := c 59 (4 * a2 + 3) - (((c 59 (4 * a2 + 3)) * (c 48 (3 * a1 + 2))) / 10)) hI_24 (by omega) (Or.inl rfl) ⟨by omega, by omega, by omega⟩
    have hI_26 := iw_row (a := 59) (j := 4 * a2 + 2) (v := (((c 59 (4 * a2 + 3)) * (c 48 (3 * a1 + 2))) / 10) + c 59 (4 * a2 + 2) - (((c 59 (4 * a2 + 2)) * (c 48 (3 * a1 + 1))) / 10)) hI_25 (by omega) (Or.inl rfl) ⟨by omega, by omega, by omega⟩
    have hI_27 := iw_row (a := 59) (j := 4 * a2) (v := (((c 59 (4 * a2 + 1)) * (c 48 (3 * a1))) / 10) + c 59 (4 * a2) - ((((((c 59 (4 * a2 + 1)) * (c 48 (3 * a1))) / 10) + c 59 (4 * a2)) * (c 41 23)) / 100)) hI_26 (by omega) (Or.inl rfl) ⟨by omega, by omega, by omega⟩
    have hI_28 := iw_row (a := 59) (j := 35) (v := y_20) hI_27 (by omega) (Or.inr (by omega)) ⟨by omega, by omega, by omega⟩
    have hr_29 : ∀ j : Int, rs 59 j → (up (up (up (up (up (up (up (up c 59 (4 * a2 + 1) (c 59 (4 * a2 + 1) - (((c 59 (4 * a2 + 1)) * (c 48 (3 * a1))) / 10))) 59 (4 * a2) ((((c 59 (4 * a2 + 1)) * (c 48 (3 * a1))) / 10) + c 59 (4 * a2))) 59 (4 * a2 + 2) (c 59 (4 * a2 + 2) - (((c 59 (4 * a2 + 2)) * (c 48 (3 * a1 + 1))) / 10))) 59 (4 * a2 + 1) ((((c 59 (4 * a2 + 2)) * (c 48 (3 * a1 + 1))) / 10) + c 59 (4 * a2 + 1) - (((c 59 (4 * a2 + 1)) * (c 48 (3 * a1))) / 10))) 59 (4 * a2 + 3) (c 59 (4 * a2 + 3) - (((c 59 (4 * a2 + 3)) * (c 48 (3 * a1 + 2))) / 10))) 59 (4 * a2 + 2) ((((c 59 (4 * a2 + 3)) * (c 48 (3 * a1 + 2))) / 10) + c 59 (4 * a2 + 2) - (((c 59 (4 * a2 + 2)) * (c 48 (3 * a1 + 1))) / 10))) 59 (4 * a2) ((((c 59 (4 * a2 + 1)) * (c 48 (3 * a1))) / 10) + c 59 (4 * a2) - ((((((c 59 (4 * a2 + 1)) * (c 48 (3 * a1))) / 10) + c 59 (4 * a2)) * (c 41 23)) / 100))) 59 35 y_20) 59 j + (up (up (up (up (up (up (up (up c 59 (4 * a2 + 1) (c 59 (4 * a2 + 1) - (((c 59 (4 * a2 + 1)) * (c 48 (3 * a1))) / 10))) 59 (4 * a2) ((((c 59 (4 * a2 + 1)) * (c 48 (3 * a1))) / 10) + c 59 (4 * a2))) 59 (4 * a2 + 2) (c 59 (4 * a2 + 2) - (((c 59 (4 * a2 + 2)) * (c 48 (3 * a1 + 1))) / 10))) 59 (4 * a2 + 1) ((((c 59 (4 * a2 + 2)) * (c 48 (3 * a1 + 1))) / 10) + c 59 (4 * a2 + 1) - (((c 59 (4 * a2 + 1)) * (c 48 (3 * a1))) / 10))) 59 (4 * a2 + 3) (c 59 (4 * a2 + 3) - (((c 59 (4 * a2 + 3)) * (c 48 (3 * a1 + 2))) / 10))) 59 (4 * a2 + 2) ((((c 59 (4 * a2 + 3)) * (c 48 (3 * a1 + 2))) / 10) + c 59 (4 * a2 + 2) - (((c 59 (4 * a2 + 2)) * (c 48 (3 * a1 + 1))) / 10))) 59 (4 * a2) ((((c 59 (4 * a2 + 1)) * (c 48 (3 * a1))) / 10) + c 59 (4 * a2) - ((((((c 59 (4 * a2 + 1)) * (c 48 (3 * a1))) / 10) + c 59 (4 * a2)) * (c 41 23)) / 100))) 59 35 y_20) 59 (j + 1) + (up (up (up (up (up (up (up (up c 59 (4 * a2 + 1) (c 59 (4 * a2 + 1) - (((c 59 (4 * a2 + 1)) * (c 48 (3 * a1))) / 10))) 59 (4 * a2) ((((c 59 (4 * a2 + 1)) * (c 48 (3 * a1))) / 10) + c 59 (4 * a2))) 59 (4 * a2 + 2) (c 59 (4 * a2 + 2) - (((c 59 (4 * a2 + 2)) * (c 48 (3 * a1 + 1))) / 10))) 59 (4 * a2 + 1) ((((c 59 (4 * a2 + 2)) * (c 48 (3 * a1 + 1))) / 10) + c 59 (4 * a2 + 1) - (((c 59 (4 * a2 + 1)) * (c 48 (3 * a1))) / 10))) 59 (4 * a2 + 3) (c 59 (4 * a2 + 3) - (((c 59 (4 * a2 + 3)) * (c 48 (3 * a1 + 2))) / 10))) 59 (4 * a2 + 2) ((((c 59 (4 * a2 + 3)) * (c 48 (3 * a1 + 2))) / 10) + c 59 (4 * a2 + 2) - (((c 59 (4 * a2 + 2)) * (c 48 (3 * a1 + 1))) / 10))) 59 (4 * a2) ((((c 59 (4 * a2 + 1)) * (c 48 (3 * a1))) / 10) + c 59 (4 * a2) - ((((((c 59 (4 * a2 + 1)) * (c 48 (3 * a1))) / 10) + c 59 (4 * a2)) * (c 41 23)) / 100))) 59 35 y_20) 59 (j + 2) + (up (up (up (up (up (up (up (up c 59 (4 * a2 + 1) (c 59 (4 * a2 + 1) - (((c 59 (4 * a2 + 1)) * (c 48 (3 * a1))) / 10))) 59 (4 * a2) ((((c 59 (4 * a2 + 1)) * (c 48 (3 * a1))) / 10) + c 59 (4 * a2))) 59 (4 * a2 + 2) (c 59 (4 * a2 + 2) - (((c 59 (4 * a2 + 2)) * (c 48 (3 * a1 + 1))) / 10))) 59 (4 * a2 + 1) ((((c 59 (4 * a2 + 2)) * (c 48 (3 * a1 + 1))) / 10) + c 59 (4 * a2 + 1) - (((c 59 (4 * a2 + 1)) * (c 48 (3 * a1))) / 10))) 59 (4 * a2 + 3) (c 59 (4 * a2 + 3) - (((c 59 (4 * a2 + 3)) * (c 48 (3 * a1 + 2))) / 10))) 59 (4 * a2 + 2) ((((c 59 (4 * a2 + 3)) * (c 48 (3 * a1 + 2))) / 10) + c 59 (4 * a2 + 2) - (((c 59 (4 * a2 + 2)) * (c 48 (3 * a1 + 1))) / 10))) 59 (4 * a2) ((((c 59 (4 * a2 + 1)) * (c 48 (3 * a1))) / 10) + c 59 (4 * a2) - ((((((c 59 (4 * a2 + 1)) * (c 48 (3 * a1))) / 10) + c 59 (4 * a2)) * (c 41 23)) / 100))) 59 35 y_20) 59 (j + 3) ≤ 9999 := by
      intro j9 hj9
      obtain ⟨k9, rfl, hk9⟩ := rs_59 hj9
      by_cases e_30 : k9 = a2
      · skip
        have h_31 : (up (up (up (up (up (up (up (up c 59 (4 * a2 + 1) (c 59 (4 * a2 + 1) - (((c 59 (4 * a2 + 1)) * (c 48 (3 * a1))) / 10))) 59 (4 * a2) ((((c 59 (4 * a2 + 1)) * (c 48 (3 * a1))) / 10) + c 59 (4 * a2))) 59 (4 * a2 + 2) (c 59 (4 * a2 + 2) - (((c 59 (4 * a2 + 2)) * (c 48 (3 * a1 + 1))) / 10))) 59 (4 * a2 + 1) ((((c 59 (4 * a2 + 2)) * (c 48 (3 * a1 + 1))) / 10) + c 59 (4 * a2 + 1) - (((c 59 (4 * a2 + 1)) * (c 48 (3 * a1))) / 10))) 59 (4 * a2 + 3) (c 59 (4 * a2 + 3) - (((c 59 (4 * a2 + 3)) * (c 48 (3 * a1 + 2))) / 10))) 59 (4 * a2 + 2) ((((c 59 (4 * a2 + 3)) * (c 48 (3 * a1 + 2))) / 10) + c 59 (4 * a2 + 2) - (((c 59 (4 * a2 + 2)) * (c 48 (3 * a1 + 1))) / 10))) 59 (4 * a2) ((((c 59 (4 * a2 + 1)) * (c 48 (3 * a1))) / 10) + c 59 (4 * a2) - ((((((c 59 (4 * a2 + 1)) * (c 48 (3 * a1))) / 10) + c 59 (4 * a2)) * (c 41 23)) / 100))) 59 35 y_20) 59 (4 * k9) = (((c 59 (4 * a2 + 1)) * (c 48 (3 * a1))) / 10) + c 59 (4 * a2) - ((((((c 59 (4 * a2 + 1)) * (c 48 (3 * a1))) / 10) + c 59 (4 * a2)) * (c 41 23)) / 100) := (congrArg ((up (up (up (up (up (up (up (up c 59 (4 * a2 + 1) (c 59 (4 * a2 + 1) - (((c 59 (4 * a2 + 1)) * (c 48 (3 * a1))) / 10))) 59 (4 * a2) ((((c 59 (4 * a2 + 1)) * (c 48 (3 * a1))) / 10) + c 59 (4 * a2))) 59 (4 * a2 + 2) (c 59 (4 * a2 + 2) - (((c 59 (4 * a2 + 2)) * (c 48 (3 * a1 + 1))) / 10))) 59 (4 * a2 + 1) ((((c 59 (4 * a2 + 2)) * (c 48 (3 * a1 + 1))) / 10) + c 59 (4 * a2 + 1) - (((c 59 (4 * a2 + 1)) * (c 48 (3 * a1))) / 10))) 59 (4 * a2 + 3) (c 59 (4 * a2 + 3) - (((c 59 (4 * a2 + 3)) * (c 48 (3 * a1 + 2))) / 10))) 59 (4 * a2 + 2) ((((c 59 (4 * a2 + 3)) * (c 48 (3 * a1 + 2))) / 10) + c 59 (4 * a2 + 2) - (((c 59 (4 * a2 + 2)) * (c 48 (3 * a1 + 1))) / 10))) 59 (4 * a2) ((((c 59 (4 * a2 + 1)) * (c 48 (3 * a1))) / 10) + c 59 (4 * a2) - ((((((c 59 (4 * a2 + 1)) * (c 48 (3 * a1))) / 10) + c 59 (4 * a2)) * (c 41 23)) / 100))) 59 35 y_20) 59) (show 4 * k9 = 4 * a2 from by omega)).trans ((up_n (by omega)).trans (up_e rfl))
        have h_32 : (up (up (up (up (up (up (up (up c 59 (4 * a2 + 1) (c 59 (4 * a2 + 1) - (((c 59 (4 * a2 + 1)) * (c 48 (3 * a1))) / 10))) 59 (4 * a2) ((((c 59 (4 * a2 + 1)) * (c 48 (3 * a1))) / 10) + c 59 (4 * a2))) 59 (4 * a2 + 2) (c 59 (4 * a2 + 2) - (((c 59 (4 * a2 + 2)) * (c 48 (3 * a1 + 1))) / 10))) 59 (4 * a2 + 1) ((((c 59 (4 * a2 + 2)) * (c 48 (3 * a1 + 1))) / 10) + c 59 (4 * a2 + 1) - (((c 59 (4 * a2 + 1)) * (c 48 (3 * a1))) / 10))) 59 (4 * a2 + 3) (c 59 (4 * a2 + 3) - (((c 59 (4 * a2 + 3)) * (c 48 (3 * a1 + 2))) / 10))) 59 (4 * a2 + 2) ((((c 59 (4 * a2 + 3)) * (c 48 (3 * a1 + 2))) / 10) + c 59 (4 * a2 + 2) - (((c 59 (4 * a2 + 2)) * (c 48 (3 * a1 + 1))) / 10))) 59 (4 * a2) ((((c 59 (4 * a2 + 1)) * (c 48 (3 * a1))) / 10) + c 59 (4 * a2) - ((((((c 59 (4 * a2 + 1)) * (c 48 (3 * a1))) / 10) + c 59 (4 * a2)) * (c 41 23)) / 100))) 59 35 y_20) 59 (4 * k9 + 1) = (((c 59 (4 * a2 + 2)) * (c 48 (3 * a1 + 1))) / 10) + c 59 (4 * a2 + 1) - (((c 59 (4 * a2 + 1)) * (c 48 (3 * a1))) / 10) := (congrArg ((up (up (up (up (up (up (up (up c 59 (4 * a2 + 1) (c 59 (4 * a2 + 1) - (((c 59 (4 * a2 + 1)) * (c 48 (3 * a1))) / 10))) 59 (4 * a2) ((((c 59 (4 * a2 + 1)) * (c 48 (3 * a1))) / 10) + c 59 (4 * a2))) 59 (4 * a2 + 2) (c 59 (4 * a2 + 2) - (((c 59 (4 * a2 + 2)) * (c 48 (3 * a1 + 1))) / 10))) 59 (4 * a2 + 1) ((((c 59 (4 * a2 + 2)) * (c 48 (3 * a1 + 1))) / 10) + c 59 (4 * a2 + 1) - (((c 59 (4 * a2 + 1)) * (c 48 (3 * a1))) / 10))) 59 (4 * a2 + 3) (c 59 (4 * a2 + 3) - (((c 59 (4 * a2 + 3)) * (c 48 (3 * a1 + 2))) / 10))) 59 (4 * a2 + 2) ((((c 59 (4 * a2 + 3)) * (c 48 (3 * a1 + 2))) / 10) + c 59 (4 * a2 + 2) - (((c 59 (4 * a2 + 2)) * (c 48 (3 * a1 + 1))) / 10))) 59 (4 * a2) ((((c 59 (4 * a2 + 1)) * (c 48 (3 * a1))) / 10) + c 59 (4 * a2) - ((((((c 59 (4 * a2 + 1)) * (c 48 (3 * a1))) / 10) + c 59 (4 * a2)) * (c 41 23)) / 100))) 59 35 y_20) 59) (show 4 * k9 + 1 = 4 * a2 + 1 from by omega)).trans ((up_n (by omega)).trans ((up_n (by omega)).trans ((up_n (by omega)).trans ((up_n (by omega)).trans (up_e rfl)))))
        have h_33 : (up (up (up (up (up (up (up (up c 59 (4 * a2 + 1) (c 59 (4 * a2 + 1) - (((c 59 (4 * a2 + 1)) * (c 48 (3 * a1))) / 10))) 59 (4 * a2) ((((c 59 (4 * a2 + 1)) * (c 48 (3 * a1))) / 10) + c 59 (4 * a2))) 59 (4 * a2 + 2) (c 59 (4 * a2 + 2) - (((c 59 (4 * a2 + 2)) * (c 48 (3 * a1 + 1))) / 10))) 59 (4 * a2 + 1) ((((c 59 (4 * a2 + 2)) * (c 48 (3 * a1 + 1))) / 10) + c 59 (4 * a2 + 1) - (((c 59 (4 * a2 + 1)) * (c 48 (3 * a1))) / 10))) 59 (4 * a2 + 3) (c 59 (4 * a2 + 3) - (((c 59 (4 * a2 + 3)) * (c 48 (3 * a1 + 2))) / 10))) 59 (4 * a2 + 2) ((((c 59 (4 * a2 + 3)) * (c 48 (3 * a1 + 2))) / 10) + c 59 (4 * a2 + 2) - (((c 59 (4 * a2 + 2)) * (c 48 (3 * a1 + 1))) / 10))) 59 (4 * a2) ((((c 59 (4 * a2 + 1)) * (c 48 (3 * a1))) / 10) + c 59 (4 * a2) - ((((((c 59 (4 * a2 + 1)) * (c 48 (3 * a1))) / 10) + c 59 (4 * a2)) * (c 41 23)) / 100))) 59 35 y_20) 59 (4 * k9 + 2) = (((c 59 (4 * a2 + 3)) * (c 48 (3 * a1 + 2))) / 10) + c 59 (4 * a2 + 2) - (((c 59 (4 * a2 + 2)) * (c 48 (3 * a1 + 1))) / 10) := (congrArg ((up (up (up (up (up (up (up (up c 59 (4 * a2 + 1) (c 59 (4 * a2 + 1) - (((c 59 (4 * a2 + 1)) * (c 48 (3 * a1))) / 10))) 59 (4 * a2) ((((c 59 (4 * a2 + 1)) * (c 48 (3 * a1))) / 10) + c 59 (4 * a2))) 59 (4 * a2 + 2) (c 59 (4 * a2 + 2) - (((c 59 (4 * a2 + 2)) * (c 48 (3 * a1 + 1))) / 10))) 59 (4 * a2 + 1) ((((c 59 (4 * a2 + 2)) * (c 48 (3 * a1 + 1))) / 10) + c 59 (4 * a2 + 1) - (((c 59 (4 * a2 + 1)) * (c 48 (3 * a1))) / 10))) 59 (4 * a2 + 3) (c 59 (4 * a2 + 3) - (((c 59 (4 * a2 + 3)) * (c 48 (3 * a1 + 2))) / 10))) 59 (4 * a2 + 2) ((((c 59 (4 * a2 + 3)) * (c 48 (3 * a1 + 2))) / 10) + c 59 (4 * a2 + 2) - (((c 59 (4 * a2 + 2)) * (c 48 (3 * a1 + 1))) / 10))) 59 (4 * a2) ((((c 59 (4 * a2 + 1)) * (c 48 (3 * a1))) / 10) + c 59 (4 * a2) - ((((((c 59 (4 * a2 + 1)) * (c 48 (3 * a1))) / 10) + c 59 (4 * a2)) * (c 41 23)) / 100))) 59 35 y_20) 59) (show 4 * k9 + 2 = 4 * a2 + 2 from by omega)).trans ((up_n (by omega)).trans ((up_n (by omega)).trans (up_e rfl)))
        have h_34 : (up (up (up (up (up (up (up (up c 59 (4 * a2 + 1) (c 59 (4 * a2 + 1) - (((c 59 (4 * a2 + 1)) * (c 48 (3 * a1))) / 10))) 59 (4 * a2) ((((c 59 (4 * a2 + 1)) * (c 48 (3 * a1))) / 10) + c 59 (4 * a2))) 59 (4 * a2 + 2) (c 59 (4 * a2 + 2) - (((c 59 (4 * a2 + 2)) * (c 48 (3 * a1 + 1))) / 10))) 59 (4 * a2 + 1) ((((c 59 (4 * a2 + 2)) * (c 48 (3 * a1 + 1))) / 10) + c 59 (4 * a2 + 1) - (((c 59 (4 * a2 + 1)) * (c 48 (3 * a1))) / 10))) 59 (4 * a2 + 3) (c 59 (4 * a2 + 3) - (((c 59 (4 * a2 + 3)) * (c 48 (3 * a1 + 2))) / 10))) 59 (4 * a2 + 2) ((((c 59 (4 * a2 + 3)) * (c 48 (3 * a1 + 2))) / 10) + c 59 (4 * a2 + 2) - (((c 59 (4 * a2 + 2)) * (c 48 (3 * a1 + 1))) / 10))) 59 (4 * a2) ((((c 59 (4 * a2 + 1)) * (c 48 (3 * a1))) / 10) + c 59 (4 * a2) - ((((((c 59 (4 * a2 + 1)) * (c 48 (3 * a1))) / 10) + c 59 (4 * a2)) * (c 41 23)) / 100))) 59 35 y_20) 59 (4 * k9 + 3) = c 59 (4 * a2 + 3) - (((c 59 (4 * a2 + 3)) * (c 48 (3 * a1 + 2))) / 10) := (congrArg ((up (up (up (up (up (up (up (up c 59 (4 * a2 + 1) (c 59 (4 * a2 + 1) - (((c 59 (4 * a2 + 1)) * (c 48 (3 * a1))) / 10))) 59 (4 * a2) ((((c 59 (4 * a2 + 1)) * (c 48 (3 * a1))) / 10) + c 59 (4 * a2))) 59 (4 * a2 + 2) (c 59 (4 * a2 + 2) - (((c 59 (4 * a2 + 2)) * (c 48 (3 * a1 + 1))) / 10))) 59 (4 * a2 + 1) ((((c 59 (4 * a2 + 2)) * (c 48 (3 * a1 + 1))) / 10) + c 59 (4 * a2 + 1) - (((c 59 (4 * a2 + 1)) * (c 48 (3 * a1))) / 10))) 59 (4 * a2 + 3) (c 59 (4 * a2 + 3) - (((c 59 (4 * a2 + 3)) * (c 48 (3 * a1 + 2))) / 10))) 59 (4 * a2 + 2) ((((c 59 (4 * a2 + 3)) * (c 48 (3 * a1 + 2))) / 10) + c 59 (4 * a2 + 2) - (((c 59 (4 * a2 + 2)) * (c 48 (3 * a1 + 1))) / 10))) 59 (4 * a2) ((((c 59 (4 * a2 + 1)) * (c 48 (3 * a1))) / 10) + c 59 (4 * a2) - ((((((c 59 (4 * a2 + 1)) * (c 48 (3 * a1))) / 10) + c 59 (4 * a2)) * (c 41 23)) / 100))) 59 35 y_20) 59) (show 4 * k9 + 3 = 4 * a2 + 3 from by omega)).trans ((up_n (by omega)).trans ((up_n (by omega)).trans ((up_n (by omega)).trans (up_e rfl))))
        omega
      have h_35 := iv_r hI 59 (4 * k9) hj9 (by omega)
      have h_36 := ir_59_g hI (j := 4 * k9) (by omega)
      have h_37 : (up (up (up (up (up (up (up (up c 59 (4 * a2 + 1) (c 59 (4 * a2 + 1) - (((c 59 (4 * a2 + 1)) * (c 48 (3 * a1))) / 10))) 59 (4 * a2) ((((c 59 (4 * a2 + 1)) * (c 48 (3 * a1))) / 10) + c 59 (4 * a2))) 59 (4 * a2 + 2) (c 59 (4 * a2 + 2) - (((c 59 (4 * a2 + 2)) * (c 48 (3 * a1 + 1))) / 10))) 59 (4 * a2 + 1) ((((c 59 (4 * a2 + 2)) * (c 48 (3 * a1 + 1))) / 10) + c 59 (4 * a2 + 1) - (((c 59 (4 * a2 + 1)) * (c 48 (3 * a1))) / 10))) 59 (4 * a2 + 3) (c 59 (4 * a2 + 3) - (((c 59 (4 * a2 + 3)) * (c 48 (3 * a1 + 2))) / 10))) 59 (4 * a2 + 2) ((((c 59 (4 * a2 + 3)) * (c 48 (3 * a1 + 2))) / 10) + c 59 (4 * a2 + 2) - (((c 59 (4 * a2 + 2)) * (c 48 (3 * a1 + 1))) / 10))) 59 (4 * a2) ((((c 59 (4 * a2 + 1)) * (c 48 (3 * a1))) / 10) + c 59 (4 * a2) - ((((((c 59 (4 * a2 + 1)) * (c 48 (3 * a1))) / 10) + c 59 (4 * a2)) * (c 41 23)) / 100))) 59 35 y_20) 59 (4 * k9) = c 59 (4 * k9) := ((up_n (by omega)).trans ((up_n (by omega)).trans ((up_n (by omega)).trans ((up_n (by omega)).trans ((up_n (by omega)).trans ((up_n (by omega)).trans ((up_n (by omega)).trans (up_n (by omega)))))))))
      have h_38 := ir_59_g hI (j := 4 * k9 + 1) (by omega)
      have h_39 : (up (up (up (up (up (up (up (up c 59 (4 * a2 + 1) (c 59 (4 * a2 + 1) - (((c 59 (4 * a2 + 1)) * (c 48 (3 * a1))) / 10))) 59 (4 * a2) ((((c 59 (4 * a2 + 1)) * (c 48 (3 * a1))) / 10) + c 59 (4 * a2))) 59 (4 * a2 + 2) (c 59 (4 * a2 + 2) - (((c 59 (4 * a2 + 2)) * (c 48 (3 * a1 + 1))) / 10))) 59 (4 * a2 + 1) ((((c 59 (4 * a2 + 2)) * (c 48 (3 * a1 + 1))) / 10) + c 59 (4 * a2 + 1) - (((c 59 (4 * a2 + 1)) * (c 48 (3 * a1))) / 10))) 59 (4 * a2 + 3) (c 59 (4 * a2 + 3) - (((c 59 (4 * a2 + 3)) * (c 48 (3 * a1 + 2))) / 10))) 59 (4 * a2 + 2) ((((c 59 (4 * a2 + 3)) * (c 48 (3 * a1 + 2))) / 10) + c 59 (4 * a2 + 2) - (((c 59 (4 * a2 + 2)) * (c 48 (3 * a1 + 1))) / 10))) 59 (4 * a2) ((((c 59 (4 * a2 + 1)) * (c 48 (3 * a1))) / 10) + c 59 (4 * a2) - ((((((c 59 (4 * a2 + 1)) * (c 48 (3 * a1))) / 10) + c 59 (4 * a2)) * (c 41 23)) / 100))) 59 35 y_20) 59 (4 * k9 + 1) = c 59 (4 * k9 + 1) := ((up_n (by omega)).trans ((up_n (by omega)).trans ((up_n (by omega)).trans ((up_n (by omega)).trans ((up_n (by omega)).trans ((up_n (by omega)).trans ((up_n (by omega)).trans (up_n (by omega)))))))))
      have h_40 := ir_59_g hI (j := 4 * k9 + 2) (by omega)
      have h_41 : (up (up (up (up (up (up (up (up c 59 (4 * a2 + 1) (c 59 (4 * a2 + 1) - (((c 59 (4 * a2 + 1)) * (c 48 (3 * a1))) / 10))) 59 (4 * a2) ((((c 59 (4 * a2 + 1)) * (c 48 (3 * a1))) / 10) + c 59 (4 * a2))) 59 (4 * a2 + 2) (c 59 (4 * a2 + 2) - (((c 59 (4 * a2 + 2)) * (c 48 (3 * a1 + 1))) / 10))) 59 (4 * a2 + 1) ((((c 59 (4 * a2 + 2)) * (c 48 (3 * a1 + 1))) / 10) + c 59 (4 * a2 + 1) - (((c 59 (4 * a2 + 1)) * (c 48 (3 * a1))) / 10))) 59 (4 * a2 + 3) (c 59 (4 * a2 + 3) - (((c 59 (4 * a2 + 3)) * (c 48 (3 * a1 + 2))) / 10))) 59 (4 * a2 + 2) ((((c 59 (4 * a2 + 3)) * (c 48 (3 * a1 + 2))) / 10) + c 59 (4 * a2 + 2) - (((c 59 (4 * a2 + 2)) * (c 48 (3 * a1 + 1))) / 10))) 59 (4 * a2) ((((c 59 (4 * a2 + 1)) * (c 48 (3 * a1))) / 10) + c 59 (4 * a2) - ((((((c 59 (4 * a2 + 1)) * (c 48 (3 * a1))) / 10) + c 59 (4 * a2)) * (c 41 23)) / 100))) 59 35 y_20) 59 (4 * k9 + 2) = c 59 (4 * k9 + 2) := ((up_n (by omega)).trans ((up_n (by omega)).trans ((up_n (by omega)).trans ((up_n (by omega)).trans ((up_n (by omega)).trans ((up_n (by omega)).trans ((up_n (by omega)).trans (up_n (by omega)))))))))
      have h_42 := ir_59_g hI (j := 4 * k9 + 3) (by omega)
      have h_43 : (up (up (up (up (up (up (up (up c 59 (4 * a2 + 1) (c 59 (4 * a2 + 1) - (((c 59 (4 * a2 + 1)) * (c 48 (3 * a1))) / 10))) 59 (4 * a2) ((((c 59 (4 * a2 + 1)) * (c 48 (3 * a1))) / 10) + c 59 (4 * a2))) 59 (4 * a2 + 2) (c 59 (4 * a2 + 2) - (((c 59 (4 * a2 + 2)) * (c 48 (3 * a1 + 1))) / 10))) 59 (4 * a2 + 1) ((((c 59 (4 * a2 + 2)) * (c 48 (3 * a1 + 1))) / 10) + c 59 (4 * a2 + 1) - (((c 59 (4 * a2 + 1)) * (c 48 (3 * a1))) / 10))) 59 (4 * a2 + 3) (c 59 (4 * a2 + 3) - (((c 59 (4 * a2 + 3)) * (c 48 (3 * a1 + 2))) / 10))) 59 (4 * a2 + 2) ((((c 59 (4 * a2 + 3)) * (c 48 (3 * a1 + 2))) / 10) + c 59 (4 * a2 + 2) - (((c 59 (4 * a2 + 2)) * (c 48 (3 * a1 + 1))) / 10))) 59 (4 * a2) ((((c 59 (4 * a2 + 1)) * (c 48 (3 * a1))) / 10) + c 59 (4 * a2) - ((((((c 59 (4 * a2 + 1)) * (c 48 (3 * a1))) / 10) + c 59 (4 * a2)) * (c 41 23)) / 100))) 59 35 y_20) 59 (4 * k9 + 3) = c 59 (4 * k9 + 3) := ((up_n (by omega)).trans ((up_n (by omega)).trans ((up_n (by omega)).trans ((up_n (by omega)).trans ((up_n (by omega)).trans ((up_n (by omega)).trans ((up_n (by omega)).trans (up_n (by omega)))))))))
      omega
    have hI_44 := iv_close hI_28 hr_29
    exact K (up (up (up (up (up (up (up (up c 59 (4 * a2 + 1) (c 59 (4 * a2 + 1) - (((c 59 (4 * a2 + 1)) * (c 48 (3 * a1))) / 10))) 59 (4 * a2) ((((c 59 (4 * a2 + 1)) * (c 48 (3 * a1))) / 10) + c 59 (4 * a2))) 59 (4 * a2 + 2) (c 59 (4 * a2 + 2) - (((c 59 (4 * a2 + 2)) * (c 48 (3 * a1 + 1))) / 10))) 59 (4 * a2 + 1) ((((c 59 (4 * a2 + 2)) * (c 48 (3 * a1 + 1))) / 10) + c 59 (4 * a2 + 1) - (((c 59 (4 * a2 + 1)) * (c 48 (3 * a1))) / 10))) 59 (4 * a2 + 3) (c 59 (4 * a2 + 3) - (((c 59 (4 * a2 + 3)) * (c 48 (3 * a1 + 2))) / 10))) 59 (4 * a2 + 2) ((((c 59 (4 * a2 + 3)) * (c 48 (3 * a1 + 2))) / 10) + c 59 (4 * a2 + 2) - (((c 59 (4 * a2 + 2)) * (c 48 (3 * a1 + 1))) / 10))) 59 (4 * a2) ((((c 59 (4 * a2 + 1)) * (c 48 (3 * a1))) / 10) + c 59 (4 * a2) - ((((((c 59 (4 * a2 + 1)) * (c 48 (3 * a1))) / 10) + c 59 (4 * a2)) * (c 41 23)) / 100))) 59 35 y_20) 1 hI_44 (fun a j hm => (up_b (by omega)).trans ((up_b (by omega)).trans ((up_b (by omega)).trans ((up_b (by omega)).trans ((up_b (by omega)).trans ((up_b (by omega)).trans ((up_b (by omega)).trans (up_b (by omega))))))))) ⟨by decide, by decide⟩
  · refine v_if_ne_f (t := 10) rfl (by decide) (by omega) ?_
    refine q_iconst rfl ?_
    refine v_zret rfl rfl (by omega) ?_
    have hr_45 : ∀ j : Int, rs 59 j → c 59 j + c 59 (j + 1) + c 59 (j + 2) + c 59 (j + 3) ≤ 9999 := by
      intro j9 hj9
      obtain ⟨k9, rfl, hk9⟩ := rs_59 hj9
      by_cases e_46 : k9 = a2
      · skip
        have h_47 : c 59 (4 * k9) = c 59 (4 * a2) := (congrArg (c 59) (show 4 * k9 = 4 * a2 from by omega))
        have h_48 : c 59 (4 * k9 + 1) = c 59 (4 * a2 + 1) := (congrArg (c 59) (show 4 * k9 + 1 = 4 * a2 + 1 from by omega))
        have h_49 : c 59 (4 * k9 + 2) = c 59 (4 * a2 + 2) := (congrArg (c 59) (show 4 * k9 + 2 = 4 * a2 + 2 from by omega))
        have h_50 : c 59 (4 * k9 + 3) = c 59 (4 * a2 + 3) := (congrArg (c 59) (show 4 * k9 + 3 = 4 * a2 + 3 from by omega))
        omega
      have h_51 := iv_r hI 59 (4 * k9) hj9 (by omega)
      have h_52 := ir_59_g hI (j := 4 * k9) (by omega)
      have h_53 : c 59 (4 * k9) = c 59 (4 * k9) := rfl
      have h_54 := ir_59_g hI (j := 4 * k9 + 1) (by omega)
      have h_55 : c 59 (4 * k9 + 1) = c 59 (4 * k9 + 1) := rfl
      have h_56 := ir_59_g hI (j := 4 * k9 + 2) (by omega)
      have h_57 : c 59 (4 * k9 + 2) = c 59 (4 * k9 + 2) := rfl
      have h_58 := ir_59_g hI (j := 4 * k9 + 3) (by omega)
      have h_59 : c 59 (4 * k9 + 3) = c 59 (4 * k9 + 3) := rfl
      omega
    have hI_60 := iv_close hIo hr_45
    exact K c 0 hI_60 (fun a j hm => rfl) ⟨by decide, by decide⟩

set_option maxRecDepth 100000 in
set_option maxHeartbeats 4000000 in
theorem s_189 {sc : List Int32} {e : Int} {d u P Q : Nat} {c : ME} {v1 v2 v3 r : Int} {a1 : Int} {a2 : Int} {a3 : Int} {Z : AR → Prop} (hI : Iv u e P Q c) (ha1 : 0 ≤ a1 ∧ a1 ≤ 3) (ha2 : 0 ≤ a2 ∧ a2 ≤ 5) (ha3 : 0 ≤ a3 ∧ a3 ≤ 3) (hv0 : c 49 a1 = v1) (hv1 : c 59 (a1 + 30) = v2) (hv2 : c 59 (4 * a2 + a3) = v3) (hr9 : fal v1 (v2) a3 v3 = r) (K : Z (.inl (some (vi r)), Wd P Q P P c, 0, 0)) : Wp sc (d + 7) 189 0 [(0, .ref 41), (1, vi a1), (2, vi a2), (3, vi a3)] [] (Wd P Q P P c) 0 0 Z := by
  have hP := iv_P hI
  have hQ := iv_Q hI
  have h_1 := ir_49 hI a1
  have h_2 := ir_59 hI (a1 + 30)
  have h_3 := ir_59_g hI (j := 4 * a2 + a3) (by omega)
  refine q_iload_n rfl rfl ?_
  refine q_aload_n rfl rfl ?_
  refine v_gr (t := 49) rfl rfl rfl (by decide) rfl ?_
  refine q_iload_n rfl rfl ?_
  refine v_ia (v := v1) rfl rfl (by decide) (by decide) (by omega) (hv0) ?_
  by_cases h_4 : a3 > v1
  · refine v_ic_gt_t (t := 23) rfl (by decide) (by omega) ?_
    refine q_iload_n rfl rfl ?_
    refine q_aload_n rfl rfl ?_
    refine v_gr (t := 49) rfl rfl rfl (by decide) rfl ?_
    refine q_iload_n rfl rfl ?_
    refine v_ia (v := v1) rfl rfl (by decide) (by decide) (by omega) (hv0) ?_
    refine q_iconst rfl ?_
    refine v_iadd (v := v1 + 1) rfl (by omega) ?_
    by_cases h_5 : a3 ≠ v1 + 1
    · refine v_ic_ne_t (t := 63) rfl (by decide) (by omega) ?_
      refine q_iconst rfl ?_
      refine q_iret rfl rfl ?_
      exact zv (by rw [← hr9]; unfold fal; split <;> first | omega | (split <;> omega)) (K)
    · refine v_ic_ne_f (t := 63) rfl (by decide) (by omega) ?_
      refine q_aload_n rfl rfl ?_
      refine v_gr (t := 59) rfl rfl rfl (by decide) rfl ?_
      refine v_bip rfl (by decide) ?_
      refine q_iload_n rfl rfl ?_
      refine v_iadd (v := a1 + 30) rfl (by omega) ?_
      refine v_ia (v := v2) rfl rfl (by decide) (by decide) (by omega) (hv1) ?_
      refine q_iconst rfl ?_
      by_cases h_6 : v2 ≠ 1
      · refine v_ic_ne_t (t := 63) rfl (by decide) (by omega) ?_
        refine q_iconst rfl ?_
        refine q_iret rfl rfl ?_
        exact zv (by rw [← hr9]; unfold fal; split <;> first | omega | (split <;> omega)) (K)
      · refine v_ic_ne_f (t := 63) rfl (by decide) (by omega) ?_
        refine q_aload_n rfl rfl ?_
        refine v_gr (t := 59) rfl rfl rfl (by decide) rfl ?_
        refine q_iconst rfl ?_
        refine q_iload_n rfl rfl ?_
        refine v_imul (v := 4 * a2) rfl (by omega) ?_
        refine q_iload_n rfl rfl ?_
        refine v_iadd (v := 4 * a2 + a3) rfl (by omega) ?_
        refine v_ia (v := v3) rfl rfl (by decide) (by decide) (by omega) (hv2) ?_
        refine q_iconst rfl ?_
        refine v_idiv (v := (v3 / 2)) rfl (by omega) rfl ?_
        refine q_goto (t := 64) rfl (by decide) ?_
        refine q_iret rfl rfl ?_
        exact zv (by rw [← hr9]; unfold fal; split <;> first | omega | (split <;> omega)) (K)
  · refine v_ic_gt_f (t := 23) rfl (by decide) (by omega) ?_
    refine q_aload_n rfl rfl ?_
    refine v_gr (t := 59) rfl rfl rfl (by decide) rfl ?_
    refine q_iconst rfl ?_
    refine q_iload_n rfl rfl ?_
    refine v_imul (v := 4 * a2) rfl (by omega) ?_
    refine q_iload_n rfl rfl ?_
    refine v_iadd (v := 4 * a2 + a3) rfl (by omega) ?_
    refine v_ia (v := v3) rfl rfl (by decide) (by decide) (by omega) (hv2) ?_
    refine q_goto (t := 64) rfl (by decide) ?_
    refine q_iret rfl rfl ?_
    exact zv (by rw [← hr9]; unfold fal; split <;> first | omega | (split <;> omega)) (K)

set_option maxRecDepth 100000 in
set_option maxHeartbeats 4000000 in
theorem s_190 {sc : List Int32} {e : Int} {d u P Q : Nat} {c : ME} {v1 v2 v3 v4 v5 v6 r : Int} {a1 : Int} {a2 : Int} {Z : AR → Prop} (hI : Iv u e P Q c) (ha1 : 0 ≤ a1 ∧ a1 ≤ 3) (ha2 : 0 ≤ a2 ∧ a2 ≤ 5) (hv0 : c 49 a1 = v1) (hv1 : c 59 (a1 + 30) = v2) (hv2 : c 59 (4 * a2) = v3) (hv3 : c 59 (4 * a2 + 1) = v4) (hv4 : c 59 (4 * a2 + 2) = v5) (hv5 : c 59 (4 * a2 + 3) = v6) (hr9 : fal v1 (v2) 0 v3 + fal v1 (v2) 1 v4 + fal v1 (v2) 2 v5 + fal v1 (v2) 3 v6 = r) (K : Z (.inl (some (vi r)), Wd P Q P P c, 0, 0)) : Wp sc (d + 8) 190 0 [(0, .ref 41), (1, vi a1), (2, vi a2)] [] (Wd P Q P P c) 0 0 Z := by
  have hP := iv_P hI
  have hQ := iv_Q hI
  have h_1 := ir_49 hI a1
  have h_2 := ir_59 hI (a1 + 30)
  have h_3 := ir_59_g hI (j := 4 * a2) (by omega)
  have h_4 := ir_59_g hI (j := 4 * a2 + 1) (by omega)
  have h_5 := ir_59_g hI (j := 4 * a2 + 2) (by omega)
  have h_6 := ir_59_g hI (j := 4 * a2 + 3) (by omega)
  refine q_iconst rfl ?_
  refine q_istore_n rfl (by decide) ?_
  refine q_iconst rfl ?_
  refine q_istore rfl (by decide) ?_
  refine q_iload rfl rfl ?_
  refine q_iconst rfl ?_
  refine v_ic_ge_f (t := 28) rfl (by decide) (by decide) ?_
  refine q_iload_n rfl rfl ?_
  refine q_aload_n rfl rfl ?_
  refine q_iload_n rfl rfl ?_
  refine q_iload_n rfl rfl ?_
  refine q_iload rfl rfl ?_
  have h_7 := fal_rng (m := v1) (t := v2) (g := 0) (x := v3) (by omega)
  refine v_cv rfl rfl rfl rfl (by decide) ⟨⟨rfl, rfl⟩, by decide, rfl⟩ (Nat.le_of_ble_eq_true rfl) (Nat.le_of_ble_eq_true rfl) (s_189 (v1 := v1) (v2 := v2) (v3 := v3) (r := (fal v1 (v2) 0 v3)) (a1 := a1) (a2 := a2) (a3 := 0) hI (show 0 ≤ a1 ∧ a1 ≤ 3 from by omega) (show 0 ≤ a2 ∧ a2 ≤ 5 from by omega) (show 0 ≤ 0 ∧ 0 ≤ 3 from by omega) ((hv0)) ((hv1)) ((congrArg (c 59) (show 4 * a2 + 0 = 4 * a2 from by omega)).trans (hv2)) rfl ?_)
  refine bk_inl ?_
  refine v_iadd (v := (fal v1 (v2) 0 v3)) rfl (by omega) ?_
  refine q_istore_n rfl (by decide) ?_
  refine v_iinc (v := 1) rfl rfl (by decide) (by decide) ?_
  refine q_goto (t := 5) rfl (by decide) ?_
  refine q_iload rfl rfl ?_
  refine q_iconst rfl ?_
  refine v_ic_ge_f (t := 28) rfl (by decide) (by decide) ?_
  refine q_iload_n rfl rfl ?_
  refine q_aload_n rfl rfl ?_
  refine q_iload_n rfl rfl ?_
  refine q_iload_n rfl rfl ?_
  refine q_iload rfl rfl ?_
  have h_8 := fal_rng (m := v1) (t := v2) (g := 1) (x := v4) (by omega)
  refine v_cv rfl rfl rfl rfl (by decide) ⟨⟨rfl, rfl⟩, by decide, rfl⟩ (Nat.le_of_ble_eq_true rfl) (Nat.le_of_ble_eq_true rfl) (s_189 (v1 := v1) (v2 := v2) (v3 := v4) (r := (fal v1 (v2) 1 v4)) (a1 := a1) (a2 := a2) (a3 := 1) hI (show 0 ≤ a1 ∧ a1 ≤ 3 from by omega) (show 0 ≤ a2 ∧ a2 ≤ 5 from by omega) (show 0 ≤ 1 ∧ 1 ≤ 3 from by omega) ((hv0)) ((hv1)) ((hv3)) rfl ?_)
  refine bk_inl ?_
  refine v_iadd (v := (fal v1 (v2) 0 v3) + (fal v1 (v2) 1 v4)) rfl (by omega) ?_
  refine q_istore_n rfl (by decide) ?_
  refine Wp_ls [(3, vi ((fal v1 (v2) 0 v3) + (fal v1 (v2) 1 v4))), (4, vi 1), (0, .ref 41), (1, vi a1), (2, vi a2)] (lsub_cons rfl (lsub_cons rfl (lsub_cons rfl (lsub_cons rfl (lsub_cons rfl lsub_nil))))) ?_
  refine v_iinc (v := 2) rfl rfl (by decide) (by decide) ?_
  refine q_goto (t := 5) rfl (by decide) ?_
  refine q_iload rfl rfl ?_
  refine q_iconst rfl ?_
  refine v_ic_ge_f (t := 28) rfl (by decide) (by decide) ?_
  refine q_iload_n rfl rfl ?_
  refine q_aload_n rfl rfl ?_
  refine q_iload_n rfl rfl ?_
  refine q_iload_n rfl rfl ?_
  refine q_iload rfl rfl ?_
  have h_9 := fal_rng (m := v1) (t := v2) (g := 2) (x := v5) (by omega)
  refine v_cv rfl rfl rfl rfl (by decide) ⟨⟨rfl, rfl⟩, by decide, rfl⟩ (Nat.le_of_ble_eq_true rfl) (Nat.le_of_ble_eq_true rfl) (s_189 (v1 := v1) (v2 := v2) (v3 := v5) (r := (fal v1 (v2) 2 v5)) (a1 := a1) (a2 := a2) (a3 := 2) hI (show 0 ≤ a1 ∧ a1 ≤ 3 from by omega) (show 0 ≤ a2 ∧ a2 ≤ 5 from by omega) (show 0 ≤ 2 ∧ 2 ≤ 3 from by omega) ((hv0)) ((hv1)) ((hv4)) rfl ?_)
  refine bk_inl ?_
  refine v_iadd (v := (fal v1 (v2) 0 v3) + (fal v1 (v2) 1 v4) + (fal v1 (v2) 2 v5)) rfl (by omega) ?_
  refine q_istore_n rfl (by decide) ?_
  refine v_iinc (v := 3) rfl rfl (by decide) (by decide) ?_
  refine q_goto (t := 5) rfl (by decide) ?_
  refine q_iload rfl rfl ?_
  refine q_iconst rfl ?_
  refine v_ic_ge_f (t := 28) rfl (by decide) (by decide) ?_
  refine q_iload_n rfl rfl ?_
  refine q_aload_n rfl rfl ?_
  refine q_iload_n rfl rfl ?_
  refine q_iload_n rfl rfl ?_
  refine q_iload rfl rfl ?_
  have h_10 := fal_rng (m := v1) (t := v2) (g := 3) (x := v6) (by omega)
  refine v_cv rfl rfl rfl rfl (by decide) ⟨⟨rfl, rfl⟩, by decide, rfl⟩ (Nat.le_of_ble_eq_true rfl) (Nat.le_of_ble_eq_true rfl) (s_189 (v1 := v1) (v2 := v2) (v3 := v6) (r := (fal v1 (v2) 3 v6)) (a1 := a1) (a2 := a2) (a3 := 3) hI (show 0 ≤ a1 ∧ a1 ≤ 3 from by omega) (show 0 ≤ a2 ∧ a2 ≤ 5 from by omega) (show 0 ≤ 3 ∧ 3 ≤ 3 from by omega) ((hv0)) ((hv1)) ((hv5)) rfl ?_)
  refine bk_inl ?_
  refine v_iadd (v := (fal v1 (v2) 0 v3) + (fal v1 (v2) 1 v4) + (fal v1 (v2) 2 v5) + (fal v1 (v2) 3 v6)) rfl (by omega) ?_
  refine q_istore_n rfl (by decide) ?_
  refine v_iinc (v := 4) rfl rfl (by decide) (by decide) ?_
  refine Wp_ls [(4, vi 4), (3, vi ((fal v1 (v2) 0 v3) + (fal v1 (v2) 1 v4) + (fal v1 (v2) 2 v5) + (fal v1 (v2) 3 v6))), (0, .ref 41), (1, vi a1), (2, vi a2)] (lsub_cons rfl (lsub_cons rfl (lsub_cons rfl (lsub_cons rfl (lsub_cons rfl lsub_nil))))) ?_
  refine q_goto (t := 5) rfl (by decide) ?_
  refine q_iload rfl rfl ?_
  refine q_iconst rfl ?_
  refine v_ic_ge_t (t := 28) rfl (by decide) (by decide) ?_
  refine q_iload_n rfl rfl ?_
  refine q_iret rfl rfl ?_
  exact zv (by omega) (K)

set_option maxRecDepth 100000 in
set_option maxHeartbeats 4000000 in
theorem s_191 {sc : List Int32} {e : Int} {d u P Q : Nat} {c : ME} {a1 : Int} {a2 : Int} {Z : AR → Prop} (hI : Iv u e P Q c) (ha1 : 0 ≤ a1 ∧ a1 ≤ 5) (ha2 : (-2147483648) ≤ a2 ∧ a2 ≤ 2147483647) (K : ∀ (c2 : ME), Iv u e P Q c2 → (∀ (a : Nat) (j : Int), ¬ ((a = 59 ∧ j = a1 + 24)) → c2 a j = c a j) → Z (.inl (none), Wd P Q P P c2, 0, 0)) : Wp sc (d + 7) 191 0 [(0, .ref 41), (1, vi a1), (2, vi a2)] [] (Wd P Q P P c) 0 0 Z := by
  have hP := iv_P hI
  have hQ := iv_Q hI
  refine q_aload_n rfl rfl ?_
  refine v_gr (t := 59) rfl rfl rfl (by decide) rfl ?_
  refine v_bip rfl (by decide) ?_
  refine q_iload_n rfl rfl ?_
  refine v_iadd (v := a1 + 24) rfl (by omega) ?_
  refine q_iload_n rfl rfl ?_
  refine q_aload_n rfl rfl ?_
  refine v_gr (t := 59) rfl rfl rfl (by decide) rfl ?_
  refine v_bip rfl (by decide) ?_
  refine q_iload_n rfl rfl ?_
  refine v_iadd (v := a1 + 24) rfl (by omega) ?_
  have h_1 := ir_59 hI (a1 + 24)
  refine v_ia (v := c 59 (a1 + 24)) rfl rfl (by decide) (by decide) (by omega) rfl ?_
  by_cases h_2 : a2 ≤ c 59 (a1 + 24)
  · refine v_ic_le_t (t := 25) rfl (by decide) (by omega) ?_
    refine q_aload_n rfl rfl ?_
    refine v_gr (t := 59) rfl rfl rfl (by decide) rfl ?_
    refine v_bip rfl (by decide) ?_
    refine q_iload_n rfl rfl ?_
    refine v_iadd (v := a1 + 24) rfl (by omega) ?_
    refine v_ia (v := c 59 (a1 + 24)) rfl rfl (by decide) (by decide) (by omega) rfl ?_
    refine v_is rfl rfl (by decide) (by decide) (by omega) ?_
    refine q_vret rfl rfl ?_
    have hI_3 := iw_row (a := 59) (j := a1 + 24) (v := c 59 (a1 + 24)) hI (by omega) (Or.inr (by omega)) ⟨by omega, by omega, by omega⟩
    exact K (up c 59 (a1 + 24) (c 59 (a1 + 24))) hI_3 (fun a j hm => up_b (by omega))
  · refine v_ic_le_f (t := 25) rfl (by decide) (by omega) ?_
    refine q_iload_n rfl rfl ?_
    refine q_goto (t := 34) rfl (by decide) ?_
    refine v_is rfl rfl (by decide) (by decide) (by omega) ?_
    refine q_vret rfl rfl ?_
    have hI_4 := iw_row (a := 59) (j := a1 + 24) (v := a2) hI (by omega) (Or.inr (by omega)) ⟨by omega, by omega, by omega⟩
    exact K (up c 59 (a1 + 24) a2) hI_4 (fun a j hm => up_b (by omega))

set_option maxRecDepth 100000 in
set_option maxHeartbeats 4000000 in
theorem s_192 {sc : List Int32} {d P Q : Nat} {c : ME} {a1 : Int} {Z : AR → Prop} (hI : Iv 59 (-1) P Q c) (ha1 : 0 ≤ a1 ∧ a1 ≤ 5) (K : ∀ (c2 : ME), Iv 59 (-1) P Q c2 → (∀ (a : Nat) (j : Int), ¬ ((a = 59 ∧ j = 4 * a1) ∨ (a = 59 ∧ j = 4 * a1 + 1) ∨ (a = 59 ∧ j = 4 * a1 + 2) ∨ (a = 59 ∧ j = 4 * a1 + 3) ∨ (a = 59 ∧ j = a1 + 24)) → c2 a j = c a j) → ((c2 59 (4 * a1) = 0 ∧ c2 59 (4 * a1 + 1) = 0 ∧ c2 59 (4 * a1 + 2) = 0 ∧ c2 59 (4 * a1 + 3) = 0)) → Z (.inl (none), Wd P Q P P c2, 0, 0)) : Wp sc (d + 7) 192 0 [(0, .ref 41), (1, vi a1)] [] (Wd P Q P P c) 0 0 Z := by
  have hP := iv_P hI
  have hQ := iv_Q hI
  refine q_iconst rfl ?_
  refine q_istore_n rfl (by decide) ?_
  refine q_iload_n rfl rfl ?_
  refine q_iconst rfl ?_
  refine v_ic_ge_f (t := 24) rfl (by decide) (by decide) ?_
  refine q_aload_n rfl rfl ?_
  refine v_gr (t := 59) rfl rfl rfl (by decide) rfl ?_
  refine q_iconst rfl ?_
  refine q_iload_n rfl rfl ?_
  refine v_imul (v := 4 * a1) rfl (by omega) ?_
  refine q_iload_n rfl rfl ?_
  refine v_iadd (v := 4 * a1) rfl (by omega) ?_
  refine q_iconst rfl ?_
  refine v_is rfl rfl (by decide) (by decide) (by omega) ?_
  refine v_iinc (v := 1) rfl rfl (by decide) (by decide) ?_
  refine q_goto (t := 2) rfl (by decide) ?_
  refine q_iload_n rfl rfl ?_
  refine q_iconst rfl ?_
  refine v_ic_ge_f (t := 24) rfl (by decide) (by decide) ?_
  refine q_aload_n rfl rfl ?_
  refine v_gr (t := 59) rfl rfl rfl (by decide) rfl ?_
  refine q_iconst rfl ?_
  refine q_iload_n rfl rfl ?_
  refine v_imul (v := 4 * a1) rfl (by omega) ?_
  refine q_iload_n rfl rfl ?_
  refine v_iadd (v := 4 * a1 + 1) rfl (by omega) ?_
  refine q_iconst rfl ?_
  refine v_is rfl rfl (by decide) (by decide) (by omega) ?_
  refine v_iinc (v := 2) rfl rfl (by decide) (by decide) ?_
  refine q_goto (t := 2) rfl (by decide) ?_
  refine q_iload_n rfl rfl ?_
  refine q_iconst rfl ?_
  refine v_ic_ge_f (t := 24) rfl (by decide) (by decide) ?_
  refine q_aload_n rfl rfl ?_
  refine v_gr (t := 59) rfl rfl rfl (by decide) rfl ?_
  refine q_iconst rfl ?_
  refine q_iload_n rfl rfl ?_
  refine v_imul (v := 4 * a1) rfl (by omega) ?_
  refine q_iload_n rfl rfl ?_
  refine v_iadd (v := 4 * a1 + 2) rfl (by omega) ?_
  refine q_iconst rfl ?_
  refine v_is rfl rfl (by decide) (by decide) (by omega) ?_
  refine v_iinc (v := 3) rfl rfl (by decide) (by decide) ?_
  refine q_goto (t := 2) rfl (by decide) ?_
  refine q_iload_n rfl rfl ?_
  refine q_iconst rfl ?_
  refine v_ic_ge_f (t := 24) rfl (by decide) (by decide) ?_
  refine q_aload_n rfl rfl ?_
  refine v_gr (t := 59) rfl rfl rfl (by decide) rfl ?_
  refine q_iconst rfl ?_
  refine q_iload_n rfl rfl ?_
  refine v_imul (v := 4 * a1) rfl (by omega) ?_
  refine q_iload_n rfl rfl ?_
  refine v_iadd (v := 4 * a1 + 3) rfl (by omega) ?_
  refine q_iconst rfl ?_
  refine v_is rfl rfl (by decide) (by decide) (by omega) ?_
  refine v_iinc (v := 4) rfl rfl (by decide) (by decide) ?_
  refine Wp_ls [(2, vi 4), (0, .ref 41), (1, vi a1)] (lsub_cons rfl (lsub_cons rfl (lsub_cons rfl lsub_nil))) ?_
  refine q_goto (t := 2) rfl (by decide) ?_
  refine q_iload_n rfl rfl ?_
  refine q_iconst rfl ?_
  refine v_ic_ge_t (t := 24) rfl (by decide) (by decide) ?_
  refine q_aload_n rfl rfl ?_
  refine v_gr (t := 59) rfl rfl rfl (by decide) rfl ?_
  refine v_bip rfl (by decide) ?_
  refine q_iload_n rfl rfl ?_
  refine v_iadd (v := a1 + 24) rfl (by omega) ?_
  refine q_iconst rfl ?_
  refine v_is rfl rfl (by decide) (by decide) (by omega) ?_
  refine q_vret rfl rfl ?_
  have hI_1 := iw_row (a := 59) (j := 4 * a1) (v := 0) hI (by omega) (Or.inl rfl) ⟨by omega, by omega, by omega⟩
  have hI_2 := iw_row (a := 59) (j := 4 * a1 + 1) (v := 0) hI_1 (by omega) (Or.inl rfl) ⟨by omega, by omega, by omega⟩
  have hI_3 := iw_row (a := 59) (j := 4 * a1 + 2) (v := 0) hI_2 (by omega) (Or.inl rfl) ⟨by omega, by omega, by omega⟩
  have hI_4 := iw_row (a := 59) (j := 4 * a1 + 3) (v := 0) hI_3 (by omega) (Or.inl rfl) ⟨by omega, by omega, by omega⟩
  have hI_5 := iw_row (a := 59) (j := a1 + 24) (v := 0) hI_4 (by omega) (Or.inl rfl) ⟨by omega, by omega, by omega⟩
  have h_6 : (up (up (up (up (up c 59 (4 * a1) 0) 59 (4 * a1 + 1) 0) 59 (4 * a1 + 2) 0) 59 (4 * a1 + 3) 0) 59 (a1 + 24) 0) 59 (4 * a1 + 1) = 0 := ((up_n (by omega)).trans ((up_n (by omega)).trans ((up_n (by omega)).trans (up_e rfl))))
  have h_7 : (up (up (up (up (up c 59 (4 * a1) 0) 59 (4 * a1 + 1) 0) 59 (4 * a1 + 2) 0) 59 (4 * a1 + 3) 0) 59 (a1 + 24) 0) 59 (4 * a1 + 2) = 0 := ((up_n (by omega)).trans ((up_n (by omega)).trans (up_e rfl)))
  have h_8 : (up (up (up (up (up c 59 (4 * a1) 0) 59 (4 * a1 + 1) 0) 59 (4 * a1 + 2) 0) 59 (4 * a1 + 3) 0) 59 (a1 + 24) 0) 59 (4 * a1 + 3) = 0 := ((up_n (by omega)).trans (up_e rfl))
  have h_9 : (up (up (up (up (up c 59 (4 * a1) 0) 59 (4 * a1 + 1) 0) 59 (4 * a1 + 2) 0) 59 (4 * a1 + 3) 0) 59 (a1 + 24) 0) 59 (4 * a1) = 0 := ((up_n (by omega)).trans ((up_n (by omega)).trans ((up_n (by omega)).trans ((up_n (by omega)).trans (up_e rfl)))))
  exact K (up (up (up (up (up c 59 (4 * a1) 0) 59 (4 * a1 + 1) 0) 59 (4 * a1 + 2) 0) 59 (4 * a1 + 3) 0) 59 (a1 + 24) 0) hI_5 (fun a j hm => (up_b (by omega)).trans ((up_b (by omega)).trans ((up_b (by omega)).trans ((up_b (by omega)).trans (up_b (by omega)))))) (by omega)

set_option maxRecDepth 100000 in
set_option maxHeartbeats 4000000 in
theorem s_193 {sc : List Int32} {d P Q : Nat} {c : ME} {a1 : Int} {a2 : Int} {a3 : Int} {a4 : Int} {Z : AR → Prop} (hI : Iv 0 (-1) P Q c) (ha1 : 0 ≤ a1 ∧ a1 ≤ 3) (ha2 : 0 ≤ a2 ∧ a2 ≤ 5) (ha3 : 0 ≤ a3 ∧ a3 ≤ 5) (ha4 : 0 ≤ a4 ∧ a4 ≤ 5) (K : ∀ (c2 : ME) (y : Int), Iv 0 (-1) P Q c2 → (∀ (a : Nat) (j : Int), ¬ (a = 59) → c2 a j = c a j) → 0 ≤ y ∧ y ≤ 1 → Z (.inl (some (vi y)), Wd P Q P P c2, 0, 0)) : Wp sc (d + 9) 193 0 [(0, .ref 41), (1, vi a1), (2, vi a2), (3, vi a3), (4, vi a4)] [] (Wd P Q P P c) 0 0 Z := by
  have hP := iv_P hI
  have hQ := iv_Q hI
  have hIo : Iv 59 (-1) P Q c := iv_open hI
  have hsum_1 := ir_59_r hI (by decide) (j := a2) (by omega)
  have h_2 := ir_59_g hI (j := 4 * a2) (by omega)
  have h_3 := ir_59_g hI (j := 4 * a2 + 1) (by omega)
  have h_4 := ir_59_g hI (j := 4 * a2 + 2) (by omega)
  have h_5 := ir_59_g hI (j := 4 * a2 + 3) (by omega)
  have hsum_6 := ir_59_r hI (by decide) (j := a3) (by omega)
  have h_7 := ir_59_g hI (j := 4 * a3) (by omega)
  have h_8 := ir_59_g hI (j := 4 * a3 + 1) (by omega)
  have h_9 := ir_59_g hI (j := 4 * a3 + 2) (by omega)
  have h_10 := ir_59_g hI (j := 4 * a3 + 3) (by omega)
  have hsum_11 := ir_59_r hI (by decide) (j := a4) (by omega)
  have h_12 := ir_59_g hI (j := 4 * a4) (by omega)
  have h_13 := ir_59_g hI (j := 4 * a4 + 1) (by omega)
  have h_14 := ir_59_g hI (j := 4 * a4 + 2) (by omega)
  have h_15 := ir_59_g hI (j := 4 * a4 + 3) (by omega)
  refine q_aload_n rfl rfl ?_
  refine q_iload_n rfl rfl ?_
  refine v_cv rfl rfl rfl rfl (by decide) ⟨⟨rfl, rfl⟩, by decide, rfl⟩ (Nat.le_of_ble_eq_true rfl) (Nat.le_of_ble_eq_true rfl) (s_187 (v1 := c 59 (4 * a2)) (v2 := c 59 (4 * a2 + 1)) (v3 := c 59 (4 * a2 + 2)) (v4 := c 59 (4 * a2 + 3)) (r := c 59 (4 * a2 + 1) + c 59 (4 * a2 + 2) + c 59 (4 * a2 + 3) + c 59 (4 * a2)) (a1 := a2) hIo (show 0 ≤ a2 ∧ a2 ≤ 5 from by omega) (rfl) (rfl) (rfl) (rfl) (by omega) ?_)
  refine bk_inl ?_
  by_cases h_16 : c 59 (4 * a2 + 1) + c 59 (4 * a2 + 2) + c 59 (4 * a2 + 3) + c 59 (4 * a2) = 0
  · refine v_if_eq_t (t := 25) rfl (by decide) (by omega) ?_
    refine q_iconst rfl ?_
    refine v_zret rfl rfl (by omega) ?_
    have hr_17 : ∀ j : Int, rs 59 j → c 59 j + c 59 (j + 1) + c 59 (j + 2) + c 59 (j + 3) ≤ 9999 := by
      intro j9 hj9
      obtain ⟨k9, rfl, hk9⟩ := rs_59 hj9
      by_cases e_18 : k9 = a2
      · skip
        have h_19 : c 59 (4 * k9) = c 59 (4 * a2) := (congrArg (c 59) (show 4 * k9 = 4 * a2 from by omega))
        have h_20 : c 59 (4 * k9 + 1) = c 59 (4 * a2 + 1) := (congrArg (c 59) (show 4 * k9 + 1 = 4 * a2 + 1 from by omega))
        have h_21 : c 59 (4 * k9 + 2) = c 59 (4 * a2 + 2) := (congrArg (c 59) (show 4 * k9 + 2 = 4 * a2 + 2 from by omega))
        have h_22 : c 59 (4 * k9 + 3) = c 59 (4 * a2 + 3) := (congrArg (c 59) (show 4 * k9 + 3 = 4 * a2 + 3 from by omega))
        omega
      by_cases e_23 : k9 = a3
      · skip
        have h_24 : c 59 (4 * k9) = c 59 (4 * a3) := (congrArg (c 59) (show 4 * k9 = 4 * a3 from by omega))
        have h_25 : c 59 (4 * k9 + 1) = c 59 (4 * a3 + 1) := (congrArg (c 59) (show 4 * k9 + 1 = 4 * a3 + 1 from by omega))
        have h_26 : c 59 (4 * k9 + 2) = c 59 (4 * a3 + 2) := (congrArg (c 59) (show 4 * k9 + 2 = 4 * a3 + 2 from by omega))
        have h_27 : c 59 (4 * k9 + 3) = c 59 (4 * a3 + 3) := (congrArg (c 59) (show 4 * k9 + 3 = 4 * a3 + 3 from by omega))
        omega
      by_cases e_28 : k9 = a4
      · skip
        have h_29 : c 59 (4 * k9) = c 59 (4 * a4) := (congrArg (c 59) (show 4 * k9 = 4 * a4 from by omega))
        have h_30 : c 59 (4 * k9 + 1) = c 59 (4 * a4 + 1) := (congrArg (c 59) (show 4 * k9 + 1 = 4 * a4 + 1 from by omega))
        have h_31 : c 59 (4 * k9 + 2) = c 59 (4 * a4 + 2) := (congrArg (c 59) (show 4 * k9 + 2 = 4 * a4 + 2 from by omega))
        have h_32 : c 59 (4 * k9 + 3) = c 59 (4 * a4 + 3) := (congrArg (c 59) (show 4 * k9 + 3 = 4 * a4 + 3 from by omega))
        omega
      have h_33 := iv_r hI 59 (4 * k9) hj9 (by omega)
      have h_34 := ir_59_g hI (j := 4 * k9) (by omega)
      have h_35 : c 59 (4 * k9) = c 59 (4 * k9) := rfl
      have h_36 := ir_59_g hI (j := 4 * k9 + 1) (by omega)
      have h_37 : c 59 (4 * k9 + 1) = c 59 (4 * k9 + 1) := rfl
      have h_38 := ir_59_g hI (j := 4 * k9 + 2) (by omega)
      have h_39 : c 59 (4 * k9 + 2) = c 59 (4 * k9 + 2) := rfl
      have h_40 := ir_59_g hI (j := 4 * k9 + 3) (by omega)
      have h_41 : c 59 (4 * k9 + 3) = c 59 (4 * k9 + 3) := rfl
      omega
    have hI_42 := iv_close hIo hr_17
    exact K c 0 hI_42 (fun a j hm => rfl) ⟨by decide, by decide⟩
  · refine v_if_eq_f (t := 25) rfl (by decide) (by omega) ?_
    refine q_iload_n rfl rfl ?_
    refine q_iload_n rfl rfl ?_
    by_cases h_43 : a2 = a3
    · refine v_ic_eq_t (t := 25) rfl (by decide) (by omega) ?_
      refine q_iconst rfl ?_
      refine v_zret rfl rfl (by omega) ?_
      have hr_44 : ∀ j : Int, rs 59 j → c 59 j + c 59 (j + 1) + c 59 (j + 2) + c 59 (j + 3) ≤ 9999 := by
        intro j9 hj9
        obtain ⟨k9, rfl, hk9⟩ := rs_59 hj9
        by_cases e_45 : k9 = a2
        · skip
          have h_46 : c 59 (4 * k9) = c 59 (4 * a2) := (congrArg (c 59) (show 4 * k9 = 4 * a2 from by omega))
          have h_47 : c 59 (4 * k9 + 1) = c 59 (4 * a2 + 1) := (congrArg (c 59) (show 4 * k9 + 1 = 4 * a2 + 1 from by omega))
          have h_48 : c 59 (4 * k9 + 2) = c 59 (4 * a2 + 2) := (congrArg (c 59) (show 4 * k9 + 2 = 4 * a2 + 2 from by omega))
          have h_49 : c 59 (4 * k9 + 3) = c 59 (4 * a2 + 3) := (congrArg (c 59) (show 4 * k9 + 3 = 4 * a2 + 3 from by omega))
          omega
        by_cases e_50 : k9 = a3
        · skip
          have h_51 : c 59 (4 * k9) = c 59 (4 * a3) := (congrArg (c 59) (show 4 * k9 = 4 * a3 from by omega))
          have h_52 : c 59 (4 * k9 + 1) = c 59 (4 * a3 + 1) := (congrArg (c 59) (show 4 * k9 + 1 = 4 * a3 + 1 from by omega))
          have h_53 : c 59 (4 * k9 + 2) = c 59 (4 * a3 + 2) := (congrArg (c 59) (show 4 * k9 + 2 = 4 * a3 + 2 from by omega))
          have h_54 : c 59 (4 * k9 + 3) = c 59 (4 * a3 + 3) := (congrArg (c 59) (show 4 * k9 + 3 = 4 * a3 + 3 from by omega))
          omega
        by_cases e_55 : k9 = a4
        · skip
          have h_56 : c 59 (4 * k9) = c 59 (4 * a4) := (congrArg (c 59) (show 4 * k9 = 4 * a4 from by omega))
          have h_57 : c 59 (4 * k9 + 1) = c 59 (4 * a4 + 1) := (congrArg (c 59) (show 4 * k9 + 1 = 4 * a4 + 1 from by omega))
          have h_58 : c 59 (4 * k9 + 2) = c 59 (4 * a4 + 2) := (congrArg (c 59) (show 4 * k9 + 2 = 4 * a4 + 2 from by omega))
          have h_59 : c 59 (4 * k9 + 3) = c 59 (4 * a4 + 3) := (congrArg (c 59) (show 4 * k9 + 3 = 4 * a4 + 3 from by omega))
          omega
        have h_60 := iv_r hI 59 (4 * k9) hj9 (by omega)
        have h_61 := ir_59_g hI (j := 4 * k9) (by omega)
        have h_62 : c 59 (4 * k9) = c 59 (4 * k9) := rfl
        have h_63 := ir_59_g hI (j := 4 * k9 + 1) (by omega)
        have h_64 : c 59 (4 * k9 + 1) = c 59 (4 * k9 + 1) := rfl
        have h_65 := ir_59_g hI (j := 4 * k9 + 2) (by omega)
        have h_66 : c 59 (4 * k9 + 2) = c 59 (4 * k9 + 2) := rfl
        have h_67 := ir_59_g hI (j := 4 * k9 + 3) (by omega)
        have h_68 : c 59 (4 * k9 + 3) = c 59 (4 * k9 + 3) := rfl
        omega
      have hI_69 := iv_close hIo hr_44
      exact K c 0 hI_69 (fun a j hm => rfl) ⟨by decide, by decide⟩
    · refine v_ic_eq_f (t := 25) rfl (by decide) (by omega) ?_
      refine q_iload_n rfl rfl ?_
      refine q_iload rfl rfl ?_
      by_cases h_70 : a2 = a4
      · refine v_ic_eq_t (t := 25) rfl (by decide) (by omega) ?_
        refine q_iconst rfl ?_
        refine v_zret rfl rfl (by omega) ?_
        have hr_71 : ∀ j : Int, rs 59 j → c 59 j + c 59 (j + 1) + c 59 (j + 2) + c 59 (j + 3) ≤ 9999 := by
          intro j9 hj9
          obtain ⟨k9, rfl, hk9⟩ := rs_59 hj9
          by_cases e_72 : k9 = a2
          · skip
            have h_73 : c 59 (4 * k9) = c 59 (4 * a2) := (congrArg (c 59) (show 4 * k9 = 4 * a2 from by omega))
            have h_74 : c 59 (4 * k9 + 1) = c 59 (4 * a2 + 1) := (congrArg (c 59) (show 4 * k9 + 1 = 4 * a2 + 1 from by omega))
            have h_75 : c 59 (4 * k9 + 2) = c 59 (4 * a2 + 2) := (congrArg (c 59) (show 4 * k9 + 2 = 4 * a2 + 2 from by omega))
            have h_76 : c 59 (4 * k9 + 3) = c 59 (4 * a2 + 3) := (congrArg (c 59) (show 4 * k9 + 3 = 4 * a2 + 3 from by omega))
            omega
          by_cases e_77 : k9 = a3
          · skip
            have h_78 : c 59 (4 * k9) = c 59 (4 * a3) := (congrArg (c 59) (show 4 * k9 = 4 * a3 from by omega))
            have h_79 : c 59 (4 * k9 + 1) = c 59 (4 * a3 + 1) := (congrArg (c 59) (show 4 * k9 + 1 = 4 * a3 + 1 from by omega))
            have h_80 : c 59 (4 * k9 + 2) = c 59 (4 * a3 + 2) := (congrArg (c 59) (show 4 * k9 + 2 = 4 * a3 + 2 from by omega))
            have h_81 : c 59 (4 * k9 + 3) = c 59 (4 * a3 + 3) := (congrArg (c 59) (show 4 * k9 + 3 = 4 * a3 + 3 from by omega))
            omega
          by_cases e_82 : k9 = a4
          · skip
            have h_83 : c 59 (4 * k9) = c 59 (4 * a4) := (congrArg (c 59) (show 4 * k9 = 4 * a4 from by omega))
            have h_84 : c 59 (4 * k9 + 1) = c 59 (4 * a4 + 1) := (congrArg (c 59) (show 4 * k9 + 1 = 4 * a4 + 1 from by omega))
            have h_85 : c 59 (4 * k9 + 2) = c 59 (4 * a4 + 2) := (congrArg (c 59) (show 4 * k9 + 2 = 4 * a4 + 2 from by omega))
            have h_86 : c 59 (4 * k9 + 3) = c 59 (4 * a4 + 3) := (congrArg (c 59) (show 4 * k9 + 3 = 4 * a4 + 3 from by omega))
            omega
          have h_87 := iv_r hI 59 (4 * k9) hj9 (by omega)
          have h_88 := ir_59_g hI (j := 4 * k9) (by omega)
          have h_89 : c 59 (4 * k9) = c 59 (4 * k9) := rfl
          have h_90 := ir_59_g hI (j := 4 * k9 + 1) (by omega)
          have h_91 : c 59 (4 * k9 + 1) = c 59 (4 * k9 + 1) := rfl
          have h_92 := ir_59_g hI (j := 4 * k9 + 2) (by omega)
          have h_93 : c 59 (4 * k9 + 2) = c 59 (4 * k9 + 2) := rfl
          have h_94 := ir_59_g hI (j := 4 * k9 + 3) (by omega)
          have h_95 : c 59 (4 * k9 + 3) = c 59 (4 * k9 + 3) := rfl
          omega
        have hI_96 := iv_close hIo hr_71
        exact K c 0 hI_96 (fun a j hm => rfl) ⟨by decide, by decide⟩
      · refine v_ic_eq_f (t := 25) rfl (by decide) (by omega) ?_
        refine q_iload_n rfl rfl ?_
        refine q_iload rfl rfl ?_
        by_cases h_97 : a3 ≠ a4
        · refine v_ic_ne_t (t := 27) rfl (by decide) (by omega) ?_
          refine q_aload_n rfl rfl ?_
          refine q_iload_n rfl rfl ?_
          refine q_iload_n rfl rfl ?_
          have h_98 := ir_49 hI a1
          have h_99 := ir_59 hI (a1 + 30)
          have h_100 := fal_rng (m := c 49 a1) (t := c 59 (a1 + 30)) (g := 0) (x := c 59 (4 * a2)) (by omega)
          have h_101 := fal_rng (m := c 49 a1) (t := c 59 (a1 + 30)) (g := 1) (x := c 59 (4 * a2 + 1)) (by omega)
          have h_102 := fal_rng (m := c 49 a1) (t := c 59 (a1 + 30)) (g := 2) (x := c 59 (4 * a2 + 2)) (by omega)
          have h_103 := fal_rng (m := c 49 a1) (t := c 59 (a1 + 30)) (g := 3) (x := c 59 (4 * a2 + 3)) (by omega)
          refine v_cv rfl rfl rfl rfl (by decide) ⟨⟨rfl, rfl⟩, by decide, rfl⟩ (Nat.le_of_ble_eq_true rfl) (Nat.le_of_ble_eq_true rfl) (s_190 (v1 := c 49 a1) (v2 := c 59 (a1 + 30)) (v3 := c 59 (4 * a2)) (v4 := c 59 (4 * a2 + 1)) (v5 := c 59 (4 * a2 + 2)) (v6 := c 59 (4 * a2 + 3)) (r := (fal (c 49 a1) (c 59 (a1 + 30)) 0 (c 59 (4 * a2))) + (fal (c 49 a1) (c 59 (a1 + 30)) 1 (c 59 (4 * a2 + 1))) + (fal (c 49 a1) (c 59 (a1 + 30)) 2 (c 59 (4 * a2 + 2))) + (fal (c 49 a1) (c 59 (a1 + 30)) 3 (c 59 (4 * a2 + 3)))) (a1 := a1) (a2 := a2) hIo (show 0 ≤ a1 ∧ a1 ≤ 3 from by omega) (show 0 ≤ a2 ∧ a2 ≤ 5 from by omega) (rfl) (rfl) (rfl) (rfl) (rfl) (rfl) rfl ?_)
          refine bk_inl ?_
          refine q_istore rfl (by decide) ?_
          refine q_aload_n rfl rfl ?_
          refine q_iload_n rfl rfl ?_
          refine v_cv rfl rfl rfl rfl (by decide) ⟨⟨rfl, rfl⟩, by decide, rfl⟩ (Nat.le_of_ble_eq_true rfl) (Nat.le_of_ble_eq_true rfl) (s_187 (v1 := c 59 (4 * a3)) (v2 := c 59 (4 * a3 + 1)) (v3 := c 59 (4 * a3 + 2)) (v4 := c 59 (4 * a3 + 3)) (r := c 59 (4 * a3 + 1) + c 59 (4 * a3 + 2) + c 59 (4 * a3 + 3) + c 59 (4 * a3)) (a1 := a3) hIo (show 0 ≤ a3 ∧ a3 ≤ 5 from by omega) (rfl) (rfl) (rfl) (rfl) (by omega) ?_)
          refine bk_inl ?_
          refine q_iload rfl rfl ?_
          refine v_iadd (v := (fal (c 49 a1) (c 59 (a1 + 30)) 0 (c 59 (4 * a2))) + (fal (c 49 a1) (c 59 (a1 + 30)) 1 (c 59 (4 * a2 + 1))) + (fal (c 49 a1) (c 59 (a1 + 30)) 2 (c 59 (4 * a2 + 2))) + (fal (c 49 a1) (c 59 (a1 + 30)) 3 (c 59 (4 * a2 + 3))) + c 59 (4 * a3 + 1) + c 59 (4 * a3 + 2) + c 59 (4 * a3 + 3) + c 59 (4 * a3)) rfl (by omega) ?_
          refine v_sip rfl (by decide) ?_
          by_cases h_104 : (fal (c 49 a1) (c 59 (a1 + 30)) 0 (c 59 (4 * a2))) + (fal (c 49 a1) (c 59 (a1 + 30)) 1 (c 59 (4 * a2 + 1))) + (fal (c 49 a1) (c 59 (a1 + 30)) 2 (c 59 (4 * a2 + 2))) + (fal (c 49 a1) (c 59 (a1 + 30)) 3 (c 59 (4 * a2 + 3))) + c 59 (4 * a3 + 1) + c 59 (4 * a3 + 2) + c 59 (4 * a3 + 3) + c 59 (4 * a3) > 9999
          · refine v_ic_gt_t (t := 70) rfl (by decide) (by omega) ?_
            refine q_iconst rfl ?_
            refine v_zret rfl rfl (by omega) ?_
            have hr_105 : ∀ j : Int, rs 59 j → c 59 j + c 59 (j + 1) + c 59 (j + 2) + c 59 (j + 3) ≤ 9999 := by
              intro j9 hj9
              obtain ⟨k9, rfl, hk9⟩ := rs_59 hj9
              by_cases e_106 : k9 = a2
              · skip
                have h_107 : c 59 (4 * k9) = c 59 (4 * a2) := (congrArg (c 59) (show 4 * k9 = 4 * a2 from by omega))
                have h_108 : c 59 (4 * k9 + 1) = c 59 (4 * a2 + 1) := (congrArg (c 59) (show 4 * k9 + 1 = 4 * a2 + 1 from by omega))
                have h_109 : c 59 (4 * k9 + 2) = c 59 (4 * a2 + 2) := (congrArg (c 59) (show 4 * k9 + 2 = 4 * a2 + 2 from by omega))
                have h_110 : c 59 (4 * k9 + 3) = c 59 (4 * a2 + 3) := (congrArg (c 59) (show 4 * k9 + 3 = 4 * a2 + 3 from by omega))
                omega
              by_cases e_111 : k9 = a3
              · skip
                have h_112 : c 59 (4 * k9) = c 59 (4 * a3) := (congrArg (c 59) (show 4 * k9 = 4 * a3 from by omega))
                have h_113 : c 59 (4 * k9 + 1) = c 59 (4 * a3 + 1) := (congrArg (c 59) (show 4 * k9 + 1 = 4 * a3 + 1 from by omega))
                have h_114 : c 59 (4 * k9 + 2) = c 59 (4 * a3 + 2) := (congrArg (c 59) (show 4 * k9 + 2 = 4 * a3 + 2 from by omega))
                have h_115 : c 59 (4 * k9 + 3) = c 59 (4 * a3 + 3) := (congrArg (c 59) (show 4 * k9 + 3 = 4 * a3 + 3 from by omega))
                omega
              by_cases e_116 : k9 = a4
              · skip
                have h_117 : c 59 (4 * k9) = c 59 (4 * a4) := (congrArg (c 59) (show 4 * k9 = 4 * a4 from by omega))
                have h_118 : c 59 (4 * k9 + 1) = c 59 (4 * a4 + 1) := (congrArg (c 59) (show 4 * k9 + 1 = 4 * a4 + 1 from by omega))
                have h_119 : c 59 (4 * k9 + 2) = c 59 (4 * a4 + 2) := (congrArg (c 59) (show 4 * k9 + 2 = 4 * a4 + 2 from by omega))
                have h_120 : c 59 (4 * k9 + 3) = c 59 (4 * a4 + 3) := (congrArg (c 59) (show 4 * k9 + 3 = 4 * a4 + 3 from by omega))
                omega
              have h_121 := iv_r hI 59 (4 * k9) hj9 (by omega)
              have h_122 := ir_59_g hI (j := 4 * k9) (by omega)
              have h_123 : c 59 (4 * k9) = c 59 (4 * k9) := rfl
              have h_124 := ir_59_g hI (j := 4 * k9 + 1) (by omega)
              have h_125 : c 59 (4 * k9 + 1) = c 59 (4 * k9 + 1) := rfl
              have h_126 := ir_59_g hI (j := 4 * k9 + 2) (by omega)
              have h_127 : c 59 (4 * k9 + 2) = c 59 (4 * k9 + 2) := rfl
              have h_128 := ir_59_g hI (j := 4 * k9 + 3) (by omega)
              have h_129 : c 59 (4 * k9 + 3) = c 59 (4 * k9 + 3) := rfl
              omega
            have hI_130 := iv_close hIo hr_105
            exact K c 0 hI_130 (fun a j hm => rfl) ⟨by decide, by decide⟩
          · refine v_ic_gt_f (t := 70) rfl (by decide) (by omega) ?_
            refine q_aload_n rfl rfl ?_
            refine q_iload rfl rfl ?_
            refine v_cv rfl rfl rfl rfl (by decide) ⟨⟨rfl, rfl⟩, by decide, rfl⟩ (Nat.le_of_ble_eq_true rfl) (Nat.le_of_ble_eq_true rfl) (s_187 (v1 := c 59 (4 * a4)) (v2 := c 59 (4 * a4 + 1)) (v3 := c 59 (4 * a4 + 2)) (v4 := c 59 (4 * a4 + 3)) (r := c 59 (4 * a4 + 1) + c 59 (4 * a4 + 2) + c 59 (4 * a4 + 3) + c 59 (4 * a4)) (a1 := a4) hIo (show 0 ≤ a4 ∧ a4 ≤ 5 from by omega) (rfl) (rfl) (rfl) (rfl) (by omega) ?_)
            refine bk_inl ?_
            refine q_aload_n rfl rfl ?_
            refine q_iload_n rfl rfl ?_
            refine v_cv rfl rfl rfl rfl (by decide) ⟨⟨rfl, rfl⟩, by decide, rfl⟩ (Nat.le_of_ble_eq_true rfl) (Nat.le_of_ble_eq_true rfl) (s_187 (v1 := c 59 (4 * a2)) (v2 := c 59 (4 * a2 + 1)) (v3 := c 59 (4 * a2 + 2)) (v4 := c 59 (4 * a2 + 3)) (r := c 59 (4 * a2 + 1) + c 59 (4 * a2 + 2) + c 59 (4 * a2 + 3) + c 59 (4 * a2)) (a1 := a2) hIo (show 0 ≤ a2 ∧ a2 ≤ 5 from by omega) (rfl) (rfl) (rfl) (rfl) (by omega) ?_)
            refine bk_inl ?_
            refine v_iadd (v := c 59 (4 * a2 + 1) + c 59 (4 * a2 + 2) + c 59 (4 * a2 + 3) + c 59 (4 * a2) + c 59 (4 * a4 + 1) + c 59 (4 * a4 + 2) + c 59 (4 * a4 + 3) + c 59 (4 * a4)) rfl (by omega) ?_
            refine q_iload rfl rfl ?_
            refine v_isub (v := c 59 (4 * a2 + 1) + c 59 (4 * a2 + 2) + c 59 (4 * a2 + 3) + c 59 (4 * a2) + c 59 (4 * a4 + 1) + c 59 (4 * a4 + 2) + c 59 (4 * a4 + 3) + c 59 (4 * a4) - (fal (c 49 a1) (c 59 (a1 + 30)) 0 (c 59 (4 * a2))) - (fal (c 49 a1) (c 59 (a1 + 30)) 1 (c 59 (4 * a2 + 1))) - (fal (c 49 a1) (c 59 (a1 + 30)) 2 (c 59 (4 * a2 + 2))) - (fal (c 49 a1) (c 59 (a1 + 30)) 3 (c 59 (4 * a2 + 3)))) rfl (by omega) ?_
            refine v_sip rfl (by decide) ?_
            by_cases h_131 : c 59 (4 * a2 + 1) + c 59 (4 * a2 + 2) + c 59 (4 * a2 + 3) + c 59 (4 * a2) + c 59 (4 * a4 + 1) + c 59 (4 * a4 + 2) + c 59 (4 * a4 + 3) + c 59 (4 * a4) - (fal (c 49 a1) (c 59 (a1 + 30)) 0 (c 59 (4 * a2))) - (fal (c 49 a1) (c 59 (a1 + 30)) 1 (c 59 (4 * a2 + 1))) - (fal (c 49 a1) (c 59 (a1 + 30)) 2 (c 59 (4 * a2 + 2))) - (fal (c 49 a1) (c 59 (a1 + 30)) 3 (c 59 (4 * a2 + 3))) ≤ 9999
            · refine v_ic_le_t (t := 72) rfl (by decide) (by omega) ?_
              refine q_iconst rfl ?_
              refine q_istore rfl (by decide) ?_
              refine q_iload rfl rfl ?_
              refine q_iconst rfl ?_
              refine v_ic_ge_f (t := 142) rfl (by decide) (by decide) ?_
              refine q_aload_n rfl rfl ?_
              refine q_iload_n rfl rfl ?_
              refine q_iload_n rfl rfl ?_
              refine q_iload rfl rfl ?_
              refine v_cv rfl rfl rfl rfl (by decide) ⟨⟨rfl, rfl⟩, by decide, rfl⟩ (Nat.le_of_ble_eq_true rfl) (Nat.le_of_ble_eq_true rfl) (s_189 (v1 := c 49 a1) (v2 := c 59 (a1 + 30)) (v3 := c 59 (4 * a2)) (r := (fal (c 49 a1) (c 59 (a1 + 30)) 0 (c 59 (4 * a2)))) (a1 := a1) (a2 := a2) (a3 := 0) hIo (show 0 ≤ a1 ∧ a1 ≤ 3 from by omega) (show 0 ≤ a2 ∧ a2 ≤ 5 from by omega) (show 0 ≤ 0 ∧ 0 ≤ 3 from by omega) (rfl) (rfl) ((congrArg (c 59) (show 4 * a2 + 0 = 4 * a2 from by omega))) rfl ?_)
              refine bk_inl ?_
              refine q_istore rfl (by decide) ?_
              refine q_aload_n rfl rfl ?_
              refine v_gr (t := 59) rfl rfl rfl (by decide) rfl ?_
              refine q_iconst rfl ?_
              refine q_iload_n rfl rfl ?_
              refine v_imul (v := 4 * a3) rfl (by omega) ?_
              refine q_iload rfl rfl ?_
              refine v_iadd (v := 4 * a3) rfl (by omega) ?_
              refine q_dup2 rfl ⟨rfl, rfl⟩ ?_
              refine v_ia (v := c 59 (4 * a3)) rfl rfl (by decide) (by decide) (by omega) rfl ?_
              refine q_iload rfl rfl ?_
              refine v_iadd (v := (fal (c 49 a1) (c 59 (a1 + 30)) 0 (c 59 (4 * a2))) + c 59 (4 * a3)) rfl (by omega) ?_
              refine v_is rfl rfl (by decide) (by decide) (by omega) ?_
              refine q_aload_n rfl rfl ?_
              refine v_gr (t := 59) rfl rfl rfl (by decide) rfl ?_
              refine q_iconst rfl ?_
              refine q_iload rfl rfl ?_
              refine v_imul (v := 4 * a4) rfl (by omega) ?_
              refine q_iload rfl rfl ?_
              refine v_iadd (v := 4 * a4) rfl (by omega) ?_
              refine q_dup2 rfl ⟨rfl, rfl⟩ ?_
              refine v_ia (v := c 59 (4 * a4)) rfl rfl (by decide) (by decide) (by omega) (up_n (by omega)) ?_
              refine q_aload_n rfl rfl ?_
              refine v_gr (t := 59) rfl rfl rfl (by decide) rfl ?_
              refine q_iconst rfl ?_
              refine q_iload_n rfl rfl ?_
              refine v_imul (v := 4 * a2) rfl (by omega) ?_
              refine q_iload rfl rfl ?_
              refine v_iadd (v := 4 * a2) rfl (by omega) ?_
              refine v_ia (v := c 59 (4 * a2)) rfl rfl (by decide) (by decide) (by omega) (up_n (by omega)) ?_
              refine q_iload rfl rfl ?_
              refine v_isub (v := c 59 (4 * a2) - (fal (c 49 a1) (c 59 (a1 + 30)) 0 (c 59 (4 * a2)))) rfl (by omega) ?_
              refine v_iadd (v := c 59 (4 * a2) + c 59 (4 * a4) - (fal (c 49 a1) (c 59 (a1 + 30)) 0 (c 59 (4 * a2)))) rfl (by omega) ?_
              refine v_is rfl rfl (by decide) (by decide) (by omega) ?_
              refine v_iinc (v := 1) rfl rfl (by decide) (by decide) ?_
              refine q_goto (t := 75) rfl (by decide) ?_
              refine q_iload rfl rfl ?_
              refine q_iconst rfl ?_
              refine v_ic_ge_f (t := 142) rfl (by decide) (by decide) ?_
              refine q_aload_n rfl rfl ?_
              refine q_iload_n rfl rfl ?_
              refine q_iload_n rfl rfl ?_
              refine q_iload rfl rfl ?_
              have hI_132 := iw_row (a := 59) (j := 4 * a3) (v := (fal (c 49 a1) (c 59 (a1 + 30)) 0 (c 59 (4 * a2))) + c 59 (4 * a3)) hIo (by omega) (Or.inl rfl) ⟨by omega, by omega, by omega⟩
              have hI_133 := iw_row (a := 59) (j := 4 * a4) (v := c 59 (4 * a2) + c 59 (4 * a4) - (fal (c 49 a1) (c 59 (a1 + 30)) 0 (c 59 (4 * a2)))) hI_132 (by omega) (Or.inl rfl) ⟨by omega, by omega, by omega⟩
              refine v_cv rfl rfl rfl rfl (by decide) ⟨⟨rfl, rfl⟩, by decide, rfl⟩ (Nat.le_of_ble_eq_true rfl) (Nat.le_of_ble_eq_true rfl) (s_189 (v1 := c 49 a1) (v2 := c 59 (a1 + 30)) (v3 := c 59 (4 * a2 + 1)) (r := (fal (c 49 a1) (c 59 (a1 + 30)) 1 (c 59 (4 * a2 + 1)))) (a1 := a1) (a2 := a2) (a3 := 1) hI_133 (show 0 ≤ a1 ∧ a1 ≤ 3 from by omega) (show 0 ≤ a2 ∧ a2 ≤ 5 from by omega) (show 0 ≤ 1 ∧ 1 ≤ 3 from by omega) (((up_c (by decide)).trans (up_c (by decide)))) (((up_n (by omega)).trans (up_n (by omega)))) (((up_n (by omega)).trans (up_n (by omega)))) rfl ?_)
              refine bk_inl ?_
              refine q_istore rfl (by decide) ?_
              refine Wp_ls [(7, vi (fal (c 49 a1) (c 59 (a1 + 30)) 1 (c 59 (4 * a2 + 1)))), (6, vi 1), (5, vi ((fal (c 49 a1) (c 59 (a1 + 30)) 0 (c 59 (4 * a2))) + (fal (c 49 a1) (c 59 (a1 + 30)) 1 (c 59 (4 * a2 + 1))) + (fal (c 49 a1) (c 59 (a1 + 30)) 2 (c 59 (4 * a2 + 2))) + (fal (c 49 a1) (c 59 (a1 + 30)) 3 (c 59 (4 * a2 + 3))))), (0, .ref 41), (1, vi a1), (2, vi a2), (3, vi a3), (4, vi a4)] (lsub_cons rfl (lsub_cons rfl (lsub_cons rfl (lsub_cons rfl (lsub_cons rfl (lsub_cons rfl (lsub_cons rfl (lsub_cons rfl lsub_nil)))))))) ?_
              refine q_aload_n rfl rfl ?_
              refine v_gr (t := 59) rfl rfl rfl (by decide) rfl ?_
              refine q_iconst rfl ?_
              refine q_iload_n rfl rfl ?_
              refine v_imul (v := 4 * a3) rfl (by omega) ?_
              refine q_iload rfl rfl ?_
              refine v_iadd (v := 4 * a3 + 1) rfl (by omega) ?_
              refine q_dup2 rfl ⟨rfl, rfl⟩ ?_
              refine v_ia (v := c 59 (4 * a3 + 1)) rfl rfl (by decide) (by decide) (by omega) ((up_n (by omega)).trans (up_n (by omega))) ?_
              refine q_iload rfl rfl ?_
              refine v_iadd (v := (fal (c 49 a1) (c 59 (a1 + 30)) 1 (c 59 (4 * a2 + 1))) + c 59 (4 * a3 + 1)) rfl (by omega) ?_
              refine v_is rfl rfl (by decide) (by decide) (by omega) ?_
              refine q_aload_n rfl rfl ?_
              refine v_gr (t := 59) rfl rfl rfl (by decide) rfl ?_
              refine q_iconst rfl ?_
              refine q_iload rfl rfl ?_
              refine v_imul (v := 4 * a4) rfl (by omega) ?_
              refine q_iload rfl rfl ?_
              refine v_iadd (v := 4 * a4 + 1) rfl (by omega) ?_
              refine q_dup2 rfl ⟨rfl, rfl⟩ ?_
              refine v_ia (v := c 59 (4 * a4 + 1)) rfl rfl (by decide) (by decide) (by omega) ((up_n (by omega)).trans ((up_n (by omega)).trans (up_n (by omega)))) ?_
              refine q_aload_n rfl rfl ?_
              refine v_gr (t := 59) rfl rfl rfl (by decide) rfl ?_
              refine q_iconst rfl ?_
              refine q_iload_n rfl rfl ?_
              refine v_imul (v := 4 * a2) rfl (by omega) ?_
              refine q_iload rfl rfl ?_
              refine v_iadd (v := 4 * a2 + 1) rfl (by omega) ?_
              refine v_ia (v := c 59 (4 * a2 + 1)) rfl rfl (by decide) (by decide) (by omega) ((up_n (by omega)).trans ((up_n (by omega)).trans (up_n (by omega)))) ?_
              refine q_iload rfl rfl ?_
              refine v_isub (v := c 59 (4 * a2 + 1) - (fal (c 49 a1) (c 59 (a1 + 30)) 1 (c 59 (4 * a2 + 1)))) rfl (by omega) ?_
              refine v_iadd (v := c 59 (4 * a2 + 1) + c 59 (4 * a4 + 1) - (fal (c 49 a1) (c 59 (a1 + 30)) 1 (c 59 (4 * a2 + 1)))) rfl (by omega) ?_
              refine v_is rfl rfl (by decide) (by decide) (by omega) ?_
              refine v_iinc (v := 2) rfl rfl (by decide) (by decide) ?_
              refine q_goto (t := 75) rfl (by decide) ?_
              refine q_iload rfl rfl ?_
              refine q_iconst rfl ?_
              refine v_ic_ge_f (t := 142) rfl (by decide) (by decide) ?_
              refine q_aload_n rfl rfl ?_
              refine q_iload_n rfl rfl ?_
              refine q_iload_n rfl rfl ?_
              refine q_iload rfl rfl ?_
              have hI_134 := iw_row (a := 59) (j := 4 * a3 + 1) (v := (fal (c 49 a1) (c 59 (a1 + 30)) 1 (c 59 (4 * a2 + 1))) + c 59 (4 * a3 + 1)) hI_133 (by omega) (Or.inl rfl) ⟨by omega, by omega, by omega⟩
              have hI_135 := iw_row (a := 59) (j := 4 * a4 + 1) (v := c 59 (4 * a2 + 1) + c 59 (4 * a4 + 1) - (fal (c 49 a1) (c 59 (a1 + 30)) 1 (c 59 (4 * a2 + 1)))) hI_134 (by omega) (Or.inl rfl) ⟨by omega, by omega, by omega⟩
              refine v_cv rfl rfl rfl rfl (by decide) ⟨⟨rfl, rfl⟩, by decide, rfl⟩ (Nat.le_of_ble_eq_true rfl) (Nat.le_of_ble_eq_true rfl) (s_189 (v1 := c 49 a1) (v2 := c 59 (a1 + 30)) (v3 := c 59 (4 * a2 + 2)) (r := (fal (c 49 a1) (c 59 (a1 + 30)) 2 (c 59 (4 * a2 + 2)))) (a1 := a1) (a2 := a2) (a3 := 2) hI_135 (show 0 ≤ a1 ∧ a1 ≤ 3 from by omega) (show 0 ≤ a2 ∧ a2 ≤ 5 from by omega) (show 0 ≤ 2 ∧ 2 ≤ 3 from by omega) (((up_c (by decide)).trans ((up_c (by decide)).trans ((up_c (by decide)).trans (up_c (by decide)))))) (((up_n (by omega)).trans ((up_n (by omega)).trans ((up_n (by omega)).trans (up_n (by omega)))))) (((up_n (by omega)).trans ((up_n (by omega)).trans ((up_n (by omega)).trans (up_n (by omega)))))) rfl ?_)
              refine bk_inl ?_
              refine q_istore rfl (by decide) ?_
              refine q_aload_n rfl rfl ?_
              refine v_gr (t := 59) rfl rfl rfl (by decide) rfl ?_
              refine q_iconst rfl ?_
              refine q_iload_n rfl rfl ?_
              refine v_imul (v := 4 * a3) rfl (by omega) ?_
              refine q_iload rfl rfl ?_
              refine v_iadd (v := 4 * a3 + 2) rfl (by omega) ?_
              refine q_dup2 rfl ⟨rfl, rfl⟩ ?_
              refine v_ia (v := c 59 (4 * a3 + 2)) rfl rfl (by decide) (by decide) (by omega) ((up_n (by omega)).trans ((up_n (by omega)).trans ((up_n (by omega)).trans (up_n (by omega))))) ?_
              refine q_iload rfl rfl ?_
              refine v_iadd (v := (fal (c 49 a1) (c 59 (a1 + 30)) 2 (c 59 (4 * a2 + 2))) + c 59 (4 * a3 + 2)) rfl (by omega) ?_
              refine v_is rfl rfl (by decide) (by decide) (by omega) ?_
              refine q_aload_n rfl rfl ?_
              refine v_gr (t := 59) rfl rfl rfl (by decide) rfl ?_
              refine q_iconst rfl ?_
              refine q_iload rfl rfl ?_
              refine v_imul (v := 4 * a4) rfl (by omega) ?_
              refine q_iload rfl rfl ?_
              refine v_iadd (v := 4 * a4 + 2) rfl (by omega) ?_
              refine q_dup2 rfl ⟨rfl, rfl⟩ ?_
              refine v_ia (v := c 59 (4 * a4 + 2)) rfl rfl (by decide) (by decide) (by omega) ((up_n (by omega)).trans ((up_n (by omega)).trans ((up_n (by omega)).trans ((up_n (by omega)).trans (up_n (by omega)))))) ?_
              refine q_aload_n rfl rfl ?_
              refine v_gr (t := 59) rfl rfl rfl (by decide) rfl ?_
              refine q_iconst rfl ?_
              refine q_iload_n rfl rfl ?_
              refine v_imul (v := 4 * a2) rfl (by omega) ?_
              refine q_iload rfl rfl ?_
              refine v_iadd (v := 4 * a2 + 2) rfl (by omega) ?_
              refine v_ia (v := c 59 (4 * a2 + 2)) rfl rfl (by decide) (by decide) (by omega) ((up_n (by omega)).trans ((up_n (by omega)).trans ((up_n (by omega)).trans ((up_n (by omega)).trans (up_n (by omega)))))) ?_
              refine q_iload rfl rfl ?_
              refine v_isub (v := c 59 (4 * a2 + 2) - (fal (c 49 a1) (c 59 (a1 + 30)) 2 (c 59 (4 * a2 + 2)))) rfl (by omega) ?_
              refine v_iadd (v := c 59 (4 * a2 + 2) + c 59 (4 * a4 + 2) - (fal (c 49 a1) (c 59 (a1 + 30)) 2 (c 59 (4 * a2 + 2)))) rfl (by omega) ?_
              refine v_is rfl rfl (by decide) (by decide) (by omega) ?_
              refine v_iinc (v := 3) rfl rfl (by decide) (by decide) ?_
              refine q_goto (t := 75) rfl (by decide) ?_
              refine q_iload rfl rfl ?_
              refine q_iconst rfl ?_
              refine v_ic_ge_f (t := 142) rfl (by decide) (by decide) ?_
              refine q_aload_n rfl rfl ?_
              refine q_iload_n rfl rfl ?_
              refine q_iload_n rfl rfl ?_
              refine q_iload rfl rfl ?_
              have hI_136 := iw_row (a := 59) (j := 4 * a3 + 2) (v := (fal (c 49 a1) (c 59 (a1 + 30)) 2 (c 59 (4 * a2 + 2))) + c 59 (4 * a3 + 2)) hI_135 (by omega) (Or.inl rfl) ⟨by omega, by omega, by omega⟩
              have hI_137 := iw_row (a := 59) (j := 4 * a4 + 2) (v := c 59 (4 * a2 + 2) + c 59 (4 * a4 + 2) - (fal (c 49 a1) (c 59 (a1 + 30)) 2 (c 59 (4 * a2 + 2)))) hI_136 (by omega) (Or.inl rfl) ⟨by omega, by omega, by omega⟩
              refine v_cv rfl rfl rfl rfl (by decide) ⟨⟨rfl, rfl⟩, by decide, rfl⟩ (Nat.le_of_ble_eq_true rfl) (Nat.le_of_ble_eq_true rfl) (s_189 (v1 := c 49 a1) (v2 := c 59 (a1 + 30)) (v3 := c 59 (4 * a2 + 3)) (r := (fal (c 49 a1) (c 59 (a1 + 30)) 3 (c 59 (4 * a2 + 3)))) (a1 := a1) (a2 := a2) (a3 := 3) hI_137 (show 0 ≤ a1 ∧ a1 ≤ 3 from by omega) (show 0 ≤ a2 ∧ a2 ≤ 5 from by omega) (show 0 ≤ 3 ∧ 3 ≤ 3 from by omega) (((up_c (by decide)).trans ((up_c (by decide)).trans ((up_c (by decide)).trans ((up_c (by decide)).trans ((up_c (by decide)).trans (up_c (by decide)))))))) (((up_n (by omega)).trans ((up_n (by omega)).trans ((up_n (by omega)).trans ((up_n (by omega)).trans ((up_n (by omega)).trans (up_n (by omega)))))))) (((up_n (by omega)).trans ((up_n (by omega)).trans ((up_n (by omega)).trans ((up_n (by omega)).trans ((up_n (by omega)).trans (up_n (by omega)))))))) rfl ?_)
              refine bk_inl ?_
              refine q_istore rfl (by decide) ?_
              refine q_aload_n rfl rfl ?_
              refine v_gr (t := 59) rfl rfl rfl (by decide) rfl ?_
              refine q_iconst rfl ?_
              refine q_iload_n rfl rfl ?_
              refine v_imul (v := 4 * a3) rfl (by omega) ?_
              refine q_iload rfl rfl ?_
              refine v_iadd (v := 4 * a3 + 3) rfl (by omega) ?_
              refine q_dup2 rfl ⟨rfl, rfl⟩ ?_
              refine v_ia (v := c 59 (4 * a3 + 3)) rfl rfl (by decide) (by decide) (by omega) ((up_n (by omega)).trans ((up_n (by omega)).trans ((up_n (by omega)).trans ((up_n (by omega)).trans ((up_n (by omega)).trans (up_n (by omega))))))) ?_
              refine q_iload rfl rfl ?_
              refine v_iadd (v := (fal (c 49 a1) (c 59 (a1 + 30)) 3 (c 59 (4 * a2 + 3))) + c 59 (4 * a3 + 3)) rfl (by omega) ?_
              refine v_is rfl rfl (by decide) (by decide) (by omega) ?_
              refine q_aload_n rfl rfl ?_
              refine v_gr (t := 59) rfl rfl rfl (by decide) rfl ?_
              refine q_iconst rfl ?_
              refine q_iload rfl rfl ?_
              refine v_imul (v := 4 * a4) rfl (by omega) ?_
              refine q_iload rfl rfl ?_
              refine v_iadd (v := 4 * a4 + 3) rfl (by omega) ?_
              refine q_dup2 rfl ⟨rfl, rfl⟩ ?_
              refine v_ia (v := c 59 (4 * a4 + 3)) rfl rfl (by decide) (by decide) (by omega) ((up_n (by omega)).trans ((up_n (by omega)).trans ((up_n (by omega)).trans ((up_n (by omega)).trans ((up_n (by omega)).trans ((up_n (by omega)).trans (up_n (by omega)))))))) ?_
              refine q_aload_n rfl rfl ?_
              refine v_gr (t := 59) rfl rfl rfl (by decide) rfl ?_
              refine q_iconst rfl ?_
              refine q_iload_n rfl rfl ?_
              refine v_imul (v := 4 * a2) rfl (by omega) ?_
              refine q_iload rfl rfl ?_
              refine v_iadd (v := 4 * a2 + 3) rfl (by omega) ?_
              refine v_ia (v := c 59 (4 * a2 + 3)) rfl rfl (by decide) (by decide) (by omega) ((up_n (by omega)).trans ((up_n (by omega)).trans ((up_n (by omega)).trans ((up_n (by omega)).trans ((up_n (by omega)).trans ((up_n (by omega)).trans (up_n (by omega)))))))) ?_
              refine q_iload rfl rfl ?_
              refine v_isub (v := c 59 (4 * a2 + 3) - (fal (c 49 a1) (c 59 (a1 + 30)) 3 (c 59 (4 * a2 + 3)))) rfl (by omega) ?_
              refine v_iadd (v := c 59 (4 * a2 + 3) + c 59 (4 * a4 + 3) - (fal (c 49 a1) (c 59 (a1 + 30)) 3 (c 59 (4 * a2 + 3)))) rfl (by omega) ?_
              refine v_is rfl rfl (by decide) (by decide) (by omega) ?_
              refine v_iinc (v := 4) rfl rfl (by decide) (by decide) ?_
              refine Wp_ls [(6, vi 4), (7, vi (fal (c 49 a1) (c 59 (a1 + 30)) 3 (c 59 (4 * a2 + 3)))), (5, vi ((fal (c 49 a1) (c 59 (a1 + 30)) 0 (c 59 (4 * a2))) + (fal (c 49 a1) (c 59 (a1 + 30)) 1 (c 59 (4 * a2 + 1))) + (fal (c 49 a1) (c 59 (a1 + 30)) 2 (c 59 (4 * a2 + 2))) + (fal (c 49 a1) (c 59 (a1 + 30)) 3 (c 59 (4 * a2 + 3))))), (0, .ref 41), (1, vi a1), (2, vi a2), (3, vi a3), (4, vi a4)] (lsub_cons rfl (lsub_cons rfl (lsub_cons rfl (lsub_cons rfl (lsub_cons rfl (lsub_cons rfl (lsub_cons rfl (lsub_cons rfl lsub_nil)))))))) ?_
              refine q_goto (t := 75) rfl (by decide) ?_
              refine q_iload rfl rfl ?_
              refine q_iconst rfl ?_
              refine v_ic_ge_t (t := 142) rfl (by decide) (by decide) ?_
              refine q_iload rfl rfl ?_
              by_cases h_138 : (fal (c 49 a1) (c 59 (a1 + 30)) 0 (c 59 (4 * a2))) + (fal (c 49 a1) (c 59 (a1 + 30)) 1 (c 59 (4 * a2 + 1))) + (fal (c 49 a1) (c 59 (a1 + 30)) 2 (c 59 (4 * a2 + 2))) + (fal (c 49 a1) (c 59 (a1 + 30)) 3 (c 59 (4 * a2 + 3))) ≤ 0
              · refine v_if_le_t (t := 161) rfl (by decide) (by omega) ?_
                refine q_iload rfl rfl ?_
                refine q_aload_n rfl rfl ?_
                refine q_iload_n rfl rfl ?_
                have hI_139 := iw_row (a := 59) (j := 4 * a3 + 3) (v := (fal (c 49 a1) (c 59 (a1 + 30)) 3 (c 59 (4 * a2 + 3))) + c 59 (4 * a3 + 3)) hI_137 (by omega) (Or.inl rfl) ⟨by omega, by omega, by omega⟩
                have hI_140 := iw_row (a := 59) (j := 4 * a4 + 3) (v := c 59 (4 * a2 + 3) + c 59 (4 * a4 + 3) - (fal (c 49 a1) (c 59 (a1 + 30)) 3 (c 59 (4 * a2 + 3)))) hI_139 (by omega) (Or.inl rfl) ⟨by omega, by omega, by omega⟩
                refine v_cv rfl rfl rfl rfl (by decide) ⟨⟨rfl, rfl⟩, by decide, rfl⟩ (Nat.le_of_ble_eq_true rfl) (Nat.le_of_ble_eq_true rfl) (s_187 (v1 := c 59 (4 * a2)) (v2 := c 59 (4 * a2 + 1)) (v3 := c 59 (4 * a2 + 2)) (v4 := c 59 (4 * a2 + 3)) (r := c 59 (4 * a2 + 1) + c 59 (4 * a2 + 2) + c 59 (4 * a2 + 3) + c 59 (4 * a2)) (a1 := a2) hI_140 (show 0 ≤ a2 ∧ a2 ≤ 5 from by omega) (((up_n (by omega)).trans ((up_n (by omega)).trans ((up_n (by omega)).trans ((up_n (by omega)).trans ((up_n (by omega)).trans ((up_n (by omega)).trans ((up_n (by omega)).trans (up_n (by omega)))))))))) (((up_n (by omega)).trans ((up_n (by omega)).trans ((up_n (by omega)).trans ((up_n (by omega)).trans ((up_n (by omega)).trans ((up_n (by omega)).trans ((up_n (by omega)).trans (up_n (by omega)))))))))) (((up_n (by omega)).trans ((up_n (by omega)).trans ((up_n (by omega)).trans ((up_n (by omega)).trans ((up_n (by omega)).trans ((up_n (by omega)).trans ((up_n (by omega)).trans (up_n (by omega)))))))))) (((up_n (by omega)).trans ((up_n (by omega)).trans ((up_n (by omega)).trans ((up_n (by omega)).trans ((up_n (by omega)).trans ((up_n (by omega)).trans ((up_n (by omega)).trans (up_n (by omega)))))))))) (by omega) ?_)
                refine bk_inl ?_
                refine v_ic_ge_f (t := 186) rfl (by decide) (by omega) ?_
                refine q_aload_n rfl rfl ?_
                refine q_iload rfl rfl ?_
                refine q_aload_n rfl rfl ?_
                refine v_gr (t := 59) rfl rfl rfl (by decide) rfl ?_
                refine v_bip rfl (by decide) ?_
                refine q_iload_n rfl rfl ?_
                refine v_iadd (v := a2 + 24) rfl (by omega) ?_
                have h_141 := ir_59 hI (a2 + 24)
                refine v_ia (v := c 59 (a2 + 24)) rfl rfl (by decide) (by decide) (by omega) ((up_n (by omega)).trans ((up_n (by omega)).trans ((up_n (by omega)).trans ((up_n (by omega)).trans ((up_n (by omega)).trans ((up_n (by omega)).trans ((up_n (by omega)).trans (up_n (by omega))))))))) ?_
                refine v_cv rfl rfl rfl rfl (by decide) ⟨⟨rfl, rfl⟩, by decide, rfl⟩ (Nat.le_of_ble_eq_true rfl) (Nat.le_of_ble_eq_true rfl) (s_191 (a1 := a4) (a2 := c 59 (a2 + 24)) hI_140 (show 0 ≤ a4 ∧ a4 ≤ 5 from by omega) (show (-2147483648) ≤ c 59 (a2 + 24) ∧ c 59 (a2 + 24) ≤ 2147483647 from by omega) (fun c_142 hI_143 hF_144 => ?_))
                refine bk_inl ?_
                refine q_aload_n rfl rfl ?_
                refine q_iload_n rfl rfl ?_
                refine v_cv rfl rfl rfl rfl (by decide) ⟨⟨rfl, rfl⟩, by decide, rfl⟩ (Nat.le_of_ble_eq_true rfl) (Nat.le_of_ble_eq_true rfl) (s_192 (a1 := a2) hI_143 (show 0 ≤ a2 ∧ a2 ≤ 5 from by omega) (fun c_145 hI_146 hF_147 h_148 => ?_))
                refine bk_inl ?_
                have h_149 := ir_59_g hI_146 (j := 4 * a2 + 1) (by omega)
                have h_150 := ir_59_g hI_146 (j := 4 * a2 + 2) (by omega)
                have h_151 := ir_59_g hI_146 (j := 4 * a2 + 3) (by omega)
                have h_152 := ir_59_g hI_146 (j := 4 * a2) (by omega)
                refine q_iconst rfl ?_
                refine v_zret rfl rfl (by omega) ?_
                have hr_153 : ∀ j : Int, rs 59 j → c_145 59 j + c_145 59 (j + 1) + c_145 59 (j + 2) + c_145 59 (j + 3) ≤ 9999 := by
                  intro j9 hj9
                  obtain ⟨k9, rfl, hk9⟩ := rs_59 hj9
                  by_cases e_154 : k9 = a2
                  · skip
                    have h_155 : c_145 59 (4 * k9) = c_145 59 (4 * a2) := (congrArg (c_145 59) (show 4 * k9 = 4 * a2 from by omega))
                    have h_156 : c_145 59 (4 * k9 + 1) = c_145 59 (4 * a2 + 1) := (congrArg (c_145 59) (show 4 * k9 + 1 = 4 * a2 + 1 from by omega))
                    have h_157 : c_145 59 (4 * k9 + 2) = c_145 59 (4 * a2 + 2) := (congrArg (c_145 59) (show 4 * k9 + 2 = 4 * a2 + 2 from by omega))
                    have h_158 : c_145 59 (4 * k9 + 3) = c_145 59 (4 * a2 + 3) := (congrArg (c_145 59) (show 4 * k9 + 3 = 4 * a2 + 3 from by omega))
                    omega
                  by_cases e_159 : k9 = a3
                  · skip
                    have h_160 : c_145 59 (4 * k9) = (fal (c 49 a1) (c 59 (a1 + 30)) 0 (c 59 (4 * a2))) + c 59 (4 * a3) := (congrArg (c_145 59) (show 4 * k9 = 4 * a3 from by omega)).trans ((hF_147 59 (4 * a3) (by omega)).trans ((hF_144 59 (4 * a3) (by omega)).trans ((up_n (by omega)).trans ((up_n (by omega)).trans ((up_n (by omega)).trans ((up_n (by omega)).trans ((up_n (by omega)).trans ((up_n (by omega)).trans ((up_n (by omega)).trans (up_e rfl))))))))))
                    have h_161 : c_145 59 (4 * k9 + 1) = (fal (c 49 a1) (c 59 (a1 + 30)) 1 (c 59 (4 * a2 + 1))) + c 59 (4 * a3 + 1) := (congrArg (c_145 59) (show 4 * k9 + 1 = 4 * a3 + 1 from by omega)).trans ((hF_147 59 (4 * a3 + 1) (by omega)).trans ((hF_144 59 (4 * a3 + 1) (by omega)).trans ((up_n (by omega)).trans ((up_n (by omega)).trans ((up_n (by omega)).trans ((up_n (by omega)).trans ((up_n (by omega)).trans (up_e rfl))))))))
                    have h_162 : c_145 59 (4 * k9 + 2) = (fal (c 49 a1) (c 59 (a1 + 30)) 2 (c 59 (4 * a2 + 2))) + c 59 (4 * a3 + 2) := (congrArg (c_145 59) (show 4 * k9 + 2 = 4 * a3 + 2 from by omega)).trans ((hF_147 59 (4 * a3 + 2) (by omega)).trans ((hF_144 59 (4 * a3 + 2) (by omega)).trans ((up_n (by omega)).trans ((up_n (by omega)).trans ((up_n (by omega)).trans (up_e rfl))))))
                    have h_163 : c_145 59 (4 * k9 + 3) = (fal (c 49 a1) (c 59 (a1 + 30)) 3 (c 59 (4 * a2 + 3))) + c 59 (4 * a3 + 3) := (congrArg (c_145 59) (show 4 * k9 + 3 = 4 * a3 + 3 from by omega)).trans ((hF_147 59 (4 * a3 + 3) (by omega)).trans ((hF_144 59 (4 * a3 + 3) (by omega)).trans ((up_n (by omega)).trans (up_e rfl))))
                    omega
                  by_cases e_164 : k9 = a4
                  · skip
                    have h_165 : c_145 59 (4 * k9) = c 59 (4 * a2) + c 59 (4 * a4) - (fal (c 49 a1) (c 59 (a1 + 30)) 0 (c 59 (4 * a2))) := (congrArg (c_145 59) (show 4 * k9 = 4 * a4 from by omega)).trans ((hF_147 59 (4 * a4) (by omega)).trans ((hF_144 59 (4 * a4) (by omega)).trans ((up_n (by omega)).trans ((up_n (by omega)).trans ((up_n (by omega)).trans ((up_n (by omega)).trans ((up_n (by omega)).trans ((up_n (by omega)).trans (up_e rfl)))))))))
                    have h_166 : c_145 59 (4 * k9 + 1) = c 59 (4 * a2 + 1) + c 59 (4 * a4 + 1) - (fal (c 49 a1) (c 59 (a1 + 30)) 1 (c 59 (4 * a2 + 1))) := (congrArg (c_145 59) (show 4 * k9 + 1 = 4 * a4 + 1 from by omega)).trans ((hF_147 59 (4 * a4 + 1) (by omega)).trans ((hF_144 59 (4 * a4 + 1) (by omega)).trans ((up_n (by omega)).trans ((up_n (by omega)).trans ((up_n (by omega)).trans ((up_n (by omega)).trans (up_e rfl)))))))
                    have h_167 : c_145 59 (4 * k9 + 2) = c 59 (4 * a2 + 2) + c 59 (4 * a4 + 2) - (fal (c 49 a1) (c 59 (a1 + 30)) 2 (c 59 (4 * a2 + 2))) := (congrArg (c_145 59) (show 4 * k9 + 2 = 4 * a4 + 2 from by omega)).trans ((hF_147 59 (4 * a4 + 2) (by omega)).trans ((hF_144 59 (4 * a4 + 2) (by omega)).trans ((up_n (by omega)).trans ((up_n (by omega)).trans (up_e rfl)))))
                    have h_168 : c_145 59 (4 * k9 + 3) = c 59 (4 * a2 + 3) + c 59 (4 * a4 + 3) - (fal (c 49 a1) (c 59 (a1 + 30)) 3 (c 59 (4 * a2 + 3))) := (congrArg (c_145 59) (show 4 * k9 + 3 = 4 * a4 + 3 from by omega)).trans ((hF_147 59 (4 * a4 + 3) (by omega)).trans ((hF_144 59 (4 * a4 + 3) (by omega)).trans (up_e rfl)))
                    omega
                  have h_169 := iv_r hI 59 (4 * k9) hj9 (by omega)
                  have h_170 := ir_59_g hI (j := 4 * k9) (by omega)
                  have h_171 : c_145 59 (4 * k9) = c 59 (4 * k9) := ((hF_147 59 (4 * k9) (by omega)).trans ((hF_144 59 (4 * k9) (by omega)).trans ((up_n (by omega)).trans ((up_n (by omega)).trans ((up_n (by omega)).trans ((up_n (by omega)).trans ((up_n (by omega)).trans ((up_n (by omega)).trans ((up_n (by omega)).trans (up_n (by omega)))))))))))
                  have h_172 := ir_59_g hI (j := 4 * k9 + 1) (by omega)
                  have h_173 : c_145 59 (4 * k9 + 1) = c 59 (4 * k9 + 1) := ((hF_147 59 (4 * k9 + 1) (by omega)).trans ((hF_144 59 (4 * k9 + 1) (by omega)).trans ((up_n (by omega)).trans ((up_n (by omega)).trans ((up_n (by omega)).trans ((up_n (by omega)).trans ((up_n (by omega)).trans ((up_n (by omega)).trans ((up_n (by omega)).trans (up_n (by omega)))))))))))
                  have h_174 := ir_59_g hI (j := 4 * k9 + 2) (by omega)
                  have h_175 : c_145 59 (4 * k9 + 2) = c 59 (4 * k9 + 2) := ((hF_147 59 (4 * k9 + 2) (by omega)).trans ((hF_144 59 (4 * k9 + 2) (by omega)).trans ((up_n (by omega)).trans ((up_n (by omega)).trans ((up_n (by omega)).trans ((up_n (by omega)).trans ((up_n (by omega)).trans ((up_n (by omega)).trans ((up_n (by omega)).trans (up_n (by omega)))))))))))
                  have h_176 := ir_59_g hI (j := 4 * k9 + 3) (by omega)
                  have h_177 : c_145 59 (4 * k9 + 3) = c 59 (4 * k9 + 3) := ((hF_147 59 (4 * k9 + 3) (by omega)).trans ((hF_144 59 (4 * k9 + 3) (by omega)).trans ((up_n (by omega)).trans ((up_n (by omega)).trans ((up_n (by omega)).trans ((up_n (by omega)).trans ((up_n (by omega)).trans ((up_n (by omega)).trans ((up_n (by omega)).trans (up_n (by omega)))))))))))
                  omega
                have hI_178 := iv_close hI_146 hr_153
                exact K c_145 1 hI_178 (fun a j hm => (hF_147 a j (by omega)).trans ((hF_144 a j (by omega)).trans ((up_b (by omega)).trans ((up_b (by omega)).trans ((up_b (by omega)).trans ((up_b (by omega)).trans ((up_b (by omega)).trans ((up_b (by omega)).trans ((up_b (by omega)).trans (up_b (by omega))))))))))) ⟨by decide, by decide⟩
              · refine v_if_le_f (t := 161) rfl (by decide) (by omega) ?_
                refine q_aload_n rfl rfl ?_
                refine q_iload_n rfl rfl ?_
                refine q_aload_n rfl rfl ?_
                refine v_gr (t := 59) rfl rfl rfl (by decide) rfl ?_
                refine v_bip rfl (by decide) ?_
                refine q_iload_n rfl rfl ?_
                refine v_iadd (v := a2 + 24) rfl (by omega) ?_
                have h_179 := ir_59 hI (a2 + 24)
                refine v_ia (v := c 59 (a2 + 24)) rfl rfl (by decide) (by decide) (by omega) ((up_n (by omega)).trans ((up_n (by omega)).trans ((up_n (by omega)).trans ((up_n (by omega)).trans ((up_n (by omega)).trans ((up_n (by omega)).trans ((up_n (by omega)).trans (up_n (by omega))))))))) ?_
                have hI_180 := iw_row (a := 59) (j := 4 * a3 + 3) (v := (fal (c 49 a1) (c 59 (a1 + 30)) 3 (c 59 (4 * a2 + 3))) + c 59 (4 * a3 + 3)) hI_137 (by omega) (Or.inl rfl) ⟨by omega, by omega, by omega⟩
                have hI_181 := iw_row (a := 59) (j := 4 * a4 + 3) (v := c 59 (4 * a2 + 3) + c 59 (4 * a4 + 3) - (fal (c 49 a1) (c 59 (a1 + 30)) 3 (c 59 (4 * a2 + 3)))) hI_180 (by omega) (Or.inl rfl) ⟨by omega, by omega, by omega⟩
                refine v_cv rfl rfl rfl rfl (by decide) ⟨⟨rfl, rfl⟩, by decide, rfl⟩ (Nat.le_of_ble_eq_true rfl) (Nat.le_of_ble_eq_true rfl) (s_191 (a1 := a3) (a2 := c 59 (a2 + 24)) hI_181 (show 0 ≤ a3 ∧ a3 ≤ 5 from by omega) (show (-2147483648) ≤ c 59 (a2 + 24) ∧ c 59 (a2 + 24) ≤ 2147483647 from by omega) (fun c_182 hI_183 hF_184 => ?_))
                refine bk_inl ?_
                refine q_iload rfl rfl ?_
                refine q_aload_n rfl rfl ?_
                refine q_iload_n rfl rfl ?_
                refine v_cv rfl rfl rfl rfl (by decide) ⟨⟨rfl, rfl⟩, by decide, rfl⟩ (Nat.le_of_ble_eq_true rfl) (Nat.le_of_ble_eq_true rfl) (s_187 (v1 := c 59 (4 * a2)) (v2 := c 59 (4 * a2 + 1)) (v3 := c 59 (4 * a2 + 2)) (v4 := c 59 (4 * a2 + 3)) (r := c 59 (4 * a2 + 1) + c 59 (4 * a2 + 2) + c 59 (4 * a2 + 3) + c 59 (4 * a2)) (a1 := a2) hI_183 (show 0 ≤ a2 ∧ a2 ≤ 5 from by omega) (((hF_184 59 (4 * a2) (by omega)).trans ((up_n (by omega)).trans ((up_n (by omega)).trans ((up_n (by omega)).trans ((up_n (by omega)).trans ((up_n (by omega)).trans ((up_n (by omega)).trans ((up_n (by omega)).trans (up_n (by omega))))))))))) (((hF_184 59 (4 * a2 + 1) (by omega)).trans ((up_n (by omega)).trans ((up_n (by omega)).trans ((up_n (by omega)).trans ((up_n (by omega)).trans ((up_n (by omega)).trans ((up_n (by omega)).trans ((up_n (by omega)).trans (up_n (by omega))))))))))) (((hF_184 59 (4 * a2 + 2) (by omega)).trans ((up_n (by omega)).trans ((up_n (by omega)).trans ((up_n (by omega)).trans ((up_n (by omega)).trans ((up_n (by omega)).trans ((up_n (by omega)).trans ((up_n (by omega)).trans (up_n (by omega))))))))))) (((hF_184 59 (4 * a2 + 3) (by omega)).trans ((up_n (by omega)).trans ((up_n (by omega)).trans ((up_n (by omega)).trans ((up_n (by omega)).trans ((up_n (by omega)).trans ((up_n (by omega)).trans ((up_n (by omega)).trans (up_n (by omega))))))))))) (by omega) ?_)
                refine bk_inl ?_
                by_cases h_185 : (fal (c 49 a1) (c 59 (a1 + 30)) 0 (c 59 (4 * a2))) + (fal (c 49 a1) (c 59 (a1 + 30)) 1 (c 59 (4 * a2 + 1))) + (fal (c 49 a1) (c 59 (a1 + 30)) 2 (c 59 (4 * a2 + 2))) + (fal (c 49 a1) (c 59 (a1 + 30)) 3 (c 59 (4 * a2 + 3))) ≥ c 59 (4 * a2 + 1) + c 59 (4 * a2 + 2) + c 59 (4 * a2 + 3) + c 59 (4 * a2)
                · refine v_ic_ge_t (t := 186) rfl (by decide) (by omega) ?_
                  refine q_aload_n rfl rfl ?_
                  refine q_iload_n rfl rfl ?_
                  refine v_cv rfl rfl rfl rfl (by decide) ⟨⟨rfl, rfl⟩, by decide, rfl⟩ (Nat.le_of_ble_eq_true rfl) (Nat.le_of_ble_eq_true rfl) (s_192 (a1 := a2) hI_183 (show 0 ≤ a2 ∧ a2 ≤ 5 from by omega) (fun c_186 hI_187 hF_188 h_189 => ?_))
                  refine bk_inl ?_
                  have h_190 := ir_59_g hI_187 (j := 4 * a2 + 1) (by omega)
                  have h_191 := ir_59_g hI_187 (j := 4 * a2 + 2) (by omega)
                  have h_192 := ir_59_g hI_187 (j := 4 * a2 + 3) (by omega)
                  have h_193 := ir_59_g hI_187 (j := 4 * a2) (by omega)
                  refine q_iconst rfl ?_
                  refine v_zret rfl rfl (by omega) ?_
                  have hr_194 : ∀ j : Int, rs 59 j → c_186 59 j + c_186 59 (j + 1) + c_186 59 (j + 2) + c_186 59 (j + 3) ≤ 9999 := by
                    intro j9 hj9
                    obtain ⟨k9, rfl, hk9⟩ := rs_59 hj9
                    by_cases e_195 : k9 = a2
                    · skip
                      have h_196 : c_186 59 (4 * k9) = c_186 59 (4 * a2) := (congrArg (c_186 59) (show 4 * k9 = 4 * a2 from by omega))
                      have h_197 : c_186 59 (4 * k9 + 1) = c_186 59 (4 * a2 + 1) := (congrArg (c_186 59) (show 4 * k9 + 1 = 4 * a2 + 1 from by omega))
                      have h_198 : c_186 59 (4 * k9 + 2) = c_186 59 (4 * a2 + 2) := (congrArg (c_186 59) (show 4 * k9 + 2 = 4 * a2 + 2 from by omega))
                      have h_199 : c_186 59 (4 * k9 + 3) = c_186 59 (4 * a2 + 3) := (congrArg (c_186 59) (show 4 * k9 + 3 = 4 * a2 + 3 from by omega))
                      omega
                    by_cases e_200 : k9 = a3
                    · skip
                      have h_201 : c_186 59 (4 * k9) = (fal (c 49 a1) (c 59 (a1 + 30)) 0 (c 59 (4 * a2))) + c 59 (4 * a3) := (congrArg (c_186 59) (show 4 * k9 = 4 * a3 from by omega)).trans ((hF_188 59 (4 * a3) (by omega)).trans ((hF_184 59 (4 * a3) (by omega)).trans ((up_n (by omega)).trans ((up_n (by omega)).trans ((up_n (by omega)).trans ((up_n (by omega)).trans ((up_n (by omega)).trans ((up_n (by omega)).trans ((up_n (by omega)).trans (up_e rfl))))))))))
                      have h_202 : c_186 59 (4 * k9 + 1) = (fal (c 49 a1) (c 59 (a1 + 30)) 1 (c 59 (4 * a2 + 1))) + c 59 (4 * a3 + 1) := (congrArg (c_186 59) (show 4 * k9 + 1 = 4 * a3 + 1 from by omega)).trans ((hF_188 59 (4 * a3 + 1) (by omega)).trans ((hF_184 59 (4 * a3 + 1) (by omega)).trans ((up_n (by omega)).trans ((up_n (by omega)).trans ((up_n (by omega)).trans ((up_n (by omega)).trans ((up_n (by omega)).trans (up_e rfl))))))))
                      have h_203 : c_186 59 (4 * k9 + 2) = (fal (c 49 a1) (c 59 (a1 + 30)) 2 (c 59 (4 * a2 + 2))) + c 59 (4 * a3 + 2) := (congrArg (c_186 59) (show 4 * k9 + 2 = 4 * a3 + 2 from by omega)).trans ((hF_188 59 (4 * a3 + 2) (by omega)).trans ((hF_184 59 (4 * a3 + 2) (by omega)).trans ((up_n (by omega)).trans ((up_n (by omega)).trans ((up_n (by omega)).trans (up_e rfl))))))
                      have h_204 : c_186 59 (4 * k9 + 3) = (fal (c 49 a1) (c 59 (a1 + 30)) 3 (c 59 (4 * a2 + 3))) + c 59 (4 * a3 + 3) := (congrArg (c_186 59) (show 4 * k9 + 3 = 4 * a3 + 3 from by omega)).trans ((hF_188 59 (4 * a3 + 3) (by omega)).trans ((hF_184 59 (4 * a3 + 3) (by omega)).trans ((up_n (by omega)).trans (up_e rfl))))
                      omega
                    by_cases e_205 : k9 = a4
                    · skip
                      have h_206 : c_186 59 (4 * k9) = c 59 (4 * a2) + c 59 (4 * a4) - (fal (c 49 a1) (c 59 (a1 + 30)) 0 (c 59 (4 * a2))) := (congrArg (c_186 59) (show 4 * k9 = 4 * a4 from by omega)).trans ((hF_188 59 (4 * a4) (by omega)).trans ((hF_184 59 (4 * a4) (by omega)).trans ((up_n (by omega)).trans ((up_n (by omega)).trans ((up_n (by omega)).trans ((up_n (by omega)).trans ((up_n (by omega)).trans ((up_n (by omega)).trans (up_e rfl)))))))))
                      have h_207 : c_186 59 (4 * k9 + 1) = c 59 (4 * a2 + 1) + c 59 (4 * a4 + 1) - (fal (c 49 a1) (c 59 (a1 + 30)) 1 (c 59 (4 * a2 + 1))) := (congrArg (c_186 59) (show 4 * k9 + 1 = 4 * a4 + 1 from by omega)).trans ((hF_188 59 (4 * a4 + 1) (by omega)).trans ((hF_184 59 (4 * a4 + 1) (by omega)).trans ((up_n (by omega)).trans ((up_n (by omega)).trans ((up_n (by omega)).trans ((up_n (by omega)).trans (up_e rfl)))))))
                      have h_208 : c_186 59 (4 * k9 + 2) = c 59 (4 * a2 + 2) + c 59 (4 * a4 + 2) - (fal (c 49 a1) (c 59 (a1 + 30)) 2 (c 59 (4 * a2 + 2))) := (congrArg (c_186 59) (show 4 * k9 + 2 = 4 * a4 + 2 from by omega)).trans ((hF_188 59 (4 * a4 + 2) (by omega)).trans ((hF_184 59 (4 * a4 + 2) (by omega)).trans ((up_n (by omega)).trans ((up_n (by omega)).trans (up_e rfl)))))
                      have h_209 : c_186 59 (4 * k9 + 3) = c 59 (4 * a2 + 3) + c 59 (4 * a4 + 3) - (fal (c 49 a1) (c 59 (a1 + 30)) 3 (c 59 (4 * a2 + 3))) := (congrArg (c_186 59) (show 4 * k9 + 3 = 4 * a4 + 3 from by omega)).trans ((hF_188 59 (4 * a4 + 3) (by omega)).trans ((hF_184 59 (4 * a4 + 3) (by omega)).trans (up_e rfl)))
                      omega
                    have h_210 := iv_r hI 59 (4 * k9) hj9 (by omega)
                    have h_211 := ir_59_g hI (j := 4 * k9) (by omega)
                    have h_212 : c_186 59 (4 * k9) = c 59 (4 * k9) := ((hF_188 59 (4 * k9) (by omega)).trans ((hF_184 59 (4 * k9) (by omega)).trans ((up_n (by omega)).trans ((up_n (by omega)).trans ((up_n (by omega)).trans ((up_n (by omega)).trans ((up_n (by omega)).trans ((up_n (by omega)).trans ((up_n (by omega)).trans (up_n (by omega)))))))))))
                    have h_213 := ir_59_g hI (j := 4 * k9 + 1) (by omega)
                    have h_214 : c_186 59 (4 * k9 + 1) = c 59 (4 * k9 + 1) := ((hF_188 59 (4 * k9 + 1) (by omega)).trans ((hF_184 59 (4 * k9 + 1) (by omega)).trans ((up_n (by omega)).trans ((up_n (by omega)).trans ((up_n (by omega)).trans ((up_n (by omega)).trans ((up_n (by omega)).trans ((up_n (by omega)).trans ((up_n (by omega)).trans (up_n (by omega)))))))))))
                    have h_215 := ir_59_g hI (j := 4 * k9 + 2) (by omega)
                    have h_216 : c_186 59 (4 * k9 + 2) = c 59 (4 * k9 + 2) := ((hF_188 59 (4 * k9 + 2) (by omega)).trans ((hF_184 59 (4 * k9 + 2) (by omega)).trans ((up_n (by omega)).trans ((up_n (by omega)).trans ((up_n (by omega)).trans ((up_n (by omega)).trans ((up_n (by omega)).trans ((up_n (by omega)).trans ((up_n (by omega)).trans (up_n (by omega)))))))))))
                    have h_217 := ir_59_g hI (j := 4 * k9 + 3) (by omega)
                    have h_218 : c_186 59 (4 * k9 + 3) = c 59 (4 * k9 + 3) := ((hF_188 59 (4 * k9 + 3) (by omega)).trans ((hF_184 59 (4 * k9 + 3) (by omega)).trans ((up_n (by omega)).trans ((up_n (by omega)).trans ((up_n (by omega)).trans ((up_n (by omega)).trans ((up_n (by omega)).trans ((up_n (by omega)).trans ((up_n (by omega)).trans (up_n (by omega)))))))))))
                    omega
                  have hI_219 := iv_close hI_187 hr_194
                  exact K c_186 1 hI_219 (fun a j hm => (hF_188 a j (by omega)).trans ((hF_184 a j (by omega)).trans ((up_b (by omega)).trans ((up_b (by omega)).trans ((up_b (by omega)).trans ((up_b (by omega)).trans ((up_b (by omega)).trans ((up_b (by omega)).trans ((up_b (by omega)).trans (up_b (by omega))))))))))) ⟨by decide, by decide⟩
                · refine v_ic_ge_f (t := 186) rfl (by decide) (by omega) ?_
                  refine q_aload_n rfl rfl ?_
                  refine q_iload rfl rfl ?_
                  refine q_aload_n rfl rfl ?_
                  refine v_gr (t := 59) rfl rfl rfl (by decide) rfl ?_
                  refine v_bip rfl (by decide) ?_
                  refine q_iload_n rfl rfl ?_
                  refine v_iadd (v := a2 + 24) rfl (by omega) ?_
                  refine v_ia (v := c 59 (a2 + 24)) rfl rfl (by decide) (by decide) (by omega) ((hF_184 59 (a2 + 24) (by omega)).trans ((up_n (by omega)).trans ((up_n (by omega)).trans ((up_n (by omega)).trans ((up_n (by omega)).trans ((up_n (by omega)).trans ((up_n (by omega)).trans ((up_n (by omega)).trans (up_n (by omega)))))))))) ?_
                  refine v_cv rfl rfl rfl rfl (by decide) ⟨⟨rfl, rfl⟩, by decide, rfl⟩ (Nat.le_of_ble_eq_true rfl) (Nat.le_of_ble_eq_true rfl) (s_191 (a1 := a4) (a2 := c 59 (a2 + 24)) hI_183 (show 0 ≤ a4 ∧ a4 ≤ 5 from by omega) (show (-2147483648) ≤ c 59 (a2 + 24) ∧ c 59 (a2 + 24) ≤ 2147483647 from by omega) (fun c_220 hI_221 hF_222 => ?_))
                  refine bk_inl ?_
                  refine q_aload_n rfl rfl ?_
                  refine q_iload_n rfl rfl ?_
                  refine v_cv rfl rfl rfl rfl (by decide) ⟨⟨rfl, rfl⟩, by decide, rfl⟩ (Nat.le_of_ble_eq_true rfl) (Nat.le_of_ble_eq_true rfl) (s_192 (a1 := a2) hI_221 (show 0 ≤ a2 ∧ a2 ≤ 5 from by omega) (fun c_223 hI_224 hF_225 h_226 => ?_))
                  refine bk_inl ?_
                  have h_227 := ir_59_g hI_224 (j := 4 * a2 + 1) (by omega)
                  have h_228 := ir_59_g hI_224 (j := 4 * a2 + 2) (by omega)
                  have h_229 := ir_59_g hI_224 (j := 4 * a2 + 3) (by omega)
                  have h_230 := ir_59_g hI_224 (j := 4 * a2) (by omega)
                  refine q_iconst rfl ?_
                  refine v_zret rfl rfl (by omega) ?_
                  have hr_231 : ∀ j : Int, rs 59 j → c_223 59 j + c_223 59 (j + 1) + c_223 59 (j + 2) + c_223 59 (j + 3) ≤ 9999 := by
                    intro j9 hj9
                    obtain ⟨k9, rfl, hk9⟩ := rs_59 hj9
                    by_cases e_232 : k9 = a2
                    · skip
                      have h_233 : c_223 59 (4 * k9) = c_223 59 (4 * a2) := (congrArg (c_223 59) (show 4 * k9 = 4 * a2 from by omega))
                      have h_234 : c_223 59 (4 * k9 + 1) = c_223 59 (4 * a2 + 1) := (congrArg (c_223 59) (show 4 * k9 + 1 = 4 * a2 + 1 from by omega))
                      have h_235 : c_223 59 (4 * k9 + 2) = c_223 59 (4 * a2 + 2) := (congrArg (c_223 59) (show 4 * k9 + 2 = 4 * a2 + 2 from by omega))
                      have h_236 : c_223 59 (4 * k9 + 3) = c_223 59 (4 * a2 + 3) := (congrArg (c_223 59) (show 4 * k9 + 3 = 4 * a2 + 3 from by omega))
                      omega
                    by_cases e_237 : k9 = a3
                    · skip
                      have h_238 : c_223 59 (4 * k9) = (fal (c 49 a1) (c 59 (a1 + 30)) 0 (c 59 (4 * a2))) + c 59 (4 * a3) := (congrArg (c_223 59) (show 4 * k9 = 4 * a3 from by omega)).trans ((hF_225 59 (4 * a3) (by omega)).trans ((hF_222 59 (4 * a3) (by omega)).trans ((hF_184 59 (4 * a3) (by omega)).trans ((up_n (by omega)).trans ((up_n (by omega)).trans ((up_n (by omega)).trans ((up_n (by omega)).trans ((up_n (by omega)).trans ((up_n (by omega)).trans ((up_n (by omega)).trans (up_e rfl)))))))))))
                      have h_239 : c_223 59 (4 * k9 + 1) = (fal (c 49 a1) (c 59 (a1 + 30)) 1 (c 59 (4 * a2 + 1))) + c 59 (4 * a3 + 1) := (congrArg (c_223 59) (show 4 * k9 + 1 = 4 * a3 + 1 from by omega)).trans ((hF_225 59 (4 * a3 + 1) (by omega)).trans ((hF_222 59 (4 * a3 + 1) (by omega)).trans ((hF_184 59 (4 * a3 + 1) (by omega)).trans ((up_n (by omega)).trans ((up_n (by omega)).trans ((up_n (by omega)).trans ((up_n (by omega)).trans ((up_n (by omega)).trans (up_e rfl)))))))))
                      have h_240 : c_223 59 (4 * k9 + 2) = (fal (c 49 a1) (c 59 (a1 + 30)) 2 (c 59 (4 * a2 + 2))) + c 59 (4 * a3 + 2) := (congrArg (c_223 59) (show 4 * k9 + 2 = 4 * a3 + 2 from by omega)).trans ((hF_225 59 (4 * a3 + 2) (by omega)).trans ((hF_222 59 (4 * a3 + 2) (by omega)).trans ((hF_184 59 (4 * a3 + 2) (by omega)).trans ((up_n (by omega)).trans ((up_n (by omega)).trans ((up_n (by omega)).trans (up_e rfl)))))))
                      have h_241 : c_223 59 (4 * k9 + 3) = (fal (c 49 a1) (c 59 (a1 + 30)) 3 (c 59 (4 * a2 + 3))) + c 59 (4 * a3 + 3) := (congrArg (c_223 59) (show 4 * k9 + 3 = 4 * a3 + 3 from by omega)).trans ((hF_225 59 (4 * a3 + 3) (by omega)).trans ((hF_222 59 (4 * a3 + 3) (by omega)).trans ((hF_184 59 (4 * a3 + 3) (by omega)).trans ((up_n (by omega)).trans (up_e rfl)))))
                      omega
                    by_cases e_242 : k9 = a4
                    · skip
                      have h_243 : c_223 59 (4 * k9) = c 59 (4 * a2) + c 59 (4 * a4) - (fal (c 49 a1) (c 59 (a1 + 30)) 0 (c 59 (4 * a2))) := (congrArg (c_223 59) (show 4 * k9 = 4 * a4 from by omega)).trans ((hF_225 59 (4 * a4) (by omega)).trans ((hF_222 59 (4 * a4) (by omega)).trans ((hF_184 59 (4 * a4) (by omega)).trans ((up_n (by omega)).trans ((up_n (by omega)).trans ((up_n (by omega)).trans ((up_n (by omega)).trans ((up_n (by omega)).trans ((up_n (by omega)).trans (up_e rfl))))))))))
                      have h_244 : c_223 59 (4 * k9 + 1) = c 59 (4 * a2 + 1) + c 59 (4 * a4 + 1) - (fal (c 49 a1) (c 59 (a1 + 30)) 1 (c 59 (4 * a2 + 1))) := (congrArg (c_223 59) (show 4 * k9 + 1 = 4 * a4 + 1 from by omega)).trans ((hF_225 59 (4 * a4 + 1) (by omega)).trans ((hF_222 59 (4 * a4 + 1) (by omega)).trans ((hF_184 59 (4 * a4 + 1) (by omega)).trans ((up_n (by omega)).trans ((up_n (by omega)).trans ((up_n (by omega)).trans ((up_n (by omega)).trans (up_e rfl))))))))
                      have h_245 : c_223 59 (4 * k9 + 2) = c 59 (4 * a2 + 2) + c 59 (4 * a4 + 2) - (fal (c 49 a1) (c 59 (a1 + 30)) 2 (c 59 (4 * a2 + 2))) := (congrArg (c_223 59) (show 4 * k9 + 2 = 4 * a4 + 2 from by omega)).trans ((hF_225 59 (4 * a4 + 2) (by omega)).trans ((hF_222 59 (4 * a4 + 2) (by omega)).trans ((hF_184 59 (4 * a4 + 2) (by omega)).trans ((up_n (by omega)).trans ((up_n (by omega)).trans (up_e rfl))))))
                      have h_246 : c_223 59 (4 * k9 + 3) = c 59 (4 * a2 + 3) + c 59 (4 * a4 + 3) - (fal (c 49 a1) (c 59 (a1 + 30)) 3 (c 59 (4 * a2 + 3))) := (congrArg (c_223 59) (show 4 * k9 + 3 = 4 * a4 + 3 from by omega)).trans ((hF_225 59 (4 * a4 + 3) (by omega)).trans ((hF_222 59 (4 * a4 + 3) (by omega)).trans ((hF_184 59 (4 * a4 + 3) (by omega)).trans (up_e rfl))))
                      omega
                    have h_247 := iv_r hI 59 (4 * k9) hj9 (by omega)
                    have h_248 := ir_59_g hI (j := 4 * k9) (by omega)
                    have h_249 : c_223 59 (4 * k9) = c 59 (4 * k9) := ((hF_225 59 (4 * k9) (by omega)).trans ((hF_222 59 (4 * k9) (by omega)).trans ((hF_184 59 (4 * k9) (by omega)).trans ((up_n (by omega)).trans ((up_n (by omega)).trans ((up_n (by omega)).trans ((up_n (by omega)).trans ((up_n (by omega)).trans ((up_n (by omega)).trans ((up_n (by omega)).trans (up_n (by omega))))))))))))
                    have h_250 := ir_59_g hI (j := 4 * k9 + 1) (by omega)
                    have h_251 : c_223 59 (4 * k9 + 1) = c 59 (4 * k9 + 1) := ((hF_225 59 (4 * k9 + 1) (by omega)).trans ((hF_222 59 (4 * k9 + 1) (by omega)).trans ((hF_184 59 (4 * k9 + 1) (by omega)).trans ((up_n (by omega)).trans ((up_n (by omega)).trans ((up_n (by omega)).trans ((up_n (by omega)).trans ((up_n (by omega)).trans ((up_n (by omega)).trans ((up_n (by omega)).trans (up_n (by omega))))))))))))
                    have h_252 := ir_59_g hI (j := 4 * k9 + 2) (by omega)
                    have h_253 : c_223 59 (4 * k9 + 2) = c 59 (4 * k9 + 2) := ((hF_225 59 (4 * k9 + 2) (by omega)).trans ((hF_222 59 (4 * k9 + 2) (by omega)).trans ((hF_184 59 (4 * k9 + 2) (by omega)).trans ((up_n (by omega)).trans ((up_n (by omega)).trans ((up_n (by omega)).trans ((up_n (by omega)).trans ((up_n (by omega)).trans ((up_n (by omega)).trans ((up_n (by omega)).trans (up_n (by omega))))))))))))
                    have h_254 := ir_59_g hI (j := 4 * k9 + 3) (by omega)
                    have h_255 : c_223 59 (4 * k9 + 3) = c 59 (4 * k9 + 3) := ((hF_225 59 (4 * k9 + 3) (by omega)).trans ((hF_222 59 (4 * k9 + 3) (by omega)).trans ((hF_184 59 (4 * k9 + 3) (by omega)).trans ((up_n (by omega)).trans ((up_n (by omega)).trans ((up_n (by omega)).trans ((up_n (by omega)).trans ((up_n (by omega)).trans ((up_n (by omega)).trans ((up_n (by omega)).trans (up_n (by omega))))))))))))
                    omega
                  have hI_256 := iv_close hI_224 hr_231
                  exact K c_223 1 hI_256 (fun a j hm => (hF_225 a j (by omega)).trans ((hF_222 a j (by omega)).trans ((hF_184 a j (by omega)).trans ((up_b (by omega)).trans ((up_b (by omega)).trans ((up_b (by omega)).trans ((up_b (by omega)).trans ((up_b (by omega)).trans ((up_b (by omega)).trans ((up_b (by omega)).trans (up_b (by omega)))))))))))) ⟨by decide, by decide⟩
            · refine v_ic_le_f (t := 72) rfl (by decide) (by omega) ?_
              refine q_iconst rfl ?_
              refine v_zret rfl rfl (by omega) ?_
              have hr_257 : ∀ j : Int, rs 59 j → c 59 j + c 59 (j + 1) + c 59 (j + 2) + c 59 (j + 3) ≤ 9999 := by
                intro j9 hj9
                obtain ⟨k9, rfl, hk9⟩ := rs_59 hj9
                by_cases e_258 : k9 = a2
                · skip
                  have h_259 : c 59 (4 * k9) = c 59 (4 * a2) := (congrArg (c 59) (show 4 * k9 = 4 * a2 from by omega))
                  have h_260 : c 59 (4 * k9 + 1) = c 59 (4 * a2 + 1) := (congrArg (c 59) (show 4 * k9 + 1 = 4 * a2 + 1 from by omega))
                  have h_261 : c 59 (4 * k9 + 2) = c 59 (4 * a2 + 2) := (congrArg (c 59) (show 4 * k9 + 2 = 4 * a2 + 2 from by omega))
                  have h_262 : c 59 (4 * k9 + 3) = c 59 (4 * a2 + 3) := (congrArg (c 59) (show 4 * k9 + 3 = 4 * a2 + 3 from by omega))
                  omega
                by_cases e_263 : k9 = a3
                · skip
                  have h_264 : c 59 (4 * k9) = c 59 (4 * a3) := (congrArg (c 59) (show 4 * k9 = 4 * a3 from by omega))
                  have h_265 : c 59 (4 * k9 + 1) = c 59 (4 * a3 + 1) := (congrArg (c 59) (show 4 * k9 + 1 = 4 * a3 + 1 from by omega))
                  have h_266 : c 59 (4 * k9 + 2) = c 59 (4 * a3 + 2) := (congrArg (c 59) (show 4 * k9 + 2 = 4 * a3 + 2 from by omega))
                  have h_267 : c 59 (4 * k9 + 3) = c 59 (4 * a3 + 3) := (congrArg (c 59) (show 4 * k9 + 3 = 4 * a3 + 3 from by omega))
                  omega
                by_cases e_268 : k9 = a4
                · skip
                  have h_269 : c 59 (4 * k9) = c 59 (4 * a4) := (congrArg (c 59) (show 4 * k9 = 4 * a4 from by omega))
                  have h_270 : c 59 (4 * k9 + 1) = c 59 (4 * a4 + 1) := (congrArg (c 59) (show 4 * k9 + 1 = 4 * a4 + 1 from by omega))
                  have h_271 : c 59 (4 * k9 + 2) = c 59 (4 * a4 + 2) := (congrArg (c 59) (show 4 * k9 + 2 = 4 * a4 + 2 from by omega))
                  have h_272 : c 59 (4 * k9 + 3) = c 59 (4 * a4 + 3) := (congrArg (c 59) (show 4 * k9 + 3 = 4 * a4 + 3 from by omega))
                  omega
                have h_273 := iv_r hI 59 (4 * k9) hj9 (by omega)
                have h_274 := ir_59_g hI (j := 4 * k9) (by omega)
                have h_275 : c 59 (4 * k9) = c 59 (4 * k9) := rfl
                have h_276 := ir_59_g hI (j := 4 * k9 + 1) (by omega)
                have h_277 : c 59 (4 * k9 + 1) = c 59 (4 * k9 + 1) := rfl
                have h_278 := ir_59_g hI (j := 4 * k9 + 2) (by omega)
                have h_279 : c 59 (4 * k9 + 2) = c 59 (4 * k9 + 2) := rfl
                have h_280 := ir_59_g hI (j := 4 * k9 + 3) (by omega)
                have h_281 : c 59 (4 * k9 + 3) = c 59 (4 * k9 + 3) := rfl
                omega
              have hI_282 := iv_close hIo hr_257
              exact K c 0 hI_282 (fun a j hm => rfl) ⟨by decide, by decide⟩
        · refine v_ic_ne_f (t := 27) rfl (by decide) (by omega) ?_
          refine q_iconst rfl ?_
          refine v_zret rfl rfl (by omega) ?_
          have hr_283 : ∀ j : Int, rs 59 j → c 59 j + c 59 (j + 1) + c 59 (j + 2) + c 59 (j + 3) ≤ 9999 := by
            intro j9 hj9
            obtain ⟨k9, rfl, hk9⟩ := rs_59 hj9
            by_cases e_284 : k9 = a2
            · skip
              have h_285 : c 59 (4 * k9) = c 59 (4 * a2) := (congrArg (c 59) (show 4 * k9 = 4 * a2 from by omega))
              have h_286 : c 59 (4 * k9 + 1) = c 59 (4 * a2 + 1) := (congrArg (c 59) (show 4 * k9 + 1 = 4 * a2 + 1 from by omega))
              have h_287 : c 59 (4 * k9 + 2) = c 59 (4 * a2 + 2) := (congrArg (c 59) (show 4 * k9 + 2 = 4 * a2 + 2 from by omega))
              have h_288 : c 59 (4 * k9 + 3) = c 59 (4 * a2 + 3) := (congrArg (c 59) (show 4 * k9 + 3 = 4 * a2 + 3 from by omega))
              omega
            by_cases e_289 : k9 = a3
            · skip
              have h_290 : c 59 (4 * k9) = c 59 (4 * a3) := (congrArg (c 59) (show 4 * k9 = 4 * a3 from by omega))
              have h_291 : c 59 (4 * k9 + 1) = c 59 (4 * a3 + 1) := (congrArg (c 59) (show 4 * k9 + 1 = 4 * a3 + 1 from by omega))
              have h_292 : c 59 (4 * k9 + 2) = c 59 (4 * a3 + 2) := (congrArg (c 59) (show 4 * k9 + 2 = 4 * a3 + 2 from by omega))
              have h_293 : c 59 (4 * k9 + 3) = c 59 (4 * a3 + 3) := (congrArg (c 59) (show 4 * k9 + 3 = 4 * a3 + 3 from by omega))
              omega
            by_cases e_294 : k9 = a4
            · skip
              have h_295 : c 59 (4 * k9) = c 59 (4 * a4) := (congrArg (c 59) (show 4 * k9 = 4 * a4 from by omega))
              have h_296 : c 59 (4 * k9 + 1) = c 59 (4 * a4 + 1) := (congrArg (c 59) (show 4 * k9 + 1 = 4 * a4 + 1 from by omega))
              have h_297 : c 59 (4 * k9 + 2) = c 59 (4 * a4 + 2) := (congrArg (c 59) (show 4 * k9 + 2 = 4 * a4 + 2 from by omega))
              have h_298 : c 59 (4 * k9 + 3) = c 59 (4 * a4 + 3) := (congrArg (c 59) (show 4 * k9 + 3 = 4 * a4 + 3 from by omega))
              omega
            have h_299 := iv_r hI 59 (4 * k9) hj9 (by omega)
            have h_300 := ir_59_g hI (j := 4 * k9) (by omega)
            have h_301 : c 59 (4 * k9) = c 59 (4 * k9) := rfl
            have h_302 := ir_59_g hI (j := 4 * k9 + 1) (by omega)
            have h_303 : c 59 (4 * k9 + 1) = c 59 (4 * k9 + 1) := rfl
            have h_304 := ir_59_g hI (j := 4 * k9 + 2) (by omega)
            have h_305 : c 59 (4 * k9 + 2) = c 59 (4 * k9 + 2) := rfl
            have h_306 := ir_59_g hI (j := 4 * k9 + 3) (by omega)
            have h_307 : c 59 (4 * k9 + 3) = c 59 (4 * k9 + 3) := rfl
            omega
          have hI_308 := iv_close hIo hr_283
          exact K c 0 hI_308 (fun a j hm => rfl) ⟨by decide, by decide⟩

