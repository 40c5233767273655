/-! ===== contracts 16 ===== -/
set_option maxRecDepth 100000 in
set_option maxHeartbeats 4000000 in
theorem s_248_l {sc : List Int32} {e : Int} {d u P Q : Nat} {c : ME} {a1 : Int} {a2 : Int} {Z : AR → Prop} (hI : Iv u e P Q c) (ha1 : (-2147483648) ≤ a1 ∧ a1 ≤ 2147483647) (ha2 : (-2147483648) ≤ a2 ∧ a2 ≤ 2147483647) (K : ∀ (c2 : ME) (y : Int), Iv u e P Q c2 → (∀ (a : Nat) (j : Int), ¬ ((a = 41 ∧ j = 0) ∨ a = 42) → c2 a j = c a j) → (-2147483648) ≤ y ∧ y ≤ 2147483647 → Z (.inl (some (vi y)), Wd P Q P P c2, 0, 0)) : ∀ n : Nat, (∀ (c2 : ME) (v3 : Int) (v4 : Int) (v5 : Int), Iv u e P Q c2 → (∀ (a : Nat) (j : Int), ¬ ((a = 41 ∧ j = 0) ∨ a = 42) → c2 a j = c a j) → (-2147483648) ≤ v3 ∧ v3 ≤ 2147483647 → (-1) ≤ v4 ∧ v4 ≤ 5 → 0 ≤ v5 ∧ v5 ≤ 6 → ((a1 ≥ 0 ∧ a1 ≤ 3)) → 13 - 2 * v5 < (n : Int) → Wp sc (d + 8) 248 47 [(0, .ref 41), (1, vi a1), (2, vi a2), (3, vi v3), (4, vi v4), (5, vi v5)] [] (Wd P Q P P c2) 0 0 Z)
  | 0 => by intro c2 v3 v4 v5 hI2 hF hv3 hv4 hv5 hx0 hm9; have hP := iv_P hI; have hQ := iv_Q hI; exfalso; omega
  | n + 1 => by
    have hP := iv_P hI
    have hQ := iv_Q hI
    have ih := s_248_l (sc := sc) (d := d) hI ha1 ha2 K n
    intro c2 v3 v4 v5 hI2 hF hv3 hv4 hv5 hx0 hm9
    refine q_iload rfl rfl ?_
    refine q_aload_n rfl rfl ?_
    have h_1 := ir_41_20 hI
    refine v_gi (z := 20) (v := c 41 20) rfl rfl rfl (by decide) rfl rfl (hF 41 20 (by omega)) ?_
    by_cases h_2 : v5 ≥ c 41 20
    · refine v_ic_ge_t (t := 110) rfl (by decide) (by omega) ?_
      refine q_iload_n rfl rfl ?_
      by_cases h_3 : a2 ≠ 0
      · refine v_if_ne_t (t := 118) rfl (by decide) (by omega) ?_
        refine q_iload rfl rfl ?_
        refine q_iret rfl rfl ?_
        exact K c2 v4 hI2 (fun a j hm => hF a j (by omega)) ⟨by omega, by omega⟩
      · refine v_if_ne_f (t := 118) rfl (by decide) (by omega) ?_
        refine q_iload_n rfl rfl ?_
        refine q_goto (t := 120) rfl (by decide) ?_
        refine q_iret rfl rfl ?_
        exact K c2 v3 hI2 (fun a j hm => hF a j (by omega)) ⟨by omega, by omega⟩
    · refine v_ic_ge_f (t := 110) rfl (by decide) (by omega) ?_
      refine q_aload_n rfl rfl ?_
      refine v_gr (t := 58) rfl rfl rfl (by decide) rfl ?_
      refine q_iconst rfl ?_
      refine q_iload rfl rfl ?_
      refine v_imul (v := 4 * v5) rfl (by omega) ?_
      refine q_iload_n rfl rfl ?_
      refine v_iadd (v := a1 + 4 * v5) rfl (by omega) ?_
      have h_4 := ir_58_g hI (j := a1 + 4 * v5) (by omega)
      refine v_ia (v := c 58 (a1 + 4 * v5)) rfl rfl (by decide) (by decide) (by omega) (hF 58 (a1 + 4 * v5) (by omega)) ?_
      refine q_istore rfl (by decide) ?_
      refine q_iload_n rfl rfl ?_
      refine q_iload rfl rfl ?_
      refine v_iadd (v := c 58 (a1 + 4 * v5) + v3) rfl (by omega) ?_
      refine v_nrm (fun y_5 hy_5 => ?_)
      refine q_istore_n rfl (by decide) ?_
      refine q_iload rfl rfl ?_
      refine q_iload rfl rfl ?_
      refine q_iconst rfl ?_
      by_cases h_6 : v4 ≠ (-1)
      · refine v_ic_ne_t (t := 86) rfl (by decide) (by omega) ?_
        refine q_aload_n rfl rfl ?_
        refine v_gr (t := 58) rfl rfl rfl (by decide) rfl ?_
        refine q_iconst rfl ?_
        refine q_iload rfl rfl ?_
        refine v_imul (v := 4 * v4) rfl (by omega) ?_
        refine q_iload_n rfl rfl ?_
        refine v_iadd (v := a1 + 4 * v4) rfl (by omega) ?_
        have h_7 := ir_58_g hI (j := a1 + 4 * v4) (by omega)
        refine v_ia (v := c 58 (a1 + 4 * v4)) rfl rfl (by decide) (by decide) (by omega) (hF 58 (a1 + 4 * v4) (by omega)) ?_
        by_cases h_8 : c 58 (a1 + 4 * v5) ≤ c 58 (a1 + 4 * v4)
        · refine v_ic_le_t (t := 104) rfl (by decide) (by omega) ?_
          refine v_iinc (v := v5 + 1) rfl rfl (by decide) (by omega) ?_
          refine q_goto (t := 47) rfl (by decide) ?_
          refine Wp_ls [(0, .ref 41), (1, vi a1), (2, vi a2), (3, vi y_5), (4, vi v4), (5, vi (v5 + 1))] (lsub_cons rfl (lsub_cons rfl (lsub_cons rfl (lsub_cons rfl (lsub_cons rfl (lsub_cons rfl lsub_nil)))))) ?_
          exact ih c2 y_5 v4 (v5 + 1) hI2 (fun a j hm => hF a j (by omega)) ⟨by omega, by omega⟩ ⟨by omega, by omega⟩ ⟨by omega, by omega⟩ (by omega) (by omega)
        · refine v_ic_le_f (t := 104) rfl (by decide) (by omega) ?_
          refine q_iload rfl rfl ?_
          refine q_istore rfl (by decide) ?_
          refine v_iinc (v := v5 + 1) rfl rfl (by decide) (by omega) ?_
          refine q_goto (t := 47) rfl (by decide) ?_
          refine Wp_ls [(0, .ref 41), (1, vi a1), (2, vi a2), (3, vi y_5), (4, vi v5), (5, vi (v5 + 1))] (lsub_cons rfl (lsub_cons rfl (lsub_cons rfl (lsub_cons rfl (lsub_cons rfl (lsub_cons rfl lsub_nil)))))) ?_
          exact ih c2 y_5 v5 (v5 + 1) hI2 (fun a j hm => hF a j (by omega)) ⟨by omega, by omega⟩ ⟨by omega, by omega⟩ ⟨by omega, by omega⟩ (by omega) (by omega)
      · refine v_ic_ne_f (t := 86) rfl (by decide) (by omega) ?_
        refine q_iconst rfl ?_
        refine q_goto (t := 97) rfl (by decide) ?_
        by_cases h_9 : c 58 (a1 + 4 * v5) ≤ 0
        · refine v_ic_le_t (t := 104) rfl (by decide) (by omega) ?_
          refine v_iinc (v := v5 + 1) rfl rfl (by decide) (by omega) ?_
          refine q_goto (t := 47) rfl (by decide) ?_
          refine Wp_ls [(0, .ref 41), (1, vi a1), (2, vi a2), (3, vi y_5), (4, vi v4), (5, vi (v5 + 1))] (lsub_cons rfl (lsub_cons rfl (lsub_cons rfl (lsub_cons rfl (lsub_cons rfl (lsub_cons rfl lsub_nil)))))) ?_
          exact ih c2 y_5 v4 (v5 + 1) hI2 (fun a j hm => hF a j (by omega)) ⟨by omega, by omega⟩ ⟨by omega, by omega⟩ ⟨by omega, by omega⟩ (by omega) (by omega)
        · refine v_ic_le_f (t := 104) rfl (by decide) (by omega) ?_
          refine q_iload rfl rfl ?_
          refine q_istore rfl (by decide) ?_
          refine v_iinc (v := v5 + 1) rfl rfl (by decide) (by omega) ?_
          refine q_goto (t := 47) rfl (by decide) ?_
          refine Wp_ls [(0, .ref 41), (1, vi a1), (2, vi a2), (3, vi y_5), (4, vi v5), (5, vi (v5 + 1))] (lsub_cons rfl (lsub_cons rfl (lsub_cons rfl (lsub_cons rfl (lsub_cons rfl (lsub_cons rfl lsub_nil)))))) ?_
          exact ih c2 y_5 v5 (v5 + 1) hI2 (fun a j hm => hF a j (by omega)) ⟨by omega, by omega⟩ ⟨by omega, by omega⟩ ⟨by omega, by omega⟩ (by omega) (by omega)
set_option maxRecDepth 100000 in
set_option maxHeartbeats 4000000 in
theorem s_248 {sc : List Int32} {e : Int} {d u P Q : Nat} {c : ME} {a1 : Int} {a2 : Int} {Z : AR → Prop} (hI : Iv u e P Q c) (ha1 : (-2147483648) ≤ a1 ∧ a1 ≤ 2147483647) (ha2 : (-2147483648) ≤ a2 ∧ a2 ≤ 2147483647) (K : ∀ (c2 : ME) (y : Int), Iv u e P Q c2 → (∀ (a : Nat) (j : Int), ¬ ((a = 41 ∧ j = 0) ∨ a = 42) → c2 a j = c a j) → (-2147483648) ≤ y ∧ y ≤ 2147483647 → Z (.inl (some (vi y)), Wd P Q P P c2, 0, 0)) : Wp sc (d + 8) 248 0 [(0, .ref 41), (1, vi a1), (2, vi a2)] [] (Wd P Q P P c) 0 0 Z := by
  have hP := iv_P hI
  have hQ := iv_Q hI
  refine q_aload_n rfl rfl ?_
  refine q_iconst rfl ?_
  refine v_pi (z := 0) rfl rfl rfl (by decide) rfl rfl rfl (by decide) ?_
  refine q_aload_n rfl rfl ?_
  refine q_iload_n rfl rfl ?_
  refine q_iconst rfl ?_
  refine q_iconst rfl ?_
  refine q_call rfl rfl rfl rfl ?_
  refine q_iload_n rfl rfl ?_
  refine q_iload_n rfl rfl ?_
  by_cases h_10 : a1 < 0
  · refine v_ic_lt_t (t := 14) rfl (by decide) (by omega) ?_
    refine q_iconst rfl ?_
    refine v_zret rfl rfl (by omega) ?_
    refine bk_inl ?_
    refine v_if_eq_t (t := 28) rfl (by decide) (by decide) ?_
    refine q_iconst rfl ?_
    refine q_iconst rfl ?_
    refine q_iconst rfl ?_
    refine v_cv rfl rfl rfl rfl (by decide) ⟨⟨rfl, rfl⟩, by decide, rfl⟩ (Nat.le_of_ble_eq_true rfl) (Nat.le_of_ble_eq_true rfl) ?_
    refine q_iload_n rfl rfl ?_
    refine v_if_ne_f (t := 26) rfl (by decide) (by decide) ?_
    refine q_aload_n rfl rfl ?_
    refine v_gi (z := 0) (v := 0) rfl rfl rfl (by decide) rfl rfl (up_e rfl) ?_
    refine v_if_ne_f (t := 26) rfl (by decide) (by decide) ?_
    refine q_aload_n rfl rfl ?_
    refine q_iload_n rfl rfl ?_
    refine v_pi (z := 0) rfl rfl rfl (by decide) rfl rfl rfl (by decide) ?_
    refine q_aload_n rfl rfl ?_
    refine v_gr (t := 42) rfl rfl rfl (by decide) rfl ?_
    refine q_iload_n rfl rfl ?_
    refine q_dup2 rfl ⟨rfl, rfl⟩ ?_
    have h_11 := ir_42 hI 1
    refine v_ia (v := c 42 1) rfl rfl (by decide) (by decide) (by decide) ((up_c (by decide)).trans (up_c (by decide))) ?_
    refine q_iconst rfl ?_
    refine v_iadd (v := c 42 1 + 1) rfl (by omega) ?_
    refine v_nrm (fun y_12 hy_12 => ?_)
    refine v_is rfl rfl (by decide) (by decide) (by decide) ?_
    refine q_aload_n rfl rfl ?_
    refine v_gi (z := 0) (v := 1) rfl rfl rfl (by decide) rfl rfl ((up_c (by decide)).trans (up_e rfl)) ?_
    refine v_if_ne_t (t := 37) rfl (by decide) (by decide) ?_
    refine q_iconst rfl ?_
    refine v_zret rfl rfl (by omega) ?_
    refine bk_inl ?_
    refine v_if_ne_f (t := 39) rfl (by decide) (by decide) ?_
    refine q_iconst rfl ?_
    refine q_iret rfl rfl ?_
    have hI_13 := iw_41_0 (v := 0) hI ⟨by decide, by decide⟩
    have hI_14 := iw_41_0 (v := 1) hI_13 ⟨by decide, by decide⟩
    have hI_15 := iw_42 (j := 1) (v := y_12) hI_14 ⟨by omega, by omega⟩
    exact K (up (up (up c 41 0 0) 41 0 1) 42 1 y_12) 0 hI_15 (fun a j hm => (up_b (by omega)).trans ((up_b (by omega)).trans (up_b (by omega)))) ⟨by decide, by decide⟩
  · refine v_ic_lt_f (t := 14) rfl (by decide) (by omega) ?_
    refine q_iload_n rfl rfl ?_
    refine q_iload_n rfl rfl ?_
    by_cases h_16 : a1 > 3
    · refine v_ic_gt_t (t := 14) rfl (by decide) (by omega) ?_
      refine q_iconst rfl ?_
      refine v_zret rfl rfl (by omega) ?_
      refine bk_inl ?_
      refine v_if_eq_t (t := 28) rfl (by decide) (by decide) ?_
      refine q_iconst rfl ?_
      refine q_iconst rfl ?_
      refine q_iconst rfl ?_
      refine v_cv rfl rfl rfl rfl (by decide) ⟨⟨rfl, rfl⟩, by decide, rfl⟩ (Nat.le_of_ble_eq_true rfl) (Nat.le_of_ble_eq_true rfl) ?_
      refine q_iload_n rfl rfl ?_
      refine v_if_ne_f (t := 26) rfl (by decide) (by decide) ?_
      refine q_aload_n rfl rfl ?_
      refine v_gi (z := 0) (v := 0) rfl rfl rfl (by decide) rfl rfl (up_e rfl) ?_
      refine v_if_ne_f (t := 26) rfl (by decide) (by decide) ?_
      refine q_aload_n rfl rfl ?_
      refine q_iload_n rfl rfl ?_
      refine v_pi (z := 0) rfl rfl rfl (by decide) rfl rfl rfl (by decide) ?_
      refine q_aload_n rfl rfl ?_
      refine v_gr (t := 42) rfl rfl rfl (by decide) rfl ?_
      refine q_iload_n rfl rfl ?_
      refine q_dup2 rfl ⟨rfl, rfl⟩ ?_
      have h_17 := ir_42 hI 1
      refine v_ia (v := c 42 1) rfl rfl (by decide) (by decide) (by decide) ((up_c (by decide)).trans (up_c (by decide))) ?_
      refine q_iconst rfl ?_
      refine v_iadd (v := c 42 1 + 1) rfl (by omega) ?_
      refine v_nrm (fun y_18 hy_18 => ?_)
      refine v_is rfl rfl (by decide) (by decide) (by decide) ?_
      refine q_aload_n rfl rfl ?_
      refine v_gi (z := 0) (v := 1) rfl rfl rfl (by decide) rfl rfl ((up_c (by decide)).trans (up_e rfl)) ?_
      refine v_if_ne_t (t := 37) rfl (by decide) (by decide) ?_
      refine q_iconst rfl ?_
      refine v_zret rfl rfl (by omega) ?_
      refine bk_inl ?_
      refine v_if_ne_f (t := 39) rfl (by decide) (by decide) ?_
      refine q_iconst rfl ?_
      refine q_iret rfl rfl ?_
      have hI_19 := iw_41_0 (v := 0) hI ⟨by decide, by decide⟩
      have hI_20 := iw_41_0 (v := 1) hI_19 ⟨by decide, by decide⟩
      have hI_21 := iw_42 (j := 1) (v := y_18) hI_20 ⟨by omega, by omega⟩
      exact K (up (up (up c 41 0 0) 41 0 1) 42 1 y_18) 0 hI_21 (fun a j hm => (up_b (by omega)).trans ((up_b (by omega)).trans (up_b (by omega)))) ⟨by decide, by decide⟩
    · refine v_ic_gt_f (t := 14) rfl (by decide) (by omega) ?_
      refine q_iconst rfl ?_
      refine q_goto (t := 15) rfl (by decide) ?_
      refine v_zret rfl rfl (by omega) ?_
      refine bk_inl ?_
      refine v_if_eq_f (t := 28) rfl (by decide) (by decide) ?_
      refine q_iload_n rfl rfl ?_
      refine q_iconst rfl ?_
      refine q_iconst rfl ?_
      refine q_call rfl rfl rfl rfl ?_
      refine q_iload_n rfl rfl ?_
      refine q_iload_n rfl rfl ?_
      by_cases h_22 : a2 < 0
      · refine v_ic_lt_t (t := 14) rfl (by decide) (by omega) ?_
        refine q_iconst rfl ?_
        refine v_zret rfl rfl (by omega) ?_
        refine bk_inl ?_
        refine v_if_eq_t (t := 28) rfl (by decide) (by decide) ?_
        refine q_iconst rfl ?_
        refine q_iconst rfl ?_
        refine q_iconst rfl ?_
        refine v_cv rfl rfl rfl rfl (by decide) ⟨⟨rfl, rfl⟩, by decide, rfl⟩ (Nat.le_of_ble_eq_true rfl) (Nat.le_of_ble_eq_true rfl) ?_
        refine q_iload_n rfl rfl ?_
        refine v_if_ne_f (t := 26) rfl (by decide) (by decide) ?_
        refine q_aload_n rfl rfl ?_
        refine v_gi (z := 0) (v := 0) rfl rfl rfl (by decide) rfl rfl (up_e rfl) ?_
        refine v_if_ne_f (t := 26) rfl (by decide) (by decide) ?_
        refine q_aload_n rfl rfl ?_
        refine q_iload_n rfl rfl ?_
        refine v_pi (z := 0) rfl rfl rfl (by decide) rfl rfl rfl (by decide) ?_
        refine q_aload_n rfl rfl ?_
        refine v_gr (t := 42) rfl rfl rfl (by decide) rfl ?_
        refine q_iload_n rfl rfl ?_
        refine q_dup2 rfl ⟨rfl, rfl⟩ ?_
        have h_23 := ir_42 hI 1
        refine v_ia (v := c 42 1) rfl rfl (by decide) (by decide) (by decide) ((up_c (by decide)).trans (up_c (by decide))) ?_
        refine q_iconst rfl ?_
        refine v_iadd (v := c 42 1 + 1) rfl (by omega) ?_
        refine v_nrm (fun y_24 hy_24 => ?_)
        refine v_is rfl rfl (by decide) (by decide) (by decide) ?_
        refine q_aload_n rfl rfl ?_
        refine v_gi (z := 0) (v := 1) rfl rfl rfl (by decide) rfl rfl ((up_c (by decide)).trans (up_e rfl)) ?_
        refine v_if_ne_t (t := 37) rfl (by decide) (by decide) ?_
        refine q_iconst rfl ?_
        refine v_zret rfl rfl (by omega) ?_
        refine bk_inl ?_
        refine v_if_ne_f (t := 39) rfl (by decide) (by decide) ?_
        refine q_iconst rfl ?_
        refine q_iret rfl rfl ?_
        have hI_25 := iw_41_0 (v := 0) hI ⟨by decide, by decide⟩
        have hI_26 := iw_41_0 (v := 1) hI_25 ⟨by decide, by decide⟩
        have hI_27 := iw_42 (j := 1) (v := y_24) hI_26 ⟨by omega, by omega⟩
        exact K (up (up (up c 41 0 0) 41 0 1) 42 1 y_24) 0 hI_27 (fun a j hm => (up_b (by omega)).trans ((up_b (by omega)).trans (up_b (by omega)))) ⟨by decide, by decide⟩
      · refine v_ic_lt_f (t := 14) rfl (by decide) (by omega) ?_
        refine q_iload_n rfl rfl ?_
        refine q_iload_n rfl rfl ?_
        by_cases h_28 : a2 > 1
        · refine v_ic_gt_t (t := 14) rfl (by decide) (by omega) ?_
          refine q_iconst rfl ?_
          refine v_zret rfl rfl (by omega) ?_
          refine bk_inl ?_
          refine v_if_eq_t (t := 28) rfl (by decide) (by decide) ?_
          refine q_iconst rfl ?_
          refine q_iconst rfl ?_
          refine q_iconst rfl ?_
          refine v_cv rfl rfl rfl rfl (by decide) ⟨⟨rfl, rfl⟩, by decide, rfl⟩ (Nat.le_of_ble_eq_true rfl) (Nat.le_of_ble_eq_true rfl) ?_
          refine q_iload_n rfl rfl ?_
          refine v_if_ne_f (t := 26) rfl (by decide) (by decide) ?_
          refine q_aload_n rfl rfl ?_
          refine v_gi (z := 0) (v := 0) rfl rfl rfl (by decide) rfl rfl (up_e rfl) ?_
          refine v_if_ne_f (t := 26) rfl (by decide) (by decide) ?_
          refine q_aload_n rfl rfl ?_
          refine q_iload_n rfl rfl ?_
          refine v_pi (z := 0) rfl rfl rfl (by decide) rfl rfl rfl (by decide) ?_
          refine q_aload_n rfl rfl ?_
          refine v_gr (t := 42) rfl rfl rfl (by decide) rfl ?_
          refine q_iload_n rfl rfl ?_
          refine q_dup2 rfl ⟨rfl, rfl⟩ ?_
          have h_29 := ir_42 hI 1
          refine v_ia (v := c 42 1) rfl rfl (by decide) (by decide) (by decide) ((up_c (by decide)).trans (up_c (by decide))) ?_
          refine q_iconst rfl ?_
          refine v_iadd (v := c 42 1 + 1) rfl (by omega) ?_
          refine v_nrm (fun y_30 hy_30 => ?_)
          refine v_is rfl rfl (by decide) (by decide) (by decide) ?_
          refine q_aload_n rfl rfl ?_
          refine v_gi (z := 0) (v := 1) rfl rfl rfl (by decide) rfl rfl ((up_c (by decide)).trans (up_e rfl)) ?_
          refine v_if_ne_t (t := 37) rfl (by decide) (by decide) ?_
          refine q_iconst rfl ?_
          refine v_zret rfl rfl (by omega) ?_
          refine bk_inl ?_
          refine v_if_ne_f (t := 39) rfl (by decide) (by decide) ?_
          refine q_iconst rfl ?_
          refine q_iret rfl rfl ?_
          have hI_31 := iw_41_0 (v := 0) hI ⟨by decide, by decide⟩
          have hI_32 := iw_41_0 (v := 1) hI_31 ⟨by decide, by decide⟩
          have hI_33 := iw_42 (j := 1) (v := y_30) hI_32 ⟨by omega, by omega⟩
          exact K (up (up (up c 41 0 0) 41 0 1) 42 1 y_30) 0 hI_33 (fun a j hm => (up_b (by omega)).trans ((up_b (by omega)).trans (up_b (by omega)))) ⟨by decide, by decide⟩
        · refine v_ic_gt_f (t := 14) rfl (by decide) (by omega) ?_
          refine q_iconst rfl ?_
          refine q_goto (t := 15) rfl (by decide) ?_
          refine v_zret rfl rfl (by omega) ?_
          refine bk_inl ?_
          refine v_if_eq_f (t := 28) rfl (by decide) (by decide) ?_
          refine q_iconst rfl ?_
          refine q_goto (t := 29) rfl (by decide) ?_
          refine q_iconst rfl ?_
          refine q_iconst rfl ?_
          refine v_cv rfl rfl rfl rfl (by decide) ⟨⟨rfl, rfl⟩, by decide, rfl⟩ (Nat.le_of_ble_eq_true rfl) (Nat.le_of_ble_eq_true rfl) ?_
          refine q_iload_n rfl rfl ?_
          refine v_if_ne_t (t := 26) rfl (by decide) (by decide) ?_
          refine q_aload_n rfl rfl ?_
          refine v_gi (z := 0) (v := 0) rfl rfl rfl (by decide) rfl rfl (up_e rfl) ?_
          refine v_if_ne_f (t := 37) rfl (by decide) (by decide) ?_
          refine q_iconst rfl ?_
          refine q_goto (t := 38) rfl (by decide) ?_
          refine v_zret rfl rfl (by omega) ?_
          refine bk_inl ?_
          refine v_if_ne_t (t := 39) rfl (by decide) (by decide) ?_
          refine q_iconst rfl ?_
          refine q_istore_n rfl (by decide) ?_
          refine q_iconst rfl ?_
          refine q_istore rfl (by decide) ?_
          refine q_iconst rfl ?_
          refine q_istore rfl (by decide) ?_
          have hI_34 := iw_41_0 (v := 0) hI ⟨by decide, by decide⟩
          refine Wp_ls [(0, .ref 41), (1, vi a1), (2, vi a2), (3, vi 0), (4, vi (-1)), (5, vi 0)] (lsub_cons rfl (lsub_cons rfl (lsub_cons rfl (lsub_cons rfl (lsub_cons rfl (lsub_cons rfl lsub_nil)))))) ?_
          exact (s_248_l (sc := sc) (d := d) hI ha1 ha2 K 16) (up c 41 0 0) 0 (-1) 0 hI_34 (fun a j hm => up_b (by omega)) ⟨by decide, by decide⟩ ⟨by decide, by decide⟩ ⟨by decide, by decide⟩ (by omega) (by omega)

set_option maxRecDepth 100000 in
set_option maxHeartbeats 4000000 in
theorem s_249_l {sc : List Int32} {d P Q : Nat} {c : ME} {Z : AR → Prop} (hI : Iv 0 (-1) P Q c)  (K : ∀ (c2 : ME) (y : Int), Iv 0 (-1) P Q c2 → (∀ (a : Nat) (j : Int), ¬ ((a = 41 ∧ j = 0) ∨ a = 59 ∨ a = 54 ∨ a = 55) → c2 a j = c a j) → (-2147483648) ≤ y ∧ y ≤ 2147483647 → Z (.inl (some (vi y)), Wd P Q P P c2, 0, 0)) : ∀ n : Nat, (∀ (c2 : ME) (v1 : Int) (v2 : Int), Iv 0 (-1) P Q c2 → (∀ (a : Nat) (j : Int), ¬ ((a = 41 ∧ j = 0) ∨ a = 59 ∨ a = 54 ∨ a = 55) → c2 a j = c a j) → (-2147483648) ≤ v1 ∧ v1 ≤ 2147483647 → 0 ≤ v2 ∧ v2 ≤ 6 → 13 - 2 * v2 < (n : Int) → Wp sc (d + 13) 249 13 [(0, .ref 41), (1, vi v1), (2, vi v2)] [] (Wd P Q P P c2) 0 0 Z)
  | 0 => by intro c2 v1 v2 hI2 hF hv1 hv2 hm9; have hP := iv_P hI; have hQ := iv_Q hI; exfalso; omega
  | n + 1 => by
    have hP := iv_P hI
    have hQ := iv_Q hI
    have ih := s_249_l (sc := sc) (d := d) hI K n
    intro c2 v1 v2 hI2 hF hv1 hv2 hm9
    refine q_iload_n rfl rfl ?_
    refine q_aload_n rfl rfl ?_
    have h_1 := ir_41_20 hI
    refine v_gi (z := 20) (v := c 41 20) rfl rfl rfl (by decide) rfl rfl (hF 41 20 (by omega)) ?_
    by_cases h_2 : v2 ≥ c 41 20
    · refine v_ic_ge_t (t := 50) rfl (by decide) (by omega) ?_
      refine q_iload_n rfl rfl ?_
      refine q_iret rfl rfl ?_
      exact K c2 v1 hI2 (fun a j hm => hF a j (by omega)) ⟨by omega, by omega⟩
    · refine v_ic_ge_f (t := 50) rfl (by decide) (by omega) ?_
      refine q_iload_n rfl rfl ?_
      refine q_aload_n rfl rfl ?_
      refine q_iload_n rfl rfl ?_
      refine v_cv rfl rfl rfl rfl (by decide) ⟨⟨rfl, rfl⟩, by decide, rfl⟩ (Nat.le_of_ble_eq_true rfl) (Nat.le_of_ble_eq_true rfl) (s_197 (a1 := v2) hI2 (show 0 ≤ v2 ∧ v2 ≤ 5 from by omega) (fun c_3 y_6 hI_4 hF_5 hy_6 => ?_))
      refine bk_inl ?_
      by_cases h_7 : y_6 = 0
      · refine v_if_eq_t (t := 41) rfl (by decide) (by omega) ?_
        refine q_iconst rfl ?_
        refine v_iadd (v := v1) rfl (by omega) ?_
        refine q_istore_n rfl (by decide) ?_
        refine v_iinc (v := v2 + 1) rfl rfl (by decide) (by omega) ?_
        refine q_goto (t := 13) rfl (by decide) ?_
        refine Wp_ls [(0, .ref 41), (1, vi v1), (2, vi (v2 + 1))] (lsub_cons rfl (lsub_cons rfl (lsub_cons rfl lsub_nil))) ?_
        exact ih c_3 v1 (v2 + 1) hI_4 (fun a j hm => (hF_5 a j (by omega)).trans (hF a j (by omega))) ⟨by omega, by omega⟩ ⟨by omega, by omega⟩ (by omega)
      · refine v_if_eq_f (t := 41) rfl (by decide) (by omega) ?_
        refine q_aload_n rfl rfl ?_
        refine q_iload_n rfl rfl ?_
        have h_8 := ir_59_g hI2 (j := 4 * v2) (by omega)
        have h_9 := ir_59_g hI2 (j := 4 * v2 + 1) (by omega)
        have h_10 := ir_59_g hI2 (j := 4 * v2 + 2) (by omega)
        have h_11 := ir_59_g hI2 (j := 4 * v2 + 3) (by omega)
        refine v_cv rfl rfl rfl rfl (by decide) ⟨⟨rfl, rfl⟩, by decide, rfl⟩ (Nat.le_of_ble_eq_true rfl) (Nat.le_of_ble_eq_true rfl) (s_187 (v1 := c2 59 (4 * v2)) (v2 := c2 59 (4 * v2 + 1)) (v3 := c2 59 (4 * v2 + 2)) (v4 := c2 59 (4 * v2 + 3)) (r := c2 59 (4 * v2 + 1) + c2 59 (4 * v2 + 2) + c2 59 (4 * v2 + 3) + c2 59 (4 * v2)) (a1 := v2) hI_4 (show 0 ≤ v2 ∧ v2 ≤ 5 from by omega) ((hF_5 59 (4 * v2) (by omega))) ((hF_5 59 (4 * v2 + 1) (by omega))) ((hF_5 59 (4 * v2 + 2) (by omega))) ((hF_5 59 (4 * v2 + 3) (by omega))) (by omega) ?_)
        refine bk_inl ?_
        refine v_bip rfl (by decide) ?_
        refine v_idiv (v := ((c2 59 (4 * v2 + 1) + c2 59 (4 * v2 + 2) + c2 59 (4 * v2 + 3) + c2 59 (4 * v2)) / 10)) rfl (by omega) rfl ?_
        refine q_goto (t := 42) rfl (by decide) ?_
        refine v_iadd (v := ((c2 59 (4 * v2 + 1) + c2 59 (4 * v2 + 2) + c2 59 (4 * v2 + 3) + c2 59 (4 * v2)) / 10) + v1) rfl (by omega) ?_
        refine v_nrm (fun y_12 hy_12 => ?_)
        refine q_istore_n rfl (by decide) ?_
        refine v_iinc (v := v2 + 1) rfl rfl (by decide) (by omega) ?_
        refine q_goto (t := 13) rfl (by decide) ?_
        refine Wp_ls [(0, .ref 41), (1, vi y_12), (2, vi (v2 + 1))] (lsub_cons rfl (lsub_cons rfl (lsub_cons rfl lsub_nil))) ?_
        exact ih c_3 y_12 (v2 + 1) hI_4 (fun a j hm => (hF_5 a j (by omega)).trans (hF a j (by omega))) ⟨by omega, by omega⟩ ⟨by omega, by omega⟩ (by omega)
set_option maxRecDepth 100000 in
set_option maxHeartbeats 4000000 in
theorem s_249 {sc : List Int32} {d P Q : Nat} {c : ME} {Z : AR → Prop} (hI : Iv 0 (-1) P Q c)  (K : ∀ (c2 : ME) (y : Int), Iv 0 (-1) P Q c2 → (∀ (a : Nat) (j : Int), ¬ ((a = 41 ∧ j = 0) ∨ a = 59 ∨ a = 54 ∨ a = 55) → c2 a j = c a j) → (-2147483648) ≤ y ∧ y ≤ 2147483647 → Z (.inl (some (vi y)), Wd P Q P P c2, 0, 0)) : Wp sc (d + 13) 249 0 [(0, .ref 41)] [] (Wd P Q P P c) 0 0 Z := by
  have hP := iv_P hI
  have hQ := iv_Q hI
  refine q_aload_n rfl rfl ?_
  refine q_iconst rfl ?_
  refine v_pi (z := 0) rfl rfl rfl (by decide) rfl rfl rfl (by decide) ?_
  refine q_aload_n rfl rfl ?_
  have hI_13 := iw_41_0 (v := 0) hI ⟨by decide, by decide⟩
  refine v_cv rfl rfl rfl rfl (by decide) ⟨⟨rfl, rfl⟩, by decide, rfl⟩ (Nat.le_of_ble_eq_true rfl) (Nat.le_of_ble_eq_true rfl) (s_186 hI_13 (fun c_14 hI_15 hF_16 => ?_))
  refine bk_inl ?_
  refine q_iconst rfl ?_
  refine q_istore_n rfl (by decide) ?_
  refine q_iconst rfl ?_
  refine q_istore_n rfl (by decide) ?_
  refine Wp_ls [(0, .ref 41), (1, vi 0), (2, vi 0)] (lsub_cons rfl (lsub_cons rfl (lsub_cons rfl lsub_nil))) ?_
  exact (s_249_l (sc := sc) (d := d) hI K 16) c_14 0 0 hI_15 (fun a j hm => (hF_16 a j (by omega)).trans (up_b (by omega))) ⟨by decide, by decide⟩ ⟨by decide, by decide⟩ (by omega)

set_option maxRecDepth 100000 in
set_option maxHeartbeats 4000000 in
theorem s_250_l {sc : List Int32} {d P Q : Nat} {c : ME} {a1 : Int} {Z : AR → Prop} (hI : Iv 0 (-1) P Q c) (ha1 : (-2147483648) ≤ a1 ∧ a1 ≤ 2147483647) (K : ∀ (c2 : ME) (y : Int), Iv 0 (-1) P Q c2 → (∀ (a : Nat) (j : Int), ¬ ((a = 41 ∧ j = 0) ∨ a = 42 ∨ a = 59) → c2 a j = c a j) → (-2147483648) ≤ y ∧ y ≤ 2147483647 → Z (.inl (some (vi y)), Wd P Q P P c2, 0, 0)) : ∀ n : Nat, (∀ (c2 : ME) (v2 : Int) (v3 : Int), Iv 0 (-1) P Q c2 → (∀ (a : Nat) (j : Int), ¬ ((a = 41 ∧ j = 0) ∨ a = 42 ∨ a = 59) → c2 a j = c a j) → (-1) ≤ v2 ∧ v2 ≤ 5 → 0 ≤ v3 ∧ v3 ≤ 6 → ((a1 ≥ 0 ∧ a1 ≤ 5)) → 13 - 2 * v3 < (n : Int) → Wp sc (d + 9) 250 27 [(0, .ref 41), (1, vi a1), (2, vi v2), (3, vi v3)] [] (Wd P Q P P c2) 0 0 Z)
  | 0 => by intro c2 v2 v3 hI2 hF hv2 hv3 hx0 hm9; have hP := iv_P hI; have hQ := iv_Q hI; exfalso; omega
  | n + 1 => by
    have hP := iv_P hI
    have hQ := iv_Q hI
    have ih := s_250_l (sc := sc) (d := d) hI ha1 K n
    intro c2 v2 v3 hI2 hF hv2 hv3 hx0 hm9
    refine q_iload_n rfl rfl ?_
    refine q_aload_n rfl rfl ?_
    have h_1 := ir_41_20 hI
    refine v_gi (z := 20) (v := c 41 20) rfl rfl rfl (by decide) rfl rfl (hF 41 20 (by omega)) ?_
    by_cases h_2 : v3 ≥ c 41 20
    · refine v_ic_ge_t (t := 92) rfl (by decide) (by omega) ?_
      refine q_iload_n rfl rfl ?_
      refine q_iret rfl rfl ?_
      exact K c2 v2 hI2 (fun a j hm => hF a j (by omega)) ⟨by omega, by omega⟩
    · refine v_ic_ge_f (t := 92) rfl (by decide) (by omega) ?_
      refine q_iload_n rfl rfl ?_
      refine q_iload_n rfl rfl ?_
      by_cases h_3 : v3 = a1
      · refine v_ic_eq_t (t := 86) rfl (by decide) (by omega) ?_
        refine v_iinc (v := v3 + 1) rfl rfl (by decide) (by omega) ?_
        refine q_goto (t := 27) rfl (by decide) ?_
        refine Wp_ls [(0, .ref 41), (1, vi a1), (2, vi v2), (3, vi (v3 + 1))] (lsub_cons rfl (lsub_cons rfl (lsub_cons rfl (lsub_cons rfl lsub_nil)))) ?_
        exact ih c2 v2 (v3 + 1) hI2 (fun a j hm => hF a j (by omega)) ⟨by omega, by omega⟩ ⟨by omega, by omega⟩ (by omega) (by omega)
      · refine v_ic_eq_f (t := 86) rfl (by decide) (by omega) ?_
        refine q_aload_n rfl rfl ?_
        refine q_iload_n rfl rfl ?_
        have h_4 := ir_59_g hI2 (j := 4 * v3) (by omega)
        have h_5 := ir_59_g hI2 (j := 4 * v3 + 1) (by omega)
        have h_6 := ir_59_g hI2 (j := 4 * v3 + 2) (by omega)
        have h_7 := ir_59_g hI2 (j := 4 * v3 + 3) (by omega)
        refine v_cv rfl rfl rfl rfl (by decide) ⟨⟨rfl, rfl⟩, by decide, rfl⟩ (Nat.le_of_ble_eq_true rfl) (Nat.le_of_ble_eq_true rfl) (s_187 (v1 := c2 59 (4 * v3)) (v2 := c2 59 (4 * v3 + 1)) (v3 := c2 59 (4 * v3 + 2)) (v4 := c2 59 (4 * v3 + 3)) (r := c2 59 (4 * v3 + 1) + c2 59 (4 * v3 + 2) + c2 59 (4 * v3 + 3) + c2 59 (4 * v3)) (a1 := v3) hI2 (show 0 ≤ v3 ∧ v3 ≤ 5 from by omega) (rfl) (rfl) (rfl) (rfl) (by omega) ?_)
        refine bk_inl ?_
        by_cases h_8 : c2 59 (4 * v3 + 1) + c2 59 (4 * v3 + 2) + c2 59 (4 * v3 + 3) + c2 59 (4 * v3) ≤ 0
        · refine v_if_le_t (t := 86) rfl (by decide) (by omega) ?_
          refine v_iinc (v := v3 + 1) rfl rfl (by decide) (by omega) ?_
          refine q_goto (t := 27) rfl (by decide) ?_
          refine Wp_ls [(0, .ref 41), (1, vi a1), (2, vi v2), (3, vi (v3 + 1))] (lsub_cons rfl (lsub_cons rfl (lsub_cons rfl (lsub_cons rfl lsub_nil)))) ?_
          exact ih c2 v2 (v3 + 1) hI2 (fun a j hm => hF a j (by omega)) ⟨by omega, by omega⟩ ⟨by omega, by omega⟩ (by omega) (by omega)
        · refine v_if_le_f (t := 86) rfl (by decide) (by omega) ?_
          refine q_iload_n rfl rfl ?_
          refine q_iconst rfl ?_
          by_cases h_9 : v2 = (-1)
          · refine v_ic_eq_t (t := 84) rfl (by decide) (by omega) ?_
            refine q_iload_n rfl rfl ?_
            refine q_istore_n rfl (by decide) ?_
            refine v_iinc (v := v3 + 1) rfl rfl (by decide) (by omega) ?_
            refine q_goto (t := 27) rfl (by decide) ?_
            refine Wp_ls [(0, .ref 41), (1, vi a1), (2, vi v3), (3, vi (v3 + 1))] (lsub_cons rfl (lsub_cons rfl (lsub_cons rfl (lsub_cons rfl lsub_nil)))) ?_
            exact ih c2 v3 (v3 + 1) hI2 (fun a j hm => hF a j (by omega)) ⟨by omega, by omega⟩ ⟨by omega, by omega⟩ (by omega) (by omega)
          · refine v_ic_eq_f (t := 84) rfl (by decide) (by omega) ?_
            refine q_aload_n rfl rfl ?_
            refine q_iload_n rfl rfl ?_
            refine v_cv rfl rfl rfl rfl (by decide) ⟨⟨rfl, rfl⟩, by decide, rfl⟩ (Nat.le_of_ble_eq_true rfl) (Nat.le_of_ble_eq_true rfl) (s_204 (a1 := v3) hI2 (show 0 ≤ v3 ∧ v3 ≤ 5 from by omega) (fun y_10 hy_10 => ?_))
            refine bk_inl ?_
            refine q_aload_n rfl rfl ?_
            refine q_iload_n rfl rfl ?_
            refine v_cv rfl rfl rfl rfl (by decide) ⟨⟨rfl, rfl⟩, by decide, rfl⟩ (Nat.le_of_ble_eq_true rfl) (Nat.le_of_ble_eq_true rfl) (s_204 (a1 := a1) hI2 (show 0 ≤ a1 ∧ a1 ≤ 5 from by omega) (fun y_11 hy_11 => ?_))
            refine bk_inl ?_
            refine v_isub (v := y_10 - y_11) rfl (by omega) ?_
            refine v_nrm (fun y_12 hy_12 => ?_)
            refine q_call rfl rfl rfl rfl ?_
            refine q_iload_n rfl rfl ?_
            by_cases h_13 : y_12 ≥ 0
            · refine v_if_ge_t (t := 9) rfl (by decide) (by omega) ?_
              refine q_iload_n rfl rfl ?_
              refine q_iret rfl rfl ?_
              refine bk_inl ?_
              refine q_aload_n rfl rfl ?_
              refine q_iload_n rfl rfl ?_
              refine v_cv rfl rfl rfl rfl (by decide) ⟨⟨rfl, rfl⟩, by decide, rfl⟩ (Nat.le_of_ble_eq_true rfl) (Nat.le_of_ble_eq_true rfl) (s_204 (a1 := v2) hI2 (show 0 ≤ v2 ∧ v2 ≤ 5 from by omega) (fun y_14 hy_14 => ?_))
              refine bk_inl ?_
              refine q_aload_n rfl rfl ?_
              refine q_iload_n rfl rfl ?_
              refine v_cv rfl rfl rfl rfl (by decide) ⟨⟨rfl, rfl⟩, by decide, rfl⟩ (Nat.le_of_ble_eq_true rfl) (Nat.le_of_ble_eq_true rfl) (s_204 (a1 := a1) hI2 (show 0 ≤ a1 ∧ a1 ≤ 5 from by omega) (fun y_15 hy_15 => ?_))
              refine bk_inl ?_
              refine v_isub (v := y_14 - y_15) rfl (by omega) ?_
              refine v_nrm (fun y_16 hy_16 => ?_)
              refine q_call rfl rfl rfl rfl ?_
              refine q_iload_n rfl rfl ?_
              by_cases h_17 : y_16 ≥ 0
              · refine v_if_ge_t (t := 9) rfl (by decide) (by omega) ?_
                refine q_iload_n rfl rfl ?_
                refine q_iret rfl rfl ?_
                refine bk_inl ?_
                by_cases h_18 : y_12 ≥ y_16
                · refine v_ic_ge_t (t := 86) rfl (by decide) (by omega) ?_
                  refine v_iinc (v := v3 + 1) rfl rfl (by decide) (by omega) ?_
                  refine q_goto (t := 27) rfl (by decide) ?_
                  refine Wp_ls [(0, .ref 41), (1, vi a1), (2, vi v2), (3, vi (v3 + 1))] (lsub_cons rfl (lsub_cons rfl (lsub_cons rfl (lsub_cons rfl lsub_nil)))) ?_
                  exact ih c2 v2 (v3 + 1) hI2 (fun a j hm => hF a j (by omega)) ⟨by omega, by omega⟩ ⟨by omega, by omega⟩ (by omega) (by omega)
                · refine v_ic_ge_f (t := 86) rfl (by decide) (by omega) ?_
                  refine q_iload_n rfl rfl ?_
                  refine q_istore_n rfl (by decide) ?_
                  refine v_iinc (v := v3 + 1) rfl rfl (by decide) (by omega) ?_
                  refine q_goto (t := 27) rfl (by decide) ?_
                  refine Wp_ls [(0, .ref 41), (1, vi a1), (2, vi v3), (3, vi (v3 + 1))] (lsub_cons rfl (lsub_cons rfl (lsub_cons rfl (lsub_cons rfl lsub_nil)))) ?_
                  exact ih c2 v3 (v3 + 1) hI2 (fun a j hm => hF a j (by omega)) ⟨by omega, by omega⟩ ⟨by omega, by omega⟩ (by omega) (by omega)
              · refine v_if_ge_f (t := 9) rfl (by decide) (by omega) ?_
                refine q_iload_n rfl rfl ?_
                refine v_ineg (v := 0 - y_16) rfl (by omega) ?_
                refine v_nrm (fun y_19 hy_19 => ?_)
                refine q_goto (t := 10) rfl (by decide) ?_
                refine q_iret rfl rfl ?_
                refine bk_inl ?_
                by_cases h_20 : y_12 ≥ y_19
                · refine v_ic_ge_t (t := 86) rfl (by decide) (by omega) ?_
                  refine v_iinc (v := v3 + 1) rfl rfl (by decide) (by omega) ?_
                  refine q_goto (t := 27) rfl (by decide) ?_
                  refine Wp_ls [(0, .ref 41), (1, vi a1), (2, vi v2), (3, vi (v3 + 1))] (lsub_cons rfl (lsub_cons rfl (lsub_cons rfl (lsub_cons rfl lsub_nil)))) ?_
                  exact ih c2 v2 (v3 + 1) hI2 (fun a j hm => hF a j (by omega)) ⟨by omega, by omega⟩ ⟨by omega, by omega⟩ (by omega) (by omega)
                · refine v_ic_ge_f (t := 86) rfl (by decide) (by omega) ?_
                  refine q_iload_n rfl rfl ?_
                  refine q_istore_n rfl (by decide) ?_
                  refine v_iinc (v := v3 + 1) rfl rfl (by decide) (by omega) ?_
                  refine q_goto (t := 27) rfl (by decide) ?_
                  refine Wp_ls [(0, .ref 41), (1, vi a1), (2, vi v3), (3, vi (v3 + 1))] (lsub_cons rfl (lsub_cons rfl (lsub_cons rfl (lsub_cons rfl lsub_nil)))) ?_
                  exact ih c2 v3 (v3 + 1) hI2 (fun a j hm => hF a j (by omega)) ⟨by omega, by omega⟩ ⟨by omega, by omega⟩ (by omega) (by omega)
            · refine v_if_ge_f (t := 9) rfl (by decide) (by omega) ?_
              refine q_iload_n rfl rfl ?_
              refine v_ineg (v := 0 - y_12) rfl (by omega) ?_
              refine v_nrm (fun y_21 hy_21 => ?_)
              refine q_goto (t := 10) rfl (by decide) ?_
              refine q_iret rfl rfl ?_
              refine bk_inl ?_
              refine q_aload_n rfl rfl ?_
              refine q_iload_n rfl rfl ?_
              refine v_cv rfl rfl rfl rfl (by decide) ⟨⟨rfl, rfl⟩, by decide, rfl⟩ (Nat.le_of_ble_eq_true rfl) (Nat.le_of_ble_eq_true rfl) (s_204 (a1 := v2) hI2 (show 0 ≤ v2 ∧ v2 ≤ 5 from by omega) (fun y_22 hy_22 => ?_))
              refine bk_inl ?_
              refine q_aload_n rfl rfl ?_
              refine q_iload_n rfl rfl ?_
              refine v_cv rfl rfl rfl rfl (by decide) ⟨⟨rfl, rfl⟩, by decide, rfl⟩ (Nat.le_of_ble_eq_true rfl) (Nat.le_of_ble_eq_true rfl) (s_204 (a1 := a1) hI2 (show 0 ≤ a1 ∧ a1 ≤ 5 from by omega) (fun y_23 hy_23 => ?_))
              refine bk_inl ?_
              refine v_isub (v := y_22 - y_23) rfl (by omega) ?_
              refine v_nrm (fun y_24 hy_24 => ?_)
              refine q_call rfl rfl rfl rfl ?_
              refine q_iload_n rfl rfl ?_
              by_cases h_25 : y_24 ≥ 0
              · refine v_if_ge_t (t := 9) rfl (by decide) (by omega) ?_
                refine q_iload_n rfl rfl ?_
                refine q_iret rfl rfl ?_
                refine bk_inl ?_
                by_cases h_26 : y_21 ≥ y_24
                · refine v_ic_ge_t (t := 86) rfl (by decide) (by omega) ?_
                  refine v_iinc (v := v3 + 1) rfl rfl (by decide) (by omega) ?_
                  refine q_goto (t := 27) rfl (by decide) ?_
                  refine Wp_ls [(0, .ref 41), (1, vi a1), (2, vi v2), (3, vi (v3 + 1))] (lsub_cons rfl (lsub_cons rfl (lsub_cons rfl (lsub_cons rfl lsub_nil)))) ?_
                  exact ih c2 v2 (v3 + 1) hI2 (fun a j hm => hF a j (by omega)) ⟨by omega, by omega⟩ ⟨by omega, by omega⟩ (by omega) (by omega)
                · refine v_ic_ge_f (t := 86) rfl (by decide) (by omega) ?_
                  refine q_iload_n rfl rfl ?_
                  refine q_istore_n rfl (by decide) ?_
                  refine v_iinc (v := v3 + 1) rfl rfl (by decide) (by omega) ?_
                  refine q_goto (t := 27) rfl (by decide) ?_
                  refine Wp_ls [(0, .ref 41), (1, vi a1), (2, vi v3), (3, vi (v3 + 1))] (lsub_cons rfl (lsub_cons rfl (lsub_cons rfl (lsub_cons rfl lsub_nil)))) ?_
                  exact ih c2 v3 (v3 + 1) hI2 (fun a j hm => hF a j (by omega)) ⟨by omega, by omega⟩ ⟨by omega, by omega⟩ (by omega) (by omega)
              · refine v_if_ge_f (t := 9) rfl (by decide) (by omega) ?_
                refine q_iload_n rfl rfl ?_
                refine v_ineg (v := 0 - y_24) rfl (by omega) ?_
                refine v_nrm (fun y_27 hy_27 => ?_)
                refine q_goto (t := 10) rfl (by decide) ?_
                refine q_iret rfl rfl ?_
                refine bk_inl ?_
                by_cases h_28 : y_21 ≥ y_27
                · refine v_ic_ge_t (t := 86) rfl (by decide) (by omega) ?_
                  refine v_iinc (v := v3 + 1) rfl rfl (by decide) (by omega) ?_
                  refine q_goto (t := 27) rfl (by decide) ?_
                  refine Wp_ls [(0, .ref 41), (1, vi a1), (2, vi v2), (3, vi (v3 + 1))] (lsub_cons rfl (lsub_cons rfl (lsub_cons rfl (lsub_cons rfl lsub_nil)))) ?_
                  exact ih c2 v2 (v3 + 1) hI2 (fun a j hm => hF a j (by omega)) ⟨by omega, by omega⟩ ⟨by omega, by omega⟩ (by omega) (by omega)
                · refine v_ic_ge_f (t := 86) rfl (by decide) (by omega) ?_
                  refine q_iload_n rfl rfl ?_
                  refine q_istore_n rfl (by decide) ?_
                  refine v_iinc (v := v3 + 1) rfl rfl (by decide) (by omega) ?_
                  refine q_goto (t := 27) rfl (by decide) ?_
                  refine Wp_ls [(0, .ref 41), (1, vi a1), (2, vi v3), (3, vi (v3 + 1))] (lsub_cons rfl (lsub_cons rfl (lsub_cons rfl (lsub_cons rfl lsub_nil)))) ?_
                  exact ih c2 v3 (v3 + 1) hI2 (fun a j hm => hF a j (by omega)) ⟨by omega, by omega⟩ ⟨by omega, by omega⟩ (by omega) (by omega)
set_option maxRecDepth 100000 in
set_option maxHeartbeats 4000000 in
theorem s_250 {sc : List Int32} {d P Q : Nat} {c : ME} {a1 : Int} {Z : AR → Prop} (hI : Iv 0 (-1) P Q c) (ha1 : (-2147483648) ≤ a1 ∧ a1 ≤ 2147483647) (K : ∀ (c2 : ME) (y : Int), Iv 0 (-1) P Q c2 → (∀ (a : Nat) (j : Int), ¬ ((a = 41 ∧ j = 0) ∨ a = 42 ∨ a = 59) → c2 a j = c a j) → (-2147483648) ≤ y ∧ y ≤ 2147483647 → Z (.inl (some (vi y)), Wd P Q P P c2, 0, 0)) : Wp sc (d + 9) 250 0 [(0, .ref 41), (1, vi a1)] [] (Wd P Q P P c) 0 0 Z := by
  have hP := iv_P hI
  have hQ := iv_Q hI
  refine q_aload_n rfl rfl ?_
  refine q_iconst rfl ?_
  refine v_pi (z := 0) rfl rfl rfl (by decide) rfl rfl rfl (by decide) ?_
  refine q_aload_n rfl rfl ?_
  refine q_iload_n rfl rfl ?_
  refine q_aload_n rfl rfl ?_
  have h_29 := ir_41_20 hI
  refine v_gi (z := 20) (v := c 41 20) rfl rfl rfl (by decide) rfl rfl (up_n (by decide)) ?_
  refine v_cv rfl rfl rfl rfl (by decide) ⟨⟨rfl, rfl⟩, by decide, rfl⟩ (Nat.le_of_ble_eq_true rfl) (Nat.le_of_ble_eq_true rfl) ?_
  refine q_aload_n rfl rfl ?_
  refine q_iload_n rfl rfl ?_
  refine q_iconst rfl ?_
  refine q_iload_n rfl rfl ?_
  refine q_iconst rfl ?_
  refine v_isub (v := c 41 20 - 1) rfl (by omega) ?_
  refine q_call rfl rfl rfl rfl ?_
  refine q_iload_n rfl rfl ?_
  refine q_iload_n rfl rfl ?_
  by_cases h_30 : a1 < 0
  · refine v_ic_lt_t (t := 14) rfl (by decide) (by omega) ?_
    refine q_iconst rfl ?_
    refine v_zret rfl rfl (by omega) ?_
    refine bk_inl ?_
    refine q_iconst rfl ?_
    refine q_iconst rfl ?_
    refine v_cv rfl rfl rfl rfl (by decide) ⟨⟨rfl, rfl⟩, by decide, rfl⟩ (Nat.le_of_ble_eq_true rfl) (Nat.le_of_ble_eq_true rfl) ?_
    refine q_iload_n rfl rfl ?_
    refine v_if_ne_f (t := 26) rfl (by decide) (by decide) ?_
    refine q_aload_n rfl rfl ?_
    refine v_gi (z := 0) (v := 0) rfl rfl rfl (by decide) rfl rfl (up_e rfl) ?_
    refine v_if_ne_f (t := 26) rfl (by decide) (by decide) ?_
    refine q_aload_n rfl rfl ?_
    refine q_iload_n rfl rfl ?_
    refine v_pi (z := 0) rfl rfl rfl (by decide) rfl rfl rfl (by decide) ?_
    refine q_aload_n rfl rfl ?_
    refine v_gr (t := 42) rfl rfl rfl (by decide) rfl ?_
    refine q_iload_n rfl rfl ?_
    refine q_dup2 rfl ⟨rfl, rfl⟩ ?_
    have h_31 := ir_42 hI 0
    refine v_ia (v := c 42 0) rfl rfl (by decide) (by decide) (by decide) ((up_c (by decide)).trans (up_c (by decide))) ?_
    refine q_iconst rfl ?_
    refine v_iadd (v := c 42 0 + 1) rfl (by omega) ?_
    refine v_nrm (fun y_32 hy_32 => ?_)
    refine v_is rfl rfl (by decide) (by decide) (by decide) ?_
    refine q_aload_n rfl rfl ?_
    refine v_gi (z := 0) (v := 1) rfl rfl rfl (by decide) rfl rfl ((up_c (by decide)).trans (up_e rfl)) ?_
    refine v_if_ne_t (t := 37) rfl (by decide) (by decide) ?_
    refine q_iconst rfl ?_
    refine v_zret rfl rfl (by omega) ?_
    refine bk_inl ?_
    refine v_zret rfl rfl (by omega) ?_
    refine bk_inl ?_
    refine v_if_ne_f (t := 19) rfl (by decide) (by decide) ?_
    refine q_iconst rfl ?_
    refine q_iret rfl rfl ?_
    have hI_33 := iw_41_0 (v := 0) hI ⟨by decide, by decide⟩
    have hI_34 := iw_41_0 (v := 1) hI_33 ⟨by decide, by decide⟩
    have hI_35 := iw_42 (j := 0) (v := y_32) hI_34 ⟨by omega, by omega⟩
    exact K (up (up (up c 41 0 0) 41 0 1) 42 0 y_32) 0 hI_35 (fun a j hm => (up_b (by omega)).trans ((up_b (by omega)).trans (up_b (by omega)))) ⟨by decide, by decide⟩
  · refine v_ic_lt_f (t := 14) rfl (by decide) (by omega) ?_
    refine q_iload_n rfl rfl ?_
    refine q_iload_n rfl rfl ?_
    by_cases h_36 : a1 > c 41 20 - 1
    · refine v_ic_gt_t (t := 14) rfl (by decide) (by omega) ?_
      refine q_iconst rfl ?_
      refine v_zret rfl rfl (by omega) ?_
      refine bk_inl ?_
      refine q_iconst rfl ?_
      refine q_iconst rfl ?_
      refine v_cv rfl rfl rfl rfl (by decide) ⟨⟨rfl, rfl⟩, by decide, rfl⟩ (Nat.le_of_ble_eq_true rfl) (Nat.le_of_ble_eq_true rfl) ?_
      refine q_iload_n rfl rfl ?_
      refine v_if_ne_f (t := 26) rfl (by decide) (by decide) ?_
      refine q_aload_n rfl rfl ?_
      refine v_gi (z := 0) (v := 0) rfl rfl rfl (by decide) rfl rfl (up_e rfl) ?_
      refine v_if_ne_f (t := 26) rfl (by decide) (by decide) ?_
      refine q_aload_n rfl rfl ?_
      refine q_iload_n rfl rfl ?_
      refine v_pi (z := 0) rfl rfl rfl (by decide) rfl rfl rfl (by decide) ?_
      refine q_aload_n rfl rfl ?_
      refine v_gr (t := 42) rfl rfl rfl (by decide) rfl ?_
      refine q_iload_n rfl rfl ?_
      refine q_dup2 rfl ⟨rfl, rfl⟩ ?_
      have h_37 := ir_42 hI 0
      refine v_ia (v := c 42 0) rfl rfl (by decide) (by decide) (by decide) ((up_c (by decide)).trans (up_c (by decide))) ?_
      refine q_iconst rfl ?_
      refine v_iadd (v := c 42 0 + 1) rfl (by omega) ?_
      refine v_nrm (fun y_38 hy_38 => ?_)
      refine v_is rfl rfl (by decide) (by decide) (by decide) ?_
      refine q_aload_n rfl rfl ?_
      refine v_gi (z := 0) (v := 1) rfl rfl rfl (by decide) rfl rfl ((up_c (by decide)).trans (up_e rfl)) ?_
      refine v_if_ne_t (t := 37) rfl (by decide) (by decide) ?_
      refine q_iconst rfl ?_
      refine v_zret rfl rfl (by omega) ?_
      refine bk_inl ?_
      refine v_zret rfl rfl (by omega) ?_
      refine bk_inl ?_
      refine v_if_ne_f (t := 19) rfl (by decide) (by decide) ?_
      refine q_iconst rfl ?_
      refine q_iret rfl rfl ?_
      have hI_39 := iw_41_0 (v := 0) hI ⟨by decide, by decide⟩
      have hI_40 := iw_41_0 (v := 1) hI_39 ⟨by decide, by decide⟩
      have hI_41 := iw_42 (j := 0) (v := y_38) hI_40 ⟨by omega, by omega⟩
      exact K (up (up (up c 41 0 0) 41 0 1) 42 0 y_38) 0 hI_41 (fun a j hm => (up_b (by omega)).trans ((up_b (by omega)).trans (up_b (by omega)))) ⟨by decide, by decide⟩
    · refine v_ic_gt_f (t := 14) rfl (by decide) (by omega) ?_
      refine q_iconst rfl ?_
      refine q_goto (t := 15) rfl (by decide) ?_
      refine v_zret rfl rfl (by omega) ?_
      refine bk_inl ?_
      refine q_iconst rfl ?_
      refine q_iconst rfl ?_
      refine v_cv rfl rfl rfl rfl (by decide) ⟨⟨rfl, rfl⟩, by decide, rfl⟩ (Nat.le_of_ble_eq_true rfl) (Nat.le_of_ble_eq_true rfl) ?_
      refine q_iload_n rfl rfl ?_
      refine v_if_ne_t (t := 26) rfl (by decide) (by decide) ?_
      refine q_aload_n rfl rfl ?_
      refine v_gi (z := 0) (v := 0) rfl rfl rfl (by decide) rfl rfl (up_e rfl) ?_
      refine v_if_ne_f (t := 37) rfl (by decide) (by decide) ?_
      refine q_iconst rfl ?_
      refine q_goto (t := 38) rfl (by decide) ?_
      refine v_zret rfl rfl (by omega) ?_
      refine bk_inl ?_
      refine v_zret rfl rfl (by omega) ?_
      refine bk_inl ?_
      refine v_if_ne_t (t := 19) rfl (by decide) (by decide) ?_
      refine q_aload_n rfl rfl ?_
      have hI_42 := iw_41_0 (v := 0) hI ⟨by decide, by decide⟩
      refine v_cv rfl rfl rfl rfl (by decide) ⟨⟨rfl, rfl⟩, by decide, rfl⟩ (Nat.le_of_ble_eq_true rfl) (Nat.le_of_ble_eq_true rfl) (s_186 hI_42 (fun c_43 hI_44 hF_45 => ?_))
      refine bk_inl ?_
      refine q_iconst rfl ?_
      refine q_istore_n rfl (by decide) ?_
      refine q_iconst rfl ?_
      refine q_istore_n rfl (by decide) ?_
      refine Wp_ls [(0, .ref 41), (1, vi a1), (2, vi (-1)), (3, vi 0)] (lsub_cons rfl (lsub_cons rfl (lsub_cons rfl (lsub_cons rfl lsub_nil)))) ?_
      exact (s_250_l (sc := sc) (d := d) hI ha1 K 16) c_43 (-1) 0 hI_44 (fun a j hm => (hF_45 a j (by omega)).trans (up_b (by omega))) ⟨by decide, by decide⟩ ⟨by decide, by decide⟩ (by omega) (by omega)

set_option maxRecDepth 100000 in
set_option maxHeartbeats 4000000 in
theorem s_251_l {sc : List Int32} {d P Q : Nat} {c : ME} {a1 : Int} {a2 : Int} {Z : AR → Prop} (hI : Iv 0 (-1) P Q c) (ha1 : (-2147483648) ≤ a1 ∧ a1 ≤ 2147483647) (ha2 : (-2147483648) ≤ a2 ∧ a2 ≤ 2147483647) (K : ∀ (c2 : ME) (y : Int), Iv 0 (-1) P Q c2 → (∀ (a : Nat) (j : Int), ¬ ((a = 41 ∧ j = 0) ∨ a = 42 ∨ a = 59) → c2 a j = c a j) → (-2147483648) ≤ y ∧ y ≤ 2147483647 → Z (.inl (some (vi y)), Wd P Q P P c2, 0, 0)) : ∀ n : Nat, (∀ (c2 : ME) (v3 : Int) (v4 : Int), Iv 0 (-1) P Q c2 → (∀ (a : Nat) (j : Int), ¬ ((a = 41 ∧ j = 0) ∨ a = 42 ∨ a = 59) → c2 a j = c a j) → (-2147483648) ≤ v3 ∧ v3 ≤ 2147483647 → 0 ≤ v4 ∧ v4 ≤ 6 → ((a1 ≥ 0 ∧ a1 ≤ 3)) → 13 - 2 * v4 < (n : Int) → Wp sc (d + 9) 251 43 [(0, .ref 41), (1, vi a1), (2, vi a2), (3, vi v3), (4, vi v4)] [] (Wd P Q P P c2) 0 0 Z)
  | 0 => by intro c2 v3 v4 hI2 hF hv3 hv4 hx0 hm9; have hP := iv_P hI; have hQ := iv_Q hI; exfalso; omega
  | n + 1 => by
    have hP := iv_P hI
    have hQ := iv_Q hI
    have ih := s_251_l (sc := sc) (d := d) hI ha1 ha2 K n
    intro c2 v3 v4 hI2 hF hv3 hv4 hx0 hm9
    refine q_iload rfl rfl ?_
    refine q_aload_n rfl rfl ?_
    have h_1 := ir_41_20 hI
    refine v_gi (z := 20) (v := c 41 20) rfl rfl rfl (by decide) rfl rfl (hF 41 20 (by omega)) ?_
    by_cases h_2 : v4 ≥ c 41 20
    · refine v_ic_ge_t (t := 68) rfl (by decide) (by omega) ?_
      refine q_iload_n rfl rfl ?_
      by_cases h_3 : a2 ≠ 0
      · refine v_if_ne_t (t := 76) rfl (by decide) (by omega) ?_
        refine q_aload_n rfl rfl ?_
        refine v_cv rfl rfl rfl rfl (by decide) ⟨⟨rfl, rfl⟩, by decide, rfl⟩ (Nat.le_of_ble_eq_true rfl) (Nat.le_of_ble_eq_true rfl) (s_203 hI2 (fun y_4 hy_4 => ?_))
        refine bk_inl ?_
        refine q_iload_n rfl rfl ?_
        refine v_isub (v := y_4 - v3) rfl (by omega) ?_
        refine v_nrm (fun y_5 hy_5 => ?_)
        refine q_iret rfl rfl ?_
        exact K c2 y_5 hI2 (fun a j hm => hF a j (by omega)) ⟨by omega, by omega⟩
      · refine v_if_ne_f (t := 76) rfl (by decide) (by omega) ?_
        refine q_iload_n rfl rfl ?_
        refine q_goto (t := 82) rfl (by decide) ?_
        refine q_iret rfl rfl ?_
        exact K c2 v3 hI2 (fun a j hm => hF a j (by omega)) ⟨by omega, by omega⟩
    · refine v_ic_ge_f (t := 68) rfl (by decide) (by omega) ?_
      refine q_iload_n rfl rfl ?_
      refine q_aload_n rfl rfl ?_
      refine q_iload_n rfl rfl ?_
      refine q_iload rfl rfl ?_
      have h_6 := ir_49 hI a1
      have h_7 := ir_59 hI2 (a1 + 30)
      have h_8 := ir_59_g hI2 (j := 4 * v4) (by omega)
      have h_9 := ir_59_g hI2 (j := 4 * v4 + 1) (by omega)
      have h_10 := ir_59_g hI2 (j := 4 * v4 + 2) (by omega)
      have h_11 := ir_59_g hI2 (j := 4 * v4 + 3) (by omega)
      have h_12 := fal_rng (m := c 49 a1) (t := c2 59 (a1 + 30)) (g := 0) (x := c2 59 (4 * v4)) (by omega)
      have h_13 := fal_rng (m := c 49 a1) (t := c2 59 (a1 + 30)) (g := 1) (x := c2 59 (4 * v4 + 1)) (by omega)
      have h_14 := fal_rng (m := c 49 a1) (t := c2 59 (a1 + 30)) (g := 2) (x := c2 59 (4 * v4 + 2)) (by omega)
      have h_15 := fal_rng (m := c 49 a1) (t := c2 59 (a1 + 30)) (g := 3) (x := c2 59 (4 * v4 + 3)) (by omega)
      refine v_cv rfl rfl rfl rfl (by decide) ⟨⟨rfl, rfl⟩, by decide, rfl⟩ (Nat.le_of_ble_eq_true rfl) (Nat.le_of_ble_eq_true rfl) (s_190 (v1 := c 49 a1) (v2 := c2 59 (a1 + 30)) (v3 := c2 59 (4 * v4)) (v4 := c2 59 (4 * v4 + 1)) (v5 := c2 59 (4 * v4 + 2)) (v6 := c2 59 (4 * v4 + 3)) (r := (fal (c 49 a1) (c2 59 (a1 + 30)) 0 (c2 59 (4 * v4))) + (fal (c 49 a1) (c2 59 (a1 + 30)) 1 (c2 59 (4 * v4 + 1))) + (fal (c 49 a1) (c2 59 (a1 + 30)) 2 (c2 59 (4 * v4 + 2))) + (fal (c 49 a1) (c2 59 (a1 + 30)) 3 (c2 59 (4 * v4 + 3)))) (a1 := a1) (a2 := v4) hI2 (show 0 ≤ a1 ∧ a1 ≤ 3 from by omega) (show 0 ≤ v4 ∧ v4 ≤ 5 from by omega) ((hF 49 a1 (by omega))) (rfl) (rfl) (rfl) (rfl) (rfl) rfl ?_)
      refine bk_inl ?_
      refine v_iadd (v := (fal (c 49 a1) (c2 59 (a1 + 30)) 0 (c2 59 (4 * v4))) + (fal (c 49 a1) (c2 59 (a1 + 30)) 1 (c2 59 (4 * v4 + 1))) + (fal (c 49 a1) (c2 59 (a1 + 30)) 2 (c2 59 (4 * v4 + 2))) + (fal (c 49 a1) (c2 59 (a1 + 30)) 3 (c2 59 (4 * v4 + 3))) + v3) rfl (by omega) ?_
      refine v_nrm (fun y_16 hy_16 => ?_)
      refine q_istore_n rfl (by decide) ?_
      refine v_iinc (v := v4 + 1) rfl rfl (by decide) (by omega) ?_
      refine q_goto (t := 43) rfl (by decide) ?_
      refine Wp_ls [(0, .ref 41), (1, vi a1), (2, vi a2), (3, vi y_16), (4, vi (v4 + 1))] (lsub_cons rfl (lsub_cons rfl (lsub_cons rfl (lsub_cons rfl (lsub_cons rfl lsub_nil))))) ?_
      exact ih c2 y_16 (v4 + 1) hI2 (fun a j hm => hF a j (by omega)) ⟨by omega, by omega⟩ ⟨by omega, by omega⟩ (by omega) (by omega)
set_option maxRecDepth 100000 in
set_option maxHeartbeats 4000000 in
theorem s_251 {sc : List Int32} {d P Q : Nat} {c : ME} {a1 : Int} {a2 : Int} {Z : AR → Prop} (hI : Iv 0 (-1) P Q c) (ha1 : (-2147483648) ≤ a1 ∧ a1 ≤ 2147483647) (ha2 : (-2147483648) ≤ a2 ∧ a2 ≤ 2147483647) (K : ∀ (c2 : ME) (y : Int), Iv 0 (-1) P Q c2 → (∀ (a : Nat) (j : Int), ¬ ((a = 41 ∧ j = 0) ∨ a = 42 ∨ a = 59) → c2 a j = c a j) → (-2147483648) ≤ y ∧ y ≤ 2147483647 → Z (.inl (some (vi y)), Wd P Q P P c2, 0, 0)) : Wp sc (d + 9) 251 0 [(0, .ref 41), (1, vi a1), (2, vi a2)] [] (Wd P Q P P c) 0 0 Z := by
  have hP := iv_P hI
  have hQ := iv_Q hI
  refine q_aload_n rfl rfl ?_
  refine q_iconst rfl ?_
  refine v_pi (z := 0) rfl rfl rfl (by decide) rfl rfl rfl (by decide) ?_
  refine q_aload_n rfl rfl ?_
  refine q_iload_n rfl rfl ?_
  refine q_aload_n rfl rfl ?_
  have h_17 := ir_41_22 hI
  refine v_gi (z := 22) (v := c 41 22) rfl rfl rfl (by decide) rfl rfl (up_n (by decide)) ?_
  refine v_cv rfl rfl rfl rfl (by decide) ⟨⟨rfl, rfl⟩, by decide, rfl⟩ (Nat.le_of_ble_eq_true rfl) (Nat.le_of_ble_eq_true rfl) ?_
  refine q_aload_n rfl rfl ?_
  refine q_iload_n rfl rfl ?_
  refine q_iconst rfl ?_
  refine q_iload_n rfl rfl ?_
  refine q_iconst rfl ?_
  refine v_isub (v := c 41 22 - 1) rfl (by omega) ?_
  refine q_call rfl rfl rfl rfl ?_
  refine q_iload_n rfl rfl ?_
  refine q_iload_n rfl rfl ?_
  by_cases h_18 : a1 < 0
  · refine v_ic_lt_t (t := 14) rfl (by decide) (by omega) ?_
    refine q_iconst rfl ?_
    refine v_zret rfl rfl (by omega) ?_
    refine bk_inl ?_
    refine q_iconst rfl ?_
    refine q_iconst rfl ?_
    refine v_cv rfl rfl rfl rfl (by decide) ⟨⟨rfl, rfl⟩, by decide, rfl⟩ (Nat.le_of_ble_eq_true rfl) (Nat.le_of_ble_eq_true rfl) ?_
    refine q_iload_n rfl rfl ?_
    refine v_if_ne_f (t := 26) rfl (by decide) (by decide) ?_
    refine q_aload_n rfl rfl ?_
    refine v_gi (z := 0) (v := 0) rfl rfl rfl (by decide) rfl rfl (up_e rfl) ?_
    refine v_if_ne_f (t := 26) rfl (by decide) (by decide) ?_
    refine q_aload_n rfl rfl ?_
    refine q_iload_n rfl rfl ?_
    refine v_pi (z := 0) rfl rfl rfl (by decide) rfl rfl rfl (by decide) ?_
    refine q_aload_n rfl rfl ?_
    refine v_gr (t := 42) rfl rfl rfl (by decide) rfl ?_
    refine q_iload_n rfl rfl ?_
    refine q_dup2 rfl ⟨rfl, rfl⟩ ?_
    have h_19 := ir_42 hI 0
    refine v_ia (v := c 42 0) rfl rfl (by decide) (by decide) (by decide) ((up_c (by decide)).trans (up_c (by decide))) ?_
    refine q_iconst rfl ?_
    refine v_iadd (v := c 42 0 + 1) rfl (by omega) ?_
    refine v_nrm (fun y_20 hy_20 => ?_)
    refine v_is rfl rfl (by decide) (by decide) (by decide) ?_
    refine q_aload_n rfl rfl ?_
    refine v_gi (z := 0) (v := 1) rfl rfl rfl (by decide) rfl rfl ((up_c (by decide)).trans (up_e rfl)) ?_
    refine v_if_ne_t (t := 37) rfl (by decide) (by decide) ?_
    refine q_iconst rfl ?_
    refine v_zret rfl rfl (by omega) ?_
    refine bk_inl ?_
    refine v_zret rfl rfl (by omega) ?_
    refine bk_inl ?_
    refine v_if_eq_t (t := 32) rfl (by decide) (by decide) ?_
    refine q_iconst rfl ?_
    refine q_iret rfl rfl ?_
    have hI_21 := iw_41_0 (v := 0) hI ⟨by decide, by decide⟩
    have hI_22 := iw_41_0 (v := 1) hI_21 ⟨by decide, by decide⟩
    have hI_23 := iw_42 (j := 0) (v := y_20) hI_22 ⟨by omega, by omega⟩
    exact K (up (up (up c 41 0 0) 41 0 1) 42 0 y_20) 0 hI_23 (fun a j hm => (up_b (by omega)).trans ((up_b (by omega)).trans (up_b (by omega)))) ⟨by decide, by decide⟩
  · refine v_ic_lt_f (t := 14) rfl (by decide) (by omega) ?_
    refine q_iload_n rfl rfl ?_
    refine q_iload_n rfl rfl ?_
    by_cases h_24 : a1 > c 41 22 - 1
    · refine v_ic_gt_t (t := 14) rfl (by decide) (by omega) ?_
      refine q_iconst rfl ?_
      refine v_zret rfl rfl (by omega) ?_
      refine bk_inl ?_
      refine q_iconst rfl ?_
      refine q_iconst rfl ?_
      refine v_cv rfl rfl rfl rfl (by decide) ⟨⟨rfl, rfl⟩, by decide, rfl⟩ (Nat.le_of_ble_eq_true rfl) (Nat.le_of_ble_eq_true rfl) ?_
      refine q_iload_n rfl rfl ?_
      refine v_if_ne_f (t := 26) rfl (by decide) (by decide) ?_
      refine q_aload_n rfl rfl ?_
      refine v_gi (z := 0) (v := 0) rfl rfl rfl (by decide) rfl rfl (up_e rfl) ?_
      refine v_if_ne_f (t := 26) rfl (by decide) (by decide) ?_
      refine q_aload_n rfl rfl ?_
      refine q_iload_n rfl rfl ?_
      refine v_pi (z := 0) rfl rfl rfl (by decide) rfl rfl rfl (by decide) ?_
      refine q_aload_n rfl rfl ?_
      refine v_gr (t := 42) rfl rfl rfl (by decide) rfl ?_
      refine q_iload_n rfl rfl ?_
      refine q_dup2 rfl ⟨rfl, rfl⟩ ?_
      have h_25 := ir_42 hI 0
      refine v_ia (v := c 42 0) rfl rfl (by decide) (by decide) (by decide) ((up_c (by decide)).trans (up_c (by decide))) ?_
      refine q_iconst rfl ?_
      refine v_iadd (v := c 42 0 + 1) rfl (by omega) ?_
      refine v_nrm (fun y_26 hy_26 => ?_)
      refine v_is rfl rfl (by decide) (by decide) (by decide) ?_
      refine q_aload_n rfl rfl ?_
      refine v_gi (z := 0) (v := 1) rfl rfl rfl (by decide) rfl rfl ((up_c (by decide)).trans (up_e rfl)) ?_
      refine v_if_ne_t (t := 37) rfl (by decide) (by decide) ?_
      refine q_iconst rfl ?_
      refine v_zret rfl rfl (by omega) ?_
      refine bk_inl ?_
      refine v_zret rfl rfl (by omega) ?_
      refine bk_inl ?_
      refine v_if_eq_t (t := 32) rfl (by decide) (by decide) ?_
      refine q_iconst rfl ?_
      refine q_iret rfl rfl ?_
      have hI_27 := iw_41_0 (v := 0) hI ⟨by decide, by decide⟩
      have hI_28 := iw_41_0 (v := 1) hI_27 ⟨by decide, by decide⟩
      have hI_29 := iw_42 (j := 0) (v := y_26) hI_28 ⟨by omega, by omega⟩
      exact K (up (up (up c 41 0 0) 41 0 1) 42 0 y_26) 0 hI_29 (fun a j hm => (up_b (by omega)).trans ((up_b (by omega)).trans (up_b (by omega)))) ⟨by decide, by decide⟩
    · refine v_ic_gt_f (t := 14) rfl (by decide) (by omega) ?_
      refine q_iconst rfl ?_
      refine q_goto (t := 15) rfl (by decide) ?_
      refine v_zret rfl rfl (by omega) ?_
      refine bk_inl ?_
      refine q_iconst rfl ?_
      refine q_iconst rfl ?_
      refine v_cv rfl rfl rfl rfl (by decide) ⟨⟨rfl, rfl⟩, by decide, rfl⟩ (Nat.le_of_ble_eq_true rfl) (Nat.le_of_ble_eq_true rfl) ?_
      refine q_iload_n rfl rfl ?_
      refine v_if_ne_t (t := 26) rfl (by decide) (by decide) ?_
      refine q_aload_n rfl rfl ?_
      refine v_gi (z := 0) (v := 0) rfl rfl rfl (by decide) rfl rfl (up_e rfl) ?_
      refine v_if_ne_f (t := 37) rfl (by decide) (by decide) ?_
      refine q_iconst rfl ?_
      refine q_goto (t := 38) rfl (by decide) ?_
      refine v_zret rfl rfl (by omega) ?_
      refine bk_inl ?_
      refine v_zret rfl rfl (by omega) ?_
      refine bk_inl ?_
      refine v_if_eq_f (t := 32) rfl (by decide) (by decide) ?_
      refine q_aload_n rfl rfl ?_
      refine q_iload_n rfl rfl ?_
      refine q_iconst rfl ?_
      refine q_iconst rfl ?_
      refine q_call rfl rfl rfl rfl ?_
      refine q_iload_n rfl rfl ?_
      refine q_iload_n rfl rfl ?_
      by_cases h_30 : a2 < 0
      · refine v_ic_lt_t (t := 14) rfl (by decide) (by omega) ?_
        refine q_iconst rfl ?_
        refine v_zret rfl rfl (by omega) ?_
        refine bk_inl ?_
        refine q_iconst rfl ?_
        refine q_iconst rfl ?_
        refine v_cv rfl rfl rfl rfl (by decide) ⟨⟨rfl, rfl⟩, by decide, rfl⟩ (Nat.le_of_ble_eq_true rfl) (Nat.le_of_ble_eq_true rfl) ?_
        refine q_iload_n rfl rfl ?_
        refine v_if_ne_f (t := 26) rfl (by decide) (by decide) ?_
        refine q_aload_n rfl rfl ?_
        refine v_gi (z := 0) (v := 0) rfl rfl rfl (by decide) rfl rfl (up_e rfl) ?_
        refine v_if_ne_f (t := 26) rfl (by decide) (by decide) ?_
        refine q_aload_n rfl rfl ?_
        refine q_iload_n rfl rfl ?_
        refine v_pi (z := 0) rfl rfl rfl (by decide) rfl rfl rfl (by decide) ?_
        refine q_aload_n rfl rfl ?_
        refine v_gr (t := 42) rfl rfl rfl (by decide) rfl ?_
        refine q_iload_n rfl rfl ?_
        refine q_dup2 rfl ⟨rfl, rfl⟩ ?_
        have h_31 := ir_42 hI 1
        refine v_ia (v := c 42 1) rfl rfl (by decide) (by decide) (by decide) ((up_c (by decide)).trans (up_c (by decide))) ?_
        refine q_iconst rfl ?_
        refine v_iadd (v := c 42 1 + 1) rfl (by omega) ?_
        refine v_nrm (fun y_32 hy_32 => ?_)
        refine v_is rfl rfl (by decide) (by decide) (by decide) ?_
        refine q_aload_n rfl rfl ?_
        refine v_gi (z := 0) (v := 2) rfl rfl rfl (by decide) rfl rfl ((up_c (by decide)).trans (up_e rfl)) ?_
        refine v_if_ne_t (t := 37) rfl (by decide) (by decide) ?_
        refine q_iconst rfl ?_
        refine v_zret rfl rfl (by omega) ?_
        refine bk_inl ?_
        refine v_if_ne_f (t := 34) rfl (by decide) (by decide) ?_
        refine q_iconst rfl ?_
        refine q_iret rfl rfl ?_
        have hI_33 := iw_41_0 (v := 0) hI ⟨by decide, by decide⟩
        have hI_34 := iw_41_0 (v := 2) hI_33 ⟨by decide, by decide⟩
        have hI_35 := iw_42 (j := 1) (v := y_32) hI_34 ⟨by omega, by omega⟩
        exact K (up (up (up c 41 0 0) 41 0 2) 42 1 y_32) 0 hI_35 (fun a j hm => (up_b (by omega)).trans ((up_b (by omega)).trans (up_b (by omega)))) ⟨by decide, by decide⟩
      · refine v_ic_lt_f (t := 14) rfl (by decide) (by omega) ?_
        refine q_iload_n rfl rfl ?_
        refine q_iload_n rfl rfl ?_
        by_cases h_36 : a2 > 1
        · refine v_ic_gt_t (t := 14) rfl (by decide) (by omega) ?_
          refine q_iconst rfl ?_
          refine v_zret rfl rfl (by omega) ?_
          refine bk_inl ?_
          refine q_iconst rfl ?_
          refine q_iconst rfl ?_
          refine v_cv rfl rfl rfl rfl (by decide) ⟨⟨rfl, rfl⟩, by decide, rfl⟩ (Nat.le_of_ble_eq_true rfl) (Nat.le_of_ble_eq_true rfl) ?_
          refine q_iload_n rfl rfl ?_
          refine v_if_ne_f (t := 26) rfl (by decide) (by decide) ?_
          refine q_aload_n rfl rfl ?_
          refine v_gi (z := 0) (v := 0) rfl rfl rfl (by decide) rfl rfl (up_e rfl) ?_
          refine v_if_ne_f (t := 26) rfl (by decide) (by decide) ?_
          refine q_aload_n rfl rfl ?_
          refine q_iload_n rfl rfl ?_
          refine v_pi (z := 0) rfl rfl rfl (by decide) rfl rfl rfl (by decide) ?_
          refine q_aload_n rfl rfl ?_
          refine v_gr (t := 42) rfl rfl rfl (by decide) rfl ?_
          refine q_iload_n rfl rfl ?_
          refine q_dup2 rfl ⟨rfl, rfl⟩ ?_
          have h_37 := ir_42 hI 1
          refine v_ia (v := c 42 1) rfl rfl (by decide) (by decide) (by decide) ((up_c (by decide)).trans (up_c (by decide))) ?_
          refine q_iconst rfl ?_
          refine v_iadd (v := c 42 1 + 1) rfl (by omega) ?_
          refine v_nrm (fun y_38 hy_38 => ?_)
          refine v_is rfl rfl (by decide) (by decide) (by decide) ?_
          refine q_aload_n rfl rfl ?_
          refine v_gi (z := 0) (v := 2) rfl rfl rfl (by decide) rfl rfl ((up_c (by decide)).trans (up_e rfl)) ?_
          refine v_if_ne_t (t := 37) rfl (by decide) (by decide) ?_
          refine q_iconst rfl ?_
          refine v_zret rfl rfl (by omega) ?_
          refine bk_inl ?_
          refine v_if_ne_f (t := 34) rfl (by decide) (by decide) ?_
          refine q_iconst rfl ?_
          refine q_iret rfl rfl ?_
          have hI_39 := iw_41_0 (v := 0) hI ⟨by decide, by decide⟩
          have hI_40 := iw_41_0 (v := 2) hI_39 ⟨by decide, by decide⟩
          have hI_41 := iw_42 (j := 1) (v := y_38) hI_40 ⟨by omega, by omega⟩
          exact K (up (up (up c 41 0 0) 41 0 2) 42 1 y_38) 0 hI_41 (fun a j hm => (up_b (by omega)).trans ((up_b (by omega)).trans (up_b (by omega)))) ⟨by decide, by decide⟩
        · refine v_ic_gt_f (t := 14) rfl (by decide) (by omega) ?_
          refine q_iconst rfl ?_
          refine q_goto (t := 15) rfl (by decide) ?_
          refine v_zret rfl rfl (by omega) ?_
          refine bk_inl ?_
          refine q_iconst rfl ?_
          refine q_iconst rfl ?_
          refine v_cv rfl rfl rfl rfl (by decide) ⟨⟨rfl, rfl⟩, by decide, rfl⟩ (Nat.le_of_ble_eq_true rfl) (Nat.le_of_ble_eq_true rfl) ?_
          refine q_iload_n rfl rfl ?_
          refine v_if_ne_t (t := 26) rfl (by decide) (by decide) ?_
          refine q_aload_n rfl rfl ?_
          refine v_gi (z := 0) (v := 0) rfl rfl rfl (by decide) rfl rfl (up_e rfl) ?_
          refine v_if_ne_f (t := 37) rfl (by decide) (by decide) ?_
          refine q_iconst rfl ?_
          refine q_goto (t := 38) rfl (by decide) ?_
          refine v_zret rfl rfl (by omega) ?_
          refine bk_inl ?_
          refine v_if_ne_t (t := 34) rfl (by decide) (by decide) ?_
          refine q_aload_n rfl rfl ?_
          have hI_42 := iw_41_0 (v := 0) hI ⟨by decide, by decide⟩
          refine v_cv rfl rfl rfl rfl (by decide) ⟨⟨rfl, rfl⟩, by decide, rfl⟩ (Nat.le_of_ble_eq_true rfl) (Nat.le_of_ble_eq_true rfl) (s_186 hI_42 (fun c_43 hI_44 hF_45 => ?_))
          refine bk_inl ?_
          refine q_iconst rfl ?_
          refine q_istore_n rfl (by decide) ?_
          refine q_iconst rfl ?_
          refine q_istore rfl (by decide) ?_
          refine Wp_ls [(0, .ref 41), (1, vi a1), (2, vi a2), (3, vi 0), (4, vi 0)] (lsub_cons rfl (lsub_cons rfl (lsub_cons rfl (lsub_cons rfl (lsub_cons rfl lsub_nil))))) ?_
          exact (s_251_l (sc := sc) (d := d) hI ha1 ha2 K 16) c_43 0 0 hI_44 (fun a j hm => (hF_45 a j (by omega)).trans (up_b (by omega))) ⟨by decide, by decide⟩ ⟨by decide, by decide⟩ (by omega) (by omega)

set_option maxRecDepth 100000 in
set_option maxHeartbeats 4000000 in
theorem s_252 {sc : List Int32} {e : Int} {d u P Q : Nat} {c : ME} {a1 : Int} {Z : AR → Prop} (hI : Iv u e P Q c) (ha1 : 1 ≤ a1 ∧ a1 ≤ 16) (K : ∀ (c2 : ME) (y : Int), Iv u e P Q c2 → (∀ (a : Nat) (j : Int), ¬ ((a = 41 ∧ j = 50)) → c2 a j = c a j) → 0 ≤ y ∧ y ≤ 15 → ((y < a1)) → Z (.inl (some (vi y)), Wd P Q P P c2, 0, 0)) : Wp sc (d + 7) 252 0 [(0, .ref 41), (1, vi a1)] [] (Wd P Q P P c) 0 0 Z := by
  have hP := iv_P hI
  have hQ := iv_Q hI
  refine q_aload_n rfl rfl ?_
  refine q_aload_n rfl rfl ?_
  have h_1 := ir_41_50 hI
  refine v_gi (z := 50) (v := c 41 50) rfl rfl rfl (by decide) rfl rfl rfl ?_
  refine v_ldcw (n := 1103515245) rfl rfl (by decide +kernel) ?_
  refine v_imul (v := 1103515245 * c 41 50) rfl (by omega) ?_
  refine v_nrm (fun y_2 hy_2 => ?_)
  refine v_sip rfl (by decide) ?_
  refine v_iadd (v := y_2 + 12345) rfl (by omega) ?_
  refine v_nrm (fun y_3 hy_3 => ?_)
  refine v_pi (z := 50) rfl rfl rfl (by decide) rfl rfl rfl (by decide) ?_
  refine q_aload_n rfl rfl ?_
  refine v_gi (z := 50) (v := y_3) rfl rfl rfl (by decide) rfl rfl (up_e rfl) ?_
  refine v_bip rfl (by decide) ?_
  refine v_ishr (m := 65536) (v := (y_3 / 65536)) 16 rfl (by omega) rfl (by decide) (by decide) rfl ?_
  refine v_sip rfl (by decide) ?_
  refine v_and15 (v := ((y_3 / 65536) % 32768)) rfl rfl ?_
  refine q_iload_n rfl rfl ?_
  have h_4 : 0 ≤ (((y_3 / 65536) % 32768) % a1) ∧ (((y_3 / 65536) % 32768) % a1) < a1 := rem_bd (by omega)
  refine v_irem (v := (((y_3 / 65536) % 32768) % a1)) rfl (by omega) rfl ?_
  refine q_iret rfl rfl ?_
  have hI_5 := iw_41_50 (v := y_3) hI ⟨by omega, by omega⟩
  exact K (up c 41 50 y_3) (((y_3 / 65536) % 32768) % a1) hI_5 (fun a j hm => up_b (by omega)) ⟨by omega, by omega⟩ (by omega)

set_option maxRecDepth 100000 in
set_option maxHeartbeats 4000000 in
theorem s_253_l {sc : List Int32} {d P Q : Nat} {c : ME} {a1 : Int} {a2 : Int} {a3 : Int} {Z : AR → Prop} (hI : Iv 0 (-1) P Q c) (ha1 : (-2147483648) ≤ a1 ∧ a1 ≤ 2147483647) (ha2 : 0 ≤ a2 ∧ a2 ≤ 16) (ha3 : 1 ≤ a3 ∧ a3 ≤ 48) (K : ∀ (c2 : ME), Iv 0 (-1) P Q c2 → (∀ (a : Nat) (j : Int), ¬ ((a = 41 ∧ j = 50) ∨ a = 59 ∨ a = 54 ∨ a = 55) → c2 a j = c a j) → Z (.inl (none), Wd P Q P P c2, 0, 0)) : ∀ n : Nat, (∀ (c2 : ME) (v4 : Int), Iv 0 (-1) P Q c2 → (∀ (a : Nat) (j : Int), ¬ ((a = 41 ∧ j = 50) ∨ a = 59 ∨ a = 54 ∨ a = 55) → c2 a j = c a j) → 0 ≤ v4 ∧ v4 ≤ 48 → 97 - 2 * v4 < (n : Int) → Wp sc (d + 14) 253 12 [(0, .ref 41), (1, vi a1), (2, vi a2), (3, vi a3), (4, vi v4)] [] (Wd P Q P P c2) 0 0 Z)
  | 0 => by intro c2 v4 hI2 hF hv4 hm9; have hP := iv_P hI; have hQ := iv_Q hI; exfalso; omega
  | n + 1 => by
    have hP := iv_P hI
    have hQ := iv_Q hI
    have ih := s_253_l (sc := sc) (d := d) hI ha1 ha2 ha3 K n
    intro c2 v4 hI2 hF hv4 hm9
    refine q_iload rfl rfl ?_
    refine q_iload_n rfl rfl ?_
    by_cases h_1 : v4 ≥ a3
    · refine v_ic_ge_t (t := 159) rfl (by decide) (by omega) ?_
      refine q_vret rfl rfl ?_
      exact K c2 hI2 (fun a j hm => hF a j (by omega))
    · refine v_ic_ge_f (t := 159) rfl (by decide) (by omega) ?_
      refine q_aload_n rfl rfl ?_
      have h_2 := ir_41_20 hI
      refine v_gi (z := 20) (v := c 41 20) rfl rfl rfl (by decide) rfl rfl (hF 41 20 (by omega)) ?_
      by_cases h_3 : c 41 20 ≤ 0
      · refine v_if_le_t (t := 57) rfl (by decide) (by omega) ?_
        refine q_aload_n rfl rfl ?_
        refine v_gi (z := 20) (v := c 41 20) rfl rfl rfl (by decide) rfl rfl (hF 41 20 (by omega)) ?_
        refine q_iconst rfl ?_
        refine v_ic_le_t (t := 129) rfl (by decide) (by omega) ?_
        refine q_aload_n rfl rfl ?_
        refine v_gi (z := 20) (v := c 41 20) rfl rfl rfl (by decide) rfl rfl (hF 41 20 (by omega)) ?_
        refine v_if_le_t (t := 149) rfl (by decide) (by omega) ?_
        refine q_aload_n rfl rfl ?_
        refine v_cv rfl rfl rfl rfl (by decide) ⟨⟨rfl, rfl⟩, by decide, rfl⟩ (Nat.le_of_ble_eq_true rfl) (Nat.le_of_ble_eq_true rfl) (s_199 hI2 (fun c_4 hI_5 hF_6 => ?_))
        refine bk_inl ?_
        refine v_iinc (v := v4 + 1) rfl rfl (by decide) (by omega) ?_
        refine q_goto (t := 12) rfl (by decide) ?_
        refine Wp_ls [(0, .ref 41), (1, vi a1), (2, vi a2), (3, vi a3), (4, vi (v4 + 1))] (lsub_cons rfl (lsub_cons rfl (lsub_cons rfl (lsub_cons rfl (lsub_cons rfl lsub_nil))))) ?_
        exact ih c_4 (v4 + 1) hI_5 (fun a j hm => (hF_6 a j (by omega)).trans (hF a j (by omega))) ⟨by omega, by omega⟩ (by omega)
      · refine v_if_le_f (t := 57) rfl (by decide) (by omega) ?_
        refine q_aload_n rfl rfl ?_
        have h_7 := ir_41_21 hI
        refine v_gi (z := 21) (v := c 41 21) rfl rfl rfl (by decide) rfl rfl (hF 41 21 (by omega)) ?_
        by_cases h_8 : c 41 21 ≤ 0
        · refine v_if_le_t (t := 57) rfl (by decide) (by omega) ?_
          refine q_aload_n rfl rfl ?_
          refine v_gi (z := 20) (v := c 41 20) rfl rfl rfl (by decide) rfl rfl (hF 41 20 (by omega)) ?_
          refine q_iconst rfl ?_
          by_cases h_9 : c 41 20 ≤ 2
          · refine v_ic_le_t (t := 129) rfl (by decide) (by omega) ?_
            refine q_aload_n rfl rfl ?_
            refine v_gi (z := 20) (v := c 41 20) rfl rfl rfl (by decide) rfl rfl (hF 41 20 (by omega)) ?_
            refine v_if_le_f (t := 149) rfl (by decide) (by omega) ?_
            refine q_aload_n rfl rfl ?_
            refine q_aload_n rfl rfl ?_
            refine q_aload_n rfl rfl ?_
            refine v_gi (z := 20) (v := c 41 20) rfl rfl rfl (by decide) rfl rfl (hF 41 20 (by omega)) ?_
            refine v_cv rfl rfl rfl rfl (by decide) ⟨⟨rfl, rfl⟩, by decide, rfl⟩ (Nat.le_of_ble_eq_true rfl) (Nat.le_of_ble_eq_true rfl) (s_252 (a1 := c 41 20) hI2 (show 1 ≤ c 41 20 ∧ c 41 20 ≤ 16 from by omega) (fun c_10 y_13 hI_11 hF_12 hy_13 h_14 => ?_))
            refine bk_inl ?_
            refine v_cv rfl rfl rfl rfl (by decide) ⟨⟨rfl, rfl⟩, by decide, rfl⟩ (Nat.le_of_ble_eq_true rfl) (Nat.le_of_ble_eq_true rfl) (s_198 (a1 := y_13) hI_11 (show 0 ≤ y_13 ∧ y_13 ≤ 5 from by omega) (fun c_15 y_18 hI_16 hF_17 hy_18 => ?_))
            refine bk_inl ?_
            refine q_pop rfl rfl ?_
            refine q_aload_n rfl rfl ?_
            refine v_cv rfl rfl rfl rfl (by decide) ⟨⟨rfl, rfl⟩, by decide, rfl⟩ (Nat.le_of_ble_eq_true rfl) (Nat.le_of_ble_eq_true rfl) (s_199 hI_16 (fun c_19 hI_20 hF_21 => ?_))
            refine bk_inl ?_
            refine v_iinc (v := v4 + 1) rfl rfl (by decide) (by omega) ?_
            refine q_goto (t := 12) rfl (by decide) ?_
            refine Wp_ls [(0, .ref 41), (1, vi a1), (2, vi a2), (3, vi a3), (4, vi (v4 + 1))] (lsub_cons rfl (lsub_cons rfl (lsub_cons rfl (lsub_cons rfl (lsub_cons rfl lsub_nil))))) ?_
            exact ih c_19 (v4 + 1) hI_20 (fun a j hm => (hF_21 a j (by omega)).trans ((hF_17 a j (by omega)).trans ((hF_12 a j (by omega)).trans (hF a j (by omega))))) ⟨by omega, by omega⟩ (by omega)
          · refine v_ic_le_f (t := 129) rfl (by decide) (by omega) ?_
            refine q_aload_n rfl rfl ?_
            have h_22 := ir_41_22 hI
            refine v_gi (z := 22) (v := c 41 22) rfl rfl rfl (by decide) rfl rfl (hF 41 22 (by omega)) ?_
            by_cases h_23 : c 41 22 ≤ 0
            · refine v_if_le_t (t := 129) rfl (by decide) (by omega) ?_
              refine q_aload_n rfl rfl ?_
              refine v_gi (z := 20) (v := c 41 20) rfl rfl rfl (by decide) rfl rfl (hF 41 20 (by omega)) ?_
              refine v_if_le_f (t := 149) rfl (by decide) (by omega) ?_
              refine q_aload_n rfl rfl ?_
              refine q_aload_n rfl rfl ?_
              refine q_aload_n rfl rfl ?_
              refine v_gi (z := 20) (v := c 41 20) rfl rfl rfl (by decide) rfl rfl (hF 41 20 (by omega)) ?_
              refine v_cv rfl rfl rfl rfl (by decide) ⟨⟨rfl, rfl⟩, by decide, rfl⟩ (Nat.le_of_ble_eq_true rfl) (Nat.le_of_ble_eq_true rfl) (s_252 (a1 := c 41 20) hI2 (show 1 ≤ c 41 20 ∧ c 41 20 ≤ 16 from by omega) (fun c_24 y_27 hI_25 hF_26 hy_27 h_28 => ?_))
              refine bk_inl ?_
              refine v_cv rfl rfl rfl rfl (by decide) ⟨⟨rfl, rfl⟩, by decide, rfl⟩ (Nat.le_of_ble_eq_true rfl) (Nat.le_of_ble_eq_true rfl) (s_198 (a1 := y_27) hI_25 (show 0 ≤ y_27 ∧ y_27 ≤ 5 from by omega) (fun c_29 y_32 hI_30 hF_31 hy_32 => ?_))
              refine bk_inl ?_
              refine q_pop rfl rfl ?_
              refine q_aload_n rfl rfl ?_
              refine v_cv rfl rfl rfl rfl (by decide) ⟨⟨rfl, rfl⟩, by decide, rfl⟩ (Nat.le_of_ble_eq_true rfl) (Nat.le_of_ble_eq_true rfl) (s_199 hI_30 (fun c_33 hI_34 hF_35 => ?_))
              refine bk_inl ?_
              refine v_iinc (v := v4 + 1) rfl rfl (by decide) (by omega) ?_
              refine q_goto (t := 12) rfl (by decide) ?_
              refine Wp_ls [(0, .ref 41), (1, vi a1), (2, vi a2), (3, vi a3), (4, vi (v4 + 1))] (lsub_cons rfl (lsub_cons rfl (lsub_cons rfl (lsub_cons rfl (lsub_cons rfl lsub_nil))))) ?_
              exact ih c_33 (v4 + 1) hI_34 (fun a j hm => (hF_35 a j (by omega)).trans ((hF_31 a j (by omega)).trans ((hF_26 a j (by omega)).trans (hF a j (by omega))))) ⟨by omega, by omega⟩ (by omega)
            · refine v_if_le_f (t := 129) rfl (by decide) (by omega) ?_
              refine q_aload_n rfl rfl ?_
              refine q_aload_n rfl rfl ?_
              refine v_gi (z := 22) (v := c 41 22) rfl rfl rfl (by decide) rfl rfl (hF 41 22 (by omega)) ?_
              refine v_cv rfl rfl rfl rfl (by decide) ⟨⟨rfl, rfl⟩, by decide, rfl⟩ (Nat.le_of_ble_eq_true rfl) (Nat.le_of_ble_eq_true rfl) (s_252 (a1 := c 41 22) hI2 (show 1 ≤ c 41 22 ∧ c 41 22 ≤ 16 from by omega) (fun c_36 y_39 hI_37 hF_38 hy_39 h_40 => ?_))
              refine bk_inl ?_
              refine q_istore rfl (by decide) ?_
              refine q_aload_n rfl rfl ?_
              refine q_aload_n rfl rfl ?_
              refine v_gi (z := 20) (v := c 41 20) rfl rfl rfl (by decide) rfl rfl ((hF_38 41 20 (by omega)).trans (hF 41 20 (by omega))) ?_
              refine v_cv rfl rfl rfl rfl (by decide) ⟨⟨rfl, rfl⟩, by decide, rfl⟩ (Nat.le_of_ble_eq_true rfl) (Nat.le_of_ble_eq_true rfl) (s_252 (a1 := c 41 20) hI_37 (show 1 ≤ c 41 20 ∧ c 41 20 ≤ 16 from by omega) (fun c_41 y_44 hI_42 hF_43 hy_44 h_45 => ?_))
              refine bk_inl ?_
              refine q_istore rfl (by decide) ?_
              refine q_aload_n rfl rfl ?_
              refine v_bip rfl (by decide) ?_
              refine v_cv rfl rfl rfl rfl (by decide) ⟨⟨rfl, rfl⟩, by decide, rfl⟩ (Nat.le_of_ble_eq_true rfl) (Nat.le_of_ble_eq_true rfl) (s_252 (a1 := 16) hI_42 (show 1 ≤ 16 ∧ 16 ≤ 16 from by omega) (fun c_46 y_49 hI_47 hF_48 hy_49 h_50 => ?_))
              refine bk_inl ?_
              refine q_iload_n rfl rfl ?_
              by_cases h_51 : y_49 ≥ a2
              · refine v_ic_ge_t (t := 129) rfl (by decide) (by omega) ?_
                refine q_aload_n rfl rfl ?_
                refine v_gi (z := 20) (v := c 41 20) rfl rfl rfl (by decide) rfl rfl ((hF_48 41 20 (by omega)).trans ((hF_43 41 20 (by omega)).trans ((hF_38 41 20 (by omega)).trans (hF 41 20 (by omega))))) ?_
                refine v_if_le_f (t := 149) rfl (by decide) (by omega) ?_
                refine q_aload_n rfl rfl ?_
                refine q_aload_n rfl rfl ?_
                refine q_aload_n rfl rfl ?_
                refine v_gi (z := 20) (v := c 41 20) rfl rfl rfl (by decide) rfl rfl ((hF_48 41 20 (by omega)).trans ((hF_43 41 20 (by omega)).trans ((hF_38 41 20 (by omega)).trans (hF 41 20 (by omega))))) ?_
                refine v_cv rfl rfl rfl rfl (by decide) ⟨⟨rfl, rfl⟩, by decide, rfl⟩ (Nat.le_of_ble_eq_true rfl) (Nat.le_of_ble_eq_true rfl) (s_252 (a1 := c 41 20) hI_47 (show 1 ≤ c 41 20 ∧ c 41 20 ≤ 16 from by omega) (fun c_52 y_55 hI_53 hF_54 hy_55 h_56 => ?_))
                refine bk_inl ?_
                refine v_cv rfl rfl rfl rfl (by decide) ⟨⟨rfl, rfl⟩, by decide, rfl⟩ (Nat.le_of_ble_eq_true rfl) (Nat.le_of_ble_eq_true rfl) (s_198 (a1 := y_55) hI_53 (show 0 ≤ y_55 ∧ y_55 ≤ 5 from by omega) (fun c_57 y_60 hI_58 hF_59 hy_60 => ?_))
                refine bk_inl ?_
                refine q_pop rfl rfl ?_
                refine q_aload_n rfl rfl ?_
                refine v_cv rfl rfl rfl rfl (by decide) ⟨⟨rfl, rfl⟩, by decide, rfl⟩ (Nat.le_of_ble_eq_true rfl) (Nat.le_of_ble_eq_true rfl) (s_199 hI_58 (fun c_61 hI_62 hF_63 => ?_))
                refine bk_inl ?_
                refine v_iinc (v := v4 + 1) rfl rfl (by decide) (by omega) ?_
                refine q_goto (t := 12) rfl (by decide) ?_
                refine Wp_ls [(0, .ref 41), (1, vi a1), (2, vi a2), (3, vi a3), (4, vi (v4 + 1))] (lsub_cons rfl (lsub_cons rfl (lsub_cons rfl (lsub_cons rfl (lsub_cons rfl lsub_nil))))) ?_
                exact ih c_61 (v4 + 1) hI_62 (fun a j hm => (hF_63 a j (by omega)).trans ((hF_59 a j (by omega)).trans ((hF_54 a j (by omega)).trans ((hF_48 a j (by omega)).trans ((hF_43 a j (by omega)).trans ((hF_38 a j (by omega)).trans (hF a j (by omega)))))))) ⟨by omega, by omega⟩ (by omega)
              · refine v_ic_ge_f (t := 129) rfl (by decide) (by omega) ?_
                refine q_aload_n rfl rfl ?_
                refine q_iload rfl rfl ?_
                refine q_iload rfl rfl ?_
                refine q_iload rfl rfl ?_
                refine q_iconst rfl ?_
                refine v_iadd (v := y_44 + 1) rfl (by omega) ?_
                refine q_aload_n rfl rfl ?_
                refine v_gi (z := 20) (v := c 41 20) rfl rfl rfl (by decide) rfl rfl ((hF_48 41 20 (by omega)).trans ((hF_43 41 20 (by omega)).trans ((hF_38 41 20 (by omega)).trans (hF 41 20 (by omega))))) ?_
                have h_64 : 0 ≤ ((y_44 + 1) % (c 41 20)) ∧ ((y_44 + 1) % (c 41 20)) < c 41 20 := rem_bd (by omega)
                refine v_irem (v := ((y_44 + 1) % (c 41 20))) rfl (by omega) rfl ?_
                refine q_iload rfl rfl ?_
                refine q_iconst rfl ?_
                refine v_iadd (v := y_44 + 2) rfl (by omega) ?_
                refine q_aload_n rfl rfl ?_
                refine v_gi (z := 20) (v := c 41 20) rfl rfl rfl (by decide) rfl rfl ((hF_48 41 20 (by omega)).trans ((hF_43 41 20 (by omega)).trans ((hF_38 41 20 (by omega)).trans (hF 41 20 (by omega))))) ?_
                have h_65 : 0 ≤ ((y_44 + 2) % (c 41 20)) ∧ ((y_44 + 2) % (c 41 20)) < c 41 20 := rem_bd (by omega)
                refine v_irem (v := ((y_44 + 2) % (c 41 20))) rfl (by omega) rfl ?_
                refine v_cv rfl rfl rfl rfl (by decide) ⟨⟨rfl, rfl⟩, by decide, rfl⟩ (Nat.le_of_ble_eq_true rfl) (Nat.le_of_ble_eq_true rfl) (s_193 (a1 := y_39) (a2 := y_44) (a3 := ((y_44 + 1) % (c 41 20))) (a4 := ((y_44 + 2) % (c 41 20))) hI_47 (show 0 ≤ y_39 ∧ y_39 ≤ 3 from by omega) (show 0 ≤ y_44 ∧ y_44 ≤ 5 from by omega) (show 0 ≤ ((y_44 + 1) % (c 41 20)) ∧ ((y_44 + 1) % (c 41 20)) ≤ 5 from by omega) (show 0 ≤ ((y_44 + 2) % (c 41 20)) ∧ ((y_44 + 2) % (c 41 20)) ≤ 5 from by omega) (fun c_66 y_69 hI_67 hF_68 hy_69 => ?_))
                refine bk_inl ?_
                refine q_pop rfl rfl ?_
                refine q_aload_n rfl rfl ?_
                refine v_gi (z := 20) (v := c 41 20) rfl rfl rfl (by decide) rfl rfl ((hF_68 41 20 (by omega)).trans ((hF_48 41 20 (by omega)).trans ((hF_43 41 20 (by omega)).trans ((hF_38 41 20 (by omega)).trans (hF 41 20 (by omega)))))) ?_
                refine v_if_le_f (t := 149) rfl (by decide) (by omega) ?_
                refine q_aload_n rfl rfl ?_
                refine q_aload_n rfl rfl ?_
                refine q_aload_n rfl rfl ?_
                refine v_gi (z := 20) (v := c 41 20) rfl rfl rfl (by decide) rfl rfl ((hF_68 41 20 (by omega)).trans ((hF_48 41 20 (by omega)).trans ((hF_43 41 20 (by omega)).trans ((hF_38 41 20 (by omega)).trans (hF 41 20 (by omega)))))) ?_
                refine v_cv rfl rfl rfl rfl (by decide) ⟨⟨rfl, rfl⟩, by decide, rfl⟩ (Nat.le_of_ble_eq_true rfl) (Nat.le_of_ble_eq_true rfl) (s_252 (a1 := c 41 20) hI_67 (show 1 ≤ c 41 20 ∧ c 41 20 ≤ 16 from by omega) (fun c_70 y_73 hI_71 hF_72 hy_73 h_74 => ?_))
                refine bk_inl ?_
                refine v_cv rfl rfl rfl rfl (by decide) ⟨⟨rfl, rfl⟩, by decide, rfl⟩ (Nat.le_of_ble_eq_true rfl) (Nat.le_of_ble_eq_true rfl) (s_198 (a1 := y_73) hI_71 (show 0 ≤ y_73 ∧ y_73 ≤ 5 from by omega) (fun c_75 y_78 hI_76 hF_77 hy_78 => ?_))
                refine bk_inl ?_
                refine q_pop rfl rfl ?_
                refine q_aload_n rfl rfl ?_
                refine v_cv rfl rfl rfl rfl (by decide) ⟨⟨rfl, rfl⟩, by decide, rfl⟩ (Nat.le_of_ble_eq_true rfl) (Nat.le_of_ble_eq_true rfl) (s_199 hI_76 (fun c_79 hI_80 hF_81 => ?_))
                refine bk_inl ?_
                refine v_iinc (v := v4 + 1) rfl rfl (by decide) (by omega) ?_
                refine q_goto (t := 12) rfl (by decide) ?_
                refine Wp_ls [(0, .ref 41), (1, vi a1), (2, vi a2), (3, vi a3), (4, vi (v4 + 1))] (lsub_cons rfl (lsub_cons rfl (lsub_cons rfl (lsub_cons rfl (lsub_cons rfl lsub_nil))))) ?_
                exact ih c_79 (v4 + 1) hI_80 (fun a j hm => (hF_81 a j (by omega)).trans ((hF_77 a j (by omega)).trans ((hF_72 a j (by omega)).trans ((hF_68 a j (by omega)).trans ((hF_48 a j (by omega)).trans ((hF_43 a j (by omega)).trans ((hF_38 a j (by omega)).trans (hF a j (by omega))))))))) ⟨by omega, by omega⟩ (by omega)
        · refine v_if_le_f (t := 57) rfl (by decide) (by omega) ?_
          refine q_aload_n rfl rfl ?_
          refine q_aload_n rfl rfl ?_
          refine v_gi (z := 21) (v := c 41 21) rfl rfl rfl (by decide) rfl rfl (hF 41 21 (by omega)) ?_
          refine v_cv rfl rfl rfl rfl (by decide) ⟨⟨rfl, rfl⟩, by decide, rfl⟩ (Nat.le_of_ble_eq_true rfl) (Nat.le_of_ble_eq_true rfl) (s_252 (a1 := c 41 21) hI2 (show 1 ≤ c 41 21 ∧ c 41 21 ≤ 16 from by omega) (fun c_82 y_85 hI_83 hF_84 hy_85 h_86 => ?_))
          refine bk_inl ?_
          refine q_istore rfl (by decide) ?_
          refine q_aload_n rfl rfl ?_
          refine q_iload rfl rfl ?_
          refine q_aload_n rfl rfl ?_
          refine q_aload_n rfl rfl ?_
          refine v_gi (z := 20) (v := c 41 20) rfl rfl rfl (by decide) rfl rfl ((hF_84 41 20 (by omega)).trans (hF 41 20 (by omega))) ?_
          refine v_cv rfl rfl rfl rfl (by decide) ⟨⟨rfl, rfl⟩, by decide, rfl⟩ (Nat.le_of_ble_eq_true rfl) (Nat.le_of_ble_eq_true rfl) (s_252 (a1 := c 41 20) hI_83 (show 1 ≤ c 41 20 ∧ c 41 20 ≤ 16 from by omega) (fun c_87 y_90 hI_88 hF_89 hy_90 h_91 => ?_))
          refine bk_inl ?_
          refine v_cv rfl rfl rfl rfl (by decide) ⟨⟨rfl, rfl⟩, by decide, rfl⟩ (Nat.le_of_ble_eq_true rfl) (Nat.le_of_ble_eq_true rfl) (s_188 (a1 := y_85) (a2 := y_90) hI_88 (show 0 ≤ y_85 ∧ y_85 ≤ 3 from by omega) (show 0 ≤ y_90 ∧ y_90 ≤ 5 from by omega) (fun c_92 y_95 hI_93 hF_94 hy_95 => ?_))
          refine bk_inl ?_
          refine q_pop rfl rfl ?_
          refine q_aload_n rfl rfl ?_
          refine v_gi (z := 20) (v := c 41 20) rfl rfl rfl (by decide) rfl rfl ((hF_94 41 20 (by omega)).trans ((hF_89 41 20 (by omega)).trans ((hF_84 41 20 (by omega)).trans (hF 41 20 (by omega))))) ?_
          refine q_iconst rfl ?_
          by_cases h_96 : c 41 20 ≤ 2
          · refine v_ic_le_t (t := 129) rfl (by decide) (by omega) ?_
            refine q_aload_n rfl rfl ?_
            refine v_gi (z := 20) (v := c 41 20) rfl rfl rfl (by decide) rfl rfl ((hF_94 41 20 (by omega)).trans ((hF_89 41 20 (by omega)).trans ((hF_84 41 20 (by omega)).trans (hF 41 20 (by omega))))) ?_
            refine v_if_le_f (t := 149) rfl (by decide) (by omega) ?_
            refine q_aload_n rfl rfl ?_
            refine q_aload_n rfl rfl ?_
            refine q_aload_n rfl rfl ?_
            refine v_gi (z := 20) (v := c 41 20) rfl rfl rfl (by decide) rfl rfl ((hF_94 41 20 (by omega)).trans ((hF_89 41 20 (by omega)).trans ((hF_84 41 20 (by omega)).trans (hF 41 20 (by omega))))) ?_
            refine v_cv rfl rfl rfl rfl (by decide) ⟨⟨rfl, rfl⟩, by decide, rfl⟩ (Nat.le_of_ble_eq_true rfl) (Nat.le_of_ble_eq_true rfl) (s_252 (a1 := c 41 20) hI_93 (show 1 ≤ c 41 20 ∧ c 41 20 ≤ 16 from by omega) (fun c_97 y_100 hI_98 hF_99 hy_100 h_101 => ?_))
            refine bk_inl ?_
            refine v_cv rfl rfl rfl rfl (by decide) ⟨⟨rfl, rfl⟩, by decide, rfl⟩ (Nat.le_of_ble_eq_true rfl) (Nat.le_of_ble_eq_true rfl) (s_198 (a1 := y_100) hI_98 (show 0 ≤ y_100 ∧ y_100 ≤ 5 from by omega) (fun c_102 y_105 hI_103 hF_104 hy_105 => ?_))
            refine bk_inl ?_
            refine q_pop rfl rfl ?_
            refine q_aload_n rfl rfl ?_
            refine v_cv rfl rfl rfl rfl (by decide) ⟨⟨rfl, rfl⟩, by decide, rfl⟩ (Nat.le_of_ble_eq_true rfl) (Nat.le_of_ble_eq_true rfl) (s_199 hI_103 (fun c_106 hI_107 hF_108 => ?_))
            refine bk_inl ?_
            refine v_iinc (v := v4 + 1) rfl rfl (by decide) (by omega) ?_
            refine q_goto (t := 12) rfl (by decide) ?_
            refine Wp_ls [(0, .ref 41), (1, vi a1), (2, vi a2), (3, vi a3), (4, vi (v4 + 1))] (lsub_cons rfl (lsub_cons rfl (lsub_cons rfl (lsub_cons rfl (lsub_cons rfl lsub_nil))))) ?_
            exact ih c_106 (v4 + 1) hI_107 (fun a j hm => (hF_108 a j (by omega)).trans ((hF_104 a j (by omega)).trans ((hF_99 a j (by omega)).trans ((hF_94 a j (by omega)).trans ((hF_89 a j (by omega)).trans ((hF_84 a j (by omega)).trans (hF a j (by omega)))))))) ⟨by omega, by omega⟩ (by omega)
          · refine v_ic_le_f (t := 129) rfl (by decide) (by omega) ?_
            refine q_aload_n rfl rfl ?_
            have h_109 := ir_41_22 hI
            refine v_gi (z := 22) (v := c 41 22) rfl rfl rfl (by decide) rfl rfl ((hF_94 41 22 (by omega)).trans ((hF_89 41 22 (by omega)).trans ((hF_84 41 22 (by omega)).trans (hF 41 22 (by omega))))) ?_
            by_cases h_110 : c 41 22 ≤ 0
            · refine v_if_le_t (t := 129) rfl (by decide) (by omega) ?_
              refine q_aload_n rfl rfl ?_
              refine v_gi (z := 20) (v := c 41 20) rfl rfl rfl (by decide) rfl rfl ((hF_94 41 20 (by omega)).trans ((hF_89 41 20 (by omega)).trans ((hF_84 41 20 (by omega)).trans (hF 41 20 (by omega))))) ?_
              refine v_if_le_f (t := 149) rfl (by decide) (by omega) ?_
              refine q_aload_n rfl rfl ?_
              refine q_aload_n rfl rfl ?_
              refine q_aload_n rfl rfl ?_
              refine v_gi (z := 20) (v := c 41 20) rfl rfl rfl (by decide) rfl rfl ((hF_94 41 20 (by omega)).trans ((hF_89 41 20 (by omega)).trans ((hF_84 41 20 (by omega)).trans (hF 41 20 (by omega))))) ?_
              refine v_cv rfl rfl rfl rfl (by decide) ⟨⟨rfl, rfl⟩, by decide, rfl⟩ (Nat.le_of_ble_eq_true rfl) (Nat.le_of_ble_eq_true rfl) (s_252 (a1 := c 41 20) hI_93 (show 1 ≤ c 41 20 ∧ c 41 20 ≤ 16 from by omega) (fun c_111 y_114 hI_112 hF_113 hy_114 h_115 => ?_))
              refine bk_inl ?_
              refine v_cv rfl rfl rfl rfl (by decide) ⟨⟨rfl, rfl⟩, by decide, rfl⟩ (Nat.le_of_ble_eq_true rfl) (Nat.le_of_ble_eq_true rfl) (s_198 (a1 := y_114) hI_112 (show 0 ≤ y_114 ∧ y_114 ≤ 5 from by omega) (fun c_116 y_119 hI_117 hF_118 hy_119 => ?_))
              refine bk_inl ?_
              refine q_pop rfl rfl ?_
              refine q_aload_n rfl rfl ?_
              refine v_cv rfl rfl rfl rfl (by decide) ⟨⟨rfl, rfl⟩, by decide, rfl⟩ (Nat.le_of_ble_eq_true rfl) (Nat.le_of_ble_eq_true rfl) (s_199 hI_117 (fun c_120 hI_121 hF_122 => ?_))
              refine bk_inl ?_
              refine v_iinc (v := v4 + 1) rfl rfl (by decide) (by omega) ?_
              refine q_goto (t := 12) rfl (by decide) ?_
              refine Wp_ls [(0, .ref 41), (1, vi a1), (2, vi a2), (3, vi a3), (4, vi (v4 + 1))] (lsub_cons rfl (lsub_cons rfl (lsub_cons rfl (lsub_cons rfl (lsub_cons rfl lsub_nil))))) ?_
              exact ih c_120 (v4 + 1) hI_121 (fun a j hm => (hF_122 a j (by omega)).trans ((hF_118 a j (by omega)).trans ((hF_113 a j (by omega)).trans ((hF_94 a j (by omega)).trans ((hF_89 a j (by omega)).trans ((hF_84 a j (by omega)).trans (hF a j (by omega)))))))) ⟨by omega, by omega⟩ (by omega)
            · refine v_if_le_f (t := 129) rfl (by decide) (by omega) ?_
              refine q_aload_n rfl rfl ?_
              refine q_aload_n rfl rfl ?_
              refine v_gi (z := 22) (v := c 41 22) rfl rfl rfl (by decide) rfl rfl ((hF_94 41 22 (by omega)).trans ((hF_89 41 22 (by omega)).trans ((hF_84 41 22 (by omega)).trans (hF 41 22 (by omega))))) ?_
              refine v_cv rfl rfl rfl rfl (by decide) ⟨⟨rfl, rfl⟩, by decide, rfl⟩ (Nat.le_of_ble_eq_true rfl) (Nat.le_of_ble_eq_true rfl) (s_252 (a1 := c 41 22) hI_93 (show 1 ≤ c 41 22 ∧ c 41 22 ≤ 16 from by omega) (fun c_123 y_126 hI_124 hF_125 hy_126 h_127 => ?_))
              refine bk_inl ?_
              refine q_istore rfl (by decide) ?_
              refine q_aload_n rfl rfl ?_
              refine q_aload_n rfl rfl ?_
              refine v_gi (z := 20) (v := c 41 20) rfl rfl rfl (by decide) rfl rfl ((hF_125 41 20 (by omega)).trans ((hF_94 41 20 (by omega)).trans ((hF_89 41 20 (by omega)).trans ((hF_84 41 20 (by omega)).trans (hF 41 20 (by omega)))))) ?_
              refine v_cv rfl rfl rfl rfl (by decide) ⟨⟨rfl, rfl⟩, by decide, rfl⟩ (Nat.le_of_ble_eq_true rfl) (Nat.le_of_ble_eq_true rfl) (s_252 (a1 := c 41 20) hI_124 (show 1 ≤ c 41 20 ∧ c 41 20 ≤ 16 from by omega) (fun c_128 y_131 hI_129 hF_130 hy_131 h_132 => ?_))
              refine bk_inl ?_
              refine q_istore rfl (by decide) ?_
              refine q_aload_n rfl rfl ?_
              refine v_bip rfl (by decide) ?_
              refine v_cv rfl rfl rfl rfl (by decide) ⟨⟨rfl, rfl⟩, by decide, rfl⟩ (Nat.le_of_ble_eq_true rfl) (Nat.le_of_ble_eq_true rfl) (s_252 (a1 := 16) hI_129 (show 1 ≤ 16 ∧ 16 ≤ 16 from by omega) (fun c_133 y_136 hI_134 hF_135 hy_136 h_137 => ?_))
              refine bk_inl ?_
              refine q_iload_n rfl rfl ?_
              by_cases h_138 : y_136 ≥ a2
              · refine v_ic_ge_t (t := 129) rfl (by decide) (by omega) ?_
                refine q_aload_n rfl rfl ?_
                refine v_gi (z := 20) (v := c 41 20) rfl rfl rfl (by decide) rfl rfl ((hF_135 41 20 (by omega)).trans ((hF_130 41 20 (by omega)).trans ((hF_125 41 20 (by omega)).trans ((hF_94 41 20 (by omega)).trans ((hF_89 41 20 (by omega)).trans ((hF_84 41 20 (by omega)).trans (hF 41 20 (by omega)))))))) ?_
                refine v_if_le_f (t := 149) rfl (by decide) (by omega) ?_
                refine q_aload_n rfl rfl ?_
                refine q_aload_n rfl rfl ?_
                refine q_aload_n rfl rfl ?_
                refine v_gi (z := 20) (v := c 41 20) rfl rfl rfl (by decide) rfl rfl ((hF_135 41 20 (by omega)).trans ((hF_130 41 20 (by omega)).trans ((hF_125 41 20 (by omega)).trans ((hF_94 41 20 (by omega)).trans ((hF_89 41 20 (by omega)).trans ((hF_84 41 20 (by omega)).trans (hF 41 20 (by omega)))))))) ?_
                refine v_cv rfl rfl rfl rfl (by decide) ⟨⟨rfl, rfl⟩, by decide, rfl⟩ (Nat.le_of_ble_eq_true rfl) (Nat.le_of_ble_eq_true rfl) (s_252 (a1 := c 41 20) hI_134 (show 1 ≤ c 41 20 ∧ c 41 20 ≤ 16 from by omega) (fun c_139 y_142 hI_140 hF_141 hy_142 h_143 => ?_))
                refine bk_inl ?_
                refine v_cv rfl rfl rfl rfl (by decide) ⟨⟨rfl, rfl⟩, by decide, rfl⟩ (Nat.le_of_ble_eq_true rfl) (Nat.le_of_ble_eq_true rfl) (s_198 (a1 := y_142) hI_140 (show 0 ≤ y_142 ∧ y_142 ≤ 5 from by omega) (fun c_144 y_147 hI_145 hF_146 hy_147 => ?_))
                refine bk_inl ?_
                refine q_pop rfl rfl ?_
                refine q_aload_n rfl rfl ?_
                refine v_cv rfl rfl rfl rfl (by decide) ⟨⟨rfl, rfl⟩, by decide, rfl⟩ (Nat.le_of_ble_eq_true rfl) (Nat.le_of_ble_eq_true rfl) (s_199 hI_145 (fun c_148 hI_149 hF_150 => ?_))
                refine bk_inl ?_
                refine v_iinc (v := v4 + 1) rfl rfl (by decide) (by omega) ?_
                refine q_goto (t := 12) rfl (by decide) ?_
                refine Wp_ls [(0, .ref 41), (1, vi a1), (2, vi a2), (3, vi a3), (4, vi (v4 + 1))] (lsub_cons rfl (lsub_cons rfl (lsub_cons rfl (lsub_cons rfl (lsub_cons rfl lsub_nil))))) ?_
                exact ih c_148 (v4 + 1) hI_149 (fun a j hm => (hF_150 a j (by omega)).trans ((hF_146 a j (by omega)).trans ((hF_141 a j (by omega)).trans ((hF_135 a j (by omega)).trans ((hF_130 a j (by omega)).trans ((hF_125 a j (by omega)).trans ((hF_94 a j (by omega)).trans ((hF_89 a j (by omega)).trans ((hF_84 a j (by omega)).trans (hF a j (by omega))))))))))) ⟨by omega, by omega⟩ (by omega)
              · refine v_ic_ge_f (t := 129) rfl (by decide) (by omega) ?_
                refine q_aload_n rfl rfl ?_
                refine q_iload rfl rfl ?_
                refine q_iload rfl rfl ?_
                refine q_iload rfl rfl ?_
                refine q_iconst rfl ?_
                refine v_iadd (v := y_131 + 1) rfl (by omega) ?_
                refine q_aload_n rfl rfl ?_
                refine v_gi (z := 20) (v := c 41 20) rfl rfl rfl (by decide) rfl rfl ((hF_135 41 20 (by omega)).trans ((hF_130 41 20 (by omega)).trans ((hF_125 41 20 (by omega)).trans ((hF_94 41 20 (by omega)).trans ((hF_89 41 20 (by omega)).trans ((hF_84 41 20 (by omega)).trans (hF 41 20 (by omega)))))))) ?_
                have h_151 : 0 ≤ ((y_131 + 1) % (c 41 20)) ∧ ((y_131 + 1) % (c 41 20)) < c 41 20 := rem_bd (by omega)
                refine v_irem (v := ((y_131 + 1) % (c 41 20))) rfl (by omega) rfl ?_
                refine q_iload rfl rfl ?_
                refine q_iconst rfl ?_
                refine v_iadd (v := y_131 + 2) rfl (by omega) ?_
                refine q_aload_n rfl rfl ?_
                refine v_gi (z := 20) (v := c 41 20) rfl rfl rfl (by decide) rfl rfl ((hF_135 41 20 (by omega)).trans ((hF_130 41 20 (by omega)).trans ((hF_125 41 20 (by omega)).trans ((hF_94 41 20 (by omega)).trans ((hF_89 41 20 (by omega)).trans ((hF_84 41 20 (by omega)).trans (hF 41 20 (by omega)))))))) ?_
                have h_152 : 0 ≤ ((y_131 + 2) % (c 41 20)) ∧ ((y_131 + 2) % (c 41 20)) < c 41 20 := rem_bd (by omega)
                refine v_irem (v := ((y_131 + 2) % (c 41 20))) rfl (by omega) rfl ?_
                refine v_cv rfl rfl rfl rfl (by decide) ⟨⟨rfl, rfl⟩, by decide, rfl⟩ (Nat.le_of_ble_eq_true rfl) (Nat.le_of_ble_eq_true rfl) (s_193 (a1 := y_126) (a2 := y_131) (a3 := ((y_131 + 1) % (c 41 20))) (a4 := ((y_131 + 2) % (c 41 20))) hI_134 (show 0 ≤ y_126 ∧ y_126 ≤ 3 from by omega) (show 0 ≤ y_131 ∧ y_131 ≤ 5 from by omega) (show 0 ≤ ((y_131 + 1) % (c 41 20)) ∧ ((y_131 + 1) % (c 41 20)) ≤ 5 from by omega) (show 0 ≤ ((y_131 + 2) % (c 41 20)) ∧ ((y_131 + 2) % (c 41 20)) ≤ 5 from by omega) (fun c_153 y_156 hI_154 hF_155 hy_156 => ?_))
                refine bk_inl ?_
                refine q_pop rfl rfl ?_
                refine q_aload_n rfl rfl ?_
                refine v_gi (z := 20) (v := c 41 20) rfl rfl rfl (by decide) rfl rfl ((hF_155 41 20 (by omega)).trans ((hF_135 41 20 (by omega)).trans ((hF_130 41 20 (by omega)).trans ((hF_125 41 20 (by omega)).trans ((hF_94 41 20 (by omega)).trans ((hF_89 41 20 (by omega)).trans ((hF_84 41 20 (by omega)).trans (hF 41 20 (by omega))))))))) ?_
                refine v_if_le_f (t := 149) rfl (by decide) (by omega) ?_
                refine q_aload_n rfl rfl ?_
                refine q_aload_n rfl rfl ?_
                refine q_aload_n rfl rfl ?_
                refine v_gi (z := 20) (v := c 41 20) rfl rfl rfl (by decide) rfl rfl ((hF_155 41 20 (by omega)).trans ((hF_135 41 20 (by omega)).trans ((hF_130 41 20 (by omega)).trans ((hF_125 41 20 (by omega)).trans ((hF_94 41 20 (by omega)).trans ((hF_89 41 20 (by omega)).trans ((hF_84 41 20 (by omega)).trans (hF 41 20 (by omega))))))))) ?_
                refine v_cv rfl rfl rfl rfl (by decide) ⟨⟨rfl, rfl⟩, by decide, rfl⟩ (Nat.le_of_ble_eq_true rfl) (Nat.le_of_ble_eq_true rfl) (s_252 (a1 := c 41 20) hI_154 (show 1 ≤ c 41 20 ∧ c 41 20 ≤ 16 from by omega) (fun c_157 y_160 hI_158 hF_159 hy_160 h_161 => ?_))
                refine bk_inl ?_
                refine v_cv rfl rfl rfl rfl (by decide) ⟨⟨rfl, rfl⟩, by decide, rfl⟩ (Nat.le_of_ble_eq_true rfl) (Nat.le_of_ble_eq_true rfl) (s_198 (a1 := y_160) hI_158 (show 0 ≤ y_160 ∧ y_160 ≤ 5 from by omega) (fun c_162 y_165 hI_163 hF_164 hy_165 => ?_))
                refine bk_inl ?_
                refine q_pop rfl rfl ?_
                refine q_aload_n rfl rfl ?_
                refine v_cv rfl rfl rfl rfl (by decide) ⟨⟨rfl, rfl⟩, by decide, rfl⟩ (Nat.le_of_ble_eq_true rfl) (Nat.le_of_ble_eq_true rfl) (s_199 hI_163 (fun c_166 hI_167 hF_168 => ?_))
                refine bk_inl ?_
                refine v_iinc (v := v4 + 1) rfl rfl (by decide) (by omega) ?_
                refine q_goto (t := 12) rfl (by decide) ?_
                refine Wp_ls [(0, .ref 41), (1, vi a1), (2, vi a2), (3, vi a3), (4, vi (v4 + 1))] (lsub_cons rfl (lsub_cons rfl (lsub_cons rfl (lsub_cons rfl (lsub_cons rfl lsub_nil))))) ?_
                exact ih c_166 (v4 + 1) hI_167 (fun a j hm => (hF_168 a j (by omega)).trans ((hF_164 a j (by omega)).trans ((hF_159 a j (by omega)).trans ((hF_155 a j (by omega)).trans ((hF_135 a j (by omega)).trans ((hF_130 a j (by omega)).trans ((hF_125 a j (by omega)).trans ((hF_94 a j (by omega)).trans ((hF_89 a j (by omega)).trans ((hF_84 a j (by omega)).trans (hF a j (by omega)))))))))))) ⟨by omega, by omega⟩ (by omega)
set_option maxRecDepth 100000 in
set_option maxHeartbeats 4000000 in
theorem s_253 {sc : List Int32} {d P Q : Nat} {c : ME} {a1 : Int} {a2 : Int} {a3 : Int} {Z : AR → Prop} (hI : Iv 0 (-1) P Q c) (ha1 : (-2147483648) ≤ a1 ∧ a1 ≤ 2147483647) (ha2 : 0 ≤ a2 ∧ a2 ≤ 16) (ha3 : 1 ≤ a3 ∧ a3 ≤ 48) (K : ∀ (c2 : ME), Iv 0 (-1) P Q c2 → (∀ (a : Nat) (j : Int), ¬ ((a = 41 ∧ j = 50) ∨ a = 59 ∨ a = 54 ∨ a = 55) → c2 a j = c a j) → Z (.inl (none), Wd P Q P P c2, 0, 0)) : Wp sc (d + 14) 253 0 [(0, .ref 41), (1, vi a1), (2, vi a2), (3, vi a3)] [] (Wd P Q P P c) 0 0 Z := by
  have hP := iv_P hI
  have hQ := iv_Q hI
  refine q_aload_n rfl rfl ?_
  refine v_cv rfl rfl rfl rfl (by decide) ⟨⟨rfl, rfl⟩, by decide, rfl⟩ (Nat.le_of_ble_eq_true rfl) (Nat.le_of_ble_eq_true rfl) (s_186 hI (fun c_169 hI_170 hF_171 => ?_))
  refine bk_inl ?_
  refine q_aload_n rfl rfl ?_
  refine q_iload_n rfl rfl ?_
  refine v_pi (z := 50) rfl rfl rfl (by decide) rfl rfl rfl (by decide) ?_
  refine q_iconst rfl ?_
  refine q_istore rfl (by decide) ?_
  have hI_172 := iw_41_50 (v := a1) hI_170 ⟨by omega, by omega⟩
  refine Wp_ls [(0, .ref 41), (1, vi a1), (2, vi a2), (3, vi a3), (4, vi 0)] (lsub_cons rfl (lsub_cons rfl (lsub_cons rfl (lsub_cons rfl (lsub_cons rfl lsub_nil))))) ?_
  exact (s_253_l (sc := sc) (d := d) hI ha1 ha2 ha3 K 100) (up c_169 41 50 a1) 0 hI_172 (fun a j hm => (up_b (by omega)).trans (hF_171 a j (by omega))) ⟨by decide, by decide⟩ (by omega)

set_option maxRecDepth 100000 in
set_option maxHeartbeats 4000000 in
theorem s_255 {sc : List Int32} {d P Q : Nat} {c : ME} {a1 : Int} {a2 : Int} {a3 : Int} {a4 : Int} {Z : AR → Prop} (hI : Iv 0 (-1) P Q c) (ha1 : (-2147483648) ≤ a1 ∧ a1 ≤ 2147483647) (ha2 : (-2147483648) ≤ a2 ∧ a2 ≤ 2147483647) (ha3 : (-2147483648) ≤ a3 ∧ a3 ≤ 2147483647) (ha4 : (-2147483648) ≤ a4 ∧ a4 ≤ 2147483647) (K : ∀ (c2 : ME) (y : Int), Iv 0 (-1) P Q c2 → (∀ (a : Nat) (j : Int), ¬ ((a = 41 ∧ j = 0) ∨ a = 42 ∨ (a = 41 ∧ j = 50) ∨ a = 59 ∨ a = 54 ∨ a = 55) → c2 a j = c a j) → (-2147483648) ≤ y ∧ y ≤ 2147483647 → Z (.inl (some (vi y)), Wd P Q P P c2, 0, 0)) : Wp sc (d + 15) 255 0 [(0, .ref 41), (1, vi a1), (2, vi a2), (3, vi a3), (4, vi a4)] [] (Wd P Q P P c) 0 0 Z := by
  have hP := iv_P hI
  have hQ := iv_Q hI
  refine q_aload_n rfl rfl ?_
  refine q_iconst rfl ?_
  refine v_pi (z := 0) rfl rfl rfl (by decide) rfl rfl rfl (by decide) ?_
  refine q_aload_n rfl rfl ?_
  refine q_iload_n rfl rfl ?_
  refine q_iload_n rfl rfl ?_
  refine q_call rfl rfl rfl rfl ?_
  refine q_iload_n rfl rfl ?_
  by_cases h_1 : a2 < 0
  · refine v_if_lt_t (t := 25) rfl (by decide) (by omega) ?_
    refine q_iconst rfl ?_
    refine v_zret rfl rfl (by omega) ?_
    refine bk_inl ?_
    refine v_if_eq_t (t := 28) rfl (by decide) (by decide) ?_
    refine q_iconst rfl ?_
    refine q_iconst rfl ?_
    refine q_iconst rfl ?_
    refine v_cv rfl rfl rfl rfl (by decide) ⟨⟨rfl, rfl⟩, by decide, rfl⟩ (Nat.le_of_ble_eq_true rfl) (Nat.le_of_ble_eq_true rfl) ?_
    refine q_iload_n rfl rfl ?_
    refine v_if_ne_f (t := 26) rfl (by decide) (by decide) ?_
    refine q_aload_n rfl rfl ?_
    refine v_gi (z := 0) (v := 0) rfl rfl rfl (by decide) rfl rfl (up_e rfl) ?_
    refine v_if_ne_f (t := 26) rfl (by decide) (by decide) ?_
    refine q_aload_n rfl rfl ?_
    refine q_iload_n rfl rfl ?_
    refine v_pi (z := 0) rfl rfl rfl (by decide) rfl rfl rfl (by decide) ?_
    refine q_aload_n rfl rfl ?_
    refine v_gr (t := 42) rfl rfl rfl (by decide) rfl ?_
    refine q_iload_n rfl rfl ?_
    refine q_dup2 rfl ⟨rfl, rfl⟩ ?_
    have h_2 := ir_42 hI 1
    refine v_ia (v := c 42 1) rfl rfl (by decide) (by decide) (by decide) ((up_c (by decide)).trans (up_c (by decide))) ?_
    refine q_iconst rfl ?_
    refine v_iadd (v := c 42 1 + 1) rfl (by omega) ?_
    refine v_nrm (fun y_3 hy_3 => ?_)
    refine v_is rfl rfl (by decide) (by decide) (by decide) ?_
    refine q_aload_n rfl rfl ?_
    refine v_gi (z := 0) (v := 1) rfl rfl rfl (by decide) rfl rfl ((up_c (by decide)).trans (up_e rfl)) ?_
    refine v_if_ne_t (t := 37) rfl (by decide) (by decide) ?_
    refine q_iconst rfl ?_
    refine v_zret rfl rfl (by omega) ?_
    refine bk_inl ?_
    refine v_if_ne_f (t := 39) rfl (by decide) (by decide) ?_
    refine q_iconst rfl ?_
    refine q_iret rfl rfl ?_
    have hI_4 := iw_41_0 (v := 0) hI ⟨by decide, by decide⟩
    have hI_5 := iw_41_0 (v := 1) hI_4 ⟨by decide, by decide⟩
    have hI_6 := iw_42 (j := 1) (v := y_3) hI_5 ⟨by omega, by omega⟩
    exact K (up (up (up c 41 0 0) 41 0 1) 42 1 y_3) 0 hI_6 (fun a j hm => (up_b (by omega)).trans ((up_b (by omega)).trans (up_b (by omega)))) ⟨by decide, by decide⟩
  · refine v_if_lt_f (t := 25) rfl (by decide) (by omega) ?_
    refine q_iload_n rfl rfl ?_
    refine v_bip rfl (by decide) ?_
    by_cases h_7 : a2 > 16
    · refine v_ic_gt_t (t := 25) rfl (by decide) (by omega) ?_
      refine q_iconst rfl ?_
      refine v_zret rfl rfl (by omega) ?_
      refine bk_inl ?_
      refine v_if_eq_t (t := 28) rfl (by decide) (by decide) ?_
      refine q_iconst rfl ?_
      refine q_iconst rfl ?_
      refine q_iconst rfl ?_
      refine v_cv rfl rfl rfl rfl (by decide) ⟨⟨rfl, rfl⟩, by decide, rfl⟩ (Nat.le_of_ble_eq_true rfl) (Nat.le_of_ble_eq_true rfl) ?_
      refine q_iload_n rfl rfl ?_
      refine v_if_ne_f (t := 26) rfl (by decide) (by decide) ?_
      refine q_aload_n rfl rfl ?_
      refine v_gi (z := 0) (v := 0) rfl rfl rfl (by decide) rfl rfl (up_e rfl) ?_
      refine v_if_ne_f (t := 26) rfl (by decide) (by decide) ?_
      refine q_aload_n rfl rfl ?_
      refine q_iload_n rfl rfl ?_
      refine v_pi (z := 0) rfl rfl rfl (by decide) rfl rfl rfl (by decide) ?_
      refine q_aload_n rfl rfl ?_
      refine v_gr (t := 42) rfl rfl rfl (by decide) rfl ?_
      refine q_iload_n rfl rfl ?_
      refine q_dup2 rfl ⟨rfl, rfl⟩ ?_
      have h_8 := ir_42 hI 1
      refine v_ia (v := c 42 1) rfl rfl (by decide) (by decide) (by decide) ((up_c (by decide)).trans (up_c (by decide))) ?_
      refine q_iconst rfl ?_
      refine v_iadd (v := c 42 1 + 1) rfl (by omega) ?_
      refine v_nrm (fun y_9 hy_9 => ?_)
      refine v_is rfl rfl (by decide) (by decide) (by decide) ?_
      refine q_aload_n rfl rfl ?_
      refine v_gi (z := 0) (v := 1) rfl rfl rfl (by decide) rfl rfl ((up_c (by decide)).trans (up_e rfl)) ?_
      refine v_if_ne_t (t := 37) rfl (by decide) (by decide) ?_
      refine q_iconst rfl ?_
      refine v_zret rfl rfl (by omega) ?_
      refine bk_inl ?_
      refine v_if_ne_f (t := 39) rfl (by decide) (by decide) ?_
      refine q_iconst rfl ?_
      refine q_iret rfl rfl ?_
      have hI_10 := iw_41_0 (v := 0) hI ⟨by decide, by decide⟩
      have hI_11 := iw_41_0 (v := 1) hI_10 ⟨by decide, by decide⟩
      have hI_12 := iw_42 (j := 1) (v := y_9) hI_11 ⟨by omega, by omega⟩
      exact K (up (up (up c 41 0 0) 41 0 1) 42 1 y_9) 0 hI_12 (fun a j hm => (up_b (by omega)).trans ((up_b (by omega)).trans (up_b (by omega)))) ⟨by decide, by decide⟩
    · refine v_ic_gt_f (t := 25) rfl (by decide) (by omega) ?_
      refine q_iload_n rfl rfl ?_
      refine q_iconst rfl ?_
      by_cases h_13 : a3 < 1
      · refine v_ic_lt_t (t := 25) rfl (by decide) (by omega) ?_
        refine q_iconst rfl ?_
        refine v_zret rfl rfl (by omega) ?_
        refine bk_inl ?_
        refine v_if_eq_t (t := 28) rfl (by decide) (by decide) ?_
        refine q_iconst rfl ?_
        refine q_iconst rfl ?_
        refine q_iconst rfl ?_
        refine v_cv rfl rfl rfl rfl (by decide) ⟨⟨rfl, rfl⟩, by decide, rfl⟩ (Nat.le_of_ble_eq_true rfl) (Nat.le_of_ble_eq_true rfl) ?_
        refine q_iload_n rfl rfl ?_
        refine v_if_ne_f (t := 26) rfl (by decide) (by decide) ?_
        refine q_aload_n rfl rfl ?_
        refine v_gi (z := 0) (v := 0) rfl rfl rfl (by decide) rfl rfl (up_e rfl) ?_
        refine v_if_ne_f (t := 26) rfl (by decide) (by decide) ?_
        refine q_aload_n rfl rfl ?_
        refine q_iload_n rfl rfl ?_
        refine v_pi (z := 0) rfl rfl rfl (by decide) rfl rfl rfl (by decide) ?_
        refine q_aload_n rfl rfl ?_
        refine v_gr (t := 42) rfl rfl rfl (by decide) rfl ?_
        refine q_iload_n rfl rfl ?_
        refine q_dup2 rfl ⟨rfl, rfl⟩ ?_
        have h_14 := ir_42 hI 1
        refine v_ia (v := c 42 1) rfl rfl (by decide) (by decide) (by decide) ((up_c (by decide)).trans (up_c (by decide))) ?_
        refine q_iconst rfl ?_
        refine v_iadd (v := c 42 1 + 1) rfl (by omega) ?_
        refine v_nrm (fun y_15 hy_15 => ?_)
        refine v_is rfl rfl (by decide) (by decide) (by decide) ?_
        refine q_aload_n rfl rfl ?_
        refine v_gi (z := 0) (v := 1) rfl rfl rfl (by decide) rfl rfl ((up_c (by decide)).trans (up_e rfl)) ?_
        refine v_if_ne_t (t := 37) rfl (by decide) (by decide) ?_
        refine q_iconst rfl ?_
        refine v_zret rfl rfl (by omega) ?_
        refine bk_inl ?_
        refine v_if_ne_f (t := 39) rfl (by decide) (by decide) ?_
        refine q_iconst rfl ?_
        refine q_iret rfl rfl ?_
        have hI_16 := iw_41_0 (v := 0) hI ⟨by decide, by decide⟩
        have hI_17 := iw_41_0 (v := 1) hI_16 ⟨by decide, by decide⟩
        have hI_18 := iw_42 (j := 1) (v := y_15) hI_17 ⟨by omega, by omega⟩
        exact K (up (up (up c 41 0 0) 41 0 1) 42 1 y_15) 0 hI_18 (fun a j hm => (up_b (by omega)).trans ((up_b (by omega)).trans (up_b (by omega)))) ⟨by decide, by decide⟩
      · refine v_ic_lt_f (t := 25) rfl (by decide) (by omega) ?_
        refine q_iload_n rfl rfl ?_
        refine v_bip rfl (by decide) ?_
        by_cases h_19 : a3 > 48
        · refine v_ic_gt_t (t := 25) rfl (by decide) (by omega) ?_
          refine q_iconst rfl ?_
          refine v_zret rfl rfl (by omega) ?_
          refine bk_inl ?_
          refine v_if_eq_t (t := 28) rfl (by decide) (by decide) ?_
          refine q_iconst rfl ?_
          refine q_iconst rfl ?_
          refine q_iconst rfl ?_
          refine v_cv rfl rfl rfl rfl (by decide) ⟨⟨rfl, rfl⟩, by decide, rfl⟩ (Nat.le_of_ble_eq_true rfl) (Nat.le_of_ble_eq_true rfl) ?_
          refine q_iload_n rfl rfl ?_
          refine v_if_ne_f (t := 26) rfl (by decide) (by decide) ?_
          refine q_aload_n rfl rfl ?_
          refine v_gi (z := 0) (v := 0) rfl rfl rfl (by decide) rfl rfl (up_e rfl) ?_
          refine v_if_ne_f (t := 26) rfl (by decide) (by decide) ?_
          refine q_aload_n rfl rfl ?_
          refine q_iload_n rfl rfl ?_
          refine v_pi (z := 0) rfl rfl rfl (by decide) rfl rfl rfl (by decide) ?_
          refine q_aload_n rfl rfl ?_
          refine v_gr (t := 42) rfl rfl rfl (by decide) rfl ?_
          refine q_iload_n rfl rfl ?_
          refine q_dup2 rfl ⟨rfl, rfl⟩ ?_
          have h_20 := ir_42 hI 1
          refine v_ia (v := c 42 1) rfl rfl (by decide) (by decide) (by decide) ((up_c (by decide)).trans (up_c (by decide))) ?_
          refine q_iconst rfl ?_
          refine v_iadd (v := c 42 1 + 1) rfl (by omega) ?_
          refine v_nrm (fun y_21 hy_21 => ?_)
          refine v_is rfl rfl (by decide) (by decide) (by decide) ?_
          refine q_aload_n rfl rfl ?_
          refine v_gi (z := 0) (v := 1) rfl rfl rfl (by decide) rfl rfl ((up_c (by decide)).trans (up_e rfl)) ?_
          refine v_if_ne_t (t := 37) rfl (by decide) (by decide) ?_
          refine q_iconst rfl ?_
          refine v_zret rfl rfl (by omega) ?_
          refine bk_inl ?_
          refine v_if_ne_f (t := 39) rfl (by decide) (by decide) ?_
          refine q_iconst rfl ?_
          refine q_iret rfl rfl ?_
          have hI_22 := iw_41_0 (v := 0) hI ⟨by decide, by decide⟩
          have hI_23 := iw_41_0 (v := 1) hI_22 ⟨by decide, by decide⟩
          have hI_24 := iw_42 (j := 1) (v := y_21) hI_23 ⟨by omega, by omega⟩
          exact K (up (up (up c 41 0 0) 41 0 1) 42 1 y_21) 0 hI_24 (fun a j hm => (up_b (by omega)).trans ((up_b (by omega)).trans (up_b (by omega)))) ⟨by decide, by decide⟩
        · refine v_ic_gt_f (t := 25) rfl (by decide) (by omega) ?_
          refine q_iconst rfl ?_
          refine q_goto (t := 26) rfl (by decide) ?_
          refine v_zret rfl rfl (by omega) ?_
          refine bk_inl ?_
          refine v_if_eq_f (t := 28) rfl (by decide) (by decide) ?_
          refine q_iload rfl rfl ?_
          refine q_iconst rfl ?_
          refine q_iconst rfl ?_
          refine q_call rfl rfl rfl rfl ?_
          refine q_iload_n rfl rfl ?_
          refine q_iload_n rfl rfl ?_
          by_cases h_25 : a4 < 0
          · refine v_ic_lt_t (t := 14) rfl (by decide) (by omega) ?_
            refine q_iconst rfl ?_
            refine v_zret rfl rfl (by omega) ?_
            refine bk_inl ?_
            refine v_if_eq_t (t := 28) rfl (by decide) (by decide) ?_
            refine q_iconst rfl ?_
            refine q_iconst rfl ?_
            refine q_iconst rfl ?_
            refine v_cv rfl rfl rfl rfl (by decide) ⟨⟨rfl, rfl⟩, by decide, rfl⟩ (Nat.le_of_ble_eq_true rfl) (Nat.le_of_ble_eq_true rfl) ?_
            refine q_iload_n rfl rfl ?_
            refine v_if_ne_f (t := 26) rfl (by decide) (by decide) ?_
            refine q_aload_n rfl rfl ?_
            refine v_gi (z := 0) (v := 0) rfl rfl rfl (by decide) rfl rfl (up_e rfl) ?_
            refine v_if_ne_f (t := 26) rfl (by decide) (by decide) ?_
            refine q_aload_n rfl rfl ?_
            refine q_iload_n rfl rfl ?_
            refine v_pi (z := 0) rfl rfl rfl (by decide) rfl rfl rfl (by decide) ?_
            refine q_aload_n rfl rfl ?_
            refine v_gr (t := 42) rfl rfl rfl (by decide) rfl ?_
            refine q_iload_n rfl rfl ?_
            refine q_dup2 rfl ⟨rfl, rfl⟩ ?_
            have h_26 := ir_42 hI 1
            refine v_ia (v := c 42 1) rfl rfl (by decide) (by decide) (by decide) ((up_c (by decide)).trans (up_c (by decide))) ?_
            refine q_iconst rfl ?_
            refine v_iadd (v := c 42 1 + 1) rfl (by omega) ?_
            refine v_nrm (fun y_27 hy_27 => ?_)
            refine v_is rfl rfl (by decide) (by decide) (by decide) ?_
            refine q_aload_n rfl rfl ?_
            refine v_gi (z := 0) (v := 1) rfl rfl rfl (by decide) rfl rfl ((up_c (by decide)).trans (up_e rfl)) ?_
            refine v_if_ne_t (t := 37) rfl (by decide) (by decide) ?_
            refine q_iconst rfl ?_
            refine v_zret rfl rfl (by omega) ?_
            refine bk_inl ?_
            refine v_if_ne_f (t := 39) rfl (by decide) (by decide) ?_
            refine q_iconst rfl ?_
            refine q_iret rfl rfl ?_
            have hI_28 := iw_41_0 (v := 0) hI ⟨by decide, by decide⟩
            have hI_29 := iw_41_0 (v := 1) hI_28 ⟨by decide, by decide⟩
            have hI_30 := iw_42 (j := 1) (v := y_27) hI_29 ⟨by omega, by omega⟩
            exact K (up (up (up c 41 0 0) 41 0 1) 42 1 y_27) 0 hI_30 (fun a j hm => (up_b (by omega)).trans ((up_b (by omega)).trans (up_b (by omega)))) ⟨by decide, by decide⟩
          · refine v_ic_lt_f (t := 14) rfl (by decide) (by omega) ?_
            refine q_iload_n rfl rfl ?_
            refine q_iload_n rfl rfl ?_
            by_cases h_31 : a4 > 3
            · refine v_ic_gt_t (t := 14) rfl (by decide) (by omega) ?_
              refine q_iconst rfl ?_
              refine v_zret rfl rfl (by omega) ?_
              refine bk_inl ?_
              refine v_if_eq_t (t := 28) rfl (by decide) (by decide) ?_
              refine q_iconst rfl ?_
              refine q_iconst rfl ?_
              refine q_iconst rfl ?_
              refine v_cv rfl rfl rfl rfl (by decide) ⟨⟨rfl, rfl⟩, by decide, rfl⟩ (Nat.le_of_ble_eq_true rfl) (Nat.le_of_ble_eq_true rfl) ?_
              refine q_iload_n rfl rfl ?_
              refine v_if_ne_f (t := 26) rfl (by decide) (by decide) ?_
              refine q_aload_n rfl rfl ?_
              refine v_gi (z := 0) (v := 0) rfl rfl rfl (by decide) rfl rfl (up_e rfl) ?_
              refine v_if_ne_f (t := 26) rfl (by decide) (by decide) ?_
              refine q_aload_n rfl rfl ?_
              refine q_iload_n rfl rfl ?_
              refine v_pi (z := 0) rfl rfl rfl (by decide) rfl rfl rfl (by decide) ?_
              refine q_aload_n rfl rfl ?_
              refine v_gr (t := 42) rfl rfl rfl (by decide) rfl ?_
              refine q_iload_n rfl rfl ?_
              refine q_dup2 rfl ⟨rfl, rfl⟩ ?_
              have h_32 := ir_42 hI 1
              refine v_ia (v := c 42 1) rfl rfl (by decide) (by decide) (by decide) ((up_c (by decide)).trans (up_c (by decide))) ?_
              refine q_iconst rfl ?_
              refine v_iadd (v := c 42 1 + 1) rfl (by omega) ?_
              refine v_nrm (fun y_33 hy_33 => ?_)
              refine v_is rfl rfl (by decide) (by decide) (by decide) ?_
              refine q_aload_n rfl rfl ?_
              refine v_gi (z := 0) (v := 1) rfl rfl rfl (by decide) rfl rfl ((up_c (by decide)).trans (up_e rfl)) ?_
              refine v_if_ne_t (t := 37) rfl (by decide) (by decide) ?_
              refine q_iconst rfl ?_
              refine v_zret rfl rfl (by omega) ?_
              refine bk_inl ?_
              refine v_if_ne_f (t := 39) rfl (by decide) (by decide) ?_
              refine q_iconst rfl ?_
              refine q_iret rfl rfl ?_
              have hI_34 := iw_41_0 (v := 0) hI ⟨by decide, by decide⟩
              have hI_35 := iw_41_0 (v := 1) hI_34 ⟨by decide, by decide⟩
              have hI_36 := iw_42 (j := 1) (v := y_33) hI_35 ⟨by omega, by omega⟩
              exact K (up (up (up c 41 0 0) 41 0 1) 42 1 y_33) 0 hI_36 (fun a j hm => (up_b (by omega)).trans ((up_b (by omega)).trans (up_b (by omega)))) ⟨by decide, by decide⟩
            · refine v_ic_gt_f (t := 14) rfl (by decide) (by omega) ?_
              refine q_iconst rfl ?_
              refine q_goto (t := 15) rfl (by decide) ?_
              refine v_zret rfl rfl (by omega) ?_
              refine bk_inl ?_
              refine v_if_eq_f (t := 28) rfl (by decide) (by decide) ?_
              refine q_iconst rfl ?_
              refine q_goto (t := 29) rfl (by decide) ?_
              refine q_iconst rfl ?_
              refine q_iconst rfl ?_
              refine v_cv rfl rfl rfl rfl (by decide) ⟨⟨rfl, rfl⟩, by decide, rfl⟩ (Nat.le_of_ble_eq_true rfl) (Nat.le_of_ble_eq_true rfl) ?_
              refine q_iload_n rfl rfl ?_
              refine v_if_ne_t (t := 26) rfl (by decide) (by decide) ?_
              refine q_aload_n rfl rfl ?_
              refine v_gi (z := 0) (v := 0) rfl rfl rfl (by decide) rfl rfl (up_e rfl) ?_
              refine v_if_ne_f (t := 37) rfl (by decide) (by decide) ?_
              refine q_iconst rfl ?_
              refine q_goto (t := 38) rfl (by decide) ?_
              refine v_zret rfl rfl (by omega) ?_
              refine bk_inl ?_
              refine v_if_ne_t (t := 39) rfl (by decide) (by decide) ?_
              refine q_aload_n rfl rfl ?_
              refine q_iload_n rfl rfl ?_
              refine q_iload_n rfl rfl ?_
              refine q_iload_n rfl rfl ?_
              have hI_37 := iw_41_0 (v := 0) hI ⟨by decide, by decide⟩
              refine v_cv rfl rfl rfl rfl (by decide) ⟨⟨rfl, rfl⟩, by decide, rfl⟩ (Nat.le_of_ble_eq_true rfl) (Nat.le_of_ble_eq_true rfl) (s_253 (a1 := a1) (a2 := a2) (a3 := a3) hI_37 (show (-2147483648) ≤ a1 ∧ a1 ≤ 2147483647 from by omega) (show 0 ≤ a2 ∧ a2 ≤ 16 from by omega) (show 1 ≤ a3 ∧ a3 ≤ 48 from by omega) (fun c_38 hI_39 hF_40 => ?_))
              refine bk_inl ?_
              refine q_iload rfl rfl ?_
              by_cases h_41 : a4 ≠ 0
              · refine v_if_ne_t (t := 69) rfl (by decide) (by omega) ?_
                refine q_iload rfl rfl ?_
                refine q_iconst rfl ?_
                by_cases h_42 : a4 ≠ 1
                · refine v_ic_ne_t (t := 82) rfl (by decide) (by omega) ?_
                  refine q_iload rfl rfl ?_
                  refine q_iconst rfl ?_
                  by_cases h_43 : a4 ≠ 2
                  · refine v_ic_ne_t (t := 106) rfl (by decide) (by omega) ?_
                    refine q_aload_n rfl rfl ?_
                    refine v_cv rfl rfl rfl rfl (by decide) ⟨⟨rfl, rfl⟩, by decide, rfl⟩ (Nat.le_of_ble_eq_true rfl) (Nat.le_of_ble_eq_true rfl) (s_209 hI_39 (fun y_44 hy_44 => ?_))
                    refine bk_inl ?_
                    refine q_iret rfl rfl ?_
                    exact K c_38 y_44 hI_39 (fun a j hm => (hF_40 a j (by omega)).trans (up_b (by omega))) ⟨by omega, by omega⟩
                  · refine v_ic_ne_f (t := 106) rfl (by decide) (by omega) ?_
                    refine q_aload_n rfl rfl ?_
                    refine v_gr (t := 59) rfl rfl rfl (by decide) rfl ?_
                    refine v_bip rfl (by decide) ?_
                    have h_45 := ir_59 hI_39 35
                    refine v_ia (v := c_38 59 35) rfl rfl (by decide) (by decide) (by decide) rfl ?_
                    refine q_aload_n rfl rfl ?_
                    refine v_gr (t := 58) rfl rfl rfl (by decide) rfl ?_
                    refine v_bip rfl (by decide) ?_
                    have h_46 := ir_58 hI 35
                    refine v_ia (v := c 58 35) rfl rfl (by decide) (by decide) (by decide) ((hF_40 58 35 (by omega)).trans (up_c (by decide))) ?_
                    refine v_isub (v := c_38 59 35 - c 58 35) rfl (by omega) ?_
                    refine v_nrm (fun y_47 hy_47 => ?_)
                    refine q_goto (t := 110) rfl (by decide) ?_
                    refine q_iret rfl rfl ?_
                    exact K c_38 y_47 hI_39 (fun a j hm => (hF_40 a j (by omega)).trans (up_b (by omega))) ⟨by omega, by omega⟩
                · refine v_ic_ne_f (t := 82) rfl (by decide) (by omega) ?_
                  refine q_aload_n rfl rfl ?_
                  refine v_cv rfl rfl rfl rfl (by decide) ⟨⟨rfl, rfl⟩, by decide, rfl⟩ (Nat.le_of_ble_eq_true rfl) (Nat.le_of_ble_eq_true rfl) (s_203 hI_39 (fun y_48 hy_48 => ?_))
                  refine bk_inl ?_
                  refine q_goto (t := 110) rfl (by decide) ?_
                  refine q_iret rfl rfl ?_
                  exact K c_38 y_48 hI_39 (fun a j hm => (hF_40 a j (by omega)).trans (up_b (by omega))) ⟨by omega, by omega⟩
              · refine v_if_ne_f (t := 69) rfl (by decide) (by omega) ?_
                refine q_aload_n rfl rfl ?_
                refine v_gr (t := 59) rfl rfl rfl (by decide) rfl ?_
                refine v_bip rfl (by decide) ?_
                have h_49 := ir_59 hI_39 36
                refine v_ia (v := c_38 59 36) rfl rfl (by decide) (by decide) (by decide) rfl ?_
                refine q_aload_n rfl rfl ?_
                refine v_gr (t := 58) rfl rfl rfl (by decide) rfl ?_
                refine v_bip rfl (by decide) ?_
                have h_50 := ir_58 hI 36
                refine v_ia (v := c 58 36) rfl rfl (by decide) (by decide) (by decide) ((hF_40 58 36 (by omega)).trans (up_c (by decide))) ?_
                refine v_isub (v := c_38 59 36 - c 58 36) rfl (by omega) ?_
                refine v_nrm (fun y_51 hy_51 => ?_)
                refine q_goto (t := 110) rfl (by decide) ?_
                refine q_iret rfl rfl ?_
                exact K c_38 y_51 hI_39 (fun a j hm => (hF_40 a j (by omega)).trans (up_b (by omega))) ⟨by omega, by omega⟩

