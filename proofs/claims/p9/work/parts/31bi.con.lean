/-! ===== contracts 22 ===== -/
theorem q_a78c53710 {x0 x1 : Int} (f0 : 0 ≤ x0 ∧ x0 ≤ 9999) (f1 : 1 ≤ x1 ∧ x1 ≤ 8192) : (-2147483648) ≤ x0 - x1 := by omega
theorem q_03877e6fa {x0 x1 : Int} (f0 : 0 ≤ x0 ∧ x0 ≤ 9999) (f1 : 1 ≤ x1 ∧ x1 ≤ 8192) : x0 - x1 ≤ 2147483647 := by omega
theorem q_917c27970 {x0 x1 : Int} (f0 : ¬ (x0 - x1 < 0)) : (-2147483648) ≤ x0 - x1 + 1 := by omega
theorem q_fd232b8ec {x0 x1 : Int} (f0 : 0 ≤ x0 ∧ x0 ≤ 9999) (f1 : 1 ≤ x1 ∧ x1 ≤ 8192) : x0 - x1 + 1 ≤ 2147483647 := by omega
theorem q_5548e48fb {x0 x1 : Int} (f0 : ¬ (x0 - x1 < 0)) : 0 ≤ x0 - x1 := by omega
theorem q_93f9cdf35 {x0 x1 : Int} (f0 : 0 ≤ x0 ∧ x0 ≤ 9999) (f1 : 1 ≤ x1 ∧ x1 ≤ 8192) : x0 - x1 ≤ 9999 := by omega
theorem q_9bff1db0a {x0 x1 : Int} (f0 : 0 ≤ x0 ∧ x0 ≤ 5) (f1 : 0 ≤ x1 ∧ x1 ≤ 4) : 0 ≤ 4 * x0 + x1 := by omega
theorem q_c0f51fe82 {x0 x1 : Int} (f0 : ¬ (x0 ≥ 4)) (f1 : 0 ≤ x1 ∧ x1 ≤ 5) : 4 * x1 + x0 < 37 := by omega
set_option maxRecDepth 100000 in
set_option maxHeartbeats 4000000 in
theorem s_232_l {sc : List Int32} {d P Q : Nat} {c : ME} {a1 : Int} {Z : AR → Prop} (hI : Iv 0 (-1) P Q c) (ha1 : (-2147483648) ≤ a1 ∧ a1 ≤ 2147483647) (K : ∀ (c2 : ME) (y : Int), Iv 0 (-1) P Q c2 → (∀ (a : Nat) (j : Int), ¬ ((a = 41 ∧ j = 0) ∨ a = 42 ∨ a = 59) → c2 a j = c a j) → (-2147483648) ≤ y ∧ y ≤ 2147483647 → Z (.inl (some (vi y)), Wd P Q P P c2, 0, 0)) : ∀ n : Nat, (∀ (c2 : ME) (v2 : Int) (v3 : Int) (v4 : Int), Iv 0 (-1) P Q c2 → (∀ (a : Nat) (j : Int), ¬ ((a = 41 ∧ j = 0) ∨ a = 42 ∨ a = 59) → c2 a j = c a j) → (-1) ≤ v2 ∧ v2 ≤ 3 → (-2147483648) ≤ v3 ∧ v3 ≤ 2147483647 → 0 ≤ v4 ∧ v4 ≤ 4 → 9 - 2 * v4 < (n : Int) → Wp sc (d + 10) 232 33 [(0, .ref 41), (1, vi a1), (2, vi v2), (3, vi v3), (4, vi v4)] [] (Wd P Q P P c2) 0 0 Z)
  | 0 => by intro c2 v2 v3 v4 hI2 hF hv2 hv3 hv4 hm9; have hP := iv_P hI; have hQ := iv_Q hI; exfalso; omega
  | n + 1 => by
    have hP := iv_P hI
    have hQ := iv_Q hI
    have ih := s_232_l (sc := sc) (d := d) hI ha1 K n
    intro c2 v2 v3 v4 hI2 hF hv2 hv3 hv4 hm9
    refine q_iload rfl rfl (q_iconst rfl ?_)
    by_cases h_1 : v4 ≥ 4
    · refine v_ic_ge_t (t := 87) rfl rfl ⟨by decide, h_1, (Int.le_trans hv4.2 (by decide))⟩ (q_iload_n rfl rfl ?_)
      by_cases h_2 : a1 ≠ 0
      · refine v_if_ne_t (t := 95) rfl rfl ⟨h_2, ⟨ha1.1, ha1.2⟩, by decide, by decide⟩ (q_iload_n rfl rfl (q_iret rfl rfl ?_))
        exact K c2 v3 hI2 (fun a j hm => hF a j (fun q => q.elim (fun h => hm (Or.inl h)) (fun q => q.elim (fun h => hm (Or.inr (Or.inl h))) (fun h => hm (Or.inr (Or.inr h)))))) hv3
      · refine v_if_ne_f (t := 95) rfl rfl (Decidable.not_not.mp h_2) (q_iload_n rfl rfl (q_goto (t := 96) rfl rfl (q_iret rfl rfl ?_)))
        exact K c2 v2 hI2 (fun a j hm => hF a j (fun q => q.elim (fun h => hm (Or.inl h)) (fun q => q.elim (fun h => hm (Or.inr (Or.inl h))) (fun h => hm (Or.inr (Or.inr h)))))) ⟨(Int.le_trans (by decide) hv2.1), (Int.le_trans hv2.2 (by decide))⟩
    · refine v_ic_ge_f (t := 87) rfl rfl ⟨(Int.le_trans (by decide) hv4.1), (Int.not_le.mp h_1), by decide⟩ (q_aload_n rfl rfl (v_gr (t := 64) rfl rfl rfl (Nat.le_of_ble_eq_true rfl) rfl (q_iload rfl rfl ?_)))
      have h_3 := ir_64 hI v4
      have kn_4 : Hid (c2 64 v4 = c 64 v4) := hF 64 v4 (fun q => q.elim (fun h => absurd h.1 (nn rfl)) (fun q => q.elim (fun h => absurd h (nn rfl)) (fun h => absurd h (nn rfl))))
      refine v_ia (v := c 64 v4) rfl rfl (by decide) (by decide) ⟨hv4.1, by first | exact q_2e808647e h_1 | omega⟩ (hid kn_4) (q_iconst rfl ?_)
      by_cases h_5 : c 64 v4 = (-1)
      · refine v_ic_eq_t (t := 53) rfl rfl h_5 (q_aload_n rfl rfl (q_iload rfl rfl (v_cv rfl rfl rfl rfl (Nat.le_of_ble_eq_true rfl) ⟨⟨rfl, rfl⟩, Nat.le_of_ble_eq_true rfl, rfl⟩ (Nat.le_of_ble_eq_true rfl) (Nat.le_of_ble_eq_true rfl) (s_231 (a1 := v4) hI2 (show 0 ≤ v4 ∧ v4 ≤ 3 from ⟨hv4.1, by first | exact q_482ef8d41 h_1 | omega⟩) (fun y_6 hy_6 => (bk_inl (q_istore rfl (Nat.le_of_ble_eq_true rfl) (q_iload_n rfl rfl (q_iconst rfl ?_)))))))))
        by_cases h_7 : v2 = (-1)
        · refine v_ic_eq_t (t := 75) rfl rfl h_7 (q_iload rfl rfl (q_istore_n rfl (Nat.le_of_ble_eq_true rfl) (q_iload rfl rfl (q_istore_n rfl (Nat.le_of_ble_eq_true rfl) (v_iinc (v := v4 + 1) rfl rfl (Nat.le_of_ble_eq_true rfl) rfl (q_goto (t := 33) rfl rfl (Wp_ls [(0, .ref 41), (1, vi a1), (2, vi v4), (3, vi y_6), (4, vi (v4 + 1))] (lsub_cons rfl (lsub_cons rfl (lsub_cons rfl (lsub_cons rfl (lsub_cons rfl lsub_nil))))) ?_)))))))
          exact ih c2 v4 y_6 (v4 + 1) hI2 (fun a j hm => hF a j (fun q => q.elim (fun h => hm (Or.inl h)) (fun q => q.elim (fun h => hm (Or.inr (Or.inl h))) (fun h => hm (Or.inr (Or.inr h)))))) ⟨(Int.le_trans (by decide) hv4.1), by first | exact q_482ef8d41 h_1 | omega⟩ hy_6 ⟨by first | exact rgp_l hv4.1 (by decide) | omega, by first | exact q_121241f94 h_1 | omega⟩ (by omega)
        · refine v_ic_eq_f (t := 75) rfl rfl ⟨h_7, ⟨(Int.le_trans (by decide) hv2.1), (Int.le_trans hv2.2 (by decide))⟩, by decide, by decide⟩ (q_iload rfl rfl (q_iload_n rfl rfl ?_))
          by_cases h_8 : y_6 < v3
          · refine v_ic_lt_t (t := 75) rfl rfl ⟨hy_6.1, h_8, hv3.2⟩ (q_iload rfl rfl (q_istore_n rfl (Nat.le_of_ble_eq_true rfl) (q_iload rfl rfl (q_istore_n rfl (Nat.le_of_ble_eq_true rfl) (v_iinc (v := v4 + 1) rfl rfl (Nat.le_of_ble_eq_true rfl) rfl (q_goto (t := 33) rfl rfl (Wp_ls [(0, .ref 41), (1, vi a1), (2, vi v4), (3, vi y_6), (4, vi (v4 + 1))] (lsub_cons rfl (lsub_cons rfl (lsub_cons rfl (lsub_cons rfl (lsub_cons rfl lsub_nil))))) ?_)))))))
            exact ih c2 v4 y_6 (v4 + 1) hI2 (fun a j hm => hF a j (fun q => q.elim (fun h => hm (Or.inl h)) (fun q => q.elim (fun h => hm (Or.inr (Or.inl h))) (fun h => hm (Or.inr (Or.inr h)))))) ⟨(Int.le_trans (by decide) hv4.1), by first | exact q_482ef8d41 h_1 | (clear ha1 hv2 hv3 hv4 h_3 h_5 h_8 h_7; omega) | omega⟩ hy_6 ⟨by first | exact rgp_l hv4.1 (by decide) | omega, by first | exact q_121241f94 h_1 | (clear ha1 hv2 hv3 hv4 h_3 h_5 h_8 h_7; omega) | omega⟩ (by omega)
          · refine v_ic_lt_f (t := 75) rfl rfl ⟨hv3.1, (Int.not_lt.mp h_8), hy_6.2⟩ (q_goto (t := 81) rfl rfl (v_iinc (v := v4 + 1) rfl rfl (Nat.le_of_ble_eq_true rfl) rfl (q_goto (t := 33) rfl rfl (Wp_ls [(0, .ref 41), (1, vi a1), (2, vi v2), (3, vi v3), (4, vi (v4 + 1))] (lsub_cons rfl (lsub_cons rfl (lsub_cons rfl (lsub_cons rfl (lsub_cons rfl lsub_nil))))) ?_))))
            exact ih c2 v2 v3 (v4 + 1) hI2 (fun a j hm => hF a j (fun q => q.elim (fun h => hm (Or.inl h)) (fun q => q.elim (fun h => hm (Or.inr (Or.inl h))) (fun h => hm (Or.inr (Or.inr h)))))) hv2 hv3 ⟨by first | exact rgp_l hv4.1 (by decide) | omega, by first | exact q_121241f94 h_1 | (clear ha1 hv2 hv3 hv4 h_3 h_5 h_8 h_7; omega) | omega⟩ (by omega)
      · refine v_ic_eq_f (t := 53) rfl rfl ⟨h_5, ⟨by first | exact q_87765d87e h_3 | omega, by first | exact q_cf71bb2da h_3 | omega⟩, by decide, by decide⟩ (q_goto (t := 81) rfl rfl (v_iinc (v := v4 + 1) rfl rfl (Nat.le_of_ble_eq_true rfl) rfl (q_goto (t := 33) rfl rfl (Wp_ls [(0, .ref 41), (1, vi a1), (2, vi v2), (3, vi v3), (4, vi (v4 + 1))] (lsub_cons rfl (lsub_cons rfl (lsub_cons rfl (lsub_cons rfl (lsub_cons rfl lsub_nil))))) ?_))))
        exact ih c2 v2 v3 (v4 + 1) hI2 (fun a j hm => hF a j (fun q => q.elim (fun h => hm (Or.inl h)) (fun q => q.elim (fun h => hm (Or.inr (Or.inl h))) (fun h => hm (Or.inr (Or.inr h)))))) hv2 hv3 ⟨by first | exact rgp_l hv4.1 (by decide) | omega, by first | exact q_121241f94 h_1 | (clear ha1 hv2 hv3 hv4 h_3 h_5; omega) | omega⟩ (by omega)
set_option maxRecDepth 100000 in
set_option maxHeartbeats 4000000 in
theorem s_232 {sc : List Int32} {d P Q : Nat} {c : ME} {a1 : Int} {Z : AR → Prop} (hI : Iv 0 (-1) P Q c) (ha1 : (-2147483648) ≤ a1 ∧ a1 ≤ 2147483647) (K : ∀ (c2 : ME) (y : Int), Iv 0 (-1) P Q c2 → (∀ (a : Nat) (j : Int), ¬ ((a = 41 ∧ j = 0) ∨ a = 42 ∨ a = 59) → c2 a j = c a j) → (-2147483648) ≤ y ∧ y ≤ 2147483647 → Z (.inl (some (vi y)), Wd P Q P P c2, 0, 0)) : Wp sc (d + 10) 232 0 [(0, .ref 41), (1, vi a1)] [] (Wd P Q P P c) 0 0 Z := by
  have hP := iv_P hI
  have hQ := iv_Q hI
  refine q_aload_n rfl rfl (q_iconst rfl (v_pi (z := 0) rfl rfl rfl (Nat.le_of_ble_eq_true rfl) rfl rfl rfl (by decide) (q_aload_n rfl rfl (q_iload_n rfl rfl (q_iconst rfl (q_iconst rfl (q_call rfl rfl rfl rfl ?_)))))))
  refine q_iload_n rfl rfl (q_iload_n rfl rfl ?_)
  by_cases h_9 : a1 < 0
  · refine v_ic_lt_t (t := 14) rfl rfl ⟨ha1.1, h_9, by decide⟩ (q_iconst rfl (v_zret rfl rfl (by decide) (bk_inl (q_iconst rfl (q_iconst rfl (v_cv rfl rfl rfl rfl (Nat.le_of_ble_eq_true rfl) ⟨⟨rfl, rfl⟩, Nat.le_of_ble_eq_true rfl, rfl⟩ (Nat.le_of_ble_eq_true rfl) (Nat.le_of_ble_eq_true rfl) (q_iload_n rfl rfl ?_)))))))
    refine v_if_ne_f (t := 26) rfl rfl (by decide) (q_aload_n rfl rfl (v_gi (z := 0) (v := 0) rfl rfl rfl (Nat.le_of_ble_eq_true rfl) rfl rfl (up_e rfl) (v_if_ne_f (t := 26) rfl rfl (by decide) (q_aload_n rfl rfl (q_iload_n rfl rfl (v_pi (z := 0) rfl rfl rfl (Nat.le_of_ble_eq_true rfl) rfl rfl rfl (by decide) (q_aload_n rfl rfl ?_)))))))
    refine v_gr (t := 42) rfl rfl rfl (Nat.le_of_ble_eq_true rfl) rfl (q_iload_n rfl rfl (q_dup2 rfl ⟨rfl, rfl⟩ ?_))
    have h_10 := ir_42 hI 1
    refine v_ia (v := c 42 1) rfl rfl (by decide) (by decide) (by decide) ((up_c (nn rfl)).trans (up_c (nn rfl))) (q_iconst rfl (v_iadd (v := c 42 1 + 1) rfl rfl (v_nrm (fun y_11 hy_11 => (v_is rfl rfl (by decide) (by decide) (by decide) (q_aload_n rfl rfl (v_gi (z := 0) (v := 1) rfl rfl rfl (Nat.le_of_ble_eq_true rfl) rfl rfl ((up_c (nn rfl)).trans (up_e rfl)) (v_if_ne_t (t := 37) rfl rfl (by decide) ?_))))))))
    refine q_iconst rfl (v_zret rfl rfl (by decide) (bk_inl (v_if_ne_f (t := 22) rfl rfl (by decide) (q_iconst rfl (q_iret rfl rfl ?_)))))
    have hI_12 := iw_41_0 (v := 0) hI ⟨by decide, by decide⟩
    have hI_13 := iw_41_0 (v := 1) hI_12 ⟨by decide, by decide⟩
    have hI_14 := iw_42 (j := 1) (v := y_11) hI_13 ⟨hy_11.1, hy_11.2⟩
    exact K (up (up (up c 41 0 0) 41 0 1) 42 1 y_11) 0 hI_14 (fun a j hm => (up_b (Decidable.or_iff_not_imp_left.mpr (fun h1 h2 => hm (Or.inr (Or.inl (Decidable.not_not.mp h1)))))).trans ((up_b (Decidable.or_iff_not_imp_left.mpr (fun h1 h2 => hm (Or.inl ⟨Decidable.not_not.mp h1, h2⟩)))).trans (up_b (Decidable.or_iff_not_imp_left.mpr (fun h1 h2 => hm (Or.inl ⟨Decidable.not_not.mp h1, h2⟩)))))) ⟨by decide, by decide⟩
  · refine v_ic_lt_f (t := 14) rfl rfl ⟨by decide, (Int.not_lt.mp h_9), ha1.2⟩ (q_iload_n rfl rfl (q_iload_n rfl rfl ?_))
    by_cases h_15 : a1 > 1
    · refine v_ic_gt_t (t := 14) rfl rfl ⟨by decide, h_15, ha1.2⟩ (q_iconst rfl (v_zret rfl rfl (by decide) (bk_inl (q_iconst rfl (q_iconst rfl (v_cv rfl rfl rfl rfl (Nat.le_of_ble_eq_true rfl) ⟨⟨rfl, rfl⟩, Nat.le_of_ble_eq_true rfl, rfl⟩ (Nat.le_of_ble_eq_true rfl) (Nat.le_of_ble_eq_true rfl) (q_iload_n rfl rfl ?_)))))))
      refine v_if_ne_f (t := 26) rfl rfl (by decide) (q_aload_n rfl rfl (v_gi (z := 0) (v := 0) rfl rfl rfl (Nat.le_of_ble_eq_true rfl) rfl rfl (up_e rfl) (v_if_ne_f (t := 26) rfl rfl (by decide) (q_aload_n rfl rfl (q_iload_n rfl rfl (v_pi (z := 0) rfl rfl rfl (Nat.le_of_ble_eq_true rfl) rfl rfl rfl (by decide) (q_aload_n rfl rfl ?_)))))))
      refine v_gr (t := 42) rfl rfl rfl (Nat.le_of_ble_eq_true rfl) rfl (q_iload_n rfl rfl (q_dup2 rfl ⟨rfl, rfl⟩ ?_))
      have h_16 := ir_42 hI 1
      refine v_ia (v := c 42 1) rfl rfl (by decide) (by decide) (by decide) ((up_c (nn rfl)).trans (up_c (nn rfl))) (q_iconst rfl (v_iadd (v := c 42 1 + 1) rfl rfl (v_nrm (fun y_17 hy_17 => (v_is rfl rfl (by decide) (by decide) (by decide) (q_aload_n rfl rfl (v_gi (z := 0) (v := 1) rfl rfl rfl (Nat.le_of_ble_eq_true rfl) rfl rfl ((up_c (nn rfl)).trans (up_e rfl)) (v_if_ne_t (t := 37) rfl rfl (by decide) ?_))))))))
      refine q_iconst rfl (v_zret rfl rfl (by decide) (bk_inl (v_if_ne_f (t := 22) rfl rfl (by decide) (q_iconst rfl (q_iret rfl rfl ?_)))))
      have hI_18 := iw_41_0 (v := 0) hI ⟨by decide, by decide⟩
      have hI_19 := iw_41_0 (v := 1) hI_18 ⟨by decide, by decide⟩
      have hI_20 := iw_42 (j := 1) (v := y_17) hI_19 ⟨hy_17.1, hy_17.2⟩
      exact K (up (up (up c 41 0 0) 41 0 1) 42 1 y_17) 0 hI_20 (fun a j hm => (up_b (Decidable.or_iff_not_imp_left.mpr (fun h1 h2 => hm (Or.inr (Or.inl (Decidable.not_not.mp h1)))))).trans ((up_b (Decidable.or_iff_not_imp_left.mpr (fun h1 h2 => hm (Or.inl ⟨Decidable.not_not.mp h1, h2⟩)))).trans (up_b (Decidable.or_iff_not_imp_left.mpr (fun h1 h2 => hm (Or.inl ⟨Decidable.not_not.mp h1, h2⟩)))))) ⟨by decide, by decide⟩
    · refine v_ic_gt_f (t := 14) rfl rfl ⟨ha1.1, (Int.not_lt.mp h_15), by decide⟩ (q_iconst rfl (q_goto (t := 15) rfl rfl (v_zret rfl rfl (by decide) (bk_inl (q_iconst rfl (q_iconst rfl (v_cv rfl rfl rfl rfl (Nat.le_of_ble_eq_true rfl) ⟨⟨rfl, rfl⟩, Nat.le_of_ble_eq_true rfl, rfl⟩ (Nat.le_of_ble_eq_true rfl) (Nat.le_of_ble_eq_true rfl) ?_)))))))
      refine q_iload_n rfl rfl (v_if_ne_t (t := 26) rfl rfl (by decide) (q_aload_n rfl rfl (v_gi (z := 0) (v := 0) rfl rfl rfl (Nat.le_of_ble_eq_true rfl) rfl rfl (up_e rfl) (v_if_ne_f (t := 37) rfl rfl (by decide) (q_iconst rfl (q_goto (t := 38) rfl rfl (v_zret rfl rfl (by decide) ?_)))))))
      refine bk_inl (v_if_ne_t (t := 22) rfl rfl (by decide) (q_aload_n rfl rfl ?_))
      have hI_21 := iw_41_0 (v := 0) hI ⟨by decide, by decide⟩
      refine v_cv rfl rfl rfl rfl (Nat.le_of_ble_eq_true rfl) ⟨⟨rfl, rfl⟩, Nat.le_of_ble_eq_true rfl, rfl⟩ (Nat.le_of_ble_eq_true rfl) (Nat.le_of_ble_eq_true rfl) (s_186 hI_21 (fun c_22 hI_23 hF_24 => (bk_inl (q_iconst rfl (q_istore_n rfl (Nat.le_of_ble_eq_true rfl) (q_iconst rfl (q_istore_n rfl (Nat.le_of_ble_eq_true rfl) (q_iconst rfl (q_istore rfl (Nat.le_of_ble_eq_true rfl) ?_)))))))))
      refine Wp_ls [(0, .ref 41), (1, vi a1), (2, vi (-1)), (3, vi (-1)), (4, vi 0)] (lsub_cons rfl (lsub_cons rfl (lsub_cons rfl (lsub_cons rfl (lsub_cons rfl lsub_nil))))) ?_
      exact (s_232_l (sc := sc) (d := d) hI ha1 K 12) c_22 (-1) (-1) 0 hI_23 (fun a j hm => (hF_24 a j (fun h => hm (Or.inr (Or.inr h)))).trans (up_b (Decidable.or_iff_not_imp_left.mpr (fun h1 h2 => hm (Or.inl ⟨Decidable.not_not.mp h1, h2⟩))))) ⟨by decide, by decide⟩ ⟨by decide, by decide⟩ ⟨by decide, by decide⟩ (by omega)


set_option maxRecDepth 100000 in
set_option maxHeartbeats 4000000 in
theorem s_235 {sc : List Int32} {e : Int} {d u P Q : Nat} {c : ME} {a0 : Int} {a1 : Int} {a2 : Int} {a3 : Int} {Z : AR → Prop} (hI : Iv u e P Q c) (ha0 : 0 ≤ a0 ∧ a0 ≤ 1) (ha1 : 0 ≤ a1 ∧ a1 ≤ 1) (ha2 : 0 ≤ a2 ∧ a2 ≤ 99) (ha3 : 0 ≤ a3 ∧ a3 ≤ 99) (K : ∀ (y : Int), 0 ≤ y ∧ y ≤ 99 → Z (.inl (some (vi y)), Wd P Q P P c, 0, 0)) : Wp sc (d + 7) 235 0 [(0, vi a0), (1, vi a1), (2, vi a2), (3, vi a3)] [] (Wd P Q P P c) 0 0 Z := by
  have hP := iv_P hI
  have hQ := iv_Q hI
  refine q_iload_n rfl rfl ?_
  by_cases h_1 : a0 ≠ 0
  · refine v_if_ne_t (t := 18) rfl rfl ⟨h_1, ⟨(Int.le_trans (by decide) ha0.1), (Int.le_trans ha0.2 (by decide))⟩, by decide, by decide⟩ (q_iload_n rfl rfl (q_iconst rfl ?_))
    by_cases h_2 : a1 ≠ 1
    · refine v_ic_ne_t (t := 29) rfl rfl ⟨h_2, ⟨(Int.le_trans (by decide) ha1.1), (Int.le_trans ha1.2 (by decide))⟩, by decide, by decide⟩ (q_iload_n rfl rfl (q_iret rfl rfl ?_))
      exact K a3 ha3
    · refine v_ic_ne_f (t := 29) rfl rfl (Decidable.not_not.mp h_2) (q_iload_n rfl rfl (q_iconst rfl (v_idiv (v := (a3 / 2)) rfl (by omega) rfl (q_goto (t := 30) rfl rfl (q_iret rfl rfl ?_)))))
      exact K (a3 / 2) ⟨by first | (clear ha0 ha1 ha2 h_2 h_1; omega) | omega, by first | (clear ha0 ha1 ha2 h_2 h_1; omega) | omega⟩
  · refine v_if_ne_f (t := 18) rfl rfl (Decidable.not_not.mp h_1) (q_iload_n rfl rfl ?_)
    by_cases h_3 : a1 ≠ 0
    · refine v_if_ne_t (t := 14) rfl rfl ⟨h_3, ⟨(Int.le_trans (by decide) ha1.1), (Int.le_trans ha1.2 (by decide))⟩, by decide, by decide⟩ (q_iload_n rfl rfl (q_goto (t := 30) rfl rfl (q_iret rfl rfl ?_)))
      exact K a2 ha2
    · refine v_if_ne_f (t := 14) rfl rfl (Decidable.not_not.mp h_3) (q_iload_n rfl rfl (q_iconst rfl (v_idiv (v := (a2 / 2)) rfl (by omega) rfl (q_goto (t := 30) rfl rfl (q_iret rfl rfl ?_)))))
      exact K (a2 / 2) ⟨by omega, by omega⟩

set_option maxRecDepth 100000 in
set_option maxHeartbeats 4000000 in
theorem s_236_l {sc : List Int32} {e : Int} {d u P Q : Nat} {c : ME} {a1 : Int} {a2 : Int} {a3 : Int} {Z : AR → Prop} (hI : Iv u e P Q c) (ha1 : (-2147483648) ≤ a1 ∧ a1 ≤ 2147483647) (ha2 : (-2147483648) ≤ a2 ∧ a2 ≤ 2147483647) (ha3 : (-2147483648) ≤ a3 ∧ a3 ≤ 2147483647) (K : ∀ (c2 : ME) (y : Int), Iv u e P Q c2 → (∀ (a : Nat) (j : Int), ¬ ((a = 41 ∧ j = 0) ∨ a = 42) → c2 a j = c a j) → (-2147483648) ≤ y ∧ y ≤ 2147483647 → Z (.inl (some (vi y)), Wd P Q P P c2, 0, 0)) : ∀ n : Nat, (∀ (c2 : ME) (v4 : Int) (v5 : Int) (v6 : Int), Iv u e P Q c2 → (∀ (a : Nat) (j : Int), ¬ ((a = 41 ∧ j = 0) ∨ a = 42) → c2 a j = c a j) → (-2147483648) ≤ v4 ∧ v4 ≤ 2147483647 → (-1) ≤ v5 ∧ v5 ≤ 11 → 0 ≤ v6 ∧ v6 ≤ 4 → ((v5 = (-1)) ∨ (v5 = 0) ∨ (v5 = 1) ∨ (v5 = 10) ∨ (v5 = 11)) → ((a1 ≥ 0 ∧ a1 ≤ 99)) → ((a2 ≥ 0 ∧ a2 ≤ 99)) → 9 - 2 * v6 < (n : Int) → Wp sc (d + 8) 236 59 [(0, .ref 41), (1, vi a1), (2, vi a2), (3, vi a3), (4, vi v4), (5, vi v5), (6, vi v6)] [] (Wd P Q P P c2) 0 0 Z)
  | 0 => by intro c2 v4 v5 v6 hI2 hF hv4 hv5 hv6 hx0 hx1 hx2 hm9; have hP := iv_P hI; have hQ := iv_Q hI; exfalso; omega
  | n + 1 => by
    have hP := iv_P hI
    have hQ := iv_Q hI
    have ih := s_236_l (sc := sc) (d := d) hI ha1 ha2 ha3 K n
    intro c2 v4 v5 v6 hI2 hF hv4 hv5 hv6 hx0 hx1 hx2 hm9
    refine q_iload rfl rfl (q_iconst rfl ?_)
    by_cases h_1 : v6 ≥ 4
    · refine v_ic_ge_t (t := 156) rfl rfl ⟨by decide, h_1, (Int.le_trans hv6.2 (by decide))⟩ (q_iload_n rfl rfl ?_)
      by_cases h_2 : a3 ≠ 0
      · refine v_if_ne_t (t := 165) rfl rfl ⟨h_2, ⟨ha3.1, ha3.2⟩, by decide, by decide⟩ (q_iload_n rfl rfl (q_iconst rfl ?_))
        by_cases h_3 : a3 ≠ 1
        · refine v_ic_ne_t (t := 175) rfl rfl ⟨h_3, ⟨ha3.1, ha3.2⟩, by decide, by decide⟩ (q_iload rfl rfl (q_iconst rfl ?_))
          by_cases h_4 : v5 ≠ (-1)
          · refine v_ic_ne_t (t := 185) rfl rfl ⟨h_4, ⟨(Int.le_trans (by decide) hv5.1), (Int.le_trans hv5.2 (by decide))⟩, by decide, by decide⟩ (q_iload rfl rfl (v_bip rfl (by decide) (v_idiv (v := (v5 / 10)) rfl (by omega) rfl (q_iload rfl rfl (v_bip rfl (by decide) (v_irem (v := (v5 % 10)) rfl (by omega) rfl (q_iload_n rfl rfl ?_)))))))
            refine q_iload_n rfl rfl (q_call rfl rfl rfl rfl (s_235 (a0 := (v5 / 10)) (a1 := (v5 % 10)) (a2 := a1) (a3 := a2) hI2 (show 0 ≤ (v5 / 10) ∧ (v5 / 10) ≤ 1 from ⟨by omega, by first | (clear ha1 ha2 ha3 hv4 hv6 hx1 hx2 h_1 hx0 h_2 h_3 h_4; omega) | omega⟩) (show 0 ≤ (v5 % 10) ∧ (v5 % 10) ≤ 1 from ⟨by first | (clear ha1 ha2 ha3 hv4 hv5 hv6 hx1 hx2 h_1 hx0 h_2 h_3 h_4; omega) | omega, by omega⟩) (show 0 ≤ a1 ∧ a1 ≤ 99 from ⟨by first | (clear ha1 ha2 ha3 hv4 hv5 hv6 hx2 h_1 hx0 h_2 h_3 h_4; omega) | omega, by first | (clear ha1 ha2 ha3 hv4 hv5 hv6 hx2 h_1 hx0 h_2 h_3 h_4; omega) | omega⟩) (show 0 ≤ a2 ∧ a2 ≤ 99 from ⟨by first | (clear ha1 ha2 ha3 hv4 hv5 hv6 hx1 h_1 hx0 h_2 h_3 h_4; omega) | omega, by first | (clear ha1 ha2 ha3 hv4 hv5 hv6 hx1 h_1 hx0 h_2 h_3 h_4; omega) | omega⟩) (fun y_5 hy_5 => (bk_inl (q_iload rfl rfl (v_bip rfl (by decide) (v_irem (v := (v5 % 10)) rfl (by omega) rfl (q_iload rfl rfl (v_bip rfl (by decide) ?_)))))))))
            refine v_idiv (v := (v5 / 10)) rfl (by omega) rfl (q_iload_n rfl rfl (q_iload_n rfl rfl (q_call rfl rfl rfl rfl (s_235 (a0 := (v5 % 10)) (a1 := (v5 / 10)) (a2 := a1) (a3 := a2) hI2 (show 0 ≤ (v5 % 10) ∧ (v5 % 10) ≤ 1 from ⟨by first | (clear ha1 ha2 ha3 hv4 hv5 hv6 hx1 hx2 h_1 hx0 h_2 h_3 h_4; omega) | omega, by omega⟩) (show 0 ≤ (v5 / 10) ∧ (v5 / 10) ≤ 1 from ⟨by omega, by first | (clear ha1 ha2 ha3 hv4 hv6 hx1 hx2 h_1 hx0 h_2 h_3 h_4; omega) | omega⟩) (show 0 ≤ a1 ∧ a1 ≤ 99 from ⟨by first | (clear ha1 ha2 ha3 hv4 hv5 hv6 hx2 h_1 hx0 h_2 h_3 h_4; omega) | omega, by first | (clear ha1 ha2 ha3 hv4 hv5 hv6 hx2 h_1 hx0 h_2 h_3 h_4; omega) | omega⟩) (show 0 ≤ a2 ∧ a2 ≤ 99 from ⟨by first | (clear ha1 ha2 ha3 hv4 hv5 hv6 hx1 h_1 hx0 h_2 h_3 h_4; omega) | omega, by first | (clear ha1 ha2 ha3 hv4 hv5 hv6 hx1 h_1 hx0 h_2 h_3 h_4; omega) | omega⟩) (fun y_6 hy_6 => (bk_inl (v_iadd (v := y_5 + y_6) rfl rfl (q_iret rfl rfl ?_))))))))
            exact K c2 (y_5 + y_6) hI2 (fun a j hm => hF a j (fun q => q.elim (fun h => hm (Or.inl h)) (fun h => hm (Or.inr h)))) ⟨by first | (clear ha1 ha2 ha3 hv4 hv5 hv6 hx1 hx2 h_1 hx0 h_2 h_3 h_4; omega) | omega, by first | (clear ha1 ha2 ha3 hv4 hv5 hv6 hx1 hx2 h_1 hx0 h_2 h_3 h_4; omega) | omega⟩
          · refine v_ic_ne_f (t := 185) rfl rfl (Decidable.not_not.mp h_4) (q_iconst rfl (q_goto (t := 216) rfl rfl (q_iret rfl rfl ?_)))
            exact K c2 0 hI2 (fun a j hm => hF a j (fun q => q.elim (fun h => hm (Or.inl h)) (fun h => hm (Or.inr h)))) ⟨by decide, by decide⟩
        · refine v_ic_ne_f (t := 175) rfl rfl (Decidable.not_not.mp h_3) (q_iload rfl rfl (q_goto (t := 216) rfl rfl (q_iret rfl rfl ?_)))
          exact K c2 v5 hI2 (fun a j hm => hF a j (fun q => q.elim (fun h => hm (Or.inl h)) (fun h => hm (Or.inr h)))) ⟨(Int.le_trans (by decide) hv5.1), (Int.le_trans hv5.2 (by decide))⟩
      · refine v_if_ne_f (t := 165) rfl rfl (Decidable.not_not.mp h_2) (q_iload rfl rfl (q_goto (t := 216) rfl rfl (q_iret rfl rfl ?_)))
        exact K c2 v4 hI2 (fun a j hm => hF a j (fun q => q.elim (fun h => hm (Or.inl h)) (fun h => hm (Or.inr h)))) hv4
    · refine v_ic_ge_f (t := 156) rfl rfl ⟨(Int.le_trans (by decide) hv6.1), (Int.not_le.mp h_1), by decide⟩ (q_iload rfl rfl (q_iconst rfl (v_idiv (v := (v6 / 2)) rfl (by omega) rfl (q_istore rfl (Nat.le_of_ble_eq_true rfl) (q_iload rfl rfl (q_iconst rfl (v_irem (v := (v6 % 2)) rfl (by omega) rfl ?_)))))))
      refine q_istore rfl (Nat.le_of_ble_eq_true rfl) (q_iconst rfl (q_iload rfl rfl (v_isub (v := 1 - (v6 / 2)) rfl rfl (q_iload rfl rfl (q_iload_n rfl rfl (q_iload_n rfl rfl (q_call rfl rfl rfl rfl (s_235 (a0 := 1 - (v6 / 2)) (a1 := (v6 % 2)) (a2 := a1) (a3 := a2) hI2 (show 0 ≤ 1 - (v6 / 2) ∧ 1 - (v6 / 2) ≤ 1 from ⟨by first | (clear ha1 ha2 ha3 hv4 hv5 hv6 hx1 hx2 hx0; omega) | omega, by first | (clear ha1 ha2 ha3 hv4 hv5 hx1 hx2 h_1 hx0; omega) | omega⟩) (show 0 ≤ (v6 % 2) ∧ (v6 % 2) ≤ 1 from ⟨by first | (clear ha1 ha2 ha3 hv4 hv5 hv6 hx1 hx2 h_1 hx0; omega) | omega, by first | (clear ha1 ha2 ha3 hv4 hv5 hv6 hx1 hx2 h_1 hx0; omega) | omega⟩) (show 0 ≤ a1 ∧ a1 ≤ 99 from ⟨by first | (clear ha1 ha2 ha3 hv4 hv5 hv6 hx2 h_1 hx0; omega) | omega, by first | (clear ha1 ha2 ha3 hv4 hv5 hv6 hx2 h_1 hx0; omega) | omega⟩) (show 0 ≤ a2 ∧ a2 ≤ 99 from ⟨by first | (clear ha1 ha2 ha3 hv4 hv5 hv6 hx1 h_1 hx0; omega) | omega, by first | (clear ha1 ha2 ha3 hv4 hv5 hv6 hx1 h_1 hx0; omega) | omega⟩) (fun y_7 hy_7 => ?_)))))))))
      refine bk_inl (q_iload rfl rfl (q_iload rfl rfl (q_iload_n rfl rfl (q_iload_n rfl rfl (q_call rfl rfl rfl rfl (s_235 (a0 := (v6 / 2)) (a1 := (v6 % 2)) (a2 := a1) (a3 := a2) hI2 (show 0 ≤ (v6 / 2) ∧ (v6 / 2) ≤ 1 from ⟨by first | (clear ha1 ha2 ha3 hv4 hv5 hx1 hx2 h_1 hx0; omega) | omega, by first | (clear ha1 ha2 ha3 hv4 hv5 hv6 hx1 hx2 hx0; omega) | omega⟩) (show 0 ≤ (v6 % 2) ∧ (v6 % 2) ≤ 1 from ⟨by first | (clear ha1 ha2 ha3 hv4 hv5 hv6 hx1 hx2 h_1 hx0; omega) | omega, by first | (clear ha1 ha2 ha3 hv4 hv5 hv6 hx1 hx2 h_1 hx0; omega) | omega⟩) (show 0 ≤ a1 ∧ a1 ≤ 99 from ⟨by first | (clear ha1 ha2 ha3 hv4 hv5 hv6 hx2 h_1 hx0; omega) | omega, by first | (clear ha1 ha2 ha3 hv4 hv5 hv6 hx2 h_1 hx0; omega) | omega⟩) (show 0 ≤ a2 ∧ a2 ≤ 99 from ⟨by first | (clear ha1 ha2 ha3 hv4 hv5 hv6 hx1 h_1 hx0; omega) | omega, by first | (clear ha1 ha2 ha3 hv4 hv5 hv6 hx1 h_1 hx0; omega) | omega⟩) (fun y_8 hy_8 => (bk_inl ?_))))))))
      by_cases h_9 : y_7 > y_8
      · refine v_ic_gt_t (t := 150) rfl rfl ⟨(Int.le_trans (by decide) hy_8.1), h_9, (Int.le_trans hy_7.2 (by decide))⟩ (v_iinc (v := v6 + 1) rfl rfl (Nat.le_of_ble_eq_true rfl) rfl (q_goto (t := 59) rfl rfl (Wp_ls [(0, .ref 41), (1, vi a1), (2, vi a2), (3, vi a3), (4, vi v4), (5, vi v5), (6, vi (v6 + 1))] (lsub_cons rfl (lsub_cons rfl (lsub_cons rfl (lsub_cons rfl (lsub_cons rfl (lsub_cons rfl (lsub_cons rfl lsub_nil))))))) ?_)))
        exact ih c2 v4 v5 (v6 + 1) hI2 (fun a j hm => hF a j (fun q => q.elim (fun h => hm (Or.inl h)) (fun h => hm (Or.inr h)))) hv4 hv5 ⟨by first | exact rgp_l hv6.1 (by decide) | omega, by first | exact q_121241f94 h_1 | (clear ha1 ha2 ha3 hv4 hv5 hv6 hx1 hx2 h_9 hx0; omega) | omega⟩ (by omega) ⟨by first | (clear ha1 ha2 ha3 hv4 hv5 hv6 hx2 h_1 h_9 hx0; omega) | omega, by first | (clear ha1 ha2 ha3 hv4 hv5 hv6 hx2 h_1 h_9 hx0; omega) | omega⟩ ⟨by first | (clear ha1 ha2 ha3 hv4 hv5 hv6 hx1 h_1 h_9 hx0; omega) | omega, by first | (clear ha1 ha2 ha3 hv4 hv5 hv6 hx1 h_1 h_9 hx0; omega) | omega⟩ (by omega)
      · refine v_ic_gt_f (t := 150) rfl rfl ⟨(Int.le_trans (by decide) hy_7.1), (Int.not_lt.mp h_9), (Int.le_trans hy_8.2 (by decide))⟩ (q_iconst rfl (q_iload rfl rfl (v_isub (v := 1 - (v6 % 2)) rfl rfl (q_iload rfl rfl (q_iload_n rfl rfl (q_iload_n rfl rfl (q_call rfl rfl rfl rfl (s_235 (a0 := 1 - (v6 % 2)) (a1 := (v6 / 2)) (a2 := a1) (a3 := a2) hI2 (show 0 ≤ 1 - (v6 % 2) ∧ 1 - (v6 % 2) ≤ 1 from ⟨by first | (clear ha1 ha2 ha3 hv4 hv5 hv6 hx1 hx2 h_1 h_9 hx0; omega) | omega, by first | (clear ha1 ha2 ha3 hv4 hv5 hv6 hx1 hx2 h_1 h_9 hx0; omega) | omega⟩) (show 0 ≤ (v6 / 2) ∧ (v6 / 2) ≤ 1 from ⟨by first | (clear ha1 ha2 ha3 hv4 hv5 hx1 hx2 h_1 h_9 hx0; omega) | omega, by first | (clear ha1 ha2 ha3 hv4 hv5 hv6 hx1 hx2 h_9 hx0; omega) | omega⟩) (show 0 ≤ a1 ∧ a1 ≤ 99 from ⟨by first | (clear ha1 ha2 ha3 hv4 hv5 hv6 hx2 h_1 h_9 hx0; omega) | omega, by first | (clear ha1 ha2 ha3 hv4 hv5 hv6 hx2 h_1 h_9 hx0; omega) | omega⟩) (show 0 ≤ a2 ∧ a2 ≤ 99 from ⟨by first | (clear ha1 ha2 ha3 hv4 hv5 hv6 hx1 h_1 h_9 hx0; omega) | omega, by first | (clear ha1 ha2 ha3 hv4 hv5 hv6 hx1 h_1 h_9 hx0; omega) | omega⟩) (fun y_10 hy_10 => ?_)))))))))
        refine bk_inl (q_iload rfl rfl (q_iload rfl rfl (q_iload_n rfl rfl (q_iload_n rfl rfl (q_call rfl rfl rfl rfl (s_235 (a0 := (v6 % 2)) (a1 := (v6 / 2)) (a2 := a1) (a3 := a2) hI2 (show 0 ≤ (v6 % 2) ∧ (v6 % 2) ≤ 1 from ⟨by first | (clear ha1 ha2 ha3 hv4 hv5 hv6 hx1 hx2 h_1 h_9 hx0; omega) | omega, by first | (clear ha1 ha2 ha3 hv4 hv5 hv6 hx1 hx2 h_1 h_9 hx0; omega) | omega⟩) (show 0 ≤ (v6 / 2) ∧ (v6 / 2) ≤ 1 from ⟨by first | (clear ha1 ha2 ha3 hv4 hv5 hx1 hx2 h_1 h_9 hx0; omega) | omega, by first | (clear ha1 ha2 ha3 hv4 hv5 hv6 hx1 hx2 h_9 hx0; omega) | omega⟩) (show 0 ≤ a1 ∧ a1 ≤ 99 from ⟨by first | (clear ha1 ha2 ha3 hv4 hv5 hv6 hx2 h_1 h_9 hx0; omega) | omega, by first | (clear ha1 ha2 ha3 hv4 hv5 hv6 hx2 h_1 h_9 hx0; omega) | omega⟩) (show 0 ≤ a2 ∧ a2 ≤ 99 from ⟨by first | (clear ha1 ha2 ha3 hv4 hv5 hv6 hx1 h_1 h_9 hx0; omega) | omega, by first | (clear ha1 ha2 ha3 hv4 hv5 hv6 hx1 h_1 h_9 hx0; omega) | omega⟩) (fun y_11 hy_11 => (bk_inl ?_))))))))
        by_cases h_12 : y_10 ≤ y_11
        · refine v_ic_le_t (t := 126) rfl rfl ⟨(Int.le_trans (by decide) hy_10.1), h_12, (Int.le_trans hy_11.2 (by decide))⟩ (v_iincx rfl rfl (by decide) (fun y_13 hy_13 => (q_iload rfl rfl (q_iconst rfl ?_))))
          by_cases h_14 : v5 ≠ (-1)
          · refine v_ic_ne_t (t := 146) rfl rfl ⟨h_14, ⟨(Int.le_trans (by decide) hv5.1), (Int.le_trans hv5.2 (by decide))⟩, by decide, by decide⟩ (q_iload rfl rfl (q_istore rfl (Nat.le_of_ble_eq_true rfl) (v_iinc (v := v6 + 1) rfl rfl (Nat.le_of_ble_eq_true rfl) rfl (Wp_ls [(6, vi (v6 + 1)), (5, vi v5), (4, vi y_13), (8, vi (v6 % 2)), (7, vi (v6 / 2)), (0, .ref 41), (1, vi a1), (2, vi a2), (3, vi a3)] (lsub_cons rfl (lsub_cons rfl (lsub_cons rfl (lsub_cons rfl (lsub_cons rfl (lsub_cons rfl (lsub_cons rfl (lsub_cons rfl (lsub_cons rfl lsub_nil))))))))) (q_goto (t := 59) rfl rfl (Wp_ls [(0, .ref 41), (1, vi a1), (2, vi a2), (3, vi a3), (4, vi y_13), (5, vi v5), (6, vi (v6 + 1))] (lsub_cons rfl (lsub_cons rfl (lsub_cons rfl (lsub_cons rfl (lsub_cons rfl (lsub_cons rfl (lsub_cons rfl lsub_nil))))))) ?_))))))
            exact ih c2 y_13 v5 (v6 + 1) hI2 (fun a j hm => hF a j (fun q => q.elim (fun h => hm (Or.inl h)) (fun h => hm (Or.inr h)))) hy_13 hv5 ⟨by first | exact rgp_l hv6.1 (by decide) | omega, by first | exact q_121241f94 h_1 | (clear ha1 ha2 ha3 hv4 hv5 hv6 hx1 hx2 h_9 h_12 hx0 h_14; omega) | omega⟩ (by omega) ⟨by first | (clear ha1 ha2 ha3 hv4 hv5 hv6 hx2 h_1 h_9 h_12 hx0 h_14; omega) | omega, by first | (clear ha1 ha2 ha3 hv4 hv5 hv6 hx2 h_1 h_9 h_12 hx0 h_14; omega) | omega⟩ ⟨by first | (clear ha1 ha2 ha3 hv4 hv5 hv6 hx1 h_1 h_9 h_12 hx0 h_14; omega) | omega, by first | (clear ha1 ha2 ha3 hv4 hv5 hv6 hx1 h_1 h_9 h_12 hx0 h_14; omega) | omega⟩ (by omega)
          · refine v_ic_ne_f (t := 146) rfl rfl (Decidable.not_not.mp h_14) (v_bip rfl (by decide) (q_iload rfl rfl (v_imul (v := 10 * (v6 / 2)) rfl rfl (q_iload rfl rfl (v_iadd (v := (v6 % 2) + 10 * (v6 / 2)) rfl (by first | (clear ha1 ha2 ha3 hv4 hv5 hv6 hx1 hx2 h_1 h_9 h_12 h_14 hx0; omega) | omega) (q_goto (t := 148) rfl rfl (q_istore rfl (Nat.le_of_ble_eq_true rfl) ?_)))))))
            refine v_iinc (v := v6 + 1) rfl rfl (Nat.le_of_ble_eq_true rfl) rfl (Wp_ls [(6, vi (v6 + 1)), (5, vi ((v6 % 2) + 10 * (v6 / 2))), (4, vi y_13), (8, vi (v6 % 2)), (7, vi (v6 / 2)), (0, .ref 41), (1, vi a1), (2, vi a2), (3, vi a3)] (lsub_cons rfl (lsub_cons rfl (lsub_cons rfl (lsub_cons rfl (lsub_cons rfl (lsub_cons rfl (lsub_cons rfl (lsub_cons rfl (lsub_cons rfl lsub_nil))))))))) (q_goto (t := 59) rfl rfl (Wp_ls [(0, .ref 41), (1, vi a1), (2, vi a2), (3, vi a3), (4, vi y_13), (5, vi ((v6 % 2) + 10 * (v6 / 2))), (6, vi (v6 + 1))] (lsub_cons rfl (lsub_cons rfl (lsub_cons rfl (lsub_cons rfl (lsub_cons rfl (lsub_cons rfl (lsub_cons rfl lsub_nil))))))) ?_)))
            exact ih c2 y_13 ((v6 % 2) + 10 * (v6 / 2)) (v6 + 1) hI2 (fun a j hm => hF a j (fun q => q.elim (fun h => hm (Or.inl h)) (fun h => hm (Or.inr h)))) hy_13 ⟨by first | (clear ha1 ha2 ha3 hv4 hv5 hx1 hx2 h_1 h_9 h_12 h_14 hx0; omega) | omega, by first | (clear ha1 ha2 ha3 hv4 hv5 hv6 hx1 hx2 h_9 h_12 h_14 hx0; omega) | omega⟩ ⟨by first | exact rgp_l hv6.1 (by decide) | omega, by first | exact q_121241f94 h_1 | (clear ha1 ha2 ha3 hv4 hv5 hv6 hx1 hx2 h_9 h_12 h_14 hx0; omega) | omega⟩ (by omega) ⟨by first | (clear ha1 ha2 ha3 hv4 hv5 hv6 hx2 h_1 h_9 h_12 h_14 hx0; omega) | omega, by first | (clear ha1 ha2 ha3 hv4 hv5 hv6 hx2 h_1 h_9 h_12 h_14 hx0; omega) | omega⟩ ⟨by first | (clear ha1 ha2 ha3 hv4 hv5 hv6 hx1 h_1 h_9 h_12 h_14 hx0; omega) | omega, by first | (clear ha1 ha2 ha3 hv4 hv5 hv6 hx1 h_1 h_9 h_12 h_14 hx0; omega) | omega⟩ (by omega)
        · refine v_ic_le_f (t := 126) rfl rfl ⟨(Int.le_trans (by decide) hy_11.1), (Int.not_le.mp h_12), (Int.le_trans hy_10.2 (by decide))⟩ (q_goto (t := 150) rfl rfl (v_iinc (v := v6 + 1) rfl rfl (Nat.le_of_ble_eq_true rfl) rfl (q_goto (t := 59) rfl rfl (Wp_ls [(0, .ref 41), (1, vi a1), (2, vi a2), (3, vi a3), (4, vi v4), (5, vi v5), (6, vi (v6 + 1))] (lsub_cons rfl (lsub_cons rfl (lsub_cons rfl (lsub_cons rfl (lsub_cons rfl (lsub_cons rfl (lsub_cons rfl lsub_nil))))))) ?_))))
          exact ih c2 v4 v5 (v6 + 1) hI2 (fun a j hm => hF a j (fun q => q.elim (fun h => hm (Or.inl h)) (fun h => hm (Or.inr h)))) hv4 hv5 ⟨by first | exact rgp_l hv6.1 (by decide) | omega, by first | exact q_121241f94 h_1 | (clear ha1 ha2 ha3 hv4 hv5 hv6 hx1 hx2 h_9 h_12 hx0; omega) | omega⟩ (by omega) ⟨by first | (clear ha1 ha2 ha3 hv4 hv5 hv6 hx2 h_1 h_9 h_12 hx0; omega) | omega, by first | (clear ha1 ha2 ha3 hv4 hv5 hv6 hx2 h_1 h_9 h_12 hx0; omega) | omega⟩ ⟨by first | (clear ha1 ha2 ha3 hv4 hv5 hv6 hx1 h_1 h_9 h_12 hx0; omega) | omega, by first | (clear ha1 ha2 ha3 hv4 hv5 hv6 hx1 h_1 h_9 h_12 hx0; omega) | omega⟩ (by omega)
set_option maxRecDepth 100000 in
set_option maxHeartbeats 4000000 in
theorem s_236 {sc : List Int32} {e : Int} {d u P Q : Nat} {c : ME} {a1 : Int} {a2 : Int} {a3 : Int} {Z : AR → Prop} (hI : Iv u e P Q c) (ha1 : (-2147483648) ≤ a1 ∧ a1 ≤ 2147483647) (ha2 : (-2147483648) ≤ a2 ∧ a2 ≤ 2147483647) (ha3 : (-2147483648) ≤ a3 ∧ a3 ≤ 2147483647) (K : ∀ (c2 : ME) (y : Int), Iv u e P Q c2 → (∀ (a : Nat) (j : Int), ¬ ((a = 41 ∧ j = 0) ∨ a = 42) → c2 a j = c a j) → (-2147483648) ≤ y ∧ y ≤ 2147483647 → Z (.inl (some (vi y)), Wd P Q P P c2, 0, 0)) : Wp sc (d + 8) 236 0 [(0, .ref 41), (1, vi a1), (2, vi a2), (3, vi a3)] [] (Wd P Q P P c) 0 0 Z := by
  have hP := iv_P hI
  have hQ := iv_Q hI
  refine q_aload_n rfl rfl (q_iconst rfl (v_pi (z := 0) rfl rfl rfl (Nat.le_of_ble_eq_true rfl) rfl rfl rfl (by decide) (q_aload_n rfl rfl (q_iload_n rfl rfl (q_iconst rfl (v_bip rfl (by decide) (q_call rfl rfl rfl rfl ?_)))))))
  refine q_iload_n rfl rfl (q_iload_n rfl rfl ?_)
  by_cases h_15 : a1 < 0
  · refine v_ic_lt_t (t := 14) rfl rfl ⟨ha1.1, h_15, by decide⟩ (q_iconst rfl (v_zret rfl rfl (by decide) (bk_inl (v_if_eq_t (t := 39) rfl rfl (by decide) (q_iconst rfl (q_iconst rfl (q_iconst rfl ?_)))))))
    refine v_cv rfl rfl rfl rfl (Nat.le_of_ble_eq_true rfl) ⟨⟨rfl, rfl⟩, Nat.le_of_ble_eq_true rfl, rfl⟩ (Nat.le_of_ble_eq_true rfl) (Nat.le_of_ble_eq_true rfl) (q_iload_n rfl rfl (v_if_ne_f (t := 26) rfl rfl (by decide) (q_aload_n rfl rfl (v_gi (z := 0) (v := 0) rfl rfl rfl (Nat.le_of_ble_eq_true rfl) rfl rfl (up_e rfl) (v_if_ne_f (t := 26) rfl rfl (by decide) (q_aload_n rfl rfl (q_iload_n rfl rfl ?_)))))))
    refine v_pi (z := 0) rfl rfl rfl (Nat.le_of_ble_eq_true rfl) rfl rfl rfl (by decide) (q_aload_n rfl rfl (v_gr (t := 42) rfl rfl rfl (Nat.le_of_ble_eq_true rfl) rfl (q_iload_n rfl rfl (q_dup2 rfl ⟨rfl, rfl⟩ ?_))))
    have h_16 := ir_42 hI 1
    refine v_ia (v := c 42 1) rfl rfl (by decide) (by decide) (by decide) ((up_c (nn rfl)).trans (up_c (nn rfl))) (q_iconst rfl (v_iadd (v := c 42 1 + 1) rfl rfl (v_nrm (fun y_17 hy_17 => (v_is rfl rfl (by decide) (by decide) (by decide) (q_aload_n rfl rfl (v_gi (z := 0) (v := 1) rfl rfl rfl (Nat.le_of_ble_eq_true rfl) rfl rfl ((up_c (nn rfl)).trans (up_e rfl)) (v_if_ne_t (t := 37) rfl rfl (by decide) ?_))))))))
    refine q_iconst rfl (v_zret rfl rfl (by decide) (bk_inl (v_if_ne_f (t := 50) rfl rfl (by decide) (q_iconst rfl (q_iret rfl rfl ?_)))))
    have hI_18 := iw_41_0 (v := 0) hI ⟨by decide, by decide⟩
    have hI_19 := iw_41_0 (v := 1) hI_18 ⟨by decide, by decide⟩
    have hI_20 := iw_42 (j := 1) (v := y_17) hI_19 ⟨hy_17.1, hy_17.2⟩
    exact K (up (up (up c 41 0 0) 41 0 1) 42 1 y_17) 0 hI_20 (fun a j hm => (up_b (Decidable.or_iff_not_imp_left.mpr (fun h1 h2 => hm (Or.inr (Decidable.not_not.mp h1))))).trans ((up_b (Decidable.or_iff_not_imp_left.mpr (fun h1 h2 => hm (Or.inl ⟨Decidable.not_not.mp h1, h2⟩)))).trans (up_b (Decidable.or_iff_not_imp_left.mpr (fun h1 h2 => hm (Or.inl ⟨Decidable.not_not.mp h1, h2⟩)))))) ⟨by decide, by decide⟩
  · refine v_ic_lt_f (t := 14) rfl rfl ⟨by decide, (Int.not_lt.mp h_15), ha1.2⟩ (q_iload_n rfl rfl (q_iload_n rfl rfl ?_))
    by_cases h_21 : a1 > 99
    · refine v_ic_gt_t (t := 14) rfl rfl ⟨by decide, h_21, ha1.2⟩ (q_iconst rfl (v_zret rfl rfl (by decide) (bk_inl (v_if_eq_t (t := 39) rfl rfl (by decide) (q_iconst rfl (q_iconst rfl (q_iconst rfl ?_)))))))
      refine v_cv rfl rfl rfl rfl (Nat.le_of_ble_eq_true rfl) ⟨⟨rfl, rfl⟩, Nat.le_of_ble_eq_true rfl, rfl⟩ (Nat.le_of_ble_eq_true rfl) (Nat.le_of_ble_eq_true rfl) (q_iload_n rfl rfl (v_if_ne_f (t := 26) rfl rfl (by decide) (q_aload_n rfl rfl (v_gi (z := 0) (v := 0) rfl rfl rfl (Nat.le_of_ble_eq_true rfl) rfl rfl (up_e rfl) (v_if_ne_f (t := 26) rfl rfl (by decide) (q_aload_n rfl rfl (q_iload_n rfl rfl ?_)))))))
      refine v_pi (z := 0) rfl rfl rfl (Nat.le_of_ble_eq_true rfl) rfl rfl rfl (by decide) (q_aload_n rfl rfl (v_gr (t := 42) rfl rfl rfl (Nat.le_of_ble_eq_true rfl) rfl (q_iload_n rfl rfl (q_dup2 rfl ⟨rfl, rfl⟩ ?_))))
      have h_22 := ir_42 hI 1
      refine v_ia (v := c 42 1) rfl rfl (by decide) (by decide) (by decide) ((up_c (nn rfl)).trans (up_c (nn rfl))) (q_iconst rfl (v_iadd (v := c 42 1 + 1) rfl rfl (v_nrm (fun y_23 hy_23 => (v_is rfl rfl (by decide) (by decide) (by decide) (q_aload_n rfl rfl (v_gi (z := 0) (v := 1) rfl rfl rfl (Nat.le_of_ble_eq_true rfl) rfl rfl ((up_c (nn rfl)).trans (up_e rfl)) (v_if_ne_t (t := 37) rfl rfl (by decide) ?_))))))))
      refine q_iconst rfl (v_zret rfl rfl (by decide) (bk_inl (v_if_ne_f (t := 50) rfl rfl (by decide) (q_iconst rfl (q_iret rfl rfl ?_)))))
      have hI_24 := iw_41_0 (v := 0) hI ⟨by decide, by decide⟩
      have hI_25 := iw_41_0 (v := 1) hI_24 ⟨by decide, by decide⟩
      have hI_26 := iw_42 (j := 1) (v := y_23) hI_25 ⟨hy_23.1, hy_23.2⟩
      exact K (up (up (up c 41 0 0) 41 0 1) 42 1 y_23) 0 hI_26 (fun a j hm => (up_b (Decidable.or_iff_not_imp_left.mpr (fun h1 h2 => hm (Or.inr (Decidable.not_not.mp h1))))).trans ((up_b (Decidable.or_iff_not_imp_left.mpr (fun h1 h2 => hm (Or.inl ⟨Decidable.not_not.mp h1, h2⟩)))).trans (up_b (Decidable.or_iff_not_imp_left.mpr (fun h1 h2 => hm (Or.inl ⟨Decidable.not_not.mp h1, h2⟩)))))) ⟨by decide, by decide⟩
    · refine v_ic_gt_f (t := 14) rfl rfl ⟨ha1.1, (Int.not_lt.mp h_21), by decide⟩ (q_iconst rfl (q_goto (t := 15) rfl rfl (v_zret rfl rfl (by decide) (bk_inl (v_if_eq_f (t := 39) rfl rfl (by decide) (q_iload_n rfl rfl (q_iconst rfl ?_)))))))
      refine v_bip rfl (by decide) (q_call rfl rfl rfl rfl (q_iload_n rfl rfl (q_iload_n rfl rfl ?_)))
      by_cases h_27 : a2 < 0
      · refine v_ic_lt_t (t := 14) rfl rfl ⟨ha2.1, h_27, by decide⟩ (q_iconst rfl (v_zret rfl rfl (by decide) (bk_inl (v_if_eq_t (t := 39) rfl rfl (by decide) (q_iconst rfl (q_iconst rfl (q_iconst rfl ?_)))))))
        refine v_cv rfl rfl rfl rfl (Nat.le_of_ble_eq_true rfl) ⟨⟨rfl, rfl⟩, Nat.le_of_ble_eq_true rfl, rfl⟩ (Nat.le_of_ble_eq_true rfl) (Nat.le_of_ble_eq_true rfl) (q_iload_n rfl rfl (v_if_ne_f (t := 26) rfl rfl (by decide) (q_aload_n rfl rfl (v_gi (z := 0) (v := 0) rfl rfl rfl (Nat.le_of_ble_eq_true rfl) rfl rfl (up_e rfl) (v_if_ne_f (t := 26) rfl rfl (by decide) (q_aload_n rfl rfl (q_iload_n rfl rfl ?_)))))))
        refine v_pi (z := 0) rfl rfl rfl (Nat.le_of_ble_eq_true rfl) rfl rfl rfl (by decide) (q_aload_n rfl rfl (v_gr (t := 42) rfl rfl rfl (Nat.le_of_ble_eq_true rfl) rfl (q_iload_n rfl rfl (q_dup2 rfl ⟨rfl, rfl⟩ ?_))))
        have h_28 := ir_42 hI 1
        refine v_ia (v := c 42 1) rfl rfl (by decide) (by decide) (by decide) ((up_c (nn rfl)).trans (up_c (nn rfl))) (q_iconst rfl (v_iadd (v := c 42 1 + 1) rfl rfl (v_nrm (fun y_29 hy_29 => (v_is rfl rfl (by decide) (by decide) (by decide) (q_aload_n rfl rfl (v_gi (z := 0) (v := 1) rfl rfl rfl (Nat.le_of_ble_eq_true rfl) rfl rfl ((up_c (nn rfl)).trans (up_e rfl)) (v_if_ne_t (t := 37) rfl rfl (by decide) ?_))))))))
        refine q_iconst rfl (v_zret rfl rfl (by decide) (bk_inl (v_if_ne_f (t := 50) rfl rfl (by decide) (q_iconst rfl (q_iret rfl rfl ?_)))))
        have hI_30 := iw_41_0 (v := 0) hI ⟨by decide, by decide⟩
        have hI_31 := iw_41_0 (v := 1) hI_30 ⟨by decide, by decide⟩
        have hI_32 := iw_42 (j := 1) (v := y_29) hI_31 ⟨hy_29.1, hy_29.2⟩
        exact K (up (up (up c 41 0 0) 41 0 1) 42 1 y_29) 0 hI_32 (fun a j hm => (up_b (Decidable.or_iff_not_imp_left.mpr (fun h1 h2 => hm (Or.inr (Decidable.not_not.mp h1))))).trans ((up_b (Decidable.or_iff_not_imp_left.mpr (fun h1 h2 => hm (Or.inl ⟨Decidable.not_not.mp h1, h2⟩)))).trans (up_b (Decidable.or_iff_not_imp_left.mpr (fun h1 h2 => hm (Or.inl ⟨Decidable.not_not.mp h1, h2⟩)))))) ⟨by decide, by decide⟩
      · refine v_ic_lt_f (t := 14) rfl rfl ⟨by decide, (Int.not_lt.mp h_27), ha2.2⟩ (q_iload_n rfl rfl (q_iload_n rfl rfl ?_))
        by_cases h_33 : a2 > 99
        · refine v_ic_gt_t (t := 14) rfl rfl ⟨by decide, h_33, ha2.2⟩ (q_iconst rfl (v_zret rfl rfl (by decide) (bk_inl (v_if_eq_t (t := 39) rfl rfl (by decide) (q_iconst rfl (q_iconst rfl (q_iconst rfl ?_)))))))
          refine v_cv rfl rfl rfl rfl (Nat.le_of_ble_eq_true rfl) ⟨⟨rfl, rfl⟩, Nat.le_of_ble_eq_true rfl, rfl⟩ (Nat.le_of_ble_eq_true rfl) (Nat.le_of_ble_eq_true rfl) (q_iload_n rfl rfl (v_if_ne_f (t := 26) rfl rfl (by decide) (q_aload_n rfl rfl (v_gi (z := 0) (v := 0) rfl rfl rfl (Nat.le_of_ble_eq_true rfl) rfl rfl (up_e rfl) (v_if_ne_f (t := 26) rfl rfl (by decide) (q_aload_n rfl rfl (q_iload_n rfl rfl ?_)))))))
          refine v_pi (z := 0) rfl rfl rfl (Nat.le_of_ble_eq_true rfl) rfl rfl rfl (by decide) (q_aload_n rfl rfl (v_gr (t := 42) rfl rfl rfl (Nat.le_of_ble_eq_true rfl) rfl (q_iload_n rfl rfl (q_dup2 rfl ⟨rfl, rfl⟩ ?_))))
          have h_34 := ir_42 hI 1
          refine v_ia (v := c 42 1) rfl rfl (by decide) (by decide) (by decide) ((up_c (nn rfl)).trans (up_c (nn rfl))) (q_iconst rfl (v_iadd (v := c 42 1 + 1) rfl rfl (v_nrm (fun y_35 hy_35 => (v_is rfl rfl (by decide) (by decide) (by decide) (q_aload_n rfl rfl (v_gi (z := 0) (v := 1) rfl rfl rfl (Nat.le_of_ble_eq_true rfl) rfl rfl ((up_c (nn rfl)).trans (up_e rfl)) (v_if_ne_t (t := 37) rfl rfl (by decide) ?_))))))))
          refine q_iconst rfl (v_zret rfl rfl (by decide) (bk_inl (v_if_ne_f (t := 50) rfl rfl (by decide) (q_iconst rfl (q_iret rfl rfl ?_)))))
          have hI_36 := iw_41_0 (v := 0) hI ⟨by decide, by decide⟩
          have hI_37 := iw_41_0 (v := 1) hI_36 ⟨by decide, by decide⟩
          have hI_38 := iw_42 (j := 1) (v := y_35) hI_37 ⟨hy_35.1, hy_35.2⟩
          exact K (up (up (up c 41 0 0) 41 0 1) 42 1 y_35) 0 hI_38 (fun a j hm => (up_b (Decidable.or_iff_not_imp_left.mpr (fun h1 h2 => hm (Or.inr (Decidable.not_not.mp h1))))).trans ((up_b (Decidable.or_iff_not_imp_left.mpr (fun h1 h2 => hm (Or.inl ⟨Decidable.not_not.mp h1, h2⟩)))).trans (up_b (Decidable.or_iff_not_imp_left.mpr (fun h1 h2 => hm (Or.inl ⟨Decidable.not_not.mp h1, h2⟩)))))) ⟨by decide, by decide⟩
        · refine v_ic_gt_f (t := 14) rfl rfl ⟨ha2.1, (Int.not_lt.mp h_33), by decide⟩ (q_iconst rfl (q_goto (t := 15) rfl rfl (v_zret rfl rfl (by decide) (bk_inl (v_if_eq_f (t := 39) rfl rfl (by decide) (q_iload_n rfl rfl (q_iconst rfl ?_)))))))
          refine q_iconst rfl (q_call rfl rfl rfl rfl (q_iload_n rfl rfl (q_iload_n rfl rfl ?_)))
          by_cases h_39 : a3 < 0
          · refine v_ic_lt_t (t := 14) rfl rfl ⟨ha3.1, h_39, by decide⟩ (q_iconst rfl (v_zret rfl rfl (by decide) (bk_inl (v_if_eq_t (t := 39) rfl rfl (by decide) (q_iconst rfl (q_iconst rfl (q_iconst rfl ?_)))))))
            refine v_cv rfl rfl rfl rfl (Nat.le_of_ble_eq_true rfl) ⟨⟨rfl, rfl⟩, Nat.le_of_ble_eq_true rfl, rfl⟩ (Nat.le_of_ble_eq_true rfl) (Nat.le_of_ble_eq_true rfl) (q_iload_n rfl rfl (v_if_ne_f (t := 26) rfl rfl (by decide) (q_aload_n rfl rfl (v_gi (z := 0) (v := 0) rfl rfl rfl (Nat.le_of_ble_eq_true rfl) rfl rfl (up_e rfl) (v_if_ne_f (t := 26) rfl rfl (by decide) (q_aload_n rfl rfl (q_iload_n rfl rfl ?_)))))))
            refine v_pi (z := 0) rfl rfl rfl (Nat.le_of_ble_eq_true rfl) rfl rfl rfl (by decide) (q_aload_n rfl rfl (v_gr (t := 42) rfl rfl rfl (Nat.le_of_ble_eq_true rfl) rfl (q_iload_n rfl rfl (q_dup2 rfl ⟨rfl, rfl⟩ ?_))))
            have h_40 := ir_42 hI 1
            refine v_ia (v := c 42 1) rfl rfl (by decide) (by decide) (by decide) ((up_c (nn rfl)).trans (up_c (nn rfl))) (q_iconst rfl (v_iadd (v := c 42 1 + 1) rfl rfl (v_nrm (fun y_41 hy_41 => (v_is rfl rfl (by decide) (by decide) (by decide) (q_aload_n rfl rfl (v_gi (z := 0) (v := 1) rfl rfl rfl (Nat.le_of_ble_eq_true rfl) rfl rfl ((up_c (nn rfl)).trans (up_e rfl)) (v_if_ne_t (t := 37) rfl rfl (by decide) ?_))))))))
            refine q_iconst rfl (v_zret rfl rfl (by decide) (bk_inl (v_if_ne_f (t := 50) rfl rfl (by decide) (q_iconst rfl (q_iret rfl rfl ?_)))))
            have hI_42 := iw_41_0 (v := 0) hI ⟨by decide, by decide⟩
            have hI_43 := iw_41_0 (v := 1) hI_42 ⟨by decide, by decide⟩
            have hI_44 := iw_42 (j := 1) (v := y_41) hI_43 ⟨hy_41.1, hy_41.2⟩
            exact K (up (up (up c 41 0 0) 41 0 1) 42 1 y_41) 0 hI_44 (fun a j hm => (up_b (Decidable.or_iff_not_imp_left.mpr (fun h1 h2 => hm (Or.inr (Decidable.not_not.mp h1))))).trans ((up_b (Decidable.or_iff_not_imp_left.mpr (fun h1 h2 => hm (Or.inl ⟨Decidable.not_not.mp h1, h2⟩)))).trans (up_b (Decidable.or_iff_not_imp_left.mpr (fun h1 h2 => hm (Or.inl ⟨Decidable.not_not.mp h1, h2⟩)))))) ⟨by decide, by decide⟩
          · refine v_ic_lt_f (t := 14) rfl rfl ⟨by decide, (Int.not_lt.mp h_39), ha3.2⟩ (q_iload_n rfl rfl (q_iload_n rfl rfl ?_))
            by_cases h_45 : a3 > 2
            · refine v_ic_gt_t (t := 14) rfl rfl ⟨by decide, h_45, ha3.2⟩ (q_iconst rfl (v_zret rfl rfl (by decide) (bk_inl (v_if_eq_t (t := 39) rfl rfl (by decide) (q_iconst rfl (q_iconst rfl (q_iconst rfl ?_)))))))
              refine v_cv rfl rfl rfl rfl (Nat.le_of_ble_eq_true rfl) ⟨⟨rfl, rfl⟩, Nat.le_of_ble_eq_true rfl, rfl⟩ (Nat.le_of_ble_eq_true rfl) (Nat.le_of_ble_eq_true rfl) (q_iload_n rfl rfl (v_if_ne_f (t := 26) rfl rfl (by decide) (q_aload_n rfl rfl (v_gi (z := 0) (v := 0) rfl rfl rfl (Nat.le_of_ble_eq_true rfl) rfl rfl (up_e rfl) (v_if_ne_f (t := 26) rfl rfl (by decide) (q_aload_n rfl rfl (q_iload_n rfl rfl ?_)))))))
              refine v_pi (z := 0) rfl rfl rfl (Nat.le_of_ble_eq_true rfl) rfl rfl rfl (by decide) (q_aload_n rfl rfl (v_gr (t := 42) rfl rfl rfl (Nat.le_of_ble_eq_true rfl) rfl (q_iload_n rfl rfl (q_dup2 rfl ⟨rfl, rfl⟩ ?_))))
              have h_46 := ir_42 hI 1
              refine v_ia (v := c 42 1) rfl rfl (by decide) (by decide) (by decide) ((up_c (nn rfl)).trans (up_c (nn rfl))) (q_iconst rfl (v_iadd (v := c 42 1 + 1) rfl rfl (v_nrm (fun y_47 hy_47 => (v_is rfl rfl (by decide) (by decide) (by decide) (q_aload_n rfl rfl (v_gi (z := 0) (v := 1) rfl rfl rfl (Nat.le_of_ble_eq_true rfl) rfl rfl ((up_c (nn rfl)).trans (up_e rfl)) (v_if_ne_t (t := 37) rfl rfl (by decide) ?_))))))))
              refine q_iconst rfl (v_zret rfl rfl (by decide) (bk_inl (v_if_ne_f (t := 50) rfl rfl (by decide) (q_iconst rfl (q_iret rfl rfl ?_)))))
              have hI_48 := iw_41_0 (v := 0) hI ⟨by decide, by decide⟩
              have hI_49 := iw_41_0 (v := 1) hI_48 ⟨by decide, by decide⟩
              have hI_50 := iw_42 (j := 1) (v := y_47) hI_49 ⟨hy_47.1, hy_47.2⟩
              exact K (up (up (up c 41 0 0) 41 0 1) 42 1 y_47) 0 hI_50 (fun a j hm => (up_b (Decidable.or_iff_not_imp_left.mpr (fun h1 h2 => hm (Or.inr (Decidable.not_not.mp h1))))).trans ((up_b (Decidable.or_iff_not_imp_left.mpr (fun h1 h2 => hm (Or.inl ⟨Decidable.not_not.mp h1, h2⟩)))).trans (up_b (Decidable.or_iff_not_imp_left.mpr (fun h1 h2 => hm (Or.inl ⟨Decidable.not_not.mp h1, h2⟩)))))) ⟨by decide, by decide⟩
            · refine v_ic_gt_f (t := 14) rfl rfl ⟨ha3.1, (Int.not_lt.mp h_45), by decide⟩ (q_iconst rfl (q_goto (t := 15) rfl rfl (v_zret rfl rfl (by decide) (bk_inl (v_if_eq_f (t := 39) rfl rfl (by decide) (q_iconst rfl (q_goto (t := 40) rfl rfl ?_)))))))
              refine q_iconst rfl (q_iconst rfl (v_cv rfl rfl rfl rfl (Nat.le_of_ble_eq_true rfl) ⟨⟨rfl, rfl⟩, Nat.le_of_ble_eq_true rfl, rfl⟩ (Nat.le_of_ble_eq_true rfl) (Nat.le_of_ble_eq_true rfl) (q_iload_n rfl rfl (v_if_ne_t (t := 26) rfl rfl (by decide) (q_aload_n rfl rfl (v_gi (z := 0) (v := 0) rfl rfl rfl (Nat.le_of_ble_eq_true rfl) rfl rfl (up_e rfl) (v_if_ne_f (t := 37) rfl rfl (by decide) ?_)))))))
              refine q_iconst rfl (q_goto (t := 38) rfl rfl (v_zret rfl rfl (by decide) (bk_inl (v_if_ne_t (t := 50) rfl rfl (by decide) (q_iconst rfl (q_istore rfl (Nat.le_of_ble_eq_true rfl) (q_iconst rfl ?_)))))))
              refine q_istore rfl (Nat.le_of_ble_eq_true rfl) (q_iconst rfl (q_istore rfl (Nat.le_of_ble_eq_true rfl) ?_))
              have hI_51 := iw_41_0 (v := 0) hI ⟨by decide, by decide⟩
              refine Wp_ls [(0, .ref 41), (1, vi a1), (2, vi a2), (3, vi a3), (4, vi 0), (5, vi (-1)), (6, vi 0)] (lsub_cons rfl (lsub_cons rfl (lsub_cons rfl (lsub_cons rfl (lsub_cons rfl (lsub_cons rfl (lsub_cons rfl lsub_nil))))))) ?_
              exact (s_236_l (sc := sc) (d := d) hI ha1 ha2 ha3 K 12) (up c 41 0 0) 0 (-1) 0 hI_51 (fun a j hm => up_b (Decidable.or_iff_not_imp_left.mpr (fun h1 h2 => hm (Or.inl ⟨Decidable.not_not.mp h1, h2⟩)))) ⟨by decide, by decide⟩ ⟨by decide, by decide⟩ ⟨by decide, by decide⟩ (Or.inl (by first | decide | omega)) ⟨by first | exact q_720657ba9 h_15 | omega, by first | exact q_9010c525b h_21 | omega⟩ ⟨by first | exact q_720657ba9 h_27 | omega, by first | exact q_9010c525b h_33 | omega⟩ (by omega)

set_option maxRecDepth 100000 in
set_option maxHeartbeats 4000000 in
theorem s_237 {sc : List Int32} {e : Int} {d u P Q : Nat} {c : ME} {a1 : Int} {a2 : Int} {Z : AR → Prop} (hI : Iv u e P Q c) (ha1 : 0 ≤ a1 ∧ a1 ≤ 5) (ha2 : (-2147483648) ≤ a2 ∧ a2 ≤ 2147483647) (K : ∀ (y : Int), (-2147483648) ≤ y ∧ y ≤ 2147483647 → Z (.inl (some (vi y)), Wd P Q P P c, 0, 0)) : Wp sc (d + 8) 237 0 [(0, .ref 41), (1, vi a1), (2, vi a2)] [] (Wd P Q P P c) 0 0 Z := by
  have hP := iv_P hI
  have hQ := iv_Q hI
  refine q_aload_n rfl rfl (q_iload_n rfl rfl ?_)
  have h_1 := ir_59_g hI (j := 4 * a1) (by first | exact q_9f1d5ffdc ha1 | omega)
  have h_2 := ir_59_g hI (j := 4 * a1 + 1) (by first | exact q_0a2ee6f8f ha1 | omega)
  have h_3 := ir_59_g hI (j := 4 * a1 + 2) (by first | exact q_e07a293a2 ha1 | omega)
  have h_4 := ir_59_g hI (j := 4 * a1 + 3) (by first | exact q_d09cb0b73 ha1 | omega)
  refine v_cv rfl rfl rfl rfl (Nat.le_of_ble_eq_true rfl) ⟨⟨rfl, rfl⟩, Nat.le_of_ble_eq_true rfl, rfl⟩ (Nat.le_of_ble_eq_true rfl) (Nat.le_of_ble_eq_true rfl) (s_187 (v1 := c 59 (4 * a1)) (v2 := c 59 (4 * a1 + 1)) (v3 := c 59 (4 * a1 + 2)) (v4 := c 59 (4 * a1 + 3)) (r := c 59 (4 * a1 + 1) + c 59 (4 * a1 + 2) + c 59 (4 * a1 + 3) + c 59 (4 * a1)) (a1 := a1) hI (show 0 ≤ a1 ∧ a1 ≤ 5 from ha1) (rfl) (rfl) (rfl) (rfl) (by omega) (bk_inl (q_iload_n rfl rfl ?_)))
  by_cases h_5 : c 59 (4 * a1 + 1) + c 59 (4 * a1 + 2) + c 59 (4 * a1 + 3) + c 59 (4 * a1) ≥ a2
  · refine v_ic_ge_t (t := 17) rfl rfl ⟨ha2.1, h_5, by first | exact q_db9ef1f4a h_1 h_2 h_3 h_4 | omega⟩ (q_iload_n rfl rfl (q_iret rfl rfl ?_))
    exact K a2 ha2
  · refine v_ic_ge_f (t := 17) rfl rfl ⟨by first | exact q_e052ef40e h_1 h_2 h_3 h_4 | omega, (Int.not_le.mp h_5), ha2.2⟩ (q_aload_n rfl rfl (q_iload_n rfl rfl (v_cv rfl rfl rfl rfl (Nat.le_of_ble_eq_true rfl) ⟨⟨rfl, rfl⟩, Nat.le_of_ble_eq_true rfl, rfl⟩ (Nat.le_of_ble_eq_true rfl) (Nat.le_of_ble_eq_true rfl) (s_187 (v1 := c 59 (4 * a1)) (v2 := c 59 (4 * a1 + 1)) (v3 := c 59 (4 * a1 + 2)) (v4 := c 59 (4 * a1 + 3)) (r := c 59 (4 * a1 + 1) + c 59 (4 * a1 + 2) + c 59 (4 * a1 + 3) + c 59 (4 * a1)) (a1 := a1) hI (show 0 ≤ a1 ∧ a1 ≤ 5 from ha1) (rfl) (rfl) (rfl) (rfl) (by omega) (bk_inl (q_goto (t := 18) rfl rfl (q_iret rfl rfl ?_)))))))
    exact K (c 59 (4 * a1 + 1) + c 59 (4 * a1 + 2) + c 59 (4 * a1 + 3) + c 59 (4 * a1)) ⟨by first | exact q_e052ef40e h_1 h_2 h_3 h_4 | omega, by first | exact q_db9ef1f4a h_1 h_2 h_3 h_4 | omega⟩

set_option maxRecDepth 100000 in
set_option maxHeartbeats 4000000 in
theorem s_238_l {sc : List Int32} {e : Int} {d u P Q : Nat} {c : ME} {a1 : Int} {a2 : Int} {Z : AR → Prop} (hI : Iv u e P Q c) (ha1 : (-2147483648) ≤ a1 ∧ a1 ≤ 2147483647) (ha2 : (-2147483648) ≤ a2 ∧ a2 ≤ 2147483647) (K : ∀ (y : Int), (-2147483648) ≤ y ∧ y ≤ 2147483647 → Z (.inl (some (vi y)), Wd P Q P P c, 0, 0)) : ∀ n : Nat, (∀ (v3 : Int) (v4 : Int), (-2147483648) ≤ v3 ∧ v3 ≤ 2147483647 → 0 ≤ v4 ∧ v4 ≤ 6 → 13 - 2 * v4 < (n : Int) → Wp sc (d + 9) 238 5 [(0, .ref 41), (1, vi a1), (2, vi a2), (3, vi v3), (4, vi v4)] [] (Wd P Q P P c) 0 0 Z)
  | 0 => by intro v3 v4 hv3 hv4 hm9; have hP := iv_P hI; have hQ := iv_Q hI; exfalso; omega
  | n + 1 => by
    have hP := iv_P hI
    have hQ := iv_Q hI
    have ih := s_238_l (sc := sc) (d := d) hI ha1 ha2 K n
    intro v3 v4 hv3 hv4 hm9
    refine q_iload rfl rfl (q_aload_n rfl rfl ?_)
    have h_1 := ir_41_20 hI
    refine v_gi (z := 20) (v := c 41 20) rfl rfl rfl (Nat.le_of_ble_eq_true rfl) rfl rfl rfl ?_
    by_cases h_2 : v4 ≥ c 41 20
    · refine v_ic_ge_t (t := 37) rfl rfl ⟨(Int.le_trans (by decide) h_1.1), h_2, (Int.le_trans hv4.2 (by decide))⟩ (q_iload_n rfl rfl (q_iret rfl rfl ?_))
      exact K v3 hv3
    · refine v_ic_ge_f (t := 37) rfl rfl ⟨(Int.le_trans (by decide) hv4.1), (Int.not_le.mp h_2), (Int.le_trans h_1.2 (by decide))⟩ (q_iload_n rfl rfl (q_iload_n rfl rfl (q_iload rfl rfl (v_ishrx rfl (fun y_3 hy_3 => (q_iconst rfl (v_iandx rfl (fun y_4 hy_4 => (q_aload_n rfl rfl ?_)))))))))
      refine q_iload rfl rfl (q_iload_n rfl rfl (v_cv rfl rfl rfl rfl (Nat.le_of_ble_eq_true rfl) ⟨⟨rfl, rfl⟩, Nat.le_of_ble_eq_true rfl, rfl⟩ (Nat.le_of_ble_eq_true rfl) (Nat.le_of_ble_eq_true rfl) (s_237 (a1 := v4) (a2 := a2) hI (show 0 ≤ v4 ∧ v4 ≤ 5 from ⟨hv4.1, by first | exact q_d63a8538e h_1 h_2 | omega⟩) (show (-2147483648) ≤ a2 ∧ a2 ≤ 2147483647 from ha2) (fun y_5 hy_5 => (bk_inl (v_imul (v := (y_4 * y_5)) rfl rfl (v_nrm (fun y_6 hy_6 => (v_iadd (v := v3 + y_6) rfl rfl (v_nrm (fun y_7 hy_7 => ?_)))))))))))
      refine q_istore_n rfl (Nat.le_of_ble_eq_true rfl) (v_iinc (v := v4 + 1) rfl rfl (Nat.le_of_ble_eq_true rfl) rfl (q_goto (t := 5) rfl rfl (Wp_ls [(0, .ref 41), (1, vi a1), (2, vi a2), (3, vi y_7), (4, vi (v4 + 1))] (lsub_cons rfl (lsub_cons rfl (lsub_cons rfl (lsub_cons rfl (lsub_cons rfl lsub_nil))))) ?_)))
      exact ih y_7 (v4 + 1) hy_7 ⟨by first | exact rgp_l hv4.1 (by decide) | omega, by first | exact q_4a76cd9c7 h_1 h_2 | omega⟩ (by omega)
set_option maxRecDepth 100000 in
set_option maxHeartbeats 4000000 in
theorem s_238 {sc : List Int32} {e : Int} {d u P Q : Nat} {c : ME} {a1 : Int} {a2 : Int} {Z : AR → Prop} (hI : Iv u e P Q c) (ha1 : (-2147483648) ≤ a1 ∧ a1 ≤ 2147483647) (ha2 : (-2147483648) ≤ a2 ∧ a2 ≤ 2147483647) (K : ∀ (y : Int), (-2147483648) ≤ y ∧ y ≤ 2147483647 → Z (.inl (some (vi y)), Wd P Q P P c, 0, 0)) : Wp sc (d + 9) 238 0 [(0, .ref 41), (1, vi a1), (2, vi a2)] [] (Wd P Q P P c) 0 0 Z := by
  have hP := iv_P hI
  have hQ := iv_Q hI
  refine q_iconst rfl (q_istore_n rfl (Nat.le_of_ble_eq_true rfl) (q_iconst rfl (q_istore rfl (Nat.le_of_ble_eq_true rfl) (Wp_ls [(0, .ref 41), (1, vi a1), (2, vi a2), (3, vi 0), (4, vi 0)] (lsub_cons rfl (lsub_cons rfl (lsub_cons rfl (lsub_cons rfl (lsub_cons rfl lsub_nil))))) ?_))))
  exact (s_238_l (sc := sc) (d := d) hI ha1 ha2 K 16) 0 0 ⟨by decide, by decide⟩ ⟨by decide, by decide⟩ (by omega)

set_option maxRecDepth 100000 in
set_option maxHeartbeats 4000000 in
theorem s_239_l {sc : List Int32} {d P Q : Nat} {c : ME} {a1 : Int} {a2 : Int} {a3 : Int} {Z : AR → Prop} (hI : Iv 0 (-1) P Q c) (ha1 : (-2147483648) ≤ a1 ∧ a1 ≤ 2147483647) (ha2 : (-2147483648) ≤ a2 ∧ a2 ≤ 2147483647) (ha3 : (-2147483648) ≤ a3 ∧ a3 ≤ 2147483647) (K : ∀ (c2 : ME) (y : Int), Iv 0 (-1) P Q c2 → (∀ (a : Nat) (j : Int), ¬ ((a = 41 ∧ j = 0) ∨ a = 42 ∨ a = 59) → c2 a j = c a j) → (-2147483648) ≤ y ∧ y ≤ 2147483647 → Z (.inl (some (vi y)), Wd P Q P P c2, 0, 0)) : ∀ n : Nat, (∀ (c2 : ME) (v4 : Int) (v5 : Int), Iv 0 (-1) P Q c2 → (∀ (a : Nat) (j : Int), ¬ ((a = 41 ∧ j = 0) ∨ a = 42 ∨ a = 59) → c2 a j = c a j) → 0 ≤ v4 ∧ v4 ≤ 9999 → 0 ≤ v5 ∧ v5 ≤ 8192 → ((a1 ≥ 0 ∧ a1 ≤ 5)) → 20003 * v5 + 20002 < (n : Int) → Wp sc (d + 10) 239 66 [(0, .ref 41), (1, vi a1), (2, vi a2), (3, vi a3), (4, vi v4), (5, vi v5)] [] (Wd P Q P P c2) 0 0 Z) ∧ (∀ (c2 : ME) (v4 : Int) (v5 : Int), Iv 0 (-1) P Q c2 → (∀ (a : Nat) (j : Int), ¬ ((a = 41 ∧ j = 0) ∨ a = 42 ∨ a = 59) → c2 a j = c a j) → 0 ≤ v4 ∧ v4 ≤ 9999 → 1 ≤ v5 ∧ v5 ≤ 8192 → ((a1 ≥ 0 ∧ a1 ≤ 5)) → 2 * v4 + 20003 * v5 + 1 < (n : Int) → Wp sc (d + 10) 239 71 [(0, .ref 41), (1, vi a1), (2, vi a2), (3, vi a3), (4, vi v4), (5, vi v5)] [] (Wd P Q P P c2) 0 0 Z)
  | 0 => by exact ⟨by (intro c2 v4 v5 hI2 hF hv4 hv5 hx0 hm9; have hP := iv_P hI; have hQ := iv_Q hI; exfalso; omega), by (intro c2 v4 v5 hI2 hF hv4 hv5 hx0 hm9; have hP := iv_P hI; have hQ := iv_Q hI; exfalso; omega)⟩
  | n + 1 => by
    have hP := iv_P hI
    have hQ := iv_Q hI
    have ih := s_239_l (sc := sc) (d := d) hI ha1 ha2 ha3 K n
    refine ⟨?_, ?_⟩
    · skip
      intro c2 v4 v5 hI2 hF hv4 hv5 hx0 hm9
      refine q_iload rfl rfl ?_
      by_cases h_1 : v5 ≤ 0
      · refine v_if_le_t (t := 114) rfl rfl ⟨(Int.le_trans (by decide) hv5.1), h_1, by decide⟩ (q_aload_n rfl rfl (q_iload_n rfl rfl (q_iload rfl rfl (v_cv rfl rfl rfl rfl (Nat.le_of_ble_eq_true rfl) ⟨⟨rfl, rfl⟩, Nat.le_of_ble_eq_true rfl, rfl⟩ (Nat.le_of_ble_eq_true rfl) (Nat.le_of_ble_eq_true rfl) (s_238 (a1 := a2) (a2 := v4) hI2 (show (-2147483648) ≤ a2 ∧ a2 ≤ 2147483647 from ha2) (show (-2147483648) ≤ v4 ∧ v4 ≤ 2147483647 from ⟨(Int.le_trans (by decide) hv4.1), (Int.le_trans hv4.2 (by decide))⟩) (fun y_2 hy_2 => (bk_inl (q_iload_n rfl rfl ?_))))))))
        by_cases h_3 : y_2 ≤ a3
        · refine v_ic_le_t (t := 128) rfl rfl ⟨hy_2.1, h_3, ha3.2⟩ (q_iload_n rfl rfl (q_iload_n rfl rfl (v_ishrx rfl (fun y_4 hy_4 => (q_iconst rfl (v_iandx rfl (fun y_5 hy_5 => ?_)))))))
          by_cases h_6 : y_5 ≠ 0
          · refine v_if_ne_t (t := 140) rfl rfl ⟨h_6, ⟨hy_5.1, hy_5.2⟩, by decide, by decide⟩ (q_aload_n rfl rfl (q_iload_n rfl rfl (q_iload rfl rfl (v_cv rfl rfl rfl rfl (Nat.le_of_ble_eq_true rfl) ⟨⟨rfl, rfl⟩, Nat.le_of_ble_eq_true rfl, rfl⟩ (Nat.le_of_ble_eq_true rfl) (Nat.le_of_ble_eq_true rfl) (s_237 (a1 := a1) (a2 := v4) hI2 (show 0 ≤ a1 ∧ a1 ≤ 5 from ⟨by first | (clear ha1 ha2 ha3 hv4 hv5 h_1 h_3 h_6; omega) | omega, by first | (clear ha1 ha2 ha3 hv4 hv5 h_1 h_3 h_6; omega) | omega⟩) (show (-2147483648) ≤ v4 ∧ v4 ≤ 2147483647 from ⟨(Int.le_trans (by decide) hv4.1), (Int.le_trans hv4.2 (by decide))⟩) (fun y_7 hy_7 => (bk_inl (q_iret rfl rfl ?_))))))))
            exact K c2 y_7 hI2 (fun a j hm => hF a j (fun q => q.elim (fun h => hm (Or.inl h)) (fun q => q.elim (fun h => hm (Or.inr (Or.inl h))) (fun h => hm (Or.inr (Or.inr h)))))) hy_7
          · refine v_if_ne_f (t := 140) rfl rfl (Decidable.not_not.mp h_6) (q_iconst rfl (q_goto (t := 147) rfl rfl (q_iret rfl rfl ?_)))
            exact K c2 0 hI2 (fun a j hm => hF a j (fun q => q.elim (fun h => hm (Or.inl h)) (fun q => q.elim (fun h => hm (Or.inr (Or.inl h))) (fun h => hm (Or.inr (Or.inr h)))))) ⟨by decide, by decide⟩
        · refine v_ic_le_f (t := 128) rfl rfl ⟨ha3.1, (Int.not_le.mp h_3), hy_2.2⟩ (v_iinc (v := v4 - 1) rfl rfl (Nat.le_of_ble_eq_true rfl) (by omega) (q_iload_n rfl rfl (q_iload_n rfl rfl (v_ishrx rfl (fun y_8 hy_8 => (q_iconst rfl (v_iandx rfl (fun y_9 hy_9 => ?_))))))))
          by_cases h_10 : y_9 ≠ 0
          · refine v_if_ne_t (t := 140) rfl rfl ⟨h_10, ⟨hy_9.1, hy_9.2⟩, by decide, by decide⟩ (q_aload_n rfl rfl (q_iload_n rfl rfl (q_iload rfl rfl (v_cv rfl rfl rfl rfl (Nat.le_of_ble_eq_true rfl) ⟨⟨rfl, rfl⟩, Nat.le_of_ble_eq_true rfl, rfl⟩ (Nat.le_of_ble_eq_true rfl) (Nat.le_of_ble_eq_true rfl) (s_237 (a1 := a1) (a2 := v4 - 1) hI2 (show 0 ≤ a1 ∧ a1 ≤ 5 from ⟨by first | (clear ha1 ha2 ha3 hv4 hv5 h_1 h_3 h_10; omega) | omega, by first | (clear ha1 ha2 ha3 hv4 hv5 h_1 h_3 h_10; omega) | omega⟩) (show (-2147483648) ≤ v4 - 1 ∧ v4 - 1 ≤ 2147483647 from ⟨by first | exact rgm_l hv4.1 (by decide) | omega, by first | exact rgm_h hv4.2 (by decide) | omega⟩) (fun y_11 hy_11 => (bk_inl (q_iret rfl rfl ?_))))))))
            exact K c2 y_11 hI2 (fun a j hm => hF a j (fun q => q.elim (fun h => hm (Or.inl h)) (fun q => q.elim (fun h => hm (Or.inr (Or.inl h))) (fun h => hm (Or.inr (Or.inr h)))))) hy_11
          · refine v_if_ne_f (t := 140) rfl rfl (Decidable.not_not.mp h_10) (q_iconst rfl (q_goto (t := 147) rfl rfl (q_iret rfl rfl ?_)))
            exact K c2 0 hI2 (fun a j hm => hF a j (fun q => q.elim (fun h => hm (Or.inl h)) (fun q => q.elim (fun h => hm (Or.inr (Or.inl h))) (fun h => hm (Or.inr (Or.inr h)))))) ⟨by decide, by decide⟩
      · refine v_if_le_f (t := 114) rfl rfl ⟨by decide, (Int.not_le.mp h_1), (Int.le_trans hv5.2 (by decide))⟩ (Wp_ls [(0, .ref 41), (1, vi a1), (2, vi a2), (3, vi a3), (4, vi v4), (5, vi v5)] (lsub_cons rfl (lsub_cons rfl (lsub_cons rfl (lsub_cons rfl (lsub_cons rfl (lsub_cons rfl lsub_nil)))))) ?_)
        exact ih.2 c2 v4 v5 hI2 (fun a j hm => hF a j (fun q => q.elim (fun h => hm (Or.inl h)) (fun q => q.elim (fun h => hm (Or.inr (Or.inl h))) (fun h => hm (Or.inr (Or.inr h)))))) hv4 ⟨by first | exact q_6c49a4ad1 h_1 | omega, hv5.2⟩ ⟨by omega, by omega⟩ (by omega)
    · skip
      intro c2 v4 v5 hI2 hF hv4 hv5 hx0 hm9
      refine q_iload rfl rfl (q_iload rfl rfl (v_isub (v := v4 - v5) rfl rfl ?_))
      by_cases h_12 : v4 - v5 < 0
      · refine v_if_lt_t (t := 105) rfl rfl ⟨by first | exact q_a78c53710 hv4 hv5 | omega, h_12, by decide⟩ (q_iload rfl rfl (q_iconst rfl (v_idiv (v := (v5 / 2)) rfl (by omega) rfl (q_istore rfl (Nat.le_of_ble_eq_true rfl) (q_goto (t := 66) rfl rfl (Wp_ls [(0, .ref 41), (1, vi a1), (2, vi a2), (3, vi a3), (4, vi v4), (5, vi (v5 / 2))] (lsub_cons rfl (lsub_cons rfl (lsub_cons rfl (lsub_cons rfl (lsub_cons rfl (lsub_cons rfl lsub_nil)))))) ?_))))))
        exact ih.1 c2 v4 (v5 / 2) hI2 (fun a j hm => hF a j (fun q => q.elim (fun h => hm (Or.inl h)) (fun q => q.elim (fun h => hm (Or.inr (Or.inl h))) (fun h => hm (Or.inr (Or.inr h)))))) hv4 ⟨by omega, by omega⟩ ⟨by omega, by omega⟩ (by omega)
      · refine v_if_lt_f (t := 105) rfl rfl ⟨by decide, (Int.not_lt.mp h_12), by first | exact q_03877e6fa hv4 hv5 | omega⟩ (q_aload_n rfl rfl (q_iload_n rfl rfl (q_iload rfl rfl (q_iload rfl rfl (v_isub (v := v4 - v5) rfl rfl (q_iconst rfl (v_iadd (v := v4 - v5 + 1) rfl rfl ?_)))))))
        refine v_cv rfl rfl rfl rfl (Nat.le_of_ble_eq_true rfl) ⟨⟨rfl, rfl⟩, Nat.le_of_ble_eq_true rfl, rfl⟩ (Nat.le_of_ble_eq_true rfl) (Nat.le_of_ble_eq_true rfl) (s_238 (a1 := a2) (a2 := v4 - v5 + 1) hI2 (show (-2147483648) ≤ a2 ∧ a2 ≤ 2147483647 from ha2) (show (-2147483648) ≤ v4 - v5 + 1 ∧ v4 - v5 + 1 ≤ 2147483647 from ⟨by first | exact q_917c27970 h_12 | omega, by first | exact q_fd232b8ec hv4 hv5 | omega⟩) (fun y_13 hy_13 => (bk_inl (q_iload_n rfl rfl ?_))))
        by_cases h_14 : y_13 ≤ a3
        · refine v_ic_le_t (t := 105) rfl rfl ⟨hy_13.1, h_14, ha3.2⟩ (q_iload rfl rfl (q_iconst rfl (v_idiv (v := (v5 / 2)) rfl (by omega) rfl (q_istore rfl (Nat.le_of_ble_eq_true rfl) (q_goto (t := 66) rfl rfl (Wp_ls [(0, .ref 41), (1, vi a1), (2, vi a2), (3, vi a3), (4, vi v4), (5, vi (v5 / 2))] (lsub_cons rfl (lsub_cons rfl (lsub_cons rfl (lsub_cons rfl (lsub_cons rfl (lsub_cons rfl lsub_nil)))))) ?_))))))
          exact ih.1 c2 v4 (v5 / 2) hI2 (fun a j hm => hF a j (fun q => q.elim (fun h => hm (Or.inl h)) (fun q => q.elim (fun h => hm (Or.inr (Or.inl h))) (fun h => hm (Or.inr (Or.inr h)))))) hv4 ⟨by omega, by omega⟩ ⟨by omega, by omega⟩ (by omega)
        · refine v_ic_le_f (t := 105) rfl rfl ⟨ha3.1, (Int.not_le.mp h_14), hy_13.2⟩ (q_iload rfl rfl (q_iload rfl rfl (v_isub (v := v4 - v5) rfl rfl (q_istore rfl (Nat.le_of_ble_eq_true rfl) (q_goto (t := 71) rfl rfl (Wp_ls [(0, .ref 41), (1, vi a1), (2, vi a2), (3, vi a3), (4, vi (v4 - v5)), (5, vi v5)] (lsub_cons rfl (lsub_cons rfl (lsub_cons rfl (lsub_cons rfl (lsub_cons rfl (lsub_cons rfl lsub_nil)))))) ?_))))))
          exact ih.2 c2 (v4 - v5) v5 hI2 (fun a j hm => hF a j (fun q => q.elim (fun h => hm (Or.inl h)) (fun q => q.elim (fun h => hm (Or.inr (Or.inl h))) (fun h => hm (Or.inr (Or.inr h)))))) ⟨by first | exact q_5548e48fb h_12 | omega, by first | exact q_93f9cdf35 hv4 hv5 | omega⟩ hv5 ⟨by omega, by omega⟩ (by omega)
set_option maxRecDepth 100000 in
set_option maxHeartbeats 4000000 in
theorem s_239 {sc : List Int32} {d P Q : Nat} {c : ME} {a1 : Int} {a2 : Int} {a3 : Int} {Z : AR → Prop} (hI : Iv 0 (-1) P Q c) (ha1 : (-2147483648) ≤ a1 ∧ a1 ≤ 2147483647) (ha2 : (-2147483648) ≤ a2 ∧ a2 ≤ 2147483647) (ha3 : (-2147483648) ≤ a3 ∧ a3 ≤ 2147483647) (K : ∀ (c2 : ME) (y : Int), Iv 0 (-1) P Q c2 → (∀ (a : Nat) (j : Int), ¬ ((a = 41 ∧ j = 0) ∨ a = 42 ∨ a = 59) → c2 a j = c a j) → (-2147483648) ≤ y ∧ y ≤ 2147483647 → Z (.inl (some (vi y)), Wd P Q P P c2, 0, 0)) : Wp sc (d + 10) 239 0 [(0, .ref 41), (1, vi a1), (2, vi a2), (3, vi a3)] [] (Wd P Q P P c) 0 0 Z := by
  have hP := iv_P hI
  have hQ := iv_Q hI
  refine q_aload_n rfl rfl (q_iconst rfl (v_pi (z := 0) rfl rfl rfl (Nat.le_of_ble_eq_true rfl) rfl rfl rfl (by decide) (q_aload_n rfl rfl (q_iload_n rfl rfl (q_aload_n rfl rfl ?_)))))
  have h_15 := ir_41_20 hI
  refine v_gi (z := 20) (v := c 41 20) rfl rfl rfl (Nat.le_of_ble_eq_true rfl) rfl rfl (up_n (by decide)) (v_cv rfl rfl rfl rfl (Nat.le_of_ble_eq_true rfl) ⟨⟨rfl, rfl⟩, Nat.le_of_ble_eq_true rfl, rfl⟩ (Nat.le_of_ble_eq_true rfl) (Nat.le_of_ble_eq_true rfl) (q_aload_n rfl rfl (q_iload_n rfl rfl (q_iconst rfl (q_iload_n rfl rfl (q_iconst rfl (v_isub (v := c 41 20 - 1) rfl rfl ?_)))))))
  refine q_call rfl rfl rfl rfl (q_iload_n rfl rfl (q_iload_n rfl rfl ?_))
  by_cases h_16 : a1 < 0
  · refine v_ic_lt_t (t := 14) rfl rfl ⟨ha1.1, h_16, by decide⟩ (q_iconst rfl (v_zret rfl rfl (by decide) (bk_inl (q_iconst rfl (q_iconst rfl (v_cv rfl rfl rfl rfl (Nat.le_of_ble_eq_true rfl) ⟨⟨rfl, rfl⟩, Nat.le_of_ble_eq_true rfl, rfl⟩ (Nat.le_of_ble_eq_true rfl) (Nat.le_of_ble_eq_true rfl) (q_iload_n rfl rfl ?_)))))))
    refine v_if_ne_f (t := 26) rfl rfl (by decide) (q_aload_n rfl rfl (v_gi (z := 0) (v := 0) rfl rfl rfl (Nat.le_of_ble_eq_true rfl) rfl rfl (up_e rfl) (v_if_ne_f (t := 26) rfl rfl (by decide) (q_aload_n rfl rfl (q_iload_n rfl rfl (v_pi (z := 0) rfl rfl rfl (Nat.le_of_ble_eq_true rfl) rfl rfl rfl (by decide) (q_aload_n rfl rfl ?_)))))))
    refine v_gr (t := 42) rfl rfl rfl (Nat.le_of_ble_eq_true rfl) rfl (q_iload_n rfl rfl (q_dup2 rfl ⟨rfl, rfl⟩ ?_))
    have h_17 := ir_42 hI 0
    refine v_ia (v := c 42 0) rfl rfl (by decide) (by decide) (by decide) ((up_c (nn rfl)).trans (up_c (nn rfl))) (q_iconst rfl (v_iadd (v := c 42 0 + 1) rfl rfl (v_nrm (fun y_18 hy_18 => (v_is rfl rfl (by decide) (by decide) (by decide) (q_aload_n rfl rfl (v_gi (z := 0) (v := 1) rfl rfl rfl (Nat.le_of_ble_eq_true rfl) rfl rfl ((up_c (nn rfl)).trans (up_e rfl)) (v_if_ne_t (t := 37) rfl rfl (by decide) ?_))))))))
    refine q_iconst rfl (v_zret rfl rfl (by decide) (bk_inl (v_zret rfl rfl (by decide) (bk_inl (v_if_eq_t (t := 50) rfl rfl (by decide) (q_iconst rfl (q_iret rfl rfl ?_)))))))
    have hI_19 := iw_41_0 (v := 0) hI ⟨by decide, by decide⟩
    have hI_20 := iw_41_0 (v := 1) hI_19 ⟨by decide, by decide⟩
    have hI_21 := iw_42 (j := 0) (v := y_18) hI_20 ⟨hy_18.1, hy_18.2⟩
    exact K (up (up (up c 41 0 0) 41 0 1) 42 0 y_18) 0 hI_21 (fun a j hm => (up_b (Decidable.or_iff_not_imp_left.mpr (fun h1 h2 => hm (Or.inr (Or.inl (Decidable.not_not.mp h1)))))).trans ((up_b (Decidable.or_iff_not_imp_left.mpr (fun h1 h2 => hm (Or.inl ⟨Decidable.not_not.mp h1, h2⟩)))).trans (up_b (Decidable.or_iff_not_imp_left.mpr (fun h1 h2 => hm (Or.inl ⟨Decidable.not_not.mp h1, h2⟩)))))) ⟨by decide, by decide⟩
  · refine v_ic_lt_f (t := 14) rfl rfl ⟨by decide, (Int.not_lt.mp h_16), ha1.2⟩ (q_iload_n rfl rfl (q_iload_n rfl rfl ?_))
    by_cases h_22 : a1 > c 41 20 - 1
    · refine v_ic_gt_t (t := 14) rfl rfl ⟨by first | exact rgm_l h_15.1 (by decide) | omega, h_22, ha1.2⟩ (q_iconst rfl (v_zret rfl rfl (by decide) (bk_inl (q_iconst rfl (q_iconst rfl (v_cv rfl rfl rfl rfl (Nat.le_of_ble_eq_true rfl) ⟨⟨rfl, rfl⟩, Nat.le_of_ble_eq_true rfl, rfl⟩ (Nat.le_of_ble_eq_true rfl) (Nat.le_of_ble_eq_true rfl) (q_iload_n rfl rfl ?_)))))))
      refine v_if_ne_f (t := 26) rfl rfl (by decide) (q_aload_n rfl rfl (v_gi (z := 0) (v := 0) rfl rfl rfl (Nat.le_of_ble_eq_true rfl) rfl rfl (up_e rfl) (v_if_ne_f (t := 26) rfl rfl (by decide) (q_aload_n rfl rfl (q_iload_n rfl rfl (v_pi (z := 0) rfl rfl rfl (Nat.le_of_ble_eq_true rfl) rfl rfl rfl (by decide) (q_aload_n rfl rfl ?_)))))))
      refine v_gr (t := 42) rfl rfl rfl (Nat.le_of_ble_eq_true rfl) rfl (q_iload_n rfl rfl (q_dup2 rfl ⟨rfl, rfl⟩ ?_))
      have h_23 := ir_42 hI 0
      refine v_ia (v := c 42 0) rfl rfl (by decide) (by decide) (by decide) ((up_c (nn rfl)).trans (up_c (nn rfl))) (q_iconst rfl (v_iadd (v := c 42 0 + 1) rfl rfl (v_nrm (fun y_24 hy_24 => (v_is rfl rfl (by decide) (by decide) (by decide) (q_aload_n rfl rfl (v_gi (z := 0) (v := 1) rfl rfl rfl (Nat.le_of_ble_eq_true rfl) rfl rfl ((up_c (nn rfl)).trans (up_e rfl)) (v_if_ne_t (t := 37) rfl rfl (by decide) ?_))))))))
      refine q_iconst rfl (v_zret rfl rfl (by decide) (bk_inl (v_zret rfl rfl (by decide) (bk_inl (v_if_eq_t (t := 50) rfl rfl (by decide) (q_iconst rfl (q_iret rfl rfl ?_)))))))
      have hI_25 := iw_41_0 (v := 0) hI ⟨by decide, by decide⟩
      have hI_26 := iw_41_0 (v := 1) hI_25 ⟨by decide, by decide⟩
      have hI_27 := iw_42 (j := 0) (v := y_24) hI_26 ⟨hy_24.1, hy_24.2⟩
      exact K (up (up (up c 41 0 0) 41 0 1) 42 0 y_24) 0 hI_27 (fun a j hm => (up_b (Decidable.or_iff_not_imp_left.mpr (fun h1 h2 => hm (Or.inr (Or.inl (Decidable.not_not.mp h1)))))).trans ((up_b (Decidable.or_iff_not_imp_left.mpr (fun h1 h2 => hm (Or.inl ⟨Decidable.not_not.mp h1, h2⟩)))).trans (up_b (Decidable.or_iff_not_imp_left.mpr (fun h1 h2 => hm (Or.inl ⟨Decidable.not_not.mp h1, h2⟩)))))) ⟨by decide, by decide⟩
    · refine v_ic_gt_f (t := 14) rfl rfl ⟨ha1.1, (Int.not_lt.mp h_22), by first | exact rgm_h h_15.2 (by decide) | omega⟩ (q_iconst rfl (q_goto (t := 15) rfl rfl (v_zret rfl rfl (by decide) (bk_inl (q_iconst rfl (q_iconst rfl (v_cv rfl rfl rfl rfl (Nat.le_of_ble_eq_true rfl) ⟨⟨rfl, rfl⟩, Nat.le_of_ble_eq_true rfl, rfl⟩ (Nat.le_of_ble_eq_true rfl) (Nat.le_of_ble_eq_true rfl) ?_)))))))
      refine q_iload_n rfl rfl (v_if_ne_t (t := 26) rfl rfl (by decide) (q_aload_n rfl rfl (v_gi (z := 0) (v := 0) rfl rfl rfl (Nat.le_of_ble_eq_true rfl) rfl rfl (up_e rfl) (v_if_ne_f (t := 37) rfl rfl (by decide) (q_iconst rfl (q_goto (t := 38) rfl rfl (v_zret rfl rfl (by decide) ?_)))))))
      refine bk_inl (v_zret rfl rfl (by decide) (bk_inl (v_if_eq_f (t := 50) rfl rfl (by decide) (q_aload_n rfl rfl (q_aload_n rfl rfl (q_iload_n rfl rfl (v_cv rfl rfl rfl rfl (Nat.le_of_ble_eq_true rfl) ⟨⟨rfl, rfl⟩, Nat.le_of_ble_eq_true rfl, rfl⟩ (Nat.le_of_ble_eq_true rfl) (Nat.le_of_ble_eq_true rfl) ?_)))))))
      refine q_iload_n rfl rfl ?_
      by_cases h_28 : a2 < 0
      · refine v_if_lt_t (t := 18) rfl rfl ⟨ha2.1, h_28, by decide⟩ (q_iconst rfl (v_zret rfl rfl (by decide) (bk_inl (v_if_eq_t (t := 41) rfl rfl (by decide) (q_iconst rfl (q_iconst rfl (q_iconst rfl ?_)))))))
        refine v_cv rfl rfl rfl rfl (Nat.le_of_ble_eq_true rfl) ⟨⟨rfl, rfl⟩, Nat.le_of_ble_eq_true rfl, rfl⟩ (Nat.le_of_ble_eq_true rfl) (Nat.le_of_ble_eq_true rfl) (q_iload_n rfl rfl (v_if_ne_f (t := 26) rfl rfl (by decide) (q_aload_n rfl rfl (v_gi (z := 0) (v := 0) rfl rfl rfl (Nat.le_of_ble_eq_true rfl) rfl rfl (up_e rfl) (v_if_ne_f (t := 26) rfl rfl (by decide) (q_aload_n rfl rfl (q_iload_n rfl rfl ?_)))))))
        refine v_pi (z := 0) rfl rfl rfl (Nat.le_of_ble_eq_true rfl) rfl rfl rfl (by decide) (q_aload_n rfl rfl (v_gr (t := 42) rfl rfl rfl (Nat.le_of_ble_eq_true rfl) rfl (q_iload_n rfl rfl (q_dup2 rfl ⟨rfl, rfl⟩ ?_))))
        have h_29 := ir_42 hI 1
        refine v_ia (v := c 42 1) rfl rfl (by decide) (by decide) (by decide) ((up_c (nn rfl)).trans (up_c (nn rfl))) (q_iconst rfl (v_iadd (v := c 42 1 + 1) rfl rfl (v_nrm (fun y_30 hy_30 => (v_is rfl rfl (by decide) (by decide) (by decide) (q_aload_n rfl rfl (v_gi (z := 0) (v := 2) rfl rfl rfl (Nat.le_of_ble_eq_true rfl) rfl rfl ((up_c (nn rfl)).trans (up_e rfl)) (v_if_ne_t (t := 37) rfl rfl (by decide) ?_))))))))
        refine q_iconst rfl (v_zret rfl rfl (by decide) (bk_inl (v_if_ne_f (t := 52) rfl rfl (by decide) (q_iconst rfl (q_iret rfl rfl ?_)))))
        have hI_31 := iw_41_0 (v := 0) hI ⟨by decide, by decide⟩
        have hI_32 := iw_41_0 (v := 2) hI_31 ⟨by decide, by decide⟩
        have hI_33 := iw_42 (j := 1) (v := y_30) hI_32 ⟨hy_30.1, hy_30.2⟩
        exact K (up (up (up c 41 0 0) 41 0 2) 42 1 y_30) 0 hI_33 (fun a j hm => (up_b (Decidable.or_iff_not_imp_left.mpr (fun h1 h2 => hm (Or.inr (Or.inl (Decidable.not_not.mp h1)))))).trans ((up_b (Decidable.or_iff_not_imp_left.mpr (fun h1 h2 => hm (Or.inl ⟨Decidable.not_not.mp h1, h2⟩)))).trans (up_b (Decidable.or_iff_not_imp_left.mpr (fun h1 h2 => hm (Or.inl ⟨Decidable.not_not.mp h1, h2⟩)))))) ⟨by decide, by decide⟩
      · refine v_if_lt_f (t := 18) rfl rfl ⟨by decide, (Int.not_lt.mp h_28), ha2.2⟩ (q_iload_n rfl rfl (q_iconst rfl (q_aload_n rfl rfl (v_gi (z := 20) (v := c 41 20) rfl rfl rfl (Nat.le_of_ble_eq_true rfl) rfl rfl (up_n (by decide)) (v_shl1 rfl ⟨by omega, by omega⟩ (fun y_34 hy_34 => ?_))))))
        by_cases h_35 : a2 ≥ y_34
        · refine v_ic_ge_t (t := 18) rfl rfl ⟨(Int.le_trans (by decide) hy_34.1), h_35, ha2.2⟩ (q_iconst rfl (v_zret rfl rfl (by decide) (bk_inl (v_if_eq_t (t := 41) rfl rfl (by decide) (q_iconst rfl (q_iconst rfl (q_iconst rfl ?_)))))))
          refine v_cv rfl rfl rfl rfl (Nat.le_of_ble_eq_true rfl) ⟨⟨rfl, rfl⟩, Nat.le_of_ble_eq_true rfl, rfl⟩ (Nat.le_of_ble_eq_true rfl) (Nat.le_of_ble_eq_true rfl) (q_iload_n rfl rfl (v_if_ne_f (t := 26) rfl rfl (by decide) (q_aload_n rfl rfl (v_gi (z := 0) (v := 0) rfl rfl rfl (Nat.le_of_ble_eq_true rfl) rfl rfl (up_e rfl) (v_if_ne_f (t := 26) rfl rfl (by decide) (q_aload_n rfl rfl (q_iload_n rfl rfl ?_)))))))
          refine v_pi (z := 0) rfl rfl rfl (Nat.le_of_ble_eq_true rfl) rfl rfl rfl (by decide) (q_aload_n rfl rfl (v_gr (t := 42) rfl rfl rfl (Nat.le_of_ble_eq_true rfl) rfl (q_iload_n rfl rfl (q_dup2 rfl ⟨rfl, rfl⟩ ?_))))
          have h_36 := ir_42 hI 1
          refine v_ia (v := c 42 1) rfl rfl (by decide) (by decide) (by decide) ((up_c (nn rfl)).trans (up_c (nn rfl))) (q_iconst rfl (v_iadd (v := c 42 1 + 1) rfl rfl (v_nrm (fun y_37 hy_37 => (v_is rfl rfl (by decide) (by decide) (by decide) (q_aload_n rfl rfl (v_gi (z := 0) (v := 2) rfl rfl rfl (Nat.le_of_ble_eq_true rfl) rfl rfl ((up_c (nn rfl)).trans (up_e rfl)) (v_if_ne_t (t := 37) rfl rfl (by decide) ?_))))))))
          refine q_iconst rfl (v_zret rfl rfl (by decide) (bk_inl (v_if_ne_f (t := 52) rfl rfl (by decide) (q_iconst rfl (q_iret rfl rfl ?_)))))
          have hI_38 := iw_41_0 (v := 0) hI ⟨by decide, by decide⟩
          have hI_39 := iw_41_0 (v := 2) hI_38 ⟨by decide, by decide⟩
          have hI_40 := iw_42 (j := 1) (v := y_37) hI_39 ⟨hy_37.1, hy_37.2⟩
          exact K (up (up (up c 41 0 0) 41 0 2) 42 1 y_37) 0 hI_40 (fun a j hm => (up_b (Decidable.or_iff_not_imp_left.mpr (fun h1 h2 => hm (Or.inr (Or.inl (Decidable.not_not.mp h1)))))).trans ((up_b (Decidable.or_iff_not_imp_left.mpr (fun h1 h2 => hm (Or.inl ⟨Decidable.not_not.mp h1, h2⟩)))).trans (up_b (Decidable.or_iff_not_imp_left.mpr (fun h1 h2 => hm (Or.inl ⟨Decidable.not_not.mp h1, h2⟩)))))) ⟨by decide, by decide⟩
        · refine v_ic_ge_f (t := 18) rfl rfl ⟨ha2.1, (Int.not_le.mp h_35), (Int.le_trans hy_34.2 (by decide))⟩ (q_iconst rfl (q_goto (t := 19) rfl rfl (v_zret rfl rfl (by decide) (bk_inl (v_if_eq_f (t := 41) rfl rfl (by decide) (q_iload_n rfl rfl (q_iconst rfl ?_)))))))
          refine v_ldcw (n := 99999) rfl rfl (by decide +kernel) (q_call rfl rfl rfl rfl (q_iload_n rfl rfl (q_iload_n rfl rfl ?_)))
          by_cases h_41 : a3 < 0
          · refine v_ic_lt_t (t := 14) rfl rfl ⟨ha3.1, h_41, by decide⟩ (q_iconst rfl (v_zret rfl rfl (by decide) (bk_inl (v_if_eq_t (t := 41) rfl rfl (by decide) (q_iconst rfl (q_iconst rfl (q_iconst rfl ?_)))))))
            refine v_cv rfl rfl rfl rfl (Nat.le_of_ble_eq_true rfl) ⟨⟨rfl, rfl⟩, Nat.le_of_ble_eq_true rfl, rfl⟩ (Nat.le_of_ble_eq_true rfl) (Nat.le_of_ble_eq_true rfl) (q_iload_n rfl rfl (v_if_ne_f (t := 26) rfl rfl (by decide) (q_aload_n rfl rfl (v_gi (z := 0) (v := 0) rfl rfl rfl (Nat.le_of_ble_eq_true rfl) rfl rfl (up_e rfl) (v_if_ne_f (t := 26) rfl rfl (by decide) (q_aload_n rfl rfl (q_iload_n rfl rfl ?_)))))))
            refine v_pi (z := 0) rfl rfl rfl (Nat.le_of_ble_eq_true rfl) rfl rfl rfl (by decide) (q_aload_n rfl rfl (v_gr (t := 42) rfl rfl rfl (Nat.le_of_ble_eq_true rfl) rfl (q_iload_n rfl rfl (q_dup2 rfl ⟨rfl, rfl⟩ ?_))))
            have h_42 := ir_42 hI 1
            refine v_ia (v := c 42 1) rfl rfl (by decide) (by decide) (by decide) ((up_c (nn rfl)).trans (up_c (nn rfl))) (q_iconst rfl (v_iadd (v := c 42 1 + 1) rfl rfl (v_nrm (fun y_43 hy_43 => (v_is rfl rfl (by decide) (by decide) (by decide) (q_aload_n rfl rfl (v_gi (z := 0) (v := 2) rfl rfl rfl (Nat.le_of_ble_eq_true rfl) rfl rfl ((up_c (nn rfl)).trans (up_e rfl)) (v_if_ne_t (t := 37) rfl rfl (by decide) ?_))))))))
            refine q_iconst rfl (v_zret rfl rfl (by decide) (bk_inl (v_if_ne_f (t := 52) rfl rfl (by decide) (q_iconst rfl (q_iret rfl rfl ?_)))))
            have hI_44 := iw_41_0 (v := 0) hI ⟨by decide, by decide⟩
            have hI_45 := iw_41_0 (v := 2) hI_44 ⟨by decide, by decide⟩
            have hI_46 := iw_42 (j := 1) (v := y_43) hI_45 ⟨hy_43.1, hy_43.2⟩
            exact K (up (up (up c 41 0 0) 41 0 2) 42 1 y_43) 0 hI_46 (fun a j hm => (up_b (Decidable.or_iff_not_imp_left.mpr (fun h1 h2 => hm (Or.inr (Or.inl (Decidable.not_not.mp h1)))))).trans ((up_b (Decidable.or_iff_not_imp_left.mpr (fun h1 h2 => hm (Or.inl ⟨Decidable.not_not.mp h1, h2⟩)))).trans (up_b (Decidable.or_iff_not_imp_left.mpr (fun h1 h2 => hm (Or.inl ⟨Decidable.not_not.mp h1, h2⟩)))))) ⟨by decide, by decide⟩
          · refine v_ic_lt_f (t := 14) rfl rfl ⟨by decide, (Int.not_lt.mp h_41), ha3.2⟩ (q_iload_n rfl rfl (q_iload_n rfl rfl ?_))
            by_cases h_47 : a3 > 99999
            · refine v_ic_gt_t (t := 14) rfl rfl ⟨by decide, h_47, ha3.2⟩ (q_iconst rfl (v_zret rfl rfl (by decide) (bk_inl (v_if_eq_t (t := 41) rfl rfl (by decide) (q_iconst rfl (q_iconst rfl (q_iconst rfl ?_)))))))
              refine v_cv rfl rfl rfl rfl (Nat.le_of_ble_eq_true rfl) ⟨⟨rfl, rfl⟩, Nat.le_of_ble_eq_true rfl, rfl⟩ (Nat.le_of_ble_eq_true rfl) (Nat.le_of_ble_eq_true rfl) (q_iload_n rfl rfl (v_if_ne_f (t := 26) rfl rfl (by decide) (q_aload_n rfl rfl (v_gi (z := 0) (v := 0) rfl rfl rfl (Nat.le_of_ble_eq_true rfl) rfl rfl (up_e rfl) (v_if_ne_f (t := 26) rfl rfl (by decide) (q_aload_n rfl rfl (q_iload_n rfl rfl ?_)))))))
              refine v_pi (z := 0) rfl rfl rfl (Nat.le_of_ble_eq_true rfl) rfl rfl rfl (by decide) (q_aload_n rfl rfl (v_gr (t := 42) rfl rfl rfl (Nat.le_of_ble_eq_true rfl) rfl (q_iload_n rfl rfl (q_dup2 rfl ⟨rfl, rfl⟩ ?_))))
              have h_48 := ir_42 hI 1
              refine v_ia (v := c 42 1) rfl rfl (by decide) (by decide) (by decide) ((up_c (nn rfl)).trans (up_c (nn rfl))) (q_iconst rfl (v_iadd (v := c 42 1 + 1) rfl rfl (v_nrm (fun y_49 hy_49 => (v_is rfl rfl (by decide) (by decide) (by decide) (q_aload_n rfl rfl (v_gi (z := 0) (v := 2) rfl rfl rfl (Nat.le_of_ble_eq_true rfl) rfl rfl ((up_c (nn rfl)).trans (up_e rfl)) (v_if_ne_t (t := 37) rfl rfl (by decide) ?_))))))))
              refine q_iconst rfl (v_zret rfl rfl (by decide) (bk_inl (v_if_ne_f (t := 52) rfl rfl (by decide) (q_iconst rfl (q_iret rfl rfl ?_)))))
              have hI_50 := iw_41_0 (v := 0) hI ⟨by decide, by decide⟩
              have hI_51 := iw_41_0 (v := 2) hI_50 ⟨by decide, by decide⟩
              have hI_52 := iw_42 (j := 1) (v := y_49) hI_51 ⟨hy_49.1, hy_49.2⟩
              exact K (up (up (up c 41 0 0) 41 0 2) 42 1 y_49) 0 hI_52 (fun a j hm => (up_b (Decidable.or_iff_not_imp_left.mpr (fun h1 h2 => hm (Or.inr (Or.inl (Decidable.not_not.mp h1)))))).trans ((up_b (Decidable.or_iff_not_imp_left.mpr (fun h1 h2 => hm (Or.inl ⟨Decidable.not_not.mp h1, h2⟩)))).trans (up_b (Decidable.or_iff_not_imp_left.mpr (fun h1 h2 => hm (Or.inl ⟨Decidable.not_not.mp h1, h2⟩)))))) ⟨by decide, by decide⟩
            · refine v_ic_gt_f (t := 14) rfl rfl ⟨ha3.1, (Int.not_lt.mp h_47), by decide⟩ (q_iconst rfl (q_goto (t := 15) rfl rfl (v_zret rfl rfl (by decide) (bk_inl (v_if_eq_f (t := 41) rfl rfl (by decide) (q_iconst rfl (q_goto (t := 42) rfl rfl ?_)))))))
              refine q_iconst rfl (q_iconst rfl (v_cv rfl rfl rfl rfl (Nat.le_of_ble_eq_true rfl) ⟨⟨rfl, rfl⟩, Nat.le_of_ble_eq_true rfl, rfl⟩ (Nat.le_of_ble_eq_true rfl) (Nat.le_of_ble_eq_true rfl) (q_iload_n rfl rfl (v_if_ne_t (t := 26) rfl rfl (by decide) (q_aload_n rfl rfl (v_gi (z := 0) (v := 0) rfl rfl rfl (Nat.le_of_ble_eq_true rfl) rfl rfl (up_e rfl) (v_if_ne_f (t := 37) rfl rfl (by decide) ?_)))))))
              refine q_iconst rfl (q_goto (t := 38) rfl rfl (v_zret rfl rfl (by decide) (bk_inl (v_if_ne_t (t := 52) rfl rfl (by decide) (q_aload_n rfl rfl ?_)))))
              have hI_53 := iw_41_0 (v := 0) hI ⟨by decide, by decide⟩
              refine v_cv rfl rfl rfl rfl (Nat.le_of_ble_eq_true rfl) ⟨⟨rfl, rfl⟩, Nat.le_of_ble_eq_true rfl, rfl⟩ (Nat.le_of_ble_eq_true rfl) (Nat.le_of_ble_eq_true rfl) (s_186 hI_53 (fun c_54 hI_55 hF_56 => (bk_inl (v_sip rfl (by decide) (q_istore rfl (Nat.le_of_ble_eq_true rfl) (v_sip rfl (by decide) (q_istore rfl (Nat.le_of_ble_eq_true rfl) (Wp_ls [(0, .ref 41), (1, vi a1), (2, vi a2), (3, vi a3), (4, vi 9999), (5, vi 8192)] (lsub_cons rfl (lsub_cons rfl (lsub_cons rfl (lsub_cons rfl (lsub_cons rfl (lsub_cons rfl lsub_nil)))))) ?_))))))))
              exact (s_239_l (sc := sc) (d := d) hI ha1 ha2 ha3 K 163884581).1 c_54 9999 8192 hI_55 (fun a j hm => (hF_56 a j (fun h => hm (Or.inr (Or.inr h)))).trans (up_b (Decidable.or_iff_not_imp_left.mpr (fun h1 h2 => hm (Or.inl ⟨Decidable.not_not.mp h1, h2⟩))))) ⟨by decide, by decide⟩ ⟨by decide, by decide⟩ ⟨by first | exact q_720657ba9 h_16 | omega, by first | exact q_3a2e67ab0 h_15 h_22 | omega⟩ (by omega)

set_option maxRecDepth 100000 in
set_option maxHeartbeats 4000000 in
theorem s_240_l {sc : List Int32} {d P Q : Nat} {c : ME} {a1 : Int} {Z : AR → Prop} (hI : Iv 0 (-1) P Q c) (ha1 : (-2147483648) ≤ a1 ∧ a1 ≤ 2147483647) (K : ∀ (c2 : ME) (y : Int), Iv 0 (-1) P Q c2 → (∀ (a : Nat) (j : Int), ¬ ((a = 41 ∧ j = 0) ∨ a = 42 ∨ a = 59 ∨ a = 54 ∨ a = 55) → c2 a j = c a j) → (-2147483648) ≤ y ∧ y ≤ 2147483647 → Z (.inl (some (vi y)), Wd P Q P P c2, 0, 0)) : ∀ n : Nat, (∀ (c2 : ME) (v2 : Int) (v3 : Int), Iv 0 (-1) P Q c2 → (∀ (a : Nat) (j : Int), ¬ ((a = 41 ∧ j = 0) ∨ a = 42 ∨ a = 59 ∨ a = 54 ∨ a = 55) → c2 a j = c a j) → (-1) ≤ v2 ∧ v2 ≤ 5 → 0 ≤ v3 ∧ v3 ≤ 6 → 13 - 2 * v3 < (n : Int) → Wp sc (d + 12) 240 30 [(0, .ref 41), (1, vi a1), (2, vi v2), (3, vi v3)] [] (Wd P Q P P c2) 0 0 Z)
  | 0 => by intro c2 v2 v3 hI2 hF hv2 hv3 hm9; have hP := iv_P hI; have hQ := iv_Q hI; exfalso; omega
  | n + 1 => by
    have hP := iv_P hI
    have hQ := iv_Q hI
    have ih := s_240_l (sc := sc) (d := d) hI ha1 K n
    intro c2 v2 v3 hI2 hF hv2 hv3 hm9
    refine q_iload_n rfl rfl (q_aload_n rfl rfl ?_)
    have h_1 := ir_41_20 hI
    have kn_2 : Hid (c2 41 20 = c 41 20) := hF 41 20 (fun q => q.elim (fun h => absurd h.2 (ni rfl)) (fun q => q.elim (fun h => absurd h (nn rfl)) (fun q => q.elim (fun h => absurd h (nn rfl)) (fun q => q.elim (fun h => absurd h (nn rfl)) (fun h => absurd h (nn rfl))))))
    refine v_gi (z := 20) (v := c 41 20) rfl rfl rfl (Nat.le_of_ble_eq_true rfl) rfl rfl (hid kn_2) ?_
    by_cases h_3 : v3 ≥ c 41 20
    · refine v_ic_ge_t (t := 72) rfl rfl ⟨by first | exact q_730ab5169 h_1 | omega, h_3, (Int.le_trans hv3.2 (by decide))⟩ (q_iload_n rfl rfl ?_)
      by_cases h_4 : a1 = 0
      · refine v_if_eq_t (t := 81) rfl rfl h_4 (q_iload_n rfl rfl (q_goto (t := 90) rfl rfl (q_iret rfl rfl ?_)))
        exact K c2 v2 hI2 (fun a j hm => hF a j (fun q => q.elim (fun h => hm (Or.inl h)) (fun q => q.elim (fun h => hm (Or.inr (Or.inl h))) (fun q => q.elim (fun h => hm (Or.inr (Or.inr (Or.inl h)))) (fun q => q.elim (fun h => hm (Or.inr (Or.inr (Or.inr (Or.inl h))))) (fun h => hm (Or.inr (Or.inr (Or.inr (Or.inr h)))))))))) ⟨(Int.le_trans (by decide) hv2.1), (Int.le_trans hv2.2 (by decide))⟩
      · refine v_if_eq_f (t := 81) rfl rfl ⟨h_4, ⟨ha1.1, ha1.2⟩, by decide, by decide⟩ (q_iload_n rfl rfl (q_iconst rfl ?_))
        by_cases h_5 : v2 ≠ (-1)
        · refine v_ic_ne_t (t := 85) rfl rfl ⟨h_5, ⟨(Int.le_trans (by decide) hv2.1), (Int.le_trans hv2.2 (by decide))⟩, by decide, by decide⟩ (q_aload_n rfl rfl (q_iload_n rfl rfl (v_cv rfl rfl rfl rfl (Nat.le_of_ble_eq_true rfl) ⟨⟨rfl, rfl⟩, Nat.le_of_ble_eq_true rfl, rfl⟩ (Nat.le_of_ble_eq_true rfl) (Nat.le_of_ble_eq_true rfl) (s_196 (a1 := v2) hI2 (show 0 ≤ v2 ∧ v2 ≤ 5 from ⟨by first | exact q_8754394d5 h_5 hv2 | (clear ha1 hv3 h_1 h_3 h_4; omega) | omega, hv2.2⟩) (fun c_6 y_9 hI_7 hF_8 hy_9 => (bk_inl (q_iret rfl rfl ?_)))))))
          exact K c_6 y_9 hI_7 (fun a j hm => (hF_8 a j (fun q => q.elim (fun h => hm (Or.inr (Or.inr (Or.inr (Or.inl h))))) (fun h => hm (Or.inr (Or.inr (Or.inr (Or.inr h))))))).trans (hF a j (fun q => q.elim (fun h => hm (Or.inl h)) (fun q => q.elim (fun h => hm (Or.inr (Or.inl h))) (fun q => q.elim (fun h => hm (Or.inr (Or.inr (Or.inl h)))) (fun q => q.elim (fun h => hm (Or.inr (Or.inr (Or.inr (Or.inl h))))) (fun h => hm (Or.inr (Or.inr (Or.inr (Or.inr h))))))))))) ⟨(Int.le_trans (by decide) hy_9.1), (Int.le_trans hy_9.2 (by decide))⟩
        · refine v_ic_ne_f (t := 85) rfl rfl (Decidable.not_not.mp h_5) (q_iload_n rfl rfl (q_goto (t := 90) rfl rfl (q_iret rfl rfl ?_)))
          exact K c2 v2 hI2 (fun a j hm => hF a j (fun q => q.elim (fun h => hm (Or.inl h)) (fun q => q.elim (fun h => hm (Or.inr (Or.inl h))) (fun q => q.elim (fun h => hm (Or.inr (Or.inr (Or.inl h)))) (fun q => q.elim (fun h => hm (Or.inr (Or.inr (Or.inr (Or.inl h))))) (fun h => hm (Or.inr (Or.inr (Or.inr (Or.inr h)))))))))) ⟨(Int.le_trans (by decide) hv2.1), (Int.le_trans hv2.2 (by decide))⟩
    · refine v_ic_ge_f (t := 72) rfl rfl ⟨(Int.le_trans (by decide) hv3.1), (Int.not_le.mp h_3), by first | exact q_b289b7db2 h_1 | omega⟩ (q_aload_n rfl rfl (q_iload_n rfl rfl ?_))
      have h_10 := ir_59_g hI2 (j := 4 * v3) (by first | exact q_aa51b186e h_1 h_3 | omega)
      have h_11 := ir_59_g hI2 (j := 4 * v3 + 1) (by first | exact q_57851f9de h_1 h_3 | omega)
      have h_12 := ir_59_g hI2 (j := 4 * v3 + 2) (by first | exact q_7296e74e6 h_1 h_3 | omega)
      have h_13 := ir_59_g hI2 (j := 4 * v3 + 3) (by first | exact q_b15525c4c h_1 h_3 | omega)
      refine v_cv rfl rfl rfl rfl (Nat.le_of_ble_eq_true rfl) ⟨⟨rfl, rfl⟩, Nat.le_of_ble_eq_true rfl, rfl⟩ (Nat.le_of_ble_eq_true rfl) (Nat.le_of_ble_eq_true rfl) (s_187 (v1 := c2 59 (4 * v3)) (v2 := c2 59 (4 * v3 + 1)) (v3 := c2 59 (4 * v3 + 2)) (v4 := c2 59 (4 * v3 + 3)) (r := c2 59 (4 * v3 + 1) + c2 59 (4 * v3 + 2) + c2 59 (4 * v3 + 3) + c2 59 (4 * v3)) (a1 := v3) hI2 (show 0 ≤ v3 ∧ v3 ≤ 5 from ⟨hv3.1, by first | exact q_d63a8538e h_1 h_3 | omega⟩) (rfl) (rfl) (rfl) (rfl) (by omega) (bk_inl ?_))
      by_cases h_14 : c2 59 (4 * v3 + 1) + c2 59 (4 * v3 + 2) + c2 59 (4 * v3 + 3) + c2 59 (4 * v3) ≤ 0
      · refine v_if_le_t (t := 66) rfl rfl ⟨by first | exact q_e052ef40e h_10 h_11 h_12 h_13 | omega, h_14, by decide⟩ (v_iinc (v := v3 + 1) rfl rfl (Nat.le_of_ble_eq_true rfl) rfl (q_goto (t := 30) rfl rfl (Wp_ls [(0, .ref 41), (1, vi a1), (2, vi v2), (3, vi (v3 + 1))] (lsub_cons rfl (lsub_cons rfl (lsub_cons rfl (lsub_cons rfl lsub_nil)))) ?_)))
        exact ih c2 v2 (v3 + 1) hI2 (fun a j hm => hF a j (fun q => q.elim (fun h => hm (Or.inl h)) (fun q => q.elim (fun h => hm (Or.inr (Or.inl h))) (fun q => q.elim (fun h => hm (Or.inr (Or.inr (Or.inl h)))) (fun q => q.elim (fun h => hm (Or.inr (Or.inr (Or.inr (Or.inl h))))) (fun h => hm (Or.inr (Or.inr (Or.inr (Or.inr h)))))))))) hv2 ⟨by first | exact rgp_l hv3.1 (by decide) | omega, by first | exact q_4a76cd9c7 h_1 h_3 | omega⟩ (by omega)
      · refine v_if_le_f (t := 66) rfl rfl ⟨by decide, (Int.not_le.mp h_14), by first | exact q_db9ef1f4a h_10 h_11 h_12 h_13 | omega⟩ (q_iload_n rfl rfl (q_iconst rfl ?_))
        by_cases h_15 : v2 = (-1)
        · refine v_ic_eq_t (t := 64) rfl rfl h_15 (q_iload_n rfl rfl (q_istore_n rfl (Nat.le_of_ble_eq_true rfl) (v_iinc (v := v3 + 1) rfl rfl (Nat.le_of_ble_eq_true rfl) rfl (q_goto (t := 30) rfl rfl (Wp_ls [(0, .ref 41), (1, vi a1), (2, vi v3), (3, vi (v3 + 1))] (lsub_cons rfl (lsub_cons rfl (lsub_cons rfl (lsub_cons rfl lsub_nil)))) ?_)))))
          exact ih c2 v3 (v3 + 1) hI2 (fun a j hm => hF a j (fun q => q.elim (fun h => hm (Or.inl h)) (fun q => q.elim (fun h => hm (Or.inr (Or.inl h))) (fun q => q.elim (fun h => hm (Or.inr (Or.inr (Or.inl h)))) (fun q => q.elim (fun h => hm (Or.inr (Or.inr (Or.inr (Or.inl h))))) (fun h => hm (Or.inr (Or.inr (Or.inr (Or.inr h)))))))))) ⟨(Int.le_trans (by decide) hv3.1), by first | exact q_d63a8538e h_1 h_3 | omega⟩ ⟨by first | exact rgp_l hv3.1 (by decide) | omega, by first | exact q_4a76cd9c7 h_1 h_3 | omega⟩ (by omega)
        · refine v_ic_eq_f (t := 64) rfl rfl ⟨h_15, ⟨(Int.le_trans (by decide) hv2.1), (Int.le_trans hv2.2 (by decide))⟩, by decide, by decide⟩ (q_aload_n rfl rfl (q_iload_n rfl rfl (v_cv rfl rfl rfl rfl (Nat.le_of_ble_eq_true rfl) ⟨⟨rfl, rfl⟩, Nat.le_of_ble_eq_true rfl, rfl⟩ (Nat.le_of_ble_eq_true rfl) (Nat.le_of_ble_eq_true rfl) (s_196 (a1 := v3) hI2 (show 0 ≤ v3 ∧ v3 ≤ 5 from ⟨hv3.1, by first | exact q_d63a8538e h_1 h_3 | (clear ha1 hv2 hv3 h_10 h_11 h_12 h_13 h_14 h_15; omega) | omega⟩) (fun c_16 y_19 hI_17 hF_18 hy_19 => (bk_inl (q_aload_n rfl rfl (q_iload_n rfl rfl (v_cv rfl rfl rfl rfl (Nat.le_of_ble_eq_true rfl) ⟨⟨rfl, rfl⟩, Nat.le_of_ble_eq_true rfl, rfl⟩ (Nat.le_of_ble_eq_true rfl) (Nat.le_of_ble_eq_true rfl) (s_196 (a1 := v2) hI_17 (show 0 ≤ v2 ∧ v2 ≤ 5 from ⟨by first | exact q_a0327fb45 h_15 hv2 | omega, hv2.2⟩) (fun c_20 y_23 hI_21 hF_22 hy_23 => ?_)))))))))))
          refine bk_inl ?_
          by_cases h_24 : y_19 ≤ y_23
          · refine v_ic_le_t (t := 66) rfl rfl ⟨(Int.le_trans (by decide) hy_19.1), h_24, (Int.le_trans hy_23.2 (by decide))⟩ (v_iinc (v := v3 + 1) rfl rfl (Nat.le_of_ble_eq_true rfl) rfl (q_goto (t := 30) rfl rfl (Wp_ls [(0, .ref 41), (1, vi a1), (2, vi v2), (3, vi (v3 + 1))] (lsub_cons rfl (lsub_cons rfl (lsub_cons rfl (lsub_cons rfl lsub_nil)))) ?_)))
            exact ih c_20 v2 (v3 + 1) hI_21 (fun a j hm => (hF_22 a j (fun q => q.elim (fun h => hm (Or.inr (Or.inr (Or.inr (Or.inl h))))) (fun h => hm (Or.inr (Or.inr (Or.inr (Or.inr h))))))).trans ((hF_18 a j (fun q => q.elim (fun h => hm (Or.inr (Or.inr (Or.inr (Or.inl h))))) (fun h => hm (Or.inr (Or.inr (Or.inr (Or.inr h))))))).trans (hF a j (fun q => q.elim (fun h => hm (Or.inl h)) (fun q => q.elim (fun h => hm (Or.inr (Or.inl h))) (fun q => q.elim (fun h => hm (Or.inr (Or.inr (Or.inl h)))) (fun q => q.elim (fun h => hm (Or.inr (Or.inr (Or.inr (Or.inl h))))) (fun h => hm (Or.inr (Or.inr (Or.inr (Or.inr h)))))))))))) hv2 ⟨by first | exact rgp_l hv3.1 (by decide) | omega, by first | exact q_4a76cd9c7 h_1 h_3 | (clear ha1 hv2 hv3 h_10 h_11 h_12 h_13 h_14 h_24 h_15; omega) | omega⟩ (by omega)
          · refine v_ic_le_f (t := 66) rfl rfl ⟨(Int.le_trans (by decide) hy_23.1), (Int.not_le.mp h_24), (Int.le_trans hy_19.2 (by decide))⟩ (q_iload_n rfl rfl (q_istore_n rfl (Nat.le_of_ble_eq_true rfl) (v_iinc (v := v3 + 1) rfl rfl (Nat.le_of_ble_eq_true rfl) rfl (q_goto (t := 30) rfl rfl (Wp_ls [(0, .ref 41), (1, vi a1), (2, vi v3), (3, vi (v3 + 1))] (lsub_cons rfl (lsub_cons rfl (lsub_cons rfl (lsub_cons rfl lsub_nil)))) ?_)))))
            exact ih c_20 v3 (v3 + 1) hI_21 (fun a j hm => (hF_22 a j (fun q => q.elim (fun h => hm (Or.inr (Or.inr (Or.inr (Or.inl h))))) (fun h => hm (Or.inr (Or.inr (Or.inr (Or.inr h))))))).trans ((hF_18 a j (fun q => q.elim (fun h => hm (Or.inr (Or.inr (Or.inr (Or.inl h))))) (fun h => hm (Or.inr (Or.inr (Or.inr (Or.inr h))))))).trans (hF a j (fun q => q.elim (fun h => hm (Or.inl h)) (fun q => q.elim (fun h => hm (Or.inr (Or.inl h))) (fun q => q.elim (fun h => hm (Or.inr (Or.inr (Or.inl h)))) (fun q => q.elim (fun h => hm (Or.inr (Or.inr (Or.inr (Or.inl h))))) (fun h => hm (Or.inr (Or.inr (Or.inr (Or.inr h)))))))))))) ⟨(Int.le_trans (by decide) hv3.1), by first | exact q_d63a8538e h_1 h_3 | (clear ha1 hv2 hv3 h_10 h_11 h_12 h_13 h_14 h_24 h_15; omega) | omega⟩ ⟨by first | exact rgp_l hv3.1 (by decide) | omega, by first | exact q_4a76cd9c7 h_1 h_3 | (clear ha1 hv2 hv3 h_10 h_11 h_12 h_13 h_14 h_24 h_15; omega) | omega⟩ (by omega)
set_option maxRecDepth 100000 in
set_option maxHeartbeats 4000000 in
theorem s_240 {sc : List Int32} {d P Q : Nat} {c : ME} {a1 : Int} {Z : AR → Prop} (hI : Iv 0 (-1) P Q c) (ha1 : (-2147483648) ≤ a1 ∧ a1 ≤ 2147483647) (K : ∀ (c2 : ME) (y : Int), Iv 0 (-1) P Q c2 → (∀ (a : Nat) (j : Int), ¬ ((a = 41 ∧ j = 0) ∨ a = 42 ∨ a = 59 ∨ a = 54 ∨ a = 55) → c2 a j = c a j) → (-2147483648) ≤ y ∧ y ≤ 2147483647 → Z (.inl (some (vi y)), Wd P Q P P c2, 0, 0)) : Wp sc (d + 12) 240 0 [(0, .ref 41), (1, vi a1)] [] (Wd P Q P P c) 0 0 Z := by
  have hP := iv_P hI
  have hQ := iv_Q hI
  refine q_aload_n rfl rfl (q_iconst rfl (v_pi (z := 0) rfl rfl rfl (Nat.le_of_ble_eq_true rfl) rfl rfl rfl (by decide) (q_aload_n rfl rfl (q_iload_n rfl rfl (q_iconst rfl (q_iconst rfl (q_call rfl rfl rfl rfl ?_)))))))
  refine q_iload_n rfl rfl (q_iload_n rfl rfl ?_)
  by_cases h_25 : a1 < 0
  · refine v_ic_lt_t (t := 14) rfl rfl ⟨ha1.1, h_25, by decide⟩ (q_iconst rfl (v_zret rfl rfl (by decide) (bk_inl (q_iconst rfl (q_iconst rfl (v_cv rfl rfl rfl rfl (Nat.le_of_ble_eq_true rfl) ⟨⟨rfl, rfl⟩, Nat.le_of_ble_eq_true rfl, rfl⟩ (Nat.le_of_ble_eq_true rfl) (Nat.le_of_ble_eq_true rfl) (q_iload_n rfl rfl ?_)))))))
    refine v_if_ne_f (t := 26) rfl rfl (by decide) (q_aload_n rfl rfl (v_gi (z := 0) (v := 0) rfl rfl rfl (Nat.le_of_ble_eq_true rfl) rfl rfl (up_e rfl) (v_if_ne_f (t := 26) rfl rfl (by decide) (q_aload_n rfl rfl (q_iload_n rfl rfl (v_pi (z := 0) rfl rfl rfl (Nat.le_of_ble_eq_true rfl) rfl rfl rfl (by decide) (q_aload_n rfl rfl ?_)))))))
    refine v_gr (t := 42) rfl rfl rfl (Nat.le_of_ble_eq_true rfl) rfl (q_iload_n rfl rfl (q_dup2 rfl ⟨rfl, rfl⟩ ?_))
    have h_26 := ir_42 hI 1
    refine v_ia (v := c 42 1) rfl rfl (by decide) (by decide) (by decide) ((up_c (nn rfl)).trans (up_c (nn rfl))) (q_iconst rfl (v_iadd (v := c 42 1 + 1) rfl rfl (v_nrm (fun y_27 hy_27 => (v_is rfl rfl (by decide) (by decide) (by decide) (q_aload_n rfl rfl (v_gi (z := 0) (v := 1) rfl rfl rfl (Nat.le_of_ble_eq_true rfl) rfl rfl ((up_c (nn rfl)).trans (up_e rfl)) (v_if_ne_t (t := 37) rfl rfl (by decide) ?_))))))))
    refine q_iconst rfl (v_zret rfl rfl (by decide) (bk_inl (v_if_ne_f (t := 22) rfl rfl (by decide) (q_iconst rfl (q_iret rfl rfl ?_)))))
    have hI_28 := iw_41_0 (v := 0) hI ⟨by decide, by decide⟩
    have hI_29 := iw_41_0 (v := 1) hI_28 ⟨by decide, by decide⟩
    have hI_30 := iw_42 (j := 1) (v := y_27) hI_29 ⟨hy_27.1, hy_27.2⟩
    exact K (up (up (up c 41 0 0) 41 0 1) 42 1 y_27) 0 hI_30 (fun a j hm => (up_b (Decidable.or_iff_not_imp_left.mpr (fun h1 h2 => hm (Or.inr (Or.inl (Decidable.not_not.mp h1)))))).trans ((up_b (Decidable.or_iff_not_imp_left.mpr (fun h1 h2 => hm (Or.inl ⟨Decidable.not_not.mp h1, h2⟩)))).trans (up_b (Decidable.or_iff_not_imp_left.mpr (fun h1 h2 => hm (Or.inl ⟨Decidable.not_not.mp h1, h2⟩)))))) ⟨by decide, by decide⟩
  · refine v_ic_lt_f (t := 14) rfl rfl ⟨by decide, (Int.not_lt.mp h_25), ha1.2⟩ (q_iload_n rfl rfl (q_iload_n rfl rfl ?_))
    by_cases h_31 : a1 > 1
    · refine v_ic_gt_t (t := 14) rfl rfl ⟨by decide, h_31, ha1.2⟩ (q_iconst rfl (v_zret rfl rfl (by decide) (bk_inl (q_iconst rfl (q_iconst rfl (v_cv rfl rfl rfl rfl (Nat.le_of_ble_eq_true rfl) ⟨⟨rfl, rfl⟩, Nat.le_of_ble_eq_true rfl, rfl⟩ (Nat.le_of_ble_eq_true rfl) (Nat.le_of_ble_eq_true rfl) (q_iload_n rfl rfl ?_)))))))
      refine v_if_ne_f (t := 26) rfl rfl (by decide) (q_aload_n rfl rfl (v_gi (z := 0) (v := 0) rfl rfl rfl (Nat.le_of_ble_eq_true rfl) rfl rfl (up_e rfl) (v_if_ne_f (t := 26) rfl rfl (by decide) (q_aload_n rfl rfl (q_iload_n rfl rfl (v_pi (z := 0) rfl rfl rfl (Nat.le_of_ble_eq_true rfl) rfl rfl rfl (by decide) (q_aload_n rfl rfl ?_)))))))
      refine v_gr (t := 42) rfl rfl rfl (Nat.le_of_ble_eq_true rfl) rfl (q_iload_n rfl rfl (q_dup2 rfl ⟨rfl, rfl⟩ ?_))
      have h_32 := ir_42 hI 1
      refine v_ia (v := c 42 1) rfl rfl (by decide) (by decide) (by decide) ((up_c (nn rfl)).trans (up_c (nn rfl))) (q_iconst rfl (v_iadd (v := c 42 1 + 1) rfl rfl (v_nrm (fun y_33 hy_33 => (v_is rfl rfl (by decide) (by decide) (by decide) (q_aload_n rfl rfl (v_gi (z := 0) (v := 1) rfl rfl rfl (Nat.le_of_ble_eq_true rfl) rfl rfl ((up_c (nn rfl)).trans (up_e rfl)) (v_if_ne_t (t := 37) rfl rfl (by decide) ?_))))))))
      refine q_iconst rfl (v_zret rfl rfl (by decide) (bk_inl (v_if_ne_f (t := 22) rfl rfl (by decide) (q_iconst rfl (q_iret rfl rfl ?_)))))
      have hI_34 := iw_41_0 (v := 0) hI ⟨by decide, by decide⟩
      have hI_35 := iw_41_0 (v := 1) hI_34 ⟨by decide, by decide⟩
      have hI_36 := iw_42 (j := 1) (v := y_33) hI_35 ⟨hy_33.1, hy_33.2⟩
      exact K (up (up (up c 41 0 0) 41 0 1) 42 1 y_33) 0 hI_36 (fun a j hm => (up_b (Decidable.or_iff_not_imp_left.mpr (fun h1 h2 => hm (Or.inr (Or.inl (Decidable.not_not.mp h1)))))).trans ((up_b (Decidable.or_iff_not_imp_left.mpr (fun h1 h2 => hm (Or.inl ⟨Decidable.not_not.mp h1, h2⟩)))).trans (up_b (Decidable.or_iff_not_imp_left.mpr (fun h1 h2 => hm (Or.inl ⟨Decidable.not_not.mp h1, h2⟩)))))) ⟨by decide, by decide⟩
    · refine v_ic_gt_f (t := 14) rfl rfl ⟨ha1.1, (Int.not_lt.mp h_31), by decide⟩ (q_iconst rfl (q_goto (t := 15) rfl rfl (v_zret rfl rfl (by decide) (bk_inl (q_iconst rfl (q_iconst rfl (v_cv rfl rfl rfl rfl (Nat.le_of_ble_eq_true rfl) ⟨⟨rfl, rfl⟩, Nat.le_of_ble_eq_true rfl, rfl⟩ (Nat.le_of_ble_eq_true rfl) (Nat.le_of_ble_eq_true rfl) ?_)))))))
      refine q_iload_n rfl rfl (v_if_ne_t (t := 26) rfl rfl (by decide) (q_aload_n rfl rfl (v_gi (z := 0) (v := 0) rfl rfl rfl (Nat.le_of_ble_eq_true rfl) rfl rfl (up_e rfl) (v_if_ne_f (t := 37) rfl rfl (by decide) (q_iconst rfl (q_goto (t := 38) rfl rfl (v_zret rfl rfl (by decide) ?_)))))))
      refine bk_inl (v_if_ne_t (t := 22) rfl rfl (by decide) (q_aload_n rfl rfl ?_))
      have hI_37 := iw_41_0 (v := 0) hI ⟨by decide, by decide⟩
      refine v_cv rfl rfl rfl rfl (Nat.le_of_ble_eq_true rfl) ⟨⟨rfl, rfl⟩, Nat.le_of_ble_eq_true rfl, rfl⟩ (Nat.le_of_ble_eq_true rfl) (Nat.le_of_ble_eq_true rfl) (s_186 hI_37 (fun c_38 hI_39 hF_40 => (bk_inl (q_iconst rfl (q_istore_n rfl (Nat.le_of_ble_eq_true rfl) (q_iconst rfl (q_istore_n rfl (Nat.le_of_ble_eq_true rfl) (Wp_ls [(0, .ref 41), (1, vi a1), (2, vi (-1)), (3, vi 0)] (lsub_cons rfl (lsub_cons rfl (lsub_cons rfl (lsub_cons rfl lsub_nil)))) ?_))))))))
      exact (s_240_l (sc := sc) (d := d) hI ha1 K 16) c_38 (-1) 0 hI_39 (fun a j hm => (hF_40 a j (fun h => hm (Or.inr (Or.inr (Or.inl h))))).trans (up_b (Decidable.or_iff_not_imp_left.mpr (fun h1 h2 => hm (Or.inl ⟨Decidable.not_not.mp h1, h2⟩))))) ⟨by decide, by decide⟩ ⟨by decide, by decide⟩ (by omega)

set_option maxRecDepth 100000 in
set_option maxHeartbeats 4000000 in
theorem s_241_l {sc : List Int32} {d P Q : Nat} {c : ME} {Z : AR → Prop} (hI : Iv 0 (-1) P Q c)  (K : ∀ (c2 : ME) (y : Int), Iv 0 (-1) P Q c2 → (∀ (a : Nat) (j : Int), ¬ ((a = 41 ∧ j = 0) ∨ a = 59 ∨ a = 54 ∨ a = 55) → c2 a j = c a j) → (-2147483648) ≤ y ∧ y ≤ 2147483647 → Z (.inl (some (vi y)), Wd P Q P P c2, 0, 0)) : ∀ n : Nat, (∀ (c2 : ME) (v1 : Int) (v2 : Int), Iv 0 (-1) P Q c2 → (∀ (a : Nat) (j : Int), ¬ ((a = 41 ∧ j = 0) ∨ a = 59 ∨ a = 54 ∨ a = 55) → c2 a j = c a j) → (-2147483648) ≤ v1 ∧ v1 ≤ 2147483647 → 0 ≤ v2 ∧ v2 ≤ 6 → 13 - 2 * v2 < (n : Int) → Wp sc (d + 13) 241 13 [(0, .ref 41), (1, vi v1), (2, vi v2)] [] (Wd P Q P P c2) 0 0 Z)
  | 0 => by intro c2 v1 v2 hI2 hF hv1 hv2 hm9; have hP := iv_P hI; have hQ := iv_Q hI; exfalso; omega
  | n + 1 => by
    have hP := iv_P hI
    have hQ := iv_Q hI
    have ih := s_241_l (sc := sc) (d := d) hI K n
    intro c2 v1 v2 hI2 hF hv1 hv2 hm9
    refine q_iload_n rfl rfl (q_aload_n rfl rfl ?_)
    have h_1 := ir_41_20 hI
    have kn_2 : Hid (c2 41 20 = c 41 20) := hF 41 20 (fun q => q.elim (fun h => absurd h.2 (ni rfl)) (fun q => q.elim (fun h => absurd h (nn rfl)) (fun q => q.elim (fun h => absurd h (nn rfl)) (fun h => absurd h (nn rfl)))))
    refine v_gi (z := 20) (v := c 41 20) rfl rfl rfl (Nat.le_of_ble_eq_true rfl) rfl rfl (hid kn_2) ?_
    by_cases h_3 : v2 ≥ c 41 20
    · refine v_ic_ge_t (t := 45) rfl rfl ⟨by first | exact q_730ab5169 h_1 | omega, h_3, (Int.le_trans hv2.2 (by decide))⟩ (q_iload_n rfl rfl (q_iret rfl rfl ?_))
      exact K c2 v1 hI2 (fun a j hm => hF a j (fun q => q.elim (fun h => hm (Or.inl h)) (fun q => q.elim (fun h => hm (Or.inr (Or.inl h))) (fun q => q.elim (fun h => hm (Or.inr (Or.inr (Or.inl h)))) (fun h => hm (Or.inr (Or.inr (Or.inr h)))))))) hv1
    · refine v_ic_ge_f (t := 45) rfl rfl ⟨(Int.le_trans (by decide) hv2.1), (Int.not_le.mp h_3), by first | exact q_b289b7db2 h_1 | omega⟩ (q_iload_n rfl rfl (q_aload_n rfl rfl (q_iload_n rfl rfl (v_cv rfl rfl rfl rfl (Nat.le_of_ble_eq_true rfl) ⟨⟨rfl, rfl⟩, Nat.le_of_ble_eq_true rfl, rfl⟩ (Nat.le_of_ble_eq_true rfl) (Nat.le_of_ble_eq_true rfl) (s_197 (a1 := v2) hI2 (show 0 ≤ v2 ∧ v2 ≤ 5 from ⟨hv2.1, by first | exact q_d63a8538e h_1 h_3 | omega⟩) (fun c_4 y_7 hI_5 hF_6 hy_7 => (bk_inl ?_)))))))
      by_cases h_8 : y_7 = 0
      · refine v_if_eq_t (t := 36) rfl rfl h_8 (q_iconst rfl (v_iorx rfl (fun y_9 hy_9 => (q_istore_n rfl (Nat.le_of_ble_eq_true rfl) (v_iinc (v := v2 + 1) rfl rfl (Nat.le_of_ble_eq_true rfl) rfl (q_goto (t := 13) rfl rfl (Wp_ls [(0, .ref 41), (1, vi y_9), (2, vi (v2 + 1))] (lsub_cons rfl (lsub_cons rfl (lsub_cons rfl lsub_nil))) ?_)))))))
        exact ih c_4 y_9 (v2 + 1) hI_5 (fun a j hm => (hF_6 a j (fun q => q.elim (fun h => hm (Or.inr (Or.inr (Or.inl h)))) (fun h => hm (Or.inr (Or.inr (Or.inr h)))))).trans (hF a j (fun q => q.elim (fun h => hm (Or.inl h)) (fun q => q.elim (fun h => hm (Or.inr (Or.inl h))) (fun q => q.elim (fun h => hm (Or.inr (Or.inr (Or.inl h)))) (fun h => hm (Or.inr (Or.inr (Or.inr h))))))))) hy_9 ⟨by first | exact rgp_l hv2.1 (by decide) | omega, by first | exact q_4a76cd9c7 h_1 h_3 | omega⟩ (by omega)
      · refine v_if_eq_f (t := 36) rfl rfl ⟨h_8, ⟨(Int.le_trans (by decide) hy_7.1), (Int.le_trans hy_7.2 (by decide))⟩, by decide, by decide⟩ (q_iconst rfl (q_iload_n rfl rfl (v_shl1 rfl ⟨by omega, by omega⟩ (fun y_10 hy_10 => (q_goto (t := 37) rfl rfl (v_iorx rfl (fun y_11 hy_11 => (q_istore_n rfl (Nat.le_of_ble_eq_true rfl) (v_iinc (v := v2 + 1) rfl rfl (Nat.le_of_ble_eq_true rfl) rfl ?_)))))))))
        refine q_goto (t := 13) rfl rfl (Wp_ls [(0, .ref 41), (1, vi y_11), (2, vi (v2 + 1))] (lsub_cons rfl (lsub_cons rfl (lsub_cons rfl lsub_nil))) ?_)
        exact ih c_4 y_11 (v2 + 1) hI_5 (fun a j hm => (hF_6 a j (fun q => q.elim (fun h => hm (Or.inr (Or.inr (Or.inl h)))) (fun h => hm (Or.inr (Or.inr (Or.inr h)))))).trans (hF a j (fun q => q.elim (fun h => hm (Or.inl h)) (fun q => q.elim (fun h => hm (Or.inr (Or.inl h))) (fun q => q.elim (fun h => hm (Or.inr (Or.inr (Or.inl h)))) (fun h => hm (Or.inr (Or.inr (Or.inr h))))))))) hy_11 ⟨by first | exact rgp_l hv2.1 (by decide) | omega, by first | exact q_4a76cd9c7 h_1 h_3 | (clear hv1 hv2 h_8; omega) | omega⟩ (by omega)
set_option maxRecDepth 100000 in
set_option maxHeartbeats 4000000 in
theorem s_241 {sc : List Int32} {d P Q : Nat} {c : ME} {Z : AR → Prop} (hI : Iv 0 (-1) P Q c)  (K : ∀ (c2 : ME) (y : Int), Iv 0 (-1) P Q c2 → (∀ (a : Nat) (j : Int), ¬ ((a = 41 ∧ j = 0) ∨ a = 59 ∨ a = 54 ∨ a = 55) → c2 a j = c a j) → (-2147483648) ≤ y ∧ y ≤ 2147483647 → Z (.inl (some (vi y)), Wd P Q P P c2, 0, 0)) : Wp sc (d + 13) 241 0 [(0, .ref 41)] [] (Wd P Q P P c) 0 0 Z := by
  have hP := iv_P hI
  have hQ := iv_Q hI
  refine q_aload_n rfl rfl (q_iconst rfl (v_pi (z := 0) rfl rfl rfl (Nat.le_of_ble_eq_true rfl) rfl rfl rfl (by decide) (q_aload_n rfl rfl ?_)))
  have hI_12 := iw_41_0 (v := 0) hI ⟨by decide, by decide⟩
  refine v_cv rfl rfl rfl rfl (Nat.le_of_ble_eq_true rfl) ⟨⟨rfl, rfl⟩, Nat.le_of_ble_eq_true rfl, rfl⟩ (Nat.le_of_ble_eq_true rfl) (Nat.le_of_ble_eq_true rfl) (s_186 hI_12 (fun c_13 hI_14 hF_15 => (bk_inl (q_iconst rfl (q_istore_n rfl (Nat.le_of_ble_eq_true rfl) (q_iconst rfl (q_istore_n rfl (Nat.le_of_ble_eq_true rfl) (Wp_ls [(0, .ref 41), (1, vi 0), (2, vi 0)] (lsub_cons rfl (lsub_cons rfl (lsub_cons rfl lsub_nil))) ?_))))))))
  exact (s_241_l (sc := sc) (d := d) hI K 16) c_13 0 0 hI_14 (fun a j hm => (hF_15 a j (fun h => hm (Or.inr (Or.inl h)))).trans (up_b (Decidable.or_iff_not_imp_left.mpr (fun h1 h2 => hm (Or.inl ⟨Decidable.not_not.mp h1, h2⟩))))) ⟨by decide, by decide⟩ ⟨by decide, by decide⟩ (by omega)

set_option maxRecDepth 100000 in
set_option maxHeartbeats 4000000 in
theorem s_242 {sc : List Int32} {d P Q : Nat} {c : ME} {a1 : Int} {a2 : Int} {Z : AR → Prop} (hI : Iv 0 (-1) P Q c) (ha1 : (-2147483648) ≤ a1 ∧ a1 ≤ 2147483647) (ha2 : (-2147483648) ≤ a2 ∧ a2 ≤ 2147483647) (K : ∀ (c2 : ME) (y : Int), Iv 0 (-1) P Q c2 → (∀ (a : Nat) (j : Int), ¬ ((a = 41 ∧ j = 0) ∨ a = 42 ∨ a = 59 ∨ a = 54 ∨ a = 55) → c2 a j = c a j) → (-2147483648) ≤ y ∧ y ≤ 2147483647 → Z (.inl (some (vi y)), Wd P Q P P c2, 0, 0)) : Wp sc (d + 12) 242 0 [(0, .ref 41), (1, vi a1), (2, vi a2)] [] (Wd P Q P P c) 0 0 Z := by
  have hP := iv_P hI
  have hQ := iv_Q hI
  refine q_aload_n rfl rfl (q_iconst rfl (v_pi (z := 0) rfl rfl rfl (Nat.le_of_ble_eq_true rfl) rfl rfl rfl (by decide) (q_aload_n rfl rfl (q_iload_n rfl rfl (q_aload_n rfl rfl ?_)))))
  have h_1 := ir_41_20 hI
  refine v_gi (z := 20) (v := c 41 20) rfl rfl rfl (Nat.le_of_ble_eq_true rfl) rfl rfl (up_n (by decide)) (v_cv rfl rfl rfl rfl (Nat.le_of_ble_eq_true rfl) ⟨⟨rfl, rfl⟩, Nat.le_of_ble_eq_true rfl, rfl⟩ (Nat.le_of_ble_eq_true rfl) (Nat.le_of_ble_eq_true rfl) (q_aload_n rfl rfl (q_iload_n rfl rfl (q_iconst rfl (q_iload_n rfl rfl (q_iconst rfl (v_isub (v := c 41 20 - 1) rfl rfl ?_)))))))
  refine q_call rfl rfl rfl rfl (q_iload_n rfl rfl (q_iload_n rfl rfl ?_))
  by_cases h_2 : a1 < 0
  · refine v_ic_lt_t (t := 14) rfl rfl ⟨ha1.1, h_2, by decide⟩ (q_iconst rfl (v_zret rfl rfl (by decide) (bk_inl (q_iconst rfl (q_iconst rfl (v_cv rfl rfl rfl rfl (Nat.le_of_ble_eq_true rfl) ⟨⟨rfl, rfl⟩, Nat.le_of_ble_eq_true rfl, rfl⟩ (Nat.le_of_ble_eq_true rfl) (Nat.le_of_ble_eq_true rfl) (q_iload_n rfl rfl ?_)))))))
    refine v_if_ne_f (t := 26) rfl rfl (by decide) (q_aload_n rfl rfl (v_gi (z := 0) (v := 0) rfl rfl rfl (Nat.le_of_ble_eq_true rfl) rfl rfl (up_e rfl) (v_if_ne_f (t := 26) rfl rfl (by decide) (q_aload_n rfl rfl (q_iload_n rfl rfl (v_pi (z := 0) rfl rfl rfl (Nat.le_of_ble_eq_true rfl) rfl rfl rfl (by decide) (q_aload_n rfl rfl ?_)))))))
    refine v_gr (t := 42) rfl rfl rfl (Nat.le_of_ble_eq_true rfl) rfl (q_iload_n rfl rfl (q_dup2 rfl ⟨rfl, rfl⟩ ?_))
    have h_3 := ir_42 hI 0
    refine v_ia (v := c 42 0) rfl rfl (by decide) (by decide) (by decide) ((up_c (nn rfl)).trans (up_c (nn rfl))) (q_iconst rfl (v_iadd (v := c 42 0 + 1) rfl rfl (v_nrm (fun y_4 hy_4 => (v_is rfl rfl (by decide) (by decide) (by decide) (q_aload_n rfl rfl (v_gi (z := 0) (v := 1) rfl rfl rfl (Nat.le_of_ble_eq_true rfl) rfl rfl ((up_c (nn rfl)).trans (up_e rfl)) (v_if_ne_t (t := 37) rfl rfl (by decide) ?_))))))))
    refine q_iconst rfl (v_zret rfl rfl (by decide) (bk_inl (v_zret rfl rfl (by decide) (bk_inl (v_if_eq_t (t := 29) rfl rfl (by decide) (q_iconst rfl (q_iret rfl rfl ?_)))))))
    have hI_5 := iw_41_0 (v := 0) hI ⟨by decide, by decide⟩
    have hI_6 := iw_41_0 (v := 1) hI_5 ⟨by decide, by decide⟩
    have hI_7 := iw_42 (j := 0) (v := y_4) hI_6 ⟨hy_4.1, hy_4.2⟩
    exact K (up (up (up c 41 0 0) 41 0 1) 42 0 y_4) 0 hI_7 (fun a j hm => (up_b (Decidable.or_iff_not_imp_left.mpr (fun h1 h2 => hm (Or.inr (Or.inl (Decidable.not_not.mp h1)))))).trans ((up_b (Decidable.or_iff_not_imp_left.mpr (fun h1 h2 => hm (Or.inl ⟨Decidable.not_not.mp h1, h2⟩)))).trans (up_b (Decidable.or_iff_not_imp_left.mpr (fun h1 h2 => hm (Or.inl ⟨Decidable.not_not.mp h1, h2⟩)))))) ⟨by decide, by decide⟩
  · refine v_ic_lt_f (t := 14) rfl rfl ⟨by decide, (Int.not_lt.mp h_2), ha1.2⟩ (q_iload_n rfl rfl (q_iload_n rfl rfl ?_))
    by_cases h_8 : a1 > c 41 20 - 1
    · refine v_ic_gt_t (t := 14) rfl rfl ⟨by first | exact rgm_l h_1.1 (by decide) | omega, h_8, ha1.2⟩ (q_iconst rfl (v_zret rfl rfl (by decide) (bk_inl (q_iconst rfl (q_iconst rfl (v_cv rfl rfl rfl rfl (Nat.le_of_ble_eq_true rfl) ⟨⟨rfl, rfl⟩, Nat.le_of_ble_eq_true rfl, rfl⟩ (Nat.le_of_ble_eq_true rfl) (Nat.le_of_ble_eq_true rfl) (q_iload_n rfl rfl ?_)))))))
      refine v_if_ne_f (t := 26) rfl rfl (by decide) (q_aload_n rfl rfl (v_gi (z := 0) (v := 0) rfl rfl rfl (Nat.le_of_ble_eq_true rfl) rfl rfl (up_e rfl) (v_if_ne_f (t := 26) rfl rfl (by decide) (q_aload_n rfl rfl (q_iload_n rfl rfl (v_pi (z := 0) rfl rfl rfl (Nat.le_of_ble_eq_true rfl) rfl rfl rfl (by decide) (q_aload_n rfl rfl ?_)))))))
      refine v_gr (t := 42) rfl rfl rfl (Nat.le_of_ble_eq_true rfl) rfl (q_iload_n rfl rfl (q_dup2 rfl ⟨rfl, rfl⟩ ?_))
      have h_9 := ir_42 hI 0
      refine v_ia (v := c 42 0) rfl rfl (by decide) (by decide) (by decide) ((up_c (nn rfl)).trans (up_c (nn rfl))) (q_iconst rfl (v_iadd (v := c 42 0 + 1) rfl rfl (v_nrm (fun y_10 hy_10 => (v_is rfl rfl (by decide) (by decide) (by decide) (q_aload_n rfl rfl (v_gi (z := 0) (v := 1) rfl rfl rfl (Nat.le_of_ble_eq_true rfl) rfl rfl ((up_c (nn rfl)).trans (up_e rfl)) (v_if_ne_t (t := 37) rfl rfl (by decide) ?_))))))))
      refine q_iconst rfl (v_zret rfl rfl (by decide) (bk_inl (v_zret rfl rfl (by decide) (bk_inl (v_if_eq_t (t := 29) rfl rfl (by decide) (q_iconst rfl (q_iret rfl rfl ?_)))))))
      have hI_11 := iw_41_0 (v := 0) hI ⟨by decide, by decide⟩
      have hI_12 := iw_41_0 (v := 1) hI_11 ⟨by decide, by decide⟩
      have hI_13 := iw_42 (j := 0) (v := y_10) hI_12 ⟨hy_10.1, hy_10.2⟩
      exact K (up (up (up c 41 0 0) 41 0 1) 42 0 y_10) 0 hI_13 (fun a j hm => (up_b (Decidable.or_iff_not_imp_left.mpr (fun h1 h2 => hm (Or.inr (Or.inl (Decidable.not_not.mp h1)))))).trans ((up_b (Decidable.or_iff_not_imp_left.mpr (fun h1 h2 => hm (Or.inl ⟨Decidable.not_not.mp h1, h2⟩)))).trans (up_b (Decidable.or_iff_not_imp_left.mpr (fun h1 h2 => hm (Or.inl ⟨Decidable.not_not.mp h1, h2⟩)))))) ⟨by decide, by decide⟩
    · refine v_ic_gt_f (t := 14) rfl rfl ⟨ha1.1, (Int.not_lt.mp h_8), by first | exact rgm_h h_1.2 (by decide) | omega⟩ (q_iconst rfl (q_goto (t := 15) rfl rfl (v_zret rfl rfl (by decide) (bk_inl (q_iconst rfl (q_iconst rfl (v_cv rfl rfl rfl rfl (Nat.le_of_ble_eq_true rfl) ⟨⟨rfl, rfl⟩, Nat.le_of_ble_eq_true rfl, rfl⟩ (Nat.le_of_ble_eq_true rfl) (Nat.le_of_ble_eq_true rfl) ?_)))))))
      refine q_iload_n rfl rfl (v_if_ne_t (t := 26) rfl rfl (by decide) (q_aload_n rfl rfl (v_gi (z := 0) (v := 0) rfl rfl rfl (Nat.le_of_ble_eq_true rfl) rfl rfl (up_e rfl) (v_if_ne_f (t := 37) rfl rfl (by decide) (q_iconst rfl (q_goto (t := 38) rfl rfl (v_zret rfl rfl (by decide) ?_)))))))
      refine bk_inl (v_zret rfl rfl (by decide) (bk_inl (v_if_eq_f (t := 29) rfl rfl (by decide) (q_aload_n rfl rfl (q_iload_n rfl rfl (q_aload_n rfl rfl (v_gi (z := 20) (v := c 41 20) rfl rfl rfl (Nat.le_of_ble_eq_true rfl) rfl rfl (up_n (by decide)) ?_)))))))
      refine v_cv rfl rfl rfl rfl (Nat.le_of_ble_eq_true rfl) ⟨⟨rfl, rfl⟩, Nat.le_of_ble_eq_true rfl, rfl⟩ (Nat.le_of_ble_eq_true rfl) (Nat.le_of_ble_eq_true rfl) (q_aload_n rfl rfl (q_iload_n rfl rfl (q_iconst rfl (q_iload_n rfl rfl (q_iconst rfl (v_isub (v := c 41 20 - 1) rfl rfl (q_call rfl rfl rfl rfl ?_)))))))
      refine q_iload_n rfl rfl (q_iload_n rfl rfl ?_)
      by_cases h_14 : a2 < 0
      · refine v_ic_lt_t (t := 14) rfl rfl ⟨ha2.1, h_14, by decide⟩ (q_iconst rfl (v_zret rfl rfl (by decide) (bk_inl (q_iconst rfl (q_iconst rfl (v_cv rfl rfl rfl rfl (Nat.le_of_ble_eq_true rfl) ⟨⟨rfl, rfl⟩, Nat.le_of_ble_eq_true rfl, rfl⟩ (Nat.le_of_ble_eq_true rfl) (Nat.le_of_ble_eq_true rfl) (q_iload_n rfl rfl ?_)))))))
        refine v_if_ne_f (t := 26) rfl rfl (by decide) (q_aload_n rfl rfl (v_gi (z := 0) (v := 0) rfl rfl rfl (Nat.le_of_ble_eq_true rfl) rfl rfl (up_e rfl) (v_if_ne_f (t := 26) rfl rfl (by decide) (q_aload_n rfl rfl (q_iload_n rfl rfl (v_pi (z := 0) rfl rfl rfl (Nat.le_of_ble_eq_true rfl) rfl rfl rfl (by decide) (q_aload_n rfl rfl ?_)))))))
        refine v_gr (t := 42) rfl rfl rfl (Nat.le_of_ble_eq_true rfl) rfl (q_iload_n rfl rfl (q_dup2 rfl ⟨rfl, rfl⟩ ?_))
        have h_15 := ir_42 hI 0
        refine v_ia (v := c 42 0) rfl rfl (by decide) (by decide) (by decide) ((up_c (nn rfl)).trans (up_c (nn rfl))) (q_iconst rfl (v_iadd (v := c 42 0 + 1) rfl rfl (v_nrm (fun y_16 hy_16 => (v_is rfl rfl (by decide) (by decide) (by decide) (q_aload_n rfl rfl (v_gi (z := 0) (v := 1) rfl rfl rfl (Nat.le_of_ble_eq_true rfl) rfl rfl ((up_c (nn rfl)).trans (up_e rfl)) (v_if_ne_t (t := 37) rfl rfl (by decide) ?_))))))))
        refine q_iconst rfl (v_zret rfl rfl (by decide) (bk_inl (v_zret rfl rfl (by decide) (bk_inl (v_if_ne_f (t := 31) rfl rfl (by decide) (q_iconst rfl (q_iret rfl rfl ?_)))))))
        have hI_17 := iw_41_0 (v := 0) hI ⟨by decide, by decide⟩
        have hI_18 := iw_41_0 (v := 1) hI_17 ⟨by decide, by decide⟩
        have hI_19 := iw_42 (j := 0) (v := y_16) hI_18 ⟨hy_16.1, hy_16.2⟩
        exact K (up (up (up c 41 0 0) 41 0 1) 42 0 y_16) 0 hI_19 (fun a j hm => (up_b (Decidable.or_iff_not_imp_left.mpr (fun h1 h2 => hm (Or.inr (Or.inl (Decidable.not_not.mp h1)))))).trans ((up_b (Decidable.or_iff_not_imp_left.mpr (fun h1 h2 => hm (Or.inl ⟨Decidable.not_not.mp h1, h2⟩)))).trans (up_b (Decidable.or_iff_not_imp_left.mpr (fun h1 h2 => hm (Or.inl ⟨Decidable.not_not.mp h1, h2⟩)))))) ⟨by decide, by decide⟩
      · refine v_ic_lt_f (t := 14) rfl rfl ⟨by decide, (Int.not_lt.mp h_14), ha2.2⟩ (q_iload_n rfl rfl (q_iload_n rfl rfl ?_))
        by_cases h_20 : a2 > c 41 20 - 1
        · refine v_ic_gt_t (t := 14) rfl rfl ⟨by first | exact rgm_l h_1.1 (by decide) | omega, h_20, ha2.2⟩ (q_iconst rfl (v_zret rfl rfl (by decide) (bk_inl (q_iconst rfl (q_iconst rfl (v_cv rfl rfl rfl rfl (Nat.le_of_ble_eq_true rfl) ⟨⟨rfl, rfl⟩, Nat.le_of_ble_eq_true rfl, rfl⟩ (Nat.le_of_ble_eq_true rfl) (Nat.le_of_ble_eq_true rfl) (q_iload_n rfl rfl ?_)))))))
          refine v_if_ne_f (t := 26) rfl rfl (by decide) (q_aload_n rfl rfl (v_gi (z := 0) (v := 0) rfl rfl rfl (Nat.le_of_ble_eq_true rfl) rfl rfl (up_e rfl) (v_if_ne_f (t := 26) rfl rfl (by decide) (q_aload_n rfl rfl (q_iload_n rfl rfl (v_pi (z := 0) rfl rfl rfl (Nat.le_of_ble_eq_true rfl) rfl rfl rfl (by decide) (q_aload_n rfl rfl ?_)))))))
          refine v_gr (t := 42) rfl rfl rfl (Nat.le_of_ble_eq_true rfl) rfl (q_iload_n rfl rfl (q_dup2 rfl ⟨rfl, rfl⟩ ?_))
          have h_21 := ir_42 hI 0
          refine v_ia (v := c 42 0) rfl rfl (by decide) (by decide) (by decide) ((up_c (nn rfl)).trans (up_c (nn rfl))) (q_iconst rfl (v_iadd (v := c 42 0 + 1) rfl rfl (v_nrm (fun y_22 hy_22 => (v_is rfl rfl (by decide) (by decide) (by decide) (q_aload_n rfl rfl (v_gi (z := 0) (v := 1) rfl rfl rfl (Nat.le_of_ble_eq_true rfl) rfl rfl ((up_c (nn rfl)).trans (up_e rfl)) (v_if_ne_t (t := 37) rfl rfl (by decide) ?_))))))))
          refine q_iconst rfl (v_zret rfl rfl (by decide) (bk_inl (v_zret rfl rfl (by decide) (bk_inl (v_if_ne_f (t := 31) rfl rfl (by decide) (q_iconst rfl (q_iret rfl rfl ?_)))))))
          have hI_23 := iw_41_0 (v := 0) hI ⟨by decide, by decide⟩
          have hI_24 := iw_41_0 (v := 1) hI_23 ⟨by decide, by decide⟩
          have hI_25 := iw_42 (j := 0) (v := y_22) hI_24 ⟨hy_22.1, hy_22.2⟩
          exact K (up (up (up c 41 0 0) 41 0 1) 42 0 y_22) 0 hI_25 (fun a j hm => (up_b (Decidable.or_iff_not_imp_left.mpr (fun h1 h2 => hm (Or.inr (Or.inl (Decidable.not_not.mp h1)))))).trans ((up_b (Decidable.or_iff_not_imp_left.mpr (fun h1 h2 => hm (Or.inl ⟨Decidable.not_not.mp h1, h2⟩)))).trans (up_b (Decidable.or_iff_not_imp_left.mpr (fun h1 h2 => hm (Or.inl ⟨Decidable.not_not.mp h1, h2⟩)))))) ⟨by decide, by decide⟩
        · refine v_ic_gt_f (t := 14) rfl rfl ⟨ha2.1, (Int.not_lt.mp h_20), by first | exact rgm_h h_1.2 (by decide) | omega⟩ (q_iconst rfl (q_goto (t := 15) rfl rfl (v_zret rfl rfl (by decide) (bk_inl (q_iconst rfl (q_iconst rfl (v_cv rfl rfl rfl rfl (Nat.le_of_ble_eq_true rfl) ⟨⟨rfl, rfl⟩, Nat.le_of_ble_eq_true rfl, rfl⟩ (Nat.le_of_ble_eq_true rfl) (Nat.le_of_ble_eq_true rfl) ?_)))))))
          refine q_iload_n rfl rfl (v_if_ne_t (t := 26) rfl rfl (by decide) (q_aload_n rfl rfl (v_gi (z := 0) (v := 0) rfl rfl rfl (Nat.le_of_ble_eq_true rfl) rfl rfl (up_e rfl) (v_if_ne_f (t := 37) rfl rfl (by decide) (q_iconst rfl (q_goto (t := 38) rfl rfl (v_zret rfl rfl (by decide) ?_)))))))
          refine bk_inl (v_zret rfl rfl (by decide) (bk_inl (v_if_ne_t (t := 31) rfl rfl (by decide) (q_aload_n rfl rfl ?_))))
          have hI_26 := iw_41_0 (v := 0) hI ⟨by decide, by decide⟩
          refine v_cv rfl rfl rfl rfl (Nat.le_of_ble_eq_true rfl) ⟨⟨rfl, rfl⟩, Nat.le_of_ble_eq_true rfl, rfl⟩ (Nat.le_of_ble_eq_true rfl) (Nat.le_of_ble_eq_true rfl) (s_186 hI_26 (fun c_27 hI_28 hF_29 => (bk_inl (q_aload_n rfl rfl (q_iload_n rfl rfl (q_iload_n rfl rfl (q_aload_n rfl rfl (q_iload_n rfl rfl ?_))))))))
          have h_30 := ir_59_g hI_28 (j := 4 * a1) (by first | exact q_b0d0e4535 h_1 h_8 | omega)
          have h_31 := ir_59_g hI_28 (j := 4 * a1 + 1) (by first | exact q_e3354e5e9 h_1 h_8 | omega)
          have h_32 := ir_59_g hI_28 (j := 4 * a1 + 2) (by first | exact q_0a5347bcd h_1 h_8 | omega)
          have h_33 := ir_59_g hI_28 (j := 4 * a1 + 3) (by first | exact q_9939b3b7f h_1 h_8 | omega)
          refine v_cv rfl rfl rfl rfl (Nat.le_of_ble_eq_true rfl) ⟨⟨rfl, rfl⟩, Nat.le_of_ble_eq_true rfl, rfl⟩ (Nat.le_of_ble_eq_true rfl) (Nat.le_of_ble_eq_true rfl) (s_187 (v1 := c_27 59 (4 * a1)) (v2 := c_27 59 (4 * a1 + 1)) (v3 := c_27 59 (4 * a1 + 2)) (v4 := c_27 59 (4 * a1 + 3)) (r := c_27 59 (4 * a1 + 1) + c_27 59 (4 * a1 + 2) + c_27 59 (4 * a1 + 3) + c_27 59 (4 * a1)) (a1 := a1) hI_28 (show 0 ≤ a1 ∧ a1 ≤ 5 from ⟨by first | exact q_720657ba9 h_2 | omega, by first | exact q_3a2e67ab0 h_1 h_8 | omega⟩) (rfl) (rfl) (rfl) (rfl) (by omega) (bk_inl (v_cv rfl rfl rfl rfl (Nat.le_of_ble_eq_true rfl) ⟨⟨rfl, rfl⟩, Nat.le_of_ble_eq_true rfl, rfl⟩ (Nat.le_of_ble_eq_true rfl) (Nat.le_of_ble_eq_true rfl) (s_194 (a1 := a1) (a2 := a2) (a3 := c_27 59 (4 * a1 + 1) + c_27 59 (4 * a1 + 2) + c_27 59 (4 * a1 + 3) + c_27 59 (4 * a1)) hI_28 (show 0 ≤ a1 ∧ a1 ≤ 5 from ⟨by first | exact q_720657ba9 h_2 | omega, by first | exact q_3a2e67ab0 h_1 h_8 | omega⟩) (show 0 ≤ a2 ∧ a2 ≤ 5 from ⟨by first | exact q_720657ba9 h_14 | omega, by first | exact q_3a2e67ab0 h_1 h_20 | omega⟩) (show 0 ≤ c_27 59 (4 * a1 + 1) + c_27 59 (4 * a1 + 2) + c_27 59 (4 * a1 + 3) + c_27 59 (4 * a1) ∧ c_27 59 (4 * a1 + 1) + c_27 59 (4 * a1 + 2) + c_27 59 (4 * a1 + 3) + c_27 59 (4 * a1) ≤ 99999 from ⟨by first | exact q_039f89af9 h_30 h_31 h_32 h_33 | omega, by first | exact q_386a854c4 h_30 h_31 h_32 h_33 | omega⟩) (fun c_34 y_37 hI_35 hF_36 hy_37 => (bk_inl ?_))))))
          by_cases h_38 : y_37 = 0
          · refine v_if_eq_t (t := 57) rfl rfl h_38 (q_iconst rfl (q_iret rfl rfl ?_))
            exact K c_34 (-1) hI_35 (fun a j hm => (hF_36 a j (fun h => hm (Or.inr (Or.inr (Or.inl h))))).trans ((hF_29 a j (fun h => hm (Or.inr (Or.inr (Or.inl h))))).trans (up_b (Decidable.or_iff_not_imp_left.mpr (fun h1 h2 => hm (Or.inl ⟨Decidable.not_not.mp h1, h2⟩)))))) ⟨by decide, by decide⟩
          · refine v_if_eq_f (t := 57) rfl rfl ⟨h_38, ⟨(Int.le_trans (by decide) hy_37.1), (Int.le_trans hy_37.2 (by decide))⟩, by decide, by decide⟩ (q_aload_n rfl rfl (q_iload_n rfl rfl (v_cv rfl rfl rfl rfl (Nat.le_of_ble_eq_true rfl) ⟨⟨rfl, rfl⟩, Nat.le_of_ble_eq_true rfl, rfl⟩ (Nat.le_of_ble_eq_true rfl) (Nat.le_of_ble_eq_true rfl) (s_196 (a1 := a2) hI_35 (show 0 ≤ a2 ∧ a2 ≤ 5 from ⟨by first | exact q_720657ba9 h_14 | (clear ha1 ha2 h_1 h_2 h_8 h_20 h_30 h_31 h_32 h_33 h_38; omega) | omega, by first | exact q_3a2e67ab0 h_1 h_20 | (clear ha1 ha2 h_2 h_8 h_14 h_30 h_31 h_32 h_33 h_38; omega) | omega⟩) (fun c_39 y_42 hI_40 hF_41 hy_42 => (bk_inl (q_goto (t := 58) rfl rfl (q_iret rfl rfl ?_))))))))
            exact K c_39 y_42 hI_40 (fun a j hm => (hF_41 a j (fun q => q.elim (fun h => hm (Or.inr (Or.inr (Or.inr (Or.inl h))))) (fun h => hm (Or.inr (Or.inr (Or.inr (Or.inr h))))))).trans ((hF_36 a j (fun h => hm (Or.inr (Or.inr (Or.inl h))))).trans ((hF_29 a j (fun h => hm (Or.inr (Or.inr (Or.inl h))))).trans (up_b (Decidable.or_iff_not_imp_left.mpr (fun h1 h2 => hm (Or.inl ⟨Decidable.not_not.mp h1, h2⟩))))))) ⟨(Int.le_trans (by decide) hy_42.1), (Int.le_trans hy_42.2 (by decide))⟩

set_option maxRecDepth 100000 in
set_option maxHeartbeats 4000000 in
theorem s_243_l {sc : List Int32} {d P Q : Nat} {c : ME} {Z : AR → Prop} (hI : Iv 0 (-1) P Q c)  (K : ∀ (c2 : ME) (y : Int), Iv 0 (-1) P Q c2 → (∀ (a : Nat) (j : Int), ¬ ((a = 41 ∧ j = 0) ∨ a = 59) → c2 a j = c a j) → (-2147483648) ≤ y ∧ y ≤ 2147483647 → Z (.inl (some (vi y)), Wd P Q P P c2, 0, 0)) : ∀ n : Nat, (∀ (c2 : ME) (v1 : Int) (v2 : Int), Iv 0 (-1) P Q c2 → (∀ (a : Nat) (j : Int), ¬ ((a = 41 ∧ j = 0) ∨ a = 59) → c2 a j = c a j) → (-2147483648) ≤ v1 ∧ v1 ≤ 2147483647 → 0 ≤ v2 ∧ v2 ≤ 6 → 90 - 13 * v2 < (n : Int) → Wp sc (d + 8) 243 13 [(0, .ref 41), (1, vi v1), (2, vi v2)] [] (Wd P Q P P c2) 0 0 Z) ∧ (∀ (c2 : ME) (v1 : Int) (v2 : Int) (v3 : Int) (v4 : Int), Iv 0 (-1) P Q c2 → (∀ (a : Nat) (j : Int), ¬ ((a = 41 ∧ j = 0) ∨ a = 59) → c2 a j = c a j) → (-2147483648) ≤ v1 ∧ v1 ≤ 2147483647 → 0 ≤ v2 ∧ v2 ≤ 5 → (-2147483648) ≤ v3 ∧ v3 ≤ 2147483647 → 0 ≤ v4 ∧ v4 ≤ 4 → 87 - 13 * v2 - 2 * v4 < (n : Int) → Wp sc (d + 8) 243 26 [(0, .ref 41), (1, vi v1), (2, vi v2), (3, vi v3), (4, vi v4)] [] (Wd P Q P P c2) 0 0 Z)
  | 0 => by exact ⟨by (intro c2 v1 v2 hI2 hF hv1 hv2 hm9; have hP := iv_P hI; have hQ := iv_Q hI; exfalso; omega), by (intro c2 v1 v2 v3 v4 hI2 hF hv1 hv2 hv3 hv4 hm9; have hP := iv_P hI; have hQ := iv_Q hI; exfalso; omega)⟩
  | n + 1 => by
    have hP := iv_P hI
    have hQ := iv_Q hI
    have ih := s_243_l (sc := sc) (d := d) hI K n
    refine ⟨?_, ?_⟩
    · skip
      intro c2 v1 v2 hI2 hF hv1 hv2 hm9
      refine q_iload_n rfl rfl (q_aload_n rfl rfl ?_)
      have h_1 := ir_41_20 hI
      have kn_2 : Hid (c2 41 20 = c 41 20) := hF 41 20 (fun q => q.elim (fun h => absurd h.2 (ni rfl)) (fun h => absurd h (nn rfl)))
      refine v_gi (z := 20) (v := c 41 20) rfl rfl rfl (Nat.le_of_ble_eq_true rfl) rfl rfl (hid kn_2) ?_
      by_cases h_3 : v2 ≥ c 41 20
      · refine v_ic_ge_t (t := 81) rfl rfl ⟨by first | exact q_730ab5169 h_1 | omega, h_3, (Int.le_trans hv2.2 (by decide))⟩ (q_iload_n rfl rfl (q_iret rfl rfl ?_))
        exact K c2 v1 hI2 (fun a j hm => hF a j (fun q => q.elim (fun h => hm (Or.inl h)) (fun h => hm (Or.inr h)))) hv1
      · refine v_ic_ge_f (t := 81) rfl rfl ⟨(Int.le_trans (by decide) hv2.1), (Int.not_le.mp h_3), by first | exact q_b289b7db2 h_1 | omega⟩ (q_iconst rfl (q_istore_n rfl (Nat.le_of_ble_eq_true rfl) (q_iconst rfl (q_istore rfl (Nat.le_of_ble_eq_true rfl) (Wp_ls [(0, .ref 41), (1, vi v1), (2, vi v2), (3, vi 0), (4, vi 0)] (lsub_cons rfl (lsub_cons rfl (lsub_cons rfl (lsub_cons rfl (lsub_cons rfl lsub_nil))))) ?_)))))
        exact ih.2 c2 v1 v2 0 0 hI2 (fun a j hm => hF a j (fun q => q.elim (fun h => hm (Or.inl h)) (fun h => hm (Or.inr h)))) hv1 ⟨hv2.1, by first | exact q_d63a8538e h_1 h_3 | omega⟩ ⟨by decide, by decide⟩ ⟨by decide, by decide⟩ (by omega)
    · skip
      intro c2 v1 v2 v3 v4 hI2 hF hv1 hv2 hv3 hv4 hm9
      refine q_iload rfl rfl (q_iconst rfl ?_)
      by_cases h_4 : v4 ≥ 4
      · refine v_ic_ge_t (t := 60) rfl rfl ⟨by decide, h_4, (Int.le_trans hv4.2 (by decide))⟩ (q_iload_n rfl rfl (q_iload_n rfl rfl (q_iconst rfl ?_)))
        by_cases h_5 : v3 ≠ 1
        · refine v_ic_ne_t (t := 72) rfl rfl ⟨h_5, ⟨hv3.1, hv3.2⟩, by decide, by decide⟩ (q_iconst rfl (v_iorx rfl (fun y_6 hy_6 => (q_istore_n rfl (Nat.le_of_ble_eq_true rfl) (v_iinc (v := v2 + 1) rfl rfl (Nat.le_of_ble_eq_true rfl) rfl (q_goto (t := 13) rfl rfl (Wp_ls [(0, .ref 41), (1, vi y_6), (2, vi (v2 + 1))] (lsub_cons rfl (lsub_cons rfl (lsub_cons rfl lsub_nil))) ?_)))))))
          exact ih.1 c2 y_6 (v2 + 1) hI2 (fun a j hm => hF a j (fun q => q.elim (fun h => hm (Or.inl h)) (fun h => hm (Or.inr h)))) hy_6 ⟨by first | exact rgp_l hv2.1 (by decide) | omega, by first | exact rgp_h hv2.2 (by decide) | omega⟩ (by omega)
        · refine v_ic_ne_f (t := 72) rfl rfl (Decidable.not_not.mp h_5) (q_iconst rfl (q_iload_n rfl rfl (v_shl1 rfl ⟨by omega, by omega⟩ (fun y_7 hy_7 => (q_goto (t := 73) rfl rfl (v_iorx rfl (fun y_8 hy_8 => (q_istore_n rfl (Nat.le_of_ble_eq_true rfl) (v_iinc (v := v2 + 1) rfl rfl (Nat.le_of_ble_eq_true rfl) rfl ?_)))))))))
          refine q_goto (t := 13) rfl rfl (Wp_ls [(0, .ref 41), (1, vi y_8), (2, vi (v2 + 1))] (lsub_cons rfl (lsub_cons rfl (lsub_cons rfl lsub_nil))) ?_)
          exact ih.1 c2 y_8 (v2 + 1) hI2 (fun a j hm => hF a j (fun q => q.elim (fun h => hm (Or.inl h)) (fun h => hm (Or.inr h)))) hy_8 ⟨by first | exact rgp_l hv2.1 (by decide) | omega, by first | exact rgp_h hv2.2 (by decide) | omega⟩ (by omega)
      · refine v_ic_ge_f (t := 60) rfl rfl ⟨(Int.le_trans (by decide) hv4.1), (Int.not_le.mp h_4), by decide⟩ (q_iload_n rfl rfl (q_aload_n rfl rfl (v_gr (t := 59) rfl rfl rfl (Nat.le_of_ble_eq_true rfl) rfl (q_iconst rfl (q_iload_n rfl rfl (v_imul (v := 4 * v2) rfl rfl (q_iload rfl rfl ?_)))))))
        refine v_iadd (v := 4 * v2 + v4) rfl rfl ?_
        have h_9 := ir_59_g hI2 (j := 4 * v2 + v4) (by first | exact q_e3e978779 h_4 hv2 | omega)
        refine v_ia (v := c2 59 (4 * v2 + v4)) rfl rfl (by decide) (by decide) ⟨by first | exact q_9bff1db0a hv2 hv4 | omega, by first | exact q_c0f51fe82 h_4 hv2 | omega⟩ rfl ?_
        by_cases h_10 : c2 59 (4 * v2 + v4) ≤ 0
        · refine v_if_le_t (t := 51) rfl rfl ⟨(Int.le_trans (by decide) h_9.1), h_10, by decide⟩ (q_iconst rfl (v_iadd (v := v3) rfl (by omega) (q_istore_n rfl (Nat.le_of_ble_eq_true rfl) (v_iinc (v := v4 + 1) rfl rfl (Nat.le_of_ble_eq_true rfl) rfl (q_goto (t := 26) rfl rfl (Wp_ls [(0, .ref 41), (1, vi v1), (2, vi v2), (3, vi v3), (4, vi (v4 + 1))] (lsub_cons rfl (lsub_cons rfl (lsub_cons rfl (lsub_cons rfl (lsub_cons rfl lsub_nil))))) ?_))))))
          exact ih.2 c2 v1 v2 v3 (v4 + 1) hI2 (fun a j hm => hF a j (fun q => q.elim (fun h => hm (Or.inl h)) (fun h => hm (Or.inr h)))) hv1 hv2 hv3 ⟨by first | exact rgp_l hv4.1 (by decide) | omega, by first | exact q_121241f94 h_4 | omega⟩ (by omega)
        · refine v_if_le_f (t := 51) rfl rfl ⟨by decide, (Int.not_le.mp h_10), (Int.le_trans h_9.2 (by decide))⟩ (q_iconst rfl (q_goto (t := 52) rfl rfl (v_iadd (v := v3 + 1) rfl rfl (v_nrm (fun y_11 hy_11 => (q_istore_n rfl (Nat.le_of_ble_eq_true rfl) (v_iinc (v := v4 + 1) rfl rfl (Nat.le_of_ble_eq_true rfl) rfl (q_goto (t := 26) rfl rfl ?_))))))))
          refine Wp_ls [(0, .ref 41), (1, vi v1), (2, vi v2), (3, vi y_11), (4, vi (v4 + 1))] (lsub_cons rfl (lsub_cons rfl (lsub_cons rfl (lsub_cons rfl (lsub_cons rfl lsub_nil))))) ?_
          exact ih.2 c2 v1 v2 y_11 (v4 + 1) hI2 (fun a j hm => hF a j (fun q => q.elim (fun h => hm (Or.inl h)) (fun h => hm (Or.inr h)))) hv1 hv2 hy_11 ⟨by first | exact rgp_l hv4.1 (by decide) | omega, by first | exact q_121241f94 h_4 | omega⟩ (by omega)
set_option maxRecDepth 100000 in
set_option maxHeartbeats 4000000 in
theorem s_243 {sc : List Int32} {d P Q : Nat} {c : ME} {Z : AR → Prop} (hI : Iv 0 (-1) P Q c)  (K : ∀ (c2 : ME) (y : Int), Iv 0 (-1) P Q c2 → (∀ (a : Nat) (j : Int), ¬ ((a = 41 ∧ j = 0) ∨ a = 59) → c2 a j = c a j) → (-2147483648) ≤ y ∧ y ≤ 2147483647 → Z (.inl (some (vi y)), Wd P Q P P c2, 0, 0)) : Wp sc (d + 8) 243 0 [(0, .ref 41)] [] (Wd P Q P P c) 0 0 Z := by
  have hP := iv_P hI
  have hQ := iv_Q hI
  refine q_aload_n rfl rfl (q_iconst rfl (v_pi (z := 0) rfl rfl rfl (Nat.le_of_ble_eq_true rfl) rfl rfl rfl (by decide) (q_aload_n rfl rfl ?_)))
  have hI_12 := iw_41_0 (v := 0) hI ⟨by decide, by decide⟩
  refine v_cv rfl rfl rfl rfl (Nat.le_of_ble_eq_true rfl) ⟨⟨rfl, rfl⟩, Nat.le_of_ble_eq_true rfl, rfl⟩ (Nat.le_of_ble_eq_true rfl) (Nat.le_of_ble_eq_true rfl) (s_186 hI_12 (fun c_13 hI_14 hF_15 => (bk_inl (q_iconst rfl (q_istore_n rfl (Nat.le_of_ble_eq_true rfl) (q_iconst rfl (q_istore_n rfl (Nat.le_of_ble_eq_true rfl) (Wp_ls [(0, .ref 41), (1, vi 0), (2, vi 0)] (lsub_cons rfl (lsub_cons rfl (lsub_cons rfl lsub_nil))) ?_))))))))
  exact (s_243_l (sc := sc) (d := d) hI K 93).1 c_13 0 0 hI_14 (fun a j hm => (hF_15 a j (fun h => hm (Or.inr h))).trans (up_b (Decidable.or_iff_not_imp_left.mpr (fun h1 h2 => hm (Or.inl ⟨Decidable.not_not.mp h1, h2⟩))))) ⟨by decide, by decide⟩ ⟨by decide, by decide⟩ (by omega)

