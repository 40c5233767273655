/-! ===== contracts 2 ===== -/
set_option maxRecDepth 100000 in
set_option maxHeartbeats 4000000 in
theorem s_33 {sc : List Int32} {e : Int} {d u P Q A : Nat} {c : ME} {a2 : Int} {Z : AR → Prop} (hI : Iv u e P Q c) (hA : A = 13 ∨ A = 25) (ha2 : 0 ≤ a2 ∧ a2 ≤ 100) (hq0 : (a2 ≠ 0) ∨ (c A 0 ≤ 5)) (hq1 : (a2 ≠ 1) ∨ (c A 1 ≤ 3)) (hq2 : (a2 ≠ 2) ∨ (c A 2 ≤ 3)) (K : ∀ (c2 : ME), Iv u e P Q c2 → (∀ (a : Nat) (j : Int), ¬ ((a = 1 ∧ j = 2) ∨ (a = 1 ∧ j = 4) ∨ (a = 1 ∧ j = 5) ∨ (a = A ∧ j = 0) ∨ (a = A ∧ j = 1) ∨ (a = A ∧ j = 2) ∨ (a = A ∧ j = 3) ∨ a = (A + 1) ∨ a = (A + 2) ∨ a = (A + 3)) → c2 a j = c a j) → Z (.inl (none), Wd P Q P P c2, 0, 0)) : Wp sc (d + 11) 33 0 [(0, .ref A), (1, .ref 1), (2, vi a2)] [] (Wd P Q P P c) 0 0 Z := by
  have hP := iv_P hI
  have hQ := iv_Q hI
  have h_1 := ir_p0_0 hI hA
  have h_2 := ir_p0_1 hI hA
  have h_3 := ir_p0_2 hI hA
  refine q_iload_n rfl rfl ?_
  by_cases h_4 : a2 = 0
  · skip
    refine v_tsw_i (t := 28) 0 rfl (by omega) (by decide) rfl (by decide) ?_
    refine q_aload_n rfl rfl ?_
    refine q_aload_n rfl rfl ?_
    refine v_gr (t := (A + 1)) rfl rfl (ck_p0 hA) (a68z hA) rfl ?_
    refine q_aload_n rfl rfl ?_
    refine v_gi (z := 0) (v := c A 0) rfl rfl (ck_p0 hA) (a68z hA) rfl rfl rfl ?_
    refine q_iconst rfl ?_
    refine v_imul (v := 4 * c A 0) rfl (by omega) ?_
    refine q_iconst rfl ?_
    refine v_sip rfl (by decide) ?_
    refine q_call rfl rfl rfl rfl ?_
    refine q_iload_n rfl rfl ?_
    refine q_istore rfl (by decide) ?_
    refine q_iload rfl rfl ?_
    refine q_iload_n rfl rfl ?_
    refine q_iload_n rfl rfl ?_
    refine v_iadd (v := 4 * c A 0 + 4) rfl rfl ?_
    refine v_ic_ge_f (t := 34) rfl (by decide) ⟨by omega, by omega, by omega⟩ ?_
    refine q_iload rfl rfl ?_
    refine q_aload_n rfl rfl ?_
    refine v_al rfl (ck_p1 hA) (a68 hA rfl) (by decide) ?_
    refine v_ic_ge_f (t := 34) rfl (by decide) ⟨by omega, by omega, by decide⟩ ?_
    refine q_aload_n rfl rfl ?_
    refine q_iload rfl rfl ?_
    refine q_aload_n rfl rfl ?_
    refine q_iload rfl rfl ?_
    refine v_cv rfl rfl rfl rfl (by decide) ⟨⟨rfl, rfl⟩, by decide, rfl⟩ (Nat.le_of_ble_eq_true rfl) (Nat.le_of_ble_eq_true rfl) (s_8 (a1 := 999) hI (show (-1) ≤ 999 ∧ 999 ≤ 9999 from ⟨by decide, by decide⟩) (fun c_5 y_8 hI_6 hF_7 hy_8 h_9 => ?_))
    refine bk_inl ?_
    refine v_is rfl (ck_p1 hA) (a68 hA rfl) (by decide) (by omega) ?_
    refine v_iinc (v := 4 * c A 0 + 1) rfl rfl (by decide) rfl ?_
    refine q_goto (t := 3) rfl (by decide) ?_
    refine q_iload rfl rfl ?_
    refine q_iload_n rfl rfl ?_
    refine q_iload_n rfl rfl ?_
    refine v_iadd (v := 4 * c A 0 + 4) rfl rfl ?_
    refine v_ic_ge_f (t := 34) rfl (by decide) ⟨by omega, by omega, by omega⟩ ?_
    refine q_iload rfl rfl ?_
    refine q_aload_n rfl rfl ?_
    refine v_al rfl (ck_p1 hA) (a68 hA rfl) (by decide) ?_
    refine v_ic_ge_f (t := 34) rfl (by decide) ⟨by omega, by omega, by decide⟩ ?_
    refine q_aload_n rfl rfl ?_
    refine q_iload rfl rfl ?_
    refine q_aload_n rfl rfl ?_
    refine q_iload rfl rfl ?_
    have hI_10 := iw_p1 (j := 4 * c A 0) (v := y_8) hI_6 hA ⟨hy_8.1, by omega⟩
    refine v_cv rfl rfl rfl rfl (by decide) ⟨⟨rfl, rfl⟩, by decide, rfl⟩ (Nat.le_of_ble_eq_true rfl) (Nat.le_of_ble_eq_true rfl) (s_8 (a1 := 999) hI_10 (show (-1) ≤ 999 ∧ 999 ≤ 9999 from ⟨by decide, by decide⟩) (fun c_11 y_14 hI_12 hF_13 hy_14 h_15 => ?_))
    refine bk_inl ?_
    refine v_is rfl (ck_p1 hA) (a68 hA rfl) (by decide) (by omega) ?_
    refine v_iinc (v := 4 * c A 0 + 2) rfl rfl (by decide) (by omega) ?_
    refine q_goto (t := 3) rfl (by decide) ?_
    refine q_iload rfl rfl ?_
    refine q_iload_n rfl rfl ?_
    refine q_iload_n rfl rfl ?_
    refine v_iadd (v := 4 * c A 0 + 4) rfl rfl ?_
    refine v_ic_ge_f (t := 34) rfl (by decide) ⟨by omega, by omega, by omega⟩ ?_
    refine q_iload rfl rfl ?_
    refine q_aload_n rfl rfl ?_
    refine v_al rfl (ck_p1 hA) (a68 hA rfl) (by decide) ?_
    refine v_ic_ge_f (t := 34) rfl (by decide) ⟨by omega, by omega, by decide⟩ ?_
    refine q_aload_n rfl rfl ?_
    refine q_iload rfl rfl ?_
    refine q_aload_n rfl rfl ?_
    refine q_iload rfl rfl ?_
    have hI_16 := iw_p1 (j := 4 * c A 0 + 1) (v := y_14) hI_12 hA ⟨hy_14.1, by omega⟩
    refine v_cv rfl rfl rfl rfl (by decide) ⟨⟨rfl, rfl⟩, by decide, rfl⟩ (Nat.le_of_ble_eq_true rfl) (Nat.le_of_ble_eq_true rfl) (s_8 (a1 := 999) hI_16 (show (-1) ≤ 999 ∧ 999 ≤ 9999 from ⟨by decide, by decide⟩) (fun c_17 y_20 hI_18 hF_19 hy_20 h_21 => ?_))
    refine bk_inl ?_
    refine v_is rfl (ck_p1 hA) (a68 hA rfl) (by decide) (by omega) ?_
    refine v_iinc (v := 4 * c A 0 + 3) rfl rfl (by decide) (by omega) ?_
    refine q_goto (t := 3) rfl (by decide) ?_
    refine q_iload rfl rfl ?_
    refine q_iload_n rfl rfl ?_
    refine q_iload_n rfl rfl ?_
    refine v_iadd (v := 4 * c A 0 + 4) rfl rfl ?_
    refine v_ic_ge_f (t := 34) rfl (by decide) ⟨by omega, by omega, by omega⟩ ?_
    refine q_iload rfl rfl ?_
    refine q_aload_n rfl rfl ?_
    refine v_al rfl (ck_p1 hA) (a68 hA rfl) (by decide) ?_
    refine v_ic_ge_f (t := 34) rfl (by decide) ⟨by omega, by omega, by decide⟩ ?_
    refine q_aload_n rfl rfl ?_
    refine q_iload rfl rfl ?_
    refine q_aload_n rfl rfl ?_
    refine q_iload rfl rfl ?_
    have hI_22 := iw_p1 (j := 4 * c A 0 + 2) (v := y_20) hI_18 hA ⟨hy_20.1, by omega⟩
    refine v_cv rfl rfl rfl rfl (by decide) ⟨⟨rfl, rfl⟩, by decide, rfl⟩ (Nat.le_of_ble_eq_true rfl) (Nat.le_of_ble_eq_true rfl) (s_8 (a1 := 999) hI_22 (show (-1) ≤ 999 ∧ 999 ≤ 9999 from ⟨by decide, by decide⟩) (fun c_23 y_26 hI_24 hF_25 hy_26 h_27 => ?_))
    refine bk_inl ?_
    refine v_is rfl (ck_p1 hA) (a68 hA rfl) (by decide) (by omega) ?_
    refine v_iinc (v := 4 * c A 0 + 4) rfl rfl (by decide) (by omega) ?_
    refine Wp_ls [(5, vi (4 * c A 0 + 4)), (0, .ref 1), (1, .ref (A + 1)), (2, vi (4 * c A 0)), (3, vi 4), (4, vi 999)] (lsub_cons rfl (lsub_cons rfl (lsub_cons rfl (lsub_cons rfl (lsub_cons rfl (lsub_cons rfl lsub_nil)))))) ?_
    refine q_goto (t := 3) rfl (by decide) ?_
    refine q_iload rfl rfl ?_
    refine q_iload_n rfl rfl ?_
    refine q_iload_n rfl rfl ?_
    refine v_iadd (v := 4 * c A 0 + 4) rfl rfl ?_
    refine v_ic_ge_t (t := 34) rfl (by decide) ⟨by omega, by omega, by omega⟩ ?_
    refine q_vret rfl rfl ?_
    refine bk_inl ?_
    refine q_aload_n rfl rfl ?_
    refine q_dup rfl rfl ?_
    have kn_28 : Hid (c_5 A 0 = c A 0) := hF_7 A 0 (fun q => q.elim (fun h => absurd h.1 (np0 hA rfl)) (fun q => q.elim (fun h => absurd h.1 (np0 hA rfl)) (fun h => absurd h.1 (np0 hA rfl))))
    have kn_29 : Hid (c_11 A 0 = c A 0) := (hF_13 A 0 (fun q => q.elim (fun h => absurd h.1 (np0 hA rfl)) (fun q => q.elim (fun h => absurd h.1 (np0 hA rfl)) (fun h => absurd h.1 (np0 hA rfl))))).trans ((up_c (p0p rfl)).trans (hid kn_28))
    have kn_30 : Hid (c_17 A 0 = c A 0) := (hF_19 A 0 (fun q => q.elim (fun h => absurd h.1 (np0 hA rfl)) (fun q => q.elim (fun h => absurd h.1 (np0 hA rfl)) (fun h => absurd h.1 (np0 hA rfl))))).trans ((up_c (p0p rfl)).trans (hid kn_29))
    have kn_31 : Hid (c_23 A 0 = c A 0) := (hF_25 A 0 (fun q => q.elim (fun h => absurd h.1 (np0 hA rfl)) (fun q => q.elim (fun h => absurd h.1 (np0 hA rfl)) (fun h => absurd h.1 (np0 hA rfl))))).trans ((up_c (p0p rfl)).trans (hid kn_30))
    refine v_gi (z := 0) (v := c A 0) rfl rfl (ck_p0 hA) (a68z hA) rfl rfl ((up_c (p0p rfl)).trans (hid kn_31)) ?_
    refine q_iconst rfl ?_
    refine v_iadd (v := c A 0 + 1) rfl rfl ?_
    refine v_pi (z := 0) rfl rfl (ck_p0 hA) (a68z hA) rfl rfl rfl (by decide) ?_
    refine q_goto (t := 126) rfl (by decide) ?_
    refine q_vret rfl rfl ?_
    have hI_32 := iw_p1 (j := 4 * c A 0 + 3) (v := y_26) hI_24 hA ⟨hy_26.1, by omega⟩
    have hI_33 := iw_p0_0 (v := c A 0 + 1) hI_32 hA ⟨by first | exact rgp_l h_1.1 (by decide) | omega, by omega⟩
    exact K (up (up c_23 (A + 1) (4 * c A 0 + 3) y_26) A 0 (c A 0 + 1)) hI_33 (fun a j hm => (up_b (Decidable.or_iff_not_imp_left.mpr (fun h1 h2 => hm (Or.inr (Or.inr (Or.inr (Or.inl ⟨Decidable.not_not.mp h1, h2⟩))))))).trans ((up_b (Decidable.or_iff_not_imp_left.mpr (fun h1 h2 => hm (Or.inr (Or.inr (Or.inr (Or.inr (Or.inr (Or.inr (Or.inr (Or.inl (Decidable.not_not.mp h1)))))))))))).trans ((hF_25 a j (fun q => q.elim (fun h => hm (Or.inl h)) (fun q => q.elim (fun h => hm (Or.inr (Or.inl h))) (fun h => hm (Or.inr (Or.inr (Or.inl h))))))).trans ((up_b (Decidable.or_iff_not_imp_left.mpr (fun h1 h2 => hm (Or.inr (Or.inr (Or.inr (Or.inr (Or.inr (Or.inr (Or.inr (Or.inl (Decidable.not_not.mp h1)))))))))))).trans ((hF_19 a j (fun q => q.elim (fun h => hm (Or.inl h)) (fun q => q.elim (fun h => hm (Or.inr (Or.inl h))) (fun h => hm (Or.inr (Or.inr (Or.inl h))))))).trans ((up_b (Decidable.or_iff_not_imp_left.mpr (fun h1 h2 => hm (Or.inr (Or.inr (Or.inr (Or.inr (Or.inr (Or.inr (Or.inr (Or.inl (Decidable.not_not.mp h1)))))))))))).trans ((hF_13 a j (fun q => q.elim (fun h => hm (Or.inl h)) (fun q => q.elim (fun h => hm (Or.inr (Or.inl h))) (fun h => hm (Or.inr (Or.inr (Or.inl h))))))).trans ((up_b (Decidable.or_iff_not_imp_left.mpr (fun h1 h2 => hm (Or.inr (Or.inr (Or.inr (Or.inr (Or.inr (Or.inr (Or.inr (Or.inl (Decidable.not_not.mp h1)))))))))))).trans (hF_7 a j (fun q => q.elim (fun h => hm (Or.inl h)) (fun q => q.elim (fun h => hm (Or.inr (Or.inl h))) (fun h => hm (Or.inr (Or.inr (Or.inl h)))))))))))))))
  by_cases h_34 : a2 = 1
  · skip
    refine v_tsw_i (t := 59) 1 rfl (by omega) (by decide) rfl (by decide) ?_
    refine q_aload_n rfl rfl ?_
    refine q_aload_n rfl rfl ?_
    refine v_gr (t := (A + 2)) rfl rfl (ck_p0 hA) (a68z hA) rfl ?_
    refine q_aload_n rfl rfl ?_
    refine v_gi (z := 1) (v := c A 1) rfl rfl (ck_p0 hA) (a68z hA) rfl rfl rfl ?_
    refine q_iconst rfl ?_
    refine v_imul (v := 3 * c A 1) rfl (by omega) ?_
    refine q_iconst rfl ?_
    refine v_bip rfl (by decide) ?_
    refine q_call rfl rfl rfl rfl ?_
    refine q_iload_n rfl rfl ?_
    refine q_istore rfl (by decide) ?_
    refine q_iload rfl rfl ?_
    refine q_iload_n rfl rfl ?_
    refine q_iload_n rfl rfl ?_
    refine v_iadd (v := 3 * c A 1 + 3) rfl rfl ?_
    refine v_ic_ge_f (t := 34) rfl (by decide) ⟨by omega, by omega, by omega⟩ ?_
    refine q_iload rfl rfl ?_
    refine q_aload_n rfl rfl ?_
    refine v_al rfl (ck_p2 hA) (a68 hA rfl) (by decide) ?_
    refine v_ic_ge_f (t := 34) rfl (by decide) ⟨by omega, by omega, by decide⟩ ?_
    refine q_aload_n rfl rfl ?_
    refine q_iload rfl rfl ?_
    refine q_aload_n rfl rfl ?_
    refine q_iload rfl rfl ?_
    refine v_cv rfl rfl rfl rfl (by decide) ⟨⟨rfl, rfl⟩, by decide, rfl⟩ (Nat.le_of_ble_eq_true rfl) (Nat.le_of_ble_eq_true rfl) (s_8 (a1 := 10) hI (show (-1) ≤ 10 ∧ 10 ≤ 9999 from ⟨by decide, by decide⟩) (fun c_35 y_38 hI_36 hF_37 hy_38 h_39 => ?_))
    refine bk_inl ?_
    refine v_is rfl (ck_p2 hA) (a68 hA rfl) (by decide) (by omega) ?_
    refine v_iinc (v := 3 * c A 1 + 1) rfl rfl (by decide) rfl ?_
    refine q_goto (t := 3) rfl (by decide) ?_
    refine q_iload rfl rfl ?_
    refine q_iload_n rfl rfl ?_
    refine q_iload_n rfl rfl ?_
    refine v_iadd (v := 3 * c A 1 + 3) rfl rfl ?_
    refine v_ic_ge_f (t := 34) rfl (by decide) ⟨by omega, by omega, by omega⟩ ?_
    refine q_iload rfl rfl ?_
    refine q_aload_n rfl rfl ?_
    refine v_al rfl (ck_p2 hA) (a68 hA rfl) (by decide) ?_
    refine v_ic_ge_f (t := 34) rfl (by decide) ⟨by omega, by omega, by decide⟩ ?_
    refine q_aload_n rfl rfl ?_
    refine q_iload rfl rfl ?_
    refine q_aload_n rfl rfl ?_
    refine q_iload rfl rfl ?_
    have hI_40 := iw_p2 (j := 3 * c A 1) (v := y_38) hI_36 hA ⟨hy_38.1, by omega⟩
    refine v_cv rfl rfl rfl rfl (by decide) ⟨⟨rfl, rfl⟩, by decide, rfl⟩ (Nat.le_of_ble_eq_true rfl) (Nat.le_of_ble_eq_true rfl) (s_8 (a1 := 10) hI_40 (show (-1) ≤ 10 ∧ 10 ≤ 9999 from ⟨by decide, by decide⟩) (fun c_41 y_44 hI_42 hF_43 hy_44 h_45 => ?_))
    refine bk_inl ?_
    refine v_is rfl (ck_p2 hA) (a68 hA rfl) (by decide) (by omega) ?_
    refine v_iinc (v := 3 * c A 1 + 2) rfl rfl (by decide) (by omega) ?_
    refine q_goto (t := 3) rfl (by decide) ?_
    refine q_iload rfl rfl ?_
    refine q_iload_n rfl rfl ?_
    refine q_iload_n rfl rfl ?_
    refine v_iadd (v := 3 * c A 1 + 3) rfl rfl ?_
    refine v_ic_ge_f (t := 34) rfl (by decide) ⟨by omega, by omega, by omega⟩ ?_
    refine q_iload rfl rfl ?_
    refine q_aload_n rfl rfl ?_
    refine v_al rfl (ck_p2 hA) (a68 hA rfl) (by decide) ?_
    refine v_ic_ge_f (t := 34) rfl (by decide) ⟨by omega, by omega, by decide⟩ ?_
    refine q_aload_n rfl rfl ?_
    refine q_iload rfl rfl ?_
    refine q_aload_n rfl rfl ?_
    refine q_iload rfl rfl ?_
    have hI_46 := iw_p2 (j := 3 * c A 1 + 1) (v := y_44) hI_42 hA ⟨hy_44.1, by omega⟩
    refine v_cv rfl rfl rfl rfl (by decide) ⟨⟨rfl, rfl⟩, by decide, rfl⟩ (Nat.le_of_ble_eq_true rfl) (Nat.le_of_ble_eq_true rfl) (s_8 (a1 := 10) hI_46 (show (-1) ≤ 10 ∧ 10 ≤ 9999 from ⟨by decide, by decide⟩) (fun c_47 y_50 hI_48 hF_49 hy_50 h_51 => ?_))
    refine bk_inl ?_
    refine v_is rfl (ck_p2 hA) (a68 hA rfl) (by decide) (by omega) ?_
    refine v_iinc (v := 3 * c A 1 + 3) rfl rfl (by decide) (by omega) ?_
    refine q_goto (t := 3) rfl (by decide) ?_
    refine q_iload rfl rfl ?_
    refine q_iload_n rfl rfl ?_
    refine q_iload_n rfl rfl ?_
    refine v_iadd (v := 3 * c A 1 + 3) rfl rfl ?_
    refine v_ic_ge_t (t := 34) rfl (by decide) ⟨by omega, by omega, by omega⟩ ?_
    refine q_vret rfl rfl ?_
    refine bk_inl ?_
    refine q_aload_n rfl rfl ?_
    refine q_dup rfl rfl ?_
    have kn_52 : Hid (c_35 A 1 = c A 1) := hF_37 A 1 (fun q => q.elim (fun h => absurd h.1 (np0 hA rfl)) (fun q => q.elim (fun h => absurd h.1 (np0 hA rfl)) (fun h => absurd h.1 (np0 hA rfl))))
    have kn_53 : Hid (c_41 A 1 = c A 1) := (hF_43 A 1 (fun q => q.elim (fun h => absurd h.1 (np0 hA rfl)) (fun q => q.elim (fun h => absurd h.1 (np0 hA rfl)) (fun h => absurd h.1 (np0 hA rfl))))).trans ((up_c (p0p rfl)).trans (hid kn_52))
    have kn_54 : Hid (c_47 A 1 = c A 1) := (hF_49 A 1 (fun q => q.elim (fun h => absurd h.1 (np0 hA rfl)) (fun q => q.elim (fun h => absurd h.1 (np0 hA rfl)) (fun h => absurd h.1 (np0 hA rfl))))).trans ((up_c (p0p rfl)).trans (hid kn_53))
    refine v_gi (z := 1) (v := c A 1) rfl rfl (ck_p0 hA) (a68z hA) rfl rfl ((up_c (p0p rfl)).trans (hid kn_54)) ?_
    refine q_iconst rfl ?_
    refine v_iadd (v := c A 1 + 1) rfl rfl ?_
    refine v_pi (z := 1) rfl rfl (ck_p0 hA) (a68z hA) rfl rfl rfl (by decide) ?_
    refine q_goto (t := 126) rfl (by decide) ?_
    refine q_vret rfl rfl ?_
    have hI_55 := iw_p2 (j := 3 * c A 1 + 2) (v := y_50) hI_48 hA ⟨hy_50.1, by omega⟩
    have hI_56 := iw_p0_1 (v := c A 1 + 1) hI_55 hA ⟨by first | exact rgp_l h_2.1 (by decide) | omega, by omega⟩
    exact K (up (up c_47 (A + 2) (3 * c A 1 + 2) y_50) A 1 (c A 1 + 1)) hI_56 (fun a j hm => (up_b (Decidable.or_iff_not_imp_left.mpr (fun h1 h2 => hm (Or.inr (Or.inr (Or.inr (Or.inr (Or.inl ⟨Decidable.not_not.mp h1, h2⟩)))))))).trans ((up_b (Decidable.or_iff_not_imp_left.mpr (fun h1 h2 => hm (Or.inr (Or.inr (Or.inr (Or.inr (Or.inr (Or.inr (Or.inr (Or.inr (Or.inl (Decidable.not_not.mp h1))))))))))))).trans ((hF_49 a j (fun q => q.elim (fun h => hm (Or.inl h)) (fun q => q.elim (fun h => hm (Or.inr (Or.inl h))) (fun h => hm (Or.inr (Or.inr (Or.inl h))))))).trans ((up_b (Decidable.or_iff_not_imp_left.mpr (fun h1 h2 => hm (Or.inr (Or.inr (Or.inr (Or.inr (Or.inr (Or.inr (Or.inr (Or.inr (Or.inl (Decidable.not_not.mp h1))))))))))))).trans ((hF_43 a j (fun q => q.elim (fun h => hm (Or.inl h)) (fun q => q.elim (fun h => hm (Or.inr (Or.inl h))) (fun h => hm (Or.inr (Or.inr (Or.inl h))))))).trans ((up_b (Decidable.or_iff_not_imp_left.mpr (fun h1 h2 => hm (Or.inr (Or.inr (Or.inr (Or.inr (Or.inr (Or.inr (Or.inr (Or.inr (Or.inl (Decidable.not_not.mp h1))))))))))))).trans (hF_37 a j (fun q => q.elim (fun h => hm (Or.inl h)) (fun q => q.elim (fun h => hm (Or.inr (Or.inl h))) (fun h => hm (Or.inr (Or.inr (Or.inl h)))))))))))))
  by_cases h_57 : a2 = 2
  · skip
    refine v_tsw_i (t := 89) 2 rfl (by omega) (by decide) rfl (by decide) ?_
    refine q_aload_n rfl rfl ?_
    refine q_aload_n rfl rfl ?_
    refine v_gr (t := (A + 3)) rfl rfl (ck_p0 hA) (a68z hA) rfl ?_
    refine q_aload_n rfl rfl ?_
    refine v_gi (z := 2) (v := c A 2) rfl rfl (ck_p0 hA) (a68z hA) rfl rfl rfl ?_
    refine q_iconst rfl ?_
    refine q_iconst rfl ?_
    refine q_call rfl rfl rfl rfl ?_
    refine q_iload_n rfl rfl ?_
    refine q_istore rfl (by decide) ?_
    refine q_iload rfl rfl ?_
    refine q_iload_n rfl rfl ?_
    refine q_iload_n rfl rfl ?_
    refine v_iadd (v := c A 2 + 1) rfl rfl ?_
    refine v_ic_ge_f (t := 34) rfl (by decide) ⟨(Int.le_trans (by decide) h_3.1), by omega, by first | exact rgp_h h_3.2 (by decide) | omega⟩ ?_
    refine q_iload rfl rfl ?_
    refine q_aload_n rfl rfl ?_
    refine v_al rfl (ck_p3 hA) (a68 hA rfl) (by decide) ?_
    refine v_ic_ge_f (t := 34) rfl (by decide) ⟨(Int.le_trans (by decide) h_3.1), by omega, by decide⟩ ?_
    refine q_aload_n rfl rfl ?_
    refine q_iload rfl rfl ?_
    refine q_aload_n rfl rfl ?_
    refine q_iload rfl rfl ?_
    refine v_cv rfl rfl rfl rfl (by decide) ⟨⟨rfl, rfl⟩, by decide, rfl⟩ (Nat.le_of_ble_eq_true rfl) (Nat.le_of_ble_eq_true rfl) (s_8 (a1 := 2) hI (show (-1) ≤ 2 ∧ 2 ≤ 9999 from ⟨by decide, by decide⟩) (fun c_58 y_61 hI_59 hF_60 hy_61 h_62 => ?_))
    refine bk_inl ?_
    refine v_is rfl (ck_p3 hA) (a68 hA rfl) (by decide) (by omega) ?_
    refine v_iinc (v := c A 2 + 1) rfl rfl (by decide) rfl ?_
    refine q_goto (t := 3) rfl (by decide) ?_
    refine q_iload rfl rfl ?_
    refine q_iload_n rfl rfl ?_
    refine q_iload_n rfl rfl ?_
    refine v_iadd (v := c A 2 + 1) rfl rfl ?_
    refine v_ic_ge_t (t := 34) rfl (by decide) ⟨by first | exact rgp_l h_3.1 (by decide) | omega, by omega, by first | exact rgp_h h_3.2 (by decide) | omega⟩ ?_
    refine q_vret rfl rfl ?_
    refine bk_inl ?_
    refine q_aload_n rfl rfl ?_
    refine q_dup rfl rfl ?_
    have kn_63 : Hid (c_58 A 2 = c A 2) := hF_60 A 2 (fun q => q.elim (fun h => absurd h.1 (np0 hA rfl)) (fun q => q.elim (fun h => absurd h.1 (np0 hA rfl)) (fun h => absurd h.1 (np0 hA rfl))))
    refine v_gi (z := 2) (v := c A 2) rfl rfl (ck_p0 hA) (a68z hA) rfl rfl ((up_c (p0p rfl)).trans (hid kn_63)) ?_
    refine q_iconst rfl ?_
    refine v_iadd (v := c A 2 + 1) rfl rfl ?_
    refine v_pi (z := 2) rfl rfl (ck_p0 hA) (a68z hA) rfl rfl rfl (by decide) ?_
    refine q_goto (t := 126) rfl (by decide) ?_
    refine q_vret rfl rfl ?_
    have hI_64 := iw_p3 (j := c A 2) (v := y_61) hI_59 hA ⟨hy_61.1, by omega⟩
    have hI_65 := iw_p0_2 (v := c A 2 + 1) hI_64 hA ⟨by first | exact rgp_l h_3.1 (by decide) | omega, by omega⟩
    exact K (up (up c_58 (A + 3) (c A 2) y_61) A 2 (c A 2 + 1)) hI_65 (fun a j hm => (up_b (Decidable.or_iff_not_imp_left.mpr (fun h1 h2 => hm (Or.inr (Or.inr (Or.inr (Or.inr (Or.inr (Or.inl ⟨Decidable.not_not.mp h1, h2⟩))))))))).trans ((up_b (Decidable.or_iff_not_imp_left.mpr (fun h1 h2 => hm (Or.inr (Or.inr (Or.inr (Or.inr (Or.inr (Or.inr (Or.inr (Or.inr (Or.inr (Decidable.not_not.mp h1))))))))))))).trans (hF_60 a j (fun q => q.elim (fun h => hm (Or.inl h)) (fun q => q.elim (fun h => hm (Or.inr (Or.inl h))) (fun h => hm (Or.inr (Or.inr (Or.inl h)))))))))
  refine v_tsw_o (t := 116) rfl (by omega) (by decide) ?_
  refine q_aload_n rfl rfl ?_
  refine q_aload_n rfl rfl ?_
  refine v_bip rfl (by decide) ?_
  refine v_cv rfl rfl rfl rfl (by decide) ⟨⟨rfl, rfl⟩, by decide, rfl⟩ (Nat.le_of_ble_eq_true rfl) (Nat.le_of_ble_eq_true rfl) (s_8 (a1 := 50) hI (show (-1) ≤ 50 ∧ 50 ≤ 9999 from ⟨by decide, by decide⟩) (fun c_66 y_69 hI_67 hF_68 hy_69 h_70 => ?_))
  refine bk_inl ?_
  refine v_pi (z := 3) rfl rfl (ck_p0 hA) (a68z hA) rfl rfl rfl (by decide) ?_
  refine q_vret rfl rfl ?_
  have hI_71 := iw_p0_3 (v := y_69) hI_67 hA ⟨hy_69.1, by omega⟩
  exact K (up c_66 A 3 y_69) hI_71 (fun a j hm => (up_b (Decidable.or_iff_not_imp_left.mpr (fun h1 h2 => hm (Or.inr (Or.inr (Or.inr (Or.inr (Or.inr (Or.inr (Or.inl ⟨Decidable.not_not.mp h1, h2⟩)))))))))).trans (hF_68 a j (fun q => q.elim (fun h => hm (Or.inl h)) (fun q => q.elim (fun h => hm (Or.inr (Or.inl h))) (fun h => hm (Or.inr (Or.inr (Or.inl h))))))))

set_option maxRecDepth 100000 in
set_option maxHeartbeats 4000000 in
theorem s_34_l {sc : List Int32} {e : Int} {d u P Q A : Nat} {c : ME} {Z : AR → Prop} (hI : Iv u e P Q c) (hA : A = 13 ∨ A = 25) (K : ∀ (c2 : ME), Iv u e P Q c2 → (∀ (a : Nat) (j : Int), ¬ ((a = 1 ∧ j = 2) ∨ (a = 1 ∧ j = 4) ∨ (a = 1 ∧ j = 5) ∨ (a = A ∧ j = 0) ∨ (a = A ∧ j = 1) ∨ (a = A ∧ j = 2) ∨ (a = A ∧ j = 3) ∨ a = (A + 1) ∨ a = (A + 2) ∨ a = (A + 3) ∨ (a = A ∧ j = 4) ∨ (a = A ∧ j = 5) ∨ a = (A + 6) ∨ (a = (A + 7) ∧ j = 4)) → c2 a j = c a j) → Z (.inl (none), Wd P Q P P c2, 0, 0)) : ∀ n : Nat, (∀ (c2 : ME) (v2 : Int), Iv u e P Q c2 → (∀ (a : Nat) (j : Int), ¬ ((a = 1 ∧ j = 2) ∨ (a = 1 ∧ j = 4) ∨ (a = 1 ∧ j = 5) ∨ (a = A ∧ j = 0) ∨ (a = A ∧ j = 1) ∨ (a = A ∧ j = 2) ∨ (a = A ∧ j = 3) ∨ a = (A + 1) ∨ a = (A + 2) ∨ a = (A + 3) ∨ (a = A ∧ j = 4) ∨ (a = A ∧ j = 5) ∨ a = (A + 6) ∨ (a = (A + 7) ∧ j = 4)) → c2 a j = c a j) → 0 ≤ v2 ∧ v2 ≤ 61 → 123 - 2 * v2 < (n : Int) → Wp sc (d + 12) 34 6 [(0, .ref A), (1, .ref 1), (2, vi v2)] [] (Wd P Q P P c2) 0 0 Z)
  | 0 => by intro c2 v2 hI2 hF hv2 hm9; have hP := iv_P hI; have hQ := iv_Q hI; exfalso; omega
  | n + 1 => by
    have hP := iv_P hI
    have hQ := iv_Q hI
    have ih := s_34_l (sc := sc) (d := d) hI hA K n
    intro c2 v2 hI2 hF hv2 hm9
    refine q_iload_n rfl rfl ?_
    refine v_bip rfl (by decide) ?_
    by_cases h_1 : v2 > 60
    · refine v_ic_gt_t (t := 85) rfl (by decide) ⟨by decide, h_1, (Int.le_trans hv2.2 (by decide))⟩ ?_
      refine q_vret rfl rfl ?_
      exact K c2 hI2 (fun a j hm => hF a j (fun q => q.elim (fun h => hm (Or.inl h)) (fun q => q.elim (fun h => hm (Or.inr (Or.inl h))) (fun q => q.elim (fun h => hm (Or.inr (Or.inr (Or.inl h)))) (fun q => q.elim (fun h => hm (Or.inr (Or.inr (Or.inr (Or.inl h))))) (fun q => q.elim (fun h => hm (Or.inr (Or.inr (Or.inr (Or.inr (Or.inl h)))))) (fun q => q.elim (fun h => hm (Or.inr (Or.inr (Or.inr (Or.inr (Or.inr (Or.inl h))))))) (fun q => q.elim (fun h => hm (Or.inr (Or.inr (Or.inr (Or.inr (Or.inr (Or.inr (Or.inl h)))))))) (fun q => q.elim (fun h => hm (Or.inr (Or.inr (Or.inr (Or.inr (Or.inr (Or.inr (Or.inr (Or.inl h))))))))) (fun q => q.elim (fun h => hm (Or.inr (Or.inr (Or.inr (Or.inr (Or.inr (Or.inr (Or.inr (Or.inr (Or.inl h)))))))))) (fun q => q.elim (fun h => hm (Or.inr (Or.inr (Or.inr (Or.inr (Or.inr (Or.inr (Or.inr (Or.inr (Or.inr (Or.inl h))))))))))) (fun q => q.elim (fun h => hm (Or.inr (Or.inr (Or.inr (Or.inr (Or.inr (Or.inr (Or.inr (Or.inr (Or.inr (Or.inr (Or.inl h)))))))))))) (fun q => q.elim (fun h => hm (Or.inr (Or.inr (Or.inr (Or.inr (Or.inr (Or.inr (Or.inr (Or.inr (Or.inr (Or.inr (Or.inr (Or.inl h))))))))))))) (fun q => q.elim (fun h => hm (Or.inr (Or.inr (Or.inr (Or.inr (Or.inr (Or.inr (Or.inr (Or.inr (Or.inr (Or.inr (Or.inr (Or.inr (Or.inl h)))))))))))))) (fun h => hm (Or.inr (Or.inr (Or.inr (Or.inr (Or.inr (Or.inr (Or.inr (Or.inr (Or.inr (Or.inr (Or.inr (Or.inr (Or.inr h))))))))))))))))))))))))))))
    · refine v_ic_gt_f (t := 85) rfl (by decide) ⟨(Int.le_trans (by decide) hv2.1), (Int.not_lt.mp h_1), by decide⟩ ?_
      refine q_aload_n rfl rfl ?_
      refine v_cv rfl rfl rfl rfl (by decide) ⟨⟨rfl, rfl⟩, by decide, rfl⟩ (Nat.le_of_ble_eq_true rfl) (Nat.le_of_ble_eq_true rfl) (s_15 hI2 (fun c_2 y_5 hI_3 hF_4 hy_5 => ?_))
      refine bk_inl ?_
      by_cases h_6 : y_5 = 0
      · refine v_if_eq_t (t := 85) rfl (by decide) h_6 ?_
        refine q_vret rfl rfl ?_
        exact K c_2 hI_3 (fun a j hm => (hF_4 a j (fun h => hm (Or.inl h))).trans (hF a j (fun q => q.elim (fun h => hm (Or.inl h)) (fun q => q.elim (fun h => hm (Or.inr (Or.inl h))) (fun q => q.elim (fun h => hm (Or.inr (Or.inr (Or.inl h)))) (fun q => q.elim (fun h => hm (Or.inr (Or.inr (Or.inr (Or.inl h))))) (fun q => q.elim (fun h => hm (Or.inr (Or.inr (Or.inr (Or.inr (Or.inl h)))))) (fun q => q.elim (fun h => hm (Or.inr (Or.inr (Or.inr (Or.inr (Or.inr (Or.inl h))))))) (fun q => q.elim (fun h => hm (Or.inr (Or.inr (Or.inr (Or.inr (Or.inr (Or.inr (Or.inl h)))))))) (fun q => q.elim (fun h => hm (Or.inr (Or.inr (Or.inr (Or.inr (Or.inr (Or.inr (Or.inr (Or.inl h))))))))) (fun q => q.elim (fun h => hm (Or.inr (Or.inr (Or.inr (Or.inr (Or.inr (Or.inr (Or.inr (Or.inr (Or.inl h)))))))))) (fun q => q.elim (fun h => hm (Or.inr (Or.inr (Or.inr (Or.inr (Or.inr (Or.inr (Or.inr (Or.inr (Or.inr (Or.inl h))))))))))) (fun q => q.elim (fun h => hm (Or.inr (Or.inr (Or.inr (Or.inr (Or.inr (Or.inr (Or.inr (Or.inr (Or.inr (Or.inr (Or.inl h)))))))))))) (fun q => q.elim (fun h => hm (Or.inr (Or.inr (Or.inr (Or.inr (Or.inr (Or.inr (Or.inr (Or.inr (Or.inr (Or.inr (Or.inr (Or.inl h))))))))))))) (fun q => q.elim (fun h => hm (Or.inr (Or.inr (Or.inr (Or.inr (Or.inr (Or.inr (Or.inr (Or.inr (Or.inr (Or.inr (Or.inr (Or.inr (Or.inl h)))))))))))))) (fun h => hm (Or.inr (Or.inr (Or.inr (Or.inr (Or.inr (Or.inr (Or.inr (Or.inr (Or.inr (Or.inr (Or.inr (Or.inr (Or.inr h)))))))))))))))))))))))))))))
      · refine v_if_eq_f (t := 85) rfl (by decide) ⟨h_6, ⟨(Int.le_trans (by decide) hy_5.1), (Int.le_trans hy_5.2 (by decide))⟩, by decide, by decide⟩ ?_
        refine q_aload_n rfl rfl ?_
        refine v_cv rfl rfl rfl rfl (by decide) ⟨⟨rfl, rfl⟩, by decide, rfl⟩ (Nat.le_of_ble_eq_true rfl) (Nat.le_of_ble_eq_true rfl) (s_3 hI_3 (fun c_7 y_10 hI_8 hF_9 hy_10 h_11 => ?_))
        refine bk_inl ?_
        have h_12 := ir_1_2 hI_8
        refine q_istore_n rfl (by decide) ?_
        refine q_aload_n rfl rfl ?_
        refine q_ldc_s rfl rfl rfl (by decide) ?_
        refine v_cv rfl rfl rfl rfl (by decide) ⟨⟨rfl, rfl⟩, by decide, rfl⟩ (Nat.le_of_ble_eq_true rfl) (Nat.le_of_ble_eq_true rfl) (s_10 hI_8 (q := 8) (nt := 20) (by decide) (by decide) (by decide) (fun c_13 y_16 hI_14 hF_15 hy_16 h_17 => ?_))
        refine bk_inl ?_
        have h_18 := ir_1_4 hI_14
        refine q_istore rfl (by decide) ?_
        refine q_iload rfl rfl ?_
        refine q_iconst rfl ?_
        by_cases h_19 : y_16 = (-1)
        · refine v_ic_eq_t (t := 59) rfl (by decide) h_19 ?_
          refine q_aload_n rfl rfl ?_
          refine v_cv rfl rfl rfl rfl (by decide) ⟨⟨rfl, rfl⟩, by decide, rfl⟩ (Nat.le_of_ble_eq_true rfl) (Nat.le_of_ble_eq_true rfl) ?_
          refine q_aload_n rfl rfl ?_
          refine v_gi (z := 4) (v := c_13 1 4) rfl rfl rfl (by decide) rfl rfl rfl ?_
          refine v_if_ne_t (t := 11) rfl (by decide) ⟨by omega, ⟨(Int.le_trans (by decide) h_18.1), (Int.le_trans h_18.2 (by decide))⟩, by decide, by decide⟩ ?_
          refine q_iconst rfl ?_
          refine v_zret rfl rfl (by decide) ?_
          refine bk_inl ?_
          refine v_if_eq_t (t := 73) rfl (by decide) (by decide) ?_
          refine q_aload_n rfl rfl ?_
          refine q_ldc_s rfl rfl rfl (by decide) ?_
          refine v_cv rfl rfl rfl rfl (by decide) ⟨⟨rfl, rfl⟩, by decide, rfl⟩ (Nat.le_of_ble_eq_true rfl) (Nat.le_of_ble_eq_true rfl) (s_11 hI_14 (q := 9) (nt := 1) (by decide) (by decide) (by decide) (fun c_20 hI_21 hF_22 => ?_))
          refine bk_inl ?_
          refine v_iinc (v := v2 + 1) rfl rfl (by decide) rfl ?_
          refine q_goto (t := 6) rfl (by decide) ?_
          refine Wp_ls [(0, .ref A), (1, .ref 1), (2, vi (v2 + 1))] (lsub_cons rfl (lsub_cons rfl (lsub_cons rfl lsub_nil))) ?_
          exact ih c_20 (v2 + 1) hI_21 (fun a j hm => (hF_22 a j (fun q => q.elim (fun h => hm (Or.inl h)) (fun q => q.elim (fun h => hm (Or.inr (Or.inl h))) (fun h => hm (Or.inr (Or.inr (Or.inl h))))))).trans ((hF_15 a j (fun q => q.elim (fun h => hm (Or.inl h)) (fun q => q.elim (fun h => hm (Or.inr (Or.inl h))) (fun h => hm (Or.inr (Or.inr (Or.inl h))))))).trans ((hF_9 a j (fun h => hm (Or.inl h))).trans ((hF_4 a j (fun h => hm (Or.inl h))).trans (hF a j (fun q => q.elim (fun h => hm (Or.inl h)) (fun q => q.elim (fun h => hm (Or.inr (Or.inl h))) (fun q => q.elim (fun h => hm (Or.inr (Or.inr (Or.inl h)))) (fun q => q.elim (fun h => hm (Or.inr (Or.inr (Or.inr (Or.inl h))))) (fun q => q.elim (fun h => hm (Or.inr (Or.inr (Or.inr (Or.inr (Or.inl h)))))) (fun q => q.elim (fun h => hm (Or.inr (Or.inr (Or.inr (Or.inr (Or.inr (Or.inl h))))))) (fun q => q.elim (fun h => hm (Or.inr (Or.inr (Or.inr (Or.inr (Or.inr (Or.inr (Or.inl h)))))))) (fun q => q.elim (fun h => hm (Or.inr (Or.inr (Or.inr (Or.inr (Or.inr (Or.inr (Or.inr (Or.inl h))))))))) (fun q => q.elim (fun h => hm (Or.inr (Or.inr (Or.inr (Or.inr (Or.inr (Or.inr (Or.inr (Or.inr (Or.inl h)))))))))) (fun q => q.elim (fun h => hm (Or.inr (Or.inr (Or.inr (Or.inr (Or.inr (Or.inr (Or.inr (Or.inr (Or.inr (Or.inl h))))))))))) (fun q => q.elim (fun h => hm (Or.inr (Or.inr (Or.inr (Or.inr (Or.inr (Or.inr (Or.inr (Or.inr (Or.inr (Or.inr (Or.inl h)))))))))))) (fun q => q.elim (fun h => hm (Or.inr (Or.inr (Or.inr (Or.inr (Or.inr (Or.inr (Or.inr (Or.inr (Or.inr (Or.inr (Or.inr (Or.inl h))))))))))))) (fun q => q.elim (fun h => hm (Or.inr (Or.inr (Or.inr (Or.inr (Or.inr (Or.inr (Or.inr (Or.inr (Or.inr (Or.inr (Or.inr (Or.inr (Or.inl h)))))))))))))) (fun h => hm (Or.inr (Or.inr (Or.inr (Or.inr (Or.inr (Or.inr (Or.inr (Or.inr (Or.inr (Or.inr (Or.inr (Or.inr (Or.inr h)))))))))))))))))))))))))))))))) ⟨by first | exact rgp_l hv2.1 (by decide) | omega, by omega⟩ (by omega)
        · refine v_ic_eq_f (t := 59) rfl (by decide) ⟨h_19, ⟨(Int.le_trans (by decide) hy_16.1), (Int.le_trans hy_16.2 (by decide))⟩, by decide, by decide⟩ ?_
          refine q_iload_n rfl rfl ?_
          refine v_bip rfl (by decide) ?_
          by_cases h_23 : v2 = 60
          · refine v_ic_eq_t (t := 53) rfl (by decide) h_23 ?_
            refine q_aload_n rfl rfl ?_
            refine q_iconst rfl ?_
            refine q_iload_n rfl rfl ?_
            refine v_cv rfl rfl rfl rfl (by decide) ⟨⟨rfl, rfl⟩, by decide, rfl⟩ (Nat.le_of_ble_eq_true rfl) (Nat.le_of_ble_eq_true rfl) (s_7 (a1 := 3) (a2 := y_10) hI_14 (show 1 ≤ 3 ∧ 3 ≤ 3 from ⟨by decide, by decide⟩) (show 0 ≤ y_10 ∧ y_10 ≤ 600 from hy_10) (fun c_24 hI_25 hF_26 h_27 => ?_))
            refine bk_inl ?_
            have h_28 := ir_1_4 hI_25
            refine q_aload_n rfl rfl ?_
            refine v_cv rfl rfl rfl rfl (by decide) ⟨⟨rfl, rfl⟩, by decide, rfl⟩ (Nat.le_of_ble_eq_true rfl) (Nat.le_of_ble_eq_true rfl) ?_
            refine q_aload_n rfl rfl ?_
            refine v_gi (z := 4) (v := c_24 1 4) rfl rfl rfl (by decide) rfl rfl rfl ?_
            refine v_if_ne_t (t := 11) rfl (by decide) ⟨by omega, ⟨(Int.le_trans (by decide) h_28.1), (Int.le_trans h_28.2 (by decide))⟩, by decide, by decide⟩ ?_
            refine q_iconst rfl ?_
            refine v_zret rfl rfl (by decide) ?_
            refine bk_inl ?_
            refine v_if_eq_t (t := 73) rfl (by decide) (by decide) ?_
            refine q_aload_n rfl rfl ?_
            refine q_ldc_s rfl rfl rfl (by decide) ?_
            refine v_cv rfl rfl rfl rfl (by decide) ⟨⟨rfl, rfl⟩, by decide, rfl⟩ (Nat.le_of_ble_eq_true rfl) (Nat.le_of_ble_eq_true rfl) (s_11 hI_25 (q := 9) (nt := 1) (by decide) (by decide) (by decide) (fun c_29 hI_30 hF_31 => ?_))
            refine bk_inl ?_
            refine v_iinc (v := v2 + 1) rfl rfl (by decide) rfl ?_
            refine q_goto (t := 6) rfl (by decide) ?_
            refine Wp_ls [(0, .ref A), (1, .ref 1), (2, vi (v2 + 1))] (lsub_cons rfl (lsub_cons rfl (lsub_cons rfl lsub_nil))) ?_
            exact ih c_29 (v2 + 1) hI_30 (fun a j hm => (hF_31 a j (fun q => q.elim (fun h => hm (Or.inl h)) (fun q => q.elim (fun h => hm (Or.inr (Or.inl h))) (fun h => hm (Or.inr (Or.inr (Or.inl h))))))).trans ((hF_26 a j (fun q => q.elim (fun h => hm (Or.inr (Or.inl h))) (fun h => hm (Or.inr (Or.inr (Or.inl h)))))).trans ((hF_15 a j (fun q => q.elim (fun h => hm (Or.inl h)) (fun q => q.elim (fun h => hm (Or.inr (Or.inl h))) (fun h => hm (Or.inr (Or.inr (Or.inl h))))))).trans ((hF_9 a j (fun h => hm (Or.inl h))).trans ((hF_4 a j (fun h => hm (Or.inl h))).trans (hF a j (fun q => q.elim (fun h => hm (Or.inl h)) (fun q => q.elim (fun h => hm (Or.inr (Or.inl h))) (fun q => q.elim (fun h => hm (Or.inr (Or.inr (Or.inl h)))) (fun q => q.elim (fun h => hm (Or.inr (Or.inr (Or.inr (Or.inl h))))) (fun q => q.elim (fun h => hm (Or.inr (Or.inr (Or.inr (Or.inr (Or.inl h)))))) (fun q => q.elim (fun h => hm (Or.inr (Or.inr (Or.inr (Or.inr (Or.inr (Or.inl h))))))) (fun q => q.elim (fun h => hm (Or.inr (Or.inr (Or.inr (Or.inr (Or.inr (Or.inr (Or.inl h)))))))) (fun q => q.elim (fun h => hm (Or.inr (Or.inr (Or.inr (Or.inr (Or.inr (Or.inr (Or.inr (Or.inl h))))))))) (fun q => q.elim (fun h => hm (Or.inr (Or.inr (Or.inr (Or.inr (Or.inr (Or.inr (Or.inr (Or.inr (Or.inl h)))))))))) (fun q => q.elim (fun h => hm (Or.inr (Or.inr (Or.inr (Or.inr (Or.inr (Or.inr (Or.inr (Or.inr (Or.inr (Or.inl h))))))))))) (fun q => q.elim (fun h => hm (Or.inr (Or.inr (Or.inr (Or.inr (Or.inr (Or.inr (Or.inr (Or.inr (Or.inr (Or.inr (Or.inl h)))))))))))) (fun q => q.elim (fun h => hm (Or.inr (Or.inr (Or.inr (Or.inr (Or.inr (Or.inr (Or.inr (Or.inr (Or.inr (Or.inr (Or.inr (Or.inl h))))))))))))) (fun q => q.elim (fun h => hm (Or.inr (Or.inr (Or.inr (Or.inr (Or.inr (Or.inr (Or.inr (Or.inr (Or.inr (Or.inr (Or.inr (Or.inr (Or.inl h)))))))))))))) (fun h => hm (Or.inr (Or.inr (Or.inr (Or.inr (Or.inr (Or.inr (Or.inr (Or.inr (Or.inr (Or.inr (Or.inr (Or.inr (Or.inr h))))))))))))))))))))))))))))))))) ⟨by first | exact rgp_l hv2.1 (by decide) | omega, by omega⟩ (by omega)
          · refine v_ic_eq_f (t := 53) rfl (by decide) ⟨h_23, ⟨(Int.le_trans (by decide) hv2.1), (Int.le_trans hv2.2 (by decide))⟩, by decide, by decide⟩ ?_
            refine q_aload_n rfl rfl ?_
            refine q_iload rfl rfl ?_
            refine v_cv rfl rfl rfl (ck_p0 hA) (a68z hA) ⟨⟨rfl, rfl⟩, by decide, rfl⟩ (Nat.le_of_ble_eq_true rfl) (Nat.le_of_ble_eq_true rfl) ?_
            refine q_iload_n rfl rfl ?_
            by_cases h_32 : y_16 = 0
            · skip
              refine v_tsw_i (t := 28) 0 rfl (by omega) (by decide) rfl (by decide) ?_
              refine q_aload_n rfl rfl ?_
              have h_33 := ir_p0_0 hI2 hA
              have kn_34 : Hid (c_2 A 0 = c2 A 0) := hF_4 A 0 (fun h => absurd h.1 (np0 hA rfl))
              have kn_35 : Hid (c_7 A 0 = c2 A 0) := (hF_9 A 0 (fun h => absurd h.1 (np0 hA rfl))).trans (hid kn_34)
              have kn_36 : Hid (c_13 A 0 = c2 A 0) := (hF_15 A 0 (fun q => q.elim (fun h => absurd h.1 (np0 hA rfl)) (fun q => q.elim (fun h => absurd h.1 (np0 hA rfl)) (fun h => absurd h.1 (np0 hA rfl))))).trans (hid kn_35)
              refine v_gi (z := 0) (v := c2 A 0) rfl rfl (ck_p0 hA) (a68z hA) rfl rfl (hid kn_36) ?_
              refine v_bip rfl (by decide) ?_
              by_cases h_37 : c2 A 0 ≠ 6
              · refine v_ic_ne_t (t := 41) rfl (by decide) ⟨h_37, ⟨by omega, by omega⟩, by decide, by decide⟩ ?_
                refine q_iconst rfl ?_
                refine v_zret rfl rfl (by decide) ?_
                refine bk_inl ?_
                refine v_if_eq_t (t := 59) rfl (by decide) (by decide) ?_
                refine q_aload_n rfl rfl ?_
                refine v_cv rfl rfl rfl rfl (by decide) ⟨⟨rfl, rfl⟩, by decide, rfl⟩ (Nat.le_of_ble_eq_true rfl) (Nat.le_of_ble_eq_true rfl) ?_
                refine q_aload_n rfl rfl ?_
                refine v_gi (z := 4) (v := c_13 1 4) rfl rfl rfl (by decide) rfl rfl rfl ?_
                by_cases h_38 : c_13 1 4 ≠ 0
                · refine v_if_ne_t (t := 11) rfl (by decide) ⟨h_38, ⟨(Int.le_trans (by decide) h_18.1), (Int.le_trans h_18.2 (by decide))⟩, by decide, by decide⟩ ?_
                  refine q_iconst rfl ?_
                  refine v_zret rfl rfl (by decide) ?_
                  refine bk_inl ?_
                  refine v_if_eq_t (t := 73) rfl (by decide) (by decide) ?_
                  refine q_aload_n rfl rfl ?_
                  refine q_ldc_s rfl rfl rfl (by decide) ?_
                  refine v_cv rfl rfl rfl rfl (by decide) ⟨⟨rfl, rfl⟩, by decide, rfl⟩ (Nat.le_of_ble_eq_true rfl) (Nat.le_of_ble_eq_true rfl) (s_11 hI_14 (q := 9) (nt := 1) (by decide) (by decide) (by decide) (fun c_39 hI_40 hF_41 => ?_))
                  refine bk_inl ?_
                  refine v_iinc (v := v2 + 1) rfl rfl (by decide) rfl ?_
                  refine q_goto (t := 6) rfl (by decide) ?_
                  refine Wp_ls [(0, .ref A), (1, .ref 1), (2, vi (v2 + 1))] (lsub_cons rfl (lsub_cons rfl (lsub_cons rfl lsub_nil))) ?_
                  exact ih c_39 (v2 + 1) hI_40 (fun a j hm => (hF_41 a j (fun q => q.elim (fun h => hm (Or.inl h)) (fun q => q.elim (fun h => hm (Or.inr (Or.inl h))) (fun h => hm (Or.inr (Or.inr (Or.inl h))))))).trans ((hF_15 a j (fun q => q.elim (fun h => hm (Or.inl h)) (fun q => q.elim (fun h => hm (Or.inr (Or.inl h))) (fun h => hm (Or.inr (Or.inr (Or.inl h))))))).trans ((hF_9 a j (fun h => hm (Or.inl h))).trans ((hF_4 a j (fun h => hm (Or.inl h))).trans (hF a j (fun q => q.elim (fun h => hm (Or.inl h)) (fun q => q.elim (fun h => hm (Or.inr (Or.inl h))) (fun q => q.elim (fun h => hm (Or.inr (Or.inr (Or.inl h)))) (fun q => q.elim (fun h => hm (Or.inr (Or.inr (Or.inr (Or.inl h))))) (fun q => q.elim (fun h => hm (Or.inr (Or.inr (Or.inr (Or.inr (Or.inl h)))))) (fun q => q.elim (fun h => hm (Or.inr (Or.inr (Or.inr (Or.inr (Or.inr (Or.inl h))))))) (fun q => q.elim (fun h => hm (Or.inr (Or.inr (Or.inr (Or.inr (Or.inr (Or.inr (Or.inl h)))))))) (fun q => q.elim (fun h => hm (Or.inr (Or.inr (Or.inr (Or.inr (Or.inr (Or.inr (Or.inr (Or.inl h))))))))) (fun q => q.elim (fun h => hm (Or.inr (Or.inr (Or.inr (Or.inr (Or.inr (Or.inr (Or.inr (Or.inr (Or.inl h)))))))))) (fun q => q.elim (fun h => hm (Or.inr (Or.inr (Or.inr (Or.inr (Or.inr (Or.inr (Or.inr (Or.inr (Or.inr (Or.inl h))))))))))) (fun q => q.elim (fun h => hm (Or.inr (Or.inr (Or.inr (Or.inr (Or.inr (Or.inr (Or.inr (Or.inr (Or.inr (Or.inr (Or.inl h)))))))))))) (fun q => q.elim (fun h => hm (Or.inr (Or.inr (Or.inr (Or.inr (Or.inr (Or.inr (Or.inr (Or.inr (Or.inr (Or.inr (Or.inr (Or.inl h))))))))))))) (fun q => q.elim (fun h => hm (Or.inr (Or.inr (Or.inr (Or.inr (Or.inr (Or.inr (Or.inr (Or.inr (Or.inr (Or.inr (Or.inr (Or.inr (Or.inl h)))))))))))))) (fun h => hm (Or.inr (Or.inr (Or.inr (Or.inr (Or.inr (Or.inr (Or.inr (Or.inr (Or.inr (Or.inr (Or.inr (Or.inr (Or.inr h)))))))))))))))))))))))))))))))) ⟨by first | exact rgp_l hv2.1 (by decide) | omega, by omega⟩ (by omega)
                · refine v_if_ne_f (t := 11) rfl (by decide) (Decidable.not_not.mp h_38) ?_
                  refine q_iconst rfl ?_
                  refine q_goto (t := 12) rfl (by decide) ?_
                  refine v_zret rfl rfl (by decide) ?_
                  refine bk_inl ?_
                  refine v_if_eq_f (t := 73) rfl (by decide) (by decide) ?_
                  refine q_aload_n rfl rfl ?_
                  refine q_aload_n rfl rfl ?_
                  refine q_iload rfl rfl ?_
                  have h_42 : c_13 A 0 = c2 A 0 := (hid kn_36)
                  have h_43 := ir_p0_1 hI2 hA
                  have kn_44 : Hid (c_2 A 1 = c2 A 1) := hF_4 A 1 (fun h => absurd h.1 (np0 hA rfl))
                  have kn_45 : Hid (c_7 A 1 = c2 A 1) := (hF_9 A 1 (fun h => absurd h.1 (np0 hA rfl))).trans (hid kn_44)
                  have kn_46 : Hid (c_13 A 1 = c2 A 1) := (hF_15 A 1 (fun q => q.elim (fun h => absurd h.1 (np0 hA rfl)) (fun q => q.elim (fun h => absurd h.1 (np0 hA rfl)) (fun h => absurd h.1 (np0 hA rfl))))).trans (hid kn_45)
                  have h_47 : c_13 A 1 = c2 A 1 := (hid kn_46)
                  have h_48 := ir_p0_2 hI2 hA
                  have kn_49 : Hid (c_2 A 2 = c2 A 2) := hF_4 A 2 (fun h => absurd h.1 (np0 hA rfl))
                  have kn_50 : Hid (c_7 A 2 = c2 A 2) := (hF_9 A 2 (fun h => absurd h.1 (np0 hA rfl))).trans (hid kn_49)
                  have kn_51 : Hid (c_13 A 2 = c2 A 2) := (hF_15 A 2 (fun q => q.elim (fun h => absurd h.1 (np0 hA rfl)) (fun q => q.elim (fun h => absurd h.1 (np0 hA rfl)) (fun h => absurd h.1 (np0 hA rfl))))).trans (hid kn_50)
                  have h_52 : c_13 A 2 = c2 A 2 := (hid kn_51)
                  refine v_cv rfl rfl rfl (ck_p0 hA) (a68z hA) ⟨⟨rfl, rfl⟩, by decide, rfl⟩ (Nat.le_of_ble_eq_true rfl) (Nat.le_of_ble_eq_true rfl) (s_33 (a2 := y_16) hI_14 hA (show 0 ≤ y_16 ∧ y_16 ≤ 100 from ⟨by omega, hy_16.2⟩) (Or.inr (by omega)) (Or.inl (by omega)) (Or.inl (by omega)) (fun c_53 hI_54 hF_55 => ?_))
                  refine bk_inl ?_
                  refine q_aload_n rfl rfl ?_
                  refine q_ldc_s rfl rfl rfl (by decide) ?_
                  refine v_cv rfl rfl rfl rfl (by decide) ⟨⟨rfl, rfl⟩, by decide, rfl⟩ (Nat.le_of_ble_eq_true rfl) (Nat.le_of_ble_eq_true rfl) (s_11 hI_54 (q := 9) (nt := 1) (by decide) (by decide) (by decide) (fun c_56 hI_57 hF_58 => ?_))
                  refine bk_inl ?_
                  refine v_iinc (v := v2 + 1) rfl rfl (by decide) rfl ?_
                  refine q_goto (t := 6) rfl (by decide) ?_
                  refine Wp_ls [(0, .ref A), (1, .ref 1), (2, vi (v2 + 1))] (lsub_cons rfl (lsub_cons rfl (lsub_cons rfl lsub_nil))) ?_
                  exact ih c_56 (v2 + 1) hI_57 (fun a j hm => (hF_58 a j (fun q => q.elim (fun h => hm (Or.inl h)) (fun q => q.elim (fun h => hm (Or.inr (Or.inl h))) (fun h => hm (Or.inr (Or.inr (Or.inl h))))))).trans ((hF_55 a j (fun q => q.elim (fun h => hm (Or.inl h)) (fun q => q.elim (fun h => hm (Or.inr (Or.inl h))) (fun q => q.elim (fun h => hm (Or.inr (Or.inr (Or.inl h)))) (fun q => q.elim (fun h => hm (Or.inr (Or.inr (Or.inr (Or.inl h))))) (fun q => q.elim (fun h => hm (Or.inr (Or.inr (Or.inr (Or.inr (Or.inl h)))))) (fun q => q.elim (fun h => hm (Or.inr (Or.inr (Or.inr (Or.inr (Or.inr (Or.inl h))))))) (fun q => q.elim (fun h => hm (Or.inr (Or.inr (Or.inr (Or.inr (Or.inr (Or.inr (Or.inl h)))))))) (fun q => q.elim (fun h => hm (Or.inr (Or.inr (Or.inr (Or.inr (Or.inr (Or.inr (Or.inr (Or.inl h))))))))) (fun q => q.elim (fun h => hm (Or.inr (Or.inr (Or.inr (Or.inr (Or.inr (Or.inr (Or.inr (Or.inr (Or.inl h)))))))))) (fun h => hm (Or.inr (Or.inr (Or.inr (Or.inr (Or.inr (Or.inr (Or.inr (Or.inr (Or.inr (Or.inl h))))))))))))))))))))).trans ((hF_15 a j (fun q => q.elim (fun h => hm (Or.inl h)) (fun q => q.elim (fun h => hm (Or.inr (Or.inl h))) (fun h => hm (Or.inr (Or.inr (Or.inl h))))))).trans ((hF_9 a j (fun h => hm (Or.inl h))).trans ((hF_4 a j (fun h => hm (Or.inl h))).trans (hF a j (fun q => q.elim (fun h => hm (Or.inl h)) (fun q => q.elim (fun h => hm (Or.inr (Or.inl h))) (fun q => q.elim (fun h => hm (Or.inr (Or.inr (Or.inl h)))) (fun q => q.elim (fun h => hm (Or.inr (Or.inr (Or.inr (Or.inl h))))) (fun q => q.elim (fun h => hm (Or.inr (Or.inr (Or.inr (Or.inr (Or.inl h)))))) (fun q => q.elim (fun h => hm (Or.inr (Or.inr (Or.inr (Or.inr (Or.inr (Or.inl h))))))) (fun q => q.elim (fun h => hm (Or.inr (Or.inr (Or.inr (Or.inr (Or.inr (Or.inr (Or.inl h)))))))) (fun q => q.elim (fun h => hm (Or.inr (Or.inr (Or.inr (Or.inr (Or.inr (Or.inr (Or.inr (Or.inl h))))))))) (fun q => q.elim (fun h => hm (Or.inr (Or.inr (Or.inr (Or.inr (Or.inr (Or.inr (Or.inr (Or.inr (Or.inl h)))))))))) (fun q => q.elim (fun h => hm (Or.inr (Or.inr (Or.inr (Or.inr (Or.inr (Or.inr (Or.inr (Or.inr (Or.inr (Or.inl h))))))))))) (fun q => q.elim (fun h => hm (Or.inr (Or.inr (Or.inr (Or.inr (Or.inr (Or.inr (Or.inr (Or.inr (Or.inr (Or.inr (Or.inl h)))))))))))) (fun q => q.elim (fun h => hm (Or.inr (Or.inr (Or.inr (Or.inr (Or.inr (Or.inr (Or.inr (Or.inr (Or.inr (Or.inr (Or.inr (Or.inl h))))))))))))) (fun q => q.elim (fun h => hm (Or.inr (Or.inr (Or.inr (Or.inr (Or.inr (Or.inr (Or.inr (Or.inr (Or.inr (Or.inr (Or.inr (Or.inr (Or.inl h)))))))))))))) (fun h => hm (Or.inr (Or.inr (Or.inr (Or.inr (Or.inr (Or.inr (Or.inr (Or.inr (Or.inr (Or.inr (Or.inr (Or.inr (Or.inr h))))))))))))))))))))))))))))))))) ⟨by first | exact rgp_l hv2.1 (by decide) | omega, by omega⟩ (by omega)
              · refine v_ic_ne_f (t := 41) rfl (by decide) (Decidable.not_not.mp h_37) ?_
                refine q_iconst rfl ?_
                refine q_goto (t := 42) rfl (by decide) ?_
                refine v_zret rfl rfl (by decide) ?_
                refine bk_inl ?_
                refine v_if_eq_f (t := 59) rfl (by decide) (by decide) ?_
                refine q_aload_n rfl rfl ?_
                refine q_iconst rfl ?_
                refine q_iload_n rfl rfl ?_
                refine v_cv rfl rfl rfl rfl (by decide) ⟨⟨rfl, rfl⟩, by decide, rfl⟩ (Nat.le_of_ble_eq_true rfl) (Nat.le_of_ble_eq_true rfl) (s_7 (a1 := 3) (a2 := y_10) hI_14 (show 1 ≤ 3 ∧ 3 ≤ 3 from ⟨by decide, by decide⟩) (show 0 ≤ y_10 ∧ y_10 ≤ 600 from hy_10) (fun c_59 hI_60 hF_61 h_62 => ?_))
                refine bk_inl ?_
                have h_63 := ir_1_4 hI_60
                refine q_aload_n rfl rfl ?_
                refine v_cv rfl rfl rfl rfl (by decide) ⟨⟨rfl, rfl⟩, by decide, rfl⟩ (Nat.le_of_ble_eq_true rfl) (Nat.le_of_ble_eq_true rfl) ?_
                refine q_aload_n rfl rfl ?_
                refine v_gi (z := 4) (v := c_59 1 4) rfl rfl rfl (by decide) rfl rfl rfl ?_
                refine v_if_ne_t (t := 11) rfl (by decide) ⟨by omega, ⟨(Int.le_trans (by decide) h_63.1), (Int.le_trans h_63.2 (by decide))⟩, by decide, by decide⟩ ?_
                refine q_iconst rfl ?_
                refine v_zret rfl rfl (by decide) ?_
                refine bk_inl ?_
                refine v_if_eq_t (t := 73) rfl (by decide) (by decide) ?_
                refine q_aload_n rfl rfl ?_
                refine q_ldc_s rfl rfl rfl (by decide) ?_
                refine v_cv rfl rfl rfl rfl (by decide) ⟨⟨rfl, rfl⟩, by decide, rfl⟩ (Nat.le_of_ble_eq_true rfl) (Nat.le_of_ble_eq_true rfl) (s_11 hI_60 (q := 9) (nt := 1) (by decide) (by decide) (by decide) (fun c_64 hI_65 hF_66 => ?_))
                refine bk_inl ?_
                refine v_iinc (v := v2 + 1) rfl rfl (by decide) rfl ?_
                refine q_goto (t := 6) rfl (by decide) ?_
                refine Wp_ls [(0, .ref A), (1, .ref 1), (2, vi (v2 + 1))] (lsub_cons rfl (lsub_cons rfl (lsub_cons rfl lsub_nil))) ?_
                exact ih c_64 (v2 + 1) hI_65 (fun a j hm => (hF_66 a j (fun q => q.elim (fun h => hm (Or.inl h)) (fun q => q.elim (fun h => hm (Or.inr (Or.inl h))) (fun h => hm (Or.inr (Or.inr (Or.inl h))))))).trans ((hF_61 a j (fun q => q.elim (fun h => hm (Or.inr (Or.inl h))) (fun h => hm (Or.inr (Or.inr (Or.inl h)))))).trans ((hF_15 a j (fun q => q.elim (fun h => hm (Or.inl h)) (fun q => q.elim (fun h => hm (Or.inr (Or.inl h))) (fun h => hm (Or.inr (Or.inr (Or.inl h))))))).trans ((hF_9 a j (fun h => hm (Or.inl h))).trans ((hF_4 a j (fun h => hm (Or.inl h))).trans (hF a j (fun q => q.elim (fun h => hm (Or.inl h)) (fun q => q.elim (fun h => hm (Or.inr (Or.inl h))) (fun q => q.elim (fun h => hm (Or.inr (Or.inr (Or.inl h)))) (fun q => q.elim (fun h => hm (Or.inr (Or.inr (Or.inr (Or.inl h))))) (fun q => q.elim (fun h => hm (Or.inr (Or.inr (Or.inr (Or.inr (Or.inl h)))))) (fun q => q.elim (fun h => hm (Or.inr (Or.inr (Or.inr (Or.inr (Or.inr (Or.inl h))))))) (fun q => q.elim (fun h => hm (Or.inr (Or.inr (Or.inr (Or.inr (Or.inr (Or.inr (Or.inl h)))))))) (fun q => q.elim (fun h => hm (Or.inr (Or.inr (Or.inr (Or.inr (Or.inr (Or.inr (Or.inr (Or.inl h))))))))) (fun q => q.elim (fun h => hm (Or.inr (Or.inr (Or.inr (Or.inr (Or.inr (Or.inr (Or.inr (Or.inr (Or.inl h)))))))))) (fun q => q.elim (fun h => hm (Or.inr (Or.inr (Or.inr (Or.inr (Or.inr (Or.inr (Or.inr (Or.inr (Or.inr (Or.inl h))))))))))) (fun q => q.elim (fun h => hm (Or.inr (Or.inr (Or.inr (Or.inr (Or.inr (Or.inr (Or.inr (Or.inr (Or.inr (Or.inr (Or.inl h)))))))))))) (fun q => q.elim (fun h => hm (Or.inr (Or.inr (Or.inr (Or.inr (Or.inr (Or.inr (Or.inr (Or.inr (Or.inr (Or.inr (Or.inr (Or.inl h))))))))))))) (fun q => q.elim (fun h => hm (Or.inr (Or.inr (Or.inr (Or.inr (Or.inr (Or.inr (Or.inr (Or.inr (Or.inr (Or.inr (Or.inr (Or.inr (Or.inl h)))))))))))))) (fun h => hm (Or.inr (Or.inr (Or.inr (Or.inr (Or.inr (Or.inr (Or.inr (Or.inr (Or.inr (Or.inr (Or.inr (Or.inr (Or.inr h))))))))))))))))))))))))))))))))) ⟨by first | exact rgp_l hv2.1 (by decide) | omega, by omega⟩ (by omega)
            by_cases h_67 : y_16 = 1
            · skip
              refine v_tsw_i (t := 43) 1 rfl (by omega) (by decide) rfl (by decide) ?_
              refine q_aload_n rfl rfl ?_
              have h_68 := ir_p0_1 hI2 hA
              have kn_69 : Hid (c_2 A 1 = c2 A 1) := hF_4 A 1 (fun h => absurd h.1 (np0 hA rfl))
              have kn_70 : Hid (c_7 A 1 = c2 A 1) := (hF_9 A 1 (fun h => absurd h.1 (np0 hA rfl))).trans (hid kn_69)
              have kn_71 : Hid (c_13 A 1 = c2 A 1) := (hF_15 A 1 (fun q => q.elim (fun h => absurd h.1 (np0 hA rfl)) (fun q => q.elim (fun h => absurd h.1 (np0 hA rfl)) (fun h => absurd h.1 (np0 hA rfl))))).trans (hid kn_70)
              refine v_gi (z := 1) (v := c2 A 1) rfl rfl (ck_p0 hA) (a68z hA) rfl rfl (hid kn_71) ?_
              refine q_iconst rfl ?_
              by_cases h_72 : c2 A 1 ≠ 4
              · refine v_ic_ne_t (t := 55) rfl (by decide) ⟨h_72, ⟨by omega, by omega⟩, by decide, by decide⟩ ?_
                refine q_iconst rfl ?_
                refine v_zret rfl rfl (by decide) ?_
                refine bk_inl ?_
                refine v_if_eq_t (t := 59) rfl (by decide) (by decide) ?_
                refine q_aload_n rfl rfl ?_
                refine v_cv rfl rfl rfl rfl (by decide) ⟨⟨rfl, rfl⟩, by decide, rfl⟩ (Nat.le_of_ble_eq_true rfl) (Nat.le_of_ble_eq_true rfl) ?_
                refine q_aload_n rfl rfl ?_
                refine v_gi (z := 4) (v := c_13 1 4) rfl rfl rfl (by decide) rfl rfl rfl ?_
                by_cases h_73 : c_13 1 4 ≠ 0
                · refine v_if_ne_t (t := 11) rfl (by decide) ⟨h_73, ⟨(Int.le_trans (by decide) h_18.1), (Int.le_trans h_18.2 (by decide))⟩, by decide, by decide⟩ ?_
                  refine q_iconst rfl ?_
                  refine v_zret rfl rfl (by decide) ?_
                  refine bk_inl ?_
                  refine v_if_eq_t (t := 73) rfl (by decide) (by decide) ?_
                  refine q_aload_n rfl rfl ?_
                  refine q_ldc_s rfl rfl rfl (by decide) ?_
                  refine v_cv rfl rfl rfl rfl (by decide) ⟨⟨rfl, rfl⟩, by decide, rfl⟩ (Nat.le_of_ble_eq_true rfl) (Nat.le_of_ble_eq_true rfl) (s_11 hI_14 (q := 9) (nt := 1) (by decide) (by decide) (by decide) (fun c_74 hI_75 hF_76 => ?_))
                  refine bk_inl ?_
                  refine v_iinc (v := v2 + 1) rfl rfl (by decide) rfl ?_
                  refine q_goto (t := 6) rfl (by decide) ?_
                  refine Wp_ls [(0, .ref A), (1, .ref 1), (2, vi (v2 + 1))] (lsub_cons rfl (lsub_cons rfl (lsub_cons rfl lsub_nil))) ?_
                  exact ih c_74 (v2 + 1) hI_75 (fun a j hm => (hF_76 a j (fun q => q.elim (fun h => hm (Or.inl h)) (fun q => q.elim (fun h => hm (Or.inr (Or.inl h))) (fun h => hm (Or.inr (Or.inr (Or.inl h))))))).trans ((hF_15 a j (fun q => q.elim (fun h => hm (Or.inl h)) (fun q => q.elim (fun h => hm (Or.inr (Or.inl h))) (fun h => hm (Or.inr (Or.inr (Or.inl h))))))).trans ((hF_9 a j (fun h => hm (Or.inl h))).trans ((hF_4 a j (fun h => hm (Or.inl h))).trans (hF a j (fun q => q.elim (fun h => hm (Or.inl h)) (fun q => q.elim (fun h => hm (Or.inr (Or.inl h))) (fun q => q.elim (fun h => hm (Or.inr (Or.inr (Or.inl h)))) (fun q => q.elim (fun h => hm (Or.inr (Or.inr (Or.inr (Or.inl h))))) (fun q => q.elim (fun h => hm (Or.inr (Or.inr (Or.inr (Or.inr (Or.inl h)))))) (fun q => q.elim (fun h => hm (Or.inr (Or.inr (Or.inr (Or.inr (Or.inr (Or.inl h))))))) (fun q => q.elim (fun h => hm (Or.inr (Or.inr (Or.inr (Or.inr (Or.inr (Or.inr (Or.inl h)))))))) (fun q => q.elim (fun h => hm (Or.inr (Or.inr (Or.inr (Or.inr (Or.inr (Or.inr (Or.inr (Or.inl h))))))))) (fun q => q.elim (fun h => hm (Or.inr (Or.inr (Or.inr (Or.inr (Or.inr (Or.inr (Or.inr (Or.inr (Or.inl h)))))))))) (fun q => q.elim (fun h => hm (Or.inr (Or.inr (Or.inr (Or.inr (Or.inr (Or.inr (Or.inr (Or.inr (Or.inr (Or.inl h))))))))))) (fun q => q.elim (fun h => hm (Or.inr (Or.inr (Or.inr (Or.inr (Or.inr (Or.inr (Or.inr (Or.inr (Or.inr (Or.inr (Or.inl h)))))))))))) (fun q => q.elim (fun h => hm (Or.inr (Or.inr (Or.inr (Or.inr (Or.inr (Or.inr (Or.inr (Or.inr (Or.inr (Or.inr (Or.inr (Or.inl h))))))))))))) (fun q => q.elim (fun h => hm (Or.inr (Or.inr (Or.inr (Or.inr (Or.inr (Or.inr (Or.inr (Or.inr (Or.inr (Or.inr (Or.inr (Or.inr (Or.inl h)))))))))))))) (fun h => hm (Or.inr (Or.inr (Or.inr (Or.inr (Or.inr (Or.inr (Or.inr (Or.inr (Or.inr (Or.inr (Or.inr (Or.inr (Or.inr h)))))))))))))))))))))))))))))))) ⟨by first | exact rgp_l hv2.1 (by decide) | omega, by omega⟩ (by omega)
                · refine v_if_ne_f (t := 11) rfl (by decide) (Decidable.not_not.mp h_73) ?_
                  refine q_iconst rfl ?_
                  refine q_goto (t := 12) rfl (by decide) ?_
                  refine v_zret rfl rfl (by decide) ?_
                  refine bk_inl ?_
                  refine v_if_eq_f (t := 73) rfl (by decide) (by decide) ?_
                  refine q_aload_n rfl rfl ?_
                  refine q_aload_n rfl rfl ?_
                  refine q_iload rfl rfl ?_
                  have h_77 := ir_p0_0 hI2 hA
                  have kn_78 : Hid (c_2 A 0 = c2 A 0) := hF_4 A 0 (fun h => absurd h.1 (np0 hA rfl))
                  have kn_79 : Hid (c_7 A 0 = c2 A 0) := (hF_9 A 0 (fun h => absurd h.1 (np0 hA rfl))).trans (hid kn_78)
                  have kn_80 : Hid (c_13 A 0 = c2 A 0) := (hF_15 A 0 (fun q => q.elim (fun h => absurd h.1 (np0 hA rfl)) (fun q => q.elim (fun h => absurd h.1 (np0 hA rfl)) (fun h => absurd h.1 (np0 hA rfl))))).trans (hid kn_79)
                  have h_81 : c_13 A 0 = c2 A 0 := (hid kn_80)
                  have h_82 : c_13 A 1 = c2 A 1 := (hid kn_71)
                  have h_83 := ir_p0_2 hI2 hA
                  have kn_84 : Hid (c_2 A 2 = c2 A 2) := hF_4 A 2 (fun h => absurd h.1 (np0 hA rfl))
                  have kn_85 : Hid (c_7 A 2 = c2 A 2) := (hF_9 A 2 (fun h => absurd h.1 (np0 hA rfl))).trans (hid kn_84)
                  have kn_86 : Hid (c_13 A 2 = c2 A 2) := (hF_15 A 2 (fun q => q.elim (fun h => absurd h.1 (np0 hA rfl)) (fun q => q.elim (fun h => absurd h.1 (np0 hA rfl)) (fun h => absurd h.1 (np0 hA rfl))))).trans (hid kn_85)
                  have h_87 : c_13 A 2 = c2 A 2 := (hid kn_86)
                  refine v_cv rfl rfl rfl (ck_p0 hA) (a68z hA) ⟨⟨rfl, rfl⟩, by decide, rfl⟩ (Nat.le_of_ble_eq_true rfl) (Nat.le_of_ble_eq_true rfl) (s_33 (a2 := y_16) hI_14 hA (show 0 ≤ y_16 ∧ y_16 ≤ 100 from ⟨by omega, hy_16.2⟩) (Or.inl (by omega)) (Or.inr (by omega)) (Or.inl (by omega)) (fun c_88 hI_89 hF_90 => ?_))
                  refine bk_inl ?_
                  refine q_aload_n rfl rfl ?_
                  refine q_ldc_s rfl rfl rfl (by decide) ?_
                  refine v_cv rfl rfl rfl rfl (by decide) ⟨⟨rfl, rfl⟩, by decide, rfl⟩ (Nat.le_of_ble_eq_true rfl) (Nat.le_of_ble_eq_true rfl) (s_11 hI_89 (q := 9) (nt := 1) (by decide) (by decide) (by decide) (fun c_91 hI_92 hF_93 => ?_))
                  refine bk_inl ?_
                  refine v_iinc (v := v2 + 1) rfl rfl (by decide) rfl ?_
                  refine q_goto (t := 6) rfl (by decide) ?_
                  refine Wp_ls [(0, .ref A), (1, .ref 1), (2, vi (v2 + 1))] (lsub_cons rfl (lsub_cons rfl (lsub_cons rfl lsub_nil))) ?_
                  exact ih c_91 (v2 + 1) hI_92 (fun a j hm => (hF_93 a j (fun q => q.elim (fun h => hm (Or.inl h)) (fun q => q.elim (fun h => hm (Or.inr (Or.inl h))) (fun h => hm (Or.inr (Or.inr (Or.inl h))))))).trans ((hF_90 a j (fun q => q.elim (fun h => hm (Or.inl h)) (fun q => q.elim (fun h => hm (Or.inr (Or.inl h))) (fun q => q.elim (fun h => hm (Or.inr (Or.inr (Or.inl h)))) (fun q => q.elim (fun h => hm (Or.inr (Or.inr (Or.inr (Or.inl h))))) (fun q => q.elim (fun h => hm (Or.inr (Or.inr (Or.inr (Or.inr (Or.inl h)))))) (fun q => q.elim (fun h => hm (Or.inr (Or.inr (Or.inr (Or.inr (Or.inr (Or.inl h))))))) (fun q => q.elim (fun h => hm (Or.inr (Or.inr (Or.inr (Or.inr (Or.inr (Or.inr (Or.inl h)))))))) (fun q => q.elim (fun h => hm (Or.inr (Or.inr (Or.inr (Or.inr (Or.inr (Or.inr (Or.inr (Or.inl h))))))))) (fun q => q.elim (fun h => hm (Or.inr (Or.inr (Or.inr (Or.inr (Or.inr (Or.inr (Or.inr (Or.inr (Or.inl h)))))))))) (fun h => hm (Or.inr (Or.inr (Or.inr (Or.inr (Or.inr (Or.inr (Or.inr (Or.inr (Or.inr (Or.inl h))))))))))))))))))))).trans ((hF_15 a j (fun q => q.elim (fun h => hm (Or.inl h)) (fun q => q.elim (fun h => hm (Or.inr (Or.inl h))) (fun h => hm (Or.inr (Or.inr (Or.inl h))))))).trans ((hF_9 a j (fun h => hm (Or.inl h))).trans ((hF_4 a j (fun h => hm (Or.inl h))).trans (hF a j (fun q => q.elim (fun h => hm (Or.inl h)) (fun q => q.elim (fun h => hm (Or.inr (Or.inl h))) (fun q => q.elim (fun h => hm (Or.inr (Or.inr (Or.inl h)))) (fun q => q.elim (fun h => hm (Or.inr (Or.inr (Or.inr (Or.inl h))))) (fun q => q.elim (fun h => hm (Or.inr (Or.inr (Or.inr (Or.inr (Or.inl h)))))) (fun q => q.elim (fun h => hm (Or.inr (Or.inr (Or.inr (Or.inr (Or.inr (Or.inl h))))))) (fun q => q.elim (fun h => hm (Or.inr (Or.inr (Or.inr (Or.inr (Or.inr (Or.inr (Or.inl h)))))))) (fun q => q.elim (fun h => hm (Or.inr (Or.inr (Or.inr (Or.inr (Or.inr (Or.inr (Or.inr (Or.inl h))))))))) (fun q => q.elim (fun h => hm (Or.inr (Or.inr (Or.inr (Or.inr (Or.inr (Or.inr (Or.inr (Or.inr (Or.inl h)))))))))) (fun q => q.elim (fun h => hm (Or.inr (Or.inr (Or.inr (Or.inr (Or.inr (Or.inr (Or.inr (Or.inr (Or.inr (Or.inl h))))))))))) (fun q => q.elim (fun h => hm (Or.inr (Or.inr (Or.inr (Or.inr (Or.inr (Or.inr (Or.inr (Or.inr (Or.inr (Or.inr (Or.inl h)))))))))))) (fun q => q.elim (fun h => hm (Or.inr (Or.inr (Or.inr (Or.inr (Or.inr (Or.inr (Or.inr (Or.inr (Or.inr (Or.inr (Or.inr (Or.inl h))))))))))))) (fun q => q.elim (fun h => hm (Or.inr (Or.inr (Or.inr (Or.inr (Or.inr (Or.inr (Or.inr (Or.inr (Or.inr (Or.inr (Or.inr (Or.inr (Or.inl h)))))))))))))) (fun h => hm (Or.inr (Or.inr (Or.inr (Or.inr (Or.inr (Or.inr (Or.inr (Or.inr (Or.inr (Or.inr (Or.inr (Or.inr (Or.inr h))))))))))))))))))))))))))))))))) ⟨by first | exact rgp_l hv2.1 (by decide) | omega, by omega⟩ (by omega)
              · refine v_ic_ne_f (t := 55) rfl (by decide) (Decidable.not_not.mp h_72) ?_
                refine q_iconst rfl ?_
                refine q_goto (t := 56) rfl (by decide) ?_
                refine v_zret rfl rfl (by decide) ?_
                refine bk_inl ?_
                refine v_if_eq_f (t := 59) rfl (by decide) (by decide) ?_
                refine q_aload_n rfl rfl ?_
                refine q_iconst rfl ?_
                refine q_iload_n rfl rfl ?_
                refine v_cv rfl rfl rfl rfl (by decide) ⟨⟨rfl, rfl⟩, by decide, rfl⟩ (Nat.le_of_ble_eq_true rfl) (Nat.le_of_ble_eq_true rfl) (s_7 (a1 := 3) (a2 := y_10) hI_14 (show 1 ≤ 3 ∧ 3 ≤ 3 from ⟨by decide, by decide⟩) (show 0 ≤ y_10 ∧ y_10 ≤ 600 from hy_10) (fun c_94 hI_95 hF_96 h_97 => ?_))
                refine bk_inl ?_
                have h_98 := ir_1_4 hI_95
                refine q_aload_n rfl rfl ?_
                refine v_cv rfl rfl rfl rfl (by decide) ⟨⟨rfl, rfl⟩, by decide, rfl⟩ (Nat.le_of_ble_eq_true rfl) (Nat.le_of_ble_eq_true rfl) ?_
                refine q_aload_n rfl rfl ?_
                refine v_gi (z := 4) (v := c_94 1 4) rfl rfl rfl (by decide) rfl rfl rfl ?_
                refine v_if_ne_t (t := 11) rfl (by decide) ⟨by omega, ⟨(Int.le_trans (by decide) h_98.1), (Int.le_trans h_98.2 (by decide))⟩, by decide, by decide⟩ ?_
                refine q_iconst rfl ?_
                refine v_zret rfl rfl (by decide) ?_
                refine bk_inl ?_
                refine v_if_eq_t (t := 73) rfl (by decide) (by decide) ?_
                refine q_aload_n rfl rfl ?_
                refine q_ldc_s rfl rfl rfl (by decide) ?_
                refine v_cv rfl rfl rfl rfl (by decide) ⟨⟨rfl, rfl⟩, by decide, rfl⟩ (Nat.le_of_ble_eq_true rfl) (Nat.le_of_ble_eq_true rfl) (s_11 hI_95 (q := 9) (nt := 1) (by decide) (by decide) (by decide) (fun c_99 hI_100 hF_101 => ?_))
                refine bk_inl ?_
                refine v_iinc (v := v2 + 1) rfl rfl (by decide) rfl ?_
                refine q_goto (t := 6) rfl (by decide) ?_
                refine Wp_ls [(0, .ref A), (1, .ref 1), (2, vi (v2 + 1))] (lsub_cons rfl (lsub_cons rfl (lsub_cons rfl lsub_nil))) ?_
                exact ih c_99 (v2 + 1) hI_100 (fun a j hm => (hF_101 a j (fun q => q.elim (fun h => hm (Or.inl h)) (fun q => q.elim (fun h => hm (Or.inr (Or.inl h))) (fun h => hm (Or.inr (Or.inr (Or.inl h))))))).trans ((hF_96 a j (fun q => q.elim (fun h => hm (Or.inr (Or.inl h))) (fun h => hm (Or.inr (Or.inr (Or.inl h)))))).trans ((hF_15 a j (fun q => q.elim (fun h => hm (Or.inl h)) (fun q => q.elim (fun h => hm (Or.inr (Or.inl h))) (fun h => hm (Or.inr (Or.inr (Or.inl h))))))).trans ((hF_9 a j (fun h => hm (Or.inl h))).trans ((hF_4 a j (fun h => hm (Or.inl h))).trans (hF a j (fun q => q.elim (fun h => hm (Or.inl h)) (fun q => q.elim (fun h => hm (Or.inr (Or.inl h))) (fun q => q.elim (fun h => hm (Or.inr (Or.inr (Or.inl h)))) (fun q => q.elim (fun h => hm (Or.inr (Or.inr (Or.inr (Or.inl h))))) (fun q => q.elim (fun h => hm (Or.inr (Or.inr (Or.inr (Or.inr (Or.inl h)))))) (fun q => q.elim (fun h => hm (Or.inr (Or.inr (Or.inr (Or.inr (Or.inr (Or.inl h))))))) (fun q => q.elim (fun h => hm (Or.inr (Or.inr (Or.inr (Or.inr (Or.inr (Or.inr (Or.inl h)))))))) (fun q => q.elim (fun h => hm (Or.inr (Or.inr (Or.inr (Or.inr (Or.inr (Or.inr (Or.inr (Or.inl h))))))))) (fun q => q.elim (fun h => hm (Or.inr (Or.inr (Or.inr (Or.inr (Or.inr (Or.inr (Or.inr (Or.inr (Or.inl h)))))))))) (fun q => q.elim (fun h => hm (Or.inr (Or.inr (Or.inr (Or.inr (Or.inr (Or.inr (Or.inr (Or.inr (Or.inr (Or.inl h))))))))))) (fun q => q.elim (fun h => hm (Or.inr (Or.inr (Or.inr (Or.inr (Or.inr (Or.inr (Or.inr (Or.inr (Or.inr (Or.inr (Or.inl h)))))))))))) (fun q => q.elim (fun h => hm (Or.inr (Or.inr (Or.inr (Or.inr (Or.inr (Or.inr (Or.inr (Or.inr (Or.inr (Or.inr (Or.inr (Or.inl h))))))))))))) (fun q => q.elim (fun h => hm (Or.inr (Or.inr (Or.inr (Or.inr (Or.inr (Or.inr (Or.inr (Or.inr (Or.inr (Or.inr (Or.inr (Or.inr (Or.inl h)))))))))))))) (fun h => hm (Or.inr (Or.inr (Or.inr (Or.inr (Or.inr (Or.inr (Or.inr (Or.inr (Or.inr (Or.inr (Or.inr (Or.inr (Or.inr h))))))))))))))))))))))))))))))))) ⟨by first | exact rgp_l hv2.1 (by decide) | omega, by omega⟩ (by omega)
            by_cases h_102 : y_16 = 2
            · skip
              refine v_tsw_i (t := 57) 2 rfl (by omega) (by decide) rfl (by decide) ?_
              refine q_aload_n rfl rfl ?_
              have h_103 := ir_p0_2 hI2 hA
              have kn_104 : Hid (c_2 A 2 = c2 A 2) := hF_4 A 2 (fun h => absurd h.1 (np0 hA rfl))
              have kn_105 : Hid (c_7 A 2 = c2 A 2) := (hF_9 A 2 (fun h => absurd h.1 (np0 hA rfl))).trans (hid kn_104)
              have kn_106 : Hid (c_13 A 2 = c2 A 2) := (hF_15 A 2 (fun q => q.elim (fun h => absurd h.1 (np0 hA rfl)) (fun q => q.elim (fun h => absurd h.1 (np0 hA rfl)) (fun h => absurd h.1 (np0 hA rfl))))).trans (hid kn_105)
              refine v_gi (z := 2) (v := c2 A 2) rfl rfl (ck_p0 hA) (a68z hA) rfl rfl (hid kn_106) ?_
              refine q_iconst rfl ?_
              by_cases h_107 : c2 A 2 ≠ 4
              · refine v_ic_ne_t (t := 69) rfl (by decide) ⟨h_107, ⟨by omega, by omega⟩, by decide, by decide⟩ ?_
                refine q_iconst rfl ?_
                refine v_zret rfl rfl (by decide) ?_
                refine bk_inl ?_
                refine v_if_eq_t (t := 59) rfl (by decide) (by decide) ?_
                refine q_aload_n rfl rfl ?_
                refine v_cv rfl rfl rfl rfl (by decide) ⟨⟨rfl, rfl⟩, by decide, rfl⟩ (Nat.le_of_ble_eq_true rfl) (Nat.le_of_ble_eq_true rfl) ?_
                refine q_aload_n rfl rfl ?_
                refine v_gi (z := 4) (v := c_13 1 4) rfl rfl rfl (by decide) rfl rfl rfl ?_
                by_cases h_108 : c_13 1 4 ≠ 0
                · refine v_if_ne_t (t := 11) rfl (by decide) ⟨h_108, ⟨(Int.le_trans (by decide) h_18.1), (Int.le_trans h_18.2 (by decide))⟩, by decide, by decide⟩ ?_
                  refine q_iconst rfl ?_
                  refine v_zret rfl rfl (by decide) ?_
                  refine bk_inl ?_
                  refine v_if_eq_t (t := 73) rfl (by decide) (by decide) ?_
                  refine q_aload_n rfl rfl ?_
                  refine q_ldc_s rfl rfl rfl (by decide) ?_
                  refine v_cv rfl rfl rfl rfl (by decide) ⟨⟨rfl, rfl⟩, by decide, rfl⟩ (Nat.le_of_ble_eq_true rfl) (Nat.le_of_ble_eq_true rfl) (s_11 hI_14 (q := 9) (nt := 1) (by decide) (by decide) (by decide) (fun c_109 hI_110 hF_111 => ?_))
                  refine bk_inl ?_
                  refine v_iinc (v := v2 + 1) rfl rfl (by decide) rfl ?_
                  refine q_goto (t := 6) rfl (by decide) ?_
                  refine Wp_ls [(0, .ref A), (1, .ref 1), (2, vi (v2 + 1))] (lsub_cons rfl (lsub_cons rfl (lsub_cons rfl lsub_nil))) ?_
                  exact ih c_109 (v2 + 1) hI_110 (fun a j hm => (hF_111 a j (fun q => q.elim (fun h => hm (Or.inl h)) (fun q => q.elim (fun h => hm (Or.inr (Or.inl h))) (fun h => hm (Or.inr (Or.inr (Or.inl h))))))).trans ((hF_15 a j (fun q => q.elim (fun h => hm (Or.inl h)) (fun q => q.elim (fun h => hm (Or.inr (Or.inl h))) (fun h => hm (Or.inr (Or.inr (Or.inl h))))))).trans ((hF_9 a j (fun h => hm (Or.inl h))).trans ((hF_4 a j (fun h => hm (Or.inl h))).trans (hF a j (fun q => q.elim (fun h => hm (Or.inl h)) (fun q => q.elim (fun h => hm (Or.inr (Or.inl h))) (fun q => q.elim (fun h => hm (Or.inr (Or.inr (Or.inl h)))) (fun q => q.elim (fun h => hm (Or.inr (Or.inr (Or.inr (Or.inl h))))) (fun q => q.elim (fun h => hm (Or.inr (Or.inr (Or.inr (Or.inr (Or.inl h)))))) (fun q => q.elim (fun h => hm (Or.inr (Or.inr (Or.inr (Or.inr (Or.inr (Or.inl h))))))) (fun q => q.elim (fun h => hm (Or.inr (Or.inr (Or.inr (Or.inr (Or.inr (Or.inr (Or.inl h)))))))) (fun q => q.elim (fun h => hm (Or.inr (Or.inr (Or.inr (Or.inr (Or.inr (Or.inr (Or.inr (Or.inl h))))))))) (fun q => q.elim (fun h => hm (Or.inr (Or.inr (Or.inr (Or.inr (Or.inr (Or.inr (Or.inr (Or.inr (Or.inl h)))))))))) (fun q => q.elim (fun h => hm (Or.inr (Or.inr (Or.inr (Or.inr (Or.inr (Or.inr (Or.inr (Or.inr (Or.inr (Or.inl h))))))))))) (fun q => q.elim (fun h => hm (Or.inr (Or.inr (Or.inr (Or.inr (Or.inr (Or.inr (Or.inr (Or.inr (Or.inr (Or.inr (Or.inl h)))))))))))) (fun q => q.elim (fun h => hm (Or.inr (Or.inr (Or.inr (Or.inr (Or.inr (Or.inr (Or.inr (Or.inr (Or.inr (Or.inr (Or.inr (Or.inl h))))))))))))) (fun q => q.elim (fun h => hm (Or.inr (Or.inr (Or.inr (Or.inr (Or.inr (Or.inr (Or.inr (Or.inr (Or.inr (Or.inr (Or.inr (Or.inr (Or.inl h)))))))))))))) (fun h => hm (Or.inr (Or.inr (Or.inr (Or.inr (Or.inr (Or.inr (Or.inr (Or.inr (Or.inr (Or.inr (Or.inr (Or.inr (Or.inr h)))))))))))))))))))))))))))))))) ⟨by first | exact rgp_l hv2.1 (by decide) | omega, by omega⟩ (by omega)
                · refine v_if_ne_f (t := 11) rfl (by decide) (Decidable.not_not.mp h_108) ?_
                  refine q_iconst rfl ?_
                  refine q_goto (t := 12) rfl (by decide) ?_
                  refine v_zret rfl rfl (by decide) ?_
                  refine bk_inl ?_
                  refine v_if_eq_f (t := 73) rfl (by decide) (by decide) ?_
                  refine q_aload_n rfl rfl ?_
                  refine q_aload_n rfl rfl ?_
                  refine q_iload rfl rfl ?_
                  have h_112 := ir_p0_0 hI2 hA
                  have kn_113 : Hid (c_2 A 0 = c2 A 0) := hF_4 A 0 (fun h => absurd h.1 (np0 hA rfl))
                  have kn_114 : Hid (c_7 A 0 = c2 A 0) := (hF_9 A 0 (fun h => absurd h.1 (np0 hA rfl))).trans (hid kn_113)
                  have kn_115 : Hid (c_13 A 0 = c2 A 0) := (hF_15 A 0 (fun q => q.elim (fun h => absurd h.1 (np0 hA rfl)) (fun q => q.elim (fun h => absurd h.1 (np0 hA rfl)) (fun h => absurd h.1 (np0 hA rfl))))).trans (hid kn_114)
                  have h_116 : c_13 A 0 = c2 A 0 := (hid kn_115)
                  have h_117 := ir_p0_1 hI2 hA
                  have kn_118 : Hid (c_2 A 1 = c2 A 1) := hF_4 A 1 (fun h => absurd h.1 (np0 hA rfl))
                  have kn_119 : Hid (c_7 A 1 = c2 A 1) := (hF_9 A 1 (fun h => absurd h.1 (np0 hA rfl))).trans (hid kn_118)
                  have kn_120 : Hid (c_13 A 1 = c2 A 1) := (hF_15 A 1 (fun q => q.elim (fun h => absurd h.1 (np0 hA rfl)) (fun q => q.elim (fun h => absurd h.1 (np0 hA rfl)) (fun h => absurd h.1 (np0 hA rfl))))).trans (hid kn_119)
                  have h_121 : c_13 A 1 = c2 A 1 := (hid kn_120)
                  have h_122 : c_13 A 2 = c2 A 2 := (hid kn_106)
                  refine v_cv rfl rfl rfl (ck_p0 hA) (a68z hA) ⟨⟨rfl, rfl⟩, by decide, rfl⟩ (Nat.le_of_ble_eq_true rfl) (Nat.le_of_ble_eq_true rfl) (s_33 (a2 := y_16) hI_14 hA (show 0 ≤ y_16 ∧ y_16 ≤ 100 from ⟨by omega, hy_16.2⟩) (Or.inl (by omega)) (Or.inl (by omega)) (Or.inr (by omega)) (fun c_123 hI_124 hF_125 => ?_))
                  refine bk_inl ?_
                  refine q_aload_n rfl rfl ?_
                  refine q_ldc_s rfl rfl rfl (by decide) ?_
                  refine v_cv rfl rfl rfl rfl (by decide) ⟨⟨rfl, rfl⟩, by decide, rfl⟩ (Nat.le_of_ble_eq_true rfl) (Nat.le_of_ble_eq_true rfl) (s_11 hI_124 (q := 9) (nt := 1) (by decide) (by decide) (by decide) (fun c_126 hI_127 hF_128 => ?_))
                  refine bk_inl ?_
                  refine v_iinc (v := v2 + 1) rfl rfl (by decide) rfl ?_
                  refine q_goto (t := 6) rfl (by decide) ?_
                  refine Wp_ls [(0, .ref A), (1, .ref 1), (2, vi (v2 + 1))] (lsub_cons rfl (lsub_cons rfl (lsub_cons rfl lsub_nil))) ?_
                  exact ih c_126 (v2 + 1) hI_127 (fun a j hm => (hF_128 a j (fun q => q.elim (fun h => hm (Or.inl h)) (fun q => q.elim (fun h => hm (Or.inr (Or.inl h))) (fun h => hm (Or.inr (Or.inr (Or.inl h))))))).trans ((hF_125 a j (fun q => q.elim (fun h => hm (Or.inl h)) (fun q => q.elim (fun h => hm (Or.inr (Or.inl h))) (fun q => q.elim (fun h => hm (Or.inr (Or.inr (Or.inl h)))) (fun q => q.elim (fun h => hm (Or.inr (Or.inr (Or.inr (Or.inl h))))) (fun q => q.elim (fun h => hm (Or.inr (Or.inr (Or.inr (Or.inr (Or.inl h)))))) (fun q => q.elim (fun h => hm (Or.inr (Or.inr (Or.inr (Or.inr (Or.inr (Or.inl h))))))) (fun q => q.elim (fun h => hm (Or.inr (Or.inr (Or.inr (Or.inr (Or.inr (Or.inr (Or.inl h)))))))) (fun q => q.elim (fun h => hm (Or.inr (Or.inr (Or.inr (Or.inr (Or.inr (Or.inr (Or.inr (Or.inl h))))))))) (fun q => q.elim (fun h => hm (Or.inr (Or.inr (Or.inr (Or.inr (Or.inr (Or.inr (Or.inr (Or.inr (Or.inl h)))))))))) (fun h => hm (Or.inr (Or.inr (Or.inr (Or.inr (Or.inr (Or.inr (Or.inr (Or.inr (Or.inr (Or.inl h))))))))))))))))))))).trans ((hF_15 a j (fun q => q.elim (fun h => hm (Or.inl h)) (fun q => q.elim (fun h => hm (Or.inr (Or.inl h))) (fun h => hm (Or.inr (Or.inr (Or.inl h))))))).trans ((hF_9 a j (fun h => hm (Or.inl h))).trans ((hF_4 a j (fun h => hm (Or.inl h))).trans (hF a j (fun q => q.elim (fun h => hm (Or.inl h)) (fun q => q.elim (fun h => hm (Or.inr (Or.inl h))) (fun q => q.elim (fun h => hm (Or.inr (Or.inr (Or.inl h)))) (fun q => q.elim (fun h => hm (Or.inr (Or.inr (Or.inr (Or.inl h))))) (fun q => q.elim (fun h => hm (Or.inr (Or.inr (Or.inr (Or.inr (Or.inl h)))))) (fun q => q.elim (fun h => hm (Or.inr (Or.inr (Or.inr (Or.inr (Or.inr (Or.inl h))))))) (fun q => q.elim (fun h => hm (Or.inr (Or.inr (Or.inr (Or.inr (Or.inr (Or.inr (Or.inl h)))))))) (fun q => q.elim (fun h => hm (Or.inr (Or.inr (Or.inr (Or.inr (Or.inr (Or.inr (Or.inr (Or.inl h))))))))) (fun q => q.elim (fun h => hm (Or.inr (Or.inr (Or.inr (Or.inr (Or.inr (Or.inr (Or.inr (Or.inr (Or.inl h)))))))))) (fun q => q.elim (fun h => hm (Or.inr (Or.inr (Or.inr (Or.inr (Or.inr (Or.inr (Or.inr (Or.inr (Or.inr (Or.inl h))))))))))) (fun q => q.elim (fun h => hm (Or.inr (Or.inr (Or.inr (Or.inr (Or.inr (Or.inr (Or.inr (Or.inr (Or.inr (Or.inr (Or.inl h)))))))))))) (fun q => q.elim (fun h => hm (Or.inr (Or.inr (Or.inr (Or.inr (Or.inr (Or.inr (Or.inr (Or.inr (Or.inr (Or.inr (Or.inr (Or.inl h))))))))))))) (fun q => q.elim (fun h => hm (Or.inr (Or.inr (Or.inr (Or.inr (Or.inr (Or.inr (Or.inr (Or.inr (Or.inr (Or.inr (Or.inr (Or.inr (Or.inl h)))))))))))))) (fun h => hm (Or.inr (Or.inr (Or.inr (Or.inr (Or.inr (Or.inr (Or.inr (Or.inr (Or.inr (Or.inr (Or.inr (Or.inr (Or.inr h))))))))))))))))))))))))))))))))) ⟨by first | exact rgp_l hv2.1 (by decide) | omega, by omega⟩ (by omega)
              · refine v_ic_ne_f (t := 69) rfl (by decide) (Decidable.not_not.mp h_107) ?_
                refine q_iconst rfl ?_
                refine q_goto (t := 70) rfl (by decide) ?_
                refine v_zret rfl rfl (by decide) ?_
                refine bk_inl ?_
                refine v_if_eq_f (t := 59) rfl (by decide) (by decide) ?_
                refine q_aload_n rfl rfl ?_
                refine q_iconst rfl ?_
                refine q_iload_n rfl rfl ?_
                refine v_cv rfl rfl rfl rfl (by decide) ⟨⟨rfl, rfl⟩, by decide, rfl⟩ (Nat.le_of_ble_eq_true rfl) (Nat.le_of_ble_eq_true rfl) (s_7 (a1 := 3) (a2 := y_10) hI_14 (show 1 ≤ 3 ∧ 3 ≤ 3 from ⟨by decide, by decide⟩) (show 0 ≤ y_10 ∧ y_10 ≤ 600 from hy_10) (fun c_129 hI_130 hF_131 h_132 => ?_))
                refine bk_inl ?_
                have h_133 := ir_1_4 hI_130
                refine q_aload_n rfl rfl ?_
                refine v_cv rfl rfl rfl rfl (by decide) ⟨⟨rfl, rfl⟩, by decide, rfl⟩ (Nat.le_of_ble_eq_true rfl) (Nat.le_of_ble_eq_true rfl) ?_
                refine q_aload_n rfl rfl ?_
                refine v_gi (z := 4) (v := c_129 1 4) rfl rfl rfl (by decide) rfl rfl rfl ?_
                refine v_if_ne_t (t := 11) rfl (by decide) ⟨by omega, ⟨(Int.le_trans (by decide) h_133.1), (Int.le_trans h_133.2 (by decide))⟩, by decide, by decide⟩ ?_
                refine q_iconst rfl ?_
                refine v_zret rfl rfl (by decide) ?_
                refine bk_inl ?_
                refine v_if_eq_t (t := 73) rfl (by decide) (by decide) ?_
                refine q_aload_n rfl rfl ?_
                refine q_ldc_s rfl rfl rfl (by decide) ?_
                refine v_cv rfl rfl rfl rfl (by decide) ⟨⟨rfl, rfl⟩, by decide, rfl⟩ (Nat.le_of_ble_eq_true rfl) (Nat.le_of_ble_eq_true rfl) (s_11 hI_130 (q := 9) (nt := 1) (by decide) (by decide) (by decide) (fun c_134 hI_135 hF_136 => ?_))
                refine bk_inl ?_
                refine v_iinc (v := v2 + 1) rfl rfl (by decide) rfl ?_
                refine q_goto (t := 6) rfl (by decide) ?_
                refine Wp_ls [(0, .ref A), (1, .ref 1), (2, vi (v2 + 1))] (lsub_cons rfl (lsub_cons rfl (lsub_cons rfl lsub_nil))) ?_
                exact ih c_134 (v2 + 1) hI_135 (fun a j hm => (hF_136 a j (fun q => q.elim (fun h => hm (Or.inl h)) (fun q => q.elim (fun h => hm (Or.inr (Or.inl h))) (fun h => hm (Or.inr (Or.inr (Or.inl h))))))).trans ((hF_131 a j (fun q => q.elim (fun h => hm (Or.inr (Or.inl h))) (fun h => hm (Or.inr (Or.inr (Or.inl h)))))).trans ((hF_15 a j (fun q => q.elim (fun h => hm (Or.inl h)) (fun q => q.elim (fun h => hm (Or.inr (Or.inl h))) (fun h => hm (Or.inr (Or.inr (Or.inl h))))))).trans ((hF_9 a j (fun h => hm (Or.inl h))).trans ((hF_4 a j (fun h => hm (Or.inl h))).trans (hF a j (fun q => q.elim (fun h => hm (Or.inl h)) (fun q => q.elim (fun h => hm (Or.inr (Or.inl h))) (fun q => q.elim (fun h => hm (Or.inr (Or.inr (Or.inl h)))) (fun q => q.elim (fun h => hm (Or.inr (Or.inr (Or.inr (Or.inl h))))) (fun q => q.elim (fun h => hm (Or.inr (Or.inr (Or.inr (Or.inr (Or.inl h)))))) (fun q => q.elim (fun h => hm (Or.inr (Or.inr (Or.inr (Or.inr (Or.inr (Or.inl h))))))) (fun q => q.elim (fun h => hm (Or.inr (Or.inr (Or.inr (Or.inr (Or.inr (Or.inr (Or.inl h)))))))) (fun q => q.elim (fun h => hm (Or.inr (Or.inr (Or.inr (Or.inr (Or.inr (Or.inr (Or.inr (Or.inl h))))))))) (fun q => q.elim (fun h => hm (Or.inr (Or.inr (Or.inr (Or.inr (Or.inr (Or.inr (Or.inr (Or.inr (Or.inl h)))))))))) (fun q => q.elim (fun h => hm (Or.inr (Or.inr (Or.inr (Or.inr (Or.inr (Or.inr (Or.inr (Or.inr (Or.inr (Or.inl h))))))))))) (fun q => q.elim (fun h => hm (Or.inr (Or.inr (Or.inr (Or.inr (Or.inr (Or.inr (Or.inr (Or.inr (Or.inr (Or.inr (Or.inl h)))))))))))) (fun q => q.elim (fun h => hm (Or.inr (Or.inr (Or.inr (Or.inr (Or.inr (Or.inr (Or.inr (Or.inr (Or.inr (Or.inr (Or.inr (Or.inl h))))))))))))) (fun q => q.elim (fun h => hm (Or.inr (Or.inr (Or.inr (Or.inr (Or.inr (Or.inr (Or.inr (Or.inr (Or.inr (Or.inr (Or.inr (Or.inr (Or.inl h)))))))))))))) (fun h => hm (Or.inr (Or.inr (Or.inr (Or.inr (Or.inr (Or.inr (Or.inr (Or.inr (Or.inr (Or.inr (Or.inr (Or.inr (Or.inr h))))))))))))))))))))))))))))))))) ⟨by first | exact rgp_l hv2.1 (by decide) | omega, by omega⟩ (by omega)
            refine v_tsw_o (t := 71) rfl (by omega) (by decide) ?_
            refine q_iconst rfl ?_
            refine v_zret rfl rfl (by decide) ?_
            refine bk_inl ?_
            refine v_if_eq_t (t := 59) rfl (by decide) (by decide) ?_
            refine q_aload_n rfl rfl ?_
            refine v_cv rfl rfl rfl rfl (by decide) ⟨⟨rfl, rfl⟩, by decide, rfl⟩ (Nat.le_of_ble_eq_true rfl) (Nat.le_of_ble_eq_true rfl) ?_
            refine q_aload_n rfl rfl ?_
            refine v_gi (z := 4) (v := c_13 1 4) rfl rfl rfl (by decide) rfl rfl rfl ?_
            by_cases h_137 : c_13 1 4 ≠ 0
            · refine v_if_ne_t (t := 11) rfl (by decide) ⟨h_137, ⟨(Int.le_trans (by decide) h_18.1), (Int.le_trans h_18.2 (by decide))⟩, by decide, by decide⟩ ?_
              refine q_iconst rfl ?_
              refine v_zret rfl rfl (by decide) ?_
              refine bk_inl ?_
              refine v_if_eq_t (t := 73) rfl (by decide) (by decide) ?_
              refine q_aload_n rfl rfl ?_
              refine q_ldc_s rfl rfl rfl (by decide) ?_
              refine v_cv rfl rfl rfl rfl (by decide) ⟨⟨rfl, rfl⟩, by decide, rfl⟩ (Nat.le_of_ble_eq_true rfl) (Nat.le_of_ble_eq_true rfl) (s_11 hI_14 (q := 9) (nt := 1) (by decide) (by decide) (by decide) (fun c_138 hI_139 hF_140 => ?_))
              refine bk_inl ?_
              refine v_iinc (v := v2 + 1) rfl rfl (by decide) rfl ?_
              refine q_goto (t := 6) rfl (by decide) ?_
              refine Wp_ls [(0, .ref A), (1, .ref 1), (2, vi (v2 + 1))] (lsub_cons rfl (lsub_cons rfl (lsub_cons rfl lsub_nil))) ?_
              exact ih c_138 (v2 + 1) hI_139 (fun a j hm => (hF_140 a j (fun q => q.elim (fun h => hm (Or.inl h)) (fun q => q.elim (fun h => hm (Or.inr (Or.inl h))) (fun h => hm (Or.inr (Or.inr (Or.inl h))))))).trans ((hF_15 a j (fun q => q.elim (fun h => hm (Or.inl h)) (fun q => q.elim (fun h => hm (Or.inr (Or.inl h))) (fun h => hm (Or.inr (Or.inr (Or.inl h))))))).trans ((hF_9 a j (fun h => hm (Or.inl h))).trans ((hF_4 a j (fun h => hm (Or.inl h))).trans (hF a j (fun q => q.elim (fun h => hm (Or.inl h)) (fun q => q.elim (fun h => hm (Or.inr (Or.inl h))) (fun q => q.elim (fun h => hm (Or.inr (Or.inr (Or.inl h)))) (fun q => q.elim (fun h => hm (Or.inr (Or.inr (Or.inr (Or.inl h))))) (fun q => q.elim (fun h => hm (Or.inr (Or.inr (Or.inr (Or.inr (Or.inl h)))))) (fun q => q.elim (fun h => hm (Or.inr (Or.inr (Or.inr (Or.inr (Or.inr (Or.inl h))))))) (fun q => q.elim (fun h => hm (Or.inr (Or.inr (Or.inr (Or.inr (Or.inr (Or.inr (Or.inl h)))))))) (fun q => q.elim (fun h => hm (Or.inr (Or.inr (Or.inr (Or.inr (Or.inr (Or.inr (Or.inr (Or.inl h))))))))) (fun q => q.elim (fun h => hm (Or.inr (Or.inr (Or.inr (Or.inr (Or.inr (Or.inr (Or.inr (Or.inr (Or.inl h)))))))))) (fun q => q.elim (fun h => hm (Or.inr (Or.inr (Or.inr (Or.inr (Or.inr (Or.inr (Or.inr (Or.inr (Or.inr (Or.inl h))))))))))) (fun q => q.elim (fun h => hm (Or.inr (Or.inr (Or.inr (Or.inr (Or.inr (Or.inr (Or.inr (Or.inr (Or.inr (Or.inr (Or.inl h)))))))))))) (fun q => q.elim (fun h => hm (Or.inr (Or.inr (Or.inr (Or.inr (Or.inr (Or.inr (Or.inr (Or.inr (Or.inr (Or.inr (Or.inr (Or.inl h))))))))))))) (fun q => q.elim (fun h => hm (Or.inr (Or.inr (Or.inr (Or.inr (Or.inr (Or.inr (Or.inr (Or.inr (Or.inr (Or.inr (Or.inr (Or.inr (Or.inl h)))))))))))))) (fun h => hm (Or.inr (Or.inr (Or.inr (Or.inr (Or.inr (Or.inr (Or.inr (Or.inr (Or.inr (Or.inr (Or.inr (Or.inr (Or.inr h)))))))))))))))))))))))))))))))) ⟨by first | exact rgp_l hv2.1 (by decide) | omega, by omega⟩ (by omega)
            · refine v_if_ne_f (t := 11) rfl (by decide) (Decidable.not_not.mp h_137) ?_
              refine q_iconst rfl ?_
              refine q_goto (t := 12) rfl (by decide) ?_
              refine v_zret rfl rfl (by decide) ?_
              refine bk_inl ?_
              refine v_if_eq_f (t := 73) rfl (by decide) (by decide) ?_
              refine q_aload_n rfl rfl ?_
              refine q_aload_n rfl rfl ?_
              refine q_iload rfl rfl ?_
              have h_141 := ir_p0_0 hI2 hA
              have kn_142 : Hid (c_2 A 0 = c2 A 0) := hF_4 A 0 (fun h => absurd h.1 (np0 hA rfl))
              have kn_143 : Hid (c_7 A 0 = c2 A 0) := (hF_9 A 0 (fun h => absurd h.1 (np0 hA rfl))).trans (hid kn_142)
              have kn_144 : Hid (c_13 A 0 = c2 A 0) := (hF_15 A 0 (fun q => q.elim (fun h => absurd h.1 (np0 hA rfl)) (fun q => q.elim (fun h => absurd h.1 (np0 hA rfl)) (fun h => absurd h.1 (np0 hA rfl))))).trans (hid kn_143)
              have h_145 : c_13 A 0 = c2 A 0 := (hid kn_144)
              have h_146 := ir_p0_1 hI2 hA
              have kn_147 : Hid (c_2 A 1 = c2 A 1) := hF_4 A 1 (fun h => absurd h.1 (np0 hA rfl))
              have kn_148 : Hid (c_7 A 1 = c2 A 1) := (hF_9 A 1 (fun h => absurd h.1 (np0 hA rfl))).trans (hid kn_147)
              have kn_149 : Hid (c_13 A 1 = c2 A 1) := (hF_15 A 1 (fun q => q.elim (fun h => absurd h.1 (np0 hA rfl)) (fun q => q.elim (fun h => absurd h.1 (np0 hA rfl)) (fun h => absurd h.1 (np0 hA rfl))))).trans (hid kn_148)
              have h_150 : c_13 A 1 = c2 A 1 := (hid kn_149)
              have h_151 := ir_p0_2 hI2 hA
              have kn_152 : Hid (c_2 A 2 = c2 A 2) := hF_4 A 2 (fun h => absurd h.1 (np0 hA rfl))
              have kn_153 : Hid (c_7 A 2 = c2 A 2) := (hF_9 A 2 (fun h => absurd h.1 (np0 hA rfl))).trans (hid kn_152)
              have kn_154 : Hid (c_13 A 2 = c2 A 2) := (hF_15 A 2 (fun q => q.elim (fun h => absurd h.1 (np0 hA rfl)) (fun q => q.elim (fun h => absurd h.1 (np0 hA rfl)) (fun h => absurd h.1 (np0 hA rfl))))).trans (hid kn_153)
              have h_155 : c_13 A 2 = c2 A 2 := (hid kn_154)
              refine v_cv rfl rfl rfl (ck_p0 hA) (a68z hA) ⟨⟨rfl, rfl⟩, by decide, rfl⟩ (Nat.le_of_ble_eq_true rfl) (Nat.le_of_ble_eq_true rfl) (s_33 (a2 := y_16) hI_14 hA (show 0 ≤ y_16 ∧ y_16 ≤ 100 from ⟨by omega, hy_16.2⟩) (Or.inl (by omega)) (Or.inl (by omega)) (Or.inl (by omega)) (fun c_156 hI_157 hF_158 => ?_))
              refine bk_inl ?_
              refine q_aload_n rfl rfl ?_
              refine q_ldc_s rfl rfl rfl (by decide) ?_
              refine v_cv rfl rfl rfl rfl (by decide) ⟨⟨rfl, rfl⟩, by decide, rfl⟩ (Nat.le_of_ble_eq_true rfl) (Nat.le_of_ble_eq_true rfl) (s_11 hI_157 (q := 9) (nt := 1) (by decide) (by decide) (by decide) (fun c_159 hI_160 hF_161 => ?_))
              refine bk_inl ?_
              refine v_iinc (v := v2 + 1) rfl rfl (by decide) rfl ?_
              refine q_goto (t := 6) rfl (by decide) ?_
              refine Wp_ls [(0, .ref A), (1, .ref 1), (2, vi (v2 + 1))] (lsub_cons rfl (lsub_cons rfl (lsub_cons rfl lsub_nil))) ?_
              exact ih c_159 (v2 + 1) hI_160 (fun a j hm => (hF_161 a j (fun q => q.elim (fun h => hm (Or.inl h)) (fun q => q.elim (fun h => hm (Or.inr (Or.inl h))) (fun h => hm (Or.inr (Or.inr (Or.inl h))))))).trans ((hF_158 a j (fun q => q.elim (fun h => hm (Or.inl h)) (fun q => q.elim (fun h => hm (Or.inr (Or.inl h))) (fun q => q.elim (fun h => hm (Or.inr (Or.inr (Or.inl h)))) (fun q => q.elim (fun h => hm (Or.inr (Or.inr (Or.inr (Or.inl h))))) (fun q => q.elim (fun h => hm (Or.inr (Or.inr (Or.inr (Or.inr (Or.inl h)))))) (fun q => q.elim (fun h => hm (Or.inr (Or.inr (Or.inr (Or.inr (Or.inr (Or.inl h))))))) (fun q => q.elim (fun h => hm (Or.inr (Or.inr (Or.inr (Or.inr (Or.inr (Or.inr (Or.inl h)))))))) (fun q => q.elim (fun h => hm (Or.inr (Or.inr (Or.inr (Or.inr (Or.inr (Or.inr (Or.inr (Or.inl h))))))))) (fun q => q.elim (fun h => hm (Or.inr (Or.inr (Or.inr (Or.inr (Or.inr (Or.inr (Or.inr (Or.inr (Or.inl h)))))))))) (fun h => hm (Or.inr (Or.inr (Or.inr (Or.inr (Or.inr (Or.inr (Or.inr (Or.inr (Or.inr (Or.inl h))))))))))))))))))))).trans ((hF_15 a j (fun q => q.elim (fun h => hm (Or.inl h)) (fun q => q.elim (fun h => hm (Or.inr (Or.inl h))) (fun h => hm (Or.inr (Or.inr (Or.inl h))))))).trans ((hF_9 a j (fun h => hm (Or.inl h))).trans ((hF_4 a j (fun h => hm (Or.inl h))).trans (hF a j (fun q => q.elim (fun h => hm (Or.inl h)) (fun q => q.elim (fun h => hm (Or.inr (Or.inl h))) (fun q => q.elim (fun h => hm (Or.inr (Or.inr (Or.inl h)))) (fun q => q.elim (fun h => hm (Or.inr (Or.inr (Or.inr (Or.inl h))))) (fun q => q.elim (fun h => hm (Or.inr (Or.inr (Or.inr (Or.inr (Or.inl h)))))) (fun q => q.elim (fun h => hm (Or.inr (Or.inr (Or.inr (Or.inr (Or.inr (Or.inl h))))))) (fun q => q.elim (fun h => hm (Or.inr (Or.inr (Or.inr (Or.inr (Or.inr (Or.inr (Or.inl h)))))))) (fun q => q.elim (fun h => hm (Or.inr (Or.inr (Or.inr (Or.inr (Or.inr (Or.inr (Or.inr (Or.inl h))))))))) (fun q => q.elim (fun h => hm (Or.inr (Or.inr (Or.inr (Or.inr (Or.inr (Or.inr (Or.inr (Or.inr (Or.inl h)))))))))) (fun q => q.elim (fun h => hm (Or.inr (Or.inr (Or.inr (Or.inr (Or.inr (Or.inr (Or.inr (Or.inr (Or.inr (Or.inl h))))))))))) (fun q => q.elim (fun h => hm (Or.inr (Or.inr (Or.inr (Or.inr (Or.inr (Or.inr (Or.inr (Or.inr (Or.inr (Or.inr (Or.inl h)))))))))))) (fun q => q.elim (fun h => hm (Or.inr (Or.inr (Or.inr (Or.inr (Or.inr (Or.inr (Or.inr (Or.inr (Or.inr (Or.inr (Or.inr (Or.inl h))))))))))))) (fun q => q.elim (fun h => hm (Or.inr (Or.inr (Or.inr (Or.inr (Or.inr (Or.inr (Or.inr (Or.inr (Or.inr (Or.inr (Or.inr (Or.inr (Or.inl h)))))))))))))) (fun h => hm (Or.inr (Or.inr (Or.inr (Or.inr (Or.inr (Or.inr (Or.inr (Or.inr (Or.inr (Or.inr (Or.inr (Or.inr (Or.inr h))))))))))))))))))))))))))))))))) ⟨by first | exact rgp_l hv2.1 (by decide) | omega, by omega⟩ (by omega)
set_option maxRecDepth 100000 in
set_option maxHeartbeats 4000000 in
theorem s_34 {sc : List Int32} {e : Int} {d u P Q A : Nat} {c : ME} {Z : AR → Prop} (hI : Iv u e P Q c) (hA : A = 13 ∨ A = 25) (K : ∀ (c2 : ME), Iv u e P Q c2 → (∀ (a : Nat) (j : Int), ¬ ((a = 1 ∧ j = 2) ∨ (a = 1 ∧ j = 4) ∨ (a = 1 ∧ j = 5) ∨ (a = A ∧ j = 0) ∨ (a = A ∧ j = 1) ∨ (a = A ∧ j = 2) ∨ (a = A ∧ j = 3) ∨ a = (A + 1) ∨ a = (A + 2) ∨ a = (A + 3) ∨ (a = A ∧ j = 4) ∨ (a = A ∧ j = 5) ∨ a = (A + 6) ∨ (a = (A + 7) ∧ j = 4)) → c2 a j = c a j) → Z (.inl (none), Wd P Q P P c2, 0, 0)) : Wp sc (d + 12) 34 0 [(0, .ref A), (1, .ref 1)] [] (Wd P Q P P c) 0 0 Z := by
  have hP := iv_P hI
  have hQ := iv_Q hI
  refine q_aload_n rfl rfl ?_
  refine v_cv rfl rfl rfl (ck_p0 hA) (a68z hA) ⟨⟨rfl, rfl⟩, by decide, rfl⟩ (Nat.le_of_ble_eq_true rfl) (Nat.le_of_ble_eq_true rfl) (s_30 hI hA (fun c_162 hI_163 hF_164 h_165 h_166 => ?_))
  refine bk_inl ?_
  have h_167 := ir_p0_0 hI_163 hA
  have h_168 := ir_p0_1 hI_163 hA
  have h_169 := ir_p0_2 hI_163 hA
  have h_170 := ir_p0_3 hI_163 hA
  have h_171 := ir_p0_4 hI_163 hA
  have h_172 := ir_p0_5 hI_163 hA
  have h_173 := ir_p7_4 hI_163 hA
  refine q_iconst rfl ?_
  refine q_istore_n rfl (by decide) ?_
  refine Wp_ls [(0, .ref A), (1, .ref 1), (2, vi 0)] (lsub_cons rfl (lsub_cons rfl (lsub_cons rfl lsub_nil))) ?_
  exact (s_34_l (sc := sc) (d := d) hI hA K 126) c_162 0 hI_163 (fun a j hm => hF_164 a j (fun q => q.elim (fun h => hm (Or.inr (Or.inr (Or.inr (Or.inl h))))) (fun q => q.elim (fun h => hm (Or.inr (Or.inr (Or.inr (Or.inr (Or.inl h)))))) (fun q => q.elim (fun h => hm (Or.inr (Or.inr (Or.inr (Or.inr (Or.inr (Or.inl h))))))) (fun q => q.elim (fun h => hm (Or.inr (Or.inr (Or.inr (Or.inr (Or.inr (Or.inr (Or.inl h)))))))) (fun q => q.elim (fun h => hm (Or.inr (Or.inr (Or.inr (Or.inr (Or.inr (Or.inr (Or.inr (Or.inr (Or.inr (Or.inr (Or.inl h)))))))))))) (fun q => q.elim (fun h => hm (Or.inr (Or.inr (Or.inr (Or.inr (Or.inr (Or.inr (Or.inr (Or.inr (Or.inr (Or.inr (Or.inr (Or.inl h))))))))))))) (fun q => q.elim (fun h => hm (Or.inr (Or.inr (Or.inr (Or.inr (Or.inr (Or.inr (Or.inr (Or.inr (Or.inr (Or.inr (Or.inr (Or.inr (Or.inl h)))))))))))))) (fun h => hm (Or.inr (Or.inr (Or.inr (Or.inr (Or.inr (Or.inr (Or.inr (Or.inr (Or.inr (Or.inr (Or.inr (Or.inr (Or.inr h)))))))))))))))))))))) ⟨by decide, by decide⟩ (by omega)

set_option maxRecDepth 100000 in
set_option maxHeartbeats 4000000 in
theorem s_35_l {sc : List Int32} {e : Int} {d u P Q A : Nat} {c : ME} {Z : AR → Prop} (hI : Iv u e P Q c) (hA : A = 13 ∨ A = 25) (K : ∀ (c2 : ME), Iv u e P Q c2 → (∀ (a : Nat) (j : Int), ¬ ((a = 1 ∧ j = 2) ∨ (a = 1 ∧ j = 4) ∨ (a = 1 ∧ j = 5) ∨ (a = A ∧ j = 4) ∨ a = (A + 4) ∨ a = (A + 5)) → c2 a j = c a j) → Z (.inl (none), Wd P Q P P c2, 0, 0)) : ∀ n : Nat, (∀ (c2 : ME) (v2 : Int) (v3 : Int), Iv u e P Q c2 → (∀ (a : Nat) (j : Int), ¬ ((a = 1 ∧ j = 2) ∨ (a = 1 ∧ j = 4) ∨ (a = 1 ∧ j = 5) ∨ (a = A ∧ j = 4) ∨ a = (A + 4) ∨ a = (A + 5)) → c2 a j = c a j) → 0 ≤ v2 ∧ v2 ≤ 8 → 0 ≤ v3 ∧ v3 ≤ 9 → (∀ j : Int, 0 ≤ j → j < v2 → 0 ≤ c2 (A + 5) j ∧ c2 (A + 5) j ≤ 3) → ((v2 = v3) ∨ (v2 = 8 ∧ v3 = 9)) → 19 - 2 * v3 < (n : Int) → Wp sc (d + 10) 35 4 [(0, .ref A), (1, .ref 1), (2, vi v2), (3, vi v3)] [] (Wd P Q P P c2) 0 0 Z)
  | 0 => by intro c2 v2 v3 hI2 hF hv2 hv3 hx0 hx1 hm9; have hP := iv_P hI; have hQ := iv_Q hI; exfalso; omega
  | n + 1 => by
    have hP := iv_P hI
    have hQ := iv_Q hI
    have ih := s_35_l (sc := sc) (d := d) hI hA K n
    intro c2 v2 v3 hI2 hF hv2 hv3 hx0 hx1 hm9
    refine q_iload_n rfl rfl ?_
    refine v_bip rfl (by decide) ?_
    by_cases h_1 : v3 > 8
    · refine v_ic_gt_t (t := 75) rfl (by decide) ⟨by decide, h_1, (Int.le_trans hv3.2 (by decide))⟩ ?_
      refine q_aload_n rfl rfl ?_
      refine v_cv rfl rfl rfl rfl (by decide) ⟨⟨rfl, rfl⟩, by decide, rfl⟩ (Nat.le_of_ble_eq_true rfl) (Nat.le_of_ble_eq_true rfl) ?_
      refine q_aload_n rfl rfl ?_
      have h_2 := ir_1_4 hI2
      refine v_gi (z := 4) (v := c2 1 4) rfl rfl rfl (by decide) rfl rfl rfl ?_
      by_cases h_3 : c2 1 4 ≠ 0
      · refine v_if_ne_t (t := 11) rfl (by decide) ⟨h_3, ⟨(Int.le_trans (by decide) h_2.1), (Int.le_trans h_2.2 (by decide))⟩, by decide, by decide⟩ ?_
        refine q_iconst rfl ?_
        refine v_zret rfl rfl (by decide) ?_
        refine bk_inl ?_
        refine v_if_eq_t (t := 102) rfl (by decide) (by decide) ?_
        refine q_vret rfl rfl ?_
        exact K c2 hI2 (fun a j hm => hF a j (fun q => q.elim (fun h => hm (Or.inl h)) (fun q => q.elim (fun h => hm (Or.inr (Or.inl h))) (fun q => q.elim (fun h => hm (Or.inr (Or.inr (Or.inl h)))) (fun q => q.elim (fun h => hm (Or.inr (Or.inr (Or.inr (Or.inl h))))) (fun q => q.elim (fun h => hm (Or.inr (Or.inr (Or.inr (Or.inr (Or.inl h)))))) (fun h => hm (Or.inr (Or.inr (Or.inr (Or.inr (Or.inr h))))))))))))
      · refine v_if_ne_f (t := 11) rfl (by decide) (Decidable.not_not.mp h_3) ?_
        refine q_iconst rfl ?_
        refine q_goto (t := 12) rfl (by decide) ?_
        refine v_zret rfl rfl (by decide) ?_
        refine bk_inl ?_
        refine v_if_eq_f (t := 102) rfl (by decide) (by decide) ?_
        refine q_aload_n rfl rfl ?_
        refine v_gr (t := (A + 5)) rfl rfl (ck_p0 hA) (a68z hA) rfl ?_
        refine q_iconst rfl ?_
        refine q_aload_n rfl rfl ?_
        refine v_gr (t := (A + 4)) rfl rfl (ck_p0 hA) (a68z hA) rfl ?_
        refine q_iconst rfl ?_
        refine v_bip rfl (by decide) ?_
        refine v_cpy rfl rfl (ck_p4 hA) (a68 hA rfl) (ck_p5 hA) (a68 hA rfl) rfl rfl (by omega) (Nat.le_of_ble_eq_true rfl) (by omega) ?_
        refine q_aload_n rfl rfl ?_
        refine q_iload_n rfl rfl ?_
        refine v_pi (z := 4) rfl rfl (ck_p0 hA) (a68z hA) rfl rfl rfl (by decide) ?_
        refine q_vret rfl rfl ?_
        have hr_6 : ∀ j : Int, 0 ≤ j → j < v2 → 0 ≤ c2 (A + 5) j ∧ c2 (A + 5) j ≤ 3 := by
          intro j hj1 hj2
          have q9 : c2 (A + 5) j = c2 (A + 5) j := rfl
          rw [q9]
          exact hx0 j hj1 (by omega)
        have hI_5 := iw_stk (v := v2) hI2 hA ⟨by omega, by omega⟩ hr_6
        exact K (up (upc c2 (A + 5) 0 (A + 4) 0 8) A 4 v2) hI_5 (fun a j hm => (up_b (Decidable.or_iff_not_imp_left.mpr (fun h1 h2 => hm (Or.inr (Or.inr (Or.inr (Or.inl ⟨Decidable.not_not.mp h1, h2⟩))))))).trans ((upc_c (fun h => hm (Or.inr (Or.inr (Or.inr (Or.inr (Or.inl h))))))).trans (hF a j (fun q => q.elim (fun h => hm (Or.inl h)) (fun q => q.elim (fun h => hm (Or.inr (Or.inl h))) (fun q => q.elim (fun h => hm (Or.inr (Or.inr (Or.inl h)))) (fun q => q.elim (fun h => hm (Or.inr (Or.inr (Or.inr (Or.inl h))))) (fun q => q.elim (fun h => hm (Or.inr (Or.inr (Or.inr (Or.inr (Or.inl h)))))) (fun h => hm (Or.inr (Or.inr (Or.inr (Or.inr (Or.inr h))))))))))))))
    · refine v_ic_gt_f (t := 75) rfl (by decide) ⟨(Int.le_trans (by decide) hv3.1), (Int.not_lt.mp h_1), by decide⟩ ?_
      refine q_aload_n rfl rfl ?_
      refine v_cv rfl rfl rfl rfl (by decide) ⟨⟨rfl, rfl⟩, by decide, rfl⟩ (Nat.le_of_ble_eq_true rfl) (Nat.le_of_ble_eq_true rfl) (s_15 hI2 (fun c_7 y_10 hI_8 hF_9 hy_10 => ?_))
      refine bk_inl ?_
      by_cases h_11 : y_10 = 0
      · refine v_if_eq_t (t := 75) rfl (by decide) h_11 ?_
        refine q_aload_n rfl rfl ?_
        refine v_cv rfl rfl rfl rfl (by decide) ⟨⟨rfl, rfl⟩, by decide, rfl⟩ (Nat.le_of_ble_eq_true rfl) (Nat.le_of_ble_eq_true rfl) ?_
        refine q_aload_n rfl rfl ?_
        have h_12 := ir_1_4 hI2
        have kn_13 : Hid (c_7 1 4 = c2 1 4) := hF_9 1 4 (fun h => absurd h.2 (ni rfl))
        refine v_gi (z := 4) (v := c2 1 4) rfl rfl rfl (by decide) rfl rfl (hid kn_13) ?_
        by_cases h_14 : c2 1 4 ≠ 0
        · refine v_if_ne_t (t := 11) rfl (by decide) ⟨h_14, ⟨by omega, by omega⟩, by decide, by decide⟩ ?_
          refine q_iconst rfl ?_
          refine v_zret rfl rfl (by decide) ?_
          refine bk_inl ?_
          refine v_if_eq_t (t := 102) rfl (by decide) (by decide) ?_
          refine q_vret rfl rfl ?_
          exact K c_7 hI_8 (fun a j hm => (hF_9 a j (fun h => hm (Or.inl h))).trans (hF a j (fun q => q.elim (fun h => hm (Or.inl h)) (fun q => q.elim (fun h => hm (Or.inr (Or.inl h))) (fun q => q.elim (fun h => hm (Or.inr (Or.inr (Or.inl h)))) (fun q => q.elim (fun h => hm (Or.inr (Or.inr (Or.inr (Or.inl h))))) (fun q => q.elim (fun h => hm (Or.inr (Or.inr (Or.inr (Or.inr (Or.inl h)))))) (fun h => hm (Or.inr (Or.inr (Or.inr (Or.inr (Or.inr h)))))))))))))
        · refine v_if_ne_f (t := 11) rfl (by decide) (Decidable.not_not.mp h_14) ?_
          refine q_iconst rfl ?_
          refine q_goto (t := 12) rfl (by decide) ?_
          refine v_zret rfl rfl (by decide) ?_
          refine bk_inl ?_
          refine v_if_eq_f (t := 102) rfl (by decide) (by decide) ?_
          refine q_aload_n rfl rfl ?_
          refine v_gr (t := (A + 5)) rfl rfl (ck_p0 hA) (a68z hA) rfl ?_
          refine q_iconst rfl ?_
          refine q_aload_n rfl rfl ?_
          refine v_gr (t := (A + 4)) rfl rfl (ck_p0 hA) (a68z hA) rfl ?_
          refine q_iconst rfl ?_
          refine v_bip rfl (by decide) ?_
          refine v_cpy rfl rfl (ck_p4 hA) (a68 hA rfl) (ck_p5 hA) (a68 hA rfl) rfl rfl (by omega) (Nat.le_of_ble_eq_true rfl) (by omega) ?_
          refine q_aload_n rfl rfl ?_
          refine q_iload_n rfl rfl ?_
          refine v_pi (z := 4) rfl rfl (ck_p0 hA) (a68z hA) rfl rfl rfl (by decide) ?_
          refine q_vret rfl rfl ?_
          have hr_17 : ∀ j : Int, 0 ≤ j → j < v2 → 0 ≤ c_7 (A + 5) j ∧ c_7 (A + 5) j ≤ 3 := by
            intro j hj1 hj2
            have q9 : c_7 (A + 5) j = c2 (A + 5) j := hF_9 (A + 5) j (by omega)
            rw [q9]
            exact hx0 j hj1 (by omega)
          have hI_16 := iw_stk (v := v2) hI_8 hA ⟨by omega, by omega⟩ hr_17
          exact K (up (upc c_7 (A + 5) 0 (A + 4) 0 8) A 4 v2) hI_16 (fun a j hm => (up_b (Decidable.or_iff_not_imp_left.mpr (fun h1 h2 => hm (Or.inr (Or.inr (Or.inr (Or.inl ⟨Decidable.not_not.mp h1, h2⟩))))))).trans ((upc_c (fun h => hm (Or.inr (Or.inr (Or.inr (Or.inr (Or.inl h))))))).trans ((hF_9 a j (fun h => hm (Or.inl h))).trans (hF a j (fun q => q.elim (fun h => hm (Or.inl h)) (fun q => q.elim (fun h => hm (Or.inr (Or.inl h))) (fun q => q.elim (fun h => hm (Or.inr (Or.inr (Or.inl h)))) (fun q => q.elim (fun h => hm (Or.inr (Or.inr (Or.inr (Or.inl h))))) (fun q => q.elim (fun h => hm (Or.inr (Or.inr (Or.inr (Or.inr (Or.inl h)))))) (fun h => hm (Or.inr (Or.inr (Or.inr (Or.inr (Or.inr h)))))))))))))))
      · refine v_if_eq_f (t := 75) rfl (by decide) ⟨h_11, ⟨(Int.le_trans (by decide) hy_10.1), (Int.le_trans hy_10.2 (by decide))⟩, by decide, by decide⟩ ?_
        refine q_aload_n rfl rfl ?_
        refine v_cv rfl rfl rfl rfl (by decide) ⟨⟨rfl, rfl⟩, by decide, rfl⟩ (Nat.le_of_ble_eq_true rfl) (Nat.le_of_ble_eq_true rfl) (s_3 hI_8 (fun c_18 y_21 hI_19 hF_20 hy_21 h_22 => ?_))
        refine bk_inl ?_
        have h_23 := ir_1_2 hI_19
        refine q_istore rfl (by decide) ?_
        refine q_aload_n rfl rfl ?_
        refine q_aload_n rfl rfl ?_
        have h_24 := ir_p0_2 hI hA
        have kn_25 : Hid (c2 A 2 = c A 2) := hF A 2 (fun q => q.elim (fun h => absurd h.1 (np0 hA rfl)) (fun q => q.elim (fun h => absurd h.1 (np0 hA rfl)) (fun q => q.elim (fun h => absurd h.1 (np0 hA rfl)) (fun q => q.elim (fun h => absurd h.2 (ni rfl)) (fun q => q.elim (fun h => absurd h (p0p rfl)) (fun h => absurd h (p0p rfl)))))))
        have kn_26 : Hid (c_7 A 2 = c A 2) := (hF_9 A 2 (fun h => absurd h.1 (np0 hA rfl))).trans (hid kn_25)
        have kn_27 : Hid (c_18 A 2 = c A 2) := (hF_20 A 2 (fun h => absurd h.1 (np0 hA rfl))).trans (hid kn_26)
        refine v_gi (z := 2) (v := c A 2) rfl rfl (ck_p0 hA) (a68z hA) rfl rfl (hid kn_27) ?_
        refine q_iconst rfl ?_
        refine v_isub (v := c A 2 - 1) rfl rfl ?_
        refine v_cv rfl rfl rfl rfl (by decide) ⟨⟨rfl, rfl⟩, by decide, rfl⟩ (Nat.le_of_ble_eq_true rfl) (Nat.le_of_ble_eq_true rfl) (s_8 (a1 := c A 2 - 1) hI_19 (show (-1) ≤ c A 2 - 1 ∧ c A 2 - 1 ≤ 9999 from ⟨by omega, by omega⟩) (fun c_28 y_31 hI_29 hF_30 hy_31 h_32 => ?_))
        refine bk_inl ?_
        refine q_istore rfl (by decide) ?_
        refine q_iload_n rfl rfl ?_
        refine v_bip rfl (by decide) ?_
        by_cases h_33 : v3 ≠ 8
        · refine v_ic_ne_t (t := 51) rfl (by decide) ⟨h_33, ⟨(Int.le_trans (by decide) hv3.1), (Int.le_trans hv3.2 (by decide))⟩, by decide, by decide⟩ ?_
          refine q_aload_n rfl rfl ?_
          refine v_gr (t := (A + 5)) rfl rfl (ck_p0 hA) (a68z hA) rfl ?_
          refine q_iload_n rfl rfl ?_
          refine q_iload rfl rfl ?_
          refine v_is rfl (ck_p5 hA) (a68 hA rfl) (by decide) (by omega) ?_
          refine q_iload_n rfl rfl ?_
          refine q_iconst rfl ?_
          refine v_iadd (v := v3 + 1) rfl rfl ?_
          refine q_istore_n rfl (by decide) ?_
          refine q_aload_n rfl rfl ?_
          refine q_ldc_s rfl rfl rfl (by decide) ?_
          have hI_34 := iw_p5 (j := v3) (v := y_31) hI_29 hA ⟨(Int.le_trans (by decide) hy_31.1), hy_31.2⟩
          refine v_cv rfl rfl rfl rfl (by decide) ⟨⟨rfl, rfl⟩, by decide, rfl⟩ (Nat.le_of_ble_eq_true rfl) (Nat.le_of_ble_eq_true rfl) (s_11 hI_34 (q := 9) (nt := 1) (by decide) (by decide) (by decide) (fun c_35 hI_36 hF_37 => ?_))
          refine bk_inl ?_
          refine v_iinc (v := v3 + 1) rfl rfl (by decide) rfl ?_
          refine q_goto (t := 4) rfl (by decide) ?_
          refine Wp_ls [(0, .ref A), (1, .ref 1), (2, vi (v3 + 1)), (3, vi (v3 + 1))] (lsub_cons rfl (lsub_cons rfl (lsub_cons rfl (lsub_cons rfl lsub_nil)))) ?_
          have hr_38 : ∀ j : Int, 0 ≤ j → j < v3 + 1 → 0 ≤ c_35 (A + 5) j ∧ c_35 (A + 5) j ≤ 3 := by
            intro j hj1 hj2
            by_cases e9 : j = v3
            · have q9 : c_35 (A + 5) j = y_31 := (hF_37 (A + 5) j (by omega)).trans (up_e e9)
              rw [q9]
              omega
            · have q9 : c_35 (A + 5) j = c2 (A + 5) j := (hF_37 (A + 5) j (by omega)).trans ((up_n e9).trans ((hF_30 (A + 5) j (by omega)).trans ((hF_20 (A + 5) j (by omega)).trans (hF_9 (A + 5) j (by omega)))))
              rw [q9]
              exact hx0 j hj1 (by omega)
          exact ih c_35 (v3 + 1) (v3 + 1) hI_36 (fun a j hm => (hF_37 a j (fun q => q.elim (fun h => hm (Or.inl h)) (fun q => q.elim (fun h => hm (Or.inr (Or.inl h))) (fun h => hm (Or.inr (Or.inr (Or.inl h))))))).trans ((up_b (Decidable.or_iff_not_imp_left.mpr (fun h1 h2 => hm (Or.inr (Or.inr (Or.inr (Or.inr (Or.inr (Decidable.not_not.mp h1))))))))).trans ((hF_30 a j (fun q => q.elim (fun h => hm (Or.inl h)) (fun q => q.elim (fun h => hm (Or.inr (Or.inl h))) (fun h => hm (Or.inr (Or.inr (Or.inl h))))))).trans ((hF_20 a j (fun h => hm (Or.inl h))).trans ((hF_9 a j (fun h => hm (Or.inl h))).trans (hF a j (fun q => q.elim (fun h => hm (Or.inl h)) (fun q => q.elim (fun h => hm (Or.inr (Or.inl h))) (fun q => q.elim (fun h => hm (Or.inr (Or.inr (Or.inl h)))) (fun q => q.elim (fun h => hm (Or.inr (Or.inr (Or.inr (Or.inl h))))) (fun q => q.elim (fun h => hm (Or.inr (Or.inr (Or.inr (Or.inr (Or.inl h)))))) (fun h => hm (Or.inr (Or.inr (Or.inr (Or.inr (Or.inr h))))))))))))))))) ⟨by first | exact rgp_l hv3.1 (by decide) | omega, by omega⟩ ⟨by first | exact rgp_l hv3.1 (by decide) | omega, by omega⟩ hr_38 (Or.inl (by omega)) (by omega)
        · refine v_ic_ne_f (t := 51) rfl (by decide) (Decidable.not_not.mp h_33) ?_
          refine q_aload_n rfl rfl ?_
          refine q_iconst rfl ?_
          refine q_iload rfl rfl ?_
          refine v_cv rfl rfl rfl rfl (by decide) ⟨⟨rfl, rfl⟩, by decide, rfl⟩ (Nat.le_of_ble_eq_true rfl) (Nat.le_of_ble_eq_true rfl) (s_7 (a1 := 3) (a2 := y_21) hI_29 (show 1 ≤ 3 ∧ 3 ≤ 3 from ⟨by decide, by decide⟩) (show 0 ≤ y_21 ∧ y_21 ≤ 600 from hy_21) (fun c_39 hI_40 hF_41 h_42 => ?_))
          refine bk_inl ?_
          have h_43 := ir_1_4 hI_40
          refine q_goto (t := 63) rfl (by decide) ?_
          refine q_aload_n rfl rfl ?_
          refine q_ldc_s rfl rfl rfl (by decide) ?_
          refine v_cv rfl rfl rfl rfl (by decide) ⟨⟨rfl, rfl⟩, by decide, rfl⟩ (Nat.le_of_ble_eq_true rfl) (Nat.le_of_ble_eq_true rfl) (s_11 hI_40 (q := 9) (nt := 1) (by decide) (by decide) (by decide) (fun c_44 hI_45 hF_46 => ?_))
          refine bk_inl ?_
          refine v_iinc (v := v3 + 1) rfl rfl (by decide) rfl ?_
          refine q_goto (t := 4) rfl (by decide) ?_
          refine Wp_ls [(0, .ref A), (1, .ref 1), (2, vi v2), (3, vi (v3 + 1))] (lsub_cons rfl (lsub_cons rfl (lsub_cons rfl (lsub_cons rfl lsub_nil)))) ?_
          have hr_47 : ∀ j : Int, 0 ≤ j → j < v2 → 0 ≤ c_44 (A + 5) j ∧ c_44 (A + 5) j ≤ 3 := by
            intro j hj1 hj2
            have q9 : c_44 (A + 5) j = c2 (A + 5) j := (hF_46 (A + 5) j (by omega)).trans ((hF_41 (A + 5) j (by omega)).trans ((hF_30 (A + 5) j (by omega)).trans ((hF_20 (A + 5) j (by omega)).trans (hF_9 (A + 5) j (by omega)))))
            rw [q9]
            exact hx0 j hj1 (by omega)
          exact ih c_44 v2 (v3 + 1) hI_45 (fun a j hm => (hF_46 a j (fun q => q.elim (fun h => hm (Or.inl h)) (fun q => q.elim (fun h => hm (Or.inr (Or.inl h))) (fun h => hm (Or.inr (Or.inr (Or.inl h))))))).trans ((hF_41 a j (fun q => q.elim (fun h => hm (Or.inr (Or.inl h))) (fun h => hm (Or.inr (Or.inr (Or.inl h)))))).trans ((hF_30 a j (fun q => q.elim (fun h => hm (Or.inl h)) (fun q => q.elim (fun h => hm (Or.inr (Or.inl h))) (fun h => hm (Or.inr (Or.inr (Or.inl h))))))).trans ((hF_20 a j (fun h => hm (Or.inl h))).trans ((hF_9 a j (fun h => hm (Or.inl h))).trans (hF a j (fun q => q.elim (fun h => hm (Or.inl h)) (fun q => q.elim (fun h => hm (Or.inr (Or.inl h))) (fun q => q.elim (fun h => hm (Or.inr (Or.inr (Or.inl h)))) (fun q => q.elim (fun h => hm (Or.inr (Or.inr (Or.inr (Or.inl h))))) (fun q => q.elim (fun h => hm (Or.inr (Or.inr (Or.inr (Or.inr (Or.inl h)))))) (fun h => hm (Or.inr (Or.inr (Or.inr (Or.inr (Or.inr h))))))))))))))))) hv2 ⟨by first | exact rgp_l hv3.1 (by decide) | omega, by omega⟩ hr_47 (Or.inr ⟨by omega, by omega⟩) (by omega)
set_option maxRecDepth 100000 in
set_option maxHeartbeats 4000000 in
theorem s_35 {sc : List Int32} {e : Int} {d u P Q A : Nat} {c : ME} {Z : AR → Prop} (hI : Iv u e P Q c) (hA : A = 13 ∨ A = 25) (K : ∀ (c2 : ME), Iv u e P Q c2 → (∀ (a : Nat) (j : Int), ¬ ((a = 1 ∧ j = 2) ∨ (a = 1 ∧ j = 4) ∨ (a = 1 ∧ j = 5) ∨ (a = A ∧ j = 4) ∨ a = (A + 4) ∨ a = (A + 5)) → c2 a j = c a j) → Z (.inl (none), Wd P Q P P c2, 0, 0)) : Wp sc (d + 10) 35 0 [(0, .ref A), (1, .ref 1)] [] (Wd P Q P P c) 0 0 Z := by
  have hP := iv_P hI
  have hQ := iv_Q hI
  refine q_iconst rfl ?_
  refine q_istore_n rfl (by decide) ?_
  refine q_iconst rfl ?_
  refine q_istore_n rfl (by decide) ?_
  refine Wp_ls [(0, .ref A), (1, .ref 1), (2, vi 0), (3, vi 0)] (lsub_cons rfl (lsub_cons rfl (lsub_cons rfl (lsub_cons rfl lsub_nil)))) ?_
  have hr_48 : ∀ j : Int, 0 ≤ j → j < 0 → 0 ≤ c (A + 5) j ∧ c (A + 5) j ≤ 3 := by
    intro j hj1 hj2
    omega
  exact (s_35_l (sc := sc) (d := d) hI hA K 22) c 0 0 hI (fun a j hm => rfl) ⟨by decide, by decide⟩ ⟨by decide, by decide⟩ hr_48 (Or.inl (by omega)) (by omega)

set_option maxRecDepth 100000 in
set_option maxHeartbeats 4000000 in
theorem s_36_l {sc : List Int32} {e : Int} {d u P Q A : Nat} {c : ME} {Z : AR → Prop} (hI : Iv u e P Q c) (hA : A = 13 ∨ A = 25) (K : ∀ (c2 : ME), Iv u e P Q c2 → (∀ (a : Nat) (j : Int), ¬ ((a = 1 ∧ j = 2) ∨ (a = 1 ∧ j = 4) ∨ (a = 1 ∧ j = 5) ∨ (a = A ∧ j = 5) ∨ a = (A + 5) ∨ a = (A + 6)) → c2 a j = c a j) → Z (.inl (none), Wd P Q P P c2, 0, 0)) : ∀ n : Nat, (∀ (c2 : ME) (v2 : Int), Iv u e P Q c2 → (∀ (a : Nat) (j : Int), ¬ ((a = 1 ∧ j = 2) ∨ (a = 1 ∧ j = 4) ∨ (a = 1 ∧ j = 5) ∨ (a = A ∧ j = 5) ∨ a = (A + 5) ∨ a = (A + 6)) → c2 a j = c a j) → 0 ≤ v2 ∧ v2 ≤ 4 → 22 - 2 * v2 < (n : Int) → Wp sc (d + 10) 36 2 [(0, .ref A), (1, .ref 1), (2, vi v2)] [] (Wd P Q P P c2) 0 0 Z) ∧ (∀ (c2 : ME) (v2 : Int) (v3 : Int), Iv u e P Q c2 → (∀ (a : Nat) (j : Int), ¬ ((a = 1 ∧ j = 2) ∨ (a = 1 ∧ j = 4) ∨ (a = 1 ∧ j = 5) ∨ (a = A ∧ j = 5) ∨ a = (A + 5) ∨ a = (A + 6)) → c2 a j = c a j) → 0 ≤ v2 ∧ v2 ≤ 5 → 0 ≤ v3 ∧ v3 ≤ 5 → 11 - 2 * v3 < (n : Int) → Wp sc (d + 10) 36 24 [(0, .ref A), (1, .ref 1), (2, vi v2), (3, vi v3)] [] (Wd P Q P P c2) 0 0 Z)
  | 0 => by exact ⟨by (intro c2 v2 hI2 hF hv2 hm9; have hP := iv_P hI; have hQ := iv_Q hI; exfalso; omega), by (intro c2 v2 v3 hI2 hF hv2 hv3 hm9; have hP := iv_P hI; have hQ := iv_Q hI; exfalso; omega)⟩
  | n + 1 => by
    have hP := iv_P hI
    have hQ := iv_Q hI
    have ih := s_36_l (sc := sc) (d := d) hI hA K n
    refine ⟨?_, ?_⟩
    · skip
      intro c2 v2 hI2 hF hv2 hm9
      refine q_iload_n rfl rfl ?_
      refine q_iconst rfl ?_
      by_cases h_1 : v2 ≥ 4
      · refine v_ic_ge_t (t := 20) rfl (by decide) ⟨by decide, h_1, (Int.le_trans hv2.2 (by decide))⟩ ?_
        refine q_iconst rfl ?_
        refine q_istore_n rfl (by decide) ?_
        refine q_iconst rfl ?_
        refine q_istore_n rfl (by decide) ?_
        refine Wp_ls [(0, .ref A), (1, .ref 1), (2, vi 0), (3, vi 0)] (lsub_cons rfl (lsub_cons rfl (lsub_cons rfl (lsub_cons rfl lsub_nil)))) ?_
        exact ih.2 c2 0 0 hI2 (fun a j hm => hF a j (fun q => q.elim (fun h => hm (Or.inl h)) (fun q => q.elim (fun h => hm (Or.inr (Or.inl h))) (fun q => q.elim (fun h => hm (Or.inr (Or.inr (Or.inl h)))) (fun q => q.elim (fun h => hm (Or.inr (Or.inr (Or.inr (Or.inl h))))) (fun q => q.elim (fun h => hm (Or.inr (Or.inr (Or.inr (Or.inr (Or.inl h)))))) (fun h => hm (Or.inr (Or.inr (Or.inr (Or.inr (Or.inr h)))))))))))) ⟨by decide, by decide⟩ ⟨by decide, by decide⟩ (by omega)
      · refine v_ic_ge_f (t := 20) rfl (by decide) ⟨(Int.le_trans (by decide) hv2.1), (Int.not_le.mp h_1), by decide⟩ ?_
        refine q_aload_n rfl rfl ?_
        refine v_gr (t := (A + 5)) rfl rfl (ck_p0 hA) (a68z hA) rfl ?_
        refine q_iload_n rfl rfl ?_
        refine q_iconst rfl ?_
        refine v_is rfl (ck_p5 hA) (a68 hA rfl) (by decide) (by omega) ?_
        refine v_iinc (v := v2 + 1) rfl rfl (by decide) rfl ?_
        refine q_goto (t := 2) rfl (by decide) ?_
        have hI_2 := iw_p5 (j := v2) (v := (-1)) hI2 hA ⟨by decide, by decide⟩
        refine Wp_ls [(0, .ref A), (1, .ref 1), (2, vi (v2 + 1))] (lsub_cons rfl (lsub_cons rfl (lsub_cons rfl lsub_nil))) ?_
        exact ih.1 (up c2 (A + 5) v2 (-1)) (v2 + 1) hI_2 (fun a j hm => (up_b (Decidable.or_iff_not_imp_left.mpr (fun h1 h2 => hm (Or.inr (Or.inr (Or.inr (Or.inr (Or.inl (Decidable.not_not.mp h1))))))))).trans (hF a j (fun q => q.elim (fun h => hm (Or.inl h)) (fun q => q.elim (fun h => hm (Or.inr (Or.inl h))) (fun q => q.elim (fun h => hm (Or.inr (Or.inr (Or.inl h)))) (fun q => q.elim (fun h => hm (Or.inr (Or.inr (Or.inr (Or.inl h))))) (fun q => q.elim (fun h => hm (Or.inr (Or.inr (Or.inr (Or.inr (Or.inl h)))))) (fun h => hm (Or.inr (Or.inr (Or.inr (Or.inr (Or.inr h))))))))))))) ⟨by first | exact rgp_l hv2.1 (by decide) | omega, by omega⟩ (by omega)
    · skip
      intro c2 v2 v3 hI2 hF hv2 hv3 hm9
      refine q_iload_n rfl rfl ?_
      refine q_iconst rfl ?_
      by_cases h_3 : v3 > 4
      · refine v_ic_gt_t (t := 97) rfl (by decide) ⟨by decide, h_3, (Int.le_trans hv3.2 (by decide))⟩ ?_
        refine q_aload_n rfl rfl ?_
        refine v_cv rfl rfl rfl rfl (by decide) ⟨⟨rfl, rfl⟩, by decide, rfl⟩ (Nat.le_of_ble_eq_true rfl) (Nat.le_of_ble_eq_true rfl) ?_
        refine q_aload_n rfl rfl ?_
        have h_4 := ir_1_4 hI2
        refine v_gi (z := 4) (v := c2 1 4) rfl rfl rfl (by decide) rfl rfl rfl ?_
        by_cases h_5 : c2 1 4 ≠ 0
        · refine v_if_ne_t (t := 11) rfl (by decide) ⟨h_5, ⟨(Int.le_trans (by decide) h_4.1), (Int.le_trans h_4.2 (by decide))⟩, by decide, by decide⟩ ?_
          refine q_iconst rfl ?_
          refine v_zret rfl rfl (by decide) ?_
          refine bk_inl ?_
          refine v_if_eq_t (t := 123) rfl (by decide) (by decide) ?_
          refine q_vret rfl rfl ?_
          exact K c2 hI2 (fun a j hm => hF a j (fun q => q.elim (fun h => hm (Or.inl h)) (fun q => q.elim (fun h => hm (Or.inr (Or.inl h))) (fun q => q.elim (fun h => hm (Or.inr (Or.inr (Or.inl h)))) (fun q => q.elim (fun h => hm (Or.inr (Or.inr (Or.inr (Or.inl h))))) (fun q => q.elim (fun h => hm (Or.inr (Or.inr (Or.inr (Or.inr (Or.inl h)))))) (fun h => hm (Or.inr (Or.inr (Or.inr (Or.inr (Or.inr h))))))))))))
        · refine v_if_ne_f (t := 11) rfl (by decide) (Decidable.not_not.mp h_5) ?_
          refine q_iconst rfl ?_
          refine q_goto (t := 12) rfl (by decide) ?_
          refine v_zret rfl rfl (by decide) ?_
          refine bk_inl ?_
          refine v_if_eq_f (t := 123) rfl (by decide) (by decide) ?_
          refine q_aload_n rfl rfl ?_
          refine v_gr (t := (A + 5)) rfl rfl (ck_p0 hA) (a68z hA) rfl ?_
          refine q_iconst rfl ?_
          refine q_aload_n rfl rfl ?_
          refine v_gr (t := (A + 6)) rfl rfl (ck_p0 hA) (a68z hA) rfl ?_
          refine q_iconst rfl ?_
          refine q_iconst rfl ?_
          refine v_cpy rfl rfl (ck_p6 hA) (a68 hA rfl) (ck_p5 hA) (a68 hA rfl) rfl rfl (by omega) (Nat.le_of_ble_eq_true rfl) (by omega) ?_
          refine q_aload_n rfl rfl ?_
          refine q_iload_n rfl rfl ?_
          refine v_pi (z := 5) rfl rfl (ck_p0 hA) (a68z hA) rfl rfl rfl (by decide) ?_
          refine q_vret rfl rfl ?_
          have hI_6 := cp_p5_p6 (n := 4) hI2 hA
          have hI_7 := iw_p0_5 (v := v2) hI_6 hA ⟨hv2.1, hv2.2⟩
          exact K (up (upc c2 (A + 5) 0 (A + 6) 0 4) A 5 v2) hI_7 (fun a j hm => (up_b (Decidable.or_iff_not_imp_left.mpr (fun h1 h2 => hm (Or.inr (Or.inr (Or.inr (Or.inl ⟨Decidable.not_not.mp h1, h2⟩))))))).trans ((upc_c (fun h => hm (Or.inr (Or.inr (Or.inr (Or.inr (Or.inr h))))))).trans (hF a j (fun q => q.elim (fun h => hm (Or.inl h)) (fun q => q.elim (fun h => hm (Or.inr (Or.inl h))) (fun q => q.elim (fun h => hm (Or.inr (Or.inr (Or.inl h)))) (fun q => q.elim (fun h => hm (Or.inr (Or.inr (Or.inr (Or.inl h))))) (fun q => q.elim (fun h => hm (Or.inr (Or.inr (Or.inr (Or.inr (Or.inl h)))))) (fun h => hm (Or.inr (Or.inr (Or.inr (Or.inr (Or.inr h))))))))))))))
      · refine v_ic_gt_f (t := 97) rfl (by decide) ⟨(Int.le_trans (by decide) hv3.1), (Int.not_lt.mp h_3), by decide⟩ ?_
        refine q_aload_n rfl rfl ?_
        refine v_cv rfl rfl rfl rfl (by decide) ⟨⟨rfl, rfl⟩, by decide, rfl⟩ (Nat.le_of_ble_eq_true rfl) (Nat.le_of_ble_eq_true rfl) (s_15 hI2 (fun c_8 y_11 hI_9 hF_10 hy_11 => ?_))
        refine bk_inl ?_
        by_cases h_12 : y_11 = 0
        · refine v_if_eq_t (t := 97) rfl (by decide) h_12 ?_
          refine q_aload_n rfl rfl ?_
          refine v_cv rfl rfl rfl rfl (by decide) ⟨⟨rfl, rfl⟩, by decide, rfl⟩ (Nat.le_of_ble_eq_true rfl) (Nat.le_of_ble_eq_true rfl) ?_
          refine q_aload_n rfl rfl ?_
          have h_13 := ir_1_4 hI2
          have kn_14 : Hid (c_8 1 4 = c2 1 4) := hF_10 1 4 (fun h => absurd h.2 (ni rfl))
          refine v_gi (z := 4) (v := c2 1 4) rfl rfl rfl (by decide) rfl rfl (hid kn_14) ?_
          by_cases h_15 : c2 1 4 ≠ 0
          · refine v_if_ne_t (t := 11) rfl (by decide) ⟨h_15, ⟨by omega, by omega⟩, by decide, by decide⟩ ?_
            refine q_iconst rfl ?_
            refine v_zret rfl rfl (by decide) ?_
            refine bk_inl ?_
            refine v_if_eq_t (t := 123) rfl (by decide) (by decide) ?_
            refine q_vret rfl rfl ?_
            exact K c_8 hI_9 (fun a j hm => (hF_10 a j (fun h => hm (Or.inl h))).trans (hF a j (fun q => q.elim (fun h => hm (Or.inl h)) (fun q => q.elim (fun h => hm (Or.inr (Or.inl h))) (fun q => q.elim (fun h => hm (Or.inr (Or.inr (Or.inl h)))) (fun q => q.elim (fun h => hm (Or.inr (Or.inr (Or.inr (Or.inl h))))) (fun q => q.elim (fun h => hm (Or.inr (Or.inr (Or.inr (Or.inr (Or.inl h)))))) (fun h => hm (Or.inr (Or.inr (Or.inr (Or.inr (Or.inr h)))))))))))))
          · refine v_if_ne_f (t := 11) rfl (by decide) (Decidable.not_not.mp h_15) ?_
            refine q_iconst rfl ?_
            refine q_goto (t := 12) rfl (by decide) ?_
            refine v_zret rfl rfl (by decide) ?_
            refine bk_inl ?_
            refine v_if_eq_f (t := 123) rfl (by decide) (by decide) ?_
            refine q_aload_n rfl rfl ?_
            refine v_gr (t := (A + 5)) rfl rfl (ck_p0 hA) (a68z hA) rfl ?_
            refine q_iconst rfl ?_
            refine q_aload_n rfl rfl ?_
            refine v_gr (t := (A + 6)) rfl rfl (ck_p0 hA) (a68z hA) rfl ?_
            refine q_iconst rfl ?_
            refine q_iconst rfl ?_
            refine v_cpy rfl rfl (ck_p6 hA) (a68 hA rfl) (ck_p5 hA) (a68 hA rfl) rfl rfl (by omega) (Nat.le_of_ble_eq_true rfl) (by omega) ?_
            refine q_aload_n rfl rfl ?_
            refine q_iload_n rfl rfl ?_
            refine v_pi (z := 5) rfl rfl (ck_p0 hA) (a68z hA) rfl rfl rfl (by decide) ?_
            refine q_vret rfl rfl ?_
            have hI_16 := cp_p5_p6 (n := 4) hI_9 hA
            have hI_17 := iw_p0_5 (v := v2) hI_16 hA ⟨hv2.1, hv2.2⟩
            exact K (up (upc c_8 (A + 5) 0 (A + 6) 0 4) A 5 v2) hI_17 (fun a j hm => (up_b (Decidable.or_iff_not_imp_left.mpr (fun h1 h2 => hm (Or.inr (Or.inr (Or.inr (Or.inl ⟨Decidable.not_not.mp h1, h2⟩))))))).trans ((upc_c (fun h => hm (Or.inr (Or.inr (Or.inr (Or.inr (Or.inr h))))))).trans ((hF_10 a j (fun h => hm (Or.inl h))).trans (hF a j (fun q => q.elim (fun h => hm (Or.inl h)) (fun q => q.elim (fun h => hm (Or.inr (Or.inl h))) (fun q => q.elim (fun h => hm (Or.inr (Or.inr (Or.inl h)))) (fun q => q.elim (fun h => hm (Or.inr (Or.inr (Or.inr (Or.inl h))))) (fun q => q.elim (fun h => hm (Or.inr (Or.inr (Or.inr (Or.inr (Or.inl h)))))) (fun h => hm (Or.inr (Or.inr (Or.inr (Or.inr (Or.inr h)))))))))))))))
        · refine v_if_eq_f (t := 97) rfl (by decide) ⟨h_12, ⟨(Int.le_trans (by decide) hy_11.1), (Int.le_trans hy_11.2 (by decide))⟩, by decide, by decide⟩ ?_
          refine q_aload_n rfl rfl ?_
          refine v_cv rfl rfl rfl rfl (by decide) ⟨⟨rfl, rfl⟩, by decide, rfl⟩ (Nat.le_of_ble_eq_true rfl) (Nat.le_of_ble_eq_true rfl) (s_3 hI_9 (fun c_18 y_21 hI_19 hF_20 hy_21 h_22 => ?_))
          refine bk_inl ?_
          have h_23 := ir_1_2 hI_19
          refine q_istore rfl (by decide) ?_
          refine q_aload_n rfl rfl ?_
          refine q_iconst rfl ?_
          refine v_cv rfl rfl rfl rfl (by decide) ⟨⟨rfl, rfl⟩, by decide, rfl⟩ (Nat.le_of_ble_eq_true rfl) (Nat.le_of_ble_eq_true rfl) (s_8 (a1 := 3) hI_19 (show (-1) ≤ 3 ∧ 3 ≤ 9999 from ⟨by decide, by decide⟩) (fun c_24 y_27 hI_25 hF_26 hy_27 h_28 => ?_))
          refine bk_inl ?_
          refine q_istore rfl (by decide) ?_
          refine q_aload_n rfl rfl ?_
          refine v_gr (t := (A + 5)) rfl rfl (ck_p0 hA) (a68z hA) rfl ?_
          refine q_iload rfl rfl ?_
          have h_29 := ir_p5 hI2 hA y_27
          have kn_30 : Hid (c_8 (A + 5) y_27 = c2 (A + 5) y_27) := hF_10 (A + 5) y_27 (fun h => absurd h.1 (np hA rfl rfl))
          have kn_31 : Hid (c_18 (A + 5) y_27 = c2 (A + 5) y_27) := (hF_20 (A + 5) y_27 (fun h => absurd h.1 (np hA rfl rfl))).trans (hid kn_30)
          have kn_32 : Hid (c_24 (A + 5) y_27 = c2 (A + 5) y_27) := (hF_26 (A + 5) y_27 (fun q => q.elim (fun h => absurd h.1 (np hA rfl rfl)) (fun q => q.elim (fun h => absurd h.1 (np hA rfl rfl)) (fun h => absurd h.1 (np hA rfl rfl))))).trans (hid kn_31)
          refine v_ia (v := c2 (A + 5) y_27) rfl (ck_p5 hA) (a68 hA rfl) (by decide) (by omega) (hid kn_32) ?_
          refine q_iconst rfl ?_
          by_cases h_33 : c2 (A + 5) y_27 = (-1)
          · refine v_ic_eq_t (t := 67) rfl (by decide) h_33 ?_
            refine q_aload_n rfl rfl ?_
            refine v_gr (t := (A + 5)) rfl rfl (ck_p0 hA) (a68z hA) rfl ?_
            refine q_iload rfl rfl ?_
            refine q_aload_n rfl rfl ?_
            refine v_sip rfl (by decide) ?_
            refine v_cv rfl rfl rfl rfl (by decide) ⟨⟨rfl, rfl⟩, by decide, rfl⟩ (Nat.le_of_ble_eq_true rfl) (Nat.le_of_ble_eq_true rfl) (s_8 (a1 := 9999) hI_25 (show (-1) ≤ 9999 ∧ 9999 ≤ 9999 from ⟨by decide, by decide⟩) (fun c_34 y_37 hI_35 hF_36 hy_37 h_38 => ?_))
            refine bk_inl ?_
            refine v_is rfl (ck_p5 hA) (a68 hA rfl) (by decide) (by omega) ?_
            refine q_aload_n rfl rfl ?_
            refine q_ldc_s rfl rfl rfl (by decide) ?_
            have hI_39 := iw_p5 (j := y_27) (v := y_37) hI_35 hA ⟨(Int.le_trans (by decide) hy_37.1), hy_37.2⟩
            refine v_cv rfl rfl rfl rfl (by decide) ⟨⟨rfl, rfl⟩, by decide, rfl⟩ (Nat.le_of_ble_eq_true rfl) (Nat.le_of_ble_eq_true rfl) (s_11 hI_39 (q := 9) (nt := 1) (by decide) (by decide) (by decide) (fun c_40 hI_41 hF_42 => ?_))
            refine bk_inl ?_
            refine q_iload_n rfl rfl ?_
            refine q_iconst rfl ?_
            refine v_iadd (v := v3 + 1) rfl rfl ?_
            refine q_istore_n rfl (by decide) ?_
            refine v_iinc (v := v3 + 1) rfl rfl (by decide) rfl ?_
            refine q_goto (t := 24) rfl (by decide) ?_
            refine Wp_ls [(0, .ref A), (1, .ref 1), (2, vi (v3 + 1)), (3, vi (v3 + 1))] (lsub_cons rfl (lsub_cons rfl (lsub_cons rfl (lsub_cons rfl lsub_nil)))) ?_
            exact ih.2 c_40 (v3 + 1) (v3 + 1) hI_41 (fun a j hm => (hF_42 a j (fun q => q.elim (fun h => hm (Or.inl h)) (fun q => q.elim (fun h => hm (Or.inr (Or.inl h))) (fun h => hm (Or.inr (Or.inr (Or.inl h))))))).trans ((up_b (Decidable.or_iff_not_imp_left.mpr (fun h1 h2 => hm (Or.inr (Or.inr (Or.inr (Or.inr (Or.inl (Decidable.not_not.mp h1))))))))).trans ((hF_36 a j (fun q => q.elim (fun h => hm (Or.inl h)) (fun q => q.elim (fun h => hm (Or.inr (Or.inl h))) (fun h => hm (Or.inr (Or.inr (Or.inl h))))))).trans ((hF_26 a j (fun q => q.elim (fun h => hm (Or.inl h)) (fun q => q.elim (fun h => hm (Or.inr (Or.inl h))) (fun h => hm (Or.inr (Or.inr (Or.inl h))))))).trans ((hF_20 a j (fun h => hm (Or.inl h))).trans ((hF_10 a j (fun h => hm (Or.inl h))).trans (hF a j (fun q => q.elim (fun h => hm (Or.inl h)) (fun q => q.elim (fun h => hm (Or.inr (Or.inl h))) (fun q => q.elim (fun h => hm (Or.inr (Or.inr (Or.inl h)))) (fun q => q.elim (fun h => hm (Or.inr (Or.inr (Or.inr (Or.inl h))))) (fun q => q.elim (fun h => hm (Or.inr (Or.inr (Or.inr (Or.inr (Or.inl h)))))) (fun h => hm (Or.inr (Or.inr (Or.inr (Or.inr (Or.inr h)))))))))))))))))) ⟨by first | exact rgp_l hv3.1 (by decide) | omega, by omega⟩ ⟨by first | exact rgp_l hv3.1 (by decide) | omega, by omega⟩ (by omega)
          · refine v_ic_eq_f (t := 67) rfl (by decide) ⟨h_33, ⟨by omega, by omega⟩, by decide, by decide⟩ ?_
            refine q_aload_n rfl rfl ?_
            refine q_iconst rfl ?_
            refine q_iload rfl rfl ?_
            refine v_cv rfl rfl rfl rfl (by decide) ⟨⟨rfl, rfl⟩, by decide, rfl⟩ (Nat.le_of_ble_eq_true rfl) (Nat.le_of_ble_eq_true rfl) (s_7 (a1 := 2) (a2 := y_21) hI_25 (show 1 ≤ 2 ∧ 2 ≤ 3 from ⟨by decide, by decide⟩) (show 0 ≤ y_21 ∧ y_21 ≤ 600 from hy_21) (fun c_43 hI_44 hF_45 h_46 => ?_))
            refine bk_inl ?_
            have h_47 := ir_1_4 hI_44
            refine q_aload_n rfl rfl ?_
            refine v_gr (t := (A + 5)) rfl rfl (ck_p0 hA) (a68z hA) rfl ?_
            refine q_iload rfl rfl ?_
            refine q_aload_n rfl rfl ?_
            refine v_sip rfl (by decide) ?_
            refine v_cv rfl rfl rfl rfl (by decide) ⟨⟨rfl, rfl⟩, by decide, rfl⟩ (Nat.le_of_ble_eq_true rfl) (Nat.le_of_ble_eq_true rfl) (s_8 (a1 := 9999) hI_44 (show (-1) ≤ 9999 ∧ 9999 ≤ 9999 from ⟨by decide, by decide⟩) (fun c_48 y_51 hI_49 hF_50 hy_51 h_52 => ?_))
            refine bk_inl ?_
            refine v_is rfl (ck_p5 hA) (a68 hA rfl) (by decide) (by omega) ?_
            refine q_aload_n rfl rfl ?_
            refine q_ldc_s rfl rfl rfl (by decide) ?_
            have hI_53 := iw_p5 (j := y_27) (v := y_51) hI_49 hA ⟨(Int.le_trans (by decide) hy_51.1), hy_51.2⟩
            refine v_cv rfl rfl rfl rfl (by decide) ⟨⟨rfl, rfl⟩, by decide, rfl⟩ (Nat.le_of_ble_eq_true rfl) (Nat.le_of_ble_eq_true rfl) (s_11 hI_53 (q := 9) (nt := 1) (by decide) (by decide) (by decide) (fun c_54 hI_55 hF_56 => ?_))
            refine bk_inl ?_
            refine q_iload_n rfl rfl ?_
            refine q_iconst rfl ?_
            refine v_iadd (v := v3 + 1) rfl rfl ?_
            refine q_istore_n rfl (by decide) ?_
            refine v_iinc (v := v3 + 1) rfl rfl (by decide) rfl ?_
            refine q_goto (t := 24) rfl (by decide) ?_
            refine Wp_ls [(0, .ref A), (1, .ref 1), (2, vi (v3 + 1)), (3, vi (v3 + 1))] (lsub_cons rfl (lsub_cons rfl (lsub_cons rfl (lsub_cons rfl lsub_nil)))) ?_
            exact ih.2 c_54 (v3 + 1) (v3 + 1) hI_55 (fun a j hm => (hF_56 a j (fun q => q.elim (fun h => hm (Or.inl h)) (fun q => q.elim (fun h => hm (Or.inr (Or.inl h))) (fun h => hm (Or.inr (Or.inr (Or.inl h))))))).trans ((up_b (Decidable.or_iff_not_imp_left.mpr (fun h1 h2 => hm (Or.inr (Or.inr (Or.inr (Or.inr (Or.inl (Decidable.not_not.mp h1))))))))).trans ((hF_50 a j (fun q => q.elim (fun h => hm (Or.inl h)) (fun q => q.elim (fun h => hm (Or.inr (Or.inl h))) (fun h => hm (Or.inr (Or.inr (Or.inl h))))))).trans ((hF_45 a j (fun q => q.elim (fun h => hm (Or.inr (Or.inl h))) (fun h => hm (Or.inr (Or.inr (Or.inl h)))))).trans ((hF_26 a j (fun q => q.elim (fun h => hm (Or.inl h)) (fun q => q.elim (fun h => hm (Or.inr (Or.inl h))) (fun h => hm (Or.inr (Or.inr (Or.inl h))))))).trans ((hF_20 a j (fun h => hm (Or.inl h))).trans ((hF_10 a j (fun h => hm (Or.inl h))).trans (hF a j (fun q => q.elim (fun h => hm (Or.inl h)) (fun q => q.elim (fun h => hm (Or.inr (Or.inl h))) (fun q => q.elim (fun h => hm (Or.inr (Or.inr (Or.inl h)))) (fun q => q.elim (fun h => hm (Or.inr (Or.inr (Or.inr (Or.inl h))))) (fun q => q.elim (fun h => hm (Or.inr (Or.inr (Or.inr (Or.inr (Or.inl h)))))) (fun h => hm (Or.inr (Or.inr (Or.inr (Or.inr (Or.inr h))))))))))))))))))) ⟨by first | exact rgp_l hv3.1 (by decide) | omega, by omega⟩ ⟨by first | exact rgp_l hv3.1 (by decide) | omega, by omega⟩ (by omega)
set_option maxRecDepth 100000 in
set_option maxHeartbeats 4000000 in
theorem s_36 {sc : List Int32} {e : Int} {d u P Q A : Nat} {c : ME} {Z : AR → Prop} (hI : Iv u e P Q c) (hA : A = 13 ∨ A = 25) (K : ∀ (c2 : ME), Iv u e P Q c2 → (∀ (a : Nat) (j : Int), ¬ ((a = 1 ∧ j = 2) ∨ (a = 1 ∧ j = 4) ∨ (a = 1 ∧ j = 5) ∨ (a = A ∧ j = 5) ∨ a = (A + 5) ∨ a = (A + 6)) → c2 a j = c a j) → Z (.inl (none), Wd P Q P P c2, 0, 0)) : Wp sc (d + 10) 36 0 [(0, .ref A), (1, .ref 1)] [] (Wd P Q P P c) 0 0 Z := by
  have hP := iv_P hI
  have hQ := iv_Q hI
  refine q_iconst rfl ?_
  refine q_istore_n rfl (by decide) ?_
  refine Wp_ls [(0, .ref A), (1, .ref 1), (2, vi 0)] (lsub_cons rfl (lsub_cons rfl (lsub_cons rfl lsub_nil))) ?_
  exact (s_36_l (sc := sc) (d := d) hI hA K 25).1 c 0 hI (fun a j hm => rfl) ⟨by decide, by decide⟩ (by omega)

set_option maxRecDepth 100000 in
set_option maxHeartbeats 4000000 in
theorem s_38 {sc : List Int32} {e : Int} {d u P Q : Nat} {c : ME} {Z : AR → Prop} (hI : Iv u e P Q c)  (K : ∀ (c2 : ME) (y : Int), Iv u e P Q c2 → (∀ (a : Nat) (j : Int), ¬ ((a = 1 ∧ j = 2) ∨ (a = 1 ∧ j = 4) ∨ (a = 1 ∧ j = 5)) → c2 a j = c a j) → 0 ≤ y ∧ y ≤ 999 → Z (.inl (some (vi y)), Wd P Q P P c2, 0, 0)) : Wp sc (d + 10) 38 0 [(0, .ref 1)] [] (Wd P Q P P c) 0 0 Z := by
  have hP := iv_P hI
  have hQ := iv_Q hI
  refine q_aload_n rfl rfl ?_
  refine v_cv rfl rfl rfl rfl (by decide) ⟨⟨rfl, rfl⟩, by decide, rfl⟩ (Nat.le_of_ble_eq_true rfl) (Nat.le_of_ble_eq_true rfl) (s_3 hI (fun c_1 y_4 hI_2 hF_3 hy_4 h_5 => ?_))
  refine bk_inl ?_
  have h_6 := ir_1_2 hI_2
  refine q_istore_n rfl (by decide) ?_
  refine q_aload_n rfl rfl ?_
  refine v_sip rfl (by decide) ?_
  refine v_cv rfl rfl rfl rfl (by decide) ⟨⟨rfl, rfl⟩, by decide, rfl⟩ (Nat.le_of_ble_eq_true rfl) (Nat.le_of_ble_eq_true rfl) (s_8 (a1 := 999) hI_2 (show (-1) ≤ 999 ∧ 999 ≤ 9999 from ⟨by decide, by decide⟩) (fun c_7 y_10 hI_8 hF_9 hy_10 h_11 => ?_))
  refine bk_inl ?_
  refine q_istore_n rfl (by decide) ?_
  refine q_iload_n rfl rfl ?_
  by_cases h_12 : y_10 ≠ 0
  · refine v_if_ne_t (t := 23) rfl (by decide) ⟨h_12, ⟨(Int.le_trans (by decide) hy_10.1), (Int.le_trans hy_10.2 (by decide))⟩, by decide, by decide⟩ ?_
    refine q_iload_n rfl rfl ?_
    refine q_iret rfl rfl ?_
    exact K c_7 y_10 hI_8 (fun a j hm => (hF_9 a j (fun q => q.elim (fun h => hm (Or.inl h)) (fun q => q.elim (fun h => hm (Or.inr (Or.inl h))) (fun h => hm (Or.inr (Or.inr h)))))).trans (hF_3 a j (fun h => hm (Or.inl h)))) ⟨hy_10.1, by omega⟩
  · refine v_if_ne_f (t := 23) rfl (by decide) (Decidable.not_not.mp h_12) ?_
    refine q_aload_n rfl rfl ?_
    refine q_iconst rfl ?_
    refine q_iload_n rfl rfl ?_
    refine v_cv rfl rfl rfl rfl (by decide) ⟨⟨rfl, rfl⟩, by decide, rfl⟩ (Nat.le_of_ble_eq_true rfl) (Nat.le_of_ble_eq_true rfl) (s_7 (a1 := 2) (a2 := y_4) hI_8 (show 1 ≤ 2 ∧ 2 ≤ 3 from ⟨by decide, by decide⟩) (show 0 ≤ y_4 ∧ y_4 ≤ 600 from hy_4) (fun c_13 hI_14 hF_15 h_16 => ?_))
    refine bk_inl ?_
    have h_17 := ir_1_4 hI_14
    refine q_iload_n rfl rfl ?_
    refine q_iret rfl rfl ?_
    exact K c_13 y_10 hI_14 (fun a j hm => (hF_15 a j (fun q => q.elim (fun h => hm (Or.inr (Or.inl h))) (fun h => hm (Or.inr (Or.inr h))))).trans ((hF_9 a j (fun q => q.elim (fun h => hm (Or.inl h)) (fun q => q.elim (fun h => hm (Or.inr (Or.inl h))) (fun h => hm (Or.inr (Or.inr h)))))).trans (hF_3 a j (fun h => hm (Or.inl h))))) ⟨hy_10.1, by omega⟩

set_option maxRecDepth 100000 in
set_option maxHeartbeats 4000000 in
theorem s_39 {sc : List Int32} {e : Int} {d u P Q : Nat} {c : ME} {Z : AR → Prop} (hI : Iv u e P Q c)  (K : ∀ (c2 : ME) (y : Int), Iv u e P Q c2 → (∀ (a : Nat) (j : Int), ¬ ((a = 1 ∧ j = 2)) → c2 a j = c a j) → (-1) ≤ y ∧ y ≤ 255 → Z (.inl (some (vi y)), Wd P Q P P c2, 0, 0)) : Wp sc (d + 8) 39 0 [(0, .ref 1)] [] (Wd P Q P P c) 0 0 Z := by
  have hP := iv_P hI
  have hQ := iv_Q hI
  refine q_aload_n rfl rfl ?_
  refine v_cv rfl rfl rfl rfl (by decide) ⟨⟨rfl, rfl⟩, by decide, rfl⟩ (Nat.le_of_ble_eq_true rfl) (Nat.le_of_ble_eq_true rfl) (s_3 hI (fun c_1 y_4 hI_2 hF_3 hy_4 h_5 => ?_))
  refine bk_inl ?_
  have h_6 := ir_1_2 hI_2
  refine q_aload_n rfl rfl ?_
  have h_7 := ir_1_1 hI
  have kn_8 : Hid (c_1 1 1 = c 1 1) := hF_3 1 1 (fun h => absurd h.2 (ni rfl))
  refine v_gi (z := 1) (v := c 1 1) rfl rfl rfl (by decide) rfl rfl (hid kn_8) ?_
  by_cases h_9 : y_4 ≥ c 1 1
  · refine v_ic_ge_t (t := 27) rfl (by decide) ⟨by omega, h_9, (Int.le_trans hy_4.2 (by decide))⟩ ?_
    refine q_iconst rfl ?_
    refine q_iret rfl rfl ?_
    exact K c_1 (-1) hI_2 (fun a j hm => hF_3 a j (fun h => hm h)) ⟨by decide, by decide⟩
  · refine v_ic_ge_f (t := 27) rfl (by decide) ⟨(Int.le_trans (by decide) hy_4.1), (Int.not_le.mp h_9), by omega⟩ ?_
    refine q_aload_n rfl rfl ?_
    refine v_gr (t := 2) rfl rfl rfl (by decide) rfl ?_
    refine q_aload_n rfl rfl ?_
    refine v_gi (z := 2) (v := c_1 1 2) rfl rfl rfl (by decide) rfl rfl rfl ?_
    have h_10 := ir_2 hI (c_1 1 2)
    have kn_11 : Hid (c_1 2 (c_1 1 2) = c 2 (c_1 1 2)) := hF_3 2 (c_1 1 2) (fun h => absurd h.1 (nn rfl))
    refine v_ba (v := c 2 (c_1 1 2)) rfl rfl (by decide) (by decide) (by omega) (hid kn_11) ?_
    refine v_sip rfl (by decide) ?_
    refine v_and8 (v := ((c 2 (c_1 1 2)) % 256)) rfl rfl ?_
    refine q_goto (t := 28) rfl (by decide) ?_
    refine q_iret rfl rfl ?_
    exact K c_1 ((c 2 (c_1 1 2)) % 256) hI_2 (fun a j hm => hF_3 a j (fun h => hm h)) ⟨by omega, by omega⟩

set_option maxRecDepth 100000 in
set_option maxHeartbeats 4000000 in
theorem s_40 {sc : List Int32} {d u P Q : Nat} {c : ME} {t : Int} {a4 : Int} {Z : AR → Prop} (hI : Iv u t P Q c) (ht : 0 ≤ t ∧ t ≤ 37) (ha4 : 0 ≤ a4 ∧ a4 ≤ 6) (hq0 : (t + 1 ≤ c 7 2)) (hq1 : (a4 ≤ 5) ∨ (c 8 (5 * t) < 7) ∨ (c 8 (5 * t) > 7)) (H41 : ∀ (c : ME) (Z : AR → Prop), a4 + 1 ≤ 6 → Iv u (-1) P Q c → (∀ c2 : ME, Iv u (-1) P Q c2 → (∀ (a : Nat) (j : Int), ¬ ((a = 1 ∧ j = 2) ∨ (a = 1 ∧ j = 4) ∨ (a = 1 ∧ j = 5) ∨ (a = 7 ∧ j = 2) ∨ (a = 8 ∧ j ≥ 5 * c 7 2)) → c2 a j = c a j) → (c2 7 2 ≥ c 7 2) → Z (.inl none, Wd P Q P P c2, 0, 0)) → Wp sc (d + 10) 41 0 [(0, .ref 7), (1, .ref 1), (2, .ref P), (3, vi (a4 + 1))] [] (Wd P Q P P c) 0 0 Z) (K : ∀ (c2 : ME), Iv u (-1) P Q c2 → (∀ (a : Nat) (j : Int), ¬ ((a = 1 ∧ j = 2) ∨ (a = 1 ∧ j = 4) ∨ (a = 1 ∧ j = 5) ∨ (a = 7 ∧ j = 2) ∨ (a = 8 ∧ j ≥ 5 * t)) → c2 a j = c a j) → ((c2 7 2 ≥ c 7 2)) → Z (.inl (none), Wd P Q P P c2, 0, 0)) : Wp sc (d + 11) 40 0 [(0, .ref 7), (1, .ref 1), (2, .ref P), (3, vi (5 * t)), (4, vi a4)] [] (Wd P Q P P c) 0 0 Z := by
  have hP := iv_P hI
  have hQ := iv_Q hI
  have h_1 := ir_7_2 hI
  have h_2 := ir_8 hI (5 * t)
  refine q_aload_n rfl rfl ?_
  refine v_gr (t := 8) rfl rfl rfl (by decide) rfl ?_
  refine q_iload_n rfl rfl ?_
  refine v_ia (v := c 8 (5 * t)) rfl rfl (by decide) (by decide) (by omega) rfl ?_
  by_cases h_3 : c 8 (5 * t) = 0
  · skip
    refine v_tsw_i (t := 52) 0 rfl (by omega) (by decide) rfl (by decide) ?_
    refine q_aload_n rfl rfl ?_
    refine v_gr (t := 8) rfl rfl rfl (by decide) rfl ?_
    refine q_iload_n rfl rfl ?_
    refine q_iconst rfl ?_
    refine v_iadd (v := 5 * t + 1) rfl rfl ?_
    refine q_aload_n rfl rfl ?_
    refine q_aload_n rfl rfl ?_
    have h_4 := ir_p0_1 hI hP
    refine v_gi (z := 1) (v := c P 1) rfl rfl (ck_p0 hP) (a68z hP) rfl rfl rfl ?_
    refine q_iconst rfl ?_
    refine v_isub (v := c P 1 - 1) rfl rfl ?_
    refine v_cv rfl rfl rfl rfl (by decide) ⟨⟨rfl, rfl⟩, by decide, rfl⟩ (Nat.le_of_ble_eq_true rfl) (Nat.le_of_ble_eq_true rfl) (s_8 (a1 := c P 1 - 1) hI (show (-1) ≤ c P 1 - 1 ∧ c P 1 - 1 ≤ 9999 from ⟨by first | exact rgm_l h_4.1 (by decide) | omega, by first | exact rgm_h h_4.2 (by decide) | omega⟩) (fun c_5 y_8 hI_6 hF_7 hy_8 h_9 => ?_))
    refine bk_inl ?_
    refine v_is rfl rfl (by decide) (by decide) (by omega) ?_
    refine q_aload_n rfl rfl ?_
    refine v_gr (t := 8) rfl rfl rfl (by decide) rfl ?_
    refine q_iload_n rfl rfl ?_
    refine q_iconst rfl ?_
    refine v_iadd (v := 5 * t + 2) rfl rfl ?_
    refine q_aload_n rfl rfl ?_
    refine q_aload_n rfl rfl ?_
    have h_10 := ir_p0_0 hI hP
    have kn_11 : Hid (c_5 P 0 = c P 0) := hF_7 P 0 (fun q => q.elim (fun h => absurd h.1 (np0 hP rfl)) (fun q => q.elim (fun h => absurd h.1 (np0 hP rfl)) (fun h => absurd h.1 (np0 hP rfl))))
    refine v_gi (z := 0) (v := c P 0) rfl rfl (ck_p0 hP) (a68z hP) rfl rfl ((up_c (np0 hP rfl)).trans (hid kn_11)) ?_
    refine q_iconst rfl ?_
    refine v_isub (v := c P 0 - 1) rfl rfl ?_
    have hI_12 := iw_8 (t := t) (j := 5 * t + 1) (v := y_8) hI_6 ⟨by omega, by omega⟩ ⟨by omega, by omega⟩ (by omega)
    refine v_cv rfl rfl rfl rfl (by decide) ⟨⟨rfl, rfl⟩, by decide, rfl⟩ (Nat.le_of_ble_eq_true rfl) (Nat.le_of_ble_eq_true rfl) (s_8 (a1 := c P 0 - 1) hI_12 (show (-1) ≤ c P 0 - 1 ∧ c P 0 - 1 ≤ 9999 from ⟨by omega, by omega⟩) (fun c_13 y_16 hI_14 hF_15 hy_16 h_17 => ?_))
    refine bk_inl ?_
    refine v_is rfl rfl (by decide) (by decide) (by omega) ?_
    refine q_goto (t := 349) rfl (by decide) ?_
    refine q_vret rfl rfl ?_
    have hI_18 := iw_8 (t := t) (j := 5 * t + 2) (v := y_16) hI_14 ⟨by omega, by omega⟩ ⟨by omega, by omega⟩ (by omega)
    have kn_19 : Hid (c_5 8 (5 * t) = c 8 (5 * t)) := hF_7 8 (5 * t) (fun q => q.elim (fun h => absurd h.1 (nn rfl)) (fun q => q.elim (fun h => absurd h.1 (nn rfl)) (fun h => absurd h.1 (nn rfl))))
    have kn_20 : Hid (c_13 8 (5 * t) = c 8 (5 * t)) := (hF_15 8 (5 * t) (fun q => q.elim (fun h => absurd h.1 (nn rfl)) (fun q => q.elim (fun h => absurd h.1 (nn rfl)) (fun h => absurd h.1 (nn rfl))))).trans ((up_n (by omega)).trans (hid kn_19))
    have q_21 : (up c_13 8 (5 * t + 2) y_16) 8 (5 * t) = c 8 (5 * t) := ((up_n (by omega)).trans (hid kn_20))
    have kn_22 : Hid (c_13 8 (5 * t + 1) = y_8) := (hF_15 8 (5 * t + 1) (fun q => q.elim (fun h => absurd h.1 (nn rfl)) (fun q => q.elim (fun h => absurd h.1 (nn rfl)) (fun h => absurd h.1 (nn rfl))))).trans (up_e rfl)
    have q_23 : (up c_13 8 (5 * t + 2) y_16) 8 (5 * t + 1) = y_8 := ((up_n (by omega)).trans (hid kn_22))
    have q_24 : (up c_13 8 (5 * t + 2) y_16) 8 (5 * t + 2) = y_16 := (up_e rfl)
    have h_25 := ir_8 hI (5 * t + 3)
    have kn_26 : Hid (c_5 8 (5 * t + 3) = c 8 (5 * t + 3)) := hF_7 8 (5 * t + 3) (fun q => q.elim (fun h => absurd h.1 (nn rfl)) (fun q => q.elim (fun h => absurd h.1 (nn rfl)) (fun h => absurd h.1 (nn rfl))))
    have kn_27 : Hid (c_13 8 (5 * t + 3) = c 8 (5 * t + 3)) := (hF_15 8 (5 * t + 3) (fun q => q.elim (fun h => absurd h.1 (nn rfl)) (fun q => q.elim (fun h => absurd h.1 (nn rfl)) (fun h => absurd h.1 (nn rfl))))).trans ((up_n (by omega)).trans (hid kn_26))
    have q_28 : (up c_13 8 (5 * t + 2) y_16) 8 (5 * t + 3) = c 8 (5 * t + 3) := ((up_n (by omega)).trans (hid kn_27))
    have h_29 := ir_8 hI (5 * t + 4)
    have kn_30 : Hid (c_5 8 (5 * t + 4) = c 8 (5 * t + 4)) := hF_7 8 (5 * t + 4) (fun q => q.elim (fun h => absurd h.1 (nn rfl)) (fun q => q.elim (fun h => absurd h.1 (nn rfl)) (fun h => absurd h.1 (nn rfl))))
    have kn_31 : Hid (c_13 8 (5 * t + 4) = c 8 (5 * t + 4)) := (hF_15 8 (5 * t + 4) (fun q => q.elim (fun h => absurd h.1 (nn rfl)) (fun q => q.elim (fun h => absurd h.1 (nn rfl)) (fun h => absurd h.1 (nn rfl))))).trans ((up_n (by omega)).trans (hid kn_30))
    have q_32 : (up c_13 8 (5 * t + 2) y_16) 8 (5 * t + 4) = c 8 (5 * t + 4) := ((up_n (by omega)).trans (hid kn_31))
    have hI_33 : Iv u (-1) P Q (up c_13 8 (5 * t + 2) y_16) := iv_close8 (t := t) hI_18 (by unfold So; rw [q_21, q_23, q_24, q_28, q_32]; omega)
    have kn_34 : Hid (c_5 7 2 = c 7 2) := hF_7 7 2 (fun q => q.elim (fun h => absurd h.1 (nn rfl)) (fun q => q.elim (fun h => absurd h.1 (nn rfl)) (fun h => absurd h.1 (nn rfl))))
    have kn_35 : Hid (c_13 7 2 = c 7 2) := (hF_15 7 2 (fun q => q.elim (fun h => absurd h.1 (nn rfl)) (fun q => q.elim (fun h => absurd h.1 (nn rfl)) (fun h => absurd h.1 (nn rfl))))).trans ((up_c (nn rfl)).trans (hid kn_34))
    have h_36 : (up c_13 8 (5 * t + 2) y_16) 7 2 = c 7 2 := ((up_c (nn rfl)).trans (hid kn_35))
    exact K (up c_13 8 (5 * t + 2) y_16) hI_33 (fun a j hm => (up_b (Decidable.or_iff_not_imp_left.mpr (fun h1 h2 => hm (Or.inr (Or.inr (Or.inr (Or.inr ⟨Decidable.not_not.mp h1, by clear hm; omega⟩))))))).trans ((hF_15 a j (fun q => q.elim (fun h => hm (Or.inl h)) (fun q => q.elim (fun h => hm (Or.inr (Or.inl h))) (fun h => hm (Or.inr (Or.inr (Or.inl h))))))).trans ((up_b (Decidable.or_iff_not_imp_left.mpr (fun h1 h2 => hm (Or.inr (Or.inr (Or.inr (Or.inr ⟨Decidable.not_not.mp h1, by clear hm; omega⟩))))))).trans (hF_7 a j (fun q => q.elim (fun h => hm (Or.inl h)) (fun q => q.elim (fun h => hm (Or.inr (Or.inl h))) (fun h => hm (Or.inr (Or.inr (Or.inl h)))))))))) (by omega)
  by_cases h_37 : c 8 (5 * t) = 1
  · skip
    refine v_tsw_i (t := 91) 1 rfl (by omega) (by decide) rfl (by decide) ?_
    refine q_aload_n rfl rfl ?_
    refine v_gr (t := 8) rfl rfl rfl (by decide) rfl ?_
    refine q_iload_n rfl rfl ?_
    refine q_iconst rfl ?_
    refine v_iadd (v := 5 * t + 1) rfl rfl ?_
    refine q_aload_n rfl rfl ?_
    refine q_aload_n rfl rfl ?_
    have h_38 := ir_p0_2 hI hP
    refine v_gi (z := 2) (v := c P 2) rfl rfl (ck_p0 hP) (a68z hP) rfl rfl rfl ?_
    refine q_iconst rfl ?_
    refine v_isub (v := c P 2 - 1) rfl rfl ?_
    refine v_cv rfl rfl rfl rfl (by decide) ⟨⟨rfl, rfl⟩, by decide, rfl⟩ (Nat.le_of_ble_eq_true rfl) (Nat.le_of_ble_eq_true rfl) (s_8 (a1 := c P 2 - 1) hI (show (-1) ≤ c P 2 - 1 ∧ c P 2 - 1 ≤ 9999 from ⟨by first | exact rgm_l h_38.1 (by decide) | omega, by first | exact rgm_h h_38.2 (by decide) | omega⟩) (fun c_39 y_42 hI_40 hF_41 hy_42 h_43 => ?_))
    refine bk_inl ?_
    refine v_is rfl rfl (by decide) (by decide) (by omega) ?_
    refine q_aload_n rfl rfl ?_
    refine v_gr (t := 8) rfl rfl rfl (by decide) rfl ?_
    refine q_iload_n rfl rfl ?_
    refine q_iconst rfl ?_
    refine v_iadd (v := 5 * t + 2) rfl rfl ?_
    refine q_aload_n rfl rfl ?_
    refine q_aload_n rfl rfl ?_
    have h_44 := ir_p0_0 hI hP
    have kn_45 : Hid (c_39 P 0 = c P 0) := hF_41 P 0 (fun q => q.elim (fun h => absurd h.1 (np0 hP rfl)) (fun q => q.elim (fun h => absurd h.1 (np0 hP rfl)) (fun h => absurd h.1 (np0 hP rfl))))
    refine v_gi (z := 0) (v := c P 0) rfl rfl (ck_p0 hP) (a68z hP) rfl rfl ((up_c (np0 hP rfl)).trans (hid kn_45)) ?_
    refine q_iconst rfl ?_
    refine v_isub (v := c P 0 - 1) rfl rfl ?_
    have hI_46 := iw_8 (t := t) (j := 5 * t + 1) (v := y_42) hI_40 ⟨by omega, by omega⟩ ⟨by omega, by omega⟩ (by omega)
    refine v_cv rfl rfl rfl rfl (by decide) ⟨⟨rfl, rfl⟩, by decide, rfl⟩ (Nat.le_of_ble_eq_true rfl) (Nat.le_of_ble_eq_true rfl) (s_8 (a1 := c P 0 - 1) hI_46 (show (-1) ≤ c P 0 - 1 ∧ c P 0 - 1 ≤ 9999 from ⟨by omega, by omega⟩) (fun c_47 y_50 hI_48 hF_49 hy_50 h_51 => ?_))
    refine bk_inl ?_
    refine v_is rfl rfl (by decide) (by decide) (by omega) ?_
    refine q_aload_n rfl rfl ?_
    refine v_gr (t := 8) rfl rfl rfl (by decide) rfl ?_
    refine q_iload_n rfl rfl ?_
    refine q_iconst rfl ?_
    refine v_iadd (v := 5 * t + 3) rfl rfl ?_
    refine q_aload_n rfl rfl ?_
    refine q_aload_n rfl rfl ?_
    have kn_52 : Hid (c_47 P 0 = c P 0) := (hF_49 P 0 (fun q => q.elim (fun h => absurd h.1 (np0 hP rfl)) (fun q => q.elim (fun h => absurd h.1 (np0 hP rfl)) (fun h => absurd h.1 (np0 hP rfl))))).trans ((up_c (np0 hP rfl)).trans (hid kn_45))
    refine v_gi (z := 0) (v := c P 0) rfl rfl (ck_p0 hP) (a68z hP) rfl rfl ((up_c (np0 hP rfl)).trans (hid kn_52)) ?_
    refine q_iconst rfl ?_
    refine v_isub (v := c P 0 - 1) rfl rfl ?_
    have hI_53 := iw_8 (t := t) (j := 5 * t + 2) (v := y_50) hI_48 ⟨by omega, by omega⟩ ⟨by omega, by omega⟩ (by omega)
    refine v_cv rfl rfl rfl rfl (by decide) ⟨⟨rfl, rfl⟩, by decide, rfl⟩ (Nat.le_of_ble_eq_true rfl) (Nat.le_of_ble_eq_true rfl) (s_8 (a1 := c P 0 - 1) hI_53 (show (-1) ≤ c P 0 - 1 ∧ c P 0 - 1 ≤ 9999 from ⟨by omega, by omega⟩) (fun c_54 y_57 hI_55 hF_56 hy_57 h_58 => ?_))
    refine bk_inl ?_
    refine v_is rfl rfl (by decide) (by decide) (by omega) ?_
    refine q_aload_n rfl rfl ?_
    refine v_gr (t := 8) rfl rfl rfl (by decide) rfl ?_
    refine q_iload_n rfl rfl ?_
    refine q_iconst rfl ?_
    refine v_iadd (v := 5 * t + 4) rfl rfl ?_
    refine q_aload_n rfl rfl ?_
    refine q_aload_n rfl rfl ?_
    have kn_59 : Hid (c_54 P 0 = c P 0) := (hF_56 P 0 (fun q => q.elim (fun h => absurd h.1 (np0 hP rfl)) (fun q => q.elim (fun h => absurd h.1 (np0 hP rfl)) (fun h => absurd h.1 (np0 hP rfl))))).trans ((up_c (np0 hP rfl)).trans (hid kn_52))
    refine v_gi (z := 0) (v := c P 0) rfl rfl (ck_p0 hP) (a68z hP) rfl rfl ((up_c (np0 hP rfl)).trans (hid kn_59)) ?_
    refine q_iconst rfl ?_
    refine v_isub (v := c P 0 - 1) rfl rfl ?_
    have hI_60 := iw_8 (t := t) (j := 5 * t + 3) (v := y_57) hI_55 ⟨by omega, by omega⟩ ⟨by omega, by omega⟩ (by omega)
    refine v_cv rfl rfl rfl rfl (by decide) ⟨⟨rfl, rfl⟩, by decide, rfl⟩ (Nat.le_of_ble_eq_true rfl) (Nat.le_of_ble_eq_true rfl) (s_8 (a1 := c P 0 - 1) hI_60 (show (-1) ≤ c P 0 - 1 ∧ c P 0 - 1 ≤ 9999 from ⟨by omega, by omega⟩) (fun c_61 y_64 hI_62 hF_63 hy_64 h_65 => ?_))
    refine bk_inl ?_
    refine v_is rfl rfl (by decide) (by decide) (by omega) ?_
    refine q_goto (t := 349) rfl (by decide) ?_
    refine q_vret rfl rfl ?_
    have hI_66 := iw_8 (t := t) (j := 5 * t + 4) (v := y_64) hI_62 ⟨by omega, by omega⟩ ⟨by omega, by omega⟩ (by omega)
    have kn_67 : Hid (c_39 8 (5 * t) = c 8 (5 * t)) := hF_41 8 (5 * t) (fun q => q.elim (fun h => absurd h.1 (nn rfl)) (fun q => q.elim (fun h => absurd h.1 (nn rfl)) (fun h => absurd h.1 (nn rfl))))
    have kn_68 : Hid (c_47 8 (5 * t) = c 8 (5 * t)) := (hF_49 8 (5 * t) (fun q => q.elim (fun h => absurd h.1 (nn rfl)) (fun q => q.elim (fun h => absurd h.1 (nn rfl)) (fun h => absurd h.1 (nn rfl))))).trans ((up_n (by omega)).trans (hid kn_67))
    have kn_69 : Hid (c_54 8 (5 * t) = c 8 (5 * t)) := (hF_56 8 (5 * t) (fun q => q.elim (fun h => absurd h.1 (nn rfl)) (fun q => q.elim (fun h => absurd h.1 (nn rfl)) (fun h => absurd h.1 (nn rfl))))).trans ((up_n (by omega)).trans (hid kn_68))
    have kn_70 : Hid (c_61 8 (5 * t) = c 8 (5 * t)) := (hF_63 8 (5 * t) (fun q => q.elim (fun h => absurd h.1 (nn rfl)) (fun q => q.elim (fun h => absurd h.1 (nn rfl)) (fun h => absurd h.1 (nn rfl))))).trans ((up_n (by omega)).trans (hid kn_69))
    have q_71 : (up c_61 8 (5 * t + 4) y_64) 8 (5 * t) = c 8 (5 * t) := ((up_n (by omega)).trans (hid kn_70))
    have kn_72 : Hid (c_47 8 (5 * t + 1) = y_42) := (hF_49 8 (5 * t + 1) (fun q => q.elim (fun h => absurd h.1 (nn rfl)) (fun q => q.elim (fun h => absurd h.1 (nn rfl)) (fun h => absurd h.1 (nn rfl))))).trans (up_e rfl)
    have kn_73 : Hid (c_54 8 (5 * t + 1) = y_42) := (hF_56 8 (5 * t + 1) (fun q => q.elim (fun h => absurd h.1 (nn rfl)) (fun q => q.elim (fun h => absurd h.1 (nn rfl)) (fun h => absurd h.1 (nn rfl))))).trans ((up_n (by omega)).trans (hid kn_72))
    have kn_74 : Hid (c_61 8 (5 * t + 1) = y_42) := (hF_63 8 (5 * t + 1) (fun q => q.elim (fun h => absurd h.1 (nn rfl)) (fun q => q.elim (fun h => absurd h.1 (nn rfl)) (fun h => absurd h.1 (nn rfl))))).trans ((up_n (by omega)).trans (hid kn_73))
    have q_75 : (up c_61 8 (5 * t + 4) y_64) 8 (5 * t + 1) = y_42 := ((up_n (by omega)).trans (hid kn_74))
    have kn_76 : Hid (c_54 8 (5 * t + 2) = y_50) := (hF_56 8 (5 * t + 2) (fun q => q.elim (fun h => absurd h.1 (nn rfl)) (fun q => q.elim (fun h => absurd h.1 (nn rfl)) (fun h => absurd h.1 (nn rfl))))).trans (up_e rfl)
    have kn_77 : Hid (c_61 8 (5 * t + 2) = y_50) := (hF_63 8 (5 * t + 2) (fun q => q.elim (fun h => absurd h.1 (nn rfl)) (fun q => q.elim (fun h => absurd h.1 (nn rfl)) (fun h => absurd h.1 (nn rfl))))).trans ((up_n (by omega)).trans (hid kn_76))
    have q_78 : (up c_61 8 (5 * t + 4) y_64) 8 (5 * t + 2) = y_50 := ((up_n (by omega)).trans (hid kn_77))
    have kn_79 : Hid (c_61 8 (5 * t + 3) = y_57) := (hF_63 8 (5 * t + 3) (fun q => q.elim (fun h => absurd h.1 (nn rfl)) (fun q => q.elim (fun h => absurd h.1 (nn rfl)) (fun h => absurd h.1 (nn rfl))))).trans (up_e rfl)
    have q_80 : (up c_61 8 (5 * t + 4) y_64) 8 (5 * t + 3) = y_57 := ((up_n (by omega)).trans (hid kn_79))
    have q_81 : (up c_61 8 (5 * t + 4) y_64) 8 (5 * t + 4) = y_64 := (up_e rfl)
    have hI_82 : Iv u (-1) P Q (up c_61 8 (5 * t + 4) y_64) := iv_close8 (t := t) hI_66 (by unfold So; rw [q_71, q_75, q_78, q_80, q_81]; omega)
    have kn_83 : Hid (c_39 7 2 = c 7 2) := hF_41 7 2 (fun q => q.elim (fun h => absurd h.1 (nn rfl)) (fun q => q.elim (fun h => absurd h.1 (nn rfl)) (fun h => absurd h.1 (nn rfl))))
    have kn_84 : Hid (c_47 7 2 = c 7 2) := (hF_49 7 2 (fun q => q.elim (fun h => absurd h.1 (nn rfl)) (fun q => q.elim (fun h => absurd h.1 (nn rfl)) (fun h => absurd h.1 (nn rfl))))).trans ((up_c (nn rfl)).trans (hid kn_83))
    have kn_85 : Hid (c_54 7 2 = c 7 2) := (hF_56 7 2 (fun q => q.elim (fun h => absurd h.1 (nn rfl)) (fun q => q.elim (fun h => absurd h.1 (nn rfl)) (fun h => absurd h.1 (nn rfl))))).trans ((up_c (nn rfl)).trans (hid kn_84))
    have kn_86 : Hid (c_61 7 2 = c 7 2) := (hF_63 7 2 (fun q => q.elim (fun h => absurd h.1 (nn rfl)) (fun q => q.elim (fun h => absurd h.1 (nn rfl)) (fun h => absurd h.1 (nn rfl))))).trans ((up_c (nn rfl)).trans (hid kn_85))
    have h_87 : (up c_61 8 (5 * t + 4) y_64) 7 2 = c 7 2 := ((up_c (nn rfl)).trans (hid kn_86))
    exact K (up c_61 8 (5 * t + 4) y_64) hI_82 (fun a j hm => (up_b (Decidable.or_iff_not_imp_left.mpr (fun h1 h2 => hm (Or.inr (Or.inr (Or.inr (Or.inr ⟨Decidable.not_not.mp h1, by clear hm; omega⟩))))))).trans ((hF_63 a j (fun q => q.elim (fun h => hm (Or.inl h)) (fun q => q.elim (fun h => hm (Or.inr (Or.inl h))) (fun h => hm (Or.inr (Or.inr (Or.inl h))))))).trans ((up_b (Decidable.or_iff_not_imp_left.mpr (fun h1 h2 => hm (Or.inr (Or.inr (Or.inr (Or.inr ⟨Decidable.not_not.mp h1, by clear hm; omega⟩))))))).trans ((hF_56 a j (fun q => q.elim (fun h => hm (Or.inl h)) (fun q => q.elim (fun h => hm (Or.inr (Or.inl h))) (fun h => hm (Or.inr (Or.inr (Or.inl h))))))).trans ((up_b (Decidable.or_iff_not_imp_left.mpr (fun h1 h2 => hm (Or.inr (Or.inr (Or.inr (Or.inr ⟨Decidable.not_not.mp h1, by clear hm; omega⟩))))))).trans ((hF_49 a j (fun q => q.elim (fun h => hm (Or.inl h)) (fun q => q.elim (fun h => hm (Or.inr (Or.inl h))) (fun h => hm (Or.inr (Or.inr (Or.inl h))))))).trans ((up_b (Decidable.or_iff_not_imp_left.mpr (fun h1 h2 => hm (Or.inr (Or.inr (Or.inr (Or.inr ⟨Decidable.not_not.mp h1, by clear hm; omega⟩))))))).trans (hF_41 a j (fun q => q.elim (fun h => hm (Or.inl h)) (fun q => q.elim (fun h => hm (Or.inr (Or.inl h))) (fun h => hm (Or.inr (Or.inr (Or.inl h)))))))))))))) (by omega)
  by_cases h_88 : c 8 (5 * t) = 2
  · skip
    refine v_tsw_i (t := 166) 2 rfl (by omega) (by decide) rfl (by decide) ?_
    refine q_aload_n rfl rfl ?_
    refine v_gr (t := 8) rfl rfl rfl (by decide) rfl ?_
    refine q_iload_n rfl rfl ?_
    refine q_iconst rfl ?_
    refine v_iadd (v := 5 * t + 1) rfl rfl ?_
    refine q_aload_n rfl rfl ?_
    refine q_aload_n rfl rfl ?_
    have h_89 := ir_p0_0 hI hP
    refine v_gi (z := 0) (v := c P 0) rfl rfl (ck_p0 hP) (a68z hP) rfl rfl rfl ?_
    refine q_iconst rfl ?_
    refine v_isub (v := c P 0 - 1) rfl rfl ?_
    refine v_cv rfl rfl rfl rfl (by decide) ⟨⟨rfl, rfl⟩, by decide, rfl⟩ (Nat.le_of_ble_eq_true rfl) (Nat.le_of_ble_eq_true rfl) (s_8 (a1 := c P 0 - 1) hI (show (-1) ≤ c P 0 - 1 ∧ c P 0 - 1 ≤ 9999 from ⟨by first | exact rgm_l h_89.1 (by decide) | omega, by first | exact rgm_h h_89.2 (by decide) | omega⟩) (fun c_90 y_93 hI_91 hF_92 hy_93 h_94 => ?_))
    refine bk_inl ?_
    refine v_is rfl rfl (by decide) (by decide) (by omega) ?_
    refine q_aload_n rfl rfl ?_
    refine v_gr (t := 8) rfl rfl rfl (by decide) rfl ?_
    refine q_iload_n rfl rfl ?_
    refine q_iconst rfl ?_
    refine v_iadd (v := 5 * t + 2) rfl rfl ?_
    refine q_aload_n rfl rfl ?_
    refine q_aload_n rfl rfl ?_
    have kn_95 : Hid (c_90 P 0 = c P 0) := hF_92 P 0 (fun q => q.elim (fun h => absurd h.1 (np0 hP rfl)) (fun q => q.elim (fun h => absurd h.1 (np0 hP rfl)) (fun h => absurd h.1 (np0 hP rfl))))
    refine v_gi (z := 0) (v := c P 0) rfl rfl (ck_p0 hP) (a68z hP) rfl rfl ((up_c (np0 hP rfl)).trans (hid kn_95)) ?_
    refine q_iconst rfl ?_
    refine v_isub (v := c P 0 - 1) rfl rfl ?_
    have hI_96 := iw_8 (t := t) (j := 5 * t + 1) (v := y_93) hI_91 ⟨by omega, by omega⟩ ⟨by omega, by omega⟩ (by omega)
    refine v_cv rfl rfl rfl rfl (by decide) ⟨⟨rfl, rfl⟩, by decide, rfl⟩ (Nat.le_of_ble_eq_true rfl) (Nat.le_of_ble_eq_true rfl) (s_8 (a1 := c P 0 - 1) hI_96 (show (-1) ≤ c P 0 - 1 ∧ c P 0 - 1 ≤ 9999 from ⟨by first | exact rgm_l h_89.1 (by decide) | omega, by first | exact rgm_h h_89.2 (by decide) | omega⟩) (fun c_97 y_100 hI_98 hF_99 hy_100 h_101 => ?_))
    refine bk_inl ?_
    refine v_is rfl rfl (by decide) (by decide) (by omega) ?_
    refine q_goto (t := 349) rfl (by decide) ?_
    refine q_vret rfl rfl ?_
    have hI_102 := iw_8 (t := t) (j := 5 * t + 2) (v := y_100) hI_98 ⟨by omega, by omega⟩ ⟨by omega, by omega⟩ (by omega)
    have kn_103 : Hid (c_90 8 (5 * t) = c 8 (5 * t)) := hF_92 8 (5 * t) (fun q => q.elim (fun h => absurd h.1 (nn rfl)) (fun q => q.elim (fun h => absurd h.1 (nn rfl)) (fun h => absurd h.1 (nn rfl))))
    have kn_104 : Hid (c_97 8 (5 * t) = c 8 (5 * t)) := (hF_99 8 (5 * t) (fun q => q.elim (fun h => absurd h.1 (nn rfl)) (fun q => q.elim (fun h => absurd h.1 (nn rfl)) (fun h => absurd h.1 (nn rfl))))).trans ((up_n (by omega)).trans (hid kn_103))
    have q_105 : (up c_97 8 (5 * t + 2) y_100) 8 (5 * t) = c 8 (5 * t) := ((up_n (by omega)).trans (hid kn_104))
    have kn_106 : Hid (c_97 8 (5 * t + 1) = y_93) := (hF_99 8 (5 * t + 1) (fun q => q.elim (fun h => absurd h.1 (nn rfl)) (fun q => q.elim (fun h => absurd h.1 (nn rfl)) (fun h => absurd h.1 (nn rfl))))).trans (up_e rfl)
    have q_107 : (up c_97 8 (5 * t + 2) y_100) 8 (5 * t + 1) = y_93 := ((up_n (by omega)).trans (hid kn_106))
    have q_108 : (up c_97 8 (5 * t + 2) y_100) 8 (5 * t + 2) = y_100 := (up_e rfl)
    have h_109 := ir_8 hI (5 * t + 3)
    have kn_110 : Hid (c_90 8 (5 * t + 3) = c 8 (5 * t + 3)) := hF_92 8 (5 * t + 3) (fun q => q.elim (fun h => absurd h.1 (nn rfl)) (fun q => q.elim (fun h => absurd h.1 (nn rfl)) (fun h => absurd h.1 (nn rfl))))
    have kn_111 : Hid (c_97 8 (5 * t + 3) = c 8 (5 * t + 3)) := (hF_99 8 (5 * t + 3) (fun q => q.elim (fun h => absurd h.1 (nn rfl)) (fun q => q.elim (fun h => absurd h.1 (nn rfl)) (fun h => absurd h.1 (nn rfl))))).trans ((up_n (by omega)).trans (hid kn_110))
    have q_112 : (up c_97 8 (5 * t + 2) y_100) 8 (5 * t + 3) = c 8 (5 * t + 3) := ((up_n (by omega)).trans (hid kn_111))
    have h_113 := ir_8 hI (5 * t + 4)
    have kn_114 : Hid (c_90 8 (5 * t + 4) = c 8 (5 * t + 4)) := hF_92 8 (5 * t + 4) (fun q => q.elim (fun h => absurd h.1 (nn rfl)) (fun q => q.elim (fun h => absurd h.1 (nn rfl)) (fun h => absurd h.1 (nn rfl))))
    have kn_115 : Hid (c_97 8 (5 * t + 4) = c 8 (5 * t + 4)) := (hF_99 8 (5 * t + 4) (fun q => q.elim (fun h => absurd h.1 (nn rfl)) (fun q => q.elim (fun h => absurd h.1 (nn rfl)) (fun h => absurd h.1 (nn rfl))))).trans ((up_n (by omega)).trans (hid kn_114))
    have q_116 : (up c_97 8 (5 * t + 2) y_100) 8 (5 * t + 4) = c 8 (5 * t + 4) := ((up_n (by omega)).trans (hid kn_115))
    have hI_117 : Iv u (-1) P Q (up c_97 8 (5 * t + 2) y_100) := iv_close8 (t := t) hI_102 (by unfold So; rw [q_105, q_107, q_108, q_112, q_116]; omega)
    have kn_118 : Hid (c_90 7 2 = c 7 2) := hF_92 7 2 (fun q => q.elim (fun h => absurd h.1 (nn rfl)) (fun q => q.elim (fun h => absurd h.1 (nn rfl)) (fun h => absurd h.1 (nn rfl))))
    have kn_119 : Hid (c_97 7 2 = c 7 2) := (hF_99 7 2 (fun q => q.elim (fun h => absurd h.1 (nn rfl)) (fun q => q.elim (fun h => absurd h.1 (nn rfl)) (fun h => absurd h.1 (nn rfl))))).trans ((up_c (nn rfl)).trans (hid kn_118))
    have h_120 : (up c_97 8 (5 * t + 2) y_100) 7 2 = c 7 2 := ((up_c (nn rfl)).trans (hid kn_119))
    exact K (up c_97 8 (5 * t + 2) y_100) hI_117 (fun a j hm => (up_b (Decidable.or_iff_not_imp_left.mpr (fun h1 h2 => hm (Or.inr (Or.inr (Or.inr (Or.inr ⟨Decidable.not_not.mp h1, by clear hm; omega⟩))))))).trans ((hF_99 a j (fun q => q.elim (fun h => hm (Or.inl h)) (fun q => q.elim (fun h => hm (Or.inr (Or.inl h))) (fun h => hm (Or.inr (Or.inr (Or.inl h))))))).trans ((up_b (Decidable.or_iff_not_imp_left.mpr (fun h1 h2 => hm (Or.inr (Or.inr (Or.inr (Or.inr ⟨Decidable.not_not.mp h1, by clear hm; omega⟩))))))).trans (hF_92 a j (fun q => q.elim (fun h => hm (Or.inl h)) (fun q => q.elim (fun h => hm (Or.inr (Or.inl h))) (fun h => hm (Or.inr (Or.inr (Or.inl h)))))))))) (by omega)
  by_cases h_121 : c 8 (5 * t) = 3
  · skip
    refine v_tsw_i (t := 205) 3 rfl (by omega) (by decide) rfl (by decide) ?_
    refine q_aload_n rfl rfl ?_
    refine v_gr (t := 8) rfl rfl rfl (by decide) rfl ?_
    refine q_iload_n rfl rfl ?_
    refine q_iconst rfl ?_
    refine v_iadd (v := 5 * t + 1) rfl rfl ?_
    refine q_aload_n rfl rfl ?_
    refine q_aload_n rfl rfl ?_
    have h_122 := ir_p0_0 hI hP
    refine v_gi (z := 0) (v := c P 0) rfl rfl (ck_p0 hP) (a68z hP) rfl rfl rfl ?_
    refine q_iconst rfl ?_
    refine v_isub (v := c P 0 - 1) rfl rfl ?_
    refine v_cv rfl rfl rfl rfl (by decide) ⟨⟨rfl, rfl⟩, by decide, rfl⟩ (Nat.le_of_ble_eq_true rfl) (Nat.le_of_ble_eq_true rfl) (s_8 (a1 := c P 0 - 1) hI (show (-1) ≤ c P 0 - 1 ∧ c P 0 - 1 ≤ 9999 from ⟨by first | exact rgm_l h_122.1 (by decide) | omega, by first | exact rgm_h h_122.2 (by decide) | omega⟩) (fun c_123 y_126 hI_124 hF_125 hy_126 h_127 => ?_))
    refine bk_inl ?_
    refine v_is rfl rfl (by decide) (by decide) (by omega) ?_
    refine q_aload_n rfl rfl ?_
    refine v_gr (t := 8) rfl rfl rfl (by decide) rfl ?_
    refine q_iload_n rfl rfl ?_
    refine q_iconst rfl ?_
    refine v_iadd (v := 5 * t + 2) rfl rfl ?_
    refine q_aload_n rfl rfl ?_
    refine q_aload_n rfl rfl ?_
    have kn_128 : Hid (c_123 P 0 = c P 0) := hF_125 P 0 (fun q => q.elim (fun h => absurd h.1 (np0 hP rfl)) (fun q => q.elim (fun h => absurd h.1 (np0 hP rfl)) (fun h => absurd h.1 (np0 hP rfl))))
    refine v_gi (z := 0) (v := c P 0) rfl rfl (ck_p0 hP) (a68z hP) rfl rfl ((up_c (np0 hP rfl)).trans (hid kn_128)) ?_
    refine q_iconst rfl ?_
    refine v_isub (v := c P 0 - 1) rfl rfl ?_
    have hI_129 := iw_8 (t := t) (j := 5 * t + 1) (v := y_126) hI_124 ⟨by omega, by omega⟩ ⟨by omega, by omega⟩ (by omega)
    refine v_cv rfl rfl rfl rfl (by decide) ⟨⟨rfl, rfl⟩, by decide, rfl⟩ (Nat.le_of_ble_eq_true rfl) (Nat.le_of_ble_eq_true rfl) (s_8 (a1 := c P 0 - 1) hI_129 (show (-1) ≤ c P 0 - 1 ∧ c P 0 - 1 ≤ 9999 from ⟨by first | exact rgm_l h_122.1 (by decide) | omega, by first | exact rgm_h h_122.2 (by decide) | omega⟩) (fun c_130 y_133 hI_131 hF_132 hy_133 h_134 => ?_))
    refine bk_inl ?_
    refine v_is rfl rfl (by decide) (by decide) (by omega) ?_
    refine q_aload_n rfl rfl ?_
    refine v_gr (t := 8) rfl rfl rfl (by decide) rfl ?_
    refine q_iload_n rfl rfl ?_
    refine q_iconst rfl ?_
    refine v_iadd (v := 5 * t + 3) rfl rfl ?_
    refine q_aload_n rfl rfl ?_
    have hI_135 := iw_8 (t := t) (j := 5 * t + 2) (v := y_133) hI_131 ⟨by omega, by omega⟩ ⟨by omega, by omega⟩ (by omega)
    refine q_call rfl rfl rfl rfl (s_38 hI_135 (fun c_136 y_139 hI_137 hF_138 hy_139 => ?_))
    refine bk_inl ?_
    refine v_is rfl rfl (by decide) (by decide) (by omega) ?_
    refine q_goto (t := 349) rfl (by decide) ?_
    refine q_vret rfl rfl ?_
    have hI_140 := iw_8 (t := t) (j := 5 * t + 3) (v := y_139) hI_137 ⟨by omega, by omega⟩ ⟨by omega, by omega⟩ (by omega)
    have kn_141 : Hid (c_123 8 (5 * t) = c 8 (5 * t)) := hF_125 8 (5 * t) (fun q => q.elim (fun h => absurd h.1 (nn rfl)) (fun q => q.elim (fun h => absurd h.1 (nn rfl)) (fun h => absurd h.1 (nn rfl))))
    have kn_142 : Hid (c_130 8 (5 * t) = c 8 (5 * t)) := (hF_132 8 (5 * t) (fun q => q.elim (fun h => absurd h.1 (nn rfl)) (fun q => q.elim (fun h => absurd h.1 (nn rfl)) (fun h => absurd h.1 (nn rfl))))).trans ((up_n (by omega)).trans (hid kn_141))
    have kn_143 : Hid (c_136 8 (5 * t) = c 8 (5 * t)) := (hF_138 8 (5 * t) (fun q => q.elim (fun h => absurd h.1 (nn rfl)) (fun q => q.elim (fun h => absurd h.1 (nn rfl)) (fun h => absurd h.1 (nn rfl))))).trans ((up_n (by omega)).trans (hid kn_142))
    have q_144 : (up c_136 8 (5 * t + 3) y_139) 8 (5 * t) = c 8 (5 * t) := ((up_n (by omega)).trans (hid kn_143))
    have kn_145 : Hid (c_130 8 (5 * t + 1) = y_126) := (hF_132 8 (5 * t + 1) (fun q => q.elim (fun h => absurd h.1 (nn rfl)) (fun q => q.elim (fun h => absurd h.1 (nn rfl)) (fun h => absurd h.1 (nn rfl))))).trans (up_e rfl)
    have kn_146 : Hid (c_136 8 (5 * t + 1) = y_126) := (hF_138 8 (5 * t + 1) (fun q => q.elim (fun h => absurd h.1 (nn rfl)) (fun q => q.elim (fun h => absurd h.1 (nn rfl)) (fun h => absurd h.1 (nn rfl))))).trans ((up_n (by omega)).trans (hid kn_145))
    have q_147 : (up c_136 8 (5 * t + 3) y_139) 8 (5 * t + 1) = y_126 := ((up_n (by omega)).trans (hid kn_146))
    have kn_148 : Hid (c_136 8 (5 * t + 2) = y_133) := (hF_138 8 (5 * t + 2) (fun q => q.elim (fun h => absurd h.1 (nn rfl)) (fun q => q.elim (fun h => absurd h.1 (nn rfl)) (fun h => absurd h.1 (nn rfl))))).trans (up_e rfl)
    have q_149 : (up c_136 8 (5 * t + 3) y_139) 8 (5 * t + 2) = y_133 := ((up_n (by omega)).trans (hid kn_148))
    have q_150 : (up c_136 8 (5 * t + 3) y_139) 8 (5 * t + 3) = y_139 := (up_e rfl)
    have h_151 := ir_8 hI (5 * t + 4)
    have kn_152 : Hid (c_123 8 (5 * t + 4) = c 8 (5 * t + 4)) := hF_125 8 (5 * t + 4) (fun q => q.elim (fun h => absurd h.1 (nn rfl)) (fun q => q.elim (fun h => absurd h.1 (nn rfl)) (fun h => absurd h.1 (nn rfl))))
    have kn_153 : Hid (c_130 8 (5 * t + 4) = c 8 (5 * t + 4)) := (hF_132 8 (5 * t + 4) (fun q => q.elim (fun h => absurd h.1 (nn rfl)) (fun q => q.elim (fun h => absurd h.1 (nn rfl)) (fun h => absurd h.1 (nn rfl))))).trans ((up_n (by omega)).trans (hid kn_152))
    have kn_154 : Hid (c_136 8 (5 * t + 4) = c 8 (5 * t + 4)) := (hF_138 8 (5 * t + 4) (fun q => q.elim (fun h => absurd h.1 (nn rfl)) (fun q => q.elim (fun h => absurd h.1 (nn rfl)) (fun h => absurd h.1 (nn rfl))))).trans ((up_n (by omega)).trans (hid kn_153))
    have q_155 : (up c_136 8 (5 * t + 3) y_139) 8 (5 * t + 4) = c 8 (5 * t + 4) := ((up_n (by omega)).trans (hid kn_154))
    have hI_156 : Iv u (-1) P Q (up c_136 8 (5 * t + 3) y_139) := iv_close8 (t := t) hI_140 (by unfold So; rw [q_144, q_147, q_149, q_150, q_155]; omega)
    have kn_157 : Hid (c_123 7 2 = c 7 2) := hF_125 7 2 (fun q => q.elim (fun h => absurd h.1 (nn rfl)) (fun q => q.elim (fun h => absurd h.1 (nn rfl)) (fun h => absurd h.1 (nn rfl))))
    have kn_158 : Hid (c_130 7 2 = c 7 2) := (hF_132 7 2 (fun q => q.elim (fun h => absurd h.1 (nn rfl)) (fun q => q.elim (fun h => absurd h.1 (nn rfl)) (fun h => absurd h.1 (nn rfl))))).trans ((up_c (nn rfl)).trans (hid kn_157))
    have kn_159 : Hid (c_136 7 2 = c 7 2) := (hF_138 7 2 (fun q => q.elim (fun h => absurd h.1 (nn rfl)) (fun q => q.elim (fun h => absurd h.1 (nn rfl)) (fun h => absurd h.1 (nn rfl))))).trans ((up_c (nn rfl)).trans (hid kn_158))
    have h_160 : (up c_136 8 (5 * t + 3) y_139) 7 2 = c 7 2 := ((up_c (nn rfl)).trans (hid kn_159))
    exact K (up c_136 8 (5 * t + 3) y_139) hI_156 (fun a j hm => (up_b (Decidable.or_iff_not_imp_left.mpr (fun h1 h2 => hm (Or.inr (Or.inr (Or.inr (Or.inr ⟨Decidable.not_not.mp h1, by clear hm; omega⟩))))))).trans ((hF_138 a j (fun q => q.elim (fun h => hm (Or.inl h)) (fun q => q.elim (fun h => hm (Or.inr (Or.inl h))) (fun h => hm (Or.inr (Or.inr (Or.inl h))))))).trans ((up_b (Decidable.or_iff_not_imp_left.mpr (fun h1 h2 => hm (Or.inr (Or.inr (Or.inr (Or.inr ⟨Decidable.not_not.mp h1, by clear hm; omega⟩))))))).trans ((hF_132 a j (fun q => q.elim (fun h => hm (Or.inl h)) (fun q => q.elim (fun h => hm (Or.inr (Or.inl h))) (fun h => hm (Or.inr (Or.inr (Or.inl h))))))).trans ((up_b (Decidable.or_iff_not_imp_left.mpr (fun h1 h2 => hm (Or.inr (Or.inr (Or.inr (Or.inr ⟨Decidable.not_not.mp h1, by clear hm; omega⟩))))))).trans (hF_125 a j (fun q => q.elim (fun h => hm (Or.inl h)) (fun q => q.elim (fun h => hm (Or.inr (Or.inl h))) (fun h => hm (Or.inr (Or.inr (Or.inl h)))))))))))) (by omega)
  by_cases h_161 : c 8 (5 * t) = 4
  · skip
    refine v_tsw_i (t := 256) 4 rfl (by omega) (by decide) rfl (by decide) ?_
    refine q_aload_n rfl rfl ?_
    refine v_gr (t := 8) rfl rfl rfl (by decide) rfl ?_
    refine q_iload_n rfl rfl ?_
    refine q_iconst rfl ?_
    refine v_iadd (v := 5 * t + 1) rfl rfl ?_
    refine q_aload_n rfl rfl ?_
    refine q_aload_n rfl rfl ?_
    have h_162 := ir_p0_2 hI hP
    refine v_gi (z := 2) (v := c P 2) rfl rfl (ck_p0 hP) (a68z hP) rfl rfl rfl ?_
    refine q_iconst rfl ?_
    refine v_isub (v := c P 2 - 1) rfl rfl ?_
    refine v_cv rfl rfl rfl rfl (by decide) ⟨⟨rfl, rfl⟩, by decide, rfl⟩ (Nat.le_of_ble_eq_true rfl) (Nat.le_of_ble_eq_true rfl) (s_8 (a1 := c P 2 - 1) hI (show (-1) ≤ c P 2 - 1 ∧ c P 2 - 1 ≤ 9999 from ⟨by first | exact rgm_l h_162.1 (by decide) | omega, by first | exact rgm_h h_162.2 (by decide) | omega⟩) (fun c_163 y_166 hI_164 hF_165 hy_166 h_167 => ?_))
    refine bk_inl ?_
    refine v_is rfl rfl (by decide) (by decide) (by omega) ?_
    refine q_goto (t := 349) rfl (by decide) ?_
    refine q_vret rfl rfl ?_
    have hI_168 := iw_8 (t := t) (j := 5 * t + 1) (v := y_166) hI_164 ⟨by omega, by omega⟩ ⟨by omega, by omega⟩ (by omega)
    have kn_169 : Hid (c_163 8 (5 * t) = c 8 (5 * t)) := hF_165 8 (5 * t) (fun q => q.elim (fun h => absurd h.1 (nn rfl)) (fun q => q.elim (fun h => absurd h.1 (nn rfl)) (fun h => absurd h.1 (nn rfl))))
    have q_170 : (up c_163 8 (5 * t + 1) y_166) 8 (5 * t) = c 8 (5 * t) := ((up_n (by omega)).trans (hid kn_169))
    have q_171 : (up c_163 8 (5 * t + 1) y_166) 8 (5 * t + 1) = y_166 := (up_e rfl)
    have h_172 := ir_8 hI (5 * t + 2)
    have h_173 := ir_8_2 hI (j := 5 * t + 2) (by omega)
    have kn_174 : Hid (c_163 8 (5 * t + 2) = c 8 (5 * t + 2)) := hF_165 8 (5 * t + 2) (fun q => q.elim (fun h => absurd h.1 (nn rfl)) (fun q => q.elim (fun h => absurd h.1 (nn rfl)) (fun h => absurd h.1 (nn rfl))))
    have q_175 : (up c_163 8 (5 * t + 1) y_166) 8 (5 * t + 2) = c 8 (5 * t + 2) := ((up_n (by omega)).trans (hid kn_174))
    have h_176 := ir_8 hI (5 * t + 3)
    have kn_177 : Hid (c_163 8 (5 * t + 3) = c 8 (5 * t + 3)) := hF_165 8 (5 * t + 3) (fun q => q.elim (fun h => absurd h.1 (nn rfl)) (fun q => q.elim (fun h => absurd h.1 (nn rfl)) (fun h => absurd h.1 (nn rfl))))
    have q_178 : (up c_163 8 (5 * t + 1) y_166) 8 (5 * t + 3) = c 8 (5 * t + 3) := ((up_n (by omega)).trans (hid kn_177))
    have h_179 := ir_8 hI (5 * t + 4)
    have kn_180 : Hid (c_163 8 (5 * t + 4) = c 8 (5 * t + 4)) := hF_165 8 (5 * t + 4) (fun q => q.elim (fun h => absurd h.1 (nn rfl)) (fun q => q.elim (fun h => absurd h.1 (nn rfl)) (fun h => absurd h.1 (nn rfl))))
    have q_181 : (up c_163 8 (5 * t + 1) y_166) 8 (5 * t + 4) = c 8 (5 * t + 4) := ((up_n (by omega)).trans (hid kn_180))
    have hI_182 : Iv u (-1) P Q (up c_163 8 (5 * t + 1) y_166) := iv_close8 (t := t) hI_168 (by unfold So; rw [q_170, q_171, q_175, q_178, q_181]; omega)
    have kn_183 : Hid (c_163 7 2 = c 7 2) := hF_165 7 2 (fun q => q.elim (fun h => absurd h.1 (nn rfl)) (fun q => q.elim (fun h => absurd h.1 (nn rfl)) (fun h => absurd h.1 (nn rfl))))
    have h_184 : (up c_163 8 (5 * t + 1) y_166) 7 2 = c 7 2 := ((up_c (nn rfl)).trans (hid kn_183))
    exact K (up c_163 8 (5 * t + 1) y_166) hI_182 (fun a j hm => (up_b (Decidable.or_iff_not_imp_left.mpr (fun h1 h2 => hm (Or.inr (Or.inr (Or.inr (Or.inr ⟨Decidable.not_not.mp h1, by clear hm; omega⟩))))))).trans (hF_165 a j (fun q => q.elim (fun h => hm (Or.inl h)) (fun q => q.elim (fun h => hm (Or.inr (Or.inl h))) (fun h => hm (Or.inr (Or.inr (Or.inl h)))))))) (by omega)
  by_cases h_185 : c 8 (5 * t) = 5
  · skip
    refine v_tsw_i (t := 277) 5 rfl (by omega) (by decide) rfl (by decide) ?_
    refine q_aload_n rfl rfl ?_
    refine v_gr (t := 8) rfl rfl rfl (by decide) rfl ?_
    refine q_iload_n rfl rfl ?_
    refine q_iconst rfl ?_
    refine v_iadd (v := 5 * t + 1) rfl rfl ?_
    refine q_aload_n rfl rfl ?_
    refine q_aload_n rfl rfl ?_
    have h_186 := ir_p0_0 hI hP
    refine v_gi (z := 0) (v := c P 0) rfl rfl (ck_p0 hP) (a68z hP) rfl rfl rfl ?_
    refine q_iconst rfl ?_
    refine v_isub (v := c P 0 - 1) rfl rfl ?_
    refine v_cv rfl rfl rfl rfl (by decide) ⟨⟨rfl, rfl⟩, by decide, rfl⟩ (Nat.le_of_ble_eq_true rfl) (Nat.le_of_ble_eq_true rfl) (s_8 (a1 := c P 0 - 1) hI (show (-1) ≤ c P 0 - 1 ∧ c P 0 - 1 ≤ 9999 from ⟨by first | exact rgm_l h_186.1 (by decide) | omega, by first | exact rgm_h h_186.2 (by decide) | omega⟩) (fun c_187 y_190 hI_188 hF_189 hy_190 h_191 => ?_))
    refine bk_inl ?_
    refine v_is rfl rfl (by decide) (by decide) (by omega) ?_
    refine q_goto (t := 349) rfl (by decide) ?_
    refine q_vret rfl rfl ?_
    have hI_192 := iw_8 (t := t) (j := 5 * t + 1) (v := y_190) hI_188 ⟨by omega, by omega⟩ ⟨by omega, by omega⟩ (by omega)
    have kn_193 : Hid (c_187 8 (5 * t) = c 8 (5 * t)) := hF_189 8 (5 * t) (fun q => q.elim (fun h => absurd h.1 (nn rfl)) (fun q => q.elim (fun h => absurd h.1 (nn rfl)) (fun h => absurd h.1 (nn rfl))))
    have q_194 : (up c_187 8 (5 * t + 1) y_190) 8 (5 * t) = c 8 (5 * t) := ((up_n (by omega)).trans (hid kn_193))
    have q_195 : (up c_187 8 (5 * t + 1) y_190) 8 (5 * t + 1) = y_190 := (up_e rfl)
    have h_196 := ir_8 hI (5 * t + 2)
    have h_197 := ir_8_2 hI (j := 5 * t + 2) (by omega)
    have kn_198 : Hid (c_187 8 (5 * t + 2) = c 8 (5 * t + 2)) := hF_189 8 (5 * t + 2) (fun q => q.elim (fun h => absurd h.1 (nn rfl)) (fun q => q.elim (fun h => absurd h.1 (nn rfl)) (fun h => absurd h.1 (nn rfl))))
    have q_199 : (up c_187 8 (5 * t + 1) y_190) 8 (5 * t + 2) = c 8 (5 * t + 2) := ((up_n (by omega)).trans (hid kn_198))
    have h_200 := ir_8 hI (5 * t + 3)
    have kn_201 : Hid (c_187 8 (5 * t + 3) = c 8 (5 * t + 3)) := hF_189 8 (5 * t + 3) (fun q => q.elim (fun h => absurd h.1 (nn rfl)) (fun q => q.elim (fun h => absurd h.1 (nn rfl)) (fun h => absurd h.1 (nn rfl))))
    have q_202 : (up c_187 8 (5 * t + 1) y_190) 8 (5 * t + 3) = c 8 (5 * t + 3) := ((up_n (by omega)).trans (hid kn_201))
    have h_203 := ir_8 hI (5 * t + 4)
    have kn_204 : Hid (c_187 8 (5 * t + 4) = c 8 (5 * t + 4)) := hF_189 8 (5 * t + 4) (fun q => q.elim (fun h => absurd h.1 (nn rfl)) (fun q => q.elim (fun h => absurd h.1 (nn rfl)) (fun h => absurd h.1 (nn rfl))))
    have q_205 : (up c_187 8 (5 * t + 1) y_190) 8 (5 * t + 4) = c 8 (5 * t + 4) := ((up_n (by omega)).trans (hid kn_204))
    have hI_206 : Iv u (-1) P Q (up c_187 8 (5 * t + 1) y_190) := iv_close8 (t := t) hI_192 (by unfold So; rw [q_194, q_195, q_199, q_202, q_205]; omega)
    have kn_207 : Hid (c_187 7 2 = c 7 2) := hF_189 7 2 (fun q => q.elim (fun h => absurd h.1 (nn rfl)) (fun q => q.elim (fun h => absurd h.1 (nn rfl)) (fun h => absurd h.1 (nn rfl))))
    have h_208 : (up c_187 8 (5 * t + 1) y_190) 7 2 = c 7 2 := ((up_c (nn rfl)).trans (hid kn_207))
    exact K (up c_187 8 (5 * t + 1) y_190) hI_206 (fun a j hm => (up_b (Decidable.or_iff_not_imp_left.mpr (fun h1 h2 => hm (Or.inr (Or.inr (Or.inr (Or.inr ⟨Decidable.not_not.mp h1, by clear hm; omega⟩))))))).trans (hF_189 a j (fun q => q.elim (fun h => hm (Or.inl h)) (fun q => q.elim (fun h => hm (Or.inr (Or.inl h))) (fun h => hm (Or.inr (Or.inr (Or.inl h)))))))) (by omega)
  by_cases h_209 : c 8 (5 * t) = 6
  · skip
    refine v_tsw_i (t := 349) 6 rfl (by omega) (by decide) rfl (by decide) ?_
    refine q_vret rfl rfl ?_
    have q_210 : c 8 (5 * t) = c 8 (5 * t) := rfl
    have h_211 := ir_8 hI (5 * t + 1)
    have q_212 : c 8 (5 * t + 1) = c 8 (5 * t + 1) := rfl
    have h_213 := ir_8 hI (5 * t + 2)
    have h_214 := ir_8_2 hI (j := 5 * t + 2) (by omega)
    have q_215 : c 8 (5 * t + 2) = c 8 (5 * t + 2) := rfl
    have h_216 := ir_8 hI (5 * t + 3)
    have q_217 : c 8 (5 * t + 3) = c 8 (5 * t + 3) := rfl
    have h_218 := ir_8 hI (5 * t + 4)
    have q_219 : c 8 (5 * t + 4) = c 8 (5 * t + 4) := rfl
    have hI_220 : Iv u (-1) P Q c := iv_close8 (t := t) hI (by unfold So; rw [q_210, q_212, q_215, q_217, q_219]; omega)
    exact K c hI_220 (fun a j hm => rfl) (by omega)
  by_cases h_221 : c 8 (5 * t) = 7
  · skip
    refine v_tsw_i (t := 298) 7 rfl (by omega) (by decide) rfl (by decide) ?_
    refine q_aload_n rfl rfl ?_
    refine v_gr (t := 8) rfl rfl rfl (by decide) rfl ?_
    refine q_iload_n rfl rfl ?_
    refine q_iconst rfl ?_
    refine v_iadd (v := 5 * t + 1) rfl rfl ?_
    refine q_aload_n rfl rfl ?_
    refine v_bip rfl (by decide) ?_
    refine v_cv rfl rfl rfl rfl (by decide) ⟨⟨rfl, rfl⟩, by decide, rfl⟩ (Nat.le_of_ble_eq_true rfl) (Nat.le_of_ble_eq_true rfl) (s_8 (a1 := 40) hI (show (-1) ≤ 40 ∧ 40 ≤ 9999 from ⟨by decide, by decide⟩) (fun c_222 y_225 hI_223 hF_224 hy_225 h_226 => ?_))
    refine bk_inl ?_
    refine v_is rfl rfl (by decide) (by decide) (by omega) ?_
    refine q_aload_n rfl rfl ?_
    refine q_ldc_s rfl rfl rfl (by decide) ?_
    have hI_227 := iw_8 (t := t) (j := 5 * t + 1) (v := y_225) hI_223 ⟨by omega, by omega⟩ ⟨by omega, by omega⟩ (by omega)
    refine v_cv rfl rfl rfl rfl (by decide) ⟨⟨rfl, rfl⟩, by decide, rfl⟩ (Nat.le_of_ble_eq_true rfl) (Nat.le_of_ble_eq_true rfl) (s_11 hI_227 (q := 11) (nt := 1) (by decide) (by decide) (by decide) (fun c_228 hI_229 hF_230 => ?_))
    refine bk_inl ?_
    refine q_aload_n rfl rfl ?_
    refine q_aload_n rfl rfl ?_
    refine q_aload_n rfl rfl ?_
    refine q_iload rfl rfl ?_
    refine q_iconst rfl ?_
    refine v_iadd (v := a4 + 1) rfl rfl ?_
    have kn_231 : Hid (c_222 8 (5 * t) = c 8 (5 * t)) := hF_224 8 (5 * t) (fun q => q.elim (fun h => absurd h.1 (nn rfl)) (fun q => q.elim (fun h => absurd h.1 (nn rfl)) (fun h => absurd h.1 (nn rfl))))
    have kn_232 : Hid (c_228 8 (5 * t) = c 8 (5 * t)) := (hF_230 8 (5 * t) (fun q => q.elim (fun h => absurd h.1 (nn rfl)) (fun q => q.elim (fun h => absurd h.1 (nn rfl)) (fun h => absurd h.1 (nn rfl))))).trans ((up_n (by omega)).trans (hid kn_231))
    have q_233 : c_228 8 (5 * t) = c 8 (5 * t) := (hid kn_232)
    have kn_234 : Hid (c_228 8 (5 * t + 1) = y_225) := (hF_230 8 (5 * t + 1) (fun q => q.elim (fun h => absurd h.1 (nn rfl)) (fun q => q.elim (fun h => absurd h.1 (nn rfl)) (fun h => absurd h.1 (nn rfl))))).trans (up_e rfl)
    have q_235 : c_228 8 (5 * t + 1) = y_225 := (hid kn_234)
    have h_236 := ir_8 hI (5 * t + 2)
    have h_237 := ir_8_2 hI (j := 5 * t + 2) (by omega)
    have kn_238 : Hid (c_222 8 (5 * t + 2) = c 8 (5 * t + 2)) := hF_224 8 (5 * t + 2) (fun q => q.elim (fun h => absurd h.1 (nn rfl)) (fun q => q.elim (fun h => absurd h.1 (nn rfl)) (fun h => absurd h.1 (nn rfl))))
    have kn_239 : Hid (c_228 8 (5 * t + 2) = c 8 (5 * t + 2)) := (hF_230 8 (5 * t + 2) (fun q => q.elim (fun h => absurd h.1 (nn rfl)) (fun q => q.elim (fun h => absurd h.1 (nn rfl)) (fun h => absurd h.1 (nn rfl))))).trans ((up_n (by omega)).trans (hid kn_238))
    have q_240 : c_228 8 (5 * t + 2) = c 8 (5 * t + 2) := (hid kn_239)
    have h_241 := ir_8 hI (5 * t + 3)
    have kn_242 : Hid (c_222 8 (5 * t + 3) = c 8 (5 * t + 3)) := hF_224 8 (5 * t + 3) (fun q => q.elim (fun h => absurd h.1 (nn rfl)) (fun q => q.elim (fun h => absurd h.1 (nn rfl)) (fun h => absurd h.1 (nn rfl))))
    have kn_243 : Hid (c_228 8 (5 * t + 3) = c 8 (5 * t + 3)) := (hF_230 8 (5 * t + 3) (fun q => q.elim (fun h => absurd h.1 (nn rfl)) (fun q => q.elim (fun h => absurd h.1 (nn rfl)) (fun h => absurd h.1 (nn rfl))))).trans ((up_n (by omega)).trans (hid kn_242))
    have q_244 : c_228 8 (5 * t + 3) = c 8 (5 * t + 3) := (hid kn_243)
    have h_245 := ir_8 hI (5 * t + 4)
    have kn_246 : Hid (c_222 8 (5 * t + 4) = c 8 (5 * t + 4)) := hF_224 8 (5 * t + 4) (fun q => q.elim (fun h => absurd h.1 (nn rfl)) (fun q => q.elim (fun h => absurd h.1 (nn rfl)) (fun h => absurd h.1 (nn rfl))))
    have kn_247 : Hid (c_228 8 (5 * t + 4) = c 8 (5 * t + 4)) := (hF_230 8 (5 * t + 4) (fun q => q.elim (fun h => absurd h.1 (nn rfl)) (fun q => q.elim (fun h => absurd h.1 (nn rfl)) (fun h => absurd h.1 (nn rfl))))).trans ((up_n (by omega)).trans (hid kn_246))
    have q_248 : c_228 8 (5 * t + 4) = c 8 (5 * t + 4) := (hid kn_247)
    have hI_249 : Iv u (-1) P Q c_228 := iv_close8 (t := t) hI_229 (by unfold So; rw [q_233, q_235, q_240, q_244, q_248]; omega)
    have kn_250 : Hid (c_222 7 2 = c 7 2) := hF_224 7 2 (fun q => q.elim (fun h => absurd h.1 (nn rfl)) (fun q => q.elim (fun h => absurd h.1 (nn rfl)) (fun h => absurd h.1 (nn rfl))))
    have kn_251 : Hid (c_228 7 2 = c 7 2) := (hF_230 7 2 (fun q => q.elim (fun h => absurd h.1 (nn rfl)) (fun q => q.elim (fun h => absurd h.1 (nn rfl)) (fun h => absurd h.1 (nn rfl))))).trans ((up_c (nn rfl)).trans (hid kn_250))
    have h_252 : c_228 7 2 = c 7 2 := (hid kn_251)
    have h_253 : c_228 7 2 = c 7 2 := (hid kn_251)
    refine v_cv rfl rfl rfl rfl (by decide) ⟨⟨rfl, rfl⟩, by decide, rfl⟩ (Nat.le_of_ble_eq_true rfl) (Nat.le_of_ble_eq_true rfl) (H41 _ _ (by omega) hI_249 (fun c_254 hI_255 hF_256 h_257 => ?_))
    refine bk_inl ?_
    have h_258 := ir_7_2 hI_255
    refine q_aload_n rfl rfl ?_
    refine q_ldc_s rfl rfl rfl (by decide) ?_
    refine v_cv rfl rfl rfl rfl (by decide) ⟨⟨rfl, rfl⟩, by decide, rfl⟩ (Nat.le_of_ble_eq_true rfl) (Nat.le_of_ble_eq_true rfl) (s_11 hI_255 (q := 12) (nt := 1) (by decide) (by decide) (by decide) (fun c_259 hI_260 hF_261 => ?_))
    refine bk_inl ?_
    refine q_aload_n rfl rfl ?_
    refine v_gr (t := 8) rfl rfl rfl (by decide) rfl ?_
    refine q_iload_n rfl rfl ?_
    refine q_iconst rfl ?_
    refine v_iadd (v := 5 * t + 2) rfl rfl ?_
    refine q_aload_n rfl rfl ?_
    have kn_262 : Hid (c_259 7 2 = c_254 7 2) := hF_261 7 2 (fun q => q.elim (fun h => absurd h.1 (nn rfl)) (fun q => q.elim (fun h => absurd h.1 (nn rfl)) (fun h => absurd h.1 (nn rfl))))
    refine v_gi (z := 2) (v := c_254 7 2) rfl rfl rfl (by decide) rfl rfl (hid kn_262) ?_
    refine v_is rfl rfl (by decide) (by decide) (by omega) ?_
    refine q_goto (t := 349) rfl (by decide) ?_
    refine q_vret rfl rfl ?_
    have hI_263 := iw_8 (t := t) (j := 5 * t + 2) (v := c_254 7 2) (iv_open8 hI_260) ⟨by omega, by omega⟩ ⟨by omega, by omega⟩ (by omega)
    have kn_264 : Hid (c_254 8 (5 * t) = c 8 (5 * t)) := (hF_256 8 (5 * t) (by omega)).trans (hid kn_232)
    have kn_265 : Hid (c_259 8 (5 * t) = c 8 (5 * t)) := (hF_261 8 (5 * t) (fun q => q.elim (fun h => absurd h.1 (nn rfl)) (fun q => q.elim (fun h => absurd h.1 (nn rfl)) (fun h => absurd h.1 (nn rfl))))).trans (hid kn_264)
    have q_266 : (up c_259 8 (5 * t + 2) (c_254 7 2)) 8 (5 * t) = c 8 (5 * t) := ((up_n (by omega)).trans (hid kn_265))
    have kn_267 : Hid (c_254 8 (5 * t + 1) = y_225) := (hF_256 8 (5 * t + 1) (by omega)).trans (hid kn_234)
    have kn_268 : Hid (c_259 8 (5 * t + 1) = y_225) := (hF_261 8 (5 * t + 1) (fun q => q.elim (fun h => absurd h.1 (nn rfl)) (fun q => q.elim (fun h => absurd h.1 (nn rfl)) (fun h => absurd h.1 (nn rfl))))).trans (hid kn_267)
    have q_269 : (up c_259 8 (5 * t + 2) (c_254 7 2)) 8 (5 * t + 1) = y_225 := ((up_n (by omega)).trans (hid kn_268))
    have q_270 : (up c_259 8 (5 * t + 2) (c_254 7 2)) 8 (5 * t + 2) = c_254 7 2 := (up_e rfl)
    have kn_271 : Hid (c_254 8 (5 * t + 3) = c 8 (5 * t + 3)) := (hF_256 8 (5 * t + 3) (by omega)).trans (hid kn_243)
    have kn_272 : Hid (c_259 8 (5 * t + 3) = c 8 (5 * t + 3)) := (hF_261 8 (5 * t + 3) (fun q => q.elim (fun h => absurd h.1 (nn rfl)) (fun q => q.elim (fun h => absurd h.1 (nn rfl)) (fun h => absurd h.1 (nn rfl))))).trans (hid kn_271)
    have q_273 : (up c_259 8 (5 * t + 2) (c_254 7 2)) 8 (5 * t + 3) = c 8 (5 * t + 3) := ((up_n (by omega)).trans (hid kn_272))
    have kn_274 : Hid (c_254 8 (5 * t + 4) = c 8 (5 * t + 4)) := (hF_256 8 (5 * t + 4) (by omega)).trans (hid kn_247)
    have kn_275 : Hid (c_259 8 (5 * t + 4) = c 8 (5 * t + 4)) := (hF_261 8 (5 * t + 4) (fun q => q.elim (fun h => absurd h.1 (nn rfl)) (fun q => q.elim (fun h => absurd h.1 (nn rfl)) (fun h => absurd h.1 (nn rfl))))).trans (hid kn_274)
    have q_276 : (up c_259 8 (5 * t + 2) (c_254 7 2)) 8 (5 * t + 4) = c 8 (5 * t + 4) := ((up_n (by omega)).trans (hid kn_275))
    have hI_277 : Iv u (-1) P Q (up c_259 8 (5 * t + 2) (c_254 7 2)) := iv_close8 (t := t) hI_263 (by unfold So; rw [q_266, q_269, q_270, q_273, q_276]; omega)
    have h_278 : (up c_259 8 (5 * t + 2) (c_254 7 2)) 7 2 = c_254 7 2 := ((up_c (nn rfl)).trans (hid kn_262))
    exact K (up c_259 8 (5 * t + 2) (c_254 7 2)) hI_277 (fun a j hm => (up_b (Decidable.or_iff_not_imp_left.mpr (fun h1 h2 => hm (Or.inr (Or.inr (Or.inr (Or.inr ⟨Decidable.not_not.mp h1, by clear hm; omega⟩))))))).trans ((hF_261 a j (fun q => q.elim (fun h => hm (Or.inl h)) (fun q => q.elim (fun h => hm (Or.inr (Or.inl h))) (fun h => hm (Or.inr (Or.inr (Or.inl h))))))).trans ((hF_256 a j (fun q => q.elim (fun h => hm (Or.inl h)) (fun q => q.elim (fun h => hm (Or.inr (Or.inl h))) (fun q => q.elim (fun h => hm (Or.inr (Or.inr (Or.inl h)))) (fun q => q.elim (fun h => hm (Or.inr (Or.inr (Or.inr (Or.inl h))))) (fun h => hm (Or.inr (Or.inr (Or.inr (Or.inr ⟨h.1, by clear hm; omega⟩)))))))))).trans ((hF_230 a j (fun q => q.elim (fun h => hm (Or.inl h)) (fun q => q.elim (fun h => hm (Or.inr (Or.inl h))) (fun h => hm (Or.inr (Or.inr (Or.inl h))))))).trans ((up_b (Decidable.or_iff_not_imp_left.mpr (fun h1 h2 => hm (Or.inr (Or.inr (Or.inr (Or.inr ⟨Decidable.not_not.mp h1, by clear hm; omega⟩))))))).trans (hF_224 a j (fun q => q.elim (fun h => hm (Or.inl h)) (fun q => q.elim (fun h => hm (Or.inr (Or.inl h))) (fun h => hm (Or.inr (Or.inr (Or.inl h)))))))))))) (by omega)
  refine v_tsw_o (t := 349) rfl (by omega) (by decide) ?_
  refine q_vret rfl rfl ?_
  have q_279 : c 8 (5 * t) = c 8 (5 * t) := rfl
  have h_280 := ir_8 hI (5 * t + 1)
  have q_281 : c 8 (5 * t + 1) = c 8 (5 * t + 1) := rfl
  have h_282 := ir_8 hI (5 * t + 2)
  have h_283 := ir_8_2 hI (j := 5 * t + 2) (by omega)
  have q_284 : c 8 (5 * t + 2) = c 8 (5 * t + 2) := rfl
  have h_285 := ir_8 hI (5 * t + 3)
  have q_286 : c 8 (5 * t + 3) = c 8 (5 * t + 3) := rfl
  have h_287 := ir_8 hI (5 * t + 4)
  have q_288 : c 8 (5 * t + 4) = c 8 (5 * t + 4) := rfl
  have hI_289 : Iv u (-1) P Q c := iv_close8 (t := t) hI (by unfold So; rw [q_279, q_281, q_284, q_286, q_288]; omega)
  exact K c hI_289 (fun a j hm => rfl) (by omega)

