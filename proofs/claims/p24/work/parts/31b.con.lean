/-! ===== contracts 2 ===== -/
set_option maxRecDepth 100000 in
set_option maxHeartbeats 4000000 in
theorem s_33 {sc : List Int32} {e : Int} {d u P Q A : Nat} {c : ME} {a2 : Int} {Z : AR → Prop} (hI : Iv u e P Q c) (hA : A = 13 ∨ A = 25) (ha2 : 0 ≤ a2 ∧ a2 ≤ 100) (hq0 : (a2 ≠ 0) ∨ (c A 0 ≤ 5)) (hq1 : (a2 ≠ 1) ∨ (c A 1 ≤ 3)) (hq2 : (a2 ≠ 2) ∨ (c A 2 ≤ 3)) (K : ∀ (c2 : ME), Iv u e P Q c2 → (∀ (a : Nat) (j : Int), ¬ ((a = 1 ∧ j = 2) ∨ (a = 1 ∧ j = 4) ∨ (a = 1 ∧ j = 5) ∨ (a = A ∧ j = 0) ∨ (a = A ∧ j = 1) ∨ (a = A ∧ j = 2) ∨ (a = A ∧ j = 3) ∨ a = (A + 1) ∨ a = (A + 2) ∨ a = (A + 3)) → c2 a j = c a j) → Z (.inl (none), Wd P Q P P c2, 0, 0)) : Wp sc (d + 11) 33 0 [(0, .ref A), (1, .ref 1), (2, vi a2)] [] (Wd P Q P P c) 0 0 Z := by
  have hP := iv_P hI
  have hQ := iv_Q hI
  have h_1 := ir_p0_0 hI hA
  have h_2 := ir_p0_1 hI hA
  have h_3 := ir_p0_2 hI hA
  refine q_iload_n rfl rfl ?_
  by_cases h_4 : a2 = 0
  · skip
    refine v_tsw_i (t := 28) 0 rfl (by omega) (by decide) rfl (by decide) ?_
    refine q_aload_n rfl rfl ?_
    refine q_aload_n rfl rfl ?_
    refine v_gr (t := (A + 1)) rfl rfl (ck_p0 hA) (by omega) rfl ?_
    refine q_aload_n rfl rfl ?_
    refine v_gi (z := 0) (v := c A 0) rfl rfl (ck_p0 hA) (by omega) rfl rfl rfl ?_
    refine q_iconst rfl ?_
    refine v_imul (v := 4 * c A 0) rfl (by omega) ?_
    refine q_iconst rfl ?_
    refine v_sip rfl (by decide) ?_
    refine q_call rfl rfl rfl rfl ?_
    refine q_iload_n rfl rfl ?_
    refine q_istore rfl (by decide) ?_
    refine q_iload rfl rfl ?_
    refine q_iload_n rfl rfl ?_
    refine q_iload_n rfl rfl ?_
    refine v_iadd (v := 4 * c A 0 + 4) rfl (by omega) ?_
    refine v_ic_ge_f (t := 34) rfl (by decide) (by omega) ?_
    refine q_iload rfl rfl ?_
    refine q_aload_n rfl rfl ?_
    refine v_al rfl (ck_p1 hA) (by omega) (by decide) ?_
    refine v_ic_ge_f (t := 34) rfl (by decide) (by omega) ?_
    refine q_aload_n rfl rfl ?_
    refine q_iload rfl rfl ?_
    refine q_aload_n rfl rfl ?_
    refine q_iload rfl rfl ?_
    refine v_cv rfl rfl rfl rfl (by decide) ⟨⟨rfl, rfl⟩, by decide, rfl⟩ (Nat.le_of_ble_eq_true rfl) (Nat.le_of_ble_eq_true rfl) (s_8 (a1 := 999) hI (show (-1) ≤ 999 ∧ 999 ≤ 9999 from by omega) (fun c_5 y_8 hI_6 hF_7 hy_8 h_9 => ?_))
    refine bk_inl ?_
    refine v_is rfl (ck_p1 hA) (by omega) (by decide) (by omega) ?_
    refine v_iinc (v := 4 * c A 0 + 1) rfl rfl (by decide) (by omega) ?_
    refine q_goto (t := 3) rfl (by decide) ?_
    refine q_iload rfl rfl ?_
    refine q_iload_n rfl rfl ?_
    refine q_iload_n rfl rfl ?_
    refine v_iadd (v := 4 * c A 0 + 4) rfl (by omega) ?_
    refine v_ic_ge_f (t := 34) rfl (by decide) (by omega) ?_
    refine q_iload rfl rfl ?_
    refine q_aload_n rfl rfl ?_
    refine v_al rfl (ck_p1 hA) (by omega) (by decide) ?_
    refine v_ic_ge_f (t := 34) rfl (by decide) (by omega) ?_
    refine q_aload_n rfl rfl ?_
    refine q_iload rfl rfl ?_
    refine q_aload_n rfl rfl ?_
    refine q_iload rfl rfl ?_
    have hI_10 := iw_p1 (j := 4 * c A 0) (v := y_8) hI_6 hA ⟨by omega, by omega⟩
    refine v_cv rfl rfl rfl rfl (by decide) ⟨⟨rfl, rfl⟩, by decide, rfl⟩ (Nat.le_of_ble_eq_true rfl) (Nat.le_of_ble_eq_true rfl) (s_8 (a1 := 999) hI_10 (show (-1) ≤ 999 ∧ 999 ≤ 9999 from by omega) (fun c_11 y_14 hI_12 hF_13 hy_14 h_15 => ?_))
    refine bk_inl ?_
    refine v_is rfl (ck_p1 hA) (by omega) (by decide) (by omega) ?_
    refine v_iinc (v := 4 * c A 0 + 2) rfl rfl (by decide) (by omega) ?_
    refine q_goto (t := 3) rfl (by decide) ?_
    refine q_iload rfl rfl ?_
    refine q_iload_n rfl rfl ?_
    refine q_iload_n rfl rfl ?_
    refine v_iadd (v := 4 * c A 0 + 4) rfl (by omega) ?_
    refine v_ic_ge_f (t := 34) rfl (by decide) (by omega) ?_
    refine q_iload rfl rfl ?_
    refine q_aload_n rfl rfl ?_
    refine v_al rfl (ck_p1 hA) (by omega) (by decide) ?_
    refine v_ic_ge_f (t := 34) rfl (by decide) (by omega) ?_
    refine q_aload_n rfl rfl ?_
    refine q_iload rfl rfl ?_
    refine q_aload_n rfl rfl ?_
    refine q_iload rfl rfl ?_
    have hI_16 := iw_p1 (j := 4 * c A 0 + 1) (v := y_14) hI_12 hA ⟨by omega, by omega⟩
    refine v_cv rfl rfl rfl rfl (by decide) ⟨⟨rfl, rfl⟩, by decide, rfl⟩ (Nat.le_of_ble_eq_true rfl) (Nat.le_of_ble_eq_true rfl) (s_8 (a1 := 999) hI_16 (show (-1) ≤ 999 ∧ 999 ≤ 9999 from by omega) (fun c_17 y_20 hI_18 hF_19 hy_20 h_21 => ?_))
    refine bk_inl ?_
    refine v_is rfl (ck_p1 hA) (by omega) (by decide) (by omega) ?_
    refine v_iinc (v := 4 * c A 0 + 3) rfl rfl (by decide) (by omega) ?_
    refine q_goto (t := 3) rfl (by decide) ?_
    refine q_iload rfl rfl ?_
    refine q_iload_n rfl rfl ?_
    refine q_iload_n rfl rfl ?_
    refine v_iadd (v := 4 * c A 0 + 4) rfl (by omega) ?_
    refine v_ic_ge_f (t := 34) rfl (by decide) (by omega) ?_
    refine q_iload rfl rfl ?_
    refine q_aload_n rfl rfl ?_
    refine v_al rfl (ck_p1 hA) (by omega) (by decide) ?_
    refine v_ic_ge_f (t := 34) rfl (by decide) (by omega) ?_
    refine q_aload_n rfl rfl ?_
    refine q_iload rfl rfl ?_
    refine q_aload_n rfl rfl ?_
    refine q_iload rfl rfl ?_
    have hI_22 := iw_p1 (j := 4 * c A 0 + 2) (v := y_20) hI_18 hA ⟨by omega, by omega⟩
    refine v_cv rfl rfl rfl rfl (by decide) ⟨⟨rfl, rfl⟩, by decide, rfl⟩ (Nat.le_of_ble_eq_true rfl) (Nat.le_of_ble_eq_true rfl) (s_8 (a1 := 999) hI_22 (show (-1) ≤ 999 ∧ 999 ≤ 9999 from by omega) (fun c_23 y_26 hI_24 hF_25 hy_26 h_27 => ?_))
    refine bk_inl ?_
    refine v_is rfl (ck_p1 hA) (by omega) (by decide) (by omega) ?_
    refine v_iinc (v := 4 * c A 0 + 4) rfl rfl (by decide) (by omega) ?_
    refine Wp_ls [(5, vi (4 * c A 0 + 4)), (0, .ref 1), (1, .ref (A + 1)), (2, vi (4 * c A 0)), (3, vi 4), (4, vi 999)] (lsub_cons rfl (lsub_cons rfl (lsub_cons rfl (lsub_cons rfl (lsub_cons rfl (lsub_cons rfl lsub_nil)))))) ?_
    refine q_goto (t := 3) rfl (by decide) ?_
    refine q_iload rfl rfl ?_
    refine q_iload_n rfl rfl ?_
    refine q_iload_n rfl rfl ?_
    refine v_iadd (v := 4 * c A 0 + 4) rfl (by omega) ?_
    refine v_ic_ge_t (t := 34) rfl (by decide) (by omega) ?_
    refine q_vret rfl rfl ?_
    refine bk_inl ?_
    refine q_aload_n rfl rfl ?_
    refine q_dup rfl rfl ?_
    refine v_gi (z := 0) (v := c A 0) rfl rfl (ck_p0 hA) (by omega) rfl rfl ((up_c (by omega)).trans ((hF_25 A 0 (by omega)).trans ((up_c (by omega)).trans ((hF_19 A 0 (by omega)).trans ((up_c (by omega)).trans ((hF_13 A 0 (by omega)).trans ((up_c (by omega)).trans (hF_7 A 0 (by omega))))))))) ?_
    refine q_iconst rfl ?_
    refine v_iadd (v := c A 0 + 1) rfl (by omega) ?_
    refine v_pi (z := 0) rfl rfl (ck_p0 hA) (by omega) rfl rfl rfl (by decide) ?_
    refine q_goto (t := 126) rfl (by decide) ?_
    refine q_vret rfl rfl ?_
    have hI_28 := iw_p1 (j := 4 * c A 0 + 3) (v := y_26) hI_24 hA ⟨by omega, by omega⟩
    have hI_29 := iw_p0_0 (v := c A 0 + 1) hI_28 hA ⟨by omega, by omega⟩
    exact K (up (up c_23 (A + 1) (4 * c A 0 + 3) y_26) A 0 (c A 0 + 1)) hI_29 (fun a j hm => (up_b (by omega)).trans ((up_b (by omega)).trans ((hF_25 a j (by omega)).trans ((up_b (by omega)).trans ((hF_19 a j (by omega)).trans ((up_b (by omega)).trans ((hF_13 a j (by omega)).trans ((up_b (by omega)).trans (hF_7 a j (by omega))))))))))
  by_cases h_30 : a2 = 1
  · skip
    refine v_tsw_i (t := 59) 1 rfl (by omega) (by decide) rfl (by decide) ?_
    refine q_aload_n rfl rfl ?_
    refine q_aload_n rfl rfl ?_
    refine v_gr (t := (A + 2)) rfl rfl (ck_p0 hA) (by omega) rfl ?_
    refine q_aload_n rfl rfl ?_
    refine v_gi (z := 1) (v := c A 1) rfl rfl (ck_p0 hA) (by omega) rfl rfl rfl ?_
    refine q_iconst rfl ?_
    refine v_imul (v := 3 * c A 1) rfl (by omega) ?_
    refine q_iconst rfl ?_
    refine v_bip rfl (by decide) ?_
    refine q_call rfl rfl rfl rfl ?_
    refine q_iload_n rfl rfl ?_
    refine q_istore rfl (by decide) ?_
    refine q_iload rfl rfl ?_
    refine q_iload_n rfl rfl ?_
    refine q_iload_n rfl rfl ?_
    refine v_iadd (v := 3 * c A 1 + 3) rfl (by omega) ?_
    refine v_ic_ge_f (t := 34) rfl (by decide) (by omega) ?_
    refine q_iload rfl rfl ?_
    refine q_aload_n rfl rfl ?_
    refine v_al rfl (ck_p2 hA) (by omega) (by decide) ?_
    refine v_ic_ge_f (t := 34) rfl (by decide) (by omega) ?_
    refine q_aload_n rfl rfl ?_
    refine q_iload rfl rfl ?_
    refine q_aload_n rfl rfl ?_
    refine q_iload rfl rfl ?_
    refine v_cv rfl rfl rfl rfl (by decide) ⟨⟨rfl, rfl⟩, by decide, rfl⟩ (Nat.le_of_ble_eq_true rfl) (Nat.le_of_ble_eq_true rfl) (s_8 (a1 := 10) hI (show (-1) ≤ 10 ∧ 10 ≤ 9999 from by omega) (fun c_31 y_34 hI_32 hF_33 hy_34 h_35 => ?_))
    refine bk_inl ?_
    refine v_is rfl (ck_p2 hA) (by omega) (by decide) (by omega) ?_
    refine v_iinc (v := 3 * c A 1 + 1) rfl rfl (by decide) (by omega) ?_
    refine q_goto (t := 3) rfl (by decide) ?_
    refine q_iload rfl rfl ?_
    refine q_iload_n rfl rfl ?_
    refine q_iload_n rfl rfl ?_
    refine v_iadd (v := 3 * c A 1 + 3) rfl (by omega) ?_
    refine v_ic_ge_f (t := 34) rfl (by decide) (by omega) ?_
    refine q_iload rfl rfl ?_
    refine q_aload_n rfl rfl ?_
    refine v_al rfl (ck_p2 hA) (by omega) (by decide) ?_
    refine v_ic_ge_f (t := 34) rfl (by decide) (by omega) ?_
    refine q_aload_n rfl rfl ?_
    refine q_iload rfl rfl ?_
    refine q_aload_n rfl rfl ?_
    refine q_iload rfl rfl ?_
    have hI_36 := iw_p2 (j := 3 * c A 1) (v := y_34) hI_32 hA ⟨by omega, by omega⟩
    refine v_cv rfl rfl rfl rfl (by decide) ⟨⟨rfl, rfl⟩, by decide, rfl⟩ (Nat.le_of_ble_eq_true rfl) (Nat.le_of_ble_eq_true rfl) (s_8 (a1 := 10) hI_36 (show (-1) ≤ 10 ∧ 10 ≤ 9999 from by omega) (fun c_37 y_40 hI_38 hF_39 hy_40 h_41 => ?_))
    refine bk_inl ?_
    refine v_is rfl (ck_p2 hA) (by omega) (by decide) (by omega) ?_
    refine v_iinc (v := 3 * c A 1 + 2) rfl rfl (by decide) (by omega) ?_
    refine q_goto (t := 3) rfl (by decide) ?_
    refine q_iload rfl rfl ?_
    refine q_iload_n rfl rfl ?_
    refine q_iload_n rfl rfl ?_
    refine v_iadd (v := 3 * c A 1 + 3) rfl (by omega) ?_
    refine v_ic_ge_f (t := 34) rfl (by decide) (by omega) ?_
    refine q_iload rfl rfl ?_
    refine q_aload_n rfl rfl ?_
    refine v_al rfl (ck_p2 hA) (by omega) (by decide) ?_
    refine v_ic_ge_f (t := 34) rfl (by decide) (by omega) ?_
    refine q_aload_n rfl rfl ?_
    refine q_iload rfl rfl ?_
    refine q_aload_n rfl rfl ?_
    refine q_iload rfl rfl ?_
    have hI_42 := iw_p2 (j := 3 * c A 1 + 1) (v := y_40) hI_38 hA ⟨by omega, by omega⟩
    refine v_cv rfl rfl rfl rfl (by decide) ⟨⟨rfl, rfl⟩, by decide, rfl⟩ (Nat.le_of_ble_eq_true rfl) (Nat.le_of_ble_eq_true rfl) (s_8 (a1 := 10) hI_42 (show (-1) ≤ 10 ∧ 10 ≤ 9999 from by omega) (fun c_43 y_46 hI_44 hF_45 hy_46 h_47 => ?_))
    refine bk_inl ?_
    refine v_is rfl (ck_p2 hA) (by omega) (by decide) (by omega) ?_
    refine v_iinc (v := 3 * c A 1 + 3) rfl rfl (by decide) (by omega) ?_
    refine q_goto (t := 3) rfl (by decide) ?_
    refine q_iload rfl rfl ?_
    refine q_iload_n rfl rfl ?_
    refine q_iload_n rfl rfl ?_
    refine v_iadd (v := 3 * c A 1 + 3) rfl (by omega) ?_
    refine v_ic_ge_t (t := 34) rfl (by decide) (by omega) ?_
    refine q_vret rfl rfl ?_
    refine bk_inl ?_
    refine q_aload_n rfl rfl ?_
    refine q_dup rfl rfl ?_
    refine v_gi (z := 1) (v := c A 1) rfl rfl (ck_p0 hA) (by omega) rfl rfl ((up_c (by omega)).trans ((hF_45 A 1 (by omega)).trans ((up_c (by omega)).trans ((hF_39 A 1 (by omega)).trans ((up_c (by omega)).trans (hF_33 A 1 (by omega))))))) ?_
    refine q_iconst rfl ?_
    refine v_iadd (v := c A 1 + 1) rfl (by omega) ?_
    refine v_pi (z := 1) rfl rfl (ck_p0 hA) (by omega) rfl rfl rfl (by decide) ?_
    refine q_goto (t := 126) rfl (by decide) ?_
    refine q_vret rfl rfl ?_
    have hI_48 := iw_p2 (j := 3 * c A 1 + 2) (v := y_46) hI_44 hA ⟨by omega, by omega⟩
    have hI_49 := iw_p0_1 (v := c A 1 + 1) hI_48 hA ⟨by omega, by omega⟩
    exact K (up (up c_43 (A + 2) (3 * c A 1 + 2) y_46) A 1 (c A 1 + 1)) hI_49 (fun a j hm => (up_b (by omega)).trans ((up_b (by omega)).trans ((hF_45 a j (by omega)).trans ((up_b (by omega)).trans ((hF_39 a j (by omega)).trans ((up_b (by omega)).trans (hF_33 a j (by omega))))))))
  by_cases h_50 : a2 = 2
  · skip
    refine v_tsw_i (t := 89) 2 rfl (by omega) (by decide) rfl (by decide) ?_
    refine q_aload_n rfl rfl ?_
    refine q_aload_n rfl rfl ?_
    refine v_gr (t := (A + 3)) rfl rfl (ck_p0 hA) (by omega) rfl ?_
    refine q_aload_n rfl rfl ?_
    refine v_gi (z := 2) (v := c A 2) rfl rfl (ck_p0 hA) (by omega) rfl rfl rfl ?_
    refine q_iconst rfl ?_
    refine q_iconst rfl ?_
    refine q_call rfl rfl rfl rfl ?_
    refine q_iload_n rfl rfl ?_
    refine q_istore rfl (by decide) ?_
    refine q_iload rfl rfl ?_
    refine q_iload_n rfl rfl ?_
    refine q_iload_n rfl rfl ?_
    refine v_iadd (v := c A 2 + 1) rfl (by omega) ?_
    refine v_ic_ge_f (t := 34) rfl (by decide) (by omega) ?_
    refine q_iload rfl rfl ?_
    refine q_aload_n rfl rfl ?_
    refine v_al rfl (ck_p3 hA) (by omega) (by decide) ?_
    refine v_ic_ge_f (t := 34) rfl (by decide) (by omega) ?_
    refine q_aload_n rfl rfl ?_
    refine q_iload rfl rfl ?_
    refine q_aload_n rfl rfl ?_
    refine q_iload rfl rfl ?_
    refine v_cv rfl rfl rfl rfl (by decide) ⟨⟨rfl, rfl⟩, by decide, rfl⟩ (Nat.le_of_ble_eq_true rfl) (Nat.le_of_ble_eq_true rfl) (s_8 (a1 := 2) hI (show (-1) ≤ 2 ∧ 2 ≤ 9999 from by omega) (fun c_51 y_54 hI_52 hF_53 hy_54 h_55 => ?_))
    refine bk_inl ?_
    refine v_is rfl (ck_p3 hA) (by omega) (by decide) (by omega) ?_
    refine v_iinc (v := c A 2 + 1) rfl rfl (by decide) (by omega) ?_
    refine q_goto (t := 3) rfl (by decide) ?_
    refine q_iload rfl rfl ?_
    refine q_iload_n rfl rfl ?_
    refine q_iload_n rfl rfl ?_
    refine v_iadd (v := c A 2 + 1) rfl (by omega) ?_
    refine v_ic_ge_t (t := 34) rfl (by decide) (by omega) ?_
    refine q_vret rfl rfl ?_
    refine bk_inl ?_
    refine q_aload_n rfl rfl ?_
    refine q_dup rfl rfl ?_
    refine v_gi (z := 2) (v := c A 2) rfl rfl (ck_p0 hA) (by omega) rfl rfl ((up_c (by omega)).trans (hF_53 A 2 (by omega))) ?_
    refine q_iconst rfl ?_
    refine v_iadd (v := c A 2 + 1) rfl (by omega) ?_
    refine v_pi (z := 2) rfl rfl (ck_p0 hA) (by omega) rfl rfl rfl (by decide) ?_
    refine q_goto (t := 126) rfl (by decide) ?_
    refine q_vret rfl rfl ?_
    have hI_56 := iw_p3 (j := c A 2) (v := y_54) hI_52 hA ⟨by omega, by omega⟩
    have hI_57 := iw_p0_2 (v := c A 2 + 1) hI_56 hA ⟨by omega, by omega⟩
    exact K (up (up c_51 (A + 3) (c A 2) y_54) A 2 (c A 2 + 1)) hI_57 (fun a j hm => (up_b (by omega)).trans ((up_b (by omega)).trans (hF_53 a j (by omega))))
  refine v_tsw_o (t := 116) rfl (by omega) (by decide) ?_
  refine q_aload_n rfl rfl ?_
  refine q_aload_n rfl rfl ?_
  refine v_bip rfl (by decide) ?_
  refine v_cv rfl rfl rfl rfl (by decide) ⟨⟨rfl, rfl⟩, by decide, rfl⟩ (Nat.le_of_ble_eq_true rfl) (Nat.le_of_ble_eq_true rfl) (s_8 (a1 := 50) hI (show (-1) ≤ 50 ∧ 50 ≤ 9999 from by omega) (fun c_58 y_61 hI_59 hF_60 hy_61 h_62 => ?_))
  refine bk_inl ?_
  refine v_pi (z := 3) rfl rfl (ck_p0 hA) (by omega) rfl rfl rfl (by decide) ?_
  refine q_vret rfl rfl ?_
  have hI_63 := iw_p0_3 (v := y_61) hI_59 hA ⟨by omega, by omega⟩
  exact K (up c_58 A 3 y_61) hI_63 (fun a j hm => (up_b (by omega)).trans (hF_60 a j (by omega)))

set_option maxRecDepth 100000 in
set_option maxHeartbeats 4000000 in
theorem s_34_l {sc : List Int32} {e : Int} {d u P Q A : Nat} {c : ME} {Z : AR → Prop} (hI : Iv u e P Q c) (hA : A = 13 ∨ A = 25) (K : ∀ (c2 : ME), Iv u e P Q c2 → (∀ (a : Nat) (j : Int), ¬ ((a = 1 ∧ j = 2) ∨ (a = 1 ∧ j = 4) ∨ (a = 1 ∧ j = 5) ∨ (a = A ∧ j = 0) ∨ (a = A ∧ j = 1) ∨ (a = A ∧ j = 2) ∨ (a = A ∧ j = 3) ∨ a = (A + 1) ∨ a = (A + 2) ∨ a = (A + 3) ∨ (a = A ∧ j = 4) ∨ (a = A ∧ j = 5) ∨ a = (A + 6) ∨ (a = (A + 7) ∧ j = 4)) → c2 a j = c a j) → Z (.inl (none), Wd P Q P P c2, 0, 0)) : ∀ n : Nat, (∀ (c2 : ME) (v2 : Int), Iv u e P Q c2 → (∀ (a : Nat) (j : Int), ¬ ((a = 1 ∧ j = 2) ∨ (a = 1 ∧ j = 4) ∨ (a = 1 ∧ j = 5) ∨ (a = A ∧ j = 0) ∨ (a = A ∧ j = 1) ∨ (a = A ∧ j = 2) ∨ (a = A ∧ j = 3) ∨ a = (A + 1) ∨ a = (A + 2) ∨ a = (A + 3) ∨ (a = A ∧ j = 4) ∨ (a = A ∧ j = 5) ∨ a = (A + 6) ∨ (a = (A + 7) ∧ j = 4)) → c2 a j = c a j) → 0 ≤ v2 ∧ v2 ≤ 61 → 123 - 2 * v2 < (n : Int) → Wp sc (d + 12) 34 6 [(0, .ref A), (1, .ref 1), (2, vi v2)] [] (Wd P Q P P c2) 0 0 Z)
  | 0 => by intro c2 v2 hI2 hF hv2 hm9; have hP := iv_P hI; have hQ := iv_Q hI; exfalso; omega
  | n + 1 => by
    have hP := iv_P hI
    have hQ := iv_Q hI
    have ih := s_34_l (sc := sc) (d := d) hI hA K n
    intro c2 v2 hI2 hF hv2 hm9
    refine q_iload_n rfl rfl ?_
    refine v_bip rfl (by decide) ?_
    by_cases h_1 : v2 > 60
    · refine v_ic_gt_t (t := 85) rfl (by decide) (by omega) ?_
      refine q_vret rfl rfl ?_
      exact K c2 hI2 (fun a j hm => hF a j (by omega))
    · refine v_ic_gt_f (t := 85) rfl (by decide) (by omega) ?_
      refine q_aload_n rfl rfl ?_
      refine v_cv rfl rfl rfl rfl (by decide) ⟨⟨rfl, rfl⟩, by decide, rfl⟩ (Nat.le_of_ble_eq_true rfl) (Nat.le_of_ble_eq_true rfl) (s_15 hI2 (fun c_2 y_5 hI_3 hF_4 hy_5 => ?_))
      refine bk_inl ?_
      by_cases h_6 : y_5 = 0
      · refine v_if_eq_t (t := 85) rfl (by decide) (by omega) ?_
        refine q_vret rfl rfl ?_
        exact K c_2 hI_3 (fun a j hm => (hF_4 a j (by omega)).trans (hF a j (by omega)))
      · refine v_if_eq_f (t := 85) rfl (by decide) (by omega) ?_
        refine q_aload_n rfl rfl ?_
        refine v_cv rfl rfl rfl rfl (by decide) ⟨⟨rfl, rfl⟩, by decide, rfl⟩ (Nat.le_of_ble_eq_true rfl) (Nat.le_of_ble_eq_true rfl) (s_3 hI_3 (fun c_7 y_10 hI_8 hF_9 hy_10 h_11 => ?_))
        refine bk_inl ?_
        have h_12 := ir_1_2 hI_8
        refine q_istore_n rfl (by decide) ?_
        refine q_aload_n rfl rfl ?_
        refine q_ldc_s rfl rfl rfl (by decide) ?_
        refine v_cv rfl rfl rfl rfl (by decide) ⟨⟨rfl, rfl⟩, by decide, rfl⟩ (Nat.le_of_ble_eq_true rfl) (Nat.le_of_ble_eq_true rfl) (s_10 hI_8 (q := 8) (nt := 20) (by decide) (by decide) (by decide) (fun c_13 y_16 hI_14 hF_15 hy_16 h_17 => ?_))
        refine bk_inl ?_
        have h_18 := ir_1_4 hI_14
        refine q_istore rfl (by decide) ?_
        refine q_iload rfl rfl ?_
        refine q_iconst rfl ?_
        by_cases h_19 : y_16 = (-1)
        · refine v_ic_eq_t (t := 59) rfl (by decide) (by omega) ?_
          refine q_aload_n rfl rfl ?_
          refine v_cv rfl rfl rfl rfl (by decide) ⟨⟨rfl, rfl⟩, by decide, rfl⟩ (Nat.le_of_ble_eq_true rfl) (Nat.le_of_ble_eq_true rfl) ?_
          refine q_aload_n rfl rfl ?_
          refine v_gi (z := 4) (v := c_13 1 4) rfl rfl rfl (by decide) rfl rfl rfl ?_
          refine v_if_ne_t (t := 11) rfl (by decide) (by omega) ?_
          refine q_iconst rfl ?_
          refine v_zret rfl rfl (by omega) ?_
          refine bk_inl ?_
          refine v_if_eq_t (t := 73) rfl (by decide) (by decide) ?_
          refine q_aload_n rfl rfl ?_
          refine q_ldc_s rfl rfl rfl (by decide) ?_
          refine v_cv rfl rfl rfl rfl (by decide) ⟨⟨rfl, rfl⟩, by decide, rfl⟩ (Nat.le_of_ble_eq_true rfl) (Nat.le_of_ble_eq_true rfl) (s_11 hI_14 (q := 9) (nt := 1) (by decide) (by decide) (by decide) (fun c_20 hI_21 hF_22 => ?_))
          refine bk_inl ?_
          refine v_iinc (v := v2 + 1) rfl rfl (by decide) (by omega) ?_
          refine q_goto (t := 6) rfl (by decide) ?_
          refine Wp_ls [(0, .ref A), (1, .ref 1), (2, vi (v2 + 1))] (lsub_cons rfl (lsub_cons rfl (lsub_cons rfl lsub_nil))) ?_
          exact ih c_20 (v2 + 1) hI_21 (fun a j hm => (hF_22 a j (by omega)).trans ((hF_15 a j (by omega)).trans ((hF_9 a j (by omega)).trans ((hF_4 a j (by omega)).trans (hF a j (by omega)))))) ⟨by omega, by omega⟩ (by omega)
        · refine v_ic_eq_f (t := 59) rfl (by decide) (by omega) ?_
          refine q_iload_n rfl rfl ?_
          refine v_bip rfl (by decide) ?_
          by_cases h_23 : v2 = 60
          · refine v_ic_eq_t (t := 53) rfl (by decide) (by omega) ?_
            refine q_aload_n rfl rfl ?_
            refine q_iconst rfl ?_
            refine q_iload_n rfl rfl ?_
            refine v_cv rfl rfl rfl rfl (by decide) ⟨⟨rfl, rfl⟩, by decide, rfl⟩ (Nat.le_of_ble_eq_true rfl) (Nat.le_of_ble_eq_true rfl) (s_7 (a1 := 3) (a2 := y_10) hI_14 (show 1 ≤ 3 ∧ 3 ≤ 3 from by omega) (show 0 ≤ y_10 ∧ y_10 ≤ 600 from by omega) (fun c_24 hI_25 hF_26 h_27 => ?_))
            refine bk_inl ?_
            have h_28 := ir_1_4 hI_25
            refine q_aload_n rfl rfl ?_
            refine v_cv rfl rfl rfl rfl (by decide) ⟨⟨rfl, rfl⟩, by decide, rfl⟩ (Nat.le_of_ble_eq_true rfl) (Nat.le_of_ble_eq_true rfl) ?_
            refine q_aload_n rfl rfl ?_
            refine v_gi (z := 4) (v := c_24 1 4) rfl rfl rfl (by decide) rfl rfl rfl ?_
            refine v_if_ne_t (t := 11) rfl (by decide) (by omega) ?_
            refine q_iconst rfl ?_
            refine v_zret rfl rfl (by omega) ?_
            refine bk_inl ?_
            refine v_if_eq_t (t := 73) rfl (by decide) (by decide) ?_
            refine q_aload_n rfl rfl ?_
            refine q_ldc_s rfl rfl rfl (by decide) ?_
            refine v_cv rfl rfl rfl rfl (by decide) ⟨⟨rfl, rfl⟩, by decide, rfl⟩ (Nat.le_of_ble_eq_true rfl) (Nat.le_of_ble_eq_true rfl) (s_11 hI_25 (q := 9) (nt := 1) (by decide) (by decide) (by decide) (fun c_29 hI_30 hF_31 => ?_))
            refine bk_inl ?_
            refine v_iinc (v := v2 + 1) rfl rfl (by decide) (by omega) ?_
            refine q_goto (t := 6) rfl (by decide) ?_
            refine Wp_ls [(0, .ref A), (1, .ref 1), (2, vi (v2 + 1))] (lsub_cons rfl (lsub_cons rfl (lsub_cons rfl lsub_nil))) ?_
            exact ih c_29 (v2 + 1) hI_30 (fun a j hm => (hF_31 a j (by omega)).trans ((hF_26 a j (by omega)).trans ((hF_15 a j (by omega)).trans ((hF_9 a j (by omega)).trans ((hF_4 a j (by omega)).trans (hF a j (by omega))))))) ⟨by omega, by omega⟩ (by omega)
          · refine v_ic_eq_f (t := 53) rfl (by decide) (by omega) ?_
            refine q_aload_n rfl rfl ?_
            refine q_iload rfl rfl ?_
            refine v_cv rfl rfl rfl (ck_p0 hA) (by omega) ⟨⟨rfl, rfl⟩, by decide, rfl⟩ (Nat.le_of_ble_eq_true rfl) (Nat.le_of_ble_eq_true rfl) ?_
            refine q_iload_n rfl rfl ?_
            by_cases h_32 : y_16 = 0
            · skip
              refine v_tsw_i (t := 28) 0 rfl (by omega) (by decide) rfl (by decide) ?_
              refine q_aload_n rfl rfl ?_
              have h_33 := ir_p0_0 hI2 hA
              refine v_gi (z := 0) (v := c2 A 0) rfl rfl (ck_p0 hA) (by omega) rfl rfl ((hF_15 A 0 (by omega)).trans ((hF_9 A 0 (by omega)).trans (hF_4 A 0 (by omega)))) ?_
              refine v_bip rfl (by decide) ?_
              by_cases h_34 : c2 A 0 ≠ 6
              · refine v_ic_ne_t (t := 41) rfl (by decide) (by omega) ?_
                refine q_iconst rfl ?_
                refine v_zret rfl rfl (by omega) ?_
                refine bk_inl ?_
                refine v_if_eq_t (t := 59) rfl (by decide) (by decide) ?_
                refine q_aload_n rfl rfl ?_
                refine v_cv rfl rfl rfl rfl (by decide) ⟨⟨rfl, rfl⟩, by decide, rfl⟩ (Nat.le_of_ble_eq_true rfl) (Nat.le_of_ble_eq_true rfl) ?_
                refine q_aload_n rfl rfl ?_
                refine v_gi (z := 4) (v := c_13 1 4) rfl rfl rfl (by decide) rfl rfl rfl ?_
                by_cases h_35 : c_13 1 4 ≠ 0
                · refine v_if_ne_t (t := 11) rfl (by decide) (by omega) ?_
                  refine q_iconst rfl ?_
                  refine v_zret rfl rfl (by omega) ?_
                  refine bk_inl ?_
                  refine v_if_eq_t (t := 73) rfl (by decide) (by decide) ?_
                  refine q_aload_n rfl rfl ?_
                  refine q_ldc_s rfl rfl rfl (by decide) ?_
                  refine v_cv rfl rfl rfl rfl (by decide) ⟨⟨rfl, rfl⟩, by decide, rfl⟩ (Nat.le_of_ble_eq_true rfl) (Nat.le_of_ble_eq_true rfl) (s_11 hI_14 (q := 9) (nt := 1) (by decide) (by decide) (by decide) (fun c_36 hI_37 hF_38 => ?_))
                  refine bk_inl ?_
                  refine v_iinc (v := v2 + 1) rfl rfl (by decide) (by omega) ?_
                  refine q_goto (t := 6) rfl (by decide) ?_
                  refine Wp_ls [(0, .ref A), (1, .ref 1), (2, vi (v2 + 1))] (lsub_cons rfl (lsub_cons rfl (lsub_cons rfl lsub_nil))) ?_
                  exact ih c_36 (v2 + 1) hI_37 (fun a j hm => (hF_38 a j (by omega)).trans ((hF_15 a j (by omega)).trans ((hF_9 a j (by omega)).trans ((hF_4 a j (by omega)).trans (hF a j (by omega)))))) ⟨by omega, by omega⟩ (by omega)
                · refine v_if_ne_f (t := 11) rfl (by decide) (by omega) ?_
                  refine q_iconst rfl ?_
                  refine q_goto (t := 12) rfl (by decide) ?_
                  refine v_zret rfl rfl (by omega) ?_
                  refine bk_inl ?_
                  refine v_if_eq_f (t := 73) rfl (by decide) (by decide) ?_
                  refine q_aload_n rfl rfl ?_
                  refine q_aload_n rfl rfl ?_
                  refine q_iload rfl rfl ?_
                  have h_39 : c_13 A 0 = c2 A 0 := ((hF_15 A 0 (by omega)).trans ((hF_9 A 0 (by omega)).trans (hF_4 A 0 (by omega))))
                  have h_40 := ir_p0_1 hI2 hA
                  have h_41 : c_13 A 1 = c2 A 1 := ((hF_15 A 1 (by omega)).trans ((hF_9 A 1 (by omega)).trans (hF_4 A 1 (by omega))))
                  have h_42 := ir_p0_2 hI2 hA
                  have h_43 : c_13 A 2 = c2 A 2 := ((hF_15 A 2 (by omega)).trans ((hF_9 A 2 (by omega)).trans (hF_4 A 2 (by omega))))
                  refine v_cv rfl rfl rfl (ck_p0 hA) (by omega) ⟨⟨rfl, rfl⟩, by decide, rfl⟩ (Nat.le_of_ble_eq_true rfl) (Nat.le_of_ble_eq_true rfl) (s_33 (a2 := y_16) hI_14 hA (show 0 ≤ y_16 ∧ y_16 ≤ 100 from by omega) (by omega) (by omega) (by omega) (fun c_44 hI_45 hF_46 => ?_))
                  refine bk_inl ?_
                  refine q_aload_n rfl rfl ?_
                  refine q_ldc_s rfl rfl rfl (by decide) ?_
                  refine v_cv rfl rfl rfl rfl (by decide) ⟨⟨rfl, rfl⟩, by decide, rfl⟩ (Nat.le_of_ble_eq_true rfl) (Nat.le_of_ble_eq_true rfl) (s_11 hI_45 (q := 9) (nt := 1) (by decide) (by decide) (by decide) (fun c_47 hI_48 hF_49 => ?_))
                  refine bk_inl ?_
                  refine v_iinc (v := v2 + 1) rfl rfl (by decide) (by omega) ?_
                  refine q_goto (t := 6) rfl (by decide) ?_
                  refine Wp_ls [(0, .ref A), (1, .ref 1), (2, vi (v2 + 1))] (lsub_cons rfl (lsub_cons rfl (lsub_cons rfl lsub_nil))) ?_
                  exact ih c_47 (v2 + 1) hI_48 (fun a j hm => (hF_49 a j (by omega)).trans ((hF_46 a j (by omega)).trans ((hF_15 a j (by omega)).trans ((hF_9 a j (by omega)).trans ((hF_4 a j (by omega)).trans (hF a j (by omega))))))) ⟨by omega, by omega⟩ (by omega)
              · refine v_ic_ne_f (t := 41) rfl (by decide) (by omega) ?_
                refine q_iconst rfl ?_
                refine q_goto (t := 42) rfl (by decide) ?_
                refine v_zret rfl rfl (by omega) ?_
                refine bk_inl ?_
                refine v_if_eq_f (t := 59) rfl (by decide) (by decide) ?_
                refine q_aload_n rfl rfl ?_
                refine q_iconst rfl ?_
                refine q_iload_n rfl rfl ?_
                refine v_cv rfl rfl rfl rfl (by decide) ⟨⟨rfl, rfl⟩, by decide, rfl⟩ (Nat.le_of_ble_eq_true rfl) (Nat.le_of_ble_eq_true rfl) (s_7 (a1 := 3) (a2 := y_10) hI_14 (show 1 ≤ 3 ∧ 3 ≤ 3 from by omega) (show 0 ≤ y_10 ∧ y_10 ≤ 600 from by omega) (fun c_50 hI_51 hF_52 h_53 => ?_))
                refine bk_inl ?_
                have h_54 := ir_1_4 hI_51
                refine q_aload_n rfl rfl ?_
                refine v_cv rfl rfl rfl rfl (by decide) ⟨⟨rfl, rfl⟩, by decide, rfl⟩ (Nat.le_of_ble_eq_true rfl) (Nat.le_of_ble_eq_true rfl) ?_
                refine q_aload_n rfl rfl ?_
                refine v_gi (z := 4) (v := c_50 1 4) rfl rfl rfl (by decide) rfl rfl rfl ?_
                refine v_if_ne_t (t := 11) rfl (by decide) (by omega) ?_
                refine q_iconst rfl ?_
                refine v_zret rfl rfl (by omega) ?_
                refine bk_inl ?_
                refine v_if_eq_t (t := 73) rfl (by decide) (by decide) ?_
                refine q_aload_n rfl rfl ?_
                refine q_ldc_s rfl rfl rfl (by decide) ?_
                refine v_cv rfl rfl rfl rfl (by decide) ⟨⟨rfl, rfl⟩, by decide, rfl⟩ (Nat.le_of_ble_eq_true rfl) (Nat.le_of_ble_eq_true rfl) (s_11 hI_51 (q := 9) (nt := 1) (by decide) (by decide) (by decide) (fun c_55 hI_56 hF_57 => ?_))
                refine bk_inl ?_
                refine v_iinc (v := v2 + 1) rfl rfl (by decide) (by omega) ?_
                refine q_goto (t := 6) rfl (by decide) ?_
                refine Wp_ls [(0, .ref A), (1, .ref 1), (2, vi (v2 + 1))] (lsub_cons rfl (lsub_cons rfl (lsub_cons rfl lsub_nil))) ?_
                exact ih c_55 (v2 + 1) hI_56 (fun a j hm => (hF_57 a j (by omega)).trans ((hF_52 a j (by omega)).trans ((hF_15 a j (by omega)).trans ((hF_9 a j (by omega)).trans ((hF_4 a j (by omega)).trans (hF a j (by omega))))))) ⟨by omega, by omega⟩ (by omega)
            by_cases h_58 : y_16 = 1
            · skip
              refine v_tsw_i (t := 43) 1 rfl (by omega) (by decide) rfl (by decide) ?_
              refine q_aload_n rfl rfl ?_
              have h_59 := ir_p0_1 hI2 hA
              refine v_gi (z := 1) (v := c2 A 1) rfl rfl (ck_p0 hA) (by omega) rfl rfl ((hF_15 A 1 (by omega)).trans ((hF_9 A 1 (by omega)).trans (hF_4 A 1 (by omega)))) ?_
              refine q_iconst rfl ?_
              by_cases h_60 : c2 A 1 ≠ 4
              · refine v_ic_ne_t (t := 55) rfl (by decide) (by omega) ?_
                refine q_iconst rfl ?_
                refine v_zret rfl rfl (by omega) ?_
                refine bk_inl ?_
                refine v_if_eq_t (t := 59) rfl (by decide) (by decide) ?_
                refine q_aload_n rfl rfl ?_
                refine v_cv rfl rfl rfl rfl (by decide) ⟨⟨rfl, rfl⟩, by decide, rfl⟩ (Nat.le_of_ble_eq_true rfl) (Nat.le_of_ble_eq_true rfl) ?_
                refine q_aload_n rfl rfl ?_
                refine v_gi (z := 4) (v := c_13 1 4) rfl rfl rfl (by decide) rfl rfl rfl ?_
                by_cases h_61 : c_13 1 4 ≠ 0
                · refine v_if_ne_t (t := 11) rfl (by decide) (by omega) ?_
                  refine q_iconst rfl ?_
                  refine v_zret rfl rfl (by omega) ?_
                  refine bk_inl ?_
                  refine v_if_eq_t (t := 73) rfl (by decide) (by decide) ?_
                  refine q_aload_n rfl rfl ?_
                  refine q_ldc_s rfl rfl rfl (by decide) ?_
                  refine v_cv rfl rfl rfl rfl (by decide) ⟨⟨rfl, rfl⟩, by decide, rfl⟩ (Nat.le_of_ble_eq_true rfl) (Nat.le_of_ble_eq_true rfl) (s_11 hI_14 (q := 9) (nt := 1) (by decide) (by decide) (by decide) (fun c_62 hI_63 hF_64 => ?_))
                  refine bk_inl ?_
                  refine v_iinc (v := v2 + 1) rfl rfl (by decide) (by omega) ?_
                  refine q_goto (t := 6) rfl (by decide) ?_
                  refine Wp_ls [(0, .ref A), (1, .ref 1), (2, vi (v2 + 1))] (lsub_cons rfl (lsub_cons rfl (lsub_cons rfl lsub_nil))) ?_
                  exact ih c_62 (v2 + 1) hI_63 (fun a j hm => (hF_64 a j (by omega)).trans ((hF_15 a j (by omega)).trans ((hF_9 a j (by omega)).trans ((hF_4 a j (by omega)).trans (hF a j (by omega)))))) ⟨by omega, by omega⟩ (by omega)
                · refine v_if_ne_f (t := 11) rfl (by decide) (by omega) ?_
                  refine q_iconst rfl ?_
                  refine q_goto (t := 12) rfl (by decide) ?_
                  refine v_zret rfl rfl (by omega) ?_
                  refine bk_inl ?_
                  refine v_if_eq_f (t := 73) rfl (by decide) (by decide) ?_
                  refine q_aload_n rfl rfl ?_
                  refine q_aload_n rfl rfl ?_
                  refine q_iload rfl rfl ?_
                  have h_65 := ir_p0_0 hI2 hA
                  have h_66 : c_13 A 0 = c2 A 0 := ((hF_15 A 0 (by omega)).trans ((hF_9 A 0 (by omega)).trans (hF_4 A 0 (by omega))))
                  have h_67 : c_13 A 1 = c2 A 1 := ((hF_15 A 1 (by omega)).trans ((hF_9 A 1 (by omega)).trans (hF_4 A 1 (by omega))))
                  have h_68 := ir_p0_2 hI2 hA
                  have h_69 : c_13 A 2 = c2 A 2 := ((hF_15 A 2 (by omega)).trans ((hF_9 A 2 (by omega)).trans (hF_4 A 2 (by omega))))
                  refine v_cv rfl rfl rfl (ck_p0 hA) (by omega) ⟨⟨rfl, rfl⟩, by decide, rfl⟩ (Nat.le_of_ble_eq_true rfl) (Nat.le_of_ble_eq_true rfl) (s_33 (a2 := y_16) hI_14 hA (show 0 ≤ y_16 ∧ y_16 ≤ 100 from by omega) (by omega) (by omega) (by omega) (fun c_70 hI_71 hF_72 => ?_))
                  refine bk_inl ?_
                  refine q_aload_n rfl rfl ?_
                  refine q_ldc_s rfl rfl rfl (by decide) ?_
                  refine v_cv rfl rfl rfl rfl (by decide) ⟨⟨rfl, rfl⟩, by decide, rfl⟩ (Nat.le_of_ble_eq_true rfl) (Nat.le_of_ble_eq_true rfl) (s_11 hI_71 (q := 9) (nt := 1) (by decide) (by decide) (by decide) (fun c_73 hI_74 hF_75 => ?_))
                  refine bk_inl ?_
                  refine v_iinc (v := v2 + 1) rfl rfl (by decide) (by omega) ?_
                  refine q_goto (t := 6) rfl (by decide) ?_
                  refine Wp_ls [(0, .ref A), (1, .ref 1), (2, vi (v2 + 1))] (lsub_cons rfl (lsub_cons rfl (lsub_cons rfl lsub_nil))) ?_
                  exact ih c_73 (v2 + 1) hI_74 (fun a j hm => (hF_75 a j (by omega)).trans ((hF_72 a j (by omega)).trans ((hF_15 a j (by omega)).trans ((hF_9 a j (by omega)).trans ((hF_4 a j (by omega)).trans (hF a j (by omega))))))) ⟨by omega, by omega⟩ (by omega)
              · refine v_ic_ne_f (t := 55) rfl (by decide) (by omega) ?_
                refine q_iconst rfl ?_
                refine q_goto (t := 56) rfl (by decide) ?_
                refine v_zret rfl rfl (by omega) ?_
                refine bk_inl ?_
                refine v_if_eq_f (t := 59) rfl (by decide) (by decide) ?_
                refine q_aload_n rfl rfl ?_
                refine q_iconst rfl ?_
                refine q_iload_n rfl rfl ?_
                refine v_cv rfl rfl rfl rfl (by decide) ⟨⟨rfl, rfl⟩, by decide, rfl⟩ (Nat.le_of_ble_eq_true rfl) (Nat.le_of_ble_eq_true rfl) (s_7 (a1 := 3) (a2 := y_10) hI_14 (show 1 ≤ 3 ∧ 3 ≤ 3 from by omega) (show 0 ≤ y_10 ∧ y_10 ≤ 600 from by omega) (fun c_76 hI_77 hF_78 h_79 => ?_))
                refine bk_inl ?_
                have h_80 := ir_1_4 hI_77
                refine q_aload_n rfl rfl ?_
                refine v_cv rfl rfl rfl rfl (by decide) ⟨⟨rfl, rfl⟩, by decide, rfl⟩ (Nat.le_of_ble_eq_true rfl) (Nat.le_of_ble_eq_true rfl) ?_
                refine q_aload_n rfl rfl ?_
                refine v_gi (z := 4) (v := c_76 1 4) rfl rfl rfl (by decide) rfl rfl rfl ?_
                refine v_if_ne_t (t := 11) rfl (by decide) (by omega) ?_
                refine q_iconst rfl ?_
                refine v_zret rfl rfl (by omega) ?_
                refine bk_inl ?_
                refine v_if_eq_t (t := 73) rfl (by decide) (by decide) ?_
                refine q_aload_n rfl rfl ?_
                refine q_ldc_s rfl rfl rfl (by decide) ?_
                refine v_cv rfl rfl rfl rfl (by decide) ⟨⟨rfl, rfl⟩, by decide, rfl⟩ (Nat.le_of_ble_eq_true rfl) (Nat.le_of_ble_eq_true rfl) (s_11 hI_77 (q := 9) (nt := 1) (by decide) (by decide) (by decide) (fun c_81 hI_82 hF_83 => ?_))
                refine bk_inl ?_
                refine v_iinc (v := v2 + 1) rfl rfl (by decide) (by omega) ?_
                refine q_goto (t := 6) rfl (by decide) ?_
                refine Wp_ls [(0, .ref A), (1, .ref 1), (2, vi (v2 + 1))] (lsub_cons rfl (lsub_cons rfl (lsub_cons rfl lsub_nil))) ?_
                exact ih c_81 (v2 + 1) hI_82 (fun a j hm => (hF_83 a j (by omega)).trans ((hF_78 a j (by omega)).trans ((hF_15 a j (by omega)).trans ((hF_9 a j (by omega)).trans ((hF_4 a j (by omega)).trans (hF a j (by omega))))))) ⟨by omega, by omega⟩ (by omega)
            by_cases h_84 : y_16 = 2
            · skip
              refine v_tsw_i (t := 57) 2 rfl (by omega) (by decide) rfl (by decide) ?_
              refine q_aload_n rfl rfl ?_
              have h_85 := ir_p0_2 hI2 hA
              refine v_gi (z := 2) (v := c2 A 2) rfl rfl (ck_p0 hA) (by omega) rfl rfl ((hF_15 A 2 (by omega)).trans ((hF_9 A 2 (by omega)).trans (hF_4 A 2 (by omega)))) ?_
              refine q_iconst rfl ?_
              by_cases h_86 : c2 A 2 ≠ 4
              · refine v_ic_ne_t (t := 69) rfl (by decide) (by omega) ?_
                refine q_iconst rfl ?_
                refine v_zret rfl rfl (by omega) ?_
                refine bk_inl ?_
                refine v_if_eq_t (t := 59) rfl (by decide) (by decide) ?_
                refine q_aload_n rfl rfl ?_
                refine v_cv rfl rfl rfl rfl (by decide) ⟨⟨rfl, rfl⟩, by decide, rfl⟩ (Nat.le_of_ble_eq_true rfl) (Nat.le_of_ble_eq_true rfl) ?_
                refine q_aload_n rfl rfl ?_
                refine v_gi (z := 4) (v := c_13 1 4) rfl rfl rfl (by decide) rfl rfl rfl ?_
                by_cases h_87 : c_13 1 4 ≠ 0
                · refine v_if_ne_t (t := 11) rfl (by decide) (by omega) ?_
                  refine q_iconst rfl ?_
                  refine v_zret rfl rfl (by omega) ?_
                  refine bk_inl ?_
                  refine v_if_eq_t (t := 73) rfl (by decide) (by decide) ?_
                  refine q_aload_n rfl rfl ?_
                  refine q_ldc_s rfl rfl rfl (by decide) ?_
                  refine v_cv rfl rfl rfl rfl (by decide) ⟨⟨rfl, rfl⟩, by decide, rfl⟩ (Nat.le_of_ble_eq_true rfl) (Nat.le_of_ble_eq_true rfl) (s_11 hI_14 (q := 9) (nt := 1) (by decide) (by decide) (by decide) (fun c_88 hI_89 hF_90 => ?_))
                  refine bk_inl ?_
                  refine v_iinc (v := v2 + 1) rfl rfl (by decide) (by omega) ?_
                  refine q_goto (t := 6) rfl (by decide) ?_
                  refine Wp_ls [(0, .ref A), (1, .ref 1), (2, vi (v2 + 1))] (lsub_cons rfl (lsub_cons rfl (lsub_cons rfl lsub_nil))) ?_
                  exact ih c_88 (v2 + 1) hI_89 (fun a j hm => (hF_90 a j (by omega)).trans ((hF_15 a j (by omega)).trans ((hF_9 a j (by omega)).trans ((hF_4 a j (by omega)).trans (hF a j (by omega)))))) ⟨by omega, by omega⟩ (by omega)
                · refine v_if_ne_f (t := 11) rfl (by decide) (by omega) ?_
                  refine q_iconst rfl ?_
                  refine q_goto (t := 12) rfl (by decide) ?_
                  refine v_zret rfl rfl (by omega) ?_
                  refine bk_inl ?_
                  refine v_if_eq_f (t := 73) rfl (by decide) (by decide) ?_
                  refine q_aload_n rfl rfl ?_
                  refine q_aload_n rfl rfl ?_
                  refine q_iload rfl rfl ?_
                  have h_91 := ir_p0_0 hI2 hA
                  have h_92 : c_13 A 0 = c2 A 0 := ((hF_15 A 0 (by omega)).trans ((hF_9 A 0 (by omega)).trans (hF_4 A 0 (by omega))))
                  have h_93 := ir_p0_1 hI2 hA
                  have h_94 : c_13 A 1 = c2 A 1 := ((hF_15 A 1 (by omega)).trans ((hF_9 A 1 (by omega)).trans (hF_4 A 1 (by omega))))
                  have h_95 : c_13 A 2 = c2 A 2 := ((hF_15 A 2 (by omega)).trans ((hF_9 A 2 (by omega)).trans (hF_4 A 2 (by omega))))
                  refine v_cv rfl rfl rfl (ck_p0 hA) (by omega) ⟨⟨rfl, rfl⟩, by decide, rfl⟩ (Nat.le_of_ble_eq_true rfl) (Nat.le_of_ble_eq_true rfl) (s_33 (a2 := y_16) hI_14 hA (show 0 ≤ y_16 ∧ y_16 ≤ 100 from by omega) (by omega) (by omega) (by omega) (fun c_96 hI_97 hF_98 => ?_))
                  refine bk_inl ?_
                  refine q_aload_n rfl rfl ?_
                  refine q_ldc_s rfl rfl rfl (by decide) ?_
                  refine v_cv rfl rfl rfl rfl (by decide) ⟨⟨rfl, rfl⟩, by decide, rfl⟩ (Nat.le_of_ble_eq_true rfl) (Nat.le_of_ble_eq_true rfl) (s_11 hI_97 (q := 9) (nt := 1) (by decide) (by decide) (by decide) (fun c_99 hI_100 hF_101 => ?_))
                  refine bk_inl ?_
                  refine v_iinc (v := v2 + 1) rfl rfl (by decide) (by omega) ?_
                  refine q_goto (t := 6) rfl (by decide) ?_
                  refine Wp_ls [(0, .ref A), (1, .ref 1), (2, vi (v2 + 1))] (lsub_cons rfl (lsub_cons rfl (lsub_cons rfl lsub_nil))) ?_
                  exact ih c_99 (v2 + 1) hI_100 (fun a j hm => (hF_101 a j (by omega)).trans ((hF_98 a j (by omega)).trans ((hF_15 a j (by omega)).trans ((hF_9 a j (by omega)).trans ((hF_4 a j (by omega)).trans (hF a j (by omega))))))) ⟨by omega, by omega⟩ (by omega)
              · refine v_ic_ne_f (t := 69) rfl (by decide) (by omega) ?_
                refine q_iconst rfl ?_
                refine q_goto (t := 70) rfl (by decide) ?_
                refine v_zret rfl rfl (by omega) ?_
                refine bk_inl ?_
                refine v_if_eq_f (t := 59) rfl (by decide) (by decide) ?_
                refine q_aload_n rfl rfl ?_
                refine q_iconst rfl ?_
                refine q_iload_n rfl rfl ?_
                refine v_cv rfl rfl rfl rfl (by decide) ⟨⟨rfl, rfl⟩, by decide, rfl⟩ (Nat.le_of_ble_eq_true rfl) (Nat.le_of_ble_eq_true rfl) (s_7 (a1 := 3) (a2 := y_10) hI_14 (show 1 ≤ 3 ∧ 3 ≤ 3 from by omega) (show 0 ≤ y_10 ∧ y_10 ≤ 600 from by omega) (fun c_102 hI_103 hF_104 h_105 => ?_))
                refine bk_inl ?_
                have h_106 := ir_1_4 hI_103
                refine q_aload_n rfl rfl ?_
                refine v_cv rfl rfl rfl rfl (by decide) ⟨⟨rfl, rfl⟩, by decide, rfl⟩ (Nat.le_of_ble_eq_true rfl) (Nat.le_of_ble_eq_true rfl) ?_
                refine q_aload_n rfl rfl ?_
                refine v_gi (z := 4) (v := c_102 1 4) rfl rfl rfl (by decide) rfl rfl rfl ?_
                refine v_if_ne_t (t := 11) rfl (by decide) (by omega) ?_
                refine q_iconst rfl ?_
                refine v_zret rfl rfl (by omega) ?_
                refine bk_inl ?_
                refine v_if_eq_t (t := 73) rfl (by decide) (by decide) ?_
                refine q_aload_n rfl rfl ?_
                refine q_ldc_s rfl rfl rfl (by decide) ?_
                refine v_cv rfl rfl rfl rfl (by decide) ⟨⟨rfl, rfl⟩, by decide, rfl⟩ (Nat.le_of_ble_eq_true rfl) (Nat.le_of_ble_eq_true rfl) (s_11 hI_103 (q := 9) (nt := 1) (by decide) (by decide) (by decide) (fun c_107 hI_108 hF_109 => ?_))
                refine bk_inl ?_
                refine v_iinc (v := v2 + 1) rfl rfl (by decide) (by omega) ?_
                refine q_goto (t := 6) rfl (by decide) ?_
                refine Wp_ls [(0, .ref A), (1, .ref 1), (2, vi (v2 + 1))] (lsub_cons rfl (lsub_cons rfl (lsub_cons rfl lsub_nil))) ?_
                exact ih c_107 (v2 + 1) hI_108 (fun a j hm => (hF_109 a j (by omega)).trans ((hF_104 a j (by omega)).trans ((hF_15 a j (by omega)).trans ((hF_9 a j (by omega)).trans ((hF_4 a j (by omega)).trans (hF a j (by omega))))))) ⟨by omega, by omega⟩ (by omega)
            refine v_tsw_o (t := 71) rfl (by omega) (by decide) ?_
            refine q_iconst rfl ?_
            refine v_zret rfl rfl (by omega) ?_
            refine bk_inl ?_
            refine v_if_eq_t (t := 59) rfl (by decide) (by decide) ?_
            refine q_aload_n rfl rfl ?_
            refine v_cv rfl rfl rfl rfl (by decide) ⟨⟨rfl, rfl⟩, by decide, rfl⟩ (Nat.le_of_ble_eq_true rfl) (Nat.le_of_ble_eq_true rfl) ?_
            refine q_aload_n rfl rfl ?_
            refine v_gi (z := 4) (v := c_13 1 4) rfl rfl rfl (by decide) rfl rfl rfl ?_
            by_cases h_110 : c_13 1 4 ≠ 0
            · refine v_if_ne_t (t := 11) rfl (by decide) (by omega) ?_
              refine q_iconst rfl ?_
              refine v_zret rfl rfl (by omega) ?_
              refine bk_inl ?_
              refine v_if_eq_t (t := 73) rfl (by decide) (by decide) ?_
              refine q_aload_n rfl rfl ?_
              refine q_ldc_s rfl rfl rfl (by decide) ?_
              refine v_cv rfl rfl rfl rfl (by decide) ⟨⟨rfl, rfl⟩, by decide, rfl⟩ (Nat.le_of_ble_eq_true rfl) (Nat.le_of_ble_eq_true rfl) (s_11 hI_14 (q := 9) (nt := 1) (by decide) (by decide) (by decide) (fun c_111 hI_112 hF_113 => ?_))
              refine bk_inl ?_
              refine v_iinc (v := v2 + 1) rfl rfl (by decide) (by omega) ?_
              refine q_goto (t := 6) rfl (by decide) ?_
              refine Wp_ls [(0, .ref A), (1, .ref 1), (2, vi (v2 + 1))] (lsub_cons rfl (lsub_cons rfl (lsub_cons rfl lsub_nil))) ?_
              exact ih c_111 (v2 + 1) hI_112 (fun a j hm => (hF_113 a j (by omega)).trans ((hF_15 a j (by omega)).trans ((hF_9 a j (by omega)).trans ((hF_4 a j (by omega)).trans (hF a j (by omega)))))) ⟨by omega, by omega⟩ (by omega)
            · refine v_if_ne_f (t := 11) rfl (by decide) (by omega) ?_
              refine q_iconst rfl ?_
              refine q_goto (t := 12) rfl (by decide) ?_
              refine v_zret rfl rfl (by omega) ?_
              refine bk_inl ?_
              refine v_if_eq_f (t := 73) rfl (by decide) (by decide) ?_
              refine q_aload_n rfl rfl ?_
              refine q_aload_n rfl rfl ?_
              refine q_iload rfl rfl ?_
              have h_114 := ir_p0_0 hI2 hA
              have h_115 : c_13 A 0 = c2 A 0 := ((hF_15 A 0 (by omega)).trans ((hF_9 A 0 (by omega)).trans (hF_4 A 0 (by omega))))
              have h_116 := ir_p0_1 hI2 hA
              have h_117 : c_13 A 1 = c2 A 1 := ((hF_15 A 1 (by omega)).trans ((hF_9 A 1 (by omega)).trans (hF_4 A 1 (by omega))))
              have h_118 := ir_p0_2 hI2 hA
              have h_119 : c_13 A 2 = c2 A 2 := ((hF_15 A 2 (by omega)).trans ((hF_9 A 2 (by omega)).trans (hF_4 A 2 (by omega))))
              refine v_cv rfl rfl rfl (ck_p0 hA) (by omega) ⟨⟨rfl, rfl⟩, by decide, rfl⟩ (Nat.le_of_ble_eq_true rfl) (Nat.le_of_ble_eq_true rfl) (s_33 (a2 := y_16) hI_14 hA (show 0 ≤ y_16 ∧ y_16 ≤ 100 from by omega) (by omega) (by omega) (by omega) (fun c_120 hI_121 hF_122 => ?_))
              refine bk_inl ?_
              refine q_aload_n rfl rfl ?_
              refine q_ldc_s rfl rfl rfl (by decide) ?_
              refine v_cv rfl rfl rfl rfl (by decide) ⟨⟨rfl, rfl⟩, by decide, rfl⟩ (Nat.le_of_ble_eq_true rfl) (Nat.le_of_ble_eq_true rfl) (s_11 hI_121 (q := 9) (nt := 1) (by decide) (by decide) (by decide) (fun c_123 hI_124 hF_125 => ?_))
              refine bk_inl ?_
              refine v_iinc (v := v2 + 1) rfl rfl (by decide) (by omega) ?_
              refine q_goto (t := 6) rfl (by decide) ?_
              refine Wp_ls [(0, .ref A), (1, .ref 1), (2, vi (v2 + 1))] (lsub_cons rfl (lsub_cons rfl (lsub_cons rfl lsub_nil))) ?_
              exact ih c_123 (v2 + 1) hI_124 (fun a j hm => (hF_125 a j (by omega)).trans ((hF_122 a j (by omega)).trans ((hF_15 a j (by omega)).trans ((hF_9 a j (by omega)).trans ((hF_4 a j (by omega)).trans (hF a j (by omega))))))) ⟨by omega, by omega⟩ (by omega)
set_option maxRecDepth 100000 in
set_option maxHeartbeats 4000000 in
theorem s_34 {sc : List Int32} {e : Int} {d u P Q A : Nat} {c : ME} {Z : AR → Prop} (hI : Iv u e P Q c) (hA : A = 13 ∨ A = 25) (K : ∀ (c2 : ME), Iv u e P Q c2 → (∀ (a : Nat) (j : Int), ¬ ((a = 1 ∧ j = 2) ∨ (a = 1 ∧ j = 4) ∨ (a = 1 ∧ j = 5) ∨ (a = A ∧ j = 0) ∨ (a = A ∧ j = 1) ∨ (a = A ∧ j = 2) ∨ (a = A ∧ j = 3) ∨ a = (A + 1) ∨ a = (A + 2) ∨ a = (A + 3) ∨ (a = A ∧ j = 4) ∨ (a = A ∧ j = 5) ∨ a = (A + 6) ∨ (a = (A + 7) ∧ j = 4)) → c2 a j = c a j) → Z (.inl (none), Wd P Q P P c2, 0, 0)) : Wp sc (d + 12) 34 0 [(0, .ref A), (1, .ref 1)] [] (Wd P Q P P c) 0 0 Z := by
  have hP := iv_P hI
  have hQ := iv_Q hI
  refine q_aload_n rfl rfl ?_
  refine v_cv rfl rfl rfl (ck_p0 hA) (by omega) ⟨⟨rfl, rfl⟩, by decide, rfl⟩ (Nat.le_of_ble_eq_true rfl) (Nat.le_of_ble_eq_true rfl) (s_30 hI hA (fun c_126 hI_127 hF_128 h_129 => ?_))
  refine bk_inl ?_
  have h_130 := ir_p0_0 hI_127 hA
  have h_131 := ir_p0_1 hI_127 hA
  have h_132 := ir_p0_2 hI_127 hA
  refine q_iconst rfl ?_
  refine q_istore_n rfl (by decide) ?_
  refine Wp_ls [(0, .ref A), (1, .ref 1), (2, vi 0)] (lsub_cons rfl (lsub_cons rfl (lsub_cons rfl lsub_nil))) ?_
  exact (s_34_l (sc := sc) (d := d) hI hA K 126) c_126 0 hI_127 (fun a j hm => hF_128 a j (by omega)) ⟨by decide, by decide⟩ (by omega)

set_option maxRecDepth 100000 in
set_option maxHeartbeats 4000000 in
theorem s_35_l {sc : List Int32} {e : Int} {d u P Q A : Nat} {c : ME} {Z : AR → Prop} (hI : Iv u e P Q c) (hA : A = 13 ∨ A = 25) (K : ∀ (c2 : ME), Iv u e P Q c2 → (∀ (a : Nat) (j : Int), ¬ ((a = 1 ∧ j = 2) ∨ (a = 1 ∧ j = 4) ∨ (a = 1 ∧ j = 5) ∨ (a = A ∧ j = 4) ∨ a = (A + 4) ∨ a = (A + 5)) → c2 a j = c a j) → Z (.inl (none), Wd P Q P P c2, 0, 0)) : ∀ n : Nat, (∀ (c2 : ME) (v2 : Int) (v3 : Int), Iv u e P Q c2 → (∀ (a : Nat) (j : Int), ¬ ((a = 1 ∧ j = 2) ∨ (a = 1 ∧ j = 4) ∨ (a = 1 ∧ j = 5) ∨ (a = A ∧ j = 4) ∨ a = (A + 4) ∨ a = (A + 5)) → c2 a j = c a j) → 0 ≤ v2 ∧ v2 ≤ 8 → 0 ≤ v3 ∧ v3 ≤ 9 → (∀ j : Int, 0 ≤ j → j < v2 → 0 ≤ c2 (A + 5) j ∧ c2 (A + 5) j ≤ 3) → ((v2 = v3) ∨ (v2 = 8 ∧ v3 = 9)) → 19 - 2 * v3 < (n : Int) → Wp sc (d + 10) 35 4 [(0, .ref A), (1, .ref 1), (2, vi v2), (3, vi v3)] [] (Wd P Q P P c2) 0 0 Z)
  | 0 => by intro c2 v2 v3 hI2 hF hv2 hv3 hx0 hx1 hm9; have hP := iv_P hI; have hQ := iv_Q hI; exfalso; omega
  | n + 1 => by
    have hP := iv_P hI
    have hQ := iv_Q hI
    have ih := s_35_l (sc := sc) (d := d) hI hA K n
    intro c2 v2 v3 hI2 hF hv2 hv3 hx0 hx1 hm9
    refine q_iload_n rfl rfl ?_
    refine v_bip rfl (by decide) ?_
    by_cases h_1 : v3 > 8
    · refine v_ic_gt_t (t := 75) rfl (by decide) (by omega) ?_
      refine q_aload_n rfl rfl ?_
      refine v_cv rfl rfl rfl rfl (by decide) ⟨⟨rfl, rfl⟩, by decide, rfl⟩ (Nat.le_of_ble_eq_true rfl) (Nat.le_of_ble_eq_true rfl) ?_
      refine q_aload_n rfl rfl ?_
      have h_2 := ir_1_4 hI2
      refine v_gi (z := 4) (v := c2 1 4) rfl rfl rfl (by decide) rfl rfl rfl ?_
      by_cases h_3 : c2 1 4 ≠ 0
      · refine v_if_ne_t (t := 11) rfl (by decide) (by omega) ?_
        refine q_iconst rfl ?_
        refine v_zret rfl rfl (by omega) ?_
        refine bk_inl ?_
        refine v_if_eq_t (t := 102) rfl (by decide) (by decide) ?_
        refine q_vret rfl rfl ?_
        exact K c2 hI2 (fun a j hm => hF a j (by omega))
      · refine v_if_ne_f (t := 11) rfl (by decide) (by omega) ?_
        refine q_iconst rfl ?_
        refine q_goto (t := 12) rfl (by decide) ?_
        refine v_zret rfl rfl (by omega) ?_
        refine bk_inl ?_
        refine v_if_eq_f (t := 102) rfl (by decide) (by decide) ?_
        refine q_aload_n rfl rfl ?_
        refine v_gr (t := (A + 5)) rfl rfl (ck_p0 hA) (by omega) rfl ?_
        refine q_iconst rfl ?_
        refine q_aload_n rfl rfl ?_
        refine v_gr (t := (A + 4)) rfl rfl (ck_p0 hA) (by omega) rfl ?_
        refine q_iconst rfl ?_
        refine v_bip rfl (by decide) ?_
        refine v_cpy rfl rfl (ck_p4 hA) (by omega) (ck_p5 hA) (by omega) rfl rfl (by omega) (Nat.le_of_ble_eq_true rfl) (by omega) ?_
        refine q_aload_n rfl rfl ?_
        refine q_iload_n rfl rfl ?_
        refine v_pi (z := 4) rfl rfl (ck_p0 hA) (by omega) rfl rfl rfl (by decide) ?_
        refine q_vret rfl rfl ?_
        have hr_6 : ∀ j : Int, 0 ≤ j → j < v2 → 0 ≤ c2 (A + 5) j ∧ c2 (A + 5) j ≤ 3 := by
          intro j hj1 hj2
          have q9 : c2 (A + 5) j = c2 (A + 5) j := rfl
          rw [q9]
          exact hx0 j hj1 (by omega)
        have hI_5 := iw_stk (v := v2) hI2 hA ⟨by omega, by omega⟩ hr_6
        exact K (up (upc c2 (A + 5) 0 (A + 4) 0 8) A 4 v2) hI_5 (fun a j hm => (up_b (by omega)).trans ((upc_c (by omega)).trans (hF a j (by omega))))
    · refine v_ic_gt_f (t := 75) rfl (by decide) (by omega) ?_
      refine q_aload_n rfl rfl ?_
      refine v_cv rfl rfl rfl rfl (by decide) ⟨⟨rfl, rfl⟩, by decide, rfl⟩ (Nat.le_of_ble_eq_true rfl) (Nat.le_of_ble_eq_true rfl) (s_15 hI2 (fun c_7 y_10 hI_8 hF_9 hy_10 => ?_))
      refine bk_inl ?_
      by_cases h_11 : y_10 = 0
      · refine v_if_eq_t (t := 75) rfl (by decide) (by omega) ?_
        refine q_aload_n rfl rfl ?_
        refine v_cv rfl rfl rfl rfl (by decide) ⟨⟨rfl, rfl⟩, by decide, rfl⟩ (Nat.le_of_ble_eq_true rfl) (Nat.le_of_ble_eq_true rfl) ?_
        refine q_aload_n rfl rfl ?_
        have h_12 := ir_1_4 hI2
        refine v_gi (z := 4) (v := c2 1 4) rfl rfl rfl (by decide) rfl rfl (hF_9 1 4 (by omega)) ?_
        by_cases h_13 : c2 1 4 ≠ 0
        · refine v_if_ne_t (t := 11) rfl (by decide) (by omega) ?_
          refine q_iconst rfl ?_
          refine v_zret rfl rfl (by omega) ?_
          refine bk_inl ?_
          refine v_if_eq_t (t := 102) rfl (by decide) (by decide) ?_
          refine q_vret rfl rfl ?_
          exact K c_7 hI_8 (fun a j hm => (hF_9 a j (by omega)).trans (hF a j (by omega)))
        · refine v_if_ne_f (t := 11) rfl (by decide) (by omega) ?_
          refine q_iconst rfl ?_
          refine q_goto (t := 12) rfl (by decide) ?_
          refine v_zret rfl rfl (by omega) ?_
          refine bk_inl ?_
          refine v_if_eq_f (t := 102) rfl (by decide) (by decide) ?_
          refine q_aload_n rfl rfl ?_
          refine v_gr (t := (A + 5)) rfl rfl (ck_p0 hA) (by omega) rfl ?_
          refine q_iconst rfl ?_
          refine q_aload_n rfl rfl ?_
          refine v_gr (t := (A + 4)) rfl rfl (ck_p0 hA) (by omega) rfl ?_
          refine q_iconst rfl ?_
          refine v_bip rfl (by decide) ?_
          refine v_cpy rfl rfl (ck_p4 hA) (by omega) (ck_p5 hA) (by omega) rfl rfl (by omega) (Nat.le_of_ble_eq_true rfl) (by omega) ?_
          refine q_aload_n rfl rfl ?_
          refine q_iload_n rfl rfl ?_
          refine v_pi (z := 4) rfl rfl (ck_p0 hA) (by omega) rfl rfl rfl (by decide) ?_
          refine q_vret rfl rfl ?_
          have hr_16 : ∀ j : Int, 0 ≤ j → j < v2 → 0 ≤ c_7 (A + 5) j ∧ c_7 (A + 5) j ≤ 3 := by
            intro j hj1 hj2
            have q9 : c_7 (A + 5) j = c2 (A + 5) j := hF_9 (A + 5) j (by omega)
            rw [q9]
            exact hx0 j hj1 (by omega)
          have hI_15 := iw_stk (v := v2) hI_8 hA ⟨by omega, by omega⟩ hr_16
          exact K (up (upc c_7 (A + 5) 0 (A + 4) 0 8) A 4 v2) hI_15 (fun a j hm => (up_b (by omega)).trans ((upc_c (by omega)).trans ((hF_9 a j (by omega)).trans (hF a j (by omega)))))
      · refine v_if_eq_f (t := 75) rfl (by decide) (by omega) ?_
        refine q_aload_n rfl rfl ?_
        refine v_cv rfl rfl rfl rfl (by decide) ⟨⟨rfl, rfl⟩, by decide, rfl⟩ (Nat.le_of_ble_eq_true rfl) (Nat.le_of_ble_eq_true rfl) (s_3 hI_8 (fun c_17 y_20 hI_18 hF_19 hy_20 h_21 => ?_))
        refine bk_inl ?_
        have h_22 := ir_1_2 hI_18
        refine q_istore rfl (by decide) ?_
        refine q_aload_n rfl rfl ?_
        refine q_aload_n rfl rfl ?_
        have h_23 := ir_p0_2 hI hA
        refine v_gi (z := 2) (v := c A 2) rfl rfl (ck_p0 hA) (by omega) rfl rfl ((hF_19 A 2 (by omega)).trans ((hF_9 A 2 (by omega)).trans (hF A 2 (by omega)))) ?_
        refine q_iconst rfl ?_
        refine v_isub (v := c A 2 - 1) rfl (by omega) ?_
        refine v_cv rfl rfl rfl rfl (by decide) ⟨⟨rfl, rfl⟩, by decide, rfl⟩ (Nat.le_of_ble_eq_true rfl) (Nat.le_of_ble_eq_true rfl) (s_8 (a1 := c A 2 - 1) hI_18 (show (-1) ≤ c A 2 - 1 ∧ c A 2 - 1 ≤ 9999 from by omega) (fun c_24 y_27 hI_25 hF_26 hy_27 h_28 => ?_))
        refine bk_inl ?_
        refine q_istore rfl (by decide) ?_
        refine q_iload_n rfl rfl ?_
        refine v_bip rfl (by decide) ?_
        by_cases h_29 : v3 ≠ 8
        · refine v_ic_ne_t (t := 51) rfl (by decide) (by omega) ?_
          refine q_aload_n rfl rfl ?_
          refine v_gr (t := (A + 5)) rfl rfl (ck_p0 hA) (by omega) rfl ?_
          refine q_iload_n rfl rfl ?_
          refine q_iload rfl rfl ?_
          refine v_is rfl (ck_p5 hA) (by omega) (by decide) (by omega) ?_
          refine q_iload_n rfl rfl ?_
          refine q_iconst rfl ?_
          refine v_iadd (v := v3 + 1) rfl (by omega) ?_
          refine q_istore_n rfl (by decide) ?_
          refine q_aload_n rfl rfl ?_
          refine q_ldc_s rfl rfl rfl (by decide) ?_
          have hI_30 := iw_p5 (j := v3) (v := y_27) hI_25 hA ⟨by omega, by omega⟩
          refine v_cv rfl rfl rfl rfl (by decide) ⟨⟨rfl, rfl⟩, by decide, rfl⟩ (Nat.le_of_ble_eq_true rfl) (Nat.le_of_ble_eq_true rfl) (s_11 hI_30 (q := 9) (nt := 1) (by decide) (by decide) (by decide) (fun c_31 hI_32 hF_33 => ?_))
          refine bk_inl ?_
          refine v_iinc (v := v3 + 1) rfl rfl (by decide) (by omega) ?_
          refine q_goto (t := 4) rfl (by decide) ?_
          refine Wp_ls [(0, .ref A), (1, .ref 1), (2, vi (v3 + 1)), (3, vi (v3 + 1))] (lsub_cons rfl (lsub_cons rfl (lsub_cons rfl (lsub_cons rfl lsub_nil)))) ?_
          have hr_34 : ∀ j : Int, 0 ≤ j → j < v3 + 1 → 0 ≤ c_31 (A + 5) j ∧ c_31 (A + 5) j ≤ 3 := by
            intro j hj1 hj2
            by_cases e9 : j = v3
            · have q9 : c_31 (A + 5) j = y_27 := (hF_33 (A + 5) j (by omega)).trans (up_e e9)
              rw [q9]
              omega
            · have q9 : c_31 (A + 5) j = c2 (A + 5) j := (hF_33 (A + 5) j (by omega)).trans ((up_n e9).trans ((hF_26 (A + 5) j (by omega)).trans ((hF_19 (A + 5) j (by omega)).trans (hF_9 (A + 5) j (by omega)))))
              rw [q9]
              exact hx0 j hj1 (by omega)
          exact ih c_31 (v3 + 1) (v3 + 1) hI_32 (fun a j hm => (hF_33 a j (by omega)).trans ((up_b (by omega)).trans ((hF_26 a j (by omega)).trans ((hF_19 a j (by omega)).trans ((hF_9 a j (by omega)).trans (hF a j (by omega))))))) ⟨by omega, by omega⟩ ⟨by omega, by omega⟩ hr_34 (by omega) (by omega)
        · refine v_ic_ne_f (t := 51) rfl (by decide) (by omega) ?_
          refine q_aload_n rfl rfl ?_
          refine q_iconst rfl ?_
          refine q_iload rfl rfl ?_
          refine v_cv rfl rfl rfl rfl (by decide) ⟨⟨rfl, rfl⟩, by decide, rfl⟩ (Nat.le_of_ble_eq_true rfl) (Nat.le_of_ble_eq_true rfl) (s_7 (a1 := 3) (a2 := y_20) hI_25 (show 1 ≤ 3 ∧ 3 ≤ 3 from by omega) (show 0 ≤ y_20 ∧ y_20 ≤ 600 from by omega) (fun c_35 hI_36 hF_37 h_38 => ?_))
          refine bk_inl ?_
          have h_39 := ir_1_4 hI_36
          refine q_goto (t := 63) rfl (by decide) ?_
          refine q_aload_n rfl rfl ?_
          refine q_ldc_s rfl rfl rfl (by decide) ?_
          refine v_cv rfl rfl rfl rfl (by decide) ⟨⟨rfl, rfl⟩, by decide, rfl⟩ (Nat.le_of_ble_eq_true rfl) (Nat.le_of_ble_eq_true rfl) (s_11 hI_36 (q := 9) (nt := 1) (by decide) (by decide) (by decide) (fun c_40 hI_41 hF_42 => ?_))
          refine bk_inl ?_
          refine v_iinc (v := v3 + 1) rfl rfl (by decide) (by omega) ?_
          refine q_goto (t := 4) rfl (by decide) ?_
          refine Wp_ls [(0, .ref A), (1, .ref 1), (2, vi v2), (3, vi (v3 + 1))] (lsub_cons rfl (lsub_cons rfl (lsub_cons rfl (lsub_cons rfl lsub_nil)))) ?_
          have hr_43 : ∀ j : Int, 0 ≤ j → j < v2 → 0 ≤ c_40 (A + 5) j ∧ c_40 (A + 5) j ≤ 3 := by
            intro j hj1 hj2
            have q9 : c_40 (A + 5) j = c2 (A + 5) j := (hF_42 (A + 5) j (by omega)).trans ((hF_37 (A + 5) j (by omega)).trans ((hF_26 (A + 5) j (by omega)).trans ((hF_19 (A + 5) j (by omega)).trans (hF_9 (A + 5) j (by omega)))))
            rw [q9]
            exact hx0 j hj1 (by omega)
          exact ih c_40 v2 (v3 + 1) hI_41 (fun a j hm => (hF_42 a j (by omega)).trans ((hF_37 a j (by omega)).trans ((hF_26 a j (by omega)).trans ((hF_19 a j (by omega)).trans ((hF_9 a j (by omega)).trans (hF a j (by omega))))))) ⟨by omega, by omega⟩ ⟨by omega, by omega⟩ hr_43 (by omega) (by omega)
set_option maxRecDepth 100000 in
set_option maxHeartbeats 4000000 in
theorem s_35 {sc : List Int32} {e : Int} {d u P Q A : Nat} {c : ME} {Z : AR → Prop} (hI : Iv u e P Q c) (hA : A = 13 ∨ A = 25) (K : ∀ (c2 : ME), Iv u e P Q c2 → (∀ (a : Nat) (j : Int), ¬ ((a = 1 ∧ j = 2) ∨ (a = 1 ∧ j = 4) ∨ (a = 1 ∧ j = 5) ∨ (a = A ∧ j = 4) ∨ a = (A + 4) ∨ a = (A + 5)) → c2 a j = c a j) → Z (.inl (none), Wd P Q P P c2, 0, 0)) : Wp sc (d + 10) 35 0 [(0, .ref A), (1, .ref 1)] [] (Wd P Q P P c) 0 0 Z := by
  have hP := iv_P hI
  have hQ := iv_Q hI
  refine q_iconst rfl ?_
  refine q_istore_n rfl (by decide) ?_
  refine q_iconst rfl ?_
  refine q_istore_n rfl (by decide) ?_
  refine Wp_ls [(0, .ref A), (1, .ref 1), (2, vi 0), (3, vi 0)] (lsub_cons rfl (lsub_cons rfl (lsub_cons rfl (lsub_cons rfl lsub_nil)))) ?_
  have hr_44 : ∀ j : Int, 0 ≤ j → j < 0 → 0 ≤ c (A + 5) j ∧ c (A + 5) j ≤ 3 := by
    intro j hj1 hj2
    omega
  exact (s_35_l (sc := sc) (d := d) hI hA K 22) c 0 0 hI (fun a j hm => rfl) ⟨by decide, by decide⟩ ⟨by decide, by decide⟩ hr_44 (by omega) (by omega)

set_option maxRecDepth 100000 in
set_option maxHeartbeats 4000000 in
theorem s_36_l {sc : List Int32} {e : Int} {d u P Q A : Nat} {c : ME} {Z : AR → Prop} (hI : Iv u e P Q c) (hA : A = 13 ∨ A = 25) (K : ∀ (c2 : ME), Iv u e P Q c2 → (∀ (a : Nat) (j : Int), ¬ ((a = 1 ∧ j = 2) ∨ (a = 1 ∧ j = 4) ∨ (a = 1 ∧ j = 5) ∨ (a = A ∧ j = 5) ∨ a = (A + 5) ∨ a = (A + 6)) → c2 a j = c a j) → Z (.inl (none), Wd P Q P P c2, 0, 0)) : ∀ n : Nat, (∀ (c2 : ME) (v2 : Int), Iv u e P Q c2 → (∀ (a : Nat) (j : Int), ¬ ((a = 1 ∧ j = 2) ∨ (a = 1 ∧ j = 4) ∨ (a = 1 ∧ j = 5) ∨ (a = A ∧ j = 5) ∨ a = (A + 5) ∨ a = (A + 6)) → c2 a j = c a j) → 0 ≤ v2 ∧ v2 ≤ 4 → 22 - 2 * v2 < (n : Int) → Wp sc (d + 10) 36 2 [(0, .ref A), (1, .ref 1), (2, vi v2)] [] (Wd P Q P P c2) 0 0 Z) ∧ (∀ (c2 : ME) (v2 : Int) (v3 : Int), Iv u e P Q c2 → (∀ (a : Nat) (j : Int), ¬ ((a = 1 ∧ j = 2) ∨ (a = 1 ∧ j = 4) ∨ (a = 1 ∧ j = 5) ∨ (a = A ∧ j = 5) ∨ a = (A + 5) ∨ a = (A + 6)) → c2 a j = c a j) → 0 ≤ v2 ∧ v2 ≤ 5 → 0 ≤ v3 ∧ v3 ≤ 5 → 11 - 2 * v3 < (n : Int) → Wp sc (d + 10) 36 24 [(0, .ref A), (1, .ref 1), (2, vi v2), (3, vi v3)] [] (Wd P Q P P c2) 0 0 Z)
  | 0 => by exact ⟨by (intro c2 v2 hI2 hF hv2 hm9; have hP := iv_P hI; have hQ := iv_Q hI; exfalso; omega), by (intro c2 v2 v3 hI2 hF hv2 hv3 hm9; have hP := iv_P hI; have hQ := iv_Q hI; exfalso; omega)⟩
  | n + 1 => by
    have hP := iv_P hI
    have hQ := iv_Q hI
    have ih := s_36_l (sc := sc) (d := d) hI hA K n
    refine ⟨?_, ?_⟩
    · skip
      intro c2 v2 hI2 hF hv2 hm9
      refine q_iload_n rfl rfl ?_
      refine q_iconst rfl ?_
      by_cases h_1 : v2 ≥ 4
      · refine v_ic_ge_t (t := 20) rfl (by decide) (by omega) ?_
        refine q_iconst rfl ?_
        refine q_istore_n rfl (by decide) ?_
        refine q_iconst rfl ?_
        refine q_istore_n rfl (by decide) ?_
        refine Wp_ls [(0, .ref A), (1, .ref 1), (2, vi 0), (3, vi 0)] (lsub_cons rfl (lsub_cons rfl (lsub_cons rfl (lsub_cons rfl lsub_nil)))) ?_
        exact ih.2 c2 0 0 hI2 (fun a j hm => hF a j (by omega)) ⟨by decide, by decide⟩ ⟨by decide, by decide⟩ (by omega)
      · refine v_ic_ge_f (t := 20) rfl (by decide) (by omega) ?_
        refine q_aload_n rfl rfl ?_
        refine v_gr (t := (A + 5)) rfl rfl (ck_p0 hA) (by omega) rfl ?_
        refine q_iload_n rfl rfl ?_
        refine q_iconst rfl ?_
        refine v_is rfl (ck_p5 hA) (by omega) (by decide) (by omega) ?_
        refine v_iinc (v := v2 + 1) rfl rfl (by decide) (by omega) ?_
        refine q_goto (t := 2) rfl (by decide) ?_
        have hI_2 := iw_p5 (j := v2) (v := (-1)) hI2 hA ⟨by decide, by decide⟩
        refine Wp_ls [(0, .ref A), (1, .ref 1), (2, vi (v2 + 1))] (lsub_cons rfl (lsub_cons rfl (lsub_cons rfl lsub_nil))) ?_
        exact ih.1 (up c2 (A + 5) v2 (-1)) (v2 + 1) hI_2 (fun a j hm => (up_b (by omega)).trans (hF a j (by omega))) ⟨by omega, by omega⟩ (by omega)
    · skip
      intro c2 v2 v3 hI2 hF hv2 hv3 hm9
      refine q_iload_n rfl rfl ?_
      refine q_iconst rfl ?_
      by_cases h_3 : v3 > 4
      · refine v_ic_gt_t (t := 97) rfl (by decide) (by omega) ?_
        refine q_aload_n rfl rfl ?_
        refine v_cv rfl rfl rfl rfl (by decide) ⟨⟨rfl, rfl⟩, by decide, rfl⟩ (Nat.le_of_ble_eq_true rfl) (Nat.le_of_ble_eq_true rfl) ?_
        refine q_aload_n rfl rfl ?_
        have h_4 := ir_1_4 hI2
        refine v_gi (z := 4) (v := c2 1 4) rfl rfl rfl (by decide) rfl rfl rfl ?_
        by_cases h_5 : c2 1 4 ≠ 0
        · refine v_if_ne_t (t := 11) rfl (by decide) (by omega) ?_
          refine q_iconst rfl ?_
          refine v_zret rfl rfl (by omega) ?_
          refine bk_inl ?_
          refine v_if_eq_t (t := 123) rfl (by decide) (by decide) ?_
          refine q_vret rfl rfl ?_
          exact K c2 hI2 (fun a j hm => hF a j (by omega))
        · refine v_if_ne_f (t := 11) rfl (by decide) (by omega) ?_
          refine q_iconst rfl ?_
          refine q_goto (t := 12) rfl (by decide) ?_
          refine v_zret rfl rfl (by omega) ?_
          refine bk_inl ?_
          refine v_if_eq_f (t := 123) rfl (by decide) (by decide) ?_
          refine q_aload_n rfl rfl ?_
          refine v_gr (t := (A + 5)) rfl rfl (ck_p0 hA) (by omega) rfl ?_
          refine q_iconst rfl ?_
          refine q_aload_n rfl rfl ?_
          refine v_gr (t := (A + 6)) rfl rfl (ck_p0 hA) (by omega) rfl ?_
          refine q_iconst rfl ?_
          refine q_iconst rfl ?_
          refine v_cpy rfl rfl (ck_p6 hA) (by omega) (ck_p5 hA) (by omega) rfl rfl (by omega) (Nat.le_of_ble_eq_true rfl) (by omega) ?_
          refine q_aload_n rfl rfl ?_
          refine q_iload_n rfl rfl ?_
          refine v_pi (z := 5) rfl rfl (ck_p0 hA) (by omega) rfl rfl rfl (by decide) ?_
          refine q_vret rfl rfl ?_
          have hI_6 := cp_p5_p6 (n := 4) hI2 hA
          have hI_7 := iw_p0_5 (v := v2) hI_6 hA ⟨by omega, by omega⟩
          exact K (up (upc c2 (A + 5) 0 (A + 6) 0 4) A 5 v2) hI_7 (fun a j hm => (up_b (by omega)).trans ((upc_c (by omega)).trans (hF a j (by omega))))
      · refine v_ic_gt_f (t := 97) rfl (by decide) (by omega) ?_
        refine q_aload_n rfl rfl ?_
        refine v_cv rfl rfl rfl rfl (by decide) ⟨⟨rfl, rfl⟩, by decide, rfl⟩ (Nat.le_of_ble_eq_true rfl) (Nat.le_of_ble_eq_true rfl) (s_15 hI2 (fun c_8 y_11 hI_9 hF_10 hy_11 => ?_))
        refine bk_inl ?_
        by_cases h_12 : y_11 = 0
        · refine v_if_eq_t (t := 97) rfl (by decide) (by omega) ?_
          refine q_aload_n rfl rfl ?_
          refine v_cv rfl rfl rfl rfl (by decide) ⟨⟨rfl, rfl⟩, by decide, rfl⟩ (Nat.le_of_ble_eq_true rfl) (Nat.le_of_ble_eq_true rfl) ?_
          refine q_aload_n rfl rfl ?_
          have h_13 := ir_1_4 hI2
          refine v_gi (z := 4) (v := c2 1 4) rfl rfl rfl (by decide) rfl rfl (hF_10 1 4 (by omega)) ?_
          by_cases h_14 : c2 1 4 ≠ 0
          · refine v_if_ne_t (t := 11) rfl (by decide) (by omega) ?_
            refine q_iconst rfl ?_
            refine v_zret rfl rfl (by omega) ?_
            refine bk_inl ?_
            refine v_if_eq_t (t := 123) rfl (by decide) (by decide) ?_
            refine q_vret rfl rfl ?_
            exact K c_8 hI_9 (fun a j hm => (hF_10 a j (by omega)).trans (hF a j (by omega)))
          · refine v_if_ne_f (t := 11) rfl (by decide) (by omega) ?_
            refine q_iconst rfl ?_
            refine q_goto (t := 12) rfl (by decide) ?_
            refine v_zret rfl rfl (by omega) ?_
            refine bk_inl ?_
            refine v_if_eq_f (t := 123) rfl (by decide) (by decide) ?_
            refine q_aload_n rfl rfl ?_
            refine v_gr (t := (A + 5)) rfl rfl (ck_p0 hA) (by omega) rfl ?_
            refine q_iconst rfl ?_
            refine q_aload_n rfl rfl ?_
            refine v_gr (t := (A + 6)) rfl rfl (ck_p0 hA) (by omega) rfl ?_
            refine q_iconst rfl ?_
            refine q_iconst rfl ?_
            refine v_cpy rfl rfl (ck_p6 hA) (by omega) (ck_p5 hA) (by omega) rfl rfl (by omega) (Nat.le_of_ble_eq_true rfl) (by omega) ?_
            refine q_aload_n rfl rfl ?_
            refine q_iload_n rfl rfl ?_
            refine v_pi (z := 5) rfl rfl (ck_p0 hA) (by omega) rfl rfl rfl (by decide) ?_
            refine q_vret rfl rfl ?_
            have hI_15 := cp_p5_p6 (n := 4) hI_9 hA
            have hI_16 := iw_p0_5 (v := v2) hI_15 hA ⟨by omega, by omega⟩
            exact K (up (upc c_8 (A + 5) 0 (A + 6) 0 4) A 5 v2) hI_16 (fun a j hm => (up_b (by omega)).trans ((upc_c (by omega)).trans ((hF_10 a j (by omega)).trans (hF a j (by omega)))))
        · refine v_if_eq_f (t := 97) rfl (by decide) (by omega) ?_
          refine q_aload_n rfl rfl ?_
          refine v_cv rfl rfl rfl rfl (by decide) ⟨⟨rfl, rfl⟩, by decide, rfl⟩ (Nat.le_of_ble_eq_true rfl) (Nat.le_of_ble_eq_true rfl) (s_3 hI_9 (fun c_17 y_20 hI_18 hF_19 hy_20 h_21 => ?_))
          refine bk_inl ?_
          have h_22 := ir_1_2 hI_18
          refine q_istore rfl (by decide) ?_
          refine q_aload_n rfl rfl ?_
          refine q_iconst rfl ?_
          refine v_cv rfl rfl rfl rfl (by decide) ⟨⟨rfl, rfl⟩, by decide, rfl⟩ (Nat.le_of_ble_eq_true rfl) (Nat.le_of_ble_eq_true rfl) (s_8 (a1 := 3) hI_18 (show (-1) ≤ 3 ∧ 3 ≤ 9999 from by omega) (fun c_23 y_26 hI_24 hF_25 hy_26 h_27 => ?_))
          refine bk_inl ?_
          refine q_istore rfl (by decide) ?_
          refine q_aload_n rfl rfl ?_
          refine v_gr (t := (A + 5)) rfl rfl (ck_p0 hA) (by omega) rfl ?_
          refine q_iload rfl rfl ?_
          have h_28 := ir_p5 hI2 hA y_26
          refine v_ia (v := c2 (A + 5) y_26) rfl (ck_p5 hA) (by omega) (by decide) (by omega) ((hF_25 (A + 5) y_26 (by omega)).trans ((hF_19 (A + 5) y_26 (by omega)).trans (hF_10 (A + 5) y_26 (by omega)))) ?_
          refine q_iconst rfl ?_
          by_cases h_29 : c2 (A + 5) y_26 = (-1)
          · refine v_ic_eq_t (t := 67) rfl (by decide) (by omega) ?_
            refine q_aload_n rfl rfl ?_
            refine v_gr (t := (A + 5)) rfl rfl (ck_p0 hA) (by omega) rfl ?_
            refine q_iload rfl rfl ?_
            refine q_aload_n rfl rfl ?_
            refine v_sip rfl (by decide) ?_
            refine v_cv rfl rfl rfl rfl (by decide) ⟨⟨rfl, rfl⟩, by decide, rfl⟩ (Nat.le_of_ble_eq_true rfl) (Nat.le_of_ble_eq_true rfl) (s_8 (a1 := 9999) hI_24 (show (-1) ≤ 9999 ∧ 9999 ≤ 9999 from by omega) (fun c_30 y_33 hI_31 hF_32 hy_33 h_34 => ?_))
            refine bk_inl ?_
            refine v_is rfl (ck_p5 hA) (by omega) (by decide) (by omega) ?_
            refine q_aload_n rfl rfl ?_
            refine q_ldc_s rfl rfl rfl (by decide) ?_
            have hI_35 := iw_p5 (j := y_26) (v := y_33) hI_31 hA ⟨by omega, by omega⟩
            refine v_cv rfl rfl rfl rfl (by decide) ⟨⟨rfl, rfl⟩, by decide, rfl⟩ (Nat.le_of_ble_eq_true rfl) (Nat.le_of_ble_eq_true rfl) (s_11 hI_35 (q := 9) (nt := 1) (by decide) (by decide) (by decide) (fun c_36 hI_37 hF_38 => ?_))
            refine bk_inl ?_
            refine q_iload_n rfl rfl ?_
            refine q_iconst rfl ?_
            refine v_iadd (v := v3 + 1) rfl (by omega) ?_
            refine q_istore_n rfl (by decide) ?_
            refine v_iinc (v := v3 + 1) rfl rfl (by decide) (by omega) ?_
            refine q_goto (t := 24) rfl (by decide) ?_
            refine Wp_ls [(0, .ref A), (1, .ref 1), (2, vi (v3 + 1)), (3, vi (v3 + 1))] (lsub_cons rfl (lsub_cons rfl (lsub_cons rfl (lsub_cons rfl lsub_nil)))) ?_
            exact ih.2 c_36 (v3 + 1) (v3 + 1) hI_37 (fun a j hm => (hF_38 a j (by omega)).trans ((up_b (by omega)).trans ((hF_32 a j (by omega)).trans ((hF_25 a j (by omega)).trans ((hF_19 a j (by omega)).trans ((hF_10 a j (by omega)).trans (hF a j (by omega)))))))) ⟨by omega, by omega⟩ ⟨by omega, by omega⟩ (by omega)
          · refine v_ic_eq_f (t := 67) rfl (by decide) (by omega) ?_
            refine q_aload_n rfl rfl ?_
            refine q_iconst rfl ?_
            refine q_iload rfl rfl ?_
            refine v_cv rfl rfl rfl rfl (by decide) ⟨⟨rfl, rfl⟩, by decide, rfl⟩ (Nat.le_of_ble_eq_true rfl) (Nat.le_of_ble_eq_true rfl) (s_7 (a1 := 2) (a2 := y_20) hI_24 (show 1 ≤ 2 ∧ 2 ≤ 3 from by omega) (show 0 ≤ y_20 ∧ y_20 ≤ 600 from by omega) (fun c_39 hI_40 hF_41 h_42 => ?_))
            refine bk_inl ?_
            have h_43 := ir_1_4 hI_40
            refine q_aload_n rfl rfl ?_
            refine v_gr (t := (A + 5)) rfl rfl (ck_p0 hA) (by omega) rfl ?_
            refine q_iload rfl rfl ?_
            refine q_aload_n rfl rfl ?_
            refine v_sip rfl (by decide) ?_
            refine v_cv rfl rfl rfl rfl (by decide) ⟨⟨rfl, rfl⟩, by decide, rfl⟩ (Nat.le_of_ble_eq_true rfl) (Nat.le_of_ble_eq_true rfl) (s_8 (a1 := 9999) hI_40 (show (-1) ≤ 9999 ∧ 9999 ≤ 9999 from by omega) (fun c_44 y_47 hI_45 hF_46 hy_47 h_48 => ?_))
            refine bk_inl ?_
            refine v_is rfl (ck_p5 hA) (by omega) (by decide) (by omega) ?_
            refine q_aload_n rfl rfl ?_
            refine q_ldc_s rfl rfl rfl (by decide) ?_
            have hI_49 := iw_p5 (j := y_26) (v := y_47) hI_45 hA ⟨by omega, by omega⟩
            refine v_cv rfl rfl rfl rfl (by decide) ⟨⟨rfl, rfl⟩, by decide, rfl⟩ (Nat.le_of_ble_eq_true rfl) (Nat.le_of_ble_eq_true rfl) (s_11 hI_49 (q := 9) (nt := 1) (by decide) (by decide) (by decide) (fun c_50 hI_51 hF_52 => ?_))
            refine bk_inl ?_
            refine q_iload_n rfl rfl ?_
            refine q_iconst rfl ?_
            refine v_iadd (v := v3 + 1) rfl (by omega) ?_
            refine q_istore_n rfl (by decide) ?_
            refine v_iinc (v := v3 + 1) rfl rfl (by decide) (by omega) ?_
            refine q_goto (t := 24) rfl (by decide) ?_
            refine Wp_ls [(0, .ref A), (1, .ref 1), (2, vi (v3 + 1)), (3, vi (v3 + 1))] (lsub_cons rfl (lsub_cons rfl (lsub_cons rfl (lsub_cons rfl lsub_nil)))) ?_
            exact ih.2 c_50 (v3 + 1) (v3 + 1) hI_51 (fun a j hm => (hF_52 a j (by omega)).trans ((up_b (by omega)).trans ((hF_46 a j (by omega)).trans ((hF_41 a j (by omega)).trans ((hF_25 a j (by omega)).trans ((hF_19 a j (by omega)).trans ((hF_10 a j (by omega)).trans (hF a j (by omega))))))))) ⟨by omega, by omega⟩ ⟨by omega, by omega⟩ (by omega)
set_option maxRecDepth 100000 in
set_option maxHeartbeats 4000000 in
theorem s_36 {sc : List Int32} {e : Int} {d u P Q A : Nat} {c : ME} {Z : AR → Prop} (hI : Iv u e P Q c) (hA : A = 13 ∨ A = 25) (K : ∀ (c2 : ME), Iv u e P Q c2 → (∀ (a : Nat) (j : Int), ¬ ((a = 1 ∧ j = 2) ∨ (a = 1 ∧ j = 4) ∨ (a = 1 ∧ j = 5) ∨ (a = A ∧ j = 5) ∨ a = (A + 5) ∨ a = (A + 6)) → c2 a j = c a j) → Z (.inl (none), Wd P Q P P c2, 0, 0)) : Wp sc (d + 10) 36 0 [(0, .ref A), (1, .ref 1)] [] (Wd P Q P P c) 0 0 Z := by
  have hP := iv_P hI
  have hQ := iv_Q hI
  refine q_iconst rfl ?_
  refine q_istore_n rfl (by decide) ?_
  refine Wp_ls [(0, .ref A), (1, .ref 1), (2, vi 0)] (lsub_cons rfl (lsub_cons rfl (lsub_cons rfl lsub_nil))) ?_
  exact (s_36_l (sc := sc) (d := d) hI hA K 25).1 c 0 hI (fun a j hm => rfl) ⟨by decide, by decide⟩ (by omega)

set_option maxRecDepth 100000 in
set_option maxHeartbeats 4000000 in
theorem s_38 {sc : List Int32} {e : Int} {d u P Q : Nat} {c : ME} {Z : AR → Prop} (hI : Iv u e P Q c)  (K : ∀ (c2 : ME) (y : Int), Iv u e P Q c2 → (∀ (a : Nat) (j : Int), ¬ ((a = 1 ∧ j = 2) ∨ (a = 1 ∧ j = 4) ∨ (a = 1 ∧ j = 5)) → c2 a j = c a j) → 0 ≤ y ∧ y ≤ 999 → Z (.inl (some (vi y)), Wd P Q P P c2, 0, 0)) : Wp sc (d + 10) 38 0 [(0, .ref 1)] [] (Wd P Q P P c) 0 0 Z := by
  have hP := iv_P hI
  have hQ := iv_Q hI
  refine q_aload_n rfl rfl ?_
  refine v_cv rfl rfl rfl rfl (by decide) ⟨⟨rfl, rfl⟩, by decide, rfl⟩ (Nat.le_of_ble_eq_true rfl) (Nat.le_of_ble_eq_true rfl) (s_3 hI (fun c_1 y_4 hI_2 hF_3 hy_4 h_5 => ?_))
  refine bk_inl ?_
  have h_6 := ir_1_2 hI_2
  refine q_istore_n rfl (by decide) ?_
  refine q_aload_n rfl rfl ?_
  refine v_sip rfl (by decide) ?_
  refine v_cv rfl rfl rfl rfl (by decide) ⟨⟨rfl, rfl⟩, by decide, rfl⟩ (Nat.le_of_ble_eq_true rfl) (Nat.le_of_ble_eq_true rfl) (s_8 (a1 := 999) hI_2 (show (-1) ≤ 999 ∧ 999 ≤ 9999 from by omega) (fun c_7 y_10 hI_8 hF_9 hy_10 h_11 => ?_))
  refine bk_inl ?_
  refine q_istore_n rfl (by decide) ?_
  refine q_iload_n rfl rfl ?_
  by_cases h_12 : y_10 ≠ 0
  · refine v_if_ne_t (t := 23) rfl (by decide) (by omega) ?_
    refine q_iload_n rfl rfl ?_
    refine q_iret rfl rfl ?_
    exact K c_7 y_10 hI_8 (fun a j hm => (hF_9 a j (by omega)).trans (hF_3 a j (by omega))) ⟨by omega, by omega⟩
  · refine v_if_ne_f (t := 23) rfl (by decide) (by omega) ?_
    refine q_aload_n rfl rfl ?_
    refine q_iconst rfl ?_
    refine q_iload_n rfl rfl ?_
    refine v_cv rfl rfl rfl rfl (by decide) ⟨⟨rfl, rfl⟩, by decide, rfl⟩ (Nat.le_of_ble_eq_true rfl) (Nat.le_of_ble_eq_true rfl) (s_7 (a1 := 2) (a2 := y_4) hI_8 (show 1 ≤ 2 ∧ 2 ≤ 3 from by omega) (show 0 ≤ y_4 ∧ y_4 ≤ 600 from by omega) (fun c_13 hI_14 hF_15 h_16 => ?_))
    refine bk_inl ?_
    have h_17 := ir_1_4 hI_14
    refine q_iload_n rfl rfl ?_
    refine q_iret rfl rfl ?_
    exact K c_13 y_10 hI_14 (fun a j hm => (hF_15 a j (by omega)).trans ((hF_9 a j (by omega)).trans (hF_3 a j (by omega)))) ⟨by omega, by omega⟩

set_option maxRecDepth 100000 in
set_option maxHeartbeats 4000000 in
theorem s_39 {sc : List Int32} {e : Int} {d u P Q : Nat} {c : ME} {Z : AR → Prop} (hI : Iv u e P Q c)  (K : ∀ (c2 : ME) (y : Int), Iv u e P Q c2 → (∀ (a : Nat) (j : Int), ¬ ((a = 1 ∧ j = 2)) → c2 a j = c a j) → (-1) ≤ y ∧ y ≤ 255 → Z (.inl (some (vi y)), Wd P Q P P c2, 0, 0)) : Wp sc (d + 8) 39 0 [(0, .ref 1)] [] (Wd P Q P P c) 0 0 Z := by
  have hP := iv_P hI
  have hQ := iv_Q hI
  refine q_aload_n rfl rfl ?_
  refine v_cv rfl rfl rfl rfl (by decide) ⟨⟨rfl, rfl⟩, by decide, rfl⟩ (Nat.le_of_ble_eq_true rfl) (Nat.le_of_ble_eq_true rfl) (s_3 hI (fun c_1 y_4 hI_2 hF_3 hy_4 h_5 => ?_))
  refine bk_inl ?_
  have h_6 := ir_1_2 hI_2
  refine q_aload_n rfl rfl ?_
  have h_7 := ir_1_1 hI
  refine v_gi (z := 1) (v := c 1 1) rfl rfl rfl (by decide) rfl rfl (hF_3 1 1 (by omega)) ?_
  by_cases h_8 : y_4 ≥ c 1 1
  · refine v_ic_ge_t (t := 27) rfl (by decide) (by omega) ?_
    refine q_iconst rfl ?_
    refine q_iret rfl rfl ?_
    exact K c_1 (-1) hI_2 (fun a j hm => hF_3 a j (by omega)) ⟨by decide, by decide⟩
  · refine v_ic_ge_f (t := 27) rfl (by decide) (by omega) ?_
    refine q_aload_n rfl rfl ?_
    refine v_gr (t := 2) rfl rfl rfl (by decide) rfl ?_
    refine q_aload_n rfl rfl ?_
    refine v_gi (z := 2) (v := c_1 1 2) rfl rfl rfl (by decide) rfl rfl rfl ?_
    have h_9 := ir_2 hI (c_1 1 2)
    refine v_ba (v := c 2 (c_1 1 2)) rfl rfl (by decide) (by decide) (by omega) (hF_3 2 (c_1 1 2) (by omega)) ?_
    refine v_sip rfl (by decide) ?_
    refine v_and8 (v := ((c 2 (c_1 1 2)) % 256)) rfl rfl ?_
    refine q_goto (t := 28) rfl (by decide) ?_
    refine q_iret rfl rfl ?_
    exact K c_1 ((c 2 (c_1 1 2)) % 256) hI_2 (fun a j hm => hF_3 a j (by omega)) ⟨by omega, by omega⟩

set_option maxRecDepth 100000 in
set_option maxHeartbeats 4000000 in
theorem s_40 {sc : List Int32} {d u P Q : Nat} {c : ME} {t : Int} {a4 : Int} {Z : AR → Prop} (hI : Iv u t P Q c) (ht : 0 ≤ t ∧ t ≤ 37) (ha4 : 0 ≤ a4 ∧ a4 ≤ 6) (hq0 : (t + 1 ≤ c 7 2)) (hq1 : (a4 ≤ 5) ∨ (c 8 (5 * t) < 7) ∨ (c 8 (5 * t) > 7)) (H41 : ∀ (c : ME) (Z : AR → Prop), a4 + 1 ≤ 6 → Iv u (-1) P Q c → (∀ c2 : ME, Iv u (-1) P Q c2 → (∀ (a : Nat) (j : Int), ¬ ((a = 1 ∧ j = 2) ∨ (a = 1 ∧ j = 4) ∨ (a = 1 ∧ j = 5) ∨ (a = 7 ∧ j = 2) ∨ (a = 8 ∧ j ≥ 5 * c 7 2)) → c2 a j = c a j) → (c2 7 2 ≥ c 7 2) → Z (.inl none, Wd P Q P P c2, 0, 0)) → Wp sc (d + 10) 41 0 [(0, .ref 7), (1, .ref 1), (2, .ref P), (3, vi (a4 + 1))] [] (Wd P Q P P c) 0 0 Z) (K : ∀ (c2 : ME), Iv u (-1) P Q c2 → (∀ (a : Nat) (j : Int), ¬ ((a = 1 ∧ j = 2) ∨ (a = 1 ∧ j = 4) ∨ (a = 1 ∧ j = 5) ∨ (a = 7 ∧ j = 2) ∨ (a = 8 ∧ j ≥ 5 * t)) → c2 a j = c a j) → ((c2 7 2 ≥ c 7 2)) → Z (.inl (none), Wd P Q P P c2, 0, 0)) : Wp sc (d + 11) 40 0 [(0, .ref 7), (1, .ref 1), (2, .ref P), (3, vi (5 * t)), (4, vi a4)] [] (Wd P Q P P c) 0 0 Z := by
  have hP := iv_P hI
  have hQ := iv_Q hI
  have h_1 := ir_7_2 hI
  have h_2 := ir_8 hI (5 * t)
  refine q_aload_n rfl rfl ?_
  refine v_gr (t := 8) rfl rfl rfl (by decide) rfl ?_
  refine q_iload_n rfl rfl ?_
  refine v_ia (v := c 8 (5 * t)) rfl rfl (by decide) (by decide) (by omega) rfl ?_
  by_cases h_3 : c 8 (5 * t) = 0
  · skip
    refine v_tsw_i (t := 52) 0 rfl (by omega) (by decide) rfl (by decide) ?_
    refine q_aload_n rfl rfl ?_
    refine v_gr (t := 8) rfl rfl rfl (by decide) rfl ?_
    refine q_iload_n rfl rfl ?_
    refine q_iconst rfl ?_
    refine v_iadd (v := 5 * t + 1) rfl (by omega) ?_
    refine q_aload_n rfl rfl ?_
    refine q_aload_n rfl rfl ?_
    have h_4 := ir_p0_1 hI hP
    refine v_gi (z := 1) (v := c P 1) rfl rfl (ck_p0 hP) (by omega) rfl rfl rfl ?_
    refine q_iconst rfl ?_
    refine v_isub (v := c P 1 - 1) rfl (by omega) ?_
    refine v_cv rfl rfl rfl rfl (by decide) ⟨⟨rfl, rfl⟩, by decide, rfl⟩ (Nat.le_of_ble_eq_true rfl) (Nat.le_of_ble_eq_true rfl) (s_8 (a1 := c P 1 - 1) hI (show (-1) ≤ c P 1 - 1 ∧ c P 1 - 1 ≤ 9999 from by omega) (fun c_5 y_8 hI_6 hF_7 hy_8 h_9 => ?_))
    refine bk_inl ?_
    refine v_is rfl rfl (by decide) (by decide) (by omega) ?_
    refine q_aload_n rfl rfl ?_
    refine v_gr (t := 8) rfl rfl rfl (by decide) rfl ?_
    refine q_iload_n rfl rfl ?_
    refine q_iconst rfl ?_
    refine v_iadd (v := 5 * t + 2) rfl (by omega) ?_
    refine q_aload_n rfl rfl ?_
    refine q_aload_n rfl rfl ?_
    have h_10 := ir_p0_0 hI hP
    refine v_gi (z := 0) (v := c P 0) rfl rfl (ck_p0 hP) (by omega) rfl rfl ((up_c (by omega)).trans (hF_7 P 0 (by omega))) ?_
    refine q_iconst rfl ?_
    refine v_isub (v := c P 0 - 1) rfl (by omega) ?_
    have hI_11 := iw_8 (t := t) (j := 5 * t + 1) (v := y_8) hI_6 ⟨by omega, by omega⟩ ⟨by omega, by omega⟩ (by omega)
    refine v_cv rfl rfl rfl rfl (by decide) ⟨⟨rfl, rfl⟩, by decide, rfl⟩ (Nat.le_of_ble_eq_true rfl) (Nat.le_of_ble_eq_true rfl) (s_8 (a1 := c P 0 - 1) hI_11 (show (-1) ≤ c P 0 - 1 ∧ c P 0 - 1 ≤ 9999 from by omega) (fun c_12 y_15 hI_13 hF_14 hy_15 h_16 => ?_))
    refine bk_inl ?_
    refine v_is rfl rfl (by decide) (by decide) (by omega) ?_
    refine q_goto (t := 349) rfl (by decide) ?_
    refine q_vret rfl rfl ?_
    have hI_17 := iw_8 (t := t) (j := 5 * t + 2) (v := y_15) hI_13 ⟨by omega, by omega⟩ ⟨by omega, by omega⟩ (by omega)
    have q_18 : (up c_12 8 (5 * t + 2) y_15) 8 (5 * t) = c 8 (5 * t) := ((up_n (by omega)).trans ((hF_14 8 (5 * t) (by omega)).trans ((up_n (by omega)).trans (hF_7 8 (5 * t) (by omega)))))
    have q_19 : (up c_12 8 (5 * t + 2) y_15) 8 (5 * t + 1) = y_8 := ((up_n (by omega)).trans ((hF_14 8 (5 * t + 1) (by omega)).trans (up_e rfl)))
    have q_20 : (up c_12 8 (5 * t + 2) y_15) 8 (5 * t + 2) = y_15 := (up_e rfl)
    have h_21 := ir_8 hI (5 * t + 3)
    have q_22 : (up c_12 8 (5 * t + 2) y_15) 8 (5 * t + 3) = c 8 (5 * t + 3) := ((up_n (by omega)).trans ((hF_14 8 (5 * t + 3) (by omega)).trans ((up_n (by omega)).trans (hF_7 8 (5 * t + 3) (by omega)))))
    have h_23 := ir_8 hI (5 * t + 4)
    have q_24 : (up c_12 8 (5 * t + 2) y_15) 8 (5 * t + 4) = c 8 (5 * t + 4) := ((up_n (by omega)).trans ((hF_14 8 (5 * t + 4) (by omega)).trans ((up_n (by omega)).trans (hF_7 8 (5 * t + 4) (by omega)))))
    have hI_25 : Iv u (-1) P Q (up c_12 8 (5 * t + 2) y_15) := iv_close8 (t := t) hI_17 (by unfold So; rw [q_18, q_19, q_20, q_22, q_24]; omega)
    have h_26 : (up c_12 8 (5 * t + 2) y_15) 7 2 = c 7 2 := ((up_c (by decide)).trans ((hF_14 7 2 (by omega)).trans ((up_c (by decide)).trans (hF_7 7 2 (by omega)))))
    exact K (up c_12 8 (5 * t + 2) y_15) hI_25 (fun a j hm => (up_b (by omega)).trans ((hF_14 a j (by omega)).trans ((up_b (by omega)).trans (hF_7 a j (by omega))))) (by omega)
  by_cases h_27 : c 8 (5 * t) = 1
  · skip
    refine v_tsw_i (t := 91) 1 rfl (by omega) (by decide) rfl (by decide) ?_
    refine q_aload_n rfl rfl ?_
    refine v_gr (t := 8) rfl rfl rfl (by decide) rfl ?_
    refine q_iload_n rfl rfl ?_
    refine q_iconst rfl ?_
    refine v_iadd (v := 5 * t + 1) rfl (by omega) ?_
    refine q_aload_n rfl rfl ?_
    refine q_aload_n rfl rfl ?_
    have h_28 := ir_p0_2 hI hP
    refine v_gi (z := 2) (v := c P 2) rfl rfl (ck_p0 hP) (by omega) rfl rfl rfl ?_
    refine q_iconst rfl ?_
    refine v_isub (v := c P 2 - 1) rfl (by omega) ?_
    refine v_cv rfl rfl rfl rfl (by decide) ⟨⟨rfl, rfl⟩, by decide, rfl⟩ (Nat.le_of_ble_eq_true rfl) (Nat.le_of_ble_eq_true rfl) (s_8 (a1 := c P 2 - 1) hI (show (-1) ≤ c P 2 - 1 ∧ c P 2 - 1 ≤ 9999 from by omega) (fun c_29 y_32 hI_30 hF_31 hy_32 h_33 => ?_))
    refine bk_inl ?_
    refine v_is rfl rfl (by decide) (by decide) (by omega) ?_
    refine q_aload_n rfl rfl ?_
    refine v_gr (t := 8) rfl rfl rfl (by decide) rfl ?_
    refine q_iload_n rfl rfl ?_
    refine q_iconst rfl ?_
    refine v_iadd (v := 5 * t + 2) rfl (by omega) ?_
    refine q_aload_n rfl rfl ?_
    refine q_aload_n rfl rfl ?_
    have h_34 := ir_p0_0 hI hP
    refine v_gi (z := 0) (v := c P 0) rfl rfl (ck_p0 hP) (by omega) rfl rfl ((up_c (by omega)).trans (hF_31 P 0 (by omega))) ?_
    refine q_iconst rfl ?_
    refine v_isub (v := c P 0 - 1) rfl (by omega) ?_
    have hI_35 := iw_8 (t := t) (j := 5 * t + 1) (v := y_32) hI_30 ⟨by omega, by omega⟩ ⟨by omega, by omega⟩ (by omega)
    refine v_cv rfl rfl rfl rfl (by decide) ⟨⟨rfl, rfl⟩, by decide, rfl⟩ (Nat.le_of_ble_eq_true rfl) (Nat.le_of_ble_eq_true rfl) (s_8 (a1 := c P 0 - 1) hI_35 (show (-1) ≤ c P 0 - 1 ∧ c P 0 - 1 ≤ 9999 from by omega) (fun c_36 y_39 hI_37 hF_38 hy_39 h_40 => ?_))
    refine bk_inl ?_
    refine v_is rfl rfl (by decide) (by decide) (by omega) ?_
    refine q_aload_n rfl rfl ?_
    refine v_gr (t := 8) rfl rfl rfl (by decide) rfl ?_
    refine q_iload_n rfl rfl ?_
    refine q_iconst rfl ?_
    refine v_iadd (v := 5 * t + 3) rfl (by omega) ?_
    refine q_aload_n rfl rfl ?_
    refine q_aload_n rfl rfl ?_
    refine v_gi (z := 0) (v := c P 0) rfl rfl (ck_p0 hP) (by omega) rfl rfl ((up_c (by omega)).trans ((hF_38 P 0 (by omega)).trans ((up_c (by omega)).trans (hF_31 P 0 (by omega))))) ?_
    refine q_iconst rfl ?_
    refine v_isub (v := c P 0 - 1) rfl (by omega) ?_
    have hI_41 := iw_8 (t := t) (j := 5 * t + 2) (v := y_39) hI_37 ⟨by omega, by omega⟩ ⟨by omega, by omega⟩ (by omega)
    refine v_cv rfl rfl rfl rfl (by decide) ⟨⟨rfl, rfl⟩, by decide, rfl⟩ (Nat.le_of_ble_eq_true rfl) (Nat.le_of_ble_eq_true rfl) (s_8 (a1 := c P 0 - 1) hI_41 (show (-1) ≤ c P 0 - 1 ∧ c P 0 - 1 ≤ 9999 from by omega) (fun c_42 y_45 hI_43 hF_44 hy_45 h_46 => ?_))
    refine bk_inl ?_
    refine v_is rfl rfl (by decide) (by decide) (by omega) ?_
    refine q_aload_n rfl rfl ?_
    refine v_gr (t := 8) rfl rfl rfl (by decide) rfl ?_
    refine q_iload_n rfl rfl ?_
    refine q_iconst rfl ?_
    refine v_iadd (v := 5 * t + 4) rfl (by omega) ?_
    refine q_aload_n rfl rfl ?_
    refine q_aload_n rfl rfl ?_
    refine v_gi (z := 0) (v := c P 0) rfl rfl (ck_p0 hP) (by omega) rfl rfl ((up_c (by omega)).trans ((hF_44 P 0 (by omega)).trans ((up_c (by omega)).trans ((hF_38 P 0 (by omega)).trans ((up_c (by omega)).trans (hF_31 P 0 (by omega))))))) ?_
    refine q_iconst rfl ?_
    refine v_isub (v := c P 0 - 1) rfl (by omega) ?_
    have hI_47 := iw_8 (t := t) (j := 5 * t + 3) (v := y_45) hI_43 ⟨by omega, by omega⟩ ⟨by omega, by omega⟩ (by omega)
    refine v_cv rfl rfl rfl rfl (by decide) ⟨⟨rfl, rfl⟩, by decide, rfl⟩ (Nat.le_of_ble_eq_true rfl) (Nat.le_of_ble_eq_true rfl) (s_8 (a1 := c P 0 - 1) hI_47 (show (-1) ≤ c P 0 - 1 ∧ c P 0 - 1 ≤ 9999 from by omega) (fun c_48 y_51 hI_49 hF_50 hy_51 h_52 => ?_))
    refine bk_inl ?_
    refine v_is rfl rfl (by decide) (by decide) (by omega) ?_
    refine q_goto (t := 349) rfl (by decide) ?_
    refine q_vret rfl rfl ?_
    have hI_53 := iw_8 (t := t) (j := 5 * t + 4) (v := y_51) hI_49 ⟨by omega, by omega⟩ ⟨by omega, by omega⟩ (by omega)
    have q_54 : (up c_48 8 (5 * t + 4) y_51) 8 (5 * t) = c 8 (5 * t) := ((up_n (by omega)).trans ((hF_50 8 (5 * t) (by omega)).trans ((up_n (by omega)).trans ((hF_44 8 (5 * t) (by omega)).trans ((up_n (by omega)).trans ((hF_38 8 (5 * t) (by omega)).trans ((up_n (by omega)).trans (hF_31 8 (5 * t) (by omega)))))))))
    have q_55 : (up c_48 8 (5 * t + 4) y_51) 8 (5 * t + 1) = y_32 := ((up_n (by omega)).trans ((hF_50 8 (5 * t + 1) (by omega)).trans ((up_n (by omega)).trans ((hF_44 8 (5 * t + 1) (by omega)).trans ((up_n (by omega)).trans ((hF_38 8 (5 * t + 1) (by omega)).trans (up_e rfl)))))))
    have q_56 : (up c_48 8 (5 * t + 4) y_51) 8 (5 * t + 2) = y_39 := ((up_n (by omega)).trans ((hF_50 8 (5 * t + 2) (by omega)).trans ((up_n (by omega)).trans ((hF_44 8 (5 * t + 2) (by omega)).trans (up_e rfl)))))
    have q_57 : (up c_48 8 (5 * t + 4) y_51) 8 (5 * t + 3) = y_45 := ((up_n (by omega)).trans ((hF_50 8 (5 * t + 3) (by omega)).trans (up_e rfl)))
    have q_58 : (up c_48 8 (5 * t + 4) y_51) 8 (5 * t + 4) = y_51 := (up_e rfl)
    have hI_59 : Iv u (-1) P Q (up c_48 8 (5 * t + 4) y_51) := iv_close8 (t := t) hI_53 (by unfold So; rw [q_54, q_55, q_56, q_57, q_58]; omega)
    have h_60 : (up c_48 8 (5 * t + 4) y_51) 7 2 = c 7 2 := ((up_c (by decide)).trans ((hF_50 7 2 (by omega)).trans ((up_c (by decide)).trans ((hF_44 7 2 (by omega)).trans ((up_c (by decide)).trans ((hF_38 7 2 (by omega)).trans ((up_c (by decide)).trans (hF_31 7 2 (by omega)))))))))
    exact K (up c_48 8 (5 * t + 4) y_51) hI_59 (fun a j hm => (up_b (by omega)).trans ((hF_50 a j (by omega)).trans ((up_b (by omega)).trans ((hF_44 a j (by omega)).trans ((up_b (by omega)).trans ((hF_38 a j (by omega)).trans ((up_b (by omega)).trans (hF_31 a j (by omega))))))))) (by omega)
  by_cases h_61 : c 8 (5 * t) = 2
  · skip
    refine v_tsw_i (t := 166) 2 rfl (by omega) (by decide) rfl (by decide) ?_
    refine q_aload_n rfl rfl ?_
    refine v_gr (t := 8) rfl rfl rfl (by decide) rfl ?_
    refine q_iload_n rfl rfl ?_
    refine q_iconst rfl ?_
    refine v_iadd (v := 5 * t + 1) rfl (by omega) ?_
    refine q_aload_n rfl rfl ?_
    refine q_aload_n rfl rfl ?_
    have h_62 := ir_p0_0 hI hP
    refine v_gi (z := 0) (v := c P 0) rfl rfl (ck_p0 hP) (by omega) rfl rfl rfl ?_
    refine q_iconst rfl ?_
    refine v_isub (v := c P 0 - 1) rfl (by omega) ?_
    refine v_cv rfl rfl rfl rfl (by decide) ⟨⟨rfl, rfl⟩, by decide, rfl⟩ (Nat.le_of_ble_eq_true rfl) (Nat.le_of_ble_eq_true rfl) (s_8 (a1 := c P 0 - 1) hI (show (-1) ≤ c P 0 - 1 ∧ c P 0 - 1 ≤ 9999 from by omega) (fun c_63 y_66 hI_64 hF_65 hy_66 h_67 => ?_))
    refine bk_inl ?_
    refine v_is rfl rfl (by decide) (by decide) (by omega) ?_
    refine q_aload_n rfl rfl ?_
    refine v_gr (t := 8) rfl rfl rfl (by decide) rfl ?_
    refine q_iload_n rfl rfl ?_
    refine q_iconst rfl ?_
    refine v_iadd (v := 5 * t + 2) rfl (by omega) ?_
    refine q_aload_n rfl rfl ?_
    refine q_aload_n rfl rfl ?_
    refine v_gi (z := 0) (v := c P 0) rfl rfl (ck_p0 hP) (by omega) rfl rfl ((up_c (by omega)).trans (hF_65 P 0 (by omega))) ?_
    refine q_iconst rfl ?_
    refine v_isub (v := c P 0 - 1) rfl (by omega) ?_
    have hI_68 := iw_8 (t := t) (j := 5 * t + 1) (v := y_66) hI_64 ⟨by omega, by omega⟩ ⟨by omega, by omega⟩ (by omega)
    refine v_cv rfl rfl rfl rfl (by decide) ⟨⟨rfl, rfl⟩, by decide, rfl⟩ (Nat.le_of_ble_eq_true rfl) (Nat.le_of_ble_eq_true rfl) (s_8 (a1 := c P 0 - 1) hI_68 (show (-1) ≤ c P 0 - 1 ∧ c P 0 - 1 ≤ 9999 from by omega) (fun c_69 y_72 hI_70 hF_71 hy_72 h_73 => ?_))
    refine bk_inl ?_
    refine v_is rfl rfl (by decide) (by decide) (by omega) ?_
    refine q_goto (t := 349) rfl (by decide) ?_
    refine q_vret rfl rfl ?_
    have hI_74 := iw_8 (t := t) (j := 5 * t + 2) (v := y_72) hI_70 ⟨by omega, by omega⟩ ⟨by omega, by omega⟩ (by omega)
    have q_75 : (up c_69 8 (5 * t + 2) y_72) 8 (5 * t) = c 8 (5 * t) := ((up_n (by omega)).trans ((hF_71 8 (5 * t) (by omega)).trans ((up_n (by omega)).trans (hF_65 8 (5 * t) (by omega)))))
    have q_76 : (up c_69 8 (5 * t + 2) y_72) 8 (5 * t + 1) = y_66 := ((up_n (by omega)).trans ((hF_71 8 (5 * t + 1) (by omega)).trans (up_e rfl)))
    have q_77 : (up c_69 8 (5 * t + 2) y_72) 8 (5 * t + 2) = y_72 := (up_e rfl)
    have h_78 := ir_8 hI (5 * t + 3)
    have q_79 : (up c_69 8 (5 * t + 2) y_72) 8 (5 * t + 3) = c 8 (5 * t + 3) := ((up_n (by omega)).trans ((hF_71 8 (5 * t + 3) (by omega)).trans ((up_n (by omega)).trans (hF_65 8 (5 * t + 3) (by omega)))))
    have h_80 := ir_8 hI (5 * t + 4)
    have q_81 : (up c_69 8 (5 * t + 2) y_72) 8 (5 * t + 4) = c 8 (5 * t + 4) := ((up_n (by omega)).trans ((hF_71 8 (5 * t + 4) (by omega)).trans ((up_n (by omega)).trans (hF_65 8 (5 * t + 4) (by omega)))))
    have hI_82 : Iv u (-1) P Q (up c_69 8 (5 * t + 2) y_72) := iv_close8 (t := t) hI_74 (by unfold So; rw [q_75, q_76, q_77, q_79, q_81]; omega)
    have h_83 : (up c_69 8 (5 * t + 2) y_72) 7 2 = c 7 2 := ((up_c (by decide)).trans ((hF_71 7 2 (by omega)).trans ((up_c (by decide)).trans (hF_65 7 2 (by omega)))))
    exact K (up c_69 8 (5 * t + 2) y_72) hI_82 (fun a j hm => (up_b (by omega)).trans ((hF_71 a j (by omega)).trans ((up_b (by omega)).trans (hF_65 a j (by omega))))) (by omega)
  by_cases h_84 : c 8 (5 * t) = 3
  · skip
    refine v_tsw_i (t := 205) 3 rfl (by omega) (by decide) rfl (by decide) ?_
    refine q_aload_n rfl rfl ?_
    refine v_gr (t := 8) rfl rfl rfl (by decide) rfl ?_
    refine q_iload_n rfl rfl ?_
    refine q_iconst rfl ?_
    refine v_iadd (v := 5 * t + 1) rfl (by omega) ?_
    refine q_aload_n rfl rfl ?_
    refine q_aload_n rfl rfl ?_
    have h_85 := ir_p0_0 hI hP
    refine v_gi (z := 0) (v := c P 0) rfl rfl (ck_p0 hP) (by omega) rfl rfl rfl ?_
    refine q_iconst rfl ?_
    refine v_isub (v := c P 0 - 1) rfl (by omega) ?_
    refine v_cv rfl rfl rfl rfl (by decide) ⟨⟨rfl, rfl⟩, by decide, rfl⟩ (Nat.le_of_ble_eq_true rfl) (Nat.le_of_ble_eq_true rfl) (s_8 (a1 := c P 0 - 1) hI (show (-1) ≤ c P 0 - 1 ∧ c P 0 - 1 ≤ 9999 from by omega) (fun c_86 y_89 hI_87 hF_88 hy_89 h_90 => ?_))
    refine bk_inl ?_
    refine v_is rfl rfl (by decide) (by decide) (by omega) ?_
    refine q_aload_n rfl rfl ?_
    refine v_gr (t := 8) rfl rfl rfl (by decide) rfl ?_
    refine q_iload_n rfl rfl ?_
    refine q_iconst rfl ?_
    refine v_iadd (v := 5 * t + 2) rfl (by omega) ?_
    refine q_aload_n rfl rfl ?_
    refine q_aload_n rfl rfl ?_
    refine v_gi (z := 0) (v := c P 0) rfl rfl (ck_p0 hP) (by omega) rfl rfl ((up_c (by omega)).trans (hF_88 P 0 (by omega))) ?_
    refine q_iconst rfl ?_
    refine v_isub (v := c P 0 - 1) rfl (by omega) ?_
    have hI_91 := iw_8 (t := t) (j := 5 * t + 1) (v := y_89) hI_87 ⟨by omega, by omega⟩ ⟨by omega, by omega⟩ (by omega)
    refine v_cv rfl rfl rfl rfl (by decide) ⟨⟨rfl, rfl⟩, by decide, rfl⟩ (Nat.le_of_ble_eq_true rfl) (Nat.le_of_ble_eq_true rfl) (s_8 (a1 := c P 0 - 1) hI_91 (show (-1) ≤ c P 0 - 1 ∧ c P 0 - 1 ≤ 9999 from by omega) (fun c_92 y_95 hI_93 hF_94 hy_95 h_96 => ?_))
    refine bk_inl ?_
    refine v_is rfl rfl (by decide) (by decide) (by omega) ?_
    refine q_aload_n rfl rfl ?_
    refine v_gr (t := 8) rfl rfl rfl (by decide) rfl ?_
    refine q_iload_n rfl rfl ?_
    refine q_iconst rfl ?_
    refine v_iadd (v := 5 * t + 3) rfl (by omega) ?_
    refine q_aload_n rfl rfl ?_
    have hI_97 := iw_8 (t := t) (j := 5 * t + 2) (v := y_95) hI_93 ⟨by omega, by omega⟩ ⟨by omega, by omega⟩ (by omega)
    refine q_call rfl rfl rfl rfl (s_38 hI_97 (fun c_98 y_101 hI_99 hF_100 hy_101 => ?_))
    refine bk_inl ?_
    refine v_is rfl rfl (by decide) (by decide) (by omega) ?_
    refine q_goto (t := 349) rfl (by decide) ?_
    refine q_vret rfl rfl ?_
    have hI_102 := iw_8 (t := t) (j := 5 * t + 3) (v := y_101) hI_99 ⟨by omega, by omega⟩ ⟨by omega, by omega⟩ (by omega)
    have q_103 : (up c_98 8 (5 * t + 3) y_101) 8 (5 * t) = c 8 (5 * t) := ((up_n (by omega)).trans ((hF_100 8 (5 * t) (by omega)).trans ((up_n (by omega)).trans ((hF_94 8 (5 * t) (by omega)).trans ((up_n (by omega)).trans (hF_88 8 (5 * t) (by omega)))))))
    have q_104 : (up c_98 8 (5 * t + 3) y_101) 8 (5 * t + 1) = y_89 := ((up_n (by omega)).trans ((hF_100 8 (5 * t + 1) (by omega)).trans ((up_n (by omega)).trans ((hF_94 8 (5 * t + 1) (by omega)).trans (up_e rfl)))))
    have q_105 : (up c_98 8 (5 * t + 3) y_101) 8 (5 * t + 2) = y_95 := ((up_n (by omega)).trans ((hF_100 8 (5 * t + 2) (by omega)).trans (up_e rfl)))
    have q_106 : (up c_98 8 (5 * t + 3) y_101) 8 (5 * t + 3) = y_101 := (up_e rfl)
    have h_107 := ir_8 hI (5 * t + 4)
    have q_108 : (up c_98 8 (5 * t + 3) y_101) 8 (5 * t + 4) = c 8 (5 * t + 4) := ((up_n (by omega)).trans ((hF_100 8 (5 * t + 4) (by omega)).trans ((up_n (by omega)).trans ((hF_94 8 (5 * t + 4) (by omega)).trans ((up_n (by omega)).trans (hF_88 8 (5 * t + 4) (by omega)))))))
    have hI_109 : Iv u (-1) P Q (up c_98 8 (5 * t + 3) y_101) := iv_close8 (t := t) hI_102 (by unfold So; rw [q_103, q_104, q_105, q_106, q_108]; omega)
    have h_110 : (up c_98 8 (5 * t + 3) y_101) 7 2 = c 7 2 := ((up_c (by decide)).trans ((hF_100 7 2 (by omega)).trans ((up_c (by decide)).trans ((hF_94 7 2 (by omega)).trans ((up_c (by decide)).trans (hF_88 7 2 (by omega)))))))
    exact K (up c_98 8 (5 * t + 3) y_101) hI_109 (fun a j hm => (up_b (by omega)).trans ((hF_100 a j (by omega)).trans ((up_b (by omega)).trans ((hF_94 a j (by omega)).trans ((up_b (by omega)).trans (hF_88 a j (by omega))))))) (by omega)
  by_cases h_111 : c 8 (5 * t) = 4
  · skip
    refine v_tsw_i (t := 256) 4 rfl (by omega) (by decide) rfl (by decide) ?_
    refine q_aload_n rfl rfl ?_
    refine v_gr (t := 8) rfl rfl rfl (by decide) rfl ?_
    refine q_iload_n rfl rfl ?_
    refine q_iconst rfl ?_
    refine v_iadd (v := 5 * t + 1) rfl (by omega) ?_
    refine q_aload_n rfl rfl ?_
    refine q_aload_n rfl rfl ?_
    have h_112 := ir_p0_2 hI hP
    refine v_gi (z := 2) (v := c P 2) rfl rfl (ck_p0 hP) (by omega) rfl rfl rfl ?_
    refine q_iconst rfl ?_
    refine v_isub (v := c P 2 - 1) rfl (by omega) ?_
    refine v_cv rfl rfl rfl rfl (by decide) ⟨⟨rfl, rfl⟩, by decide, rfl⟩ (Nat.le_of_ble_eq_true rfl) (Nat.le_of_ble_eq_true rfl) (s_8 (a1 := c P 2 - 1) hI (show (-1) ≤ c P 2 - 1 ∧ c P 2 - 1 ≤ 9999 from by omega) (fun c_113 y_116 hI_114 hF_115 hy_116 h_117 => ?_))
    refine bk_inl ?_
    refine v_is rfl rfl (by decide) (by decide) (by omega) ?_
    refine q_goto (t := 349) rfl (by decide) ?_
    refine q_vret rfl rfl ?_
    have hI_118 := iw_8 (t := t) (j := 5 * t + 1) (v := y_116) hI_114 ⟨by omega, by omega⟩ ⟨by omega, by omega⟩ (by omega)
    have q_119 : (up c_113 8 (5 * t + 1) y_116) 8 (5 * t) = c 8 (5 * t) := ((up_n (by omega)).trans (hF_115 8 (5 * t) (by omega)))
    have q_120 : (up c_113 8 (5 * t + 1) y_116) 8 (5 * t + 1) = y_116 := (up_e rfl)
    have h_121 := ir_8 hI (5 * t + 2)
    have h_122 := ir_8_2 hI (j := 5 * t + 2) (by omega)
    have q_123 : (up c_113 8 (5 * t + 1) y_116) 8 (5 * t + 2) = c 8 (5 * t + 2) := ((up_n (by omega)).trans (hF_115 8 (5 * t + 2) (by omega)))
    have h_124 := ir_8 hI (5 * t + 3)
    have q_125 : (up c_113 8 (5 * t + 1) y_116) 8 (5 * t + 3) = c 8 (5 * t + 3) := ((up_n (by omega)).trans (hF_115 8 (5 * t + 3) (by omega)))
    have h_126 := ir_8 hI (5 * t + 4)
    have q_127 : (up c_113 8 (5 * t + 1) y_116) 8 (5 * t + 4) = c 8 (5 * t + 4) := ((up_n (by omega)).trans (hF_115 8 (5 * t + 4) (by omega)))
    have hI_128 : Iv u (-1) P Q (up c_113 8 (5 * t + 1) y_116) := iv_close8 (t := t) hI_118 (by unfold So; rw [q_119, q_120, q_123, q_125, q_127]; omega)
    have h_129 : (up c_113 8 (5 * t + 1) y_116) 7 2 = c 7 2 := ((up_c (by decide)).trans (hF_115 7 2 (by omega)))
    exact K (up c_113 8 (5 * t + 1) y_116) hI_128 (fun a j hm => (up_b (by omega)).trans (hF_115 a j (by omega))) (by omega)
  by_cases h_130 : c 8 (5 * t) = 5
  · skip
    refine v_tsw_i (t := 277) 5 rfl (by omega) (by decide) rfl (by decide) ?_
    refine q_aload_n rfl rfl ?_
    refine v_gr (t := 8) rfl rfl rfl (by decide) rfl ?_
    refine q_iload_n rfl rfl ?_
    refine q_iconst rfl ?_
    refine v_iadd (v := 5 * t + 1) rfl (by omega) ?_
    refine q_aload_n rfl rfl ?_
    refine q_aload_n rfl rfl ?_
    have h_131 := ir_p0_0 hI hP
    refine v_gi (z := 0) (v := c P 0) rfl rfl (ck_p0 hP) (by omega) rfl rfl rfl ?_
    refine q_iconst rfl ?_
    refine v_isub (v := c P 0 - 1) rfl (by omega) ?_
    refine v_cv rfl rfl rfl rfl (by decide) ⟨⟨rfl, rfl⟩, by decide, rfl⟩ (Nat.le_of_ble_eq_true rfl) (Nat.le_of_ble_eq_true rfl) (s_8 (a1 := c P 0 - 1) hI (show (-1) ≤ c P 0 - 1 ∧ c P 0 - 1 ≤ 9999 from by omega) (fun c_132 y_135 hI_133 hF_134 hy_135 h_136 => ?_))
    refine bk_inl ?_
    refine v_is rfl rfl (by decide) (by decide) (by omega) ?_
    refine q_goto (t := 349) rfl (by decide) ?_
    refine q_vret rfl rfl ?_
    have hI_137 := iw_8 (t := t) (j := 5 * t + 1) (v := y_135) hI_133 ⟨by omega, by omega⟩ ⟨by omega, by omega⟩ (by omega)
    have q_138 : (up c_132 8 (5 * t + 1) y_135) 8 (5 * t) = c 8 (5 * t) := ((up_n (by omega)).trans (hF_134 8 (5 * t) (by omega)))
    have q_139 : (up c_132 8 (5 * t + 1) y_135) 8 (5 * t + 1) = y_135 := (up_e rfl)
    have h_140 := ir_8 hI (5 * t + 2)
    have h_141 := ir_8_2 hI (j := 5 * t + 2) (by omega)
    have q_142 : (up c_132 8 (5 * t + 1) y_135) 8 (5 * t + 2) = c 8 (5 * t + 2) := ((up_n (by omega)).trans (hF_134 8 (5 * t + 2) (by omega)))
    have h_143 := ir_8 hI (5 * t + 3)
    have q_144 : (up c_132 8 (5 * t + 1) y_135) 8 (5 * t + 3) = c 8 (5 * t + 3) := ((up_n (by omega)).trans (hF_134 8 (5 * t + 3) (by omega)))
    have h_145 := ir_8 hI (5 * t + 4)
    have q_146 : (up c_132 8 (5 * t + 1) y_135) 8 (5 * t + 4) = c 8 (5 * t + 4) := ((up_n (by omega)).trans (hF_134 8 (5 * t + 4) (by omega)))
    have hI_147 : Iv u (-1) P Q (up c_132 8 (5 * t + 1) y_135) := iv_close8 (t := t) hI_137 (by unfold So; rw [q_138, q_139, q_142, q_144, q_146]; omega)
    have h_148 : (up c_132 8 (5 * t + 1) y_135) 7 2 = c 7 2 := ((up_c (by decide)).trans (hF_134 7 2 (by omega)))
    exact K (up c_132 8 (5 * t + 1) y_135) hI_147 (fun a j hm => (up_b (by omega)).trans (hF_134 a j (by omega))) (by omega)
  by_cases h_149 : c 8 (5 * t) = 6
  · skip
    refine v_tsw_i (t := 349) 6 rfl (by omega) (by decide) rfl (by decide) ?_
    refine q_vret rfl rfl ?_
    have q_150 : c 8 (5 * t) = c 8 (5 * t) := rfl
    have h_151 := ir_8 hI (5 * t + 1)
    have q_152 : c 8 (5 * t + 1) = c 8 (5 * t + 1) := rfl
    have h_153 := ir_8 hI (5 * t + 2)
    have h_154 := ir_8_2 hI (j := 5 * t + 2) (by omega)
    have q_155 : c 8 (5 * t + 2) = c 8 (5 * t + 2) := rfl
    have h_156 := ir_8 hI (5 * t + 3)
    have q_157 : c 8 (5 * t + 3) = c 8 (5 * t + 3) := rfl
    have h_158 := ir_8 hI (5 * t + 4)
    have q_159 : c 8 (5 * t + 4) = c 8 (5 * t + 4) := rfl
    have hI_160 : Iv u (-1) P Q c := iv_close8 (t := t) hI (by unfold So; rw [q_150, q_152, q_155, q_157, q_159]; omega)
    exact K c hI_160 (fun a j hm => rfl) (by omega)
  by_cases h_161 : c 8 (5 * t) = 7
  · skip
    refine v_tsw_i (t := 298) 7 rfl (by omega) (by decide) rfl (by decide) ?_
    refine q_aload_n rfl rfl ?_
    refine v_gr (t := 8) rfl rfl rfl (by decide) rfl ?_
    refine q_iload_n rfl rfl ?_
    refine q_iconst rfl ?_
    refine v_iadd (v := 5 * t + 1) rfl (by omega) ?_
    refine q_aload_n rfl rfl ?_
    refine v_bip rfl (by decide) ?_
    refine v_cv rfl rfl rfl rfl (by decide) ⟨⟨rfl, rfl⟩, by decide, rfl⟩ (Nat.le_of_ble_eq_true rfl) (Nat.le_of_ble_eq_true rfl) (s_8 (a1 := 40) hI (show (-1) ≤ 40 ∧ 40 ≤ 9999 from by omega) (fun c_162 y_165 hI_163 hF_164 hy_165 h_166 => ?_))
    refine bk_inl ?_
    refine v_is rfl rfl (by decide) (by decide) (by omega) ?_
    refine q_aload_n rfl rfl ?_
    refine q_ldc_s rfl rfl rfl (by decide) ?_
    have hI_167 := iw_8 (t := t) (j := 5 * t + 1) (v := y_165) hI_163 ⟨by omega, by omega⟩ ⟨by omega, by omega⟩ (by omega)
    refine v_cv rfl rfl rfl rfl (by decide) ⟨⟨rfl, rfl⟩, by decide, rfl⟩ (Nat.le_of_ble_eq_true rfl) (Nat.le_of_ble_eq_true rfl) (s_11 hI_167 (q := 11) (nt := 1) (by decide) (by decide) (by decide) (fun c_168 hI_169 hF_170 => ?_))
    refine bk_inl ?_
    refine q_aload_n rfl rfl ?_
    refine q_aload_n rfl rfl ?_
    refine q_aload_n rfl rfl ?_
    refine q_iload rfl rfl ?_
    refine q_iconst rfl ?_
    refine v_iadd (v := a4 + 1) rfl (by omega) ?_
    have q_171 : c_168 8 (5 * t) = c 8 (5 * t) := ((hF_170 8 (5 * t) (by omega)).trans ((up_n (by omega)).trans (hF_164 8 (5 * t) (by omega))))
    have q_172 : c_168 8 (5 * t + 1) = y_165 := ((hF_170 8 (5 * t + 1) (by omega)).trans (up_e rfl))
    have h_173 := ir_8 hI (5 * t + 2)
    have h_174 := ir_8_2 hI (j := 5 * t + 2) (by omega)
    have q_175 : c_168 8 (5 * t + 2) = c 8 (5 * t + 2) := ((hF_170 8 (5 * t + 2) (by omega)).trans ((up_n (by omega)).trans (hF_164 8 (5 * t + 2) (by omega))))
    have h_176 := ir_8 hI (5 * t + 3)
    have q_177 : c_168 8 (5 * t + 3) = c 8 (5 * t + 3) := ((hF_170 8 (5 * t + 3) (by omega)).trans ((up_n (by omega)).trans (hF_164 8 (5 * t + 3) (by omega))))
    have h_178 := ir_8 hI (5 * t + 4)
    have q_179 : c_168 8 (5 * t + 4) = c 8 (5 * t + 4) := ((hF_170 8 (5 * t + 4) (by omega)).trans ((up_n (by omega)).trans (hF_164 8 (5 * t + 4) (by omega))))
    have hI_180 : Iv u (-1) P Q c_168 := iv_close8 (t := t) hI_169 (by unfold So; rw [q_171, q_172, q_175, q_177, q_179]; omega)
    have h_181 : c_168 7 2 = c 7 2 := ((hF_170 7 2 (by omega)).trans ((up_c (by decide)).trans (hF_164 7 2 (by omega))))
    have h_182 : c_168 7 2 = c 7 2 := ((hF_170 7 2 (by omega)).trans ((up_c (by decide)).trans (hF_164 7 2 (by omega))))
    refine v_cv rfl rfl rfl rfl (by decide) ⟨⟨rfl, rfl⟩, by decide, rfl⟩ (Nat.le_of_ble_eq_true rfl) (Nat.le_of_ble_eq_true rfl) (H41 _ _ (by omega) hI_180 (fun c_183 hI_184 hF_185 h_186 => ?_))
    refine bk_inl ?_
    have h_187 := ir_7_2 hI_184
    refine q_aload_n rfl rfl ?_
    refine q_ldc_s rfl rfl rfl (by decide) ?_
    refine v_cv rfl rfl rfl rfl (by decide) ⟨⟨rfl, rfl⟩, by decide, rfl⟩ (Nat.le_of_ble_eq_true rfl) (Nat.le_of_ble_eq_true rfl) (s_11 hI_184 (q := 12) (nt := 1) (by decide) (by decide) (by decide) (fun c_188 hI_189 hF_190 => ?_))
    refine bk_inl ?_
    refine q_aload_n rfl rfl ?_
    refine v_gr (t := 8) rfl rfl rfl (by decide) rfl ?_
    refine q_iload_n rfl rfl ?_
    refine q_iconst rfl ?_
    refine v_iadd (v := 5 * t + 2) rfl (by omega) ?_
    refine q_aload_n rfl rfl ?_
    refine v_gi (z := 2) (v := c_183 7 2) rfl rfl rfl (by decide) rfl rfl (hF_190 7 2 (by omega)) ?_
    refine v_is rfl rfl (by decide) (by decide) (by omega) ?_
    refine q_goto (t := 349) rfl (by decide) ?_
    refine q_vret rfl rfl ?_
    have hI_191 := iw_8 (t := t) (j := 5 * t + 2) (v := c_183 7 2) (iv_open8 hI_189) ⟨by omega, by omega⟩ ⟨by omega, by omega⟩ (by omega)
    have q_192 : (up c_188 8 (5 * t + 2) (c_183 7 2)) 8 (5 * t) = c 8 (5 * t) := ((up_n (by omega)).trans ((hF_190 8 (5 * t) (by omega)).trans ((hF_185 8 (5 * t) (by omega)).trans ((hF_170 8 (5 * t) (by omega)).trans ((up_n (by omega)).trans (hF_164 8 (5 * t) (by omega)))))))
    have q_193 : (up c_188 8 (5 * t + 2) (c_183 7 2)) 8 (5 * t + 1) = y_165 := ((up_n (by omega)).trans ((hF_190 8 (5 * t + 1) (by omega)).trans ((hF_185 8 (5 * t + 1) (by omega)).trans ((hF_170 8 (5 * t + 1) (by omega)).trans (up_e rfl)))))
    have q_194 : (up c_188 8 (5 * t + 2) (c_183 7 2)) 8 (5 * t + 2) = c_183 7 2 := (up_e rfl)
    have q_195 : (up c_188 8 (5 * t + 2) (c_183 7 2)) 8 (5 * t + 3) = c 8 (5 * t + 3) := ((up_n (by omega)).trans ((hF_190 8 (5 * t + 3) (by omega)).trans ((hF_185 8 (5 * t + 3) (by omega)).trans ((hF_170 8 (5 * t + 3) (by omega)).trans ((up_n (by omega)).trans (hF_164 8 (5 * t + 3) (by omega)))))))
    have q_196 : (up c_188 8 (5 * t + 2) (c_183 7 2)) 8 (5 * t + 4) = c 8 (5 * t + 4) := ((up_n (by omega)).trans ((hF_190 8 (5 * t + 4) (by omega)).trans ((hF_185 8 (5 * t + 4) (by omega)).trans ((hF_170 8 (5 * t + 4) (by omega)).trans ((up_n (by omega)).trans (hF_164 8 (5 * t + 4) (by omega)))))))
    have hI_197 : Iv u (-1) P Q (up c_188 8 (5 * t + 2) (c_183 7 2)) := iv_close8 (t := t) hI_191 (by unfold So; rw [q_192, q_193, q_194, q_195, q_196]; omega)
    have h_198 : (up c_188 8 (5 * t + 2) (c_183 7 2)) 7 2 = c_183 7 2 := ((up_c (by decide)).trans (hF_190 7 2 (by omega)))
    exact K (up c_188 8 (5 * t + 2) (c_183 7 2)) hI_197 (fun a j hm => (up_b (by omega)).trans ((hF_190 a j (by omega)).trans ((hF_185 a j (by omega)).trans ((hF_170 a j (by omega)).trans ((up_b (by omega)).trans (hF_164 a j (by omega))))))) (by omega)
  refine v_tsw_o (t := 349) rfl (by omega) (by decide) ?_
  refine q_vret rfl rfl ?_
  have q_199 : c 8 (5 * t) = c 8 (5 * t) := rfl
  have h_200 := ir_8 hI (5 * t + 1)
  have q_201 : c 8 (5 * t + 1) = c 8 (5 * t + 1) := rfl
  have h_202 := ir_8 hI (5 * t + 2)
  have h_203 := ir_8_2 hI (j := 5 * t + 2) (by omega)
  have q_204 : c 8 (5 * t + 2) = c 8 (5 * t + 2) := rfl
  have h_205 := ir_8 hI (5 * t + 3)
  have q_206 : c 8 (5 * t + 3) = c 8 (5 * t + 3) := rfl
  have h_207 := ir_8 hI (5 * t + 4)
  have q_208 : c 8 (5 * t + 4) = c 8 (5 * t + 4) := rfl
  have hI_209 : Iv u (-1) P Q c := iv_close8 (t := t) hI (by unfold So; rw [q_199, q_201, q_204, q_206, q_208]; omega)
  exact K c hI_209 (fun a j hm => rfl) (by omega)

set_option maxRecDepth 100000 in
set_option maxHeartbeats 4000000 in
theorem s_41_l {sc : List Int32} {d u P Q : Nat} {c : ME} {a4 : Int} {Z : AR → Prop} (hI : Iv u (-1) P Q c) (ha4 : 0 ≤ a4 ∧ a4 ≤ 6) (H41 : ∀ (c : ME) (Z : AR → Prop), a4 + 1 ≤ 6 → Iv u (-1) P Q c → (∀ c2 : ME, Iv u (-1) P Q c2 → (∀ (a : Nat) (j : Int), ¬ ((a = 1 ∧ j = 2) ∨ (a = 1 ∧ j = 4) ∨ (a = 1 ∧ j = 5) ∨ (a = 7 ∧ j = 2) ∨ (a = 8 ∧ j ≥ 5 * c 7 2)) → c2 a j = c a j) → (c2 7 2 ≥ c 7 2) → Z (.inl none, Wd P Q P P c2, 0, 0)) → Wp sc (d + 10) 41 0 [(0, .ref 7), (1, .ref 1), (2, .ref P), (3, vi (a4 + 1))] [] (Wd P Q P P c) 0 0 Z) (K : ∀ (c2 : ME), Iv u (-1) P Q c2 → (∀ (a : Nat) (j : Int), ¬ ((a = 1 ∧ j = 2) ∨ (a = 1 ∧ j = 4) ∨ (a = 1 ∧ j = 5) ∨ (a = 7 ∧ j = 2) ∨ (a = 8 ∧ j ≥ 5 * c 7 2)) → c2 a j = c a j) → ((c2 7 2 ≥ c 7 2)) → Z (.inl (none), Wd P Q P P c2, 0, 0)) : ∀ n : Nat, (∀ (c2 : ME) (v4 : Int), Iv u (-1) P Q c2 → (∀ (a : Nat) (j : Int), ¬ ((a = 1 ∧ j = 2) ∨ (a = 1 ∧ j = 4) ∨ (a = 1 ∧ j = 5) ∨ (a = 7 ∧ j = 2) ∨ (a = 8 ∧ j ≥ 5 * c 7 2)) → c2 a j = c a j) → 0 ≤ v4 ∧ v4 ≤ 38 → ((c2 7 2 ≥ c 7 2)) → 77 - 2 * v4 < (n : Int) → Wp sc (d + 12) 41 3 [(0, .ref 7), (1, .ref 1), (2, .ref P), (3, vi a4), (4, vi v4)] [] (Wd P Q P P c2) 0 0 Z)
  | 0 => by intro c2 v4 hI2 hF hv4 hx0 hm9; have hP := iv_P hI; have hQ := iv_Q hI; exfalso; omega
  | n + 1 => by
    have hP := iv_P hI
    have hQ := iv_Q hI
    have ih := s_41_l (sc := sc) (d := d) hI ha4 H41 K n
    intro c2 v4 hI2 hF hv4 hx0 hm9
    have h_1 := ir_7_2 hI
    have h_2 := ir_7_2 hI2
    refine q_iload rfl rfl ?_
    refine v_bip rfl (by decide) ?_
    by_cases h_3 : v4 ≥ 38
    · refine v_ic_ge_t (t := 129) rfl (by decide) (by omega) ?_
      refine q_vret rfl rfl ?_
      exact K c2 hI2 (fun a j hm => hF a j (by omega)) (by omega)
    · refine v_ic_ge_f (t := 129) rfl (by decide) (by omega) ?_
      refine q_aload_n rfl rfl ?_
      refine v_cv rfl rfl rfl rfl (by decide) ⟨⟨rfl, rfl⟩, by decide, rfl⟩ (Nat.le_of_ble_eq_true rfl) (Nat.le_of_ble_eq_true rfl) (s_15 hI2 (fun c_4 y_7 hI_5 hF_6 hy_7 => ?_))
      refine bk_inl ?_
      by_cases h_8 : y_7 = 0
      · refine v_if_eq_t (t := 129) rfl (by decide) (by omega) ?_
        refine q_vret rfl rfl ?_
        have h_9 : c_4 7 2 = c2 7 2 := (hF_6 7 2 (by omega))
        exact K c_4 hI_5 (fun a j hm => (hF_6 a j (by omega)).trans (hF a j (by omega))) (by omega)
      · refine v_if_eq_f (t := 129) rfl (by decide) (by omega) ?_
        refine q_iload_n rfl rfl ?_
        by_cases h_10 : a4 ≤ 0
        · refine v_if_le_t (t := 31) rfl (by decide) (by omega) ?_
          refine q_aload_n rfl rfl ?_
          refine v_cv rfl rfl rfl rfl (by decide) ⟨⟨rfl, rfl⟩, by decide, rfl⟩ (Nat.le_of_ble_eq_true rfl) (Nat.le_of_ble_eq_true rfl) (s_3 hI_5 (fun c_11 y_14 hI_12 hF_13 hy_14 h_15 => ?_))
          refine bk_inl ?_
          have h_16 := ir_1_2 hI_12
          refine q_istore rfl (by decide) ?_
          refine q_aload_n rfl rfl ?_
          refine q_ldc_s rfl rfl rfl (by decide) ?_
          refine v_cv rfl rfl rfl rfl (by decide) ⟨⟨rfl, rfl⟩, by decide, rfl⟩ (Nat.le_of_ble_eq_true rfl) (Nat.le_of_ble_eq_true rfl) (s_10 hI_12 (q := 10) (nt := 41) (by decide) (by decide) (by decide) (fun c_17 y_20 hI_18 hF_19 hy_20 h_21 => ?_))
          refine bk_inl ?_
          have h_22 := ir_1_4 hI_18
          refine q_istore rfl (by decide) ?_
          refine q_iload rfl rfl ?_
          refine v_bip rfl (by decide) ?_
          by_cases h_23 : y_20 ≠ 7
          · refine v_ic_ne_t (t := 65) rfl (by decide) (by omega) ?_
            refine q_aload_n rfl rfl ?_
            refine v_cv rfl rfl rfl rfl (by decide) ⟨⟨rfl, rfl⟩, by decide, rfl⟩ (Nat.le_of_ble_eq_true rfl) (Nat.le_of_ble_eq_true rfl) ?_
            refine q_aload_n rfl rfl ?_
            refine v_gi (z := 4) (v := c_17 1 4) rfl rfl rfl (by decide) rfl rfl rfl ?_
            by_cases h_24 : c_17 1 4 ≠ 0
            · refine v_if_ne_t (t := 11) rfl (by decide) (by omega) ?_
              refine q_iconst rfl ?_
              refine v_zret rfl rfl (by omega) ?_
              refine bk_inl ?_
              refine v_if_eq_t (t := 117) rfl (by decide) (by decide) ?_
              refine q_aload_n rfl rfl ?_
              refine q_ldc_s rfl rfl rfl (by decide) ?_
              refine v_cv rfl rfl rfl rfl (by decide) ⟨⟨rfl, rfl⟩, by decide, rfl⟩ (Nat.le_of_ble_eq_true rfl) (Nat.le_of_ble_eq_true rfl) (s_11 hI_18 (q := 13) (nt := 1) (by decide) (by decide) (by decide) (fun c_25 hI_26 hF_27 => ?_))
              refine bk_inl ?_
              refine v_iinc (v := v4 + 1) rfl rfl (by decide) (by omega) ?_
              refine q_goto (t := 3) rfl (by decide) ?_
              refine Wp_ls [(0, .ref 7), (1, .ref 1), (2, .ref P), (3, vi a4), (4, vi (v4 + 1))] (lsub_cons rfl (lsub_cons rfl (lsub_cons rfl (lsub_cons rfl (lsub_cons rfl lsub_nil))))) ?_
              have h_28 : c_25 7 2 = c2 7 2 := ((hF_27 7 2 (by omega)).trans ((hF_19 7 2 (by omega)).trans ((hF_13 7 2 (by omega)).trans (hF_6 7 2 (by omega)))))
              exact ih c_25 (v4 + 1) hI_26 (fun a j hm => (hF_27 a j (by omega)).trans ((hF_19 a j (by omega)).trans ((hF_13 a j (by omega)).trans ((hF_6 a j (by omega)).trans (hF a j (by omega)))))) ⟨by omega, by omega⟩ (by omega) (by omega)
            · refine v_if_ne_f (t := 11) rfl (by decide) (by omega) ?_
              refine q_iconst rfl ?_
              refine q_goto (t := 12) rfl (by decide) ?_
              refine v_zret rfl rfl (by omega) ?_
              refine bk_inl ?_
              refine v_if_eq_f (t := 117) rfl (by decide) (by decide) ?_
              refine q_aload_n rfl rfl ?_
              refine v_gi (z := 2) (v := c2 7 2) rfl rfl rfl (by decide) rfl rfl ((hF_19 7 2 (by omega)).trans ((hF_13 7 2 (by omega)).trans (hF_6 7 2 (by omega)))) ?_
              refine v_bip rfl (by decide) ?_
              by_cases h_29 : c2 7 2 ≥ 38
              · refine v_ic_ge_t (t := 117) rfl (by decide) (by omega) ?_
                refine q_aload_n rfl rfl ?_
                refine q_ldc_s rfl rfl rfl (by decide) ?_
                refine v_cv rfl rfl rfl rfl (by decide) ⟨⟨rfl, rfl⟩, by decide, rfl⟩ (Nat.le_of_ble_eq_true rfl) (Nat.le_of_ble_eq_true rfl) (s_11 hI_18 (q := 13) (nt := 1) (by decide) (by decide) (by decide) (fun c_30 hI_31 hF_32 => ?_))
                refine bk_inl ?_
                refine v_iinc (v := v4 + 1) rfl rfl (by decide) (by omega) ?_
                refine q_goto (t := 3) rfl (by decide) ?_
                refine Wp_ls [(0, .ref 7), (1, .ref 1), (2, .ref P), (3, vi a4), (4, vi (v4 + 1))] (lsub_cons rfl (lsub_cons rfl (lsub_cons rfl (lsub_cons rfl (lsub_cons rfl lsub_nil))))) ?_
                have h_33 : c_30 7 2 = c2 7 2 := ((hF_32 7 2 (by omega)).trans ((hF_19 7 2 (by omega)).trans ((hF_13 7 2 (by omega)).trans (hF_6 7 2 (by omega)))))
                exact ih c_30 (v4 + 1) hI_31 (fun a j hm => (hF_32 a j (by omega)).trans ((hF_19 a j (by omega)).trans ((hF_13 a j (by omega)).trans ((hF_6 a j (by omega)).trans (hF a j (by omega)))))) ⟨by omega, by omega⟩ (by omega) (by omega)
              · refine v_ic_ge_f (t := 117) rfl (by decide) (by omega) ?_
                refine q_aload_n rfl rfl ?_
                refine v_gi (z := 2) (v := c2 7 2) rfl rfl rfl (by decide) rfl rfl ((hF_19 7 2 (by omega)).trans ((hF_13 7 2 (by omega)).trans (hF_6 7 2 (by omega)))) ?_
                refine q_iconst rfl ?_
                refine v_imul (v := 5 * c2 7 2) rfl (by omega) ?_
                refine q_istore rfl (by decide) ?_
                refine q_aload_n rfl rfl ?_
                refine q_dup rfl rfl ?_
                refine v_gi (z := 2) (v := c2 7 2) rfl rfl rfl (by decide) rfl rfl ((hF_19 7 2 (by omega)).trans ((hF_13 7 2 (by omega)).trans (hF_6 7 2 (by omega)))) ?_
                refine q_iconst rfl ?_
                refine v_iadd (v := c2 7 2 + 1) rfl (by omega) ?_
                refine v_pi (z := 2) rfl rfl rfl (by decide) rfl rfl rfl (by decide) ?_
                refine q_aload_n rfl rfl ?_
                refine v_gr (t := 8) rfl rfl rfl (by decide) rfl ?_
                refine q_iload rfl rfl ?_
                refine q_iload rfl rfl ?_
                refine v_is rfl rfl (by decide) (by decide) (by omega) ?_
                refine q_aload_n rfl rfl ?_
                refine q_aload_n rfl rfl ?_
                refine q_aload_n rfl rfl ?_
                refine q_iload rfl rfl ?_
                refine q_iload_n rfl rfl ?_
                have hI_34 := iw_7_2 (v := c2 7 2 + 1) hI_18 ⟨by omega, by omega⟩
                have hI_35 := iw_8 (t := c2 7 2) (j := 5 * c2 7 2) (v := y_20) (iv_open8 hI_34) ⟨by omega, by omega⟩ ⟨by omega, by omega⟩ (by omega)
                have h_36 : (up (up c_17 7 2 (c2 7 2 + 1)) 8 (5 * c2 7 2) y_20) 7 2 = c2 7 2 + 1 := ((up_c (by decide)).trans (up_e rfl))
                have h_37 : (up (up c_17 7 2 (c2 7 2 + 1)) 8 (5 * c2 7 2) y_20) 8 (5 * c2 7 2) = y_20 := (up_e rfl)
                refine v_cv rfl rfl rfl rfl (by decide) ⟨⟨rfl, rfl⟩, by decide, rfl⟩ (Nat.le_of_ble_eq_true rfl) (Nat.le_of_ble_eq_true rfl) (s_40 (t := c2 7 2) (a4 := a4) hI_35 (show 0 ≤ c2 7 2 ∧ c2 7 2 ≤ 37 from by omega) (show 0 ≤ a4 ∧ a4 ≤ 6 from by omega) (by omega) (by omega) H41 (fun c_38 hI_39 hF_40 h_41 => ?_))
                refine bk_inl ?_
                have h_42 := ir_7_2 hI_39
                refine q_aload_n rfl rfl ?_
                refine q_ldc_s rfl rfl rfl (by decide) ?_
                refine v_cv rfl rfl rfl rfl (by decide) ⟨⟨rfl, rfl⟩, by decide, rfl⟩ (Nat.le_of_ble_eq_true rfl) (Nat.le_of_ble_eq_true rfl) (s_11 hI_39 (q := 13) (nt := 1) (by decide) (by decide) (by decide) (fun c_43 hI_44 hF_45 => ?_))
                refine bk_inl ?_
                refine v_iinc (v := v4 + 1) rfl rfl (by decide) (by omega) ?_
                refine q_goto (t := 3) rfl (by decide) ?_
                refine Wp_ls [(0, .ref 7), (1, .ref 1), (2, .ref P), (3, vi a4), (4, vi (v4 + 1))] (lsub_cons rfl (lsub_cons rfl (lsub_cons rfl (lsub_cons rfl (lsub_cons rfl lsub_nil))))) ?_
                have h_46 : c_43 7 2 = c_38 7 2 := (hF_45 7 2 (by omega))
                exact ih c_43 (v4 + 1) hI_44 (fun a j hm => (hF_45 a j (by omega)).trans ((hF_40 a j (by omega)).trans ((up_b (by omega)).trans ((up_b (by omega)).trans ((hF_19 a j (by omega)).trans ((hF_13 a j (by omega)).trans ((hF_6 a j (by omega)).trans (hF a j (by omega))))))))) ⟨by omega, by omega⟩ (by omega) (by omega)
          · refine v_ic_ne_f (t := 65) rfl (by decide) (by omega) ?_
            refine q_iload_n rfl rfl ?_
            refine v_bip rfl (by decide) ?_
            refine v_ic_lt_t (t := 65) rfl (by decide) (by omega) ?_
            refine q_aload_n rfl rfl ?_
            refine v_cv rfl rfl rfl rfl (by decide) ⟨⟨rfl, rfl⟩, by decide, rfl⟩ (Nat.le_of_ble_eq_true rfl) (Nat.le_of_ble_eq_true rfl) ?_
            refine q_aload_n rfl rfl ?_
            refine v_gi (z := 4) (v := c_17 1 4) rfl rfl rfl (by decide) rfl rfl rfl ?_
            by_cases h_47 : c_17 1 4 ≠ 0
            · refine v_if_ne_t (t := 11) rfl (by decide) (by omega) ?_
              refine q_iconst rfl ?_
              refine v_zret rfl rfl (by omega) ?_
              refine bk_inl ?_
              refine v_if_eq_t (t := 117) rfl (by decide) (by decide) ?_
              refine q_aload_n rfl rfl ?_
              refine q_ldc_s rfl rfl rfl (by decide) ?_
              refine v_cv rfl rfl rfl rfl (by decide) ⟨⟨rfl, rfl⟩, by decide, rfl⟩ (Nat.le_of_ble_eq_true rfl) (Nat.le_of_ble_eq_true rfl) (s_11 hI_18 (q := 13) (nt := 1) (by decide) (by decide) (by decide) (fun c_48 hI_49 hF_50 => ?_))
              refine bk_inl ?_
              refine v_iinc (v := v4 + 1) rfl rfl (by decide) (by omega) ?_
              refine q_goto (t := 3) rfl (by decide) ?_
              refine Wp_ls [(0, .ref 7), (1, .ref 1), (2, .ref P), (3, vi a4), (4, vi (v4 + 1))] (lsub_cons rfl (lsub_cons rfl (lsub_cons rfl (lsub_cons rfl (lsub_cons rfl lsub_nil))))) ?_
              have h_51 : c_48 7 2 = c2 7 2 := ((hF_50 7 2 (by omega)).trans ((hF_19 7 2 (by omega)).trans ((hF_13 7 2 (by omega)).trans (hF_6 7 2 (by omega)))))
              exact ih c_48 (v4 + 1) hI_49 (fun a j hm => (hF_50 a j (by omega)).trans ((hF_19 a j (by omega)).trans ((hF_13 a j (by omega)).trans ((hF_6 a j (by omega)).trans (hF a j (by omega)))))) ⟨by omega, by omega⟩ (by omega) (by omega)
            · refine v_if_ne_f (t := 11) rfl (by decide) (by omega) ?_
              refine q_iconst rfl ?_
              refine q_goto (t := 12) rfl (by decide) ?_
              refine v_zret rfl rfl (by omega) ?_
              refine bk_inl ?_
              refine v_if_eq_f (t := 117) rfl (by decide) (by decide) ?_
              refine q_aload_n rfl rfl ?_
              refine v_gi (z := 2) (v := c2 7 2) rfl rfl rfl (by decide) rfl rfl ((hF_19 7 2 (by omega)).trans ((hF_13 7 2 (by omega)).trans (hF_6 7 2 (by omega)))) ?_
              refine v_bip rfl (by decide) ?_
              by_cases h_52 : c2 7 2 ≥ 38
              · refine v_ic_ge_t (t := 117) rfl (by decide) (by omega) ?_
                refine q_aload_n rfl rfl ?_
                refine q_ldc_s rfl rfl rfl (by decide) ?_
                refine v_cv rfl rfl rfl rfl (by decide) ⟨⟨rfl, rfl⟩, by decide, rfl⟩ (Nat.le_of_ble_eq_true rfl) (Nat.le_of_ble_eq_true rfl) (s_11 hI_18 (q := 13) (nt := 1) (by decide) (by decide) (by decide) (fun c_53 hI_54 hF_55 => ?_))
                refine bk_inl ?_
                refine v_iinc (v := v4 + 1) rfl rfl (by decide) (by omega) ?_
                refine q_goto (t := 3) rfl (by decide) ?_
                refine Wp_ls [(0, .ref 7), (1, .ref 1), (2, .ref P), (3, vi a4), (4, vi (v4 + 1))] (lsub_cons rfl (lsub_cons rfl (lsub_cons rfl (lsub_cons rfl (lsub_cons rfl lsub_nil))))) ?_
                have h_56 : c_53 7 2 = c2 7 2 := ((hF_55 7 2 (by omega)).trans ((hF_19 7 2 (by omega)).trans ((hF_13 7 2 (by omega)).trans (hF_6 7 2 (by omega)))))
                exact ih c_53 (v4 + 1) hI_54 (fun a j hm => (hF_55 a j (by omega)).trans ((hF_19 a j (by omega)).trans ((hF_13 a j (by omega)).trans ((hF_6 a j (by omega)).trans (hF a j (by omega)))))) ⟨by omega, by omega⟩ (by omega) (by omega)
              · refine v_ic_ge_f (t := 117) rfl (by decide) (by omega) ?_
                refine q_aload_n rfl rfl ?_
                refine v_gi (z := 2) (v := c2 7 2) rfl rfl rfl (by decide) rfl rfl ((hF_19 7 2 (by omega)).trans ((hF_13 7 2 (by omega)).trans (hF_6 7 2 (by omega)))) ?_
                refine q_iconst rfl ?_
                refine v_imul (v := 5 * c2 7 2) rfl (by omega) ?_
                refine q_istore rfl (by decide) ?_
                refine q_aload_n rfl rfl ?_
                refine q_dup rfl rfl ?_
                refine v_gi (z := 2) (v := c2 7 2) rfl rfl rfl (by decide) rfl rfl ((hF_19 7 2 (by omega)).trans ((hF_13 7 2 (by omega)).trans (hF_6 7 2 (by omega)))) ?_
                refine q_iconst rfl ?_
                refine v_iadd (v := c2 7 2 + 1) rfl (by omega) ?_
                refine v_pi (z := 2) rfl rfl rfl (by decide) rfl rfl rfl (by decide) ?_
                refine q_aload_n rfl rfl ?_
                refine v_gr (t := 8) rfl rfl rfl (by decide) rfl ?_
                refine q_iload rfl rfl ?_
                refine q_iload rfl rfl ?_
                refine v_is rfl rfl (by decide) (by decide) (by omega) ?_
                refine q_aload_n rfl rfl ?_
                refine q_aload_n rfl rfl ?_
                refine q_aload_n rfl rfl ?_
                refine q_iload rfl rfl ?_
                refine q_iload_n rfl rfl ?_
                have hI_57 := iw_7_2 (v := c2 7 2 + 1) hI_18 ⟨by omega, by omega⟩
                have hI_58 := iw_8 (t := c2 7 2) (j := 5 * c2 7 2) (v := y_20) (iv_open8 hI_57) ⟨by omega, by omega⟩ ⟨by omega, by omega⟩ (by omega)
                have h_59 : (up (up c_17 7 2 (c2 7 2 + 1)) 8 (5 * c2 7 2) y_20) 7 2 = c2 7 2 + 1 := ((up_c (by decide)).trans (up_e rfl))
                have h_60 : (up (up c_17 7 2 (c2 7 2 + 1)) 8 (5 * c2 7 2) y_20) 8 (5 * c2 7 2) = y_20 := (up_e rfl)
                refine v_cv rfl rfl rfl rfl (by decide) ⟨⟨rfl, rfl⟩, by decide, rfl⟩ (Nat.le_of_ble_eq_true rfl) (Nat.le_of_ble_eq_true rfl) (s_40 (t := c2 7 2) (a4 := a4) hI_58 (show 0 ≤ c2 7 2 ∧ c2 7 2 ≤ 37 from by omega) (show 0 ≤ a4 ∧ a4 ≤ 6 from by omega) (by omega) (by omega) H41 (fun c_61 hI_62 hF_63 h_64 => ?_))
                refine bk_inl ?_
                have h_65 := ir_7_2 hI_62
                refine q_aload_n rfl rfl ?_
                refine q_ldc_s rfl rfl rfl (by decide) ?_
                refine v_cv rfl rfl rfl rfl (by decide) ⟨⟨rfl, rfl⟩, by decide, rfl⟩ (Nat.le_of_ble_eq_true rfl) (Nat.le_of_ble_eq_true rfl) (s_11 hI_62 (q := 13) (nt := 1) (by decide) (by decide) (by decide) (fun c_66 hI_67 hF_68 => ?_))
                refine bk_inl ?_
                refine v_iinc (v := v4 + 1) rfl rfl (by decide) (by omega) ?_
                refine q_goto (t := 3) rfl (by decide) ?_
                refine Wp_ls [(0, .ref 7), (1, .ref 1), (2, .ref P), (3, vi a4), (4, vi (v4 + 1))] (lsub_cons rfl (lsub_cons rfl (lsub_cons rfl (lsub_cons rfl (lsub_cons rfl lsub_nil))))) ?_
                have h_69 : c_66 7 2 = c_61 7 2 := (hF_68 7 2 (by omega))
                exact ih c_66 (v4 + 1) hI_67 (fun a j hm => (hF_68 a j (by omega)).trans ((hF_63 a j (by omega)).trans ((up_b (by omega)).trans ((up_b (by omega)).trans ((hF_19 a j (by omega)).trans ((hF_13 a j (by omega)).trans ((hF_6 a j (by omega)).trans (hF a j (by omega))))))))) ⟨by omega, by omega⟩ (by omega) (by omega)
        · refine v_if_le_f (t := 31) rfl (by decide) (by omega) ?_
          refine q_aload_n rfl rfl ?_
          refine v_cv rfl rfl rfl rfl (by decide) ⟨⟨rfl, rfl⟩, by decide, rfl⟩ (Nat.le_of_ble_eq_true rfl) (Nat.le_of_ble_eq_true rfl) (s_39 hI_5 (fun c_70 y_73 hI_71 hF_72 hy_73 => ?_))
          refine bk_inl ?_
          refine v_bip rfl (by decide) ?_
          by_cases h_74 : y_73 ≠ 93
          · refine v_ic_ne_t (t := 31) rfl (by decide) (by omega) ?_
            refine q_aload_n rfl rfl ?_
            refine v_cv rfl rfl rfl rfl (by decide) ⟨⟨rfl, rfl⟩, by decide, rfl⟩ (Nat.le_of_ble_eq_true rfl) (Nat.le_of_ble_eq_true rfl) (s_3 hI_71 (fun c_75 y_78 hI_76 hF_77 hy_78 h_79 => ?_))
            refine bk_inl ?_
            have h_80 := ir_1_2 hI_76
            refine q_istore rfl (by decide) ?_
            refine q_aload_n rfl rfl ?_
            refine q_ldc_s rfl rfl rfl (by decide) ?_
            refine v_cv rfl rfl rfl rfl (by decide) ⟨⟨rfl, rfl⟩, by decide, rfl⟩ (Nat.le_of_ble_eq_true rfl) (Nat.le_of_ble_eq_true rfl) (s_10 hI_76 (q := 10) (nt := 41) (by decide) (by decide) (by decide) (fun c_81 y_84 hI_82 hF_83 hy_84 h_85 => ?_))
            refine bk_inl ?_
            have h_86 := ir_1_4 hI_82
            refine q_istore rfl (by decide) ?_
            refine q_iload rfl rfl ?_
            refine v_bip rfl (by decide) ?_
            by_cases h_87 : y_84 ≠ 7
            · refine v_ic_ne_t (t := 65) rfl (by decide) (by omega) ?_
              refine q_aload_n rfl rfl ?_
              refine v_cv rfl rfl rfl rfl (by decide) ⟨⟨rfl, rfl⟩, by decide, rfl⟩ (Nat.le_of_ble_eq_true rfl) (Nat.le_of_ble_eq_true rfl) ?_
              refine q_aload_n rfl rfl ?_
              refine v_gi (z := 4) (v := c_81 1 4) rfl rfl rfl (by decide) rfl rfl rfl ?_
              by_cases h_88 : c_81 1 4 ≠ 0
              · refine v_if_ne_t (t := 11) rfl (by decide) (by omega) ?_
                refine q_iconst rfl ?_
                refine v_zret rfl rfl (by omega) ?_
                refine bk_inl ?_
                refine v_if_eq_t (t := 117) rfl (by decide) (by decide) ?_
                refine q_aload_n rfl rfl ?_
                refine q_ldc_s rfl rfl rfl (by decide) ?_
                refine v_cv rfl rfl rfl rfl (by decide) ⟨⟨rfl, rfl⟩, by decide, rfl⟩ (Nat.le_of_ble_eq_true rfl) (Nat.le_of_ble_eq_true rfl) (s_11 hI_82 (q := 13) (nt := 1) (by decide) (by decide) (by decide) (fun c_89 hI_90 hF_91 => ?_))
                refine bk_inl ?_
                refine v_iinc (v := v4 + 1) rfl rfl (by decide) (by omega) ?_
                refine q_goto (t := 3) rfl (by decide) ?_
                refine Wp_ls [(0, .ref 7), (1, .ref 1), (2, .ref P), (3, vi a4), (4, vi (v4 + 1))] (lsub_cons rfl (lsub_cons rfl (lsub_cons rfl (lsub_cons rfl (lsub_cons rfl lsub_nil))))) ?_
                have h_92 : c_89 7 2 = c2 7 2 := ((hF_91 7 2 (by omega)).trans ((hF_83 7 2 (by omega)).trans ((hF_77 7 2 (by omega)).trans ((hF_72 7 2 (by omega)).trans (hF_6 7 2 (by omega))))))
                exact ih c_89 (v4 + 1) hI_90 (fun a j hm => (hF_91 a j (by omega)).trans ((hF_83 a j (by omega)).trans ((hF_77 a j (by omega)).trans ((hF_72 a j (by omega)).trans ((hF_6 a j (by omega)).trans (hF a j (by omega))))))) ⟨by omega, by omega⟩ (by omega) (by omega)
              · refine v_if_ne_f (t := 11) rfl (by decide) (by omega) ?_
                refine q_iconst rfl ?_
                refine q_goto (t := 12) rfl (by decide) ?_
                refine v_zret rfl rfl (by omega) ?_
                refine bk_inl ?_
                refine v_if_eq_f (t := 117) rfl (by decide) (by decide) ?_
                refine q_aload_n rfl rfl ?_
                refine v_gi (z := 2) (v := c2 7 2) rfl rfl rfl (by decide) rfl rfl ((hF_83 7 2 (by omega)).trans ((hF_77 7 2 (by omega)).trans ((hF_72 7 2 (by omega)).trans (hF_6 7 2 (by omega))))) ?_
                refine v_bip rfl (by decide) ?_
                by_cases h_93 : c2 7 2 ≥ 38
                · refine v_ic_ge_t (t := 117) rfl (by decide) (by omega) ?_
                  refine q_aload_n rfl rfl ?_
                  refine q_ldc_s rfl rfl rfl (by decide) ?_
                  refine v_cv rfl rfl rfl rfl (by decide) ⟨⟨rfl, rfl⟩, by decide, rfl⟩ (Nat.le_of_ble_eq_true rfl) (Nat.le_of_ble_eq_true rfl) (s_11 hI_82 (q := 13) (nt := 1) (by decide) (by decide) (by decide) (fun c_94 hI_95 hF_96 => ?_))
                  refine bk_inl ?_
                  refine v_iinc (v := v4 + 1) rfl rfl (by decide) (by omega) ?_
                  refine q_goto (t := 3) rfl (by decide) ?_
                  refine Wp_ls [(0, .ref 7), (1, .ref 1), (2, .ref P), (3, vi a4), (4, vi (v4 + 1))] (lsub_cons rfl (lsub_cons rfl (lsub_cons rfl (lsub_cons rfl (lsub_cons rfl lsub_nil))))) ?_
                  have h_97 : c_94 7 2 = c2 7 2 := ((hF_96 7 2 (by omega)).trans ((hF_83 7 2 (by omega)).trans ((hF_77 7 2 (by omega)).trans ((hF_72 7 2 (by omega)).trans (hF_6 7 2 (by omega))))))
                  exact ih c_94 (v4 + 1) hI_95 (fun a j hm => (hF_96 a j (by omega)).trans ((hF_83 a j (by omega)).trans ((hF_77 a j (by omega)).trans ((hF_72 a j (by omega)).trans ((hF_6 a j (by omega)).trans (hF a j (by omega))))))) ⟨by omega, by omega⟩ (by omega) (by omega)
                · refine v_ic_ge_f (t := 117) rfl (by decide) (by omega) ?_
                  refine q_aload_n rfl rfl ?_
                  refine v_gi (z := 2) (v := c2 7 2) rfl rfl rfl (by decide) rfl rfl ((hF_83 7 2 (by omega)).trans ((hF_77 7 2 (by omega)).trans ((hF_72 7 2 (by omega)).trans (hF_6 7 2 (by omega))))) ?_
                  refine q_iconst rfl ?_
                  refine v_imul (v := 5 * c2 7 2) rfl (by omega) ?_
                  refine q_istore rfl (by decide) ?_
                  refine q_aload_n rfl rfl ?_
                  refine q_dup rfl rfl ?_
                  refine v_gi (z := 2) (v := c2 7 2) rfl rfl rfl (by decide) rfl rfl ((hF_83 7 2 (by omega)).trans ((hF_77 7 2 (by omega)).trans ((hF_72 7 2 (by omega)).trans (hF_6 7 2 (by omega))))) ?_
                  refine q_iconst rfl ?_
                  refine v_iadd (v := c2 7 2 + 1) rfl (by omega) ?_
                  refine v_pi (z := 2) rfl rfl rfl (by decide) rfl rfl rfl (by decide) ?_
                  refine q_aload_n rfl rfl ?_
                  refine v_gr (t := 8) rfl rfl rfl (by decide) rfl ?_
                  refine q_iload rfl rfl ?_
                  refine q_iload rfl rfl ?_
                  refine v_is rfl rfl (by decide) (by decide) (by omega) ?_
                  refine q_aload_n rfl rfl ?_
                  refine q_aload_n rfl rfl ?_
                  refine q_aload_n rfl rfl ?_
                  refine q_iload rfl rfl ?_
                  refine q_iload_n rfl rfl ?_
                  have hI_98 := iw_7_2 (v := c2 7 2 + 1) hI_82 ⟨by omega, by omega⟩
                  have hI_99 := iw_8 (t := c2 7 2) (j := 5 * c2 7 2) (v := y_84) (iv_open8 hI_98) ⟨by omega, by omega⟩ ⟨by omega, by omega⟩ (by omega)
                  have h_100 : (up (up c_81 7 2 (c2 7 2 + 1)) 8 (5 * c2 7 2) y_84) 7 2 = c2 7 2 + 1 := ((up_c (by decide)).trans (up_e rfl))
                  have h_101 : (up (up c_81 7 2 (c2 7 2 + 1)) 8 (5 * c2 7 2) y_84) 8 (5 * c2 7 2) = y_84 := (up_e rfl)
                  refine v_cv rfl rfl rfl rfl (by decide) ⟨⟨rfl, rfl⟩, by decide, rfl⟩ (Nat.le_of_ble_eq_true rfl) (Nat.le_of_ble_eq_true rfl) (s_40 (t := c2 7 2) (a4 := a4) hI_99 (show 0 ≤ c2 7 2 ∧ c2 7 2 ≤ 37 from by omega) (show 0 ≤ a4 ∧ a4 ≤ 6 from by omega) (by omega) (by omega) H41 (fun c_102 hI_103 hF_104 h_105 => ?_))
                  refine bk_inl ?_
                  have h_106 := ir_7_2 hI_103
                  refine q_aload_n rfl rfl ?_
                  refine q_ldc_s rfl rfl rfl (by decide) ?_
                  refine v_cv rfl rfl rfl rfl (by decide) ⟨⟨rfl, rfl⟩, by decide, rfl⟩ (Nat.le_of_ble_eq_true rfl) (Nat.le_of_ble_eq_true rfl) (s_11 hI_103 (q := 13) (nt := 1) (by decide) (by decide) (by decide) (fun c_107 hI_108 hF_109 => ?_))
                  refine bk_inl ?_
                  refine v_iinc (v := v4 + 1) rfl rfl (by decide) (by omega) ?_
                  refine q_goto (t := 3) rfl (by decide) ?_
                  refine Wp_ls [(0, .ref 7), (1, .ref 1), (2, .ref P), (3, vi a4), (4, vi (v4 + 1))] (lsub_cons rfl (lsub_cons rfl (lsub_cons rfl (lsub_cons rfl (lsub_cons rfl lsub_nil))))) ?_
                  have h_110 : c_107 7 2 = c_102 7 2 := (hF_109 7 2 (by omega))
                  exact ih c_107 (v4 + 1) hI_108 (fun a j hm => (hF_109 a j (by omega)).trans ((hF_104 a j (by omega)).trans ((up_b (by omega)).trans ((up_b (by omega)).trans ((hF_83 a j (by omega)).trans ((hF_77 a j (by omega)).trans ((hF_72 a j (by omega)).trans ((hF_6 a j (by omega)).trans (hF a j (by omega)))))))))) ⟨by omega, by omega⟩ (by omega) (by omega)
            · refine v_ic_ne_f (t := 65) rfl (by decide) (by omega) ?_
              refine q_iload_n rfl rfl ?_
              refine v_bip rfl (by decide) ?_
              by_cases h_111 : a4 < 6
              · refine v_ic_lt_t (t := 65) rfl (by decide) (by omega) ?_
                refine q_aload_n rfl rfl ?_
                refine v_cv rfl rfl rfl rfl (by decide) ⟨⟨rfl, rfl⟩, by decide, rfl⟩ (Nat.le_of_ble_eq_true rfl) (Nat.le_of_ble_eq_true rfl) ?_
                refine q_aload_n rfl rfl ?_
                refine v_gi (z := 4) (v := c_81 1 4) rfl rfl rfl (by decide) rfl rfl rfl ?_
                by_cases h_112 : c_81 1 4 ≠ 0
                · refine v_if_ne_t (t := 11) rfl (by decide) (by omega) ?_
                  refine q_iconst rfl ?_
                  refine v_zret rfl rfl (by omega) ?_
                  refine bk_inl ?_
                  refine v_if_eq_t (t := 117) rfl (by decide) (by decide) ?_
                  refine q_aload_n rfl rfl ?_
                  refine q_ldc_s rfl rfl rfl (by decide) ?_
                  refine v_cv rfl rfl rfl rfl (by decide) ⟨⟨rfl, rfl⟩, by decide, rfl⟩ (Nat.le_of_ble_eq_true rfl) (Nat.le_of_ble_eq_true rfl) (s_11 hI_82 (q := 13) (nt := 1) (by decide) (by decide) (by decide) (fun c_113 hI_114 hF_115 => ?_))
                  refine bk_inl ?_
                  refine v_iinc (v := v4 + 1) rfl rfl (by decide) (by omega) ?_
                  refine q_goto (t := 3) rfl (by decide) ?_
                  refine Wp_ls [(0, .ref 7), (1, .ref 1), (2, .ref P), (3, vi a4), (4, vi (v4 + 1))] (lsub_cons rfl (lsub_cons rfl (lsub_cons rfl (lsub_cons rfl (lsub_cons rfl lsub_nil))))) ?_
                  have h_116 : c_113 7 2 = c2 7 2 := ((hF_115 7 2 (by omega)).trans ((hF_83 7 2 (by omega)).trans ((hF_77 7 2 (by omega)).trans ((hF_72 7 2 (by omega)).trans (hF_6 7 2 (by omega))))))
                  exact ih c_113 (v4 + 1) hI_114 (fun a j hm => (hF_115 a j (by omega)).trans ((hF_83 a j (by omega)).trans ((hF_77 a j (by omega)).trans ((hF_72 a j (by omega)).trans ((hF_6 a j (by omega)).trans (hF a j (by omega))))))) ⟨by omega, by omega⟩ (by omega) (by omega)
                · refine v_if_ne_f (t := 11) rfl (by decide) (by omega) ?_
                  refine q_iconst rfl ?_
                  refine q_goto (t := 12) rfl (by decide) ?_
                  refine v_zret rfl rfl (by omega) ?_
                  refine bk_inl ?_
                  refine v_if_eq_f (t := 117) rfl (by decide) (by decide) ?_
                  refine q_aload_n rfl rfl ?_
                  refine v_gi (z := 2) (v := c2 7 2) rfl rfl rfl (by decide) rfl rfl ((hF_83 7 2 (by omega)).trans ((hF_77 7 2 (by omega)).trans ((hF_72 7 2 (by omega)).trans (hF_6 7 2 (by omega))))) ?_
                  refine v_bip rfl (by decide) ?_
                  by_cases h_117 : c2 7 2 ≥ 38
                  · refine v_ic_ge_t (t := 117) rfl (by decide) (by omega) ?_
                    refine q_aload_n rfl rfl ?_
                    refine q_ldc_s rfl rfl rfl (by decide) ?_
                    refine v_cv rfl rfl rfl rfl (by decide) ⟨⟨rfl, rfl⟩, by decide, rfl⟩ (Nat.le_of_ble_eq_true rfl) (Nat.le_of_ble_eq_true rfl) (s_11 hI_82 (q := 13) (nt := 1) (by decide) (by decide) (by decide) (fun c_118 hI_119 hF_120 => ?_))
                    refine bk_inl ?_
                    refine v_iinc (v := v4 + 1) rfl rfl (by decide) (by omega) ?_
                    refine q_goto (t := 3) rfl (by decide) ?_
                    refine Wp_ls [(0, .ref 7), (1, .ref 1), (2, .ref P), (3, vi a4), (4, vi (v4 + 1))] (lsub_cons rfl (lsub_cons rfl (lsub_cons rfl (lsub_cons rfl (lsub_cons rfl lsub_nil))))) ?_
                    have h_121 : c_118 7 2 = c2 7 2 := ((hF_120 7 2 (by omega)).trans ((hF_83 7 2 (by omega)).trans ((hF_77 7 2 (by omega)).trans ((hF_72 7 2 (by omega)).trans (hF_6 7 2 (by omega))))))
                    exact ih c_118 (v4 + 1) hI_119 (fun a j hm => (hF_120 a j (by omega)).trans ((hF_83 a j (by omega)).trans ((hF_77 a j (by omega)).trans ((hF_72 a j (by omega)).trans ((hF_6 a j (by omega)).trans (hF a j (by omega))))))) ⟨by omega, by omega⟩ (by omega) (by omega)
                  · refine v_ic_ge_f (t := 117) rfl (by decide) (by omega) ?_
                    refine q_aload_n rfl rfl ?_
                    refine v_gi (z := 2) (v := c2 7 2) rfl rfl rfl (by decide) rfl rfl ((hF_83 7 2 (by omega)).trans ((hF_77 7 2 (by omega)).trans ((hF_72 7 2 (by omega)).trans (hF_6 7 2 (by omega))))) ?_
                    refine q_iconst rfl ?_
                    refine v_imul (v := 5 * c2 7 2) rfl (by omega) ?_
                    refine q_istore rfl (by decide) ?_
                    refine q_aload_n rfl rfl ?_
                    refine q_dup rfl rfl ?_
                    refine v_gi (z := 2) (v := c2 7 2) rfl rfl rfl (by decide) rfl rfl ((hF_83 7 2 (by omega)).trans ((hF_77 7 2 (by omega)).trans ((hF_72 7 2 (by omega)).trans (hF_6 7 2 (by omega))))) ?_
                    refine q_iconst rfl ?_
                    refine v_iadd (v := c2 7 2 + 1) rfl (by omega) ?_
                    refine v_pi (z := 2) rfl rfl rfl (by decide) rfl rfl rfl (by decide) ?_
                    refine q_aload_n rfl rfl ?_
                    refine v_gr (t := 8) rfl rfl rfl (by decide) rfl ?_
                    refine q_iload rfl rfl ?_
                    refine q_iload rfl rfl ?_
                    refine v_is rfl rfl (by decide) (by decide) (by omega) ?_
                    refine q_aload_n rfl rfl ?_
                    refine q_aload_n rfl rfl ?_
                    refine q_aload_n rfl rfl ?_
                    refine q_iload rfl rfl ?_
                    refine q_iload_n rfl rfl ?_
                    have hI_122 := iw_7_2 (v := c2 7 2 + 1) hI_82 ⟨by omega, by omega⟩
                    have hI_123 := iw_8 (t := c2 7 2) (j := 5 * c2 7 2) (v := y_84) (iv_open8 hI_122) ⟨by omega, by omega⟩ ⟨by omega, by omega⟩ (by omega)
                    have h_124 : (up (up c_81 7 2 (c2 7 2 + 1)) 8 (5 * c2 7 2) y_84) 7 2 = c2 7 2 + 1 := ((up_c (by decide)).trans (up_e rfl))
                    have h_125 : (up (up c_81 7 2 (c2 7 2 + 1)) 8 (5 * c2 7 2) y_84) 8 (5 * c2 7 2) = y_84 := (up_e rfl)
                    refine v_cv rfl rfl rfl rfl (by decide) ⟨⟨rfl, rfl⟩, by decide, rfl⟩ (Nat.le_of_ble_eq_true rfl) (Nat.le_of_ble_eq_true rfl) (s_40 (t := c2 7 2) (a4 := a4) hI_123 (show 0 ≤ c2 7 2 ∧ c2 7 2 ≤ 37 from by omega) (show 0 ≤ a4 ∧ a4 ≤ 6 from by omega) (by omega) (by omega) H41 (fun c_126 hI_127 hF_128 h_129 => ?_))
                    refine bk_inl ?_
                    have h_130 := ir_7_2 hI_127
                    refine q_aload_n rfl rfl ?_
                    refine q_ldc_s rfl rfl rfl (by decide) ?_
                    refine v_cv rfl rfl rfl rfl (by decide) ⟨⟨rfl, rfl⟩, by decide, rfl⟩ (Nat.le_of_ble_eq_true rfl) (Nat.le_of_ble_eq_true rfl) (s_11 hI_127 (q := 13) (nt := 1) (by decide) (by decide) (by decide) (fun c_131 hI_132 hF_133 => ?_))
                    refine bk_inl ?_
                    refine v_iinc (v := v4 + 1) rfl rfl (by decide) (by omega) ?_
                    refine q_goto (t := 3) rfl (by decide) ?_
                    refine Wp_ls [(0, .ref 7), (1, .ref 1), (2, .ref P), (3, vi a4), (4, vi (v4 + 1))] (lsub_cons rfl (lsub_cons rfl (lsub_cons rfl (lsub_cons rfl (lsub_cons rfl lsub_nil))))) ?_
                    have h_134 : c_131 7 2 = c_126 7 2 := (hF_133 7 2 (by omega))
                    exact ih c_131 (v4 + 1) hI_132 (fun a j hm => (hF_133 a j (by omega)).trans ((hF_128 a j (by omega)).trans ((up_b (by omega)).trans ((up_b (by omega)).trans ((hF_83 a j (by omega)).trans ((hF_77 a j (by omega)).trans ((hF_72 a j (by omega)).trans ((hF_6 a j (by omega)).trans (hF a j (by omega)))))))))) ⟨by omega, by omega⟩ (by omega) (by omega)
              · refine v_ic_lt_f (t := 65) rfl (by decide) (by omega) ?_
                refine q_aload_n rfl rfl ?_
                refine q_iconst rfl ?_
                refine q_iload rfl rfl ?_
                refine v_cv rfl rfl rfl rfl (by decide) ⟨⟨rfl, rfl⟩, by decide, rfl⟩ (Nat.le_of_ble_eq_true rfl) (Nat.le_of_ble_eq_true rfl) (s_7 (a1 := 3) (a2 := y_78) hI_82 (show 1 ≤ 3 ∧ 3 ≤ 3 from by omega) (show 0 ≤ y_78 ∧ y_78 ≤ 600 from by omega) (fun c_135 hI_136 hF_137 h_138 => ?_))
                refine bk_inl ?_
                have h_139 := ir_1_4 hI_136
                refine q_aload_n rfl rfl ?_
                refine v_cv rfl rfl rfl rfl (by decide) ⟨⟨rfl, rfl⟩, by decide, rfl⟩ (Nat.le_of_ble_eq_true rfl) (Nat.le_of_ble_eq_true rfl) ?_
                refine q_aload_n rfl rfl ?_
                refine v_gi (z := 4) (v := c_135 1 4) rfl rfl rfl (by decide) rfl rfl rfl ?_
                refine v_if_ne_t (t := 11) rfl (by decide) (by omega) ?_
                refine q_iconst rfl ?_
                refine v_zret rfl rfl (by omega) ?_
                refine bk_inl ?_
                refine v_if_eq_t (t := 117) rfl (by decide) (by decide) ?_
                refine q_aload_n rfl rfl ?_
                refine q_ldc_s rfl rfl rfl (by decide) ?_
                refine v_cv rfl rfl rfl rfl (by decide) ⟨⟨rfl, rfl⟩, by decide, rfl⟩ (Nat.le_of_ble_eq_true rfl) (Nat.le_of_ble_eq_true rfl) (s_11 hI_136 (q := 13) (nt := 1) (by decide) (by decide) (by decide) (fun c_140 hI_141 hF_142 => ?_))
                refine bk_inl ?_
                refine v_iinc (v := v4 + 1) rfl rfl (by decide) (by omega) ?_
                refine q_goto (t := 3) rfl (by decide) ?_
                refine Wp_ls [(0, .ref 7), (1, .ref 1), (2, .ref P), (3, vi a4), (4, vi (v4 + 1))] (lsub_cons rfl (lsub_cons rfl (lsub_cons rfl (lsub_cons rfl (lsub_cons rfl lsub_nil))))) ?_
                have h_143 : c_140 7 2 = c2 7 2 := ((hF_142 7 2 (by omega)).trans ((hF_137 7 2 (by omega)).trans ((hF_83 7 2 (by omega)).trans ((hF_77 7 2 (by omega)).trans ((hF_72 7 2 (by omega)).trans (hF_6 7 2 (by omega)))))))
                exact ih c_140 (v4 + 1) hI_141 (fun a j hm => (hF_142 a j (by omega)).trans ((hF_137 a j (by omega)).trans ((hF_83 a j (by omega)).trans ((hF_77 a j (by omega)).trans ((hF_72 a j (by omega)).trans ((hF_6 a j (by omega)).trans (hF a j (by omega)))))))) ⟨by omega, by omega⟩ (by omega) (by omega)
          · refine v_ic_ne_f (t := 31) rfl (by decide) (by omega) ?_
            refine q_vret rfl rfl ?_
            have h_144 : c_70 7 2 = c2 7 2 := ((hF_72 7 2 (by omega)).trans (hF_6 7 2 (by omega)))
            exact K c_70 hI_71 (fun a j hm => (hF_72 a j (by omega)).trans ((hF_6 a j (by omega)).trans (hF a j (by omega)))) (by omega)
set_option maxRecDepth 100000 in
set_option maxHeartbeats 4000000 in
theorem s_41 {sc : List Int32} {d u P Q : Nat} {c : ME} {a4 : Int} {Z : AR → Prop} (hI : Iv u (-1) P Q c) (ha4 : 0 ≤ a4 ∧ a4 ≤ 6) (H41 : ∀ (c : ME) (Z : AR → Prop), a4 + 1 ≤ 6 → Iv u (-1) P Q c → (∀ c2 : ME, Iv u (-1) P Q c2 → (∀ (a : Nat) (j : Int), ¬ ((a = 1 ∧ j = 2) ∨ (a = 1 ∧ j = 4) ∨ (a = 1 ∧ j = 5) ∨ (a = 7 ∧ j = 2) ∨ (a = 8 ∧ j ≥ 5 * c 7 2)) → c2 a j = c a j) → (c2 7 2 ≥ c 7 2) → Z (.inl none, Wd P Q P P c2, 0, 0)) → Wp sc (d + 10) 41 0 [(0, .ref 7), (1, .ref 1), (2, .ref P), (3, vi (a4 + 1))] [] (Wd P Q P P c) 0 0 Z) (K : ∀ (c2 : ME), Iv u (-1) P Q c2 → (∀ (a : Nat) (j : Int), ¬ ((a = 1 ∧ j = 2) ∨ (a = 1 ∧ j = 4) ∨ (a = 1 ∧ j = 5) ∨ (a = 7 ∧ j = 2) ∨ (a = 8 ∧ j ≥ 5 * c 7 2)) → c2 a j = c a j) → ((c2 7 2 ≥ c 7 2)) → Z (.inl (none), Wd P Q P P c2, 0, 0)) : Wp sc (d + 12) 41 0 [(0, .ref 7), (1, .ref 1), (2, .ref P), (3, vi a4)] [] (Wd P Q P P c) 0 0 Z := by
  have hP := iv_P hI
  have hQ := iv_Q hI
  refine q_iconst rfl ?_
  refine q_istore rfl (by decide) ?_
  refine Wp_ls [(0, .ref 7), (1, .ref 1), (2, .ref P), (3, vi a4), (4, vi 0)] (lsub_cons rfl (lsub_cons rfl (lsub_cons rfl (lsub_cons rfl (lsub_cons rfl lsub_nil))))) ?_
  have h_145 := ir_7_2 hI
  exact (s_41_l (sc := sc) (d := d) hI ha4 H41 K 80) c 0 hI (fun a j hm => rfl) ⟨by decide, by decide⟩ (by omega) (by omega)
set_option maxRecDepth 100000 in
set_option maxHeartbeats 4000000 in
theorem r_41_n {sc : List Int32} {d u P Q : Nat} : ∀ (m : Nat) (c : ME) (a4 : Int) (Z : AR → Prop), a4 + (m : Int) = 6 → 0 ≤ a4 → Iv u (-1) P Q c → (∀ c2 : ME, Iv u (-1) P Q c2 → (∀ (a : Nat) (j : Int), ¬ ((a = 1 ∧ j = 2) ∨ (a = 1 ∧ j = 4) ∨ (a = 1 ∧ j = 5) ∨ (a = 7 ∧ j = 2) ∨ (a = 8 ∧ j ≥ 5 * c 7 2)) → c2 a j = c a j) → (c2 7 2 ≥ c 7 2) → Z (.inl none, Wd P Q P P c2, 0, 0)) → Wp sc (d + 2 * m + 12) 41 0 [(0, .ref 7), (1, .ref 1), (2, .ref P), (3, vi a4)] [] (Wd P Q P P c) 0 0 Z
  | 0, c, a4, Z, hm, h0, hI, K => s_41 (d := d) (a4 := a4) hI (show 0 ≤ a4 ∧ a4 ≤ 6 from ⟨by omega, by omega⟩) (fun c9 Z9 hc => absurd hc (by omega)) K
  | m + 1, c, a4, Z, hm, h0, hI, K => by
    have ih := r_41_n (sc := sc) (d := d) (u := u) (P := P) (Q := Q) m
    rw [show d + 2 * (m + 1) + 12 = (d + 2 * m + 2) + 12 by omega]
    refine s_41 (d := d + 2 * m + 2) (a4 := a4) hI (show 0 ≤ a4 ∧ a4 ≤ 6 from ⟨by omega, by omega⟩) (fun c9 Z9 hc hI9 K9 => ?_) K
    have r := ih c9 (a4 + 1) Z9 (by omega) (by omega) hI9 K9
    rw [show d + 2 * m + 12 = (d + 2 * m + 2) + 10 by omega] at r
    exact r
set_option maxRecDepth 100000 in
set_option maxHeartbeats 4000000 in
theorem r_41 {sc : List Int32} {d u P Q : Nat} {c : ME} {a4 : Int} {Z : AR → Prop} (hI : Iv u (-1) P Q c) (ha4 : 0 ≤ a4 ∧ a4 ≤ 6) (K : (∀ c2 : ME, Iv u (-1) P Q c2 → (∀ (a : Nat) (j : Int), ¬ ((a = 1 ∧ j = 2) ∨ (a = 1 ∧ j = 4) ∨ (a = 1 ∧ j = 5) ∨ (a = 7 ∧ j = 2) ∨ (a = 8 ∧ j ≥ 5 * c 7 2)) → c2 a j = c a j) → (c2 7 2 ≥ c 7 2) → Z (.inl none, Wd P Q P P c2, 0, 0))) : Wp sc (d + 24) 41 0 [(0, .ref 7), (1, .ref 1), (2, .ref P), (3, vi a4)] [] (Wd P Q P P c) 0 0 Z := by
  obtain ⟨m, hm⟩ : ∃ m : Nat, (m : Int) = 6 - a4 := ⟨(6 - a4).toNat, by omega⟩
  rw [show d + 24 = (d + 12 - 2 * m) + 2 * m + 12 by omega]
  exact r_41_n m c a4 Z (by omega) (by omega) hI K

set_option maxRecDepth 100000 in
set_option maxHeartbeats 4000000 in
theorem s_42 {sc : List Int32} {d u P Q : Nat} {c : ME} {Z : AR → Prop} (hI : Iv u (-1) P Q c)  (K : ∀ (c2 : ME), Iv u (-1) P Q c2 → (∀ (a : Nat) (j : Int), ¬ ((a = 1 ∧ j = 2) ∨ (a = 1 ∧ j = 4) ∨ (a = 1 ∧ j = 5) ∨ (a = 7 ∧ j = 1) ∨ (a = 7 ∧ j = 2) ∨ (a = 7 ∧ j = 3) ∨ (a = 7 ∧ j = 4) ∨ a = 8) → c2 a j = c a j) → Z (.inl (none), Wd P Q P P c2, 0, 0)) : Wp sc (d + 25) 42 0 [(0, .ref 7), (1, .ref 1), (2, .ref P)] [] (Wd P Q P P c) 0 0 Z := by
  have hP := iv_P hI
  have hQ := iv_Q hI
  refine q_aload_n rfl rfl ?_
  refine q_iconst rfl ?_
  refine v_pi (z := 1) rfl rfl rfl (by decide) rfl rfl rfl (by decide) ?_
  refine q_aload_n rfl rfl ?_
  refine q_iconst rfl ?_
  refine v_pi (z := 2) rfl rfl rfl (by decide) rfl rfl rfl (by decide) ?_
  refine q_aload_n rfl rfl ?_
  refine q_iconst rfl ?_
  refine v_pi (z := 3) rfl rfl rfl (by decide) rfl rfl rfl (by decide) ?_
  refine q_aload_n rfl rfl ?_
  refine q_iconst rfl ?_
  refine v_pi (z := 4) rfl rfl rfl (by decide) rfl rfl rfl (by decide) ?_
  refine q_aload_n rfl rfl ?_
  refine q_aload_n rfl rfl ?_
  refine q_aload_n rfl rfl ?_
  refine q_iconst rfl ?_
  have hI_1 := iw_7_1 (v := 0) hI ⟨by decide, by decide⟩
  have hI_2 := iw_7_2 (v := 0) hI_1 ⟨by decide, by decide⟩
  have hI_3 := iw_7_3 (v := 0) hI_2 ⟨by decide, by decide⟩
  have hI_4 := iw_7_4 (v := 0) hI_3 ⟨by decide, by decide⟩
  have h_5 : (up (up (up (up c 7 1 0) 7 2 0) 7 3 0) 7 4 0) 7 2 = 0 := ((up_n (by decide)).trans ((up_n (by decide)).trans (up_e rfl)))
  have h_6 : (up (up (up (up c 7 1 0) 7 2 0) 7 3 0) 7 4 0) 7 2 = 0 := ((up_n (by decide)).trans ((up_n (by decide)).trans (up_e rfl)))
  refine v_cv rfl rfl rfl rfl (by decide) ⟨⟨rfl, rfl⟩, by decide, rfl⟩ (Nat.le_of_ble_eq_true rfl) (Nat.le_of_ble_eq_true rfl) (r_41 (a4 := 0) hI_4 (show 0 ≤ 0 ∧ 0 ≤ 6 from by omega) (fun c_7 hI_8 hF_9 h_10 => ?_))
  refine bk_inl ?_
  have h_11 := ir_7_2 hI_8
  refine q_vret rfl rfl ?_
  exact K c_7 hI_8 (fun a j hm => (hF_9 a j (by omega)).trans ((up_b (by omega)).trans ((up_b (by omega)).trans ((up_b (by omega)).trans (up_b (by omega))))))

set_option maxRecDepth 100000 in
set_option maxHeartbeats 4000000 in
theorem s_43 {sc : List Int32} {e : Int} {d u P Q sh s : Nat} {c : ME} {v1 v2 v3 v4 r : Int} {a1 : Int} {Z : AR → Prop} (hI : Iv u e P Q c) (hs : (sh = 37 ∧ s = 38) ∨ (sh = 39 ∧ s = 40)) (ha1 : 0 ≤ a1 ∧ a1 ≤ 5) (hv0 : c s (4 * a1) = v1) (hv1 : c s (4 * a1 + 1) = v2) (hv2 : c s (4 * a1 + 2) = v3) (hv3 : c s (4 * a1 + 3) = v4) (hr9 : v1 + v2 + v3 + v4 = r) (K : Z (.inl (some (vi r)), Wd P Q P P c, 0, 0)) : Wp sc (d + 7) 43 0 [(0, .ref sh), (1, vi a1)] [] (Wd P Q P P c) 0 0 Z := by
  have hP := iv_P hI
  have hQ := iv_Q hI
  have h_1 := ir_s_g hI hs (j := 4 * a1) (by omega)
  have h_2 := ir_s_g hI hs (j := 4 * a1 + 1) (by omega)
  have h_3 := ir_s_g hI hs (j := 4 * a1 + 2) (by omega)
  have h_4 := ir_s_g hI hs (j := 4 * a1 + 3) (by omega)
  refine q_iload_n rfl rfl ?_
  refine q_iconst rfl ?_
  refine v_imul (v := 4 * a1) rfl (by omega) ?_
  refine q_istore_n rfl (by decide) ?_
  refine q_aload_n rfl rfl ?_
  refine v_gr (t := s) rfl rfl (ck_sh hs) (by omega) rfl ?_
  refine q_iload_n rfl rfl ?_
  refine v_ia (v := v1) rfl (ck_s hs) (by omega) (by decide) (by omega) (hv0) ?_
  refine q_aload_n rfl rfl ?_
  refine v_gr (t := s) rfl rfl (ck_sh hs) (by omega) rfl ?_
  refine q_iload_n rfl rfl ?_
  refine q_iconst rfl ?_
  refine v_iadd (v := 4 * a1 + 1) rfl (by omega) ?_
  refine v_ia (v := v2) rfl (ck_s hs) (by omega) (by decide) (by omega) (hv1) ?_
  refine v_iadd (v := v1 + v2) rfl (by omega) ?_
  refine q_aload_n rfl rfl ?_
  refine v_gr (t := s) rfl rfl (ck_sh hs) (by omega) rfl ?_
  refine q_iload_n rfl rfl ?_
  refine q_iconst rfl ?_
  refine v_iadd (v := 4 * a1 + 2) rfl (by omega) ?_
  refine v_ia (v := v3) rfl (ck_s hs) (by omega) (by decide) (by omega) (hv2) ?_
  refine v_iadd (v := v1 + v2 + v3) rfl (by omega) ?_
  refine q_aload_n rfl rfl ?_
  refine v_gr (t := s) rfl rfl (ck_sh hs) (by omega) rfl ?_
  refine q_iload_n rfl rfl ?_
  refine q_iconst rfl ?_
  refine v_iadd (v := 4 * a1 + 3) rfl (by omega) ?_
  refine v_ia (v := v4) rfl (ck_s hs) (by omega) (by decide) (by omega) (hv3) ?_
  refine v_iadd (v := v1 + v2 + v3 + v4) rfl (by omega) ?_
  refine q_iret rfl rfl ?_
  exact zv (by omega) (K)

