/-! ===== contracts 14 ===== -/
set_option maxRecDepth 100000 in
set_option maxHeartbeats 4000000 in
theorem s_177 {sc : List Int32} {e : Int} {d u P Q : Nat} {c : ME} {a1 : Int} {Z : AR → Prop} (hI : Iv u e P Q c) (ha1 : (-2147483648) ≤ a1 ∧ a1 ≤ 2147483647) (K : ∀ (c2 : ME) (y : Int), Iv u e P Q c2 → (∀ (a : Nat) (j : Int), ¬ ((a = 41 ∧ j = 0) ∨ a = 42 ∨ (a = 41 ∧ j = 2) ∨ (a = 41 ∧ j = 3) ∨ (a = 41 ∧ j = 4) ∨ (a = 41 ∧ j = 5) ∨ (a = 41 ∧ j = 6) ∨ (a = 41 ∧ j = 7) ∨ (a = 41 ∧ j = 8) ∨ (a = 41 ∧ j = 29) ∨ (a = 41 ∧ j = 30) ∨ a = 50 ∨ a = 51 ∨ a = 52 ∨ a = 53) → c2 a j = c a j) → (-2147483648) ≤ y ∧ y ≤ 2147483647 → ((c2 41 2 = 0 ∧ a1 ≥ 0 ∧ a1 ≤ c 41 2 ∧ a1 ≤ 150) ∨ (c2 41 2 = c 41 2 ∧ a1 < 0) ∨ (c2 41 2 = c 41 2 ∧ a1 > c 41 2) ∨ (c2 41 2 = c 41 2 ∧ a1 > 150)) → Z (.inl (some (vi y)), Wd P Q P P c2, 0, 0)) : Wp sc (d + 41) 177 0 [(0, .ref 41), (1, vi a1)] [] (Wd P Q P P c) 0 0 Z := by
  have hP := iv_P hI
  have hQ := iv_Q hI
  refine q_aload_n rfl rfl ?_
  refine q_iconst rfl ?_
  refine v_pi (z := 0) rfl rfl rfl (by decide) rfl rfl rfl (by decide) ?_
  refine q_aload_n rfl rfl ?_
  refine q_iload_n rfl rfl ?_
  by_cases h_1 : a1 < 0
  · refine v_if_lt_t (t := 29) rfl (by decide) (by omega) ?_
    refine q_iconst rfl ?_
    refine q_iconst rfl ?_
    refine q_iconst rfl ?_
    refine v_cv rfl rfl rfl rfl (by decide) ⟨⟨rfl, rfl⟩, by decide, rfl⟩ (Nat.le_of_ble_eq_true rfl) (Nat.le_of_ble_eq_true rfl) ?_
    refine q_iload_n rfl rfl ?_
    refine v_if_ne_f (t := 26) rfl (by decide) (by decide) ?_
    refine q_aload_n rfl rfl ?_
    refine v_gi (z := 0) (v := 0) rfl rfl rfl (by decide) rfl rfl (up_e rfl) ?_
    refine v_if_ne_f (t := 26) rfl (by decide) (by decide) ?_
    refine q_aload_n rfl rfl ?_
    refine q_iload_n rfl rfl ?_
    refine v_pi (z := 0) rfl rfl rfl (by decide) rfl rfl rfl (by decide) ?_
    refine q_aload_n rfl rfl ?_
    refine v_gr (t := 42) rfl rfl rfl (by decide) rfl ?_
    refine q_iload_n rfl rfl ?_
    refine q_dup2 rfl ⟨rfl, rfl⟩ ?_
    have h_2 := ir_42 hI 1
    refine v_ia (v := c 42 1) rfl rfl (by decide) (by decide) (by decide) ((up_c (by decide)).trans (up_c (by decide))) ?_
    refine q_iconst rfl ?_
    refine v_iadd (v := c 42 1 + 1) rfl (by omega) ?_
    refine v_nrm (fun y_3 hy_3 => ?_)
    refine v_is rfl rfl (by decide) (by decide) (by decide) ?_
    refine q_aload_n rfl rfl ?_
    refine v_gi (z := 0) (v := 1) rfl rfl rfl (by decide) rfl rfl ((up_c (by decide)).trans (up_e rfl)) ?_
    refine v_if_ne_t (t := 37) rfl (by decide) (by decide) ?_
    refine q_iconst rfl ?_
    refine v_zret rfl rfl (by omega) ?_
    refine bk_inl ?_
    refine v_if_ne_f (t := 40) rfl (by decide) (by decide) ?_
    refine q_iconst rfl ?_
    refine q_iret rfl rfl ?_
    have hI_4 := iw_41_0 (v := 0) hI ⟨by decide, by decide⟩
    have hI_5 := iw_41_0 (v := 1) hI_4 ⟨by decide, by decide⟩
    have hI_6 := iw_42 (j := 1) (v := y_3) hI_5 ⟨by omega, by omega⟩
    have h_7 := ir_41_2 hI
    have h_8 : (up (up (up c 41 0 0) 41 0 1) 42 1 y_3) 41 2 = c 41 2 := ((up_c (by decide)).trans ((up_n (by decide)).trans (up_n (by decide))))
    exact K (up (up (up c 41 0 0) 41 0 1) 42 1 y_3) 0 hI_6 (fun a j hm => (up_b (Decidable.or_iff_not_imp_left.mpr (fun h1 h2 => hm (Or.inr (Or.inl (Decidable.not_not.mp h1)))))).trans ((up_b (Decidable.or_iff_not_imp_left.mpr (fun h1 h2 => hm (Or.inl ⟨Decidable.not_not.mp h1, h2⟩)))).trans (up_b (Decidable.or_iff_not_imp_left.mpr (fun h1 h2 => hm (Or.inl ⟨Decidable.not_not.mp h1, h2⟩)))))) ⟨by decide, by decide⟩ (by omega)
  · refine v_if_lt_f (t := 29) rfl (by decide) (by omega) ?_
    refine q_iload_n rfl rfl ?_
    refine q_aload_n rfl rfl ?_
    have h_9 := ir_41_2 hI
    refine v_gi (z := 2) (v := c 41 2) rfl rfl rfl (by decide) rfl rfl (up_n (by decide)) ?_
    by_cases h_10 : a1 > c 41 2
    · refine v_ic_gt_t (t := 29) rfl (by decide) (by omega) ?_
      refine q_iconst rfl ?_
      refine q_iconst rfl ?_
      refine q_iconst rfl ?_
      refine v_cv rfl rfl rfl rfl (by decide) ⟨⟨rfl, rfl⟩, by decide, rfl⟩ (Nat.le_of_ble_eq_true rfl) (Nat.le_of_ble_eq_true rfl) ?_
      refine q_iload_n rfl rfl ?_
      refine v_if_ne_f (t := 26) rfl (by decide) (by decide) ?_
      refine q_aload_n rfl rfl ?_
      refine v_gi (z := 0) (v := 0) rfl rfl rfl (by decide) rfl rfl (up_e rfl) ?_
      refine v_if_ne_f (t := 26) rfl (by decide) (by decide) ?_
      refine q_aload_n rfl rfl ?_
      refine q_iload_n rfl rfl ?_
      refine v_pi (z := 0) rfl rfl rfl (by decide) rfl rfl rfl (by decide) ?_
      refine q_aload_n rfl rfl ?_
      refine v_gr (t := 42) rfl rfl rfl (by decide) rfl ?_
      refine q_iload_n rfl rfl ?_
      refine q_dup2 rfl ⟨rfl, rfl⟩ ?_
      have h_11 := ir_42 hI 1
      refine v_ia (v := c 42 1) rfl rfl (by decide) (by decide) (by decide) ((up_c (by decide)).trans (up_c (by decide))) ?_
      refine q_iconst rfl ?_
      refine v_iadd (v := c 42 1 + 1) rfl (by omega) ?_
      refine v_nrm (fun y_12 hy_12 => ?_)
      refine v_is rfl rfl (by decide) (by decide) (by decide) ?_
      refine q_aload_n rfl rfl ?_
      refine v_gi (z := 0) (v := 1) rfl rfl rfl (by decide) rfl rfl ((up_c (by decide)).trans (up_e rfl)) ?_
      refine v_if_ne_t (t := 37) rfl (by decide) (by decide) ?_
      refine q_iconst rfl ?_
      refine v_zret rfl rfl (by omega) ?_
      refine bk_inl ?_
      refine v_if_ne_f (t := 40) rfl (by decide) (by decide) ?_
      refine q_iconst rfl ?_
      refine q_iret rfl rfl ?_
      have hI_13 := iw_41_0 (v := 0) hI ⟨by decide, by decide⟩
      have hI_14 := iw_41_0 (v := 1) hI_13 ⟨by decide, by decide⟩
      have hI_15 := iw_42 (j := 1) (v := y_12) hI_14 ⟨by omega, by omega⟩
      have h_16 : (up (up (up c 41 0 0) 41 0 1) 42 1 y_12) 41 2 = c 41 2 := ((up_c (by decide)).trans ((up_n (by decide)).trans (up_n (by decide))))
      exact K (up (up (up c 41 0 0) 41 0 1) 42 1 y_12) 0 hI_15 (fun a j hm => (up_b (Decidable.or_iff_not_imp_left.mpr (fun h1 h2 => hm (Or.inr (Or.inl (Decidable.not_not.mp h1)))))).trans ((up_b (Decidable.or_iff_not_imp_left.mpr (fun h1 h2 => hm (Or.inl ⟨Decidable.not_not.mp h1, h2⟩)))).trans (up_b (Decidable.or_iff_not_imp_left.mpr (fun h1 h2 => hm (Or.inl ⟨Decidable.not_not.mp h1, h2⟩)))))) ⟨by decide, by decide⟩ (by omega)
    · refine v_ic_gt_f (t := 29) rfl (by decide) (by omega) ?_
      refine q_iload_n rfl rfl ?_
      refine v_sip rfl (by decide) ?_
      by_cases h_17 : a1 > 150
      · refine v_ic_gt_t (t := 29) rfl (by decide) (by omega) ?_
        refine q_iconst rfl ?_
        refine q_iconst rfl ?_
        refine q_iconst rfl ?_
        refine v_cv rfl rfl rfl rfl (by decide) ⟨⟨rfl, rfl⟩, by decide, rfl⟩ (Nat.le_of_ble_eq_true rfl) (Nat.le_of_ble_eq_true rfl) ?_
        refine q_iload_n rfl rfl ?_
        refine v_if_ne_f (t := 26) rfl (by decide) (by decide) ?_
        refine q_aload_n rfl rfl ?_
        refine v_gi (z := 0) (v := 0) rfl rfl rfl (by decide) rfl rfl (up_e rfl) ?_
        refine v_if_ne_f (t := 26) rfl (by decide) (by decide) ?_
        refine q_aload_n rfl rfl ?_
        refine q_iload_n rfl rfl ?_
        refine v_pi (z := 0) rfl rfl rfl (by decide) rfl rfl rfl (by decide) ?_
        refine q_aload_n rfl rfl ?_
        refine v_gr (t := 42) rfl rfl rfl (by decide) rfl ?_
        refine q_iload_n rfl rfl ?_
        refine q_dup2 rfl ⟨rfl, rfl⟩ ?_
        have h_18 := ir_42 hI 1
        refine v_ia (v := c 42 1) rfl rfl (by decide) (by decide) (by decide) ((up_c (by decide)).trans (up_c (by decide))) ?_
        refine q_iconst rfl ?_
        refine v_iadd (v := c 42 1 + 1) rfl (by omega) ?_
        refine v_nrm (fun y_19 hy_19 => ?_)
        refine v_is rfl rfl (by decide) (by decide) (by decide) ?_
        refine q_aload_n rfl rfl ?_
        refine v_gi (z := 0) (v := 1) rfl rfl rfl (by decide) rfl rfl ((up_c (by decide)).trans (up_e rfl)) ?_
        refine v_if_ne_t (t := 37) rfl (by decide) (by decide) ?_
        refine q_iconst rfl ?_
        refine v_zret rfl rfl (by omega) ?_
        refine bk_inl ?_
        refine v_if_ne_f (t := 40) rfl (by decide) (by decide) ?_
        refine q_iconst rfl ?_
        refine q_iret rfl rfl ?_
        have hI_20 := iw_41_0 (v := 0) hI ⟨by decide, by decide⟩
        have hI_21 := iw_41_0 (v := 1) hI_20 ⟨by decide, by decide⟩
        have hI_22 := iw_42 (j := 1) (v := y_19) hI_21 ⟨by omega, by omega⟩
        have h_23 : (up (up (up c 41 0 0) 41 0 1) 42 1 y_19) 41 2 = c 41 2 := ((up_c (by decide)).trans ((up_n (by decide)).trans (up_n (by decide))))
        exact K (up (up (up c 41 0 0) 41 0 1) 42 1 y_19) 0 hI_22 (fun a j hm => (up_b (Decidable.or_iff_not_imp_left.mpr (fun h1 h2 => hm (Or.inr (Or.inl (Decidable.not_not.mp h1)))))).trans ((up_b (Decidable.or_iff_not_imp_left.mpr (fun h1 h2 => hm (Or.inl ⟨Decidable.not_not.mp h1, h2⟩)))).trans (up_b (Decidable.or_iff_not_imp_left.mpr (fun h1 h2 => hm (Or.inl ⟨Decidable.not_not.mp h1, h2⟩)))))) ⟨by decide, by decide⟩ (by omega)
      · refine v_ic_gt_f (t := 29) rfl (by decide) (by omega) ?_
        refine q_iconst rfl ?_
        refine q_goto (t := 30) rfl (by decide) ?_
        refine q_iconst rfl ?_
        refine q_iconst rfl ?_
        refine v_cv rfl rfl rfl rfl (by decide) ⟨⟨rfl, rfl⟩, by decide, rfl⟩ (Nat.le_of_ble_eq_true rfl) (Nat.le_of_ble_eq_true rfl) ?_
        refine q_iload_n rfl rfl ?_
        refine v_if_ne_t (t := 26) rfl (by decide) (by decide) ?_
        refine q_aload_n rfl rfl ?_
        refine v_gi (z := 0) (v := 0) rfl rfl rfl (by decide) rfl rfl (up_e rfl) ?_
        refine v_if_ne_f (t := 37) rfl (by decide) (by decide) ?_
        refine q_iconst rfl ?_
        refine q_goto (t := 38) rfl (by decide) ?_
        refine v_zret rfl rfl (by omega) ?_
        refine bk_inl ?_
        refine v_if_ne_t (t := 40) rfl (by decide) (by decide) ?_
        refine q_aload_n rfl rfl ?_
        refine q_iload_n rfl rfl ?_
        have hI_24 := iw_41_0 (v := 0) hI ⟨by decide, by decide⟩
        refine v_cv rfl rfl rfl rfl (by decide) ⟨⟨rfl, rfl⟩, by decide, rfl⟩ (Nat.le_of_ble_eq_true rfl) (Nat.le_of_ble_eq_true rfl) (s_163 (a1 := a1) hI_24 (show 0 ≤ a1 ∧ a1 ≤ 600 from by omega) (fun c_25 hI_26 hF_27 h_28 => ?_))
        refine bk_inl ?_
        have h_29 := ir_41_2 hI_26
        have h_30 := ir_41_3 hI_26
        have h_31 := ir_41_4 hI_26
        have h_32 := ir_41_5 hI_26
        have h_33 := ir_41_7 hI_26
        refine q_aload_n rfl rfl ?_
        refine q_iconst rfl ?_
        refine v_pi (z := 29) rfl rfl rfl (by decide) rfl rfl rfl (by decide) ?_
        refine q_aload_n rfl rfl ?_
        have hI_34 := iw_41_29 (v := 0) hI_26 ⟨by decide, by decide⟩
        have h_35 : (up c_25 41 29 0) 41 5 = c_25 41 5 := (up_n (by decide))
        have h_36 : (up c_25 41 29 0) 41 3 = c_25 41 3 := (up_n (by decide))
        have h_37 : (up c_25 41 29 0) 41 4 = c_25 41 4 := (up_n (by decide))
        have h_38 : (up c_25 41 29 0) 41 29 = 0 := (up_e rfl)
        have h_39 : (up c_25 41 29 0) 41 7 = c_25 41 7 := (up_n (by decide))
        obtain ⟨hW_40, hN_41⟩ := nw_zero (c := up c_25 41 29 0) ((up_e rfl))
        refine v_cv rfl rfl rfl rfl (by decide) ⟨⟨rfl, rfl⟩, by decide, rfl⟩ (Nat.le_of_ble_eq_true rfl) (Nat.le_of_ble_eq_true rfl) (r_174 (o := 0) hI_34 (show 0 ≤ 0 ∧ 0 ≤ 6 from by omega) hW_40 (by omega) (by omega) (by omega) (by omega) (by omega) (fun c_42 hI_43 hF_44 hW_45 h_46 h_47 h_48 h_49 h_50 => ?_))
        refine bk_inl ?_
        have h_51 := ir_41_4 hI_43
        have h_52 := ir_41_7 hI_43
        have h_53 := ir_41_29 hI_43
        have h_54 := ir_41_5 hI_43
        refine q_aload_n rfl rfl ?_
        refine v_cv rfl rfl rfl rfl (by decide) ⟨⟨rfl, rfl⟩, by decide, rfl⟩ (Nat.le_of_ble_eq_true rfl) (Nat.le_of_ble_eq_true rfl) ?_
        refine q_aload_n rfl rfl ?_
        refine v_gi (z := 5) (v := c_42 41 5) rfl rfl rfl (by decide) rfl rfl rfl ?_
        refine q_iconst rfl ?_
        by_cases h_55 : c_42 41 5 ≠ (-1)
        · refine v_ic_ne_t (t := 12) rfl (by decide) (by omega) ?_
          refine q_iconst rfl ?_
          refine v_zret rfl rfl (by omega) ?_
          refine bk_inl ?_
          refine v_if_eq_t (t := 77) rfl (by decide) (by decide) ?_
          refine q_aload_n rfl rfl ?_
          refine q_iconst rfl ?_
          refine v_cv rfl rfl rfl rfl (by decide) ⟨⟨rfl, rfl⟩, by decide, rfl⟩ (Nat.le_of_ble_eq_true rfl) (Nat.le_of_ble_eq_true rfl) (s_164 (a1 := 1) hI_43 (show (-2147483648) ≤ 1 ∧ 1 ≤ 2147483647 from by omega) (fun c_56 y_59 hI_57 hF_58 hy_59 => ?_))
          refine bk_inl ?_
          refine q_istore_n rfl (by decide) ?_
          refine q_aload_n rfl rfl ?_
          have kn_60 : Hid (c_56 41 5 = c_42 41 5) := hF_58 41 5 (by omega)
          refine v_gi (z := 5) (v := c_42 41 5) rfl rfl rfl (by decide) rfl rfl (hid kn_60) ?_
          refine q_iconst rfl ?_
          refine v_ic_eq_f (t := 93) rfl (by decide) (by omega) ?_
          refine q_iload_n rfl rfl ?_
          refine q_iret rfl rfl ?_
          have kn_61 : Hid (c_42 41 2 = c_25 41 2) := (hF_44 41 2 (by omega)).trans (up_n (by decide))
          have kn_62 : Hid (c_56 41 2 = c_25 41 2) := (hF_58 41 2 (by omega)).trans (hid kn_61)
          have h_63 : c_56 41 2 = c_25 41 2 := (hid kn_62)
          exact K c_56 y_59 hI_57 (fun a j hm => (hF_58 a j (fun h => hm (Or.inr (Or.inr (Or.inr (Or.inr (Or.inr (Or.inr (Or.inr (Or.inr (Or.inl h))))))))))).trans ((hF_44 a j (fun q => q.elim (fun h => hm (Or.inr (Or.inr (Or.inr (Or.inr (Or.inl h)))))) (fun q => q.elim (fun h => hm (Or.inr (Or.inr (Or.inr (Or.inr (Or.inr (Or.inl h))))))) (fun q => q.elim (fun h => hm (Or.inr (Or.inr (Or.inr (Or.inr (Or.inr (Or.inr (Or.inl h)))))))) (fun q => q.elim (fun h => hm (Or.inr (Or.inr (Or.inr (Or.inr (Or.inr (Or.inr (Or.inr (Or.inl h))))))))) (fun q => q.elim (fun h => hm (Or.inr (Or.inr (Or.inr (Or.inr (Or.inr (Or.inr (Or.inr (Or.inr (Or.inr (Or.inl h))))))))))) (fun q => q.elim (fun h => hm (Or.inr (Or.inr (Or.inr (Or.inr (Or.inr (Or.inr (Or.inr (Or.inr (Or.inr (Or.inr (Or.inr (Or.inl h))))))))))))) (fun h => hm (Or.inr (Or.inr (Or.inr (Or.inr (Or.inr (Or.inr (Or.inr (Or.inr (Or.inr (Or.inr (Or.inr (Or.inr (Or.inl h))))))))))))))))))))).trans ((up_b (Decidable.or_iff_not_imp_left.mpr (fun h1 h2 => hm (Or.inr (Or.inr (Or.inr (Or.inr (Or.inr (Or.inr (Or.inr (Or.inr (Or.inr (Or.inl ⟨Decidable.not_not.mp h1, h2⟩))))))))))))).trans ((hF_27 a j (fun q => q.elim (fun h => hm (Or.inr (Or.inr (Or.inl h)))) (fun q => q.elim (fun h => hm (Or.inr (Or.inr (Or.inr (Or.inl h))))) (fun q => q.elim (fun h => hm (Or.inr (Or.inr (Or.inr (Or.inr (Or.inl h)))))) (fun q => q.elim (fun h => hm (Or.inr (Or.inr (Or.inr (Or.inr (Or.inr (Or.inl h))))))) (fun q => q.elim (fun h => hm (Or.inr (Or.inr (Or.inr (Or.inr (Or.inr (Or.inr (Or.inr (Or.inl h))))))))) (fun h => hm (Or.inr (Or.inr (Or.inr (Or.inr (Or.inr (Or.inr (Or.inr (Or.inr (Or.inl h)))))))))))))))).trans (up_b (Decidable.or_iff_not_imp_left.mpr (fun h1 h2 => hm (Or.inl ⟨Decidable.not_not.mp h1, h2⟩)))))))) ⟨by omega, by omega⟩ (by omega)
        · refine v_ic_ne_f (t := 12) rfl (by decide) (by omega) ?_
          refine q_iconst rfl ?_
          refine q_goto (t := 13) rfl (by decide) ?_
          refine v_zret rfl rfl (by omega) ?_
          refine bk_inl ?_
          refine v_if_eq_f (t := 77) rfl (by decide) (by decide) ?_
          refine q_aload_n rfl rfl ?_
          have kn_64 : Hid (c_42 41 3 = c_25 41 3) := (hF_44 41 3 (by omega)).trans (up_n (by decide))
          have h_65 : c_42 41 3 = c_25 41 3 := (hid kn_64)
          refine v_cv rfl rfl rfl rfl (by decide) ⟨⟨rfl, rfl⟩, by decide, rfl⟩ (Nat.le_of_ble_eq_true rfl) (Nat.le_of_ble_eq_true rfl) (s_162 hI_43 (fun c_66 y_69 hI_67 hF_68 hy_69 h_70 h_71 h_72 => ?_))
          refine bk_inl ?_
          have h_73 := ir_41_4 hI_67
          by_cases h_74 : y_69 = 0
          · refine v_if_eq_t (t := 77) rfl (by decide) (by omega) ?_
            refine q_aload_n rfl rfl ?_
            refine q_iconst rfl ?_
            refine v_cv rfl rfl rfl rfl (by decide) ⟨⟨rfl, rfl⟩, by decide, rfl⟩ (Nat.le_of_ble_eq_true rfl) (Nat.le_of_ble_eq_true rfl) (s_164 (a1 := 1) hI_67 (show (-2147483648) ≤ 1 ∧ 1 ≤ 2147483647 from by omega) (fun c_75 y_78 hI_76 hF_77 hy_78 => ?_))
            refine bk_inl ?_
            refine q_istore_n rfl (by decide) ?_
            refine q_aload_n rfl rfl ?_
            have kn_79 : Hid (c_66 41 5 = c_42 41 5) := hF_68 41 5 (by omega)
            have kn_80 : Hid (c_75 41 5 = c_42 41 5) := (hF_77 41 5 (by omega)).trans (hid kn_79)
            refine v_gi (z := 5) (v := c_42 41 5) rfl rfl rfl (by decide) rfl rfl (hid kn_80) ?_
            refine q_iconst rfl ?_
            refine v_ic_eq_t (t := 93) rfl (by decide) (by omega) ?_
            refine q_aload_n rfl rfl ?_
            refine q_aload_n rfl rfl ?_
            have kn_81 : Hid (c_66 41 29 = c_42 41 29) := hF_68 41 29 (by omega)
            have kn_82 : Hid (c_75 41 29 = c_42 41 29) := (hF_77 41 29 (by omega)).trans (hid kn_81)
            refine v_gi (z := 29) (v := c_42 41 29) rfl rfl rfl (by decide) rfl rfl (hid kn_82) ?_
            refine v_pi (z := 30) rfl rfl rfl (by decide) rfl rfl rfl (by decide) ?_
            refine q_aload_n rfl rfl ?_
            refine q_aload_n rfl rfl ?_
            refine v_gr (t := 50) rfl rfl rfl (by decide) rfl ?_
            refine q_aload_n rfl rfl ?_
            refine v_gr (t := 52) rfl rfl rfl (by decide) rfl ?_
            refine q_aload_n rfl rfl ?_
            refine v_gi (z := 29) (v := c_42 41 29) rfl rfl rfl (by decide) rfl rfl ((up_n (by decide)).trans (hid kn_82)) ?_
            obtain ⟨hW_83, hN_84⟩ : Nw c_75 ∧ Nh c_75 = Nh c_42 := nh_fr hW_45 (fun j => (hF_77 50 j (by omega)).trans (hF_68 50 j (by omega))) (fun j => (hF_77 51 j (by omega)).trans (hF_68 51 j (by omega))) ((hF_77 41 29 (by omega)).trans (hF_68 41 29 (by omega)))
            refine v_cv rfl rfl rfl rfl (by decide) ⟨⟨rfl, rfl⟩, by decide, rfl⟩ (Nat.le_of_ble_eq_true rfl) (Nat.le_of_ble_eq_true rfl) (s_148 (f := 50) (t := 52) (nf := 150) (nt := 150) (n := c_42 41 29) rfl rfl (by decide) (by decide) (by decide) (by decide) (by decide) (by omega) ?_)
            refine bk_inl ?_
            refine q_aload_n rfl rfl ?_
            refine q_aload_n rfl rfl ?_
            refine v_gr (t := 51) rfl rfl rfl (by decide) rfl ?_
            refine q_aload_n rfl rfl ?_
            refine v_gr (t := 53) rfl rfl rfl (by decide) rfl ?_
            refine q_aload_n rfl rfl ?_
            refine v_gi (z := 29) (v := c_42 41 29) rfl rfl rfl (by decide) rfl rfl ((upc_c (by omega)).trans ((up_n (by decide)).trans (hid kn_82))) ?_
            refine v_cv rfl rfl rfl rfl (by decide) ⟨⟨rfl, rfl⟩, by decide, rfl⟩ (Nat.le_of_ble_eq_true rfl) (Nat.le_of_ble_eq_true rfl) (s_148 (f := 51) (t := 53) (nf := 150) (nt := 150) (n := c_42 41 29) rfl rfl (by decide) (by decide) (by decide) (by decide) (by decide) (by omega) ?_)
            refine bk_inl ?_
            refine q_iload_n rfl rfl ?_
            refine q_iret rfl rfl ?_
            have hI_85 : Iv u e P Q (upc (upc (up c_75 41 30 (c_42 41 29)) 50 0 52 0 (c_42 41 29)) 51 0 53 0 (c_42 41 29)) := iv_law (n := c_42 41 29) hI_76 hW_83 (show c_75 41 29 = c_42 41 29 from (hid kn_82)) (by omega)
            have kn_86 : Hid (c_42 41 2 = c_25 41 2) := (hF_44 41 2 (by omega)).trans (up_n (by decide))
            have kn_87 : Hid (c_66 41 2 = c_25 41 2) := (hF_68 41 2 (by omega)).trans (hid kn_86)
            have kn_88 : Hid (c_75 41 2 = c_25 41 2) := (hF_77 41 2 (by omega)).trans (hid kn_87)
            have h_89 : (upc (upc (up c_75 41 30 (c_42 41 29)) 50 0 52 0 (c_42 41 29)) 51 0 53 0 (c_42 41 29)) 41 2 = c_25 41 2 := ((upc_c (by omega)).trans ((upc_c (by omega)).trans ((up_n (by decide)).trans (hid kn_88))))
            exact K (upc (upc (up c_75 41 30 (c_42 41 29)) 50 0 52 0 (c_42 41 29)) 51 0 53 0 (c_42 41 29)) y_78 hI_85 (fun a j hm => (upc_c (fun h => hm (Or.inr (Or.inr (Or.inr (Or.inr (Or.inr (Or.inr (Or.inr (Or.inr (Or.inr (Or.inr (Or.inr (Or.inr (Or.inr (Or.inr h)))))))))))))))).trans ((upc_c (fun h => hm (Or.inr (Or.inr (Or.inr (Or.inr (Or.inr (Or.inr (Or.inr (Or.inr (Or.inr (Or.inr (Or.inr (Or.inr (Or.inr (Or.inl h)))))))))))))))).trans ((up_b (Decidable.or_iff_not_imp_left.mpr (fun h1 h2 => hm (Or.inr (Or.inr (Or.inr (Or.inr (Or.inr (Or.inr (Or.inr (Or.inr (Or.inr (Or.inr (Or.inl ⟨Decidable.not_not.mp h1, h2⟩)))))))))))))).trans ((hF_77 a j (fun h => hm (Or.inr (Or.inr (Or.inr (Or.inr (Or.inr (Or.inr (Or.inr (Or.inr (Or.inl h))))))))))).trans ((hF_68 a j (fun h => hm (Or.inr (Or.inr (Or.inr (Or.inr (Or.inl h))))))).trans ((hF_44 a j (fun q => q.elim (fun h => hm (Or.inr (Or.inr (Or.inr (Or.inr (Or.inl h)))))) (fun q => q.elim (fun h => hm (Or.inr (Or.inr (Or.inr (Or.inr (Or.inr (Or.inl h))))))) (fun q => q.elim (fun h => hm (Or.inr (Or.inr (Or.inr (Or.inr (Or.inr (Or.inr (Or.inl h)))))))) (fun q => q.elim (fun h => hm (Or.inr (Or.inr (Or.inr (Or.inr (Or.inr (Or.inr (Or.inr (Or.inl h))))))))) (fun q => q.elim (fun h => hm (Or.inr (Or.inr (Or.inr (Or.inr (Or.inr (Or.inr (Or.inr (Or.inr (Or.inr (Or.inl h))))))))))) (fun q => q.elim (fun h => hm (Or.inr (Or.inr (Or.inr (Or.inr (Or.inr (Or.inr (Or.inr (Or.inr (Or.inr (Or.inr (Or.inr (Or.inl h))))))))))))) (fun h => hm (Or.inr (Or.inr (Or.inr (Or.inr (Or.inr (Or.inr (Or.inr (Or.inr (Or.inr (Or.inr (Or.inr (Or.inr (Or.inl h))))))))))))))))))))).trans ((up_b (Decidable.or_iff_not_imp_left.mpr (fun h1 h2 => hm (Or.inr (Or.inr (Or.inr (Or.inr (Or.inr (Or.inr (Or.inr (Or.inr (Or.inr (Or.inl ⟨Decidable.not_not.mp h1, h2⟩))))))))))))).trans ((hF_27 a j (fun q => q.elim (fun h => hm (Or.inr (Or.inr (Or.inl h)))) (fun q => q.elim (fun h => hm (Or.inr (Or.inr (Or.inr (Or.inl h))))) (fun q => q.elim (fun h => hm (Or.inr (Or.inr (Or.inr (Or.inr (Or.inl h)))))) (fun q => q.elim (fun h => hm (Or.inr (Or.inr (Or.inr (Or.inr (Or.inr (Or.inl h))))))) (fun q => q.elim (fun h => hm (Or.inr (Or.inr (Or.inr (Or.inr (Or.inr (Or.inr (Or.inr (Or.inl h))))))))) (fun h => hm (Or.inr (Or.inr (Or.inr (Or.inr (Or.inr (Or.inr (Or.inr (Or.inr (Or.inl h)))))))))))))))).trans (up_b (Decidable.or_iff_not_imp_left.mpr (fun h1 h2 => hm (Or.inl ⟨Decidable.not_not.mp h1, h2⟩)))))))))))) ⟨by omega, by omega⟩ (by omega)
          · refine v_if_eq_f (t := 77) rfl (by decide) (by omega) ?_
            refine q_aload_n rfl rfl ?_
            refine q_iconst rfl ?_
            refine q_aload_n rfl rfl ?_
            refine v_gi (z := 4) (v := c_66 41 4) rfl rfl rfl (by decide) rfl rfl rfl ?_
            refine v_cv rfl rfl rfl rfl (by decide) ⟨⟨rfl, rfl⟩, by decide, rfl⟩ (Nat.le_of_ble_eq_true rfl) (Nat.le_of_ble_eq_true rfl) (s_153 (a1 := 1) (a2 := c_66 41 4) hI_67 (show 1 ≤ 1 ∧ 1 ≤ 3 from by omega) (show 0 ≤ c_66 41 4 ∧ c_66 41 4 ≤ 605 from by omega) (fun c_90 hI_91 hF_92 h_93 => ?_))
            refine bk_inl ?_
            have h_94 := ir_41_5 hI_91
            refine q_aload_n rfl rfl ?_
            refine q_iconst rfl ?_
            refine v_cv rfl rfl rfl rfl (by decide) ⟨⟨rfl, rfl⟩, by decide, rfl⟩ (Nat.le_of_ble_eq_true rfl) (Nat.le_of_ble_eq_true rfl) (s_164 (a1 := 1) hI_91 (show (-2147483648) ≤ 1 ∧ 1 ≤ 2147483647 from by omega) (fun c_95 y_98 hI_96 hF_97 hy_98 => ?_))
            refine bk_inl ?_
            refine q_istore_n rfl (by decide) ?_
            refine q_aload_n rfl rfl ?_
            have kn_99 : Hid (c_95 41 5 = c_90 41 5) := hF_97 41 5 (by omega)
            refine v_gi (z := 5) (v := c_90 41 5) rfl rfl rfl (by decide) rfl rfl (hid kn_99) ?_
            refine q_iconst rfl ?_
            refine v_ic_eq_f (t := 93) rfl (by decide) (by omega) ?_
            refine q_iload_n rfl rfl ?_
            refine q_iret rfl rfl ?_
            have kn_100 : Hid (c_42 41 2 = c_25 41 2) := (hF_44 41 2 (by omega)).trans (up_n (by decide))
            have kn_101 : Hid (c_66 41 2 = c_25 41 2) := (hF_68 41 2 (by omega)).trans (hid kn_100)
            have kn_102 : Hid (c_90 41 2 = c_25 41 2) := (hF_92 41 2 (by omega)).trans (hid kn_101)
            have kn_103 : Hid (c_95 41 2 = c_25 41 2) := (hF_97 41 2 (by omega)).trans (hid kn_102)
            have h_104 : c_95 41 2 = c_25 41 2 := (hid kn_103)
            exact K c_95 y_98 hI_96 (fun a j hm => (hF_97 a j (fun h => hm (Or.inr (Or.inr (Or.inr (Or.inr (Or.inr (Or.inr (Or.inr (Or.inr (Or.inl h))))))))))).trans ((hF_92 a j (fun q => q.elim (fun h => hm (Or.inr (Or.inr (Or.inr (Or.inr (Or.inr (Or.inl h))))))) (fun h => hm (Or.inr (Or.inr (Or.inr (Or.inr (Or.inr (Or.inr (Or.inl h)))))))))).trans ((hF_68 a j (fun h => hm (Or.inr (Or.inr (Or.inr (Or.inr (Or.inl h))))))).trans ((hF_44 a j (fun q => q.elim (fun h => hm (Or.inr (Or.inr (Or.inr (Or.inr (Or.inl h)))))) (fun q => q.elim (fun h => hm (Or.inr (Or.inr (Or.inr (Or.inr (Or.inr (Or.inl h))))))) (fun q => q.elim (fun h => hm (Or.inr (Or.inr (Or.inr (Or.inr (Or.inr (Or.inr (Or.inl h)))))))) (fun q => q.elim (fun h => hm (Or.inr (Or.inr (Or.inr (Or.inr (Or.inr (Or.inr (Or.inr (Or.inl h))))))))) (fun q => q.elim (fun h => hm (Or.inr (Or.inr (Or.inr (Or.inr (Or.inr (Or.inr (Or.inr (Or.inr (Or.inr (Or.inl h))))))))))) (fun q => q.elim (fun h => hm (Or.inr (Or.inr (Or.inr (Or.inr (Or.inr (Or.inr (Or.inr (Or.inr (Or.inr (Or.inr (Or.inr (Or.inl h))))))))))))) (fun h => hm (Or.inr (Or.inr (Or.inr (Or.inr (Or.inr (Or.inr (Or.inr (Or.inr (Or.inr (Or.inr (Or.inr (Or.inr (Or.inl h))))))))))))))))))))).trans ((up_b (Decidable.or_iff_not_imp_left.mpr (fun h1 h2 => hm (Or.inr (Or.inr (Or.inr (Or.inr (Or.inr (Or.inr (Or.inr (Or.inr (Or.inr (Or.inl ⟨Decidable.not_not.mp h1, h2⟩))))))))))))).trans ((hF_27 a j (fun q => q.elim (fun h => hm (Or.inr (Or.inr (Or.inl h)))) (fun q => q.elim (fun h => hm (Or.inr (Or.inr (Or.inr (Or.inl h))))) (fun q => q.elim (fun h => hm (Or.inr (Or.inr (Or.inr (Or.inr (Or.inl h)))))) (fun q => q.elim (fun h => hm (Or.inr (Or.inr (Or.inr (Or.inr (Or.inr (Or.inl h))))))) (fun q => q.elim (fun h => hm (Or.inr (Or.inr (Or.inr (Or.inr (Or.inr (Or.inr (Or.inr (Or.inl h))))))))) (fun h => hm (Or.inr (Or.inr (Or.inr (Or.inr (Or.inr (Or.inr (Or.inr (Or.inr (Or.inl h)))))))))))))))).trans (up_b (Decidable.or_iff_not_imp_left.mpr (fun h1 h2 => hm (Or.inl ⟨Decidable.not_not.mp h1, h2⟩)))))))))) ⟨by omega, by omega⟩ (by omega)

set_option maxRecDepth 100000 in
set_option maxHeartbeats 4000000 in
theorem s_178 {sc : List Int32} {e : Int} {d u P Q : Nat} {c : ME} {a0 : Int} {a1 : Int} {a2 : Int} {Z : AR → Prop} (hI : Iv u e P Q c) (ha0 : (-2147483648) ≤ a0 ∧ a0 ≤ 2147483647) (ha1 : (-2147483648) ≤ a1 ∧ a1 ≤ 2147483647) (ha2 : (-2147483648) ≤ a2 ∧ a2 ≤ 2147483647) (K : ∀ (y : Int), (-2147483648) ≤ y ∧ y ≤ 2147483647 → Z (.inl (some (vi y)), Wd P Q P P c, 0, 0)) : Wp sc (d + 7) 178 0 [(0, vi a0), (1, vi a1), (2, vi a2)] [] (Wd P Q P P c) 0 0 Z := by
  have hP := iv_P hI
  have hQ := iv_Q hI
  refine q_iload_n rfl rfl ?_
  refine q_iconst rfl ?_
  by_cases h_1 : a0 ≠ 2
  · refine v_ic_ne_t (t := 9) rfl (by decide) (by omega) ?_
    refine q_iload_n rfl rfl ?_
    refine q_iconst rfl ?_
    by_cases h_2 : a0 ≠ 3
    · refine v_ic_ne_t (t := 18) rfl (by decide) (by omega) ?_
      refine q_iload_n rfl rfl ?_
      refine q_iconst rfl ?_
      by_cases h_3 : a0 ≠ 4
      · refine v_ic_ne_t (t := 27) rfl (by decide) (by omega) ?_
        refine q_iload_n rfl rfl ?_
        refine q_iconst rfl ?_
        by_cases h_4 : a0 = 5
        · refine v_ic_eq_t (t := 38) rfl (by decide) (by omega) ?_
          refine q_iload_n rfl rfl ?_
          by_cases h_5 : a2 ≠ 0
          · refine v_if_ne_t (t := 46) rfl (by decide) (by omega) ?_
            refine q_iload_n rfl rfl ?_
            refine q_iconst rfl ?_
            refine v_ic_ne_f (t := 57) rfl (by decide) (by omega) ?_
            refine q_iload_n rfl rfl ?_
            refine q_iload_n rfl rfl ?_
            refine v_idivx rfl ⟨by omega, by omega, by omega⟩ (fun y_6 hy_6 => ?_)
            refine q_goto (t := 60) rfl (by decide) ?_
            refine q_iret rfl rfl ?_
            exact K y_6 ⟨by omega, by omega⟩
          · refine v_if_ne_f (t := 46) rfl (by decide) (by omega) ?_
            refine q_iconst rfl ?_
            refine q_goto (t := 60) rfl (by decide) ?_
            refine q_iret rfl rfl ?_
            exact K 0 ⟨by decide, by decide⟩
        · refine v_ic_eq_f (t := 38) rfl (by decide) (by omega) ?_
          refine q_iload_n rfl rfl ?_
          refine v_bip rfl (by decide) ?_
          by_cases h_7 : a0 ≠ 8
          · refine v_ic_ne_t (t := 61) rfl (by decide) (by omega) ?_
            refine q_iload_n rfl rfl ?_
            refine q_iload_n rfl rfl ?_
            by_cases h_8 : a1 ≥ a2
            · refine v_ic_ge_t (t := 70) rfl (by decide) (by omega) ?_
              refine q_iconst rfl ?_
              refine q_iload_n rfl rfl ?_
              refine v_bip rfl (by decide) ?_
              by_cases h_9 : a0 ≠ 6
              · refine v_ic_ne_t (t := 81) rfl (by decide) (by omega) ?_
                refine q_iconst rfl ?_
                refine v_ic_ne_f (t := 89) rfl (by decide) (by decide) ?_
                refine q_iload_n rfl rfl ?_
                refine q_goto (t := 90) rfl (by decide) ?_
                refine q_iret rfl rfl ?_
                exact K a1 ⟨by omega, by omega⟩
              · refine v_ic_ne_f (t := 81) rfl (by decide) (by omega) ?_
                refine q_iconst rfl ?_
                refine q_goto (t := 82) rfl (by decide) ?_
                refine v_ic_ne_t (t := 89) rfl (by decide) (by decide) ?_
                refine q_iload_n rfl rfl ?_
                refine q_iret rfl rfl ?_
                exact K a2 ⟨by omega, by omega⟩
            · refine v_ic_ge_f (t := 70) rfl (by decide) (by omega) ?_
              refine q_iconst rfl ?_
              refine q_goto (t := 71) rfl (by decide) ?_
              refine q_iload_n rfl rfl ?_
              refine v_bip rfl (by decide) ?_
              by_cases h_10 : a0 ≠ 6
              · refine v_ic_ne_t (t := 81) rfl (by decide) (by omega) ?_
                refine q_iconst rfl ?_
                refine v_ic_ne_t (t := 89) rfl (by decide) (by decide) ?_
                refine q_iload_n rfl rfl ?_
                refine q_iret rfl rfl ?_
                exact K a2 ⟨by omega, by omega⟩
              · refine v_ic_ne_f (t := 81) rfl (by decide) (by omega) ?_
                refine q_iconst rfl ?_
                refine q_goto (t := 82) rfl (by decide) ?_
                refine v_ic_ne_f (t := 89) rfl (by decide) (by decide) ?_
                refine q_iload_n rfl rfl ?_
                refine q_goto (t := 90) rfl (by decide) ?_
                refine q_iret rfl rfl ?_
                exact K a1 ⟨by omega, by omega⟩
          · refine v_ic_ne_f (t := 61) rfl (by decide) (by omega) ?_
            refine q_iload_n rfl rfl ?_
            by_cases h_11 : a2 ≠ 0
            · refine v_if_ne_t (t := 46) rfl (by decide) (by omega) ?_
              refine q_iload_n rfl rfl ?_
              refine q_iconst rfl ?_
              refine v_ic_ne_t (t := 57) rfl (by decide) (by omega) ?_
              refine q_iload_n rfl rfl ?_
              refine q_iload_n rfl rfl ?_
              refine v_iremx rfl ⟨by omega, by omega, by omega⟩ (fun y_12 hy_12 => ?_)
              refine q_iret rfl rfl ?_
              exact K y_12 ⟨by omega, by omega⟩
            · refine v_if_ne_f (t := 46) rfl (by decide) (by omega) ?_
              refine q_iconst rfl ?_
              refine q_goto (t := 60) rfl (by decide) ?_
              refine q_iret rfl rfl ?_
              exact K 0 ⟨by decide, by decide⟩
      · refine v_ic_ne_f (t := 27) rfl (by decide) (by omega) ?_
        refine q_iload_n rfl rfl ?_
        refine q_iload_n rfl rfl ?_
        refine v_imul (v := (a1 * a2)) rfl rfl ?_
        refine v_nrm (fun y_13 hy_13 => ?_)
        refine q_iret rfl rfl ?_
        exact K y_13 ⟨by omega, by omega⟩
    · refine v_ic_ne_f (t := 18) rfl (by decide) (by omega) ?_
      refine q_iload_n rfl rfl ?_
      refine q_iload_n rfl rfl ?_
      refine v_isub (v := a1 - a2) rfl (by omega) ?_
      refine v_nrm (fun y_14 hy_14 => ?_)
      refine q_iret rfl rfl ?_
      exact K y_14 ⟨by omega, by omega⟩
  · refine v_ic_ne_f (t := 9) rfl (by decide) (by omega) ?_
    refine q_iload_n rfl rfl ?_
    refine q_iload_n rfl rfl ?_
    refine v_iadd (v := a1 + a2) rfl (by omega) ?_
    refine v_nrm (fun y_15 hy_15 => ?_)
    refine q_iret rfl rfl ?_
    exact K y_15 ⟨by omega, by omega⟩

set_option maxRecDepth 100000 in
set_option maxHeartbeats 4000000 in
theorem s_179_l {sc : List Int32} {e : Int} {d u P Q : Nat} {c : ME} {Z : AR → Prop} (hI : Iv u e P Q c)  (K : ∀ (c2 : ME) (y : Int), Iv u e P Q c2 → (∀ (a : Nat) (j : Int), ¬ (a = 54) → c2 a j = c a j) → (-2147483648) ≤ y ∧ y ≤ 2147483647 → Z (.inl (some (vi y)), Wd P Q P P c2, 0, 0)) : ∀ n : Nat, (∀ (c2 : ME) (v1 : Int) (v2 : Int), Iv u e P Q c2 → (∀ (a : Nat) (j : Int), ¬ (a = 54) → c2 a j = c a j) → 0 ≤ v1 ∧ v1 ≤ 150 → 0 ≤ v2 ∧ v2 ≤ 150 → ((v1 ≤ v2)) → (v1 = hgt (c 52) v2.toNat) → 301 - 2 * v2 < (n : Int) → Wp sc (d + 8) 179 4 [(0, .ref 41), (1, vi v1), (2, vi v2)] [] (Wd P Q P P c2) 0 0 Z)
  | 0 => by intro c2 v1 v2 hI2 hF hv1 hv2 hx0 hx1 hm9; have hP := iv_P hI; have hQ := iv_Q hI; exfalso; omega
  | n + 1 => by
    have hP := iv_P hI
    have hQ := iv_Q hI
    have ih := s_179_l (sc := sc) (d := d) hI K n
    intro c2 v1 v2 hI2 hF hv1 hv2 hx0 hx1 hm9
    have h_1 := ir_52 hI v2
    have h_2 := ir_53 hI v2
    have h_3 := ir_41_30 hI
    have hh1 := ir_hc hI (k := v2) (by omega)
    have hh2 := hgt_s (f := c 52) (k := v2) (by omega)
    refine q_iload_n rfl rfl ?_
    refine q_aload_n rfl rfl ?_
    have kn_4 : Hid (c2 41 30 = c 41 30) := hF 41 30 (by omega)
    refine v_gi (z := 30) (v := c 41 30) rfl rfl rfl (by decide) rfl rfl (hid kn_4) ?_
    by_cases h_5 : v2 ≥ c 41 30
    · refine v_ic_ge_t (t := 95) rfl (by decide) (by omega) ?_
      refine q_aload_n rfl rfl ?_
      refine v_gr (t := 54) rfl rfl rfl (by decide) rfl ?_
      refine q_iconst rfl ?_
      have h_6 := ir_54 hI2 0
      refine v_ia (v := c2 54 0) rfl rfl (by decide) (by decide) (by decide) rfl ?_
      refine q_iret rfl rfl ?_
      exact K c2 (c2 54 0) hI2 (fun a j hm => hF a j (by omega)) ⟨by omega, by omega⟩
    · refine v_ic_ge_f (t := 95) rfl (by decide) (by omega) ?_
      refine q_aload_n rfl rfl ?_
      refine v_gr (t := 52) rfl rfl rfl (by decide) rfl ?_
      refine q_iload_n rfl rfl ?_
      have kn_7 : Hid (c2 52 v2 = c 52 v2) := hF 52 v2 (by omega)
      refine v_ia (v := c 52 v2) rfl rfl (by decide) (by decide) (by omega) (hid kn_7) ?_
      refine q_istore_n rfl (by decide) ?_
      refine q_iload_n rfl rfl ?_
      refine q_iconst rfl ?_
      by_cases h_8 : c 52 v2 > 1
      · refine v_ic_gt_t (t := 60) rfl (by decide) (by omega) ?_
        refine v_iinc (v := v1 - 1) rfl rfl (by decide) (by omega) ?_
        refine q_aload_n rfl rfl ?_
        refine v_gr (t := 54) rfl rfl rfl (by decide) rfl ?_
        refine q_iload_n rfl rfl ?_
        refine q_iconst rfl ?_
        refine v_isub (v := v1 - 2) rfl (by omega) ?_
        refine q_iload_n rfl rfl ?_
        refine q_aload_n rfl rfl ?_
        refine v_gr (t := 54) rfl rfl rfl (by decide) rfl ?_
        refine q_iload_n rfl rfl ?_
        refine q_iconst rfl ?_
        refine v_isub (v := v1 - 2) rfl (by omega) ?_
        have h_9 := ir_54 hI2 (v1 - 2)
        refine v_ia (v := c2 54 (v1 - 2)) rfl rfl (by decide) (by decide) (by omega) rfl ?_
        refine q_aload_n rfl rfl ?_
        refine v_gr (t := 54) rfl rfl rfl (by decide) rfl ?_
        refine q_iload_n rfl rfl ?_
        have h_10 := ir_54 hI2 (v1 - 1)
        refine v_ia (v := c2 54 (v1 - 1)) rfl rfl (by decide) (by decide) (by omega) rfl ?_
        refine q_call rfl rfl rfl rfl (s_178 (a0 := c 52 v2) (a1 := c2 54 (v1 - 2)) (a2 := c2 54 (v1 - 1)) hI2 (show (-2147483648) ≤ c 52 v2 ∧ c 52 v2 ≤ 2147483647 from by omega) (show (-2147483648) ≤ c2 54 (v1 - 2) ∧ c2 54 (v1 - 2) ≤ 2147483647 from by omega) (show (-2147483648) ≤ c2 54 (v1 - 1) ∧ c2 54 (v1 - 1) ≤ 2147483647 from by omega) (fun y_11 hy_11 => ?_))
        refine bk_inl ?_
        refine v_is rfl rfl (by decide) (by decide) (by omega) ?_
        refine v_iinc (v := v2 + 1) rfl rfl (by decide) (by omega) ?_
        refine q_goto (t := 4) rfl (by decide) ?_
        have hI_12 := iw_54 (j := v1 - 2) (v := y_11) hI2 ⟨by omega, by omega⟩
        refine Wp_ls [(0, .ref 41), (1, vi (v1 - 1)), (2, vi (v2 + 1))] (lsub_cons rfl (lsub_cons rfl (lsub_cons rfl lsub_nil))) ?_
        exact ih (up c2 54 (v1 - 2) y_11) (v1 - 1) (v2 + 1) hI_12 (fun a j hm => (up_b (by omega)).trans (hF a j (by omega))) ⟨by omega, by omega⟩ ⟨by omega, by omega⟩ (by omega) (by omega) (by omega)
      · refine v_ic_gt_f (t := 60) rfl (by decide) (by omega) ?_
        refine q_aload_n rfl rfl ?_
        refine v_gr (t := 54) rfl rfl rfl (by decide) rfl ?_
        refine q_iload_n rfl rfl ?_
        refine q_iload_n rfl rfl ?_
        by_cases h_13 : c 52 v2 ≠ 0
        · refine v_if_ne_t (t := 42) rfl (by decide) (by omega) ?_
          refine q_aload_n rfl rfl ?_
          refine v_gr (t := 55) rfl rfl rfl (by decide) rfl ?_
          refine q_aload_n rfl rfl ?_
          refine v_gr (t := 53) rfl rfl rfl (by decide) rfl ?_
          refine q_iload_n rfl rfl ?_
          have kn_14 : Hid (c2 53 v2 = c 53 v2) := hF 53 v2 (by omega)
          refine v_ia (v := c 53 v2) rfl rfl (by decide) (by decide) (by omega) (hid kn_14) ?_
          have h_15 := ir_55 hI (c 53 v2)
          have kn_16 : Hid (c2 55 (c 53 v2) = c 55 (c 53 v2)) := hF 55 (c 53 v2) (by omega)
          refine v_ia (v := c 55 (c 53 v2)) rfl rfl (by decide) (by decide) (by omega) (hid kn_16) ?_
          refine v_is rfl rfl (by decide) (by decide) (by omega) ?_
          refine v_iinc (v := v1 + 1) rfl rfl (by decide) (by omega) ?_
          refine q_goto (t := 89) rfl (by decide) ?_
          refine v_iinc (v := v2 + 1) rfl rfl (by decide) (by omega) ?_
          refine q_goto (t := 4) rfl (by decide) ?_
          have hI_17 := iw_54 (j := v1) (v := c 55 (c 53 v2)) hI2 ⟨by omega, by omega⟩
          refine Wp_ls [(0, .ref 41), (1, vi (v1 + 1)), (2, vi (v2 + 1))] (lsub_cons rfl (lsub_cons rfl (lsub_cons rfl lsub_nil))) ?_
          exact ih (up c2 54 v1 (c 55 (c 53 v2))) (v1 + 1) (v2 + 1) hI_17 (fun a j hm => (up_b (by omega)).trans (hF a j (by omega))) ⟨by omega, by omega⟩ ⟨by omega, by omega⟩ (by omega) (by omega) (by omega)
        · refine v_if_ne_f (t := 42) rfl (by decide) (by omega) ?_
          refine q_aload_n rfl rfl ?_
          refine v_gr (t := 53) rfl rfl rfl (by decide) rfl ?_
          refine q_iload_n rfl rfl ?_
          have kn_18 : Hid (c2 53 v2 = c 53 v2) := hF 53 v2 (by omega)
          refine v_ia (v := c 53 v2) rfl rfl (by decide) (by decide) (by omega) (hid kn_18) ?_
          refine q_goto (t := 53) rfl (by decide) ?_
          refine v_is rfl rfl (by decide) (by decide) (by omega) ?_
          refine v_iinc (v := v1 + 1) rfl rfl (by decide) (by omega) ?_
          refine q_goto (t := 89) rfl (by decide) ?_
          refine v_iinc (v := v2 + 1) rfl rfl (by decide) (by omega) ?_
          refine q_goto (t := 4) rfl (by decide) ?_
          have hI_19 := iw_54 (j := v1) (v := c 53 v2) hI2 ⟨by omega, by omega⟩
          refine Wp_ls [(0, .ref 41), (1, vi (v1 + 1)), (2, vi (v2 + 1))] (lsub_cons rfl (lsub_cons rfl (lsub_cons rfl lsub_nil))) ?_
          exact ih (up c2 54 v1 (c 53 v2)) (v1 + 1) (v2 + 1) hI_19 (fun a j hm => (up_b (by omega)).trans (hF a j (by omega))) ⟨by omega, by omega⟩ ⟨by omega, by omega⟩ (by omega) (by omega) (by omega)
set_option maxRecDepth 100000 in
set_option maxHeartbeats 4000000 in
theorem s_179 {sc : List Int32} {e : Int} {d u P Q : Nat} {c : ME} {Z : AR → Prop} (hI : Iv u e P Q c)  (K : ∀ (c2 : ME) (y : Int), Iv u e P Q c2 → (∀ (a : Nat) (j : Int), ¬ (a = 54) → c2 a j = c a j) → (-2147483648) ≤ y ∧ y ≤ 2147483647 → Z (.inl (some (vi y)), Wd P Q P P c2, 0, 0)) : Wp sc (d + 8) 179 0 [(0, .ref 41)] [] (Wd P Q P P c) 0 0 Z := by
  have hP := iv_P hI
  have hQ := iv_Q hI
  refine q_iconst rfl ?_
  refine q_istore_n rfl (by decide) ?_
  refine q_iconst rfl ?_
  refine q_istore_n rfl (by decide) ?_
  refine Wp_ls [(0, .ref 41), (1, vi 0), (2, vi 0)] (lsub_cons rfl (lsub_cons rfl (lsub_cons rfl lsub_nil))) ?_
  exact (s_179_l (sc := sc) (d := d) hI K 304) c 0 0 hI (fun a j hm => rfl) ⟨by decide, by decide⟩ ⟨by decide, by decide⟩ (by omega) (show (0 : Int) = hgt (c 52) 0 from rfl) (by omega)

set_option maxRecDepth 100000 in
set_option maxHeartbeats 4000000 in
theorem s_180 {sc : List Int32} {e : Int} {d u P Q : Nat} {c : ME} {Z : AR → Prop} (hI : Iv u e P Q c) (hq0 : (c 55 4 ≥ 0 ∧ c 55 4 ≤ 39996)) (hq1 : (c 55 0 ≥ 0 ∧ c 55 0 ≤ 9999)) (K : ∀ (c2 : ME) (y : Int), Iv u e P Q c2 → (∀ (a : Nat) (j : Int), ¬ (a = 54) → c2 a j = c a j) → 0 ≤ y ∧ y ≤ 99 → Z (.inl (some (vi y)), Wd P Q P P c2, 0, 0)) : Wp sc (d + 9) 180 0 [(0, .ref 41)] [] (Wd P Q P P c) 0 0 Z := by
  have hP := iv_P hI
  have hQ := iv_Q hI
  have h_1 := ir_55 hI 4
  have h_2 := ir_55 hI 0
  refine q_aload_n rfl rfl ?_
  have h_3 := ir_41_30 hI
  refine v_gi (z := 30) (v := c 41 30) rfl rfl rfl (by decide) rfl rfl rfl ?_
  by_cases h_4 : c 41 30 ≠ 0
  · refine v_if_ne_t (t := 28) rfl (by decide) (by omega) ?_
    refine q_aload_n rfl rfl ?_
    refine v_cv rfl rfl rfl rfl (by decide) ⟨⟨rfl, rfl⟩, by decide, rfl⟩ (Nat.le_of_ble_eq_true rfl) (Nat.le_of_ble_eq_true rfl) (s_179 hI (fun c_5 y_8 hI_6 hF_7 hy_8 => ?_))
    refine bk_inl ?_
    refine q_istore_n rfl (by decide) ?_
    refine q_iload_n rfl rfl ?_
    by_cases h_9 : y_8 ≥ 0
    · refine v_if_ge_t (t := 41) rfl (by decide) (by omega) ?_
      refine q_iload_n rfl rfl ?_
      refine v_bip rfl (by decide) ?_
      by_cases h_10 : y_8 ≤ 99
      · refine v_ic_le_t (t := 52) rfl (by decide) (by omega) ?_
        refine q_iload_n rfl rfl ?_
        refine q_iret rfl rfl ?_
        exact K c_5 y_8 hI_6 (fun a j hm => hF_7 a j (by omega)) ⟨by omega, by omega⟩
      · refine v_ic_le_f (t := 52) rfl (by decide) (by omega) ?_
        refine v_bip rfl (by decide) ?_
        refine q_goto (t := 53) rfl (by decide) ?_
        refine q_iret rfl rfl ?_
        exact K c_5 99 hI_6 (fun a j hm => hF_7 a j (by omega)) ⟨by decide, by decide⟩
    · refine v_if_ge_f (t := 41) rfl (by decide) (by omega) ?_
      refine q_iconst rfl ?_
      refine q_goto (t := 53) rfl (by decide) ?_
      refine q_iret rfl rfl ?_
      exact K c_5 0 hI_6 (fun a j hm => hF_7 a j (by omega)) ⟨by decide, by decide⟩
  · refine v_if_ne_f (t := 28) rfl (by decide) (by omega) ?_
    refine q_aload_n rfl rfl ?_
    refine v_gr (t := 55) rfl rfl rfl (by decide) rfl ?_
    refine q_iconst rfl ?_
    refine v_ia (v := c 55 0) rfl rfl (by decide) (by decide) (by decide) rfl ?_
    refine v_bip rfl (by decide) ?_
    refine v_imul (v := 90 * c 55 0) rfl (by omega) ?_
    refine q_aload_n rfl rfl ?_
    refine v_gr (t := 55) rfl rfl rfl (by decide) rfl ?_
    refine q_iconst rfl ?_
    refine v_ia (v := c 55 4) rfl rfl (by decide) (by decide) (by decide) rfl ?_
    refine q_iconst rfl ?_
    refine v_iadd (v := c 55 4 + 1) rfl (by omega) ?_
    refine v_idivx rfl ⟨by omega, by omega, by omega⟩ (fun y_11 hy_11 => ?_)
    refine q_goto (t := 32) rfl (by decide) ?_
    refine q_istore_n rfl (by decide) ?_
    refine q_iload_n rfl rfl ?_
    by_cases h_12 : y_11 ≥ 0
    · refine v_if_ge_t (t := 41) rfl (by decide) (by omega) ?_
      refine q_iload_n rfl rfl ?_
      refine v_bip rfl (by decide) ?_
      by_cases h_13 : y_11 ≤ 99
      · refine v_ic_le_t (t := 52) rfl (by decide) (by omega) ?_
        refine q_iload_n rfl rfl ?_
        refine q_iret rfl rfl ?_
        exact K c y_11 hI (fun a j hm => rfl) ⟨by omega, by omega⟩
      · refine v_ic_le_f (t := 52) rfl (by decide) (by omega) ?_
        refine v_bip rfl (by decide) ?_
        refine q_goto (t := 53) rfl (by decide) ?_
        refine q_iret rfl rfl ?_
        exact K c 99 hI (fun a j hm => rfl) ⟨by decide, by decide⟩
    · refine v_if_ge_f (t := 41) rfl (by decide) (by omega) ?_
      refine q_iconst rfl ?_
      refine q_goto (t := 53) rfl (by decide) ?_
      refine q_iret rfl rfl ?_
      exact K c 0 hI (fun a j hm => rfl) ⟨by decide, by decide⟩

set_option maxRecDepth 100000 in
set_option maxHeartbeats 4000000 in
theorem s_181 {sc : List Int32} {e : Int} {d u P Q : Nat} {c : ME} {a1 : Int} {a2 : Int} {a3 : Int} {a4 : Int} {a5 : Int} {Z : AR → Prop} (hI : Iv u e P Q c) (ha1 : 0 ≤ a1 ∧ a1 ≤ 7) (ha2 : 0 ≤ a2 ∧ a2 ≤ 40) (ha3 : 0 ≤ a3 ∧ a3 ≤ 5) (ha4 : 0 ≤ a4 ∧ a4 ≤ 999) (ha5 : 0 ≤ a5 ∧ a5 ≤ 5) (hq0 : (((c 41 34) % 5) = 0)) (hq1 : (c 41 5 < (-1)) ∨ (c 41 5 > (-1)) ∨ (c 41 34 ≤ 245)) (hq2 : (a1 ≠ 0) ∨ (a2 ≤ 3)) (hq3 : (a1 ≠ 1) ∨ (a2 ≤ 3 ∧ a4 ≤ 5)) (hq4 : (a1 ≠ 2) ∨ (a2 ≤ 5)) (hq5 : (a1 ≠ 3) ∨ (a2 ≤ 5)) (hq6 : (a1 ≠ 4) ∨ (a2 ≤ 3)) (hq7 : (a1 ≠ 5) ∨ (a2 ≤ 5)) (hq8 : (a1 ≠ 7) ∨ (a3 = 0)) (K : ∀ (c2 : ME), Iv u e P Q c2 → (∀ (a : Nat) (j : Int), ¬ ((a = 41 ∧ j = 34) ∨ (a = 56 ∧ j ≥ c 41 34)) → c2 a j = c a j) → ((((c2 41 34) % 5) = 0)) → ((c 41 5 < (-1)) ∨ (c 41 5 > (-1)) ∨ (c2 41 34 = c 41 34 + 5 ∧ c2 56 (c 41 34) = a1)) → ((c 41 5 = (-1)) ∨ (c2 41 34 = c 41 34)) → Z (.inl (none), Wd P Q P P c2, 0, 0)) : Wp sc (d + 8) 181 0 [(0, .ref 41), (1, vi a1), (2, vi a2), (3, vi a3), (4, vi a4), (5, vi a5)] [] (Wd P Q P P c) 0 0 Z := by
  have hP := iv_P hI
  have hQ := iv_Q hI
  have h_1 := ir_41_34 hI
  have h_2 := ir_41_5 hI
  refine q_aload_n rfl rfl ?_
  refine v_cv rfl rfl rfl rfl (by decide) ⟨⟨rfl, rfl⟩, by decide, rfl⟩ (Nat.le_of_ble_eq_true rfl) (Nat.le_of_ble_eq_true rfl) ?_
  refine q_aload_n rfl rfl ?_
  refine v_gi (z := 5) (v := c 41 5) rfl rfl rfl (by decide) rfl rfl rfl ?_
  refine q_iconst rfl ?_
  by_cases h_3 : c 41 5 ≠ (-1)
  · refine v_ic_ne_t (t := 12) rfl (by decide) (by omega) ?_
    refine q_iconst rfl ?_
    refine v_zret rfl rfl (by omega) ?_
    refine bk_inl ?_
    refine v_if_ne_f (t := 8) rfl (by decide) (by decide) ?_
    refine q_vret rfl rfl ?_
    have h_4 := ir_56 hI (c 41 34)
    exact K c hI (fun a j hm => rfl) (by omega) (by omega) (by omega)
  · refine v_ic_ne_f (t := 12) rfl (by decide) (by omega) ?_
    refine q_iconst rfl ?_
    refine q_goto (t := 13) rfl (by decide) ?_
    refine v_zret rfl rfl (by omega) ?_
    refine bk_inl ?_
    refine v_if_ne_t (t := 8) rfl (by decide) (by decide) ?_
    refine q_aload_n rfl rfl ?_
    refine v_gr (t := 56) rfl rfl rfl (by decide) rfl ?_
    refine q_aload_n rfl rfl ?_
    refine v_gi (z := 34) (v := c 41 34) rfl rfl rfl (by decide) rfl rfl rfl ?_
    refine q_iload_n rfl rfl ?_
    refine v_is rfl rfl (by decide) (by decide) (by omega) ?_
    refine q_aload_n rfl rfl ?_
    refine v_gr (t := 56) rfl rfl rfl (by decide) rfl ?_
    refine q_aload_n rfl rfl ?_
    refine v_gi (z := 34) (v := c 41 34) rfl rfl rfl (by decide) rfl rfl (up_c (by decide)) ?_
    refine q_iconst rfl ?_
    refine v_iadd (v := c 41 34 + 1) rfl (by omega) ?_
    refine q_iload_n rfl rfl ?_
    refine v_is rfl rfl (by decide) (by decide) (by omega) ?_
    refine q_aload_n rfl rfl ?_
    refine v_gr (t := 56) rfl rfl rfl (by decide) rfl ?_
    refine q_aload_n rfl rfl ?_
    refine v_gi (z := 34) (v := c 41 34) rfl rfl rfl (by decide) rfl rfl ((up_c (by decide)).trans (up_c (by decide))) ?_
    refine q_iconst rfl ?_
    refine v_iadd (v := c 41 34 + 2) rfl (by omega) ?_
    refine q_iload_n rfl rfl ?_
    refine v_is rfl rfl (by decide) (by decide) (by omega) ?_
    refine q_aload_n rfl rfl ?_
    refine v_gr (t := 56) rfl rfl rfl (by decide) rfl ?_
    refine q_aload_n rfl rfl ?_
    refine v_gi (z := 34) (v := c 41 34) rfl rfl rfl (by decide) rfl rfl ((up_c (by decide)).trans ((up_c (by decide)).trans (up_c (by decide)))) ?_
    refine q_iconst rfl ?_
    refine v_iadd (v := c 41 34 + 3) rfl (by omega) ?_
    refine q_iload rfl rfl ?_
    refine v_is rfl rfl (by decide) (by decide) (by omega) ?_
    refine q_aload_n rfl rfl ?_
    refine v_gr (t := 56) rfl rfl rfl (by decide) rfl ?_
    refine q_aload_n rfl rfl ?_
    refine v_gi (z := 34) (v := c 41 34) rfl rfl rfl (by decide) rfl rfl ((up_c (by decide)).trans ((up_c (by decide)).trans ((up_c (by decide)).trans (up_c (by decide))))) ?_
    refine q_iconst rfl ?_
    refine v_iadd (v := c 41 34 + 4) rfl (by omega) ?_
    refine q_iload rfl rfl ?_
    refine v_is rfl rfl (by decide) (by decide) (by omega) ?_
    refine q_aload_n rfl rfl ?_
    refine q_dup rfl rfl ?_
    refine v_gi (z := 34) (v := c 41 34) rfl rfl rfl (by decide) rfl rfl ((up_c (by decide)).trans ((up_c (by decide)).trans ((up_c (by decide)).trans ((up_c (by decide)).trans (up_c (by decide)))))) ?_
    refine q_iconst rfl ?_
    refine v_iadd (v := c 41 34 + 5) rfl (by omega) ?_
    refine v_pi (z := 34) rfl rfl rfl (by decide) rfl rfl rfl (by decide) ?_
    refine q_vret rfl rfl ?_
    have hI_5 : Iv u e P Q (up (up (up (up (up (up c 56 (c 41 34) a1) 56 (c 41 34 + 1) a2) 56 (c 41 34 + 2) a3) 56 (c 41 34 + 3) a4) 56 (c 41 34 + 4) a5) 41 34 (c 41 34 + 5)) := iw_tells (n := c 41 34) hI (by omega) (by omega) (by unfold So; omega) (by omega)
    have h_6 : (up (up (up (up (up (up c 56 (c 41 34) a1) 56 (c 41 34 + 1) a2) 56 (c 41 34 + 2) a3) 56 (c 41 34 + 3) a4) 56 (c 41 34 + 4) a5) 41 34 (c 41 34 + 5)) 41 34 = c 41 34 + 5 := (up_e rfl)
    have h_7 : (up (up (up (up (up (up c 56 (c 41 34) a1) 56 (c 41 34 + 1) a2) 56 (c 41 34 + 2) a3) 56 (c 41 34 + 3) a4) 56 (c 41 34 + 4) a5) 41 34 (c 41 34 + 5)) 41 34 = c 41 34 + 5 := (up_e rfl)
    have h_8 : (up (up (up (up (up (up c 56 (c 41 34) a1) 56 (c 41 34 + 1) a2) 56 (c 41 34 + 2) a3) 56 (c 41 34 + 3) a4) 56 (c 41 34 + 4) a5) 41 34 (c 41 34 + 5)) 56 (c 41 34) = a1 := ((up_c (by decide)).trans ((up_n (by omega)).trans ((up_n (by omega)).trans ((up_n (by omega)).trans ((up_n (by omega)).trans (up_e rfl))))))
    exact K (up (up (up (up (up (up c 56 (c 41 34) a1) 56 (c 41 34 + 1) a2) 56 (c 41 34 + 2) a3) 56 (c 41 34 + 3) a4) 56 (c 41 34 + 4) a5) 41 34 (c 41 34 + 5)) hI_5 (fun a j hm => (up_b (by omega)).trans ((up_b (by omega)).trans ((up_b (by omega)).trans ((up_b (by omega)).trans ((up_b (by omega)).trans (up_b (by omega))))))) (by omega) (by omega) (by omega)

set_option maxRecDepth 100000 in
set_option maxHeartbeats 4000000 in
theorem s_182 {sc : List Int32} {e : Int} {d u P Q : Nat} {c : ME} {a0 : Int} {Z : AR → Prop} (hI : Iv u e P Q c) (ha0 : (-2147483648) ≤ a0 ∧ a0 ≤ 2147483647) (K : ∀ (y : Int), (-1) ≤ y ∧ y ≤ 7 → ((y < 0) ∨ (a0 > 1023)) → Z (.inl (some (vi y)), Wd P Q P P c, 0, 0)) : Wp sc (d + 8) 182 0 [(0, vi a0)] [] (Wd P Q P P c) 0 0 Z := by
  have hP := iv_P hI
  have hQ := iv_Q hI
  refine q_iload_n rfl rfl ?_
  refine q_ldc_w_s rfl rfl rfl (by decide) ?_
  refine q_call rfl rfl rfl rfl (s_158_29 ?_)
  refine bk_inl ?_
  by_cases h_1 : a0 ≠ 7939524
  · refine v_ic_ne_t (t := 14) rfl (by decide) (by omega) ?_
    refine q_iload_n rfl rfl ?_
    refine q_ldc_w_s rfl rfl rfl (by decide) ?_
    refine q_call rfl rfl rfl rfl (s_158_30 ?_)
    refine bk_inl ?_
    by_cases h_2 : a0 ≠ 632020
    · refine v_ic_ne_t (t := 28) rfl (by decide) (by omega) ?_
      refine q_iload_n rfl rfl ?_
      refine q_ldc_w_s rfl rfl rfl (by decide) ?_
      refine q_call rfl rfl rfl rfl (s_158_31 ?_)
      refine bk_inl ?_
      by_cases h_3 : a0 ≠ 540338
      · refine v_ic_ne_t (t := 42) rfl (by decide) (by omega) ?_
        refine q_iload_n rfl rfl ?_
        refine q_ldc_w_s rfl rfl rfl (by decide) ?_
        refine q_call rfl rfl rfl rfl (s_158_32 ?_)
        refine bk_inl ?_
        by_cases h_4 : a0 ≠ 20037104
        · refine v_ic_ne_t (t := 56) rfl (by decide) (by omega) ?_
          refine q_iload_n rfl rfl ?_
          refine q_ldc_w_s rfl rfl rfl (by decide) ?_
          refine q_call rfl rfl rfl rfl (s_158_33 ?_)
          refine bk_inl ?_
          by_cases h_5 : a0 ≠ 660530
          · refine v_ic_ne_t (t := 70) rfl (by decide) (by omega) ?_
            refine q_iload_n rfl rfl ?_
            refine q_ldc_w_s rfl rfl rfl (by decide) ?_
            refine q_call rfl rfl rfl rfl (s_158_34 ?_)
            refine bk_inl ?_
            by_cases h_6 : a0 ≠ 628108
            · refine v_ic_ne_t (t := 84) rfl (by decide) (by omega) ?_
              refine q_iload_n rfl rfl ?_
              refine q_ldc_w_s rfl rfl rfl (by decide) ?_
              refine q_call rfl rfl rfl rfl (s_158_28 ?_)
              refine bk_inl ?_
              by_cases h_7 : a0 ≠ 4153
              · refine v_ic_ne_t (t := 99) rfl (by decide) (by omega) ?_
                refine q_iload_n rfl rfl ?_
                refine q_ldc_w_s rfl rfl rfl (by decide) ?_
                refine q_call rfl rfl rfl rfl (s_158_35 ?_)
                refine bk_inl ?_
                by_cases h_8 : a0 ≠ 1279278
                · refine v_ic_ne_t (t := 114) rfl (by decide) (by omega) ?_
                  refine q_iconst rfl ?_
                  refine q_iret rfl rfl ?_
                  exact K (-1) ⟨by decide, by decide⟩ (by omega)
                · refine v_ic_ne_f (t := 114) rfl (by decide) (by omega) ?_
                  refine v_bip rfl (by decide) ?_
                  refine q_goto (t := 115) rfl (by decide) ?_
                  refine q_iret rfl rfl ?_
                  exact K 7 ⟨by decide, by decide⟩ (by omega)
              · refine v_ic_ne_f (t := 99) rfl (by decide) (by omega) ?_
                refine v_bip rfl (by decide) ?_
                refine q_goto (t := 115) rfl (by decide) ?_
                refine q_iret rfl rfl ?_
                exact K 6 ⟨by decide, by decide⟩ (by omega)
            · refine v_ic_ne_f (t := 84) rfl (by decide) (by omega) ?_
              refine q_iconst rfl ?_
              refine q_goto (t := 115) rfl (by decide) ?_
              refine q_iret rfl rfl ?_
              exact K 5 ⟨by decide, by decide⟩ (by omega)
          · refine v_ic_ne_f (t := 70) rfl (by decide) (by omega) ?_
            refine q_iconst rfl ?_
            refine q_goto (t := 115) rfl (by decide) ?_
            refine q_iret rfl rfl ?_
            exact K 4 ⟨by decide, by decide⟩ (by omega)
        · refine v_ic_ne_f (t := 56) rfl (by decide) (by omega) ?_
          refine q_iconst rfl ?_
          refine q_goto (t := 115) rfl (by decide) ?_
          refine q_iret rfl rfl ?_
          exact K 3 ⟨by decide, by decide⟩ (by omega)
      · refine v_ic_ne_f (t := 42) rfl (by decide) (by omega) ?_
        refine q_iconst rfl ?_
        refine q_goto (t := 115) rfl (by decide) ?_
        refine q_iret rfl rfl ?_
        exact K 2 ⟨by decide, by decide⟩ (by omega)
    · refine v_ic_ne_f (t := 28) rfl (by decide) (by omega) ?_
      refine q_iconst rfl ?_
      refine q_goto (t := 115) rfl (by decide) ?_
      refine q_iret rfl rfl ?_
      exact K 1 ⟨by decide, by decide⟩ (by omega)
  · refine v_ic_ne_f (t := 14) rfl (by decide) (by omega) ?_
    refine q_iconst rfl ?_
    refine q_goto (t := 115) rfl (by decide) ?_
    refine q_iret rfl rfl ?_
    exact K 0 ⟨by decide, by decide⟩ (by omega)

set_option maxRecDepth 100000 in
set_option maxHeartbeats 4000000 in
theorem s_183 {sc : List Int32} {e : Int} {d u P Q : Nat} {c : ME} {Z : AR → Prop} (hI : Iv u e P Q c)  (K : ∀ (c2 : ME) (y : Int), Iv u e P Q c2 → (∀ (a : Nat) (j : Int), ¬ ((a = 41 ∧ j = 4) ∨ (a = 41 ∧ j = 5) ∨ (a = 41 ∧ j = 6)) → c2 a j = c a j) → 0 ≤ y ∧ y ≤ 5 → ((c2 41 4 ≥ c 41 4)) → ((c2 41 4 ≤ c 41 3) ∨ (c2 41 4 = c 41 4)) → ((c 41 5 = (-1)) ∨ (c2 41 5 = c 41 5)) → ((c2 41 5 < (-1)) ∨ (c2 41 5 > (-1)) ∨ (c2 41 4 > c 41 4 ∧ c2 41 4 ≤ c 41 3 ∧ c 41 5 = (-1))) → Z (.inl (some (vi y)), Wd P Q P P c2, 0, 0)) : Wp sc (d + 9) 183 0 [(0, .ref 41)] [] (Wd P Q P P c) 0 0 Z := by
  have hP := iv_P hI
  have hQ := iv_Q hI
  refine q_aload_n rfl rfl ?_
  refine q_iconst rfl ?_
  refine q_aload_n rfl rfl ?_
  have h_1 := ir_41_20 hI
  refine v_gi (z := 20) (v := c 41 20) rfl rfl rfl (by decide) rfl rfl rfl ?_
  refine q_iconst rfl ?_
  refine v_isub (v := c 41 20 - 1) rfl (by omega) ?_
  have h_2 := ir_41_4 hI
  have h_3 := ir_41_3 hI
  have h_4 := ir_41_5 hI
  refine v_cv rfl rfl rfl rfl (by decide) ⟨⟨rfl, rfl⟩, by decide, rfl⟩ (Nat.le_of_ble_eq_true rfl) (Nat.le_of_ble_eq_true rfl) (s_160 (a1 := 0) (a2 := c 41 20 - 1) hI (show 0 ≤ 0 ∧ 0 ≤ 1 from by omega) (show (-1) ≤ c 41 20 - 1 ∧ c 41 20 - 1 ≤ 9999 from by omega) (fun c_5 y_8 hI_6 hF_7 hy_8 h_9 h_10 h_11 h_12 h_13 => ?_))
  refine bk_inl ?_
  have h_14 := ir_41_4 hI_6
  have h_15 := ir_41_5 hI_6
  refine q_iret rfl rfl ?_
  exact K c_5 y_8 hI_6 (fun a j hm => hF_7 a j (by omega)) ⟨by omega, by omega⟩ (by omega) (by omega) (by omega) (by omega)

set_option maxRecDepth 100000 in
set_option maxHeartbeats 4000000 in
theorem s_184_l {sc : List Int32} {e : Int} {d u P Q : Nat} {c : ME} {o : Int} {Z : AR → Prop} (hI : Iv u e P Q c) (ho : 0 ≤ o ∧ o ≤ 6) (hq0 : (c 41 5 = (-1))) (hq1 : (c 41 4 ≤ c 41 3)) (hq2 : (c 41 3 ≤ 150)) (hq3 : (3 * c 41 34 ≤ 5 * c 41 4)) (hq4 : (((c 41 34) % 5) = 0)) (hq5 : (c 41 7 = o)) (hq6 : (c 41 4 ≤ c 41 3 - 1)) (H185 : ∀ (d9 : Nat) (c : ME) (Z : AR → Prop), d ≤ d9 → o + 1 ≤ 6 → Iv u e P Q c → ((c 41 5 = (-1))) → ((c 41 4 ≤ c 41 3)) → ((c 41 3 ≤ 150)) → ((3 * c 41 34 ≤ 5 * c 41 4)) → ((((c 41 34) % 5) = 0)) → (c 41 7 = o + 1) → (∀ c2 : ME, Iv u e P Q c2 → (∀ (a : Nat) (j : Int), ¬ ((a = 41 ∧ j = 4) ∨ (a = 41 ∧ j = 5) ∨ (a = 41 ∧ j = 6) ∨ (a = 41 ∧ j = 7) ∨ (a = 41 ∧ j = 34) ∨ (a = 56 ∧ j ≥ c 41 34)) → c2 a j = c a j) → ((c2 41 4 ≥ c 41 4)) → ((c2 41 7 = c 41 7)) → ((5 * c 41 4 + 3 * c2 41 34 ≤ 3 * c 41 34 + 5 * c2 41 4)) → ((c2 41 5 < (-1)) ∨ (c2 41 5 > (-1)) ∨ (c2 41 4 ≤ c 41 3 ∧ c2 41 4 > c 41 4)) → ((((c2 41 34) % 5) = 0)) → ((c2 41 34 ≥ c 41 34)) → (c2 41 5 = -1 → Ap c2 56 (c 41 34) (c2 41 34)) → Z (.inl none, Wd P Q P P c2, 0, 0)) → Wp sc (d9 + 12) 185 0 [(0, .ref 41)] [] (Wd P Q P P c) 0 0 Z) (K : ∀ (c2 : ME), Iv u e P Q c2 → (∀ (a : Nat) (j : Int), ¬ ((a = 41 ∧ j = 4) ∨ (a = 41 ∧ j = 5) ∨ (a = 41 ∧ j = 6) ∨ (a = 41 ∧ j = 7) ∨ (a = 41 ∧ j = 34) ∨ (a = 56 ∧ j ≥ c 41 34)) → c2 a j = c a j) → ((c2 41 4 ≥ c 41 4)) → ((c2 41 7 = c 41 7)) → ((5 * c 41 4 + 3 * c2 41 34 ≤ 3 * c 41 34 + 5 * c2 41 4)) → ((c2 41 5 < (-1)) ∨ (c2 41 5 > (-1)) ∨ (c2 41 4 ≤ c 41 3 ∧ c2 41 4 > c 41 4)) → ((((c2 41 34) % 5) = 0)) → ((c2 41 34 ≥ c 41 34)) → (c2 41 5 = -1 → Ap c2 56 (c 41 34) (c2 41 34)) → Z (.inl (none), Wd P Q P P c2, 0, 0)) : ∀ n : Nat, (∀ (c2 : ME) (v1 : Int) (v2 : Int), Iv u e P Q c2 → (∀ (a : Nat) (j : Int), ¬ ((a = 41 ∧ j = 4) ∨ (a = 41 ∧ j = 5) ∨ (a = 41 ∧ j = 6) ∨ (a = 41 ∧ j = 7) ∨ (a = 41 ∧ j = 34) ∨ (a = 56 ∧ j ≥ c 41 34)) → c2 a j = c a j) → 0 ≤ v1 ∧ v1 ≤ 9999 → 0 ≤ v2 ∧ v2 ≤ 245 → ((c2 41 5 = (-1))) → ((c2 41 4 ≤ c 41 3)) → ((c2 41 4 ≥ c 41 4)) → ((c2 41 7 = c 41 7 + 1 ∧ c2 41 7 ≤ 6)) → ((5 * c 41 4 + 3 * c2 41 34 ≤ 3 * c 41 34 + 5 * c2 41 4)) → ((((c2 41 34) % 5) = 0)) → ((c2 41 34 ≥ v2 + 5)) → ((v2 = c 41 34)) → ((c2 56 v2 = 7)) → ((c2 41 4 > c 41 4)) → (Ap c2 56 (v2 + 5) (c2 41 34)) → 1211 - 2 * c2 41 4 < (n : Int) → Wp sc (d + 13) 184 41 [(0, .ref 41), (1, vi v1), (2, vi v2)] [] (Wd P Q P P c2) 0 0 Z)
  | 0 => by intro c2 v1 v2 hI2 hF hv1 hv2 hx0 hx1 hx2 hx3 hx4 hx5 hx6 hx7 hx8 hx9 hx10 hm9; have hP := iv_P hI; have hQ := iv_Q hI; have h_108 := ir_41_4 hI2; exfalso; omega
  | n + 1 => by
    have hP := iv_P hI
    have hQ := iv_Q hI
    have ih := s_184_l (sc := sc) (d := d) hI ho hq0 hq1 hq2 hq3 hq4 hq5 hq6 H185 K n
    intro c2 v1 v2 hI2 hF hv1 hv2 hx0 hx1 hx2 hx3 hx4 hx5 hx6 hx7 hx8 hx9 hx10 hm9
    have h_1 := ir_41_5 hI2
    have h_2 := ir_41_3 hI
    have h_3 := ir_41_4 hI2
    have h_4 := ir_41_4 hI
    have h_5 := ir_41_7 hI
    have h_6 := ir_41_7 hI2
    have h_7 := ir_41_34 hI
    have h_8 := ir_41_34 hI2
    have h_9 := ir_56 hI2 v2
    refine q_aload_n rfl rfl ?_
    have kn_10 : Hid (c2 41 3 = c 41 3) := hF 41 3 (by omega)
    have h_11 : c2 41 3 = c 41 3 := (hid kn_10)
    refine v_cv rfl rfl rfl rfl (by decide) ⟨⟨rfl, rfl⟩, by decide, rfl⟩ (Nat.le_of_ble_eq_true rfl) (Nat.le_of_ble_eq_true rfl) (s_154 hI2 (fun c_12 y_15 hI_13 hF_14 hy_15 h_16 h_17 h_18 h_19 => ?_))
    refine bk_inl ?_
    have h_20 := ir_41_4 hI_13
    have h_21 := ir_43 hI (c_12 41 4)
    have kn_22 : Hid (c2 43 (c_12 41 4) = c 43 (c_12 41 4)) := hF 43 (c_12 41 4) (by omega)
    have h_23 : c2 43 (c_12 41 4) = c 43 (c_12 41 4) := (hid kn_22)
    refine v_bip rfl (by decide) ?_
    by_cases h_24 : y_15 = 93
    · refine v_ic_eq_t (t := 57) rfl (by decide) (by omega) ?_
      refine q_aload_n rfl rfl ?_
      refine v_bip rfl (by decide) ?_
      have kn_25 : Hid (c_12 41 3 = c 41 3) := (hF_14 41 3 (by omega)).trans (hid kn_10)
      have h_26 : c_12 41 3 = c 41 3 := (hid kn_25)
      have kn_27 : Hid (c_12 41 5 = c2 41 5) := hF_14 41 5 (by omega)
      have h_28 : c_12 41 5 = c2 41 5 := (hid kn_27)
      refine v_cv rfl rfl rfl rfl (by decide) ⟨⟨rfl, rfl⟩, by decide, rfl⟩ (Nat.le_of_ble_eq_true rfl) (Nat.le_of_ble_eq_true rfl) (s_161 (a1 := 93) hI_13 (show 1 ≤ 93 ∧ 93 ≤ 255 from by omega) (fun c_29 hI_30 hF_31 h_32 h_33 h_34 h_35 => ?_))
      refine bk_inl ?_
      have h_36 := ir_41_4 hI_30
      have h_37 := ir_41_5 hI_30
      refine q_aload_n rfl rfl ?_
      refine q_dup rfl rfl ?_
      have kn_38 : Hid (c_12 41 7 = c2 41 7) := hF_14 41 7 (by omega)
      have kn_39 : Hid (c_29 41 7 = c2 41 7) := (hF_31 41 7 (by omega)).trans (hid kn_38)
      refine v_gi (z := 7) (v := c2 41 7) rfl rfl rfl (by decide) rfl rfl (hid kn_39) ?_
      refine q_iconst rfl ?_
      refine v_isub (v := c2 41 7 - 1) rfl (by omega) ?_
      refine v_pi (z := 7) rfl rfl rfl (by decide) rfl rfl rfl (by decide) ?_
      refine q_aload_n rfl rfl ?_
      refine v_cv rfl rfl rfl rfl (by decide) ⟨⟨rfl, rfl⟩, by decide, rfl⟩ (Nat.le_of_ble_eq_true rfl) (Nat.le_of_ble_eq_true rfl) ?_
      refine q_aload_n rfl rfl ?_
      refine v_gi (z := 5) (v := c_29 41 5) rfl rfl rfl (by decide) rfl rfl (up_n (by decide)) ?_
      refine q_iconst rfl ?_
      by_cases h_40 : c_29 41 5 ≠ (-1)
      · refine v_ic_ne_t (t := 12) rfl (by decide) (by omega) ?_
        refine q_iconst rfl ?_
        refine v_zret rfl rfl (by omega) ?_
        refine bk_inl ?_
        refine v_if_eq_t (t := 92) rfl (by decide) (by decide) ?_
        refine q_vret rfl rfl ?_
        have hI_41 := iw_41_7 (v := c2 41 7 - 1) hI_30 ⟨by omega, by omega⟩
        have kn_42 : Hid (c_12 41 34 = c2 41 34) := hF_14 41 34 (by omega)
        have kn_43 : Hid (c_29 41 34 = c2 41 34) := (hF_31 41 34 (by omega)).trans (hid kn_42)
        have h_44 : (up c_29 41 7 (c2 41 7 - 1)) 41 34 = c2 41 34 := ((up_n (by decide)).trans (hid kn_43))
        have h_45 : (up c_29 41 7 (c2 41 7 - 1)) 41 34 = c2 41 34 := ((up_n (by decide)).trans (hid kn_43))
        have h_46 : (up c_29 41 7 (c2 41 7 - 1)) 41 4 = c_29 41 4 := (up_n (by decide))
        have h_47 : (up c_29 41 7 (c2 41 7 - 1)) 41 5 = c_29 41 5 := (up_n (by decide))
        have h_48 : (up c_29 41 7 (c2 41 7 - 1)) 41 7 = c2 41 7 - 1 := (up_e rfl)
        have hb9 : (up c_29 41 7 (c2 41 7 - 1)) 41 5 = c_29 41 5 := (up_n (by decide))
        exact K (up c_29 41 7 (c2 41 7 - 1)) hI_41 (fun a j hm => (up_b (by omega)).trans ((hF_31 a j (by omega)).trans ((hF_14 a j (by omega)).trans (hF a j (by omega))))) (by omega) (by omega) (by omega) (by omega) (by omega) (by omega) (fun h9 => absurd h9 (by omega))
      · refine v_ic_ne_f (t := 12) rfl (by decide) (by omega) ?_
        refine q_iconst rfl ?_
        refine q_goto (t := 13) rfl (by decide) ?_
        refine v_zret rfl rfl (by omega) ?_
        refine bk_inl ?_
        refine v_if_eq_f (t := 92) rfl (by decide) (by decide) ?_
        refine q_aload_n rfl rfl ?_
        refine v_gr (t := 56) rfl rfl rfl (by decide) rfl ?_
        refine q_iload_n rfl rfl ?_
        refine q_iconst rfl ?_
        refine v_iadd (v := v2 + 2) rfl (by omega) ?_
        refine q_aload_n rfl rfl ?_
        have kn_49 : Hid (c_12 41 34 = c2 41 34) := hF_14 41 34 (by omega)
        have kn_50 : Hid (c_29 41 34 = c2 41 34) := (hF_31 41 34 (by omega)).trans (hid kn_49)
        refine v_gi (z := 34) (v := c2 41 34) rfl rfl rfl (by decide) rfl rfl ((up_n (by decide)).trans (hid kn_50)) ?_
        refine v_is rfl rfl (by decide) (by decide) (by omega) ?_
        refine q_vret rfl rfl ?_
        have hI_51 := iw_41_7 (v := c2 41 7 - 1) hI_30 ⟨by omega, by omega⟩
        have kn_52 : Hid (c_12 56 v2 = c2 56 v2) := hF_14 56 v2 (by omega)
        have kn_53 : Hid (c_29 56 v2 = c2 56 v2) := (hF_31 56 v2 (by omega)).trans (hid kn_52)
        have hI_54 := iw_again (n := v2) (v := c2 41 34) hI_51 (by omega) (by omega) (show (up c_29 41 7 (c2 41 7 - 1)) 56 v2 = 7 from (((up_c (by decide)).trans (hid kn_53))).trans (by omega)) (by omega)
        have h_55 : (up (up c_29 41 7 (c2 41 7 - 1)) 56 (v2 + 2) (c2 41 34)) 41 34 = c2 41 34 := ((up_c (by decide)).trans ((up_n (by decide)).trans (hid kn_50)))
        have h_56 : (up (up c_29 41 7 (c2 41 7 - 1)) 56 (v2 + 2) (c2 41 34)) 41 34 = c2 41 34 := ((up_c (by decide)).trans ((up_n (by decide)).trans (hid kn_50)))
        have h_57 : (up (up c_29 41 7 (c2 41 7 - 1)) 56 (v2 + 2) (c2 41 34)) 41 4 = c_29 41 4 := ((up_c (by decide)).trans (up_n (by decide)))
        have h_58 : (up (up c_29 41 7 (c2 41 7 - 1)) 56 (v2 + 2) (c2 41 34)) 41 5 = c_29 41 5 := ((up_c (by decide)).trans (up_n (by decide)))
        have h_59 : (up (up c_29 41 7 (c2 41 7 - 1)) 56 (v2 + 2) (c2 41 34)) 41 7 = c2 41 7 - 1 := ((up_c (by decide)).trans (up_e rfl))
        have hb9 : (up (up c_29 41 7 (c2 41 7 - 1)) 56 (v2 + 2) (c2 41 34)) 41 5 = c_29 41 5 := ((up_c (by decide)).trans (up_n (by decide)))
        have hn9 : (up (up c_29 41 7 (c2 41 7 - 1)) 56 (v2 + 2) (c2 41 34)) 41 34 = c2 41 34 := ((up_c (by decide)).trans ((up_n (by decide)).trans (hid kn_50)))
        exact K (up (up c_29 41 7 (c2 41 7 - 1)) 56 (v2 + 2) (c2 41 34)) hI_54 (fun a j hm => (up_b (by omega)).trans ((up_b (by omega)).trans ((hF_31 a j (by omega)).trans ((hF_14 a j (by omega)).trans (hF a j (by omega)))))) (by omega) (by omega) (by omega) (by omega) (by omega) (by omega) (fun h9 => ap_end (lo := v2) (c := c2) (hi := c2 41 34) hx10 (by omega) (by omega) (by omega) (by rw [show (up (up c_29 41 7 (c2 41 7 - 1)) 56 (v2 + 2) (c2 41 34)) 56 (v2 + 2) = c2 41 34 from up_e rfl]; omega) (fun j h1 h2 => (up_n (by omega)).trans ((up_c (by omega)).trans ((hF_31 56 j (by omega)).trans (hF_14 56 j (by omega))))))
    · refine v_ic_eq_f (t := 57) rfl (by decide) (by omega) ?_
      refine q_aload_n rfl rfl ?_
      have kn_60 : Hid (c_12 41 5 = c2 41 5) := hF_14 41 5 (by omega)
      have h_61 : c_12 41 5 = c2 41 5 := (hid kn_60)
      have kn_62 : Hid (c_12 41 3 = c 41 3) := (hF_14 41 3 (by omega)).trans (hid kn_10)
      have h_63 : c_12 41 3 = c 41 3 := (hid kn_62)
      have kn_64 : Hid (c_12 41 34 = c2 41 34) := hF_14 41 34 (by omega)
      have h_65 : c_12 41 34 = c2 41 34 := (hid kn_64)
      have kn_66 : Hid (c_12 41 7 = c2 41 7) := hF_14 41 7 (by omega)
      have h_67 : c_12 41 7 = c2 41 7 := (hid kn_66)
      have h_68 : c_12 41 34 = c2 41 34 := (hid kn_64)
      refine v_cv rfl rfl rfl rfl (by decide) ⟨⟨rfl, rfl⟩, by decide, rfl⟩ (Nat.le_of_ble_eq_true rfl) (Nat.le_of_ble_eq_true rfl) (H185 _ _ _ (by omega) (by omega) hI_13 (fun c_69 hI_70 hF_71 h_72 h_73 h_74 h_75 h_76 h_77 hA_78 => ?_))
      refine bk_inl ?_
      have h_79 := ir_41_4 hI_70
      have h_80 := ir_41_7 hI_70
      have h_81 := ir_41_34 hI_70
      have h_82 := ir_41_5 hI_70
      refine q_goto (t := 34) rfl (by decide) ?_
      refine q_aload_n rfl rfl ?_
      refine v_cv rfl rfl rfl rfl (by decide) ⟨⟨rfl, rfl⟩, by decide, rfl⟩ (Nat.le_of_ble_eq_true rfl) (Nat.le_of_ble_eq_true rfl) ?_
      refine q_aload_n rfl rfl ?_
      refine v_gi (z := 5) (v := c_69 41 5) rfl rfl rfl (by decide) rfl rfl rfl ?_
      refine q_iconst rfl ?_
      by_cases h_83 : c_69 41 5 ≠ (-1)
      · refine v_ic_ne_t (t := 12) rfl (by decide) (by omega) ?_
        refine q_iconst rfl ?_
        refine v_zret rfl rfl (by omega) ?_
        refine bk_inl ?_
        refine v_if_eq_t (t := 57) rfl (by decide) (by decide) ?_
        refine q_aload_n rfl rfl ?_
        refine v_bip rfl (by decide) ?_
        have kn_84 : Hid (c_69 41 3 = c 41 3) := (hF_71 41 3 (by omega)).trans (hid kn_62)
        have h_85 : c_69 41 3 = c 41 3 := (hid kn_84)
        refine v_cv rfl rfl rfl rfl (by decide) ⟨⟨rfl, rfl⟩, by decide, rfl⟩ (Nat.le_of_ble_eq_true rfl) (Nat.le_of_ble_eq_true rfl) (s_161 (a1 := 93) hI_70 (show 1 ≤ 93 ∧ 93 ≤ 255 from by omega) (fun c_86 hI_87 hF_88 h_89 h_90 h_91 h_92 => ?_))
        refine bk_inl ?_
        have h_93 := ir_41_4 hI_87
        have h_94 := ir_41_5 hI_87
        refine q_aload_n rfl rfl ?_
        refine q_dup rfl rfl ?_
        have kn_95 : Hid (c_86 41 7 = c_69 41 7) := hF_88 41 7 (by omega)
        refine v_gi (z := 7) (v := c_69 41 7) rfl rfl rfl (by decide) rfl rfl (hid kn_95) ?_
        refine q_iconst rfl ?_
        refine v_isub (v := c_69 41 7 - 1) rfl (by omega) ?_
        refine v_pi (z := 7) rfl rfl rfl (by decide) rfl rfl rfl (by decide) ?_
        refine q_aload_n rfl rfl ?_
        refine v_cv rfl rfl rfl rfl (by decide) ⟨⟨rfl, rfl⟩, by decide, rfl⟩ (Nat.le_of_ble_eq_true rfl) (Nat.le_of_ble_eq_true rfl) ?_
        refine q_aload_n rfl rfl ?_
        refine v_gi (z := 5) (v := c_86 41 5) rfl rfl rfl (by decide) rfl rfl (up_n (by decide)) ?_
        refine q_iconst rfl ?_
        refine v_ic_ne_t (t := 12) rfl (by decide) (by omega) ?_
        refine q_iconst rfl ?_
        refine v_zret rfl rfl (by omega) ?_
        refine bk_inl ?_
        refine v_if_eq_t (t := 92) rfl (by decide) (by decide) ?_
        refine q_vret rfl rfl ?_
        have hI_96 := iw_41_7 (v := c_69 41 7 - 1) hI_87 ⟨by omega, by omega⟩
        have kn_97 : Hid (c_86 41 34 = c_69 41 34) := hF_88 41 34 (by omega)
        have h_98 : (up c_86 41 7 (c_69 41 7 - 1)) 41 34 = c_69 41 34 := ((up_n (by decide)).trans (hid kn_97))
        have h_99 : (up c_86 41 7 (c_69 41 7 - 1)) 41 34 = c_69 41 34 := ((up_n (by decide)).trans (hid kn_97))
        have h_100 : (up c_86 41 7 (c_69 41 7 - 1)) 41 4 = c_86 41 4 := (up_n (by decide))
        have h_101 : (up c_86 41 7 (c_69 41 7 - 1)) 41 5 = c_86 41 5 := (up_n (by decide))
        have h_102 : (up c_86 41 7 (c_69 41 7 - 1)) 41 7 = c_69 41 7 - 1 := (up_e rfl)
        have hb9 : (up c_86 41 7 (c_69 41 7 - 1)) 41 5 = c_86 41 5 := (up_n (by decide))
        exact K (up c_86 41 7 (c_69 41 7 - 1)) hI_96 (fun a j hm => (up_b (by omega)).trans ((hF_88 a j (by omega)).trans ((hF_71 a j (by omega)).trans ((hF_14 a j (by omega)).trans (hF a j (by omega)))))) (by omega) (by omega) (by omega) (by omega) (by omega) (by omega) (fun h9 => absurd h9 (by omega))
      · refine v_ic_ne_f (t := 12) rfl (by decide) (by omega) ?_
        refine q_iconst rfl ?_
        refine q_goto (t := 13) rfl (by decide) ?_
        refine v_zret rfl rfl (by omega) ?_
        refine bk_inl ?_
        refine v_if_eq_f (t := 57) rfl (by decide) (by decide) ?_
        refine Wp_ls [(0, .ref 41), (1, vi v1), (2, vi v2)] (lsub_cons rfl (lsub_cons rfl (lsub_cons rfl lsub_nil))) ?_
        have kn_103 : Hid (c_12 56 v2 = c2 56 v2) := hF_14 56 v2 (by omega)
        have kn_104 : Hid (c_69 56 v2 = c2 56 v2) := (hF_71 56 v2 (by omega)).trans (hid kn_103)
        have h_105 : c_69 56 v2 = c2 56 v2 := (hid kn_104)
        have h_106 : c_69 41 34 = c_69 41 34 := rfl
        have h_107 : c_12 41 34 = c2 41 34 := (hid kn_64)
        exact ih c_69 v1 v2 hI_70 (fun a j hm => (hF_71 a j (by omega)).trans ((hF_14 a j (by omega)).trans (hF a j (by omega)))) ⟨by omega, by omega⟩ ⟨by omega, by omega⟩ (by omega) (by omega) (by omega) (by omega) (by omega) (by omega) (by omega) (by omega) (by omega) (by omega) (ap_join (ap_fr (c2 := c_69) hx10 (by omega) rfl rfl (fun j h1 h2 => (hF_71 56 j (by omega)).trans (hF_14 56 j (by omega)))) (show c_12 41 34 = c2 41 34 from by omega) (hA_78 (by omega))) (by omega)
set_option maxRecDepth 100000 in
set_option maxHeartbeats 4000000 in
theorem s_184 {sc : List Int32} {e : Int} {d u P Q : Nat} {c : ME} {o : Int} {Z : AR → Prop} (hI : Iv u e P Q c) (ho : 0 ≤ o ∧ o ≤ 6) (hq0 : (c 41 5 = (-1))) (hq1 : (c 41 4 ≤ c 41 3)) (hq2 : (c 41 3 ≤ 150)) (hq3 : (3 * c 41 34 ≤ 5 * c 41 4)) (hq4 : (((c 41 34) % 5) = 0)) (hq5 : (c 41 7 = o)) (hq6 : (c 41 4 ≤ c 41 3 - 1)) (H185 : ∀ (d9 : Nat) (c : ME) (Z : AR → Prop), d ≤ d9 → o + 1 ≤ 6 → Iv u e P Q c → ((c 41 5 = (-1))) → ((c 41 4 ≤ c 41 3)) → ((c 41 3 ≤ 150)) → ((3 * c 41 34 ≤ 5 * c 41 4)) → ((((c 41 34) % 5) = 0)) → (c 41 7 = o + 1) → (∀ c2 : ME, Iv u e P Q c2 → (∀ (a : Nat) (j : Int), ¬ ((a = 41 ∧ j = 4) ∨ (a = 41 ∧ j = 5) ∨ (a = 41 ∧ j = 6) ∨ (a = 41 ∧ j = 7) ∨ (a = 41 ∧ j = 34) ∨ (a = 56 ∧ j ≥ c 41 34)) → c2 a j = c a j) → ((c2 41 4 ≥ c 41 4)) → ((c2 41 7 = c 41 7)) → ((5 * c 41 4 + 3 * c2 41 34 ≤ 3 * c 41 34 + 5 * c2 41 4)) → ((c2 41 5 < (-1)) ∨ (c2 41 5 > (-1)) ∨ (c2 41 4 ≤ c 41 3 ∧ c2 41 4 > c 41 4)) → ((((c2 41 34) % 5) = 0)) → ((c2 41 34 ≥ c 41 34)) → (c2 41 5 = -1 → Ap c2 56 (c 41 34) (c2 41 34)) → Z (.inl none, Wd P Q P P c2, 0, 0)) → Wp sc (d9 + 12) 185 0 [(0, .ref 41)] [] (Wd P Q P P c) 0 0 Z) (K : ∀ (c2 : ME), Iv u e P Q c2 → (∀ (a : Nat) (j : Int), ¬ ((a = 41 ∧ j = 4) ∨ (a = 41 ∧ j = 5) ∨ (a = 41 ∧ j = 6) ∨ (a = 41 ∧ j = 7) ∨ (a = 41 ∧ j = 34) ∨ (a = 56 ∧ j ≥ c 41 34)) → c2 a j = c a j) → ((c2 41 4 ≥ c 41 4)) → ((c2 41 7 = c 41 7)) → ((5 * c 41 4 + 3 * c2 41 34 ≤ 3 * c 41 34 + 5 * c2 41 4)) → ((c2 41 5 < (-1)) ∨ (c2 41 5 > (-1)) ∨ (c2 41 4 ≤ c 41 3 ∧ c2 41 4 > c 41 4)) → ((((c2 41 34) % 5) = 0)) → ((c2 41 34 ≥ c 41 34)) → (c2 41 5 = -1 → Ap c2 56 (c 41 34) (c2 41 34)) → Z (.inl (none), Wd P Q P P c2, 0, 0)) : Wp sc (d + 13) 184 0 [(0, .ref 41)] [] (Wd P Q P P c) 0 0 Z := by
  have hP := iv_P hI
  have hQ := iv_Q hI
  have h_109 := ir_41_5 hI
  have h_110 := ir_41_3 hI
  have h_111 := ir_41_4 hI
  have h_112 := ir_41_34 hI
  have h_113 := ir_41_7 hI
  refine q_aload_n rfl rfl ?_
  refine q_iconst rfl ?_
  refine v_cv rfl rfl rfl rfl (by decide) ⟨⟨rfl, rfl⟩, by decide, rfl⟩ (Nat.le_of_ble_eq_true rfl) (Nat.le_of_ble_eq_true rfl) (s_171 (a1 := 5) hI (show 1 ≤ 5 ∧ 5 ≤ 5 from by omega) (by omega) (by omega) (fun c_114 hI_115 hF_116 h_117 h_118 h_119 h_120 => ?_))
  refine bk_inl ?_
  have h_121 := ir_41_4 hI_115
  have h_122 := ir_41_7 hI_115
  have h_123 := ir_41_5 hI_115
  refine q_aload_n rfl rfl ?_
  refine q_iconst rfl ?_
  refine v_bip rfl (by decide) ?_
  have kn_124 : Hid (c_114 41 3 = c 41 3) := hF_116 41 3 (by omega)
  have h_125 : c_114 41 3 = c 41 3 := (hid kn_124)
  refine v_cv rfl rfl rfl rfl (by decide) ⟨⟨rfl, rfl⟩, by decide, rfl⟩ (Nat.le_of_ble_eq_true rfl) (Nat.le_of_ble_eq_true rfl) (s_160 (a1 := 0) (a2 := 40) hI_115 (show 0 ≤ 0 ∧ 0 ≤ 1 from by omega) (show (-1) ≤ 40 ∧ 40 ≤ 9999 from by omega) (fun c_126 y_129 hI_127 hF_128 hy_129 h_130 h_131 h_132 h_133 h_134 => ?_))
  refine bk_inl ?_
  have h_135 := ir_41_4 hI_127
  have h_136 := ir_41_5 hI_127
  refine q_istore_n rfl (by decide) ?_
  refine q_aload_n rfl rfl ?_
  refine v_bip rfl (by decide) ?_
  have kn_137 : Hid (c_126 41 3 = c 41 3) := (hF_128 41 3 (by omega)).trans (hid kn_124)
  have h_138 : c_126 41 3 = c 41 3 := (hid kn_137)
  refine v_cv rfl rfl rfl rfl (by decide) ⟨⟨rfl, rfl⟩, by decide, rfl⟩ (Nat.le_of_ble_eq_true rfl) (Nat.le_of_ble_eq_true rfl) (s_161 (a1 := 91) hI_127 (show 1 ≤ 91 ∧ 91 ≤ 255 from by omega) (fun c_139 hI_140 hF_141 h_142 h_143 h_144 h_145 => ?_))
  refine bk_inl ?_
  have h_146 := ir_41_4 hI_140
  have h_147 := ir_41_5 hI_140
  refine q_aload_n rfl rfl ?_
  have kn_148 : Hid (c_114 41 34 = c 41 34) := hF_116 41 34 (by omega)
  have kn_149 : Hid (c_126 41 34 = c 41 34) := (hF_128 41 34 (by omega)).trans (hid kn_148)
  have kn_150 : Hid (c_139 41 34 = c 41 34) := (hF_141 41 34 (by omega)).trans (hid kn_149)
  refine v_gi (z := 34) (v := c 41 34) rfl rfl rfl (by decide) rfl rfl (hid kn_150) ?_
  refine q_istore_n rfl (by decide) ?_
  refine q_aload_n rfl rfl ?_
  refine v_bip rfl (by decide) ?_
  refine q_iload_n rfl rfl ?_
  refine q_iconst rfl ?_
  refine q_iconst rfl ?_
  refine q_iconst rfl ?_
  have h_151 : c_139 41 34 = c 41 34 := (hid kn_150)
  have h_152 : c_139 41 34 = c 41 34 := (hid kn_150)
  refine v_cv rfl rfl rfl rfl (by decide) ⟨⟨rfl, rfl⟩, by decide, rfl⟩ (Nat.le_of_ble_eq_true rfl) (Nat.le_of_ble_eq_true rfl) (s_181 (a1 := 7) (a2 := y_129) (a3 := 0) (a4 := 0) (a5 := 0) hI_140 (show 0 ≤ 7 ∧ 7 ≤ 7 from by omega) (show 0 ≤ y_129 ∧ y_129 ≤ 40 from by omega) (show 0 ≤ 0 ∧ 0 ≤ 5 from by omega) (show 0 ≤ 0 ∧ 0 ≤ 999 from by omega) (show 0 ≤ 0 ∧ 0 ≤ 5 from by omega) (by omega) (by omega) (by omega) (by omega) (by omega) (by omega) (by omega) (by omega) (by omega) (fun c_153 hI_154 hF_155 h_156 h_157 h_158 => ?_))
  refine bk_inl ?_
  have h_159 := ir_41_34 hI_154
  have h_160 : c_153 56 ((c_139 41 34)) = c_153 56 (c 41 34) := congrArg (c_153 56) (by omega)
  have h_161 := ir_56 hI_154 (c 41 34)
  refine q_aload_n rfl rfl ?_
  refine v_cv rfl rfl rfl rfl (by decide) ⟨⟨rfl, rfl⟩, by decide, rfl⟩ (Nat.le_of_ble_eq_true rfl) (Nat.le_of_ble_eq_true rfl) ?_
  refine q_aload_n rfl rfl ?_
  have kn_162 : Hid (c_153 41 5 = c_139 41 5) := hF_155 41 5 (by omega)
  refine v_gi (z := 5) (v := c_139 41 5) rfl rfl rfl (by decide) rfl rfl (hid kn_162) ?_
  refine q_iconst rfl ?_
  by_cases h_163 : c_139 41 5 ≠ (-1)
  · refine v_ic_ne_t (t := 12) rfl (by decide) (by omega) ?_
    refine q_iconst rfl ?_
    refine v_zret rfl rfl (by omega) ?_
    refine bk_inl ?_
    refine v_if_eq_t (t := 57) rfl (by decide) (by decide) ?_
    refine q_aload_n rfl rfl ?_
    refine v_bip rfl (by decide) ?_
    have kn_164 : Hid (c_153 41 4 = c_139 41 4) := hF_155 41 4 (by omega)
    have h_165 : c_153 41 4 = c_139 41 4 := (hid kn_164)
    have kn_166 : Hid (c_139 41 3 = c 41 3) := (hF_141 41 3 (by omega)).trans (hid kn_137)
    have kn_167 : Hid (c_153 41 3 = c 41 3) := (hF_155 41 3 (by omega)).trans (hid kn_166)
    have h_168 : c_153 41 3 = c 41 3 := (hid kn_167)
    have h_169 : c_153 41 5 = c_139 41 5 := (hid kn_162)
    refine v_cv rfl rfl rfl rfl (by decide) ⟨⟨rfl, rfl⟩, by decide, rfl⟩ (Nat.le_of_ble_eq_true rfl) (Nat.le_of_ble_eq_true rfl) (s_161 (a1 := 93) hI_154 (show 1 ≤ 93 ∧ 93 ≤ 255 from by omega) (fun c_170 hI_171 hF_172 h_173 h_174 h_175 h_176 => ?_))
    refine bk_inl ?_
    have h_177 := ir_41_4 hI_171
    have h_178 := ir_41_5 hI_171
    refine q_aload_n rfl rfl ?_
    refine q_dup rfl rfl ?_
    have kn_179 : Hid (c_126 41 7 = c_114 41 7) := hF_128 41 7 (by omega)
    have kn_180 : Hid (c_139 41 7 = c_114 41 7) := (hF_141 41 7 (by omega)).trans (hid kn_179)
    have kn_181 : Hid (c_153 41 7 = c_114 41 7) := (hF_155 41 7 (by omega)).trans (hid kn_180)
    have kn_182 : Hid (c_170 41 7 = c_114 41 7) := (hF_172 41 7 (by omega)).trans (hid kn_181)
    refine v_gi (z := 7) (v := c_114 41 7) rfl rfl rfl (by decide) rfl rfl (hid kn_182) ?_
    refine q_iconst rfl ?_
    refine v_isub (v := c_114 41 7 - 1) rfl (by omega) ?_
    refine v_pi (z := 7) rfl rfl rfl (by decide) rfl rfl rfl (by decide) ?_
    refine q_aload_n rfl rfl ?_
    refine v_cv rfl rfl rfl rfl (by decide) ⟨⟨rfl, rfl⟩, by decide, rfl⟩ (Nat.le_of_ble_eq_true rfl) (Nat.le_of_ble_eq_true rfl) ?_
    refine q_aload_n rfl rfl ?_
    refine v_gi (z := 5) (v := c_170 41 5) rfl rfl rfl (by decide) rfl rfl (up_n (by decide)) ?_
    refine q_iconst rfl ?_
    refine v_ic_ne_t (t := 12) rfl (by decide) (by omega) ?_
    refine q_iconst rfl ?_
    refine v_zret rfl rfl (by omega) ?_
    refine bk_inl ?_
    refine v_if_eq_t (t := 92) rfl (by decide) (by decide) ?_
    refine q_vret rfl rfl ?_
    have hI_183 := iw_41_7 (v := c_114 41 7 - 1) hI_171 ⟨by omega, by omega⟩
    have kn_184 : Hid (c_170 41 34 = c_153 41 34) := hF_172 41 34 (by omega)
    have h_185 : (up c_170 41 7 (c_114 41 7 - 1)) 41 34 = c_153 41 34 := ((up_n (by decide)).trans (hid kn_184))
    have h_186 : (up c_170 41 7 (c_114 41 7 - 1)) 41 34 = c_153 41 34 := ((up_n (by decide)).trans (hid kn_184))
    have h_187 : (up c_170 41 7 (c_114 41 7 - 1)) 41 4 = c_170 41 4 := (up_n (by decide))
    have h_188 : (up c_170 41 7 (c_114 41 7 - 1)) 41 5 = c_170 41 5 := (up_n (by decide))
    have h_189 : (up c_170 41 7 (c_114 41 7 - 1)) 41 7 = c_114 41 7 - 1 := (up_e rfl)
    have hb9 : (up c_170 41 7 (c_114 41 7 - 1)) 41 5 = c_170 41 5 := (up_n (by decide))
    exact K (up c_170 41 7 (c_114 41 7 - 1)) hI_183 (fun a j hm => (up_b (by omega)).trans ((hF_172 a j (by omega)).trans ((hF_155 a j (by omega)).trans ((hF_141 a j (by omega)).trans ((hF_128 a j (by omega)).trans (hF_116 a j (by omega))))))) (by omega) (by omega) (by omega) (by omega) (by omega) (by omega) (fun h9 => absurd h9 (by omega))
  · refine v_ic_ne_f (t := 12) rfl (by decide) (by omega) ?_
    refine q_iconst rfl ?_
    refine q_goto (t := 13) rfl (by decide) ?_
    refine v_zret rfl rfl (by omega) ?_
    refine bk_inl ?_
    refine v_if_eq_f (t := 57) rfl (by decide) (by decide) ?_
    refine Wp_ls [(0, .ref 41), (1, vi y_129), (2, vi (c 41 34))] (lsub_cons rfl (lsub_cons rfl (lsub_cons rfl lsub_nil))) ?_
    have kn_190 : Hid (c_153 41 4 = c_139 41 4) := hF_155 41 4 (by omega)
    have h_191 : c_153 41 4 = c_139 41 4 := (hid kn_190)
    have h_192 : c_153 41 5 = c_139 41 5 := (hid kn_162)
    have kn_193 : Hid (c_126 41 7 = c_114 41 7) := hF_128 41 7 (by omega)
    have kn_194 : Hid (c_139 41 7 = c_114 41 7) := (hF_141 41 7 (by omega)).trans (hid kn_193)
    have kn_195 : Hid (c_153 41 7 = c_114 41 7) := (hF_155 41 7 (by omega)).trans (hid kn_194)
    have h_196 : c_153 41 7 = c_114 41 7 := (hid kn_195)
    have h_197 : c_153 41 34 = c_153 41 34 := rfl
    exact (s_184_l (sc := sc) (d := d) hI ho hq0 hq1 hq2 hq3 hq4 hq5 hq6 H185 K 1214) c_153 y_129 (c 41 34) hI_154 (fun a j hm => (hF_155 a j (by omega)).trans ((hF_141 a j (by omega)).trans ((hF_128 a j (by omega)).trans (hF_116 a j (by omega))))) ⟨by omega, by omega⟩ ⟨by omega, by omega⟩ (by omega) (by omega) (by omega) (by omega) (by omega) (by omega) (by omega) (by omega) (by omega) (by omega) (ap_nil (by omega)) (by omega)

set_option maxRecDepth 100000 in
set_option maxHeartbeats 4000000 in
theorem s_185 {sc : List Int32} {e : Int} {d u P Q : Nat} {c : ME} {o : Int} {Z : AR → Prop} (hI : Iv u e P Q c) (ho : 0 ≤ o ∧ o ≤ 6) (hq0 : (c 41 5 = (-1))) (hq1 : (c 41 4 ≤ c 41 3)) (hq2 : (c 41 3 ≤ 150)) (hq3 : (3 * c 41 34 ≤ 5 * c 41 4)) (hq4 : (((c 41 34) % 5) = 0)) (hq5 : (c 41 7 = o)) (H185 : ∀ (d9 : Nat) (c : ME) (Z : AR → Prop), d ≤ d9 → o + 1 ≤ 6 → Iv u e P Q c → ((c 41 5 = (-1))) → ((c 41 4 ≤ c 41 3)) → ((c 41 3 ≤ 150)) → ((3 * c 41 34 ≤ 5 * c 41 4)) → ((((c 41 34) % 5) = 0)) → (c 41 7 = o + 1) → (∀ c2 : ME, Iv u e P Q c2 → (∀ (a : Nat) (j : Int), ¬ ((a = 41 ∧ j = 4) ∨ (a = 41 ∧ j = 5) ∨ (a = 41 ∧ j = 6) ∨ (a = 41 ∧ j = 7) ∨ (a = 41 ∧ j = 34) ∨ (a = 56 ∧ j ≥ c 41 34)) → c2 a j = c a j) → ((c2 41 4 ≥ c 41 4)) → ((c2 41 7 = c 41 7)) → ((5 * c 41 4 + 3 * c2 41 34 ≤ 3 * c 41 34 + 5 * c2 41 4)) → ((c2 41 5 < (-1)) ∨ (c2 41 5 > (-1)) ∨ (c2 41 4 ≤ c 41 3 ∧ c2 41 4 > c 41 4)) → ((((c2 41 34) % 5) = 0)) → ((c2 41 34 ≥ c 41 34)) → (c2 41 5 = -1 → Ap c2 56 (c 41 34) (c2 41 34)) → Z (.inl none, Wd P Q P P c2, 0, 0)) → Wp sc (d9 + 12) 185 0 [(0, .ref 41)] [] (Wd P Q P P c) 0 0 Z) (K : ∀ (c2 : ME), Iv u e P Q c2 → (∀ (a : Nat) (j : Int), ¬ ((a = 41 ∧ j = 4) ∨ (a = 41 ∧ j = 5) ∨ (a = 41 ∧ j = 6) ∨ (a = 41 ∧ j = 7) ∨ (a = 41 ∧ j = 34) ∨ (a = 56 ∧ j ≥ c 41 34)) → c2 a j = c a j) → ((c2 41 4 ≥ c 41 4)) → ((c2 41 7 = c 41 7)) → ((5 * c 41 4 + 3 * c2 41 34 ≤ 3 * c 41 34 + 5 * c2 41 4)) → ((c2 41 5 < (-1)) ∨ (c2 41 5 > (-1)) ∨ (c2 41 4 ≤ c 41 3 ∧ c2 41 4 > c 41 4)) → ((((c2 41 34) % 5) = 0)) → ((c2 41 34 ≥ c 41 34)) → (c2 41 5 = -1 → Ap c2 56 (c 41 34) (c2 41 34)) → Z (.inl (none), Wd P Q P P c2, 0, 0)) : Wp sc (d + 14) 185 0 [(0, .ref 41)] [] (Wd P Q P P c) 0 0 Z := by
  have hP := iv_P hI
  have hQ := iv_Q hI
  have h_1 := ir_41_5 hI
  have h_2 := ir_41_3 hI
  have h_3 := ir_41_4 hI
  have h_4 := ir_41_34 hI
  have h_5 := ir_41_7 hI
  refine q_aload_n rfl rfl ?_
  refine v_cv rfl rfl rfl rfl (by decide) ⟨⟨rfl, rfl⟩, by decide, rfl⟩ (Nat.le_of_ble_eq_true rfl) (Nat.le_of_ble_eq_true rfl) (s_157 hI (fun c_6 y_9 hI_7 hF_8 hy_9 h_10 h_11 h_12 h_13 h_14 => ?_))
  refine bk_inl ?_
  have h_15 := ir_41_4 hI_7
  have h_16 := ir_43 hI (c_6 41 4)
  have h_17 := ir_43 hI (c_6 41 4 + 1)
  have h_18 := ir_43 hI (c_6 41 4 + 2)
  refine q_call rfl rfl rfl rfl (s_182 (a0 := y_9) hI_7 (show (-2147483648) ≤ y_9 ∧ y_9 ≤ 2147483647 from by omega) (fun y_19 hy_19 h_20 => ?_))
  refine bk_inl ?_
  refine q_istore_n rfl (by decide) ?_
  refine q_iload_n rfl rfl ?_
  refine q_iconst rfl ?_
  by_cases h_21 : y_19 ≠ (-1)
  · refine v_ic_ne_t (t := 25) rfl (by decide) (by omega) ?_
    refine q_iload_n rfl rfl ?_
    refine v_bip rfl (by decide) ?_
    by_cases h_22 : y_19 ≠ 7
    · refine v_ic_ne_t (t := 38) rfl (by decide) (by omega) ?_
      refine q_aload_n rfl rfl ?_
      have kn_23 : Hid (c_6 41 3 = c 41 3) := hF_8 41 3 (by omega)
      have h_24 : c_6 41 3 = c 41 3 := (hid kn_23)
      have kn_25 : Hid (c_6 43 (c_6 41 4) = c 43 (c_6 41 4)) := hF_8 43 (c_6 41 4) (by omega)
      have h_26 : c_6 43 (c_6 41 4) = c 43 (c_6 41 4) := (hid kn_25)
      have kn_27 : Hid (c_6 43 (c_6 41 4 + 1) = c 43 (c_6 41 4 + 1)) := hF_8 43 (c_6 41 4 + 1) (by omega)
      have h_28 : c_6 43 (c_6 41 4 + 1) = c 43 (c_6 41 4 + 1) := (hid kn_27)
      have kn_29 : Hid (c_6 43 (c_6 41 4 + 2) = c 43 (c_6 41 4 + 2)) := hF_8 43 (c_6 41 4 + 2) (by omega)
      have h_30 : c_6 43 (c_6 41 4 + 2) = c 43 (c_6 41 4 + 2) := (hid kn_29)
      refine v_cv rfl rfl rfl rfl (by decide) ⟨⟨rfl, rfl⟩, by decide, rfl⟩ (Nat.le_of_ble_eq_true rfl) (Nat.le_of_ble_eq_true rfl) (s_159 hI_7 (fun c_31 hI_32 hF_33 h_34 h_35 h_36 h_37 => ?_))
      refine bk_inl ?_
      have h_38 := ir_41_4 hI_32
      refine q_iload_n rfl rfl ?_
      refine v_bip rfl (by decide) ?_
      by_cases h_39 : y_19 ≠ 6
      · refine v_ic_ne_t (t := 52) rfl (by decide) (by omega) ?_
        refine q_iload_n rfl rfl ?_
        by_cases h_40 : y_19 ≠ 0
        · refine v_if_ne_t (t := 70) rfl (by decide) (by omega) ?_
          refine q_iload_n rfl rfl ?_
          refine q_iconst rfl ?_
          by_cases h_41 : y_19 = 1
          · refine v_ic_eq_t (t := 80) rfl (by decide) (by omega) ?_
            refine q_aload_n rfl rfl ?_
            refine q_iconst rfl ?_
            refine q_aload_n rfl rfl ?_
            have h_42 := ir_41_22 hI
            have kn_43 : Hid (c_6 41 22 = c 41 22) := hF_8 41 22 (by omega)
            have kn_44 : Hid (c_31 41 22 = c 41 22) := (hF_33 41 22 (by omega)).trans (hid kn_43)
            refine v_gi (z := 22) (v := c 41 22) rfl rfl rfl (by decide) rfl rfl (hid kn_44) ?_
            refine q_iconst rfl ?_
            refine v_isub (v := c 41 22 - 1) rfl (by omega) ?_
            have kn_45 : Hid (c_31 41 3 = c 41 3) := (hF_33 41 3 (by omega)).trans (hid kn_23)
            have h_46 : c_31 41 3 = c 41 3 := (hid kn_45)
            have kn_47 : Hid (c_6 41 5 = c 41 5) := hF_8 41 5 (by omega)
            have kn_48 : Hid (c_31 41 5 = c 41 5) := (hF_33 41 5 (by omega)).trans (hid kn_47)
            have h_49 : c_31 41 5 = c 41 5 := (hid kn_48)
            refine v_cv rfl rfl rfl rfl (by decide) ⟨⟨rfl, rfl⟩, by decide, rfl⟩ (Nat.le_of_ble_eq_true rfl) (Nat.le_of_ble_eq_true rfl) (s_160 (a1 := 0) (a2 := c 41 22 - 1) hI_32 (show 0 ≤ 0 ∧ 0 ≤ 1 from by omega) (show (-1) ≤ c 41 22 - 1 ∧ c 41 22 - 1 ≤ 9999 from by omega) (fun c_50 y_53 hI_51 hF_52 hy_53 h_54 h_55 h_56 h_57 h_58 => ?_))
            refine bk_inl ?_
            have h_59 := ir_41_4 hI_51
            have h_60 := ir_41_5 hI_51
            refine q_goto (t := 98) rfl (by decide) ?_
            refine q_istore_n rfl (by decide) ?_
            refine q_iload_n rfl rfl ?_
            refine q_iconst rfl ?_
            refine v_ic_ge_f (t := 111) rfl (by decide) (by omega) ?_
            refine q_aload_n rfl rfl ?_
            have kn_61 : Hid (c_50 41 3 = c 41 3) := (hF_52 41 3 (by omega)).trans (hid kn_45)
            have h_62 : c_50 41 3 = c 41 3 := (hid kn_61)
            refine v_cv rfl rfl rfl rfl (by decide) ⟨⟨rfl, rfl⟩, by decide, rfl⟩ (Nat.le_of_ble_eq_true rfl) (Nat.le_of_ble_eq_true rfl) (s_183 hI_51 (fun c_63 y_66 hI_64 hF_65 hy_66 h_67 h_68 h_69 h_70 => ?_))
            refine bk_inl ?_
            have h_71 := ir_41_4 hI_64
            have h_72 := ir_41_5 hI_64
            refine q_goto (t := 112) rfl (by decide) ?_
            refine q_istore_n rfl (by decide) ?_
            refine q_iload_n rfl rfl ?_
            refine q_iconst rfl ?_
            refine v_ic_ne_f (t := 125) rfl (by decide) (by omega) ?_
            refine q_aload_n rfl rfl ?_
            have kn_73 : Hid (c_63 41 3 = c 41 3) := (hF_65 41 3 (by omega)).trans (hid kn_61)
            have h_74 : c_63 41 3 = c 41 3 := (hid kn_73)
            refine v_cv rfl rfl rfl rfl (by decide) ⟨⟨rfl, rfl⟩, by decide, rfl⟩ (Nat.le_of_ble_eq_true rfl) (Nat.le_of_ble_eq_true rfl) (s_183 hI_64 (fun c_75 y_78 hI_76 hF_77 hy_78 h_79 h_80 h_81 h_82 => ?_))
            refine bk_inl ?_
            have h_83 := ir_41_4 hI_76
            have h_84 := ir_41_5 hI_76
            refine q_goto (t := 142) rfl (by decide) ?_
            refine q_istore rfl (by decide) ?_
            refine q_aload_n rfl rfl ?_
            refine q_iload_n rfl rfl ?_
            refine q_iload_n rfl rfl ?_
            refine q_iload_n rfl rfl ?_
            refine q_iload rfl rfl ?_
            refine q_iload_n rfl rfl ?_
            refine q_iconst rfl ?_
            refine v_ic_ne_f (t := 162) rfl (by decide) (by omega) ?_
            refine q_aload_n rfl rfl ?_
            have kn_85 : Hid (c_75 41 3 = c 41 3) := (hF_77 41 3 (by omega)).trans (hid kn_73)
            have h_86 : c_75 41 3 = c 41 3 := (hid kn_85)
            refine v_cv rfl rfl rfl rfl (by decide) ⟨⟨rfl, rfl⟩, by decide, rfl⟩ (Nat.le_of_ble_eq_true rfl) (Nat.le_of_ble_eq_true rfl) (s_183 hI_76 (fun c_87 y_90 hI_88 hF_89 hy_90 h_91 h_92 h_93 h_94 => ?_))
            refine bk_inl ?_
            have h_95 := ir_41_4 hI_88
            have h_96 := ir_41_5 hI_88
            refine q_goto (t := 163) rfl (by decide) ?_
            have kn_97 : Hid (c_6 41 34 = c 41 34) := hF_8 41 34 (by omega)
            have kn_98 : Hid (c_31 41 34 = c 41 34) := (hF_33 41 34 (by omega)).trans (hid kn_97)
            have kn_99 : Hid (c_50 41 34 = c 41 34) := (hF_52 41 34 (by omega)).trans (hid kn_98)
            have kn_100 : Hid (c_63 41 34 = c 41 34) := (hF_65 41 34 (by omega)).trans (hid kn_99)
            have kn_101 : Hid (c_75 41 34 = c 41 34) := (hF_77 41 34 (by omega)).trans (hid kn_100)
            have kn_102 : Hid (c_87 41 34 = c 41 34) := (hF_89 41 34 (by omega)).trans (hid kn_101)
            have h_103 : c_87 41 34 = c 41 34 := (hid kn_102)
            have h_104 : c_87 41 34 = c 41 34 := (hid kn_102)
            refine v_cv rfl rfl rfl rfl (by decide) ⟨⟨rfl, rfl⟩, by decide, rfl⟩ (Nat.le_of_ble_eq_true rfl) (Nat.le_of_ble_eq_true rfl) (s_181 (a1 := y_19) (a2 := y_53) (a3 := y_66) (a4 := y_78) (a5 := y_90) hI_88 (show 0 ≤ y_19 ∧ y_19 ≤ 7 from by omega) (show 0 ≤ y_53 ∧ y_53 ≤ 40 from by omega) (show 0 ≤ y_66 ∧ y_66 ≤ 5 from by omega) (show 0 ≤ y_78 ∧ y_78 ≤ 999 from by omega) (show 0 ≤ y_90 ∧ y_90 ≤ 5 from by omega) (by omega) (by omega) (by omega) (by omega) (by omega) (by omega) (by omega) (by omega) (by omega) (fun c_105 hI_106 hF_107 h_108 h_109 h_110 => ?_))
            refine bk_inl ?_
            have h_111 := ir_41_34 hI_106
            have h_112 : c_105 56 ((c_87 41 34)) = c_105 56 (c 41 34) := congrArg (c_105 56) (by omega)
            have h_113 := ir_56 hI_106 (c 41 34)
            refine q_aload_n rfl rfl ?_
            refine v_bip rfl (by decide) ?_
            have kn_114 : Hid (c_105 41 4 = c_87 41 4) := hF_107 41 4 (by omega)
            have h_115 : c_105 41 4 = c_87 41 4 := (hid kn_114)
            have kn_116 : Hid (c_87 41 3 = c 41 3) := (hF_89 41 3 (by omega)).trans (hid kn_85)
            have kn_117 : Hid (c_105 41 3 = c 41 3) := (hF_107 41 3 (by omega)).trans (hid kn_116)
            have h_118 : c_105 41 3 = c 41 3 := (hid kn_117)
            have kn_119 : Hid (c_105 41 5 = c_87 41 5) := hF_107 41 5 (by omega)
            have h_120 : c_105 41 5 = c_87 41 5 := (hid kn_119)
            refine v_cv rfl rfl rfl rfl (by decide) ⟨⟨rfl, rfl⟩, by decide, rfl⟩ (Nat.le_of_ble_eq_true rfl) (Nat.le_of_ble_eq_true rfl) (s_161 (a1 := 59) hI_106 (show 1 ≤ 59 ∧ 59 ≤ 255 from by omega) (fun c_121 hI_122 hF_123 h_124 h_125 h_126 h_127 => ?_))
            refine bk_inl ?_
            have h_128 := ir_41_4 hI_122
            have h_129 := ir_41_5 hI_122
            refine q_vret rfl rfl ?_
            have kn_130 : Hid (c_121 41 34 = c_105 41 34) := hF_123 41 34 (by omega)
            have h_131 : c_121 41 34 = c_105 41 34 := (hid kn_130)
            have h_132 : c_121 41 34 = c_105 41 34 := (hid kn_130)
            have kn_133 : Hid (c_6 41 7 = c 41 7) := hF_8 41 7 (by omega)
            have kn_134 : Hid (c_31 41 7 = c 41 7) := (hF_33 41 7 (by omega)).trans (hid kn_133)
            have kn_135 : Hid (c_50 41 7 = c 41 7) := (hF_52 41 7 (by omega)).trans (hid kn_134)
            have kn_136 : Hid (c_63 41 7 = c 41 7) := (hF_65 41 7 (by omega)).trans (hid kn_135)
            have kn_137 : Hid (c_75 41 7 = c 41 7) := (hF_77 41 7 (by omega)).trans (hid kn_136)
            have kn_138 : Hid (c_87 41 7 = c 41 7) := (hF_89 41 7 (by omega)).trans (hid kn_137)
            have kn_139 : Hid (c_105 41 7 = c 41 7) := (hF_107 41 7 (by omega)).trans (hid kn_138)
            have kn_140 : Hid (c_121 41 7 = c 41 7) := (hF_123 41 7 (by omega)).trans (hid kn_139)
            have h_141 : c_121 41 7 = c 41 7 := (hid kn_140)
            have hb9 : c_121 41 5 = c_121 41 5 := rfl
            have hn9 : c_121 41 34 = c_105 41 34 := (hid kn_130)
            have kn_142 : Hid (c_121 56 (c 41 34) = c_105 56 (c 41 34)) := hF_123 56 (c 41 34) (by omega)
            have hq9 : c_121 56 (c 41 34) = c_105 56 (c 41 34) := (hid kn_142)
            exact K c_121 hI_122 (fun a j hm => (hF_123 a j (by omega)).trans ((hF_107 a j (by omega)).trans ((hF_89 a j (by omega)).trans ((hF_77 a j (by omega)).trans ((hF_65 a j (by omega)).trans ((hF_52 a j (by omega)).trans ((hF_33 a j (by omega)).trans (hF_8 a j (by omega))))))))) (by omega) (by omega) (by omega) (by omega) (by omega) (by omega) (fun h9 => ap_one (by omega) (by omega) (by omega))
          · refine v_ic_eq_f (t := 80) rfl (by decide) (by omega) ?_
            refine q_iload_n rfl rfl ?_
            refine q_iconst rfl ?_
            by_cases h_143 : y_19 ≠ 4
            · refine v_ic_ne_t (t := 94) rfl (by decide) (by omega) ?_
              refine q_aload_n rfl rfl ?_
              have kn_144 : Hid (c_31 41 3 = c 41 3) := (hF_33 41 3 (by omega)).trans (hid kn_23)
              have h_145 : c_31 41 3 = c 41 3 := (hid kn_144)
              have kn_146 : Hid (c_6 41 5 = c 41 5) := hF_8 41 5 (by omega)
              have kn_147 : Hid (c_31 41 5 = c 41 5) := (hF_33 41 5 (by omega)).trans (hid kn_146)
              have h_148 : c_31 41 5 = c 41 5 := (hid kn_147)
              refine v_cv rfl rfl rfl rfl (by decide) ⟨⟨rfl, rfl⟩, by decide, rfl⟩ (Nat.le_of_ble_eq_true rfl) (Nat.le_of_ble_eq_true rfl) (s_183 hI_32 (fun c_149 y_152 hI_150 hF_151 hy_152 h_153 h_154 h_155 h_156 => ?_))
              refine bk_inl ?_
              have h_157 := ir_41_4 hI_150
              have h_158 := ir_41_5 hI_150
              refine q_istore_n rfl (by decide) ?_
              refine q_iload_n rfl rfl ?_
              refine q_iconst rfl ?_
              by_cases h_159 : y_19 ≥ 4
              · refine v_ic_ge_t (t := 111) rfl (by decide) (by omega) ?_
                refine q_iconst rfl ?_
                refine q_istore_n rfl (by decide) ?_
                refine q_iload_n rfl rfl ?_
                refine q_iconst rfl ?_
                refine v_ic_ne_t (t := 125) rfl (by decide) (by omega) ?_
                refine q_iload_n rfl rfl ?_
                refine q_iconst rfl ?_
                refine v_ic_ne_t (t := 141) rfl (by decide) (by omega) ?_
                refine q_iconst rfl ?_
                refine q_istore rfl (by decide) ?_
                refine q_aload_n rfl rfl ?_
                refine q_iload_n rfl rfl ?_
                refine q_iload_n rfl rfl ?_
                refine q_iload_n rfl rfl ?_
                refine q_iload rfl rfl ?_
                refine q_iload_n rfl rfl ?_
                refine q_iconst rfl ?_
                refine v_ic_ne_t (t := 162) rfl (by decide) (by omega) ?_
                refine q_iconst rfl ?_
                have kn_160 : Hid (c_6 41 34 = c 41 34) := hF_8 41 34 (by omega)
                have kn_161 : Hid (c_31 41 34 = c 41 34) := (hF_33 41 34 (by omega)).trans (hid kn_160)
                have kn_162 : Hid (c_149 41 34 = c 41 34) := (hF_151 41 34 (by omega)).trans (hid kn_161)
                have h_163 : c_149 41 34 = c 41 34 := (hid kn_162)
                have h_164 : c_149 41 34 = c 41 34 := (hid kn_162)
                refine v_cv rfl rfl rfl rfl (by decide) ⟨⟨rfl, rfl⟩, by decide, rfl⟩ (Nat.le_of_ble_eq_true rfl) (Nat.le_of_ble_eq_true rfl) (s_181 (a1 := y_19) (a2 := y_152) (a3 := 0) (a4 := 0) (a5 := 0) hI_150 (show 0 ≤ y_19 ∧ y_19 ≤ 7 from by omega) (show 0 ≤ y_152 ∧ y_152 ≤ 40 from by omega) (show 0 ≤ 0 ∧ 0 ≤ 5 from by omega) (show 0 ≤ 0 ∧ 0 ≤ 999 from by omega) (show 0 ≤ 0 ∧ 0 ≤ 5 from by omega) (by omega) (by omega) (by omega) (by omega) (by omega) (by omega) (by omega) (by omega) (by omega) (fun c_165 hI_166 hF_167 h_168 h_169 h_170 => ?_))
                refine bk_inl ?_
                have h_171 := ir_41_34 hI_166
                have h_172 : c_165 56 ((c_149 41 34)) = c_165 56 (c 41 34) := congrArg (c_165 56) (by omega)
                have h_173 := ir_56 hI_166 (c 41 34)
                refine q_aload_n rfl rfl ?_
                refine v_bip rfl (by decide) ?_
                have kn_174 : Hid (c_165 41 4 = c_149 41 4) := hF_167 41 4 (by omega)
                have h_175 : c_165 41 4 = c_149 41 4 := (hid kn_174)
                have kn_176 : Hid (c_149 41 3 = c 41 3) := (hF_151 41 3 (by omega)).trans (hid kn_144)
                have kn_177 : Hid (c_165 41 3 = c 41 3) := (hF_167 41 3 (by omega)).trans (hid kn_176)
                have h_178 : c_165 41 3 = c 41 3 := (hid kn_177)
                have kn_179 : Hid (c_165 41 5 = c_149 41 5) := hF_167 41 5 (by omega)
                have h_180 : c_165 41 5 = c_149 41 5 := (hid kn_179)
                refine v_cv rfl rfl rfl rfl (by decide) ⟨⟨rfl, rfl⟩, by decide, rfl⟩ (Nat.le_of_ble_eq_true rfl) (Nat.le_of_ble_eq_true rfl) (s_161 (a1 := 59) hI_166 (show 1 ≤ 59 ∧ 59 ≤ 255 from by omega) (fun c_181 hI_182 hF_183 h_184 h_185 h_186 h_187 => ?_))
                refine bk_inl ?_
                have h_188 := ir_41_4 hI_182
                have h_189 := ir_41_5 hI_182
                refine q_vret rfl rfl ?_
                have kn_190 : Hid (c_181 41 34 = c_165 41 34) := hF_183 41 34 (by omega)
                have h_191 : c_181 41 34 = c_165 41 34 := (hid kn_190)
                have h_192 : c_181 41 34 = c_165 41 34 := (hid kn_190)
                have kn_193 : Hid (c_6 41 7 = c 41 7) := hF_8 41 7 (by omega)
                have kn_194 : Hid (c_31 41 7 = c 41 7) := (hF_33 41 7 (by omega)).trans (hid kn_193)
                have kn_195 : Hid (c_149 41 7 = c 41 7) := (hF_151 41 7 (by omega)).trans (hid kn_194)
                have kn_196 : Hid (c_165 41 7 = c 41 7) := (hF_167 41 7 (by omega)).trans (hid kn_195)
                have kn_197 : Hid (c_181 41 7 = c 41 7) := (hF_183 41 7 (by omega)).trans (hid kn_196)
                have h_198 : c_181 41 7 = c 41 7 := (hid kn_197)
                have hb9 : c_181 41 5 = c_181 41 5 := rfl
                have hn9 : c_181 41 34 = c_165 41 34 := (hid kn_190)
                have kn_199 : Hid (c_181 56 (c 41 34) = c_165 56 (c 41 34)) := hF_183 56 (c 41 34) (by omega)
                have hq9 : c_181 56 (c 41 34) = c_165 56 (c 41 34) := (hid kn_199)
                exact K c_181 hI_182 (fun a j hm => (hF_183 a j (by omega)).trans ((hF_167 a j (by omega)).trans ((hF_151 a j (by omega)).trans ((hF_33 a j (by omega)).trans (hF_8 a j (by omega)))))) (by omega) (by omega) (by omega) (by omega) (by omega) (by omega) (fun h9 => ap_one (by omega) (by omega) (by omega))
              · refine v_ic_ge_f (t := 111) rfl (by decide) (by omega) ?_
                refine q_aload_n rfl rfl ?_
                have kn_200 : Hid (c_149 41 3 = c 41 3) := (hF_151 41 3 (by omega)).trans (hid kn_144)
                have h_201 : c_149 41 3 = c 41 3 := (hid kn_200)
                refine v_cv rfl rfl rfl rfl (by decide) ⟨⟨rfl, rfl⟩, by decide, rfl⟩ (Nat.le_of_ble_eq_true rfl) (Nat.le_of_ble_eq_true rfl) (s_183 hI_150 (fun c_202 y_205 hI_203 hF_204 hy_205 h_206 h_207 h_208 h_209 => ?_))
                refine bk_inl ?_
                have h_210 := ir_41_4 hI_203
                have h_211 := ir_41_5 hI_203
                refine q_goto (t := 112) rfl (by decide) ?_
                refine q_istore_n rfl (by decide) ?_
                refine q_iload_n rfl rfl ?_
                refine q_iconst rfl ?_
                refine v_ic_ne_t (t := 125) rfl (by decide) (by omega) ?_
                refine q_iload_n rfl rfl ?_
                refine q_iconst rfl ?_
                by_cases h_212 : y_19 ≠ 3
                · refine v_ic_ne_t (t := 141) rfl (by decide) (by omega) ?_
                  refine q_iconst rfl ?_
                  refine q_istore rfl (by decide) ?_
                  refine q_aload_n rfl rfl ?_
                  refine q_iload_n rfl rfl ?_
                  refine q_iload_n rfl rfl ?_
                  refine q_iload_n rfl rfl ?_
                  refine q_iload rfl rfl ?_
                  refine q_iload_n rfl rfl ?_
                  refine q_iconst rfl ?_
                  refine v_ic_ne_t (t := 162) rfl (by decide) (by omega) ?_
                  refine q_iconst rfl ?_
                  have kn_213 : Hid (c_6 41 34 = c 41 34) := hF_8 41 34 (by omega)
                  have kn_214 : Hid (c_31 41 34 = c 41 34) := (hF_33 41 34 (by omega)).trans (hid kn_213)
                  have kn_215 : Hid (c_149 41 34 = c 41 34) := (hF_151 41 34 (by omega)).trans (hid kn_214)
                  have kn_216 : Hid (c_202 41 34 = c 41 34) := (hF_204 41 34 (by omega)).trans (hid kn_215)
                  have h_217 : c_202 41 34 = c 41 34 := (hid kn_216)
                  have h_218 : c_202 41 34 = c 41 34 := (hid kn_216)
                  refine v_cv rfl rfl rfl rfl (by decide) ⟨⟨rfl, rfl⟩, by decide, rfl⟩ (Nat.le_of_ble_eq_true rfl) (Nat.le_of_ble_eq_true rfl) (s_181 (a1 := y_19) (a2 := y_152) (a3 := y_205) (a4 := 0) (a5 := 0) hI_203 (show 0 ≤ y_19 ∧ y_19 ≤ 7 from by omega) (show 0 ≤ y_152 ∧ y_152 ≤ 40 from by omega) (show 0 ≤ y_205 ∧ y_205 ≤ 5 from by omega) (show 0 ≤ 0 ∧ 0 ≤ 999 from by omega) (show 0 ≤ 0 ∧ 0 ≤ 5 from by omega) (by omega) (by omega) (by omega) (by omega) (by omega) (by omega) (by omega) (by omega) (by omega) (fun c_219 hI_220 hF_221 h_222 h_223 h_224 => ?_))
                  refine bk_inl ?_
                  have h_225 := ir_41_34 hI_220
                  have h_226 : c_219 56 ((c_202 41 34)) = c_219 56 (c 41 34) := congrArg (c_219 56) (by omega)
                  have h_227 := ir_56 hI_220 (c 41 34)
                  refine q_aload_n rfl rfl ?_
                  refine v_bip rfl (by decide) ?_
                  have kn_228 : Hid (c_219 41 4 = c_202 41 4) := hF_221 41 4 (by omega)
                  have h_229 : c_219 41 4 = c_202 41 4 := (hid kn_228)
                  have kn_230 : Hid (c_202 41 3 = c 41 3) := (hF_204 41 3 (by omega)).trans (hid kn_200)
                  have kn_231 : Hid (c_219 41 3 = c 41 3) := (hF_221 41 3 (by omega)).trans (hid kn_230)
                  have h_232 : c_219 41 3 = c 41 3 := (hid kn_231)
                  have kn_233 : Hid (c_219 41 5 = c_202 41 5) := hF_221 41 5 (by omega)
                  have h_234 : c_219 41 5 = c_202 41 5 := (hid kn_233)
                  refine v_cv rfl rfl rfl rfl (by decide) ⟨⟨rfl, rfl⟩, by decide, rfl⟩ (Nat.le_of_ble_eq_true rfl) (Nat.le_of_ble_eq_true rfl) (s_161 (a1 := 59) hI_220 (show 1 ≤ 59 ∧ 59 ≤ 255 from by omega) (fun c_235 hI_236 hF_237 h_238 h_239 h_240 h_241 => ?_))
                  refine bk_inl ?_
                  have h_242 := ir_41_4 hI_236
                  have h_243 := ir_41_5 hI_236
                  refine q_vret rfl rfl ?_
                  have kn_244 : Hid (c_235 41 34 = c_219 41 34) := hF_237 41 34 (by omega)
                  have h_245 : c_235 41 34 = c_219 41 34 := (hid kn_244)
                  have h_246 : c_235 41 34 = c_219 41 34 := (hid kn_244)
                  have kn_247 : Hid (c_6 41 7 = c 41 7) := hF_8 41 7 (by omega)
                  have kn_248 : Hid (c_31 41 7 = c 41 7) := (hF_33 41 7 (by omega)).trans (hid kn_247)
                  have kn_249 : Hid (c_149 41 7 = c 41 7) := (hF_151 41 7 (by omega)).trans (hid kn_248)
                  have kn_250 : Hid (c_202 41 7 = c 41 7) := (hF_204 41 7 (by omega)).trans (hid kn_249)
                  have kn_251 : Hid (c_219 41 7 = c 41 7) := (hF_221 41 7 (by omega)).trans (hid kn_250)
                  have kn_252 : Hid (c_235 41 7 = c 41 7) := (hF_237 41 7 (by omega)).trans (hid kn_251)
                  have h_253 : c_235 41 7 = c 41 7 := (hid kn_252)
                  have hb9 : c_235 41 5 = c_235 41 5 := rfl
                  have hn9 : c_235 41 34 = c_219 41 34 := (hid kn_244)
                  have kn_254 : Hid (c_235 56 (c 41 34) = c_219 56 (c 41 34)) := hF_237 56 (c 41 34) (by omega)
                  have hq9 : c_235 56 (c 41 34) = c_219 56 (c 41 34) := (hid kn_254)
                  exact K c_235 hI_236 (fun a j hm => (hF_237 a j (by omega)).trans ((hF_221 a j (by omega)).trans ((hF_204 a j (by omega)).trans ((hF_151 a j (by omega)).trans ((hF_33 a j (by omega)).trans (hF_8 a j (by omega))))))) (by omega) (by omega) (by omega) (by omega) (by omega) (by omega) (fun h9 => ap_one (by omega) (by omega) (by omega))
                · refine v_ic_ne_f (t := 141) rfl (by decide) (by omega) ?_
                  refine q_aload_n rfl rfl ?_
                  refine q_iconst rfl ?_
                  refine v_sip rfl (by decide) ?_
                  have kn_255 : Hid (c_202 41 3 = c 41 3) := (hF_204 41 3 (by omega)).trans (hid kn_200)
                  have h_256 : c_202 41 3 = c 41 3 := (hid kn_255)
                  refine v_cv rfl rfl rfl rfl (by decide) ⟨⟨rfl, rfl⟩, by decide, rfl⟩ (Nat.le_of_ble_eq_true rfl) (Nat.le_of_ble_eq_true rfl) (s_160 (a1 := 1) (a2 := 999) hI_203 (show 0 ≤ 1 ∧ 1 ≤ 1 from by omega) (show (-1) ≤ 999 ∧ 999 ≤ 9999 from by omega) (fun c_257 y_260 hI_258 hF_259 hy_260 h_261 h_262 h_263 h_264 h_265 => ?_))
                  refine bk_inl ?_
                  have h_266 := ir_41_4 hI_258
                  have h_267 := ir_41_5 hI_258
                  refine q_goto (t := 142) rfl (by decide) ?_
                  refine q_istore rfl (by decide) ?_
                  refine q_aload_n rfl rfl ?_
                  refine q_iload_n rfl rfl ?_
                  refine q_iload_n rfl rfl ?_
                  refine q_iload_n rfl rfl ?_
                  refine q_iload rfl rfl ?_
                  refine q_iload_n rfl rfl ?_
                  refine q_iconst rfl ?_
                  refine v_ic_ne_t (t := 162) rfl (by decide) (by omega) ?_
                  refine q_iconst rfl ?_
                  have kn_268 : Hid (c_6 41 34 = c 41 34) := hF_8 41 34 (by omega)
                  have kn_269 : Hid (c_31 41 34 = c 41 34) := (hF_33 41 34 (by omega)).trans (hid kn_268)
                  have kn_270 : Hid (c_149 41 34 = c 41 34) := (hF_151 41 34 (by omega)).trans (hid kn_269)
                  have kn_271 : Hid (c_202 41 34 = c 41 34) := (hF_204 41 34 (by omega)).trans (hid kn_270)
                  have kn_272 : Hid (c_257 41 34 = c 41 34) := (hF_259 41 34 (by omega)).trans (hid kn_271)
                  have h_273 : c_257 41 34 = c 41 34 := (hid kn_272)
                  have h_274 : c_257 41 34 = c 41 34 := (hid kn_272)
                  refine v_cv rfl rfl rfl rfl (by decide) ⟨⟨rfl, rfl⟩, by decide, rfl⟩ (Nat.le_of_ble_eq_true rfl) (Nat.le_of_ble_eq_true rfl) (s_181 (a1 := y_19) (a2 := y_152) (a3 := y_205) (a4 := y_260) (a5 := 0) hI_258 (show 0 ≤ y_19 ∧ y_19 ≤ 7 from by omega) (show 0 ≤ y_152 ∧ y_152 ≤ 40 from by omega) (show 0 ≤ y_205 ∧ y_205 ≤ 5 from by omega) (show 0 ≤ y_260 ∧ y_260 ≤ 999 from by omega) (show 0 ≤ 0 ∧ 0 ≤ 5 from by omega) (by omega) (by omega) (by omega) (by omega) (by omega) (by omega) (by omega) (by omega) (by omega) (fun c_275 hI_276 hF_277 h_278 h_279 h_280 => ?_))
                  refine bk_inl ?_
                  have h_281 := ir_41_34 hI_276
                  have h_282 : c_275 56 ((c_257 41 34)) = c_275 56 (c 41 34) := congrArg (c_275 56) (by omega)
                  have h_283 := ir_56 hI_276 (c 41 34)
                  refine q_aload_n rfl rfl ?_
                  refine v_bip rfl (by decide) ?_
                  have kn_284 : Hid (c_275 41 4 = c_257 41 4) := hF_277 41 4 (by omega)
                  have h_285 : c_275 41 4 = c_257 41 4 := (hid kn_284)
                  have kn_286 : Hid (c_257 41 3 = c 41 3) := (hF_259 41 3 (by omega)).trans (hid kn_255)
                  have kn_287 : Hid (c_275 41 3 = c 41 3) := (hF_277 41 3 (by omega)).trans (hid kn_286)
                  have h_288 : c_275 41 3 = c 41 3 := (hid kn_287)
                  have kn_289 : Hid (c_275 41 5 = c_257 41 5) := hF_277 41 5 (by omega)
                  have h_290 : c_275 41 5 = c_257 41 5 := (hid kn_289)
                  refine v_cv rfl rfl rfl rfl (by decide) ⟨⟨rfl, rfl⟩, by decide, rfl⟩ (Nat.le_of_ble_eq_true rfl) (Nat.le_of_ble_eq_true rfl) (s_161 (a1 := 59) hI_276 (show 1 ≤ 59 ∧ 59 ≤ 255 from by omega) (fun c_291 hI_292 hF_293 h_294 h_295 h_296 h_297 => ?_))
                  refine bk_inl ?_
                  have h_298 := ir_41_4 hI_292
                  have h_299 := ir_41_5 hI_292
                  refine q_vret rfl rfl ?_
                  have kn_300 : Hid (c_291 41 34 = c_275 41 34) := hF_293 41 34 (by omega)
                  have h_301 : c_291 41 34 = c_275 41 34 := (hid kn_300)
                  have h_302 : c_291 41 34 = c_275 41 34 := (hid kn_300)
                  have kn_303 : Hid (c_6 41 7 = c 41 7) := hF_8 41 7 (by omega)
                  have kn_304 : Hid (c_31 41 7 = c 41 7) := (hF_33 41 7 (by omega)).trans (hid kn_303)
                  have kn_305 : Hid (c_149 41 7 = c 41 7) := (hF_151 41 7 (by omega)).trans (hid kn_304)
                  have kn_306 : Hid (c_202 41 7 = c 41 7) := (hF_204 41 7 (by omega)).trans (hid kn_305)
                  have kn_307 : Hid (c_257 41 7 = c 41 7) := (hF_259 41 7 (by omega)).trans (hid kn_306)
                  have kn_308 : Hid (c_275 41 7 = c 41 7) := (hF_277 41 7 (by omega)).trans (hid kn_307)
                  have kn_309 : Hid (c_291 41 7 = c 41 7) := (hF_293 41 7 (by omega)).trans (hid kn_308)
                  have h_310 : c_291 41 7 = c 41 7 := (hid kn_309)
                  have hb9 : c_291 41 5 = c_291 41 5 := rfl
                  have hn9 : c_291 41 34 = c_275 41 34 := (hid kn_300)
                  have kn_311 : Hid (c_291 56 (c 41 34) = c_275 56 (c 41 34)) := hF_293 56 (c 41 34) (by omega)
                  have hq9 : c_291 56 (c 41 34) = c_275 56 (c 41 34) := (hid kn_311)
                  exact K c_291 hI_292 (fun a j hm => (hF_293 a j (by omega)).trans ((hF_277 a j (by omega)).trans ((hF_259 a j (by omega)).trans ((hF_204 a j (by omega)).trans ((hF_151 a j (by omega)).trans ((hF_33 a j (by omega)).trans (hF_8 a j (by omega)))))))) (by omega) (by omega) (by omega) (by omega) (by omega) (by omega) (fun h9 => ap_one (by omega) (by omega) (by omega))
            · refine v_ic_ne_f (t := 94) rfl (by decide) (by omega) ?_
              refine q_aload_n rfl rfl ?_
              refine q_iconst rfl ?_
              refine q_aload_n rfl rfl ?_
              have h_312 := ir_41_22 hI
              have kn_313 : Hid (c_6 41 22 = c 41 22) := hF_8 41 22 (by omega)
              have kn_314 : Hid (c_31 41 22 = c 41 22) := (hF_33 41 22 (by omega)).trans (hid kn_313)
              refine v_gi (z := 22) (v := c 41 22) rfl rfl rfl (by decide) rfl rfl (hid kn_314) ?_
              refine q_iconst rfl ?_
              refine v_isub (v := c 41 22 - 1) rfl (by omega) ?_
              have kn_315 : Hid (c_31 41 3 = c 41 3) := (hF_33 41 3 (by omega)).trans (hid kn_23)
              have h_316 : c_31 41 3 = c 41 3 := (hid kn_315)
              have kn_317 : Hid (c_6 41 5 = c 41 5) := hF_8 41 5 (by omega)
              have kn_318 : Hid (c_31 41 5 = c 41 5) := (hF_33 41 5 (by omega)).trans (hid kn_317)
              have h_319 : c_31 41 5 = c 41 5 := (hid kn_318)
              refine v_cv rfl rfl rfl rfl (by decide) ⟨⟨rfl, rfl⟩, by decide, rfl⟩ (Nat.le_of_ble_eq_true rfl) (Nat.le_of_ble_eq_true rfl) (s_160 (a1 := 0) (a2 := c 41 22 - 1) hI_32 (show 0 ≤ 0 ∧ 0 ≤ 1 from by omega) (show (-1) ≤ c 41 22 - 1 ∧ c 41 22 - 1 ≤ 9999 from by omega) (fun c_320 y_323 hI_321 hF_322 hy_323 h_324 h_325 h_326 h_327 h_328 => ?_))
              refine bk_inl ?_
              have h_329 := ir_41_4 hI_321
              have h_330 := ir_41_5 hI_321
              refine q_goto (t := 98) rfl (by decide) ?_
              refine q_istore_n rfl (by decide) ?_
              refine q_iload_n rfl rfl ?_
              refine q_iconst rfl ?_
              refine v_ic_ge_t (t := 111) rfl (by decide) (by omega) ?_
              refine q_iconst rfl ?_
              refine q_istore_n rfl (by decide) ?_
              refine q_iload_n rfl rfl ?_
              refine q_iconst rfl ?_
              refine v_ic_ne_t (t := 125) rfl (by decide) (by omega) ?_
              refine q_iload_n rfl rfl ?_
              refine q_iconst rfl ?_
              refine v_ic_ne_t (t := 141) rfl (by decide) (by omega) ?_
              refine q_iconst rfl ?_
              refine q_istore rfl (by decide) ?_
              refine q_aload_n rfl rfl ?_
              refine q_iload_n rfl rfl ?_
              refine q_iload_n rfl rfl ?_
              refine q_iload_n rfl rfl ?_
              refine q_iload rfl rfl ?_
              refine q_iload_n rfl rfl ?_
              refine q_iconst rfl ?_
              refine v_ic_ne_t (t := 162) rfl (by decide) (by omega) ?_
              refine q_iconst rfl ?_
              have kn_331 : Hid (c_6 41 34 = c 41 34) := hF_8 41 34 (by omega)
              have kn_332 : Hid (c_31 41 34 = c 41 34) := (hF_33 41 34 (by omega)).trans (hid kn_331)
              have kn_333 : Hid (c_320 41 34 = c 41 34) := (hF_322 41 34 (by omega)).trans (hid kn_332)
              have h_334 : c_320 41 34 = c 41 34 := (hid kn_333)
              have h_335 : c_320 41 34 = c 41 34 := (hid kn_333)
              refine v_cv rfl rfl rfl rfl (by decide) ⟨⟨rfl, rfl⟩, by decide, rfl⟩ (Nat.le_of_ble_eq_true rfl) (Nat.le_of_ble_eq_true rfl) (s_181 (a1 := y_19) (a2 := y_323) (a3 := 0) (a4 := 0) (a5 := 0) hI_321 (show 0 ≤ y_19 ∧ y_19 ≤ 7 from by omega) (show 0 ≤ y_323 ∧ y_323 ≤ 40 from by omega) (show 0 ≤ 0 ∧ 0 ≤ 5 from by omega) (show 0 ≤ 0 ∧ 0 ≤ 999 from by omega) (show 0 ≤ 0 ∧ 0 ≤ 5 from by omega) (by omega) (by omega) (by omega) (by omega) (by omega) (by omega) (by omega) (by omega) (by omega) (fun c_336 hI_337 hF_338 h_339 h_340 h_341 => ?_))
              refine bk_inl ?_
              have h_342 := ir_41_34 hI_337
              have h_343 : c_336 56 ((c_320 41 34)) = c_336 56 (c 41 34) := congrArg (c_336 56) (by omega)
              have h_344 := ir_56 hI_337 (c 41 34)
              refine q_aload_n rfl rfl ?_
              refine v_bip rfl (by decide) ?_
              have kn_345 : Hid (c_336 41 4 = c_320 41 4) := hF_338 41 4 (by omega)
              have h_346 : c_336 41 4 = c_320 41 4 := (hid kn_345)
              have kn_347 : Hid (c_320 41 3 = c 41 3) := (hF_322 41 3 (by omega)).trans (hid kn_315)
              have kn_348 : Hid (c_336 41 3 = c 41 3) := (hF_338 41 3 (by omega)).trans (hid kn_347)
              have h_349 : c_336 41 3 = c 41 3 := (hid kn_348)
              have kn_350 : Hid (c_336 41 5 = c_320 41 5) := hF_338 41 5 (by omega)
              have h_351 : c_336 41 5 = c_320 41 5 := (hid kn_350)
              refine v_cv rfl rfl rfl rfl (by decide) ⟨⟨rfl, rfl⟩, by decide, rfl⟩ (Nat.le_of_ble_eq_true rfl) (Nat.le_of_ble_eq_true rfl) (s_161 (a1 := 59) hI_337 (show 1 ≤ 59 ∧ 59 ≤ 255 from by omega) (fun c_352 hI_353 hF_354 h_355 h_356 h_357 h_358 => ?_))
              refine bk_inl ?_
              have h_359 := ir_41_4 hI_353
              have h_360 := ir_41_5 hI_353
              refine q_vret rfl rfl ?_
              have kn_361 : Hid (c_352 41 34 = c_336 41 34) := hF_354 41 34 (by omega)
              have h_362 : c_352 41 34 = c_336 41 34 := (hid kn_361)
              have h_363 : c_352 41 34 = c_336 41 34 := (hid kn_361)
              have kn_364 : Hid (c_6 41 7 = c 41 7) := hF_8 41 7 (by omega)
              have kn_365 : Hid (c_31 41 7 = c 41 7) := (hF_33 41 7 (by omega)).trans (hid kn_364)
              have kn_366 : Hid (c_320 41 7 = c 41 7) := (hF_322 41 7 (by omega)).trans (hid kn_365)
              have kn_367 : Hid (c_336 41 7 = c 41 7) := (hF_338 41 7 (by omega)).trans (hid kn_366)
              have kn_368 : Hid (c_352 41 7 = c 41 7) := (hF_354 41 7 (by omega)).trans (hid kn_367)
              have h_369 : c_352 41 7 = c 41 7 := (hid kn_368)
              have hb9 : c_352 41 5 = c_352 41 5 := rfl
              have hn9 : c_352 41 34 = c_336 41 34 := (hid kn_361)
              have kn_370 : Hid (c_352 56 (c 41 34) = c_336 56 (c 41 34)) := hF_354 56 (c 41 34) (by omega)
              have hq9 : c_352 56 (c 41 34) = c_336 56 (c 41 34) := (hid kn_370)
              exact K c_352 hI_353 (fun a j hm => (hF_354 a j (by omega)).trans ((hF_338 a j (by omega)).trans ((hF_322 a j (by omega)).trans ((hF_33 a j (by omega)).trans (hF_8 a j (by omega)))))) (by omega) (by omega) (by omega) (by omega) (by omega) (by omega) (fun h9 => ap_one (by omega) (by omega) (by omega))
        · refine v_if_ne_f (t := 70) rfl (by decide) (by omega) ?_
          refine q_aload_n rfl rfl ?_
          refine q_iconst rfl ?_
          refine q_aload_n rfl rfl ?_
          have h_371 := ir_41_21 hI
          have kn_372 : Hid (c_6 41 21 = c 41 21) := hF_8 41 21 (by omega)
          have kn_373 : Hid (c_31 41 21 = c 41 21) := (hF_33 41 21 (by omega)).trans (hid kn_372)
          refine v_gi (z := 21) (v := c 41 21) rfl rfl rfl (by decide) rfl rfl (hid kn_373) ?_
          refine q_iconst rfl ?_
          refine v_isub (v := c 41 21 - 1) rfl (by omega) ?_
          have kn_374 : Hid (c_31 41 3 = c 41 3) := (hF_33 41 3 (by omega)).trans (hid kn_23)
          have h_375 : c_31 41 3 = c 41 3 := (hid kn_374)
          have kn_376 : Hid (c_6 41 5 = c 41 5) := hF_8 41 5 (by omega)
          have kn_377 : Hid (c_31 41 5 = c 41 5) := (hF_33 41 5 (by omega)).trans (hid kn_376)
          have h_378 : c_31 41 5 = c 41 5 := (hid kn_377)
          refine v_cv rfl rfl rfl rfl (by decide) ⟨⟨rfl, rfl⟩, by decide, rfl⟩ (Nat.le_of_ble_eq_true rfl) (Nat.le_of_ble_eq_true rfl) (s_160 (a1 := 0) (a2 := c 41 21 - 1) hI_32 (show 0 ≤ 0 ∧ 0 ≤ 1 from by omega) (show (-1) ≤ c 41 21 - 1 ∧ c 41 21 - 1 ≤ 9999 from by omega) (fun c_379 y_382 hI_380 hF_381 hy_382 h_383 h_384 h_385 h_386 h_387 => ?_))
          refine bk_inl ?_
          have h_388 := ir_41_4 hI_380
          have h_389 := ir_41_5 hI_380
          refine q_goto (t := 98) rfl (by decide) ?_
          refine q_istore_n rfl (by decide) ?_
          refine q_iload_n rfl rfl ?_
          refine q_iconst rfl ?_
          refine v_ic_ge_f (t := 111) rfl (by decide) (by omega) ?_
          refine q_aload_n rfl rfl ?_
          have kn_390 : Hid (c_379 41 3 = c 41 3) := (hF_381 41 3 (by omega)).trans (hid kn_374)
          have h_391 : c_379 41 3 = c 41 3 := (hid kn_390)
          refine v_cv rfl rfl rfl rfl (by decide) ⟨⟨rfl, rfl⟩, by decide, rfl⟩ (Nat.le_of_ble_eq_true rfl) (Nat.le_of_ble_eq_true rfl) (s_183 hI_380 (fun c_392 y_395 hI_393 hF_394 hy_395 h_396 h_397 h_398 h_399 => ?_))
          refine bk_inl ?_
          have h_400 := ir_41_4 hI_393
          have h_401 := ir_41_5 hI_393
          refine q_goto (t := 112) rfl (by decide) ?_
          refine q_istore_n rfl (by decide) ?_
          refine q_iload_n rfl rfl ?_
          refine q_iconst rfl ?_
          refine v_ic_ne_t (t := 125) rfl (by decide) (by omega) ?_
          refine q_iload_n rfl rfl ?_
          refine q_iconst rfl ?_
          refine v_ic_ne_t (t := 141) rfl (by decide) (by omega) ?_
          refine q_iconst rfl ?_
          refine q_istore rfl (by decide) ?_
          refine q_aload_n rfl rfl ?_
          refine q_iload_n rfl rfl ?_
          refine q_iload_n rfl rfl ?_
          refine q_iload_n rfl rfl ?_
          refine q_iload rfl rfl ?_
          refine q_iload_n rfl rfl ?_
          refine q_iconst rfl ?_
          refine v_ic_ne_t (t := 162) rfl (by decide) (by omega) ?_
          refine q_iconst rfl ?_
          have kn_402 : Hid (c_6 41 34 = c 41 34) := hF_8 41 34 (by omega)
          have kn_403 : Hid (c_31 41 34 = c 41 34) := (hF_33 41 34 (by omega)).trans (hid kn_402)
          have kn_404 : Hid (c_379 41 34 = c 41 34) := (hF_381 41 34 (by omega)).trans (hid kn_403)
          have kn_405 : Hid (c_392 41 34 = c 41 34) := (hF_394 41 34 (by omega)).trans (hid kn_404)
          have h_406 : c_392 41 34 = c 41 34 := (hid kn_405)
          have h_407 : c_392 41 34 = c 41 34 := (hid kn_405)
          refine v_cv rfl rfl rfl rfl (by decide) ⟨⟨rfl, rfl⟩, by decide, rfl⟩ (Nat.le_of_ble_eq_true rfl) (Nat.le_of_ble_eq_true rfl) (s_181 (a1 := y_19) (a2 := y_382) (a3 := y_395) (a4 := 0) (a5 := 0) hI_393 (show 0 ≤ y_19 ∧ y_19 ≤ 7 from by omega) (show 0 ≤ y_382 ∧ y_382 ≤ 40 from by omega) (show 0 ≤ y_395 ∧ y_395 ≤ 5 from by omega) (show 0 ≤ 0 ∧ 0 ≤ 999 from by omega) (show 0 ≤ 0 ∧ 0 ≤ 5 from by omega) (by omega) (by omega) (by omega) (by omega) (by omega) (by omega) (by omega) (by omega) (by omega) (fun c_408 hI_409 hF_410 h_411 h_412 h_413 => ?_))
          refine bk_inl ?_
          have h_414 := ir_41_34 hI_409
          have h_415 : c_408 56 ((c_392 41 34)) = c_408 56 (c 41 34) := congrArg (c_408 56) (by omega)
          have h_416 := ir_56 hI_409 (c 41 34)
          refine q_aload_n rfl rfl ?_
          refine v_bip rfl (by decide) ?_
          have kn_417 : Hid (c_408 41 4 = c_392 41 4) := hF_410 41 4 (by omega)
          have h_418 : c_408 41 4 = c_392 41 4 := (hid kn_417)
          have kn_419 : Hid (c_392 41 3 = c 41 3) := (hF_394 41 3 (by omega)).trans (hid kn_390)
          have kn_420 : Hid (c_408 41 3 = c 41 3) := (hF_410 41 3 (by omega)).trans (hid kn_419)
          have h_421 : c_408 41 3 = c 41 3 := (hid kn_420)
          have kn_422 : Hid (c_408 41 5 = c_392 41 5) := hF_410 41 5 (by omega)
          have h_423 : c_408 41 5 = c_392 41 5 := (hid kn_422)
          refine v_cv rfl rfl rfl rfl (by decide) ⟨⟨rfl, rfl⟩, by decide, rfl⟩ (Nat.le_of_ble_eq_true rfl) (Nat.le_of_ble_eq_true rfl) (s_161 (a1 := 59) hI_409 (show 1 ≤ 59 ∧ 59 ≤ 255 from by omega) (fun c_424 hI_425 hF_426 h_427 h_428 h_429 h_430 => ?_))
          refine bk_inl ?_
          have h_431 := ir_41_4 hI_425
          have h_432 := ir_41_5 hI_425
          refine q_vret rfl rfl ?_
          have kn_433 : Hid (c_424 41 34 = c_408 41 34) := hF_426 41 34 (by omega)
          have h_434 : c_424 41 34 = c_408 41 34 := (hid kn_433)
          have h_435 : c_424 41 34 = c_408 41 34 := (hid kn_433)
          have kn_436 : Hid (c_6 41 7 = c 41 7) := hF_8 41 7 (by omega)
          have kn_437 : Hid (c_31 41 7 = c 41 7) := (hF_33 41 7 (by omega)).trans (hid kn_436)
          have kn_438 : Hid (c_379 41 7 = c 41 7) := (hF_381 41 7 (by omega)).trans (hid kn_437)
          have kn_439 : Hid (c_392 41 7 = c 41 7) := (hF_394 41 7 (by omega)).trans (hid kn_438)
          have kn_440 : Hid (c_408 41 7 = c 41 7) := (hF_410 41 7 (by omega)).trans (hid kn_439)
          have kn_441 : Hid (c_424 41 7 = c 41 7) := (hF_426 41 7 (by omega)).trans (hid kn_440)
          have h_442 : c_424 41 7 = c 41 7 := (hid kn_441)
          have hb9 : c_424 41 5 = c_424 41 5 := rfl
          have hn9 : c_424 41 34 = c_408 41 34 := (hid kn_433)
          have kn_443 : Hid (c_424 56 (c 41 34) = c_408 56 (c 41 34)) := hF_426 56 (c 41 34) (by omega)
          have hq9 : c_424 56 (c 41 34) = c_408 56 (c 41 34) := (hid kn_443)
          exact K c_424 hI_425 (fun a j hm => (hF_426 a j (by omega)).trans ((hF_410 a j (by omega)).trans ((hF_394 a j (by omega)).trans ((hF_381 a j (by omega)).trans ((hF_33 a j (by omega)).trans (hF_8 a j (by omega))))))) (by omega) (by omega) (by omega) (by omega) (by omega) (by omega) (fun h9 => ap_one (by omega) (by omega) (by omega))
      · refine v_ic_ne_f (t := 52) rfl (by decide) (by omega) ?_
        refine q_iconst rfl ?_
        refine q_goto (t := 98) rfl (by decide) ?_
        refine q_istore_n rfl (by decide) ?_
        refine q_iload_n rfl rfl ?_
        refine q_iconst rfl ?_
        refine v_ic_ge_t (t := 111) rfl (by decide) (by omega) ?_
        refine q_iconst rfl ?_
        refine q_istore_n rfl (by decide) ?_
        refine q_iload_n rfl rfl ?_
        refine q_iconst rfl ?_
        refine v_ic_ne_t (t := 125) rfl (by decide) (by omega) ?_
        refine q_iload_n rfl rfl ?_
        refine q_iconst rfl ?_
        refine v_ic_ne_t (t := 141) rfl (by decide) (by omega) ?_
        refine q_iconst rfl ?_
        refine q_istore rfl (by decide) ?_
        refine q_aload_n rfl rfl ?_
        refine q_iload_n rfl rfl ?_
        refine q_iload_n rfl rfl ?_
        refine q_iload_n rfl rfl ?_
        refine q_iload rfl rfl ?_
        refine q_iload_n rfl rfl ?_
        refine q_iconst rfl ?_
        refine v_ic_ne_t (t := 162) rfl (by decide) (by omega) ?_
        refine q_iconst rfl ?_
        have kn_444 : Hid (c_6 41 34 = c 41 34) := hF_8 41 34 (by omega)
        have kn_445 : Hid (c_31 41 34 = c 41 34) := (hF_33 41 34 (by omega)).trans (hid kn_444)
        have h_446 : c_31 41 34 = c 41 34 := (hid kn_445)
        have kn_447 : Hid (c_6 41 5 = c 41 5) := hF_8 41 5 (by omega)
        have kn_448 : Hid (c_31 41 5 = c 41 5) := (hF_33 41 5 (by omega)).trans (hid kn_447)
        have h_449 : c_31 41 5 = c 41 5 := (hid kn_448)
        have h_450 : c_31 41 34 = c 41 34 := (hid kn_445)
        refine v_cv rfl rfl rfl rfl (by decide) ⟨⟨rfl, rfl⟩, by decide, rfl⟩ (Nat.le_of_ble_eq_true rfl) (Nat.le_of_ble_eq_true rfl) (s_181 (a1 := y_19) (a2 := 0) (a3 := 0) (a4 := 0) (a5 := 0) hI_32 (show 0 ≤ y_19 ∧ y_19 ≤ 7 from by omega) (show 0 ≤ 0 ∧ 0 ≤ 40 from by omega) (show 0 ≤ 0 ∧ 0 ≤ 5 from by omega) (show 0 ≤ 0 ∧ 0 ≤ 999 from by omega) (show 0 ≤ 0 ∧ 0 ≤ 5 from by omega) (by omega) (by omega) (by omega) (by omega) (by omega) (by omega) (by omega) (by omega) (by omega) (fun c_451 hI_452 hF_453 h_454 h_455 h_456 => ?_))
        refine bk_inl ?_
        have h_457 := ir_41_34 hI_452
        have h_458 : c_451 56 ((c_31 41 34)) = c_451 56 (c 41 34) := congrArg (c_451 56) (by omega)
        have h_459 := ir_56 hI_452 (c 41 34)
        refine q_aload_n rfl rfl ?_
        refine v_bip rfl (by decide) ?_
        have kn_460 : Hid (c_451 41 4 = c_31 41 4) := hF_453 41 4 (by omega)
        have h_461 : c_451 41 4 = c_31 41 4 := (hid kn_460)
        have kn_462 : Hid (c_31 41 3 = c 41 3) := (hF_33 41 3 (by omega)).trans (hid kn_23)
        have kn_463 : Hid (c_451 41 3 = c 41 3) := (hF_453 41 3 (by omega)).trans (hid kn_462)
        have h_464 : c_451 41 3 = c 41 3 := (hid kn_463)
        have kn_465 : Hid (c_451 41 5 = c 41 5) := (hF_453 41 5 (by omega)).trans (hid kn_448)
        have h_466 : c_451 41 5 = c 41 5 := (hid kn_465)
        refine v_cv rfl rfl rfl rfl (by decide) ⟨⟨rfl, rfl⟩, by decide, rfl⟩ (Nat.le_of_ble_eq_true rfl) (Nat.le_of_ble_eq_true rfl) (s_161 (a1 := 59) hI_452 (show 1 ≤ 59 ∧ 59 ≤ 255 from by omega) (fun c_467 hI_468 hF_469 h_470 h_471 h_472 h_473 => ?_))
        refine bk_inl ?_
        have h_474 := ir_41_4 hI_468
        have h_475 := ir_41_5 hI_468
        refine q_vret rfl rfl ?_
        have kn_476 : Hid (c_467 41 34 = c_451 41 34) := hF_469 41 34 (by omega)
        have h_477 : c_467 41 34 = c_451 41 34 := (hid kn_476)
        have h_478 : c_467 41 34 = c_451 41 34 := (hid kn_476)
        have kn_479 : Hid (c_6 41 7 = c 41 7) := hF_8 41 7 (by omega)
        have kn_480 : Hid (c_31 41 7 = c 41 7) := (hF_33 41 7 (by omega)).trans (hid kn_479)
        have kn_481 : Hid (c_451 41 7 = c 41 7) := (hF_453 41 7 (by omega)).trans (hid kn_480)
        have kn_482 : Hid (c_467 41 7 = c 41 7) := (hF_469 41 7 (by omega)).trans (hid kn_481)
        have h_483 : c_467 41 7 = c 41 7 := (hid kn_482)
        have hb9 : c_467 41 5 = c_467 41 5 := rfl
        have hn9 : c_467 41 34 = c_451 41 34 := (hid kn_476)
        have kn_484 : Hid (c_467 56 (c 41 34) = c_451 56 (c 41 34)) := hF_469 56 (c 41 34) (by omega)
        have hq9 : c_467 56 (c 41 34) = c_451 56 (c 41 34) := (hid kn_484)
        exact K c_467 hI_468 (fun a j hm => (hF_469 a j (by omega)).trans ((hF_453 a j (by omega)).trans ((hF_33 a j (by omega)).trans (hF_8 a j (by omega))))) (by omega) (by omega) (by omega) (by omega) (by omega) (by omega) (fun h9 => ap_one (by omega) (by omega) (by omega))
    · refine v_ic_ne_f (t := 38) rfl (by decide) (by omega) ?_
      refine q_aload_n rfl rfl ?_
      have kn_485 : Hid (c_6 41 5 = c 41 5) := hF_8 41 5 (by omega)
      have h_486 : c_6 41 5 = c 41 5 := (hid kn_485)
      have kn_487 : Hid (c_6 41 3 = c 41 3) := hF_8 41 3 (by omega)
      have h_488 : c_6 41 3 = c 41 3 := (hid kn_487)
      have kn_489 : Hid (c_6 41 34 = c 41 34) := hF_8 41 34 (by omega)
      have h_490 : c_6 41 34 = c 41 34 := (hid kn_489)
      have kn_491 : Hid (c_6 41 7 = c 41 7) := hF_8 41 7 (by omega)
      have h_492 : c_6 41 7 = c 41 7 := (hid kn_491)
      have h_493 : c_6 41 34 = c 41 34 := (hid kn_489)
      refine v_cv rfl rfl rfl rfl (by decide) ⟨⟨rfl, rfl⟩, by decide, rfl⟩ (Nat.le_of_ble_eq_true rfl) (Nat.le_of_ble_eq_true rfl) (s_184 (o := o) hI_7 (show 0 ≤ o ∧ o ≤ 6 from by omega) (by omega) (by omega) (by omega) (by omega) (by omega) (by omega) (by omega) H185 (fun c_494 hI_495 hF_496 h_497 h_498 h_499 h_500 h_501 h_502 hA_503 => ?_))
      refine bk_inl ?_
      have h_504 := ir_41_4 hI_495
      have h_505 := ir_41_7 hI_495
      have h_506 := ir_41_34 hI_495
      have h_507 := ir_41_5 hI_495
      refine q_goto (t := 166) rfl (by decide) ?_
      refine q_aload_n rfl rfl ?_
      refine v_bip rfl (by decide) ?_
      have kn_508 : Hid (c_494 41 3 = c 41 3) := (hF_496 41 3 (by omega)).trans (hid kn_487)
      have h_509 : c_494 41 3 = c 41 3 := (hid kn_508)
      refine v_cv rfl rfl rfl rfl (by decide) ⟨⟨rfl, rfl⟩, by decide, rfl⟩ (Nat.le_of_ble_eq_true rfl) (Nat.le_of_ble_eq_true rfl) (s_161 (a1 := 59) hI_495 (show 1 ≤ 59 ∧ 59 ≤ 255 from by omega) (fun c_510 hI_511 hF_512 h_513 h_514 h_515 h_516 => ?_))
      refine bk_inl ?_
      have h_517 := ir_41_4 hI_511
      have h_518 := ir_41_5 hI_511
      refine q_vret rfl rfl ?_
      have kn_519 : Hid (c_510 41 34 = c_494 41 34) := hF_512 41 34 (by omega)
      have h_520 : c_510 41 34 = c_494 41 34 := (hid kn_519)
      have h_521 : c_510 41 34 = c_494 41 34 := (hid kn_519)
      have kn_522 : Hid (c_510 41 7 = c_494 41 7) := hF_512 41 7 (by omega)
      have h_523 : c_510 41 7 = c_494 41 7 := (hid kn_522)
      have hb9 : c_510 41 5 = c_510 41 5 := rfl
      have hn9 : c_510 41 34 = c_494 41 34 := (hid kn_519)
      exact K c_510 hI_511 (fun a j hm => (hF_512 a j (by omega)).trans ((hF_496 a j (by omega)).trans (hF_8 a j (by omega)))) (by omega) (by omega) (by omega) (by omega) (by omega) (by omega) (fun h9 => ap_fr (hA_503 (by omega)) (by omega) (show c 41 34 = c_6 41 34 from by rw [show c_6 41 34 = c 41 34 from (hid kn_489)]) (show c_510 41 34 = c_494 41 34 from by omega) (fun j h1 h2 => hF_512 56 j (by omega)))
  · refine v_ic_ne_f (t := 25) rfl (by decide) (by omega) ?_
    refine q_aload_n rfl rfl ?_
    refine q_iconst rfl ?_
    refine q_aload_n rfl rfl ?_
    refine v_gi (z := 4) (v := c_6 41 4) rfl rfl rfl (by decide) rfl rfl rfl ?_
    refine v_cv rfl rfl rfl rfl (by decide) ⟨⟨rfl, rfl⟩, by decide, rfl⟩ (Nat.le_of_ble_eq_true rfl) (Nat.le_of_ble_eq_true rfl) (s_153 (a1 := 1) (a2 := c_6 41 4) hI_7 (show 1 ≤ 1 ∧ 1 ≤ 3 from by omega) (show 0 ≤ c_6 41 4 ∧ c_6 41 4 ≤ 605 from by omega) (fun c_524 hI_525 hF_526 h_527 => ?_))
    refine bk_inl ?_
    have h_528 := ir_41_5 hI_525
    refine q_goto (t := 166) rfl (by decide) ?_
    refine q_aload_n rfl rfl ?_
    refine v_bip rfl (by decide) ?_
    have kn_529 : Hid (c_524 41 4 = c_6 41 4) := hF_526 41 4 (by omega)
    have h_530 : c_524 41 4 = c_6 41 4 := (hid kn_529)
    have kn_531 : Hid (c_6 41 3 = c 41 3) := hF_8 41 3 (by omega)
    have kn_532 : Hid (c_524 41 3 = c 41 3) := (hF_526 41 3 (by omega)).trans (hid kn_531)
    have h_533 : c_524 41 3 = c 41 3 := (hid kn_532)
    refine v_cv rfl rfl rfl rfl (by decide) ⟨⟨rfl, rfl⟩, by decide, rfl⟩ (Nat.le_of_ble_eq_true rfl) (Nat.le_of_ble_eq_true rfl) (s_161 (a1 := 59) hI_525 (show 1 ≤ 59 ∧ 59 ≤ 255 from by omega) (fun c_534 hI_535 hF_536 h_537 h_538 h_539 h_540 => ?_))
    refine bk_inl ?_
    have h_541 := ir_41_4 hI_535
    have h_542 := ir_41_5 hI_535
    refine q_vret rfl rfl ?_
    have kn_543 : Hid (c_6 41 34 = c 41 34) := hF_8 41 34 (by omega)
    have kn_544 : Hid (c_524 41 34 = c 41 34) := (hF_526 41 34 (by omega)).trans (hid kn_543)
    have kn_545 : Hid (c_534 41 34 = c 41 34) := (hF_536 41 34 (by omega)).trans (hid kn_544)
    have h_546 : c_534 41 34 = c 41 34 := (hid kn_545)
    have h_547 : c_534 41 34 = c 41 34 := (hid kn_545)
    have kn_548 : Hid (c_6 41 7 = c 41 7) := hF_8 41 7 (by omega)
    have kn_549 : Hid (c_524 41 7 = c 41 7) := (hF_526 41 7 (by omega)).trans (hid kn_548)
    have kn_550 : Hid (c_534 41 7 = c 41 7) := (hF_536 41 7 (by omega)).trans (hid kn_549)
    have h_551 : c_534 41 7 = c 41 7 := (hid kn_550)
    have hb9 : c_534 41 5 = c_534 41 5 := rfl
    exact K c_534 hI_535 (fun a j hm => (hF_536 a j (by omega)).trans ((hF_526 a j (by omega)).trans (hF_8 a j (by omega)))) (by omega) (by omega) (by omega) (by omega) (by omega) (by omega) (fun h9 => absurd h9 (by omega))
set_option maxRecDepth 100000 in
set_option maxHeartbeats 4000000 in
theorem r_185_n {sc : List Int32} {e : Int} {u P Q : Nat} : ∀ (m : Nat) (d : Nat) (c : ME) (o : Int) (Z : AR → Prop), o + (m : Int) = 6 → 0 ≤ o → Iv u e P Q c → ((c 41 5 = (-1))) → ((c 41 4 ≤ c 41 3)) → ((c 41 3 ≤ 150)) → ((3 * c 41 34 ≤ 5 * c 41 4)) → ((((c 41 34) % 5) = 0)) → (c 41 7 = o) → (∀ c2 : ME, Iv u e P Q c2 → (∀ (a : Nat) (j : Int), ¬ ((a = 41 ∧ j = 4) ∨ (a = 41 ∧ j = 5) ∨ (a = 41 ∧ j = 6) ∨ (a = 41 ∧ j = 7) ∨ (a = 41 ∧ j = 34) ∨ (a = 56 ∧ j ≥ c 41 34)) → c2 a j = c a j) → ((c2 41 4 ≥ c 41 4)) → ((c2 41 7 = c 41 7)) → ((5 * c 41 4 + 3 * c2 41 34 ≤ 3 * c 41 34 + 5 * c2 41 4)) → ((c2 41 5 < (-1)) ∨ (c2 41 5 > (-1)) ∨ (c2 41 4 ≤ c 41 3 ∧ c2 41 4 > c 41 4)) → ((((c2 41 34) % 5) = 0)) → ((c2 41 34 ≥ c 41 34)) → (c2 41 5 = -1 → Ap c2 56 (c 41 34) (c2 41 34)) → Z (.inl none, Wd P Q P P c2, 0, 0)) → Wp sc (d + 2 * m + 14) 185 0 [(0, .ref 41)] [] (Wd P Q P P c) 0 0 Z
  | 0, d, c, o, Z, hm, h0, hI, p0, p1, p2, p3, p4, p5, K => s_185 (d := d) (o := o) hI ⟨by omega, by omega⟩ p0 p1 p2 p3 p4 p5 (fun d9 c9 Z9 hd hc => absurd hc (by omega)) K
  | m + 1, d, c, o, Z, hm, h0, hI, p0, p1, p2, p3, p4, p5, K => by
    rw [show d + 2 * (m + 1) + 14 = (d + 2 * m + 2) + 14 by omega]
    refine s_185 (d := d + 2 * m + 2) (o := o) hI ⟨by omega, by omega⟩ p0 p1 p2 p3 p4 p5 (fun d9 c9 Z9 hd hc hI9 q0 q1 q2 q3 q4 q5 K9 => ?_) K
    have r := r_185_n (sc := sc) m (d9 - 2 * m - 2) c9 (o + 1) Z9 (by omega) (by omega) hI9 q0 q1 q2 q3 q4 q5 K9
    rw [show d9 - 2 * m - 2 + 2 * m + 14 = d9 + 12 by omega] at r
    exact r
set_option maxRecDepth 100000 in
set_option maxHeartbeats 4000000 in
theorem r_185 {sc : List Int32} {e : Int} {d u P Q : Nat} {c : ME} {o : Int} {Z : AR → Prop} (hI : Iv u e P Q c) (ho : 0 ≤ o ∧ o ≤ 6) (p0 : ((c 41 5 = (-1)))) (p1 : ((c 41 4 ≤ c 41 3))) (p2 : ((c 41 3 ≤ 150))) (p3 : ((3 * c 41 34 ≤ 5 * c 41 4))) (p4 : ((((c 41 34) % 5) = 0))) (p5 : c 41 7 = o) (K : (∀ c2 : ME, Iv u e P Q c2 → (∀ (a : Nat) (j : Int), ¬ ((a = 41 ∧ j = 4) ∨ (a = 41 ∧ j = 5) ∨ (a = 41 ∧ j = 6) ∨ (a = 41 ∧ j = 7) ∨ (a = 41 ∧ j = 34) ∨ (a = 56 ∧ j ≥ c 41 34)) → c2 a j = c a j) → ((c2 41 4 ≥ c 41 4)) → ((c2 41 7 = c 41 7)) → ((5 * c 41 4 + 3 * c2 41 34 ≤ 3 * c 41 34 + 5 * c2 41 4)) → ((c2 41 5 < (-1)) ∨ (c2 41 5 > (-1)) ∨ (c2 41 4 ≤ c 41 3 ∧ c2 41 4 > c 41 4)) → ((((c2 41 34) % 5) = 0)) → ((c2 41 34 ≥ c 41 34)) → (c2 41 5 = -1 → Ap c2 56 (c 41 34) (c2 41 34)) → Z (.inl none, Wd P Q P P c2, 0, 0))) : Wp sc (d + 26) 185 0 [(0, .ref 41)] [] (Wd P Q P P c) 0 0 Z := by
  obtain ⟨m, hm⟩ : ∃ m : Nat, (m : Int) = 6 - o := ⟨(6 - o).toNat, by omega⟩
  rw [show d + 26 = (d + 12 - 2 * m) + 2 * m + 14 by omega]
  exact r_185_n m _ c o Z (by omega) (by omega) hI p0 p1 p2 p3 p4 p5 K

set_option maxRecDepth 100000 in
set_option maxHeartbeats 4000000 in
theorem s_186 {sc : List Int32} {d P Q : Nat} {c : ME} {Z : AR → Prop} (hI : Iv 0 (-1) P Q c)  (K : ∀ (c2 : ME), Iv 0 (-1) P Q c2 → (∀ (a : Nat) (j : Int), ¬ (a = 59) → c2 a j = c a j) → Z (.inl (none), Wd P Q P P c2, 0, 0)) : Wp sc (d + 7) 186 0 [(0, .ref 41)] [] (Wd P Q P P c) 0 0 Z := by
  have hP := iv_P hI
  have hQ := iv_Q hI
  refine q_aload_n rfl rfl ?_
  refine q_aload_n rfl rfl ?_
  refine v_gr (t := 58) rfl rfl rfl (by decide) rfl ?_
  refine q_aload_n rfl rfl ?_
  refine v_gr (t := 59) rfl rfl rfl (by decide) rfl ?_
  refine v_bip rfl (by decide) ?_
  refine v_cv rfl rfl rfl rfl (by decide) ⟨⟨rfl, rfl⟩, by decide, rfl⟩ (Nat.le_of_ble_eq_true rfl) (Nat.le_of_ble_eq_true rfl) (s_148 (f := 58) (t := 59) (nf := 37) (nt := 37) (n := 37) rfl rfl (by decide) (by decide) (by decide) (by decide) (by decide) (by omega) ?_)
  refine bk_inl ?_
  refine q_vret rfl rfl ?_
  have hI_1 := cp_58_59 hI
  exact K (upc c 58 0 59 0 37) hI_1 (fun a j hm => upc_c (by omega))

set_option maxRecDepth 100000 in
set_option maxHeartbeats 4000000 in
theorem s_187 {sc : List Int32} {e : Int} {d u P Q : Nat} {c : ME} {v1 v2 v3 v4 r : Int} {a1 : Int} {Z : AR → Prop} (hI : Iv u e P Q c) (ha1 : 0 ≤ a1 ∧ a1 ≤ 5) (hv0 : c 59 (4 * a1) = v1) (hv1 : c 59 (4 * a1 + 1) = v2) (hv2 : c 59 (4 * a1 + 2) = v3) (hv3 : c 59 (4 * a1 + 3) = v4) (hr9 : v1 + v2 + v3 + v4 = r) (K : Z (.inl (some (vi r)), Wd P Q P P c, 0, 0)) : Wp sc (d + 7) 187 0 [(0, .ref 41), (1, vi a1)] [] (Wd P Q P P c) 0 0 Z := by
  have hP := iv_P hI
  have hQ := iv_Q hI
  have h_1 := ir_59_g hI (j := 4 * a1) (by omega)
  have h_2 := ir_59_g hI (j := 4 * a1 + 1) (by omega)
  have h_3 := ir_59_g hI (j := 4 * a1 + 2) (by omega)
  have h_4 := ir_59_g hI (j := 4 * a1 + 3) (by omega)
  refine q_iconst rfl ?_
  refine q_istore_n rfl (by decide) ?_
  refine q_iconst rfl ?_
  refine q_istore_n rfl (by decide) ?_
  refine q_iload_n rfl rfl ?_
  refine q_iconst rfl ?_
  refine v_ic_ge_f (t := 28) rfl (by decide) (by decide) ?_
  refine q_iload_n rfl rfl ?_
  refine q_aload_n rfl rfl ?_
  refine v_gr (t := 59) rfl rfl rfl (by decide) rfl ?_
  refine q_iconst rfl ?_
  refine q_iload_n rfl rfl ?_
  refine v_imul (v := 4 * a1) rfl (by omega) ?_
  refine q_iload_n rfl rfl ?_
  refine v_iadd (v := 4 * a1) rfl (by omega) ?_
  refine v_ia (v := v1) rfl rfl (by decide) (by decide) (by omega) (hv0) ?_
  refine v_iadd (v := v1) rfl (by omega) ?_
  refine q_istore_n rfl (by decide) ?_
  refine v_iinc (v := 1) rfl rfl (by decide) (by decide) ?_
  refine q_goto (t := 4) rfl (by decide) ?_
  refine q_iload_n rfl rfl ?_
  refine q_iconst rfl ?_
  refine v_ic_ge_f (t := 28) rfl (by decide) (by decide) ?_
  refine q_iload_n rfl rfl ?_
  refine q_aload_n rfl rfl ?_
  refine v_gr (t := 59) rfl rfl rfl (by decide) rfl ?_
  refine q_iconst rfl ?_
  refine q_iload_n rfl rfl ?_
  refine v_imul (v := 4 * a1) rfl (by omega) ?_
  refine q_iload_n rfl rfl ?_
  refine v_iadd (v := 4 * a1 + 1) rfl (by omega) ?_
  refine v_ia (v := v2) rfl rfl (by decide) (by decide) (by omega) (hv1) ?_
  refine v_iadd (v := v1 + v2) rfl (by omega) ?_
  refine q_istore_n rfl (by decide) ?_
  refine Wp_ls [(2, vi (v1 + v2)), (3, vi 1), (0, .ref 41), (1, vi a1)] (lsub_cons rfl (lsub_cons rfl (lsub_cons rfl (lsub_cons rfl lsub_nil)))) ?_
  refine v_iinc (v := 2) rfl rfl (by decide) (by decide) ?_
  refine q_goto (t := 4) rfl (by decide) ?_
  refine q_iload_n rfl rfl ?_
  refine q_iconst rfl ?_
  refine v_ic_ge_f (t := 28) rfl (by decide) (by decide) ?_
  refine q_iload_n rfl rfl ?_
  refine q_aload_n rfl rfl ?_
  refine v_gr (t := 59) rfl rfl rfl (by decide) rfl ?_
  refine q_iconst rfl ?_
  refine q_iload_n rfl rfl ?_
  refine v_imul (v := 4 * a1) rfl (by omega) ?_
  refine q_iload_n rfl rfl ?_
  refine v_iadd (v := 4 * a1 + 2) rfl (by omega) ?_
  refine v_ia (v := v3) rfl rfl (by decide) (by decide) (by omega) (hv2) ?_
  refine v_iadd (v := v1 + v2 + v3) rfl (by omega) ?_
  refine q_istore_n rfl (by decide) ?_
  refine v_iinc (v := 3) rfl rfl (by decide) (by decide) ?_
  refine q_goto (t := 4) rfl (by decide) ?_
  refine q_iload_n rfl rfl ?_
  refine q_iconst rfl ?_
  refine v_ic_ge_f (t := 28) rfl (by decide) (by decide) ?_
  refine q_iload_n rfl rfl ?_
  refine q_aload_n rfl rfl ?_
  refine v_gr (t := 59) rfl rfl rfl (by decide) rfl ?_
  refine q_iconst rfl ?_
  refine q_iload_n rfl rfl ?_
  refine v_imul (v := 4 * a1) rfl (by omega) ?_
  refine q_iload_n rfl rfl ?_
  refine v_iadd (v := 4 * a1 + 3) rfl (by omega) ?_
  refine v_ia (v := v4) rfl rfl (by decide) (by decide) (by omega) (hv3) ?_
  refine v_iadd (v := v1 + v2 + v3 + v4) rfl (by omega) ?_
  refine q_istore_n rfl (by decide) ?_
  refine v_iinc (v := 4) rfl rfl (by decide) (by decide) ?_
  refine Wp_ls [(3, vi 4), (2, vi (v1 + v2 + v3 + v4)), (0, .ref 41), (1, vi a1)] (lsub_cons rfl (lsub_cons rfl (lsub_cons rfl (lsub_cons rfl lsub_nil)))) ?_
  refine q_goto (t := 4) rfl (by decide) ?_
  refine q_iload_n rfl rfl ?_
  refine q_iconst rfl ?_
  refine v_ic_ge_t (t := 28) rfl (by decide) (by decide) ?_
  refine q_iload_n rfl rfl ?_
  refine q_iret rfl rfl ?_
  exact zv (by omega) (K)

