/-! ===== contracts 14 ===== -/
theorem q_8db41993e {x0 : Int} (f0 : x0 > 150) : 150 < x0 := by omega
theorem q_f4271b4e1 {x0 : Int} (f0 : ¬ (x0 > 150)) : x0 ≤ 600 := by omega
theorem q_1dc94a4e9 {x0 : Int} (f0 : 0 ≤ x0 ∧ x0 ≤ 605) : 0 ≤ x0 := by omega
theorem q_803e7bd5f {x0 : Int} (f0 : ¬ (x0 > 150)) : x0 ≤ 150 := by omega
theorem q_6948128fc {x0 : Int} (f0 : x0 = 5) : x0 = 5 := by omega
theorem q_655701c1c {x0 : Int} (f0 : ¬ (x0 ≠ 8)) : ¬ x0 = 5 := by omega
set_option maxRecDepth 100000 in
set_option maxHeartbeats 4000000 in
theorem s_177 {sc : List Int32} {e : Int} {d u P Q : Nat} {c : ME} {a1 : Int} {Z : AR → Prop} (hI : Iv u e P Q c) (ha1 : (-2147483648) ≤ a1 ∧ a1 ≤ 2147483647) (K : ∀ (c2 : ME) (y : Int), Iv u e P Q c2 → (∀ (a : Nat) (j : Int), ¬ ((a = 41 ∧ j = 0) ∨ a = 42 ∨ (a = 41 ∧ j = 2) ∨ (a = 41 ∧ j = 3) ∨ (a = 41 ∧ j = 4) ∨ (a = 41 ∧ j = 5) ∨ (a = 41 ∧ j = 6) ∨ (a = 41 ∧ j = 7) ∨ (a = 41 ∧ j = 8) ∨ (a = 41 ∧ j = 29) ∨ (a = 41 ∧ j = 30) ∨ a = 50 ∨ a = 51 ∨ a = 52 ∨ a = 53) → c2 a j = c a j) → (-2147483648) ≤ y ∧ y ≤ 2147483647 → ((c2 41 2 = 0 ∧ a1 ≥ 0 ∧ a1 ≤ c 41 2 ∧ a1 ≤ 150) ∨ (c2 41 2 = c 41 2 ∧ a1 < 0) ∨ (c2 41 2 = c 41 2 ∧ a1 > c 41 2) ∨ (c2 41 2 = c 41 2 ∧ a1 > 150)) → Z (.inl (some (vi y)), Wd P Q P P c2, 0, 0)) : Wp sc (d + 41) 177 0 [(0, .ref 41), (1, vi a1)] [] (Wd P Q P P c) 0 0 Z := by
  have hP := iv_P hI
  have hQ := iv_Q hI
  refine q_aload_n rfl rfl (q_iconst rfl (v_pi (z := 0) rfl rfl rfl (Nat.le_of_ble_eq_true rfl) rfl rfl rfl (by decide) (q_aload_n rfl rfl (q_iload_n rfl rfl ?_))))
  by_cases h_1 : a1 < 0
  · refine v_if_lt_t (t := 29) rfl rfl ⟨ha1.1, h_1, by decide⟩ (q_iconst rfl (q_iconst rfl (q_iconst rfl (v_cv rfl rfl rfl rfl (Nat.le_of_ble_eq_true rfl) ⟨⟨rfl, rfl⟩, Nat.le_of_ble_eq_true rfl, rfl⟩ (Nat.le_of_ble_eq_true rfl) (Nat.le_of_ble_eq_true rfl) (q_iload_n rfl rfl (v_if_ne_f (t := 26) rfl rfl (by decide) (q_aload_n rfl rfl ?_)))))))
    refine v_gi (z := 0) (v := 0) rfl rfl rfl (Nat.le_of_ble_eq_true rfl) rfl rfl (up_e rfl) (v_if_ne_f (t := 26) rfl rfl (by decide) (q_aload_n rfl rfl (q_iload_n rfl rfl (v_pi (z := 0) rfl rfl rfl (Nat.le_of_ble_eq_true rfl) rfl rfl rfl (by decide) (q_aload_n rfl rfl (v_gr (t := 42) rfl rfl rfl (Nat.le_of_ble_eq_true rfl) rfl (q_iload_n rfl rfl ?_)))))))
    refine q_dup2 rfl ⟨rfl, rfl⟩ ?_
    have h_2 := ir_42 hI 1
    refine v_ia (v := c 42 1) rfl rfl (by decide) (by decide) (by decide) ((up_c (nn rfl)).trans (up_c (nn rfl))) (q_iconst rfl (v_iadd (v := c 42 1 + 1) rfl rfl (v_nrm (fun y_3 hy_3 => (v_is rfl rfl (by decide) (by decide) (by decide) (q_aload_n rfl rfl (v_gi (z := 0) (v := 1) rfl rfl rfl (Nat.le_of_ble_eq_true rfl) rfl rfl ((up_c (nn rfl)).trans (up_e rfl)) (v_if_ne_t (t := 37) rfl rfl (by decide) ?_))))))))
    refine q_iconst rfl (v_zret rfl rfl (by decide) (bk_inl (v_if_ne_f (t := 40) rfl rfl (by decide) (q_iconst rfl (q_iret rfl rfl ?_)))))
    have hI_4 := iw_41_0 (v := 0) hI ⟨by decide, by decide⟩
    have hI_5 := iw_41_0 (v := 1) hI_4 ⟨by decide, by decide⟩
    have hI_6 := iw_42 (j := 1) (v := y_3) hI_5 ⟨hy_3.1, hy_3.2⟩
    have h_7 := ir_41_2 hI
    have h_8 : (up (up (up c 41 0 0) 41 0 1) 42 1 y_3) 41 2 = c 41 2 := ((up_c (nn rfl)).trans ((up_n (by decide)).trans (up_n (by decide))))
    exact K (up (up (up c 41 0 0) 41 0 1) 42 1 y_3) 0 hI_6 (fun a j hm => (up_b (Decidable.or_iff_not_imp_left.mpr (fun h1 h2 => hm (Or.inr (Or.inl (Decidable.not_not.mp h1)))))).trans ((up_b (Decidable.or_iff_not_imp_left.mpr (fun h1 h2 => hm (Or.inl ⟨Decidable.not_not.mp h1, h2⟩)))).trans (up_b (Decidable.or_iff_not_imp_left.mpr (fun h1 h2 => hm (Or.inl ⟨Decidable.not_not.mp h1, h2⟩)))))) ⟨by decide, by decide⟩ (Or.inr (Or.inl ⟨by first | exact q_94b7ed2f4 | omega, by first | exact q_e97a17f6e h_1 | omega⟩))
  · refine v_if_lt_f (t := 29) rfl rfl ⟨by decide, (Int.not_lt.mp h_1), ha1.2⟩ (q_iload_n rfl rfl (q_aload_n rfl rfl ?_))
    have h_9 := ir_41_2 hI
    refine v_gi (z := 2) (v := c 41 2) rfl rfl rfl (Nat.le_of_ble_eq_true rfl) rfl rfl (up_n (by decide)) ?_
    by_cases h_10 : a1 > c 41 2
    · refine v_ic_gt_t (t := 29) rfl rfl ⟨(Int.le_trans (by decide) h_9.1), h_10, ha1.2⟩ (q_iconst rfl (q_iconst rfl (q_iconst rfl (v_cv rfl rfl rfl rfl (Nat.le_of_ble_eq_true rfl) ⟨⟨rfl, rfl⟩, Nat.le_of_ble_eq_true rfl, rfl⟩ (Nat.le_of_ble_eq_true rfl) (Nat.le_of_ble_eq_true rfl) (q_iload_n rfl rfl (v_if_ne_f (t := 26) rfl rfl (by decide) (q_aload_n rfl rfl ?_)))))))
      refine v_gi (z := 0) (v := 0) rfl rfl rfl (Nat.le_of_ble_eq_true rfl) rfl rfl (up_e rfl) (v_if_ne_f (t := 26) rfl rfl (by decide) (q_aload_n rfl rfl (q_iload_n rfl rfl (v_pi (z := 0) rfl rfl rfl (Nat.le_of_ble_eq_true rfl) rfl rfl rfl (by decide) (q_aload_n rfl rfl (v_gr (t := 42) rfl rfl rfl (Nat.le_of_ble_eq_true rfl) rfl (q_iload_n rfl rfl ?_)))))))
      refine q_dup2 rfl ⟨rfl, rfl⟩ ?_
      have h_11 := ir_42 hI 1
      refine v_ia (v := c 42 1) rfl rfl (by decide) (by decide) (by decide) ((up_c (nn rfl)).trans (up_c (nn rfl))) (q_iconst rfl (v_iadd (v := c 42 1 + 1) rfl rfl (v_nrm (fun y_12 hy_12 => (v_is rfl rfl (by decide) (by decide) (by decide) (q_aload_n rfl rfl (v_gi (z := 0) (v := 1) rfl rfl rfl (Nat.le_of_ble_eq_true rfl) rfl rfl ((up_c (nn rfl)).trans (up_e rfl)) (v_if_ne_t (t := 37) rfl rfl (by decide) ?_))))))))
      refine q_iconst rfl (v_zret rfl rfl (by decide) (bk_inl (v_if_ne_f (t := 40) rfl rfl (by decide) (q_iconst rfl (q_iret rfl rfl ?_)))))
      have hI_13 := iw_41_0 (v := 0) hI ⟨by decide, by decide⟩
      have hI_14 := iw_41_0 (v := 1) hI_13 ⟨by decide, by decide⟩
      have hI_15 := iw_42 (j := 1) (v := y_12) hI_14 ⟨hy_12.1, hy_12.2⟩
      have h_16 : (up (up (up c 41 0 0) 41 0 1) 42 1 y_12) 41 2 = c 41 2 := ((up_c (nn rfl)).trans ((up_n (by decide)).trans (up_n (by decide))))
      exact K (up (up (up c 41 0 0) 41 0 1) 42 1 y_12) 0 hI_15 (fun a j hm => (up_b (Decidable.or_iff_not_imp_left.mpr (fun h1 h2 => hm (Or.inr (Or.inl (Decidable.not_not.mp h1)))))).trans ((up_b (Decidable.or_iff_not_imp_left.mpr (fun h1 h2 => hm (Or.inl ⟨Decidable.not_not.mp h1, h2⟩)))).trans (up_b (Decidable.or_iff_not_imp_left.mpr (fun h1 h2 => hm (Or.inl ⟨Decidable.not_not.mp h1, h2⟩)))))) ⟨by decide, by decide⟩ (Or.inr (Or.inr (Or.inl ⟨by first | exact q_94b7ed2f4 | omega, by first | exact q_0e7f65a30 h_10 | omega⟩)))
    · refine v_ic_gt_f (t := 29) rfl rfl ⟨ha1.1, (Int.not_lt.mp h_10), (Int.le_trans h_9.2 (by decide))⟩ (q_iload_n rfl rfl (v_sip rfl (by decide) ?_))
      by_cases h_17 : a1 > 150
      · refine v_ic_gt_t (t := 29) rfl rfl ⟨by decide, h_17, ha1.2⟩ (q_iconst rfl (q_iconst rfl (q_iconst rfl (v_cv rfl rfl rfl rfl (Nat.le_of_ble_eq_true rfl) ⟨⟨rfl, rfl⟩, Nat.le_of_ble_eq_true rfl, rfl⟩ (Nat.le_of_ble_eq_true rfl) (Nat.le_of_ble_eq_true rfl) (q_iload_n rfl rfl (v_if_ne_f (t := 26) rfl rfl (by decide) (q_aload_n rfl rfl ?_)))))))
        refine v_gi (z := 0) (v := 0) rfl rfl rfl (Nat.le_of_ble_eq_true rfl) rfl rfl (up_e rfl) (v_if_ne_f (t := 26) rfl rfl (by decide) (q_aload_n rfl rfl (q_iload_n rfl rfl (v_pi (z := 0) rfl rfl rfl (Nat.le_of_ble_eq_true rfl) rfl rfl rfl (by decide) (q_aload_n rfl rfl (v_gr (t := 42) rfl rfl rfl (Nat.le_of_ble_eq_true rfl) rfl (q_iload_n rfl rfl ?_)))))))
        refine q_dup2 rfl ⟨rfl, rfl⟩ ?_
        have h_18 := ir_42 hI 1
        refine v_ia (v := c 42 1) rfl rfl (by decide) (by decide) (by decide) ((up_c (nn rfl)).trans (up_c (nn rfl))) (q_iconst rfl (v_iadd (v := c 42 1 + 1) rfl rfl (v_nrm (fun y_19 hy_19 => (v_is rfl rfl (by decide) (by decide) (by decide) (q_aload_n rfl rfl (v_gi (z := 0) (v := 1) rfl rfl rfl (Nat.le_of_ble_eq_true rfl) rfl rfl ((up_c (nn rfl)).trans (up_e rfl)) (v_if_ne_t (t := 37) rfl rfl (by decide) ?_))))))))
        refine q_iconst rfl (v_zret rfl rfl (by decide) (bk_inl (v_if_ne_f (t := 40) rfl rfl (by decide) (q_iconst rfl (q_iret rfl rfl ?_)))))
        have hI_20 := iw_41_0 (v := 0) hI ⟨by decide, by decide⟩
        have hI_21 := iw_41_0 (v := 1) hI_20 ⟨by decide, by decide⟩
        have hI_22 := iw_42 (j := 1) (v := y_19) hI_21 ⟨hy_19.1, hy_19.2⟩
        have h_23 : (up (up (up c 41 0 0) 41 0 1) 42 1 y_19) 41 2 = c 41 2 := ((up_c (nn rfl)).trans ((up_n (by decide)).trans (up_n (by decide))))
        exact K (up (up (up c 41 0 0) 41 0 1) 42 1 y_19) 0 hI_22 (fun a j hm => (up_b (Decidable.or_iff_not_imp_left.mpr (fun h1 h2 => hm (Or.inr (Or.inl (Decidable.not_not.mp h1)))))).trans ((up_b (Decidable.or_iff_not_imp_left.mpr (fun h1 h2 => hm (Or.inl ⟨Decidable.not_not.mp h1, h2⟩)))).trans (up_b (Decidable.or_iff_not_imp_left.mpr (fun h1 h2 => hm (Or.inl ⟨Decidable.not_not.mp h1, h2⟩)))))) ⟨by decide, by decide⟩ (Or.inr (Or.inr (Or.inr ⟨by first | exact q_94b7ed2f4 | omega, by first | exact q_8db41993e h_17 | omega⟩)))
      · refine v_ic_gt_f (t := 29) rfl rfl ⟨ha1.1, (Int.not_lt.mp h_17), by decide⟩ (q_iconst rfl (q_goto (t := 30) rfl rfl (q_iconst rfl (q_iconst rfl (v_cv rfl rfl rfl rfl (Nat.le_of_ble_eq_true rfl) ⟨⟨rfl, rfl⟩, Nat.le_of_ble_eq_true rfl, rfl⟩ (Nat.le_of_ble_eq_true rfl) (Nat.le_of_ble_eq_true rfl) (q_iload_n rfl rfl (v_if_ne_t (t := 26) rfl rfl (by decide) ?_)))))))
        refine q_aload_n rfl rfl (v_gi (z := 0) (v := 0) rfl rfl rfl (Nat.le_of_ble_eq_true rfl) rfl rfl (up_e rfl) (v_if_ne_f (t := 37) rfl rfl (by decide) (q_iconst rfl (q_goto (t := 38) rfl rfl (v_zret rfl rfl (by decide) (bk_inl (v_if_ne_t (t := 40) rfl rfl (by decide) ?_)))))))
        refine q_aload_n rfl rfl (q_iload_n rfl rfl ?_)
        have hI_24 := iw_41_0 (v := 0) hI ⟨by decide, by decide⟩
        refine v_cv rfl rfl rfl rfl (Nat.le_of_ble_eq_true rfl) ⟨⟨rfl, rfl⟩, Nat.le_of_ble_eq_true rfl, rfl⟩ (Nat.le_of_ble_eq_true rfl) (Nat.le_of_ble_eq_true rfl) (s_163 (a1 := a1) hI_24 (show 0 ≤ a1 ∧ a1 ≤ 600 from ⟨by first | exact q_720657ba9 h_1 | omega, by first | exact q_f4271b4e1 h_17 | omega⟩) (fun c_25 hI_26 hF_27 h_28 => (bk_inl ?_)))
        have h_29 := ir_41_2 hI_26
        have h_30 := ir_41_3 hI_26
        have h_31 := ir_41_4 hI_26
        have h_32 := ir_41_5 hI_26
        have h_33 := ir_41_7 hI_26
        refine q_aload_n rfl rfl (q_iconst rfl (v_pi (z := 29) rfl rfl rfl (Nat.le_of_ble_eq_true rfl) rfl rfl rfl (by decide) (q_aload_n rfl rfl ?_)))
        have hI_34 := iw_41_29 (v := 0) hI_26 ⟨by decide, by decide⟩
        have h_35 : (up c_25 41 29 0) 41 5 = c_25 41 5 := (up_n (by decide))
        have h_36 : (up c_25 41 29 0) 41 3 = c_25 41 3 := (up_n (by decide))
        have h_37 : (up c_25 41 29 0) 41 4 = c_25 41 4 := (up_n (by decide))
        have h_38 : (up c_25 41 29 0) 41 29 = 0 := (up_e rfl)
        have h_39 : (up c_25 41 29 0) 41 7 = c_25 41 7 := (up_n (by decide))
        obtain ⟨hW_40, hN_41⟩ := nw_zero (c := up c_25 41 29 0) ((up_e rfl))
        refine v_cv rfl rfl rfl rfl (Nat.le_of_ble_eq_true rfl) ⟨⟨rfl, rfl⟩, Nat.le_of_ble_eq_true rfl, rfl⟩ (Nat.le_of_ble_eq_true rfl) (Nat.le_of_ble_eq_true rfl) (r_174 (o := 0) hI_34 (show 0 ≤ 0 ∧ 0 ≤ 6 from by omega) hW_40 (by omega) (by omega) (by omega) (by first | exact q_1dc94a4e9 h_31 | omega) (by omega) (fun c_42 hI_43 hF_44 hW_45 h_46 h_47 h_48 h_49 h_50 => (bk_inl ?_)))
        have h_51 := ir_41_4 hI_43
        have h_52 := ir_41_7 hI_43
        have h_53 := ir_41_29 hI_43
        have h_54 := ir_41_5 hI_43
        refine q_aload_n rfl rfl (v_cv rfl rfl rfl rfl (Nat.le_of_ble_eq_true rfl) ⟨⟨rfl, rfl⟩, Nat.le_of_ble_eq_true rfl, rfl⟩ (Nat.le_of_ble_eq_true rfl) (Nat.le_of_ble_eq_true rfl) (q_aload_n rfl rfl (v_gi (z := 5) (v := c_42 41 5) rfl rfl rfl (Nat.le_of_ble_eq_true rfl) rfl rfl rfl (q_iconst rfl ?_))))
        by_cases h_55 : c_42 41 5 ≠ (-1)
        · refine v_ic_ne_t (t := 12) rfl rfl ⟨h_55, ⟨(Int.le_trans (by decide) h_54.1), (Int.le_trans h_54.2 (by decide))⟩, by decide, by decide⟩ (q_iconst rfl (v_zret rfl rfl (by decide) (bk_inl (v_if_eq_t (t := 77) rfl rfl (by decide) (q_aload_n rfl rfl (q_iconst rfl (v_cv rfl rfl rfl rfl (Nat.le_of_ble_eq_true rfl) ⟨⟨rfl, rfl⟩, Nat.le_of_ble_eq_true rfl, rfl⟩ (Nat.le_of_ble_eq_true rfl) (Nat.le_of_ble_eq_true rfl) (s_164 (a1 := 1) hI_43 (show (-2147483648) ≤ 1 ∧ 1 ≤ 2147483647 from ⟨by decide, by decide⟩) (fun c_56 y_59 hI_57 hF_58 hy_59 => ?_)))))))))
          refine bk_inl (q_istore_n rfl (Nat.le_of_ble_eq_true rfl) (q_aload_n rfl rfl ?_))
          have kn_60 : Hid (c_56 41 5 = c_42 41 5) := hF_58 41 5 (fun h => absurd h.2 (ni rfl))
          refine v_gi (z := 5) (v := c_42 41 5) rfl rfl rfl (Nat.le_of_ble_eq_true rfl) rfl rfl (hid kn_60) (q_iconst rfl (v_ic_eq_f (t := 93) rfl rfl ⟨by first | exact q_bd023a79f h_54 h_55 | (clear ha1 h_1 h_9 h_10 h_17 h_29 h_30 h_31 h_32 h_33 h_28 h_51 h_46 h_52 h_47 h_53 h_48 h_49 h_50; omega) | omega, ⟨(Int.le_trans (by decide) h_54.1), (Int.le_trans h_54.2 (by decide))⟩, by decide, by decide⟩ (q_iload_n rfl rfl (q_iret rfl rfl ?_))))
          have kn_61 : Hid (c_42 41 2 = c_25 41 2) := (hF_44 41 2 (fun q => q.elim (fun h => absurd h.2 (ni rfl)) (fun q => q.elim (fun h => absurd h.2 (ni rfl)) (fun q => q.elim (fun h => absurd h.2 (ni rfl)) (fun q => q.elim (fun h => absurd h.2 (ni rfl)) (fun q => q.elim (fun h => absurd h.2 (ni rfl)) (fun q => q.elim (fun h => absurd h (nn rfl)) (fun h => absurd h (nn rfl))))))))).trans (up_n (by decide))
          have kn_62 : Hid (c_56 41 2 = c_25 41 2) := (hF_58 41 2 (fun h => absurd h.2 (ni rfl))).trans (hid kn_61)
          have h_63 : c_56 41 2 = c_25 41 2 := (hid kn_62)
          exact K c_56 y_59 hI_57 (fun a j hm => (hF_58 a j (fun h => hm (Or.inr (Or.inr (Or.inr (Or.inr (Or.inr (Or.inr (Or.inr (Or.inr (Or.inl h))))))))))).trans ((hF_44 a j (fun q => q.elim (fun h => hm (Or.inr (Or.inr (Or.inr (Or.inr (Or.inl h)))))) (fun q => q.elim (fun h => hm (Or.inr (Or.inr (Or.inr (Or.inr (Or.inr (Or.inl h))))))) (fun q => q.elim (fun h => hm (Or.inr (Or.inr (Or.inr (Or.inr (Or.inr (Or.inr (Or.inl h)))))))) (fun q => q.elim (fun h => hm (Or.inr (Or.inr (Or.inr (Or.inr (Or.inr (Or.inr (Or.inr (Or.inl h))))))))) (fun q => q.elim (fun h => hm (Or.inr (Or.inr (Or.inr (Or.inr (Or.inr (Or.inr (Or.inr (Or.inr (Or.inr (Or.inl h))))))))))) (fun q => q.elim (fun h => hm (Or.inr (Or.inr (Or.inr (Or.inr (Or.inr (Or.inr (Or.inr (Or.inr (Or.inr (Or.inr (Or.inr (Or.inl h))))))))))))) (fun h => hm (Or.inr (Or.inr (Or.inr (Or.inr (Or.inr (Or.inr (Or.inr (Or.inr (Or.inr (Or.inr (Or.inr (Or.inr (Or.inl h))))))))))))))))))))).trans ((up_b (Decidable.or_iff_not_imp_left.mpr (fun h1 h2 => hm (Or.inr (Or.inr (Or.inr (Or.inr (Or.inr (Or.inr (Or.inr (Or.inr (Or.inr (Or.inl ⟨Decidable.not_not.mp h1, h2⟩))))))))))))).trans ((hF_27 a j (fun q => q.elim (fun h => hm (Or.inr (Or.inr (Or.inl h)))) (fun q => q.elim (fun h => hm (Or.inr (Or.inr (Or.inr (Or.inl h))))) (fun q => q.elim (fun h => hm (Or.inr (Or.inr (Or.inr (Or.inr (Or.inl h)))))) (fun q => q.elim (fun h => hm (Or.inr (Or.inr (Or.inr (Or.inr (Or.inr (Or.inl h))))))) (fun q => q.elim (fun h => hm (Or.inr (Or.inr (Or.inr (Or.inr (Or.inr (Or.inr (Or.inr (Or.inl h))))))))) (fun h => hm (Or.inr (Or.inr (Or.inr (Or.inr (Or.inr (Or.inr (Or.inr (Or.inr (Or.inl h)))))))))))))))).trans (up_b (Decidable.or_iff_not_imp_left.mpr (fun h1 h2 => hm (Or.inl ⟨Decidable.not_not.mp h1, h2⟩)))))))) hy_59 (Or.inl ⟨by first | (clear ha1 h_1 h_9 h_10 h_17 h_30 h_31 h_32 h_33 h_51 h_46 h_52 h_47 h_53 h_48 h_54 h_49 h_50 h_55; omega) | omega, by first | exact q_720657ba9 h_1 | (clear ha1 h_9 h_10 h_17 h_29 h_30 h_31 h_32 h_33 h_28 h_51 h_46 h_52 h_47 h_53 h_48 h_54 h_49 h_50 h_55; omega) | omega, by first | exact q_0325d56da h_10 | (clear ha1 h_1 h_9 h_17 h_29 h_30 h_31 h_32 h_33 h_28 h_51 h_46 h_52 h_47 h_53 h_48 h_54 h_49 h_50 h_55; omega) | omega, by first | exact q_803e7bd5f h_17 | (clear ha1 h_1 h_9 h_10 h_29 h_30 h_31 h_32 h_33 h_28 h_51 h_46 h_52 h_47 h_53 h_48 h_54 h_49 h_50 h_55; omega) | omega⟩)
        · refine v_ic_ne_f (t := 12) rfl rfl (Decidable.not_not.mp h_55) (q_iconst rfl (q_goto (t := 13) rfl rfl (v_zret rfl rfl (by decide) (bk_inl (v_if_eq_f (t := 77) rfl rfl (by decide) (q_aload_n rfl rfl ?_))))))
          have kn_64 : Hid (c_42 41 3 = c_25 41 3) := (hF_44 41 3 (fun q => q.elim (fun h => absurd h.2 (ni rfl)) (fun q => q.elim (fun h => absurd h.2 (ni rfl)) (fun q => q.elim (fun h => absurd h.2 (ni rfl)) (fun q => q.elim (fun h => absurd h.2 (ni rfl)) (fun q => q.elim (fun h => absurd h.2 (ni rfl)) (fun q => q.elim (fun h => absurd h (nn rfl)) (fun h => absurd h (nn rfl))))))))).trans (up_n (by decide))
          have h_65 : c_42 41 3 = c_25 41 3 := (hid kn_64)
          refine v_cv rfl rfl rfl rfl (Nat.le_of_ble_eq_true rfl) ⟨⟨rfl, rfl⟩, Nat.le_of_ble_eq_true rfl, rfl⟩ (Nat.le_of_ble_eq_true rfl) (Nat.le_of_ble_eq_true rfl) (s_162 hI_43 (fun c_66 y_69 hI_67 hF_68 hy_69 h_70 h_71 h_72 => (bk_inl ?_)))
          have h_73 := ir_41_4 hI_67
          by_cases h_74 : y_69 = 0
          · refine v_if_eq_t (t := 77) rfl rfl h_74 (q_aload_n rfl rfl (q_iconst rfl (v_cv rfl rfl rfl rfl (Nat.le_of_ble_eq_true rfl) ⟨⟨rfl, rfl⟩, Nat.le_of_ble_eq_true rfl, rfl⟩ (Nat.le_of_ble_eq_true rfl) (Nat.le_of_ble_eq_true rfl) (s_164 (a1 := 1) hI_67 (show (-2147483648) ≤ 1 ∧ 1 ≤ 2147483647 from ⟨by decide, by decide⟩) (fun c_75 y_78 hI_76 hF_77 hy_78 => (bk_inl (q_istore_n rfl (Nat.le_of_ble_eq_true rfl) (q_aload_n rfl rfl ?_))))))))
            have kn_79 : Hid (c_66 41 5 = c_42 41 5) := hF_68 41 5 (fun h => absurd h.2 (ni rfl))
            have kn_80 : Hid (c_75 41 5 = c_42 41 5) := (hF_77 41 5 (fun h => absurd h.2 (ni rfl))).trans (hid kn_79)
            refine v_gi (z := 5) (v := c_42 41 5) rfl rfl rfl (Nat.le_of_ble_eq_true rfl) rfl rfl (hid kn_80) (q_iconst rfl (v_ic_eq_t (t := 93) rfl rfl (by first | exact q_65c5ff97d h_54 h_55 | (clear ha1 h_1 h_9 h_10 h_17 h_29 h_30 h_31 h_32 h_33 h_28 h_51 h_46 h_52 h_47 h_53 h_48 h_73 h_70 h_74 h_49 h_50 h_71 h_72; omega) | omega) (q_aload_n rfl rfl (q_aload_n rfl rfl ?_))))
            have kn_81 : Hid (c_66 41 29 = c_42 41 29) := hF_68 41 29 (fun h => absurd h.2 (ni rfl))
            have kn_82 : Hid (c_75 41 29 = c_42 41 29) := (hF_77 41 29 (fun h => absurd h.2 (ni rfl))).trans (hid kn_81)
            refine v_gi (z := 29) (v := c_42 41 29) rfl rfl rfl (Nat.le_of_ble_eq_true rfl) rfl rfl (hid kn_82) (v_pi (z := 30) rfl rfl rfl (Nat.le_of_ble_eq_true rfl) rfl rfl rfl (by decide) (q_aload_n rfl rfl (q_aload_n rfl rfl (v_gr (t := 50) rfl rfl rfl (Nat.le_of_ble_eq_true rfl) rfl (q_aload_n rfl rfl (v_gr (t := 52) rfl rfl rfl (Nat.le_of_ble_eq_true rfl) rfl (q_aload_n rfl rfl ?_)))))))
            refine v_gi (z := 29) (v := c_42 41 29) rfl rfl rfl (Nat.le_of_ble_eq_true rfl) rfl rfl ((up_n (by decide)).trans (hid kn_82)) ?_
            obtain ⟨hW_83, hN_84⟩ : Nw c_75 ∧ Nh c_75 = Nh c_42 := nh_fr hW_45 (fun j => (hF_77 50 j (fun h => absurd h.1 (nn rfl))).trans (hF_68 50 j (fun h => absurd h.1 (nn rfl)))) (fun j => (hF_77 51 j (fun h => absurd h.1 (nn rfl))).trans (hF_68 51 j (fun h => absurd h.1 (nn rfl)))) ((hF_77 41 29 (fun h => absurd h.2 (ni rfl))).trans (hF_68 41 29 (fun h => absurd h.2 (ni rfl))))
            refine v_cv rfl rfl rfl rfl (Nat.le_of_ble_eq_true rfl) ⟨⟨rfl, rfl⟩, Nat.le_of_ble_eq_true rfl, rfl⟩ (Nat.le_of_ble_eq_true rfl) (Nat.le_of_ble_eq_true rfl) (s_148 (f := 50) (t := 52) (nf := 150) (nt := 150) (n := c_42 41 29) rfl rfl (by decide) (by decide) (by decide) (by decide) (by decide) (by omega) (bk_inl (q_aload_n rfl rfl (q_aload_n rfl rfl (v_gr (t := 51) rfl rfl rfl (Nat.le_of_ble_eq_true rfl) rfl (q_aload_n rfl rfl (v_gr (t := 53) rfl rfl rfl (Nat.le_of_ble_eq_true rfl) rfl (q_aload_n rfl rfl ?_))))))))
            refine v_gi (z := 29) (v := c_42 41 29) rfl rfl rfl (Nat.le_of_ble_eq_true rfl) rfl rfl ((upc_c (by omega)).trans ((up_n (by decide)).trans (hid kn_82))) (v_cv rfl rfl rfl rfl (Nat.le_of_ble_eq_true rfl) ⟨⟨rfl, rfl⟩, Nat.le_of_ble_eq_true rfl, rfl⟩ (Nat.le_of_ble_eq_true rfl) (Nat.le_of_ble_eq_true rfl) (s_148 (f := 51) (t := 53) (nf := 150) (nt := 150) (n := c_42 41 29) rfl rfl (by decide) (by decide) (by decide) (by decide) (by decide) (by omega) (bk_inl (q_iload_n rfl rfl (q_iret rfl rfl ?_)))))
            have hI_85 : Iv u e P Q (upc (upc (up c_75 41 30 (c_42 41 29)) 50 0 52 0 (c_42 41 29)) 51 0 53 0 (c_42 41 29)) := iv_law (n := c_42 41 29) hI_76 hW_83 (show c_75 41 29 = c_42 41 29 from (hid kn_82)) (by omega)
            have kn_86 : Hid (c_42 41 2 = c_25 41 2) := (hF_44 41 2 (fun q => q.elim (fun h => absurd h.2 (ni rfl)) (fun q => q.elim (fun h => absurd h.2 (ni rfl)) (fun q => q.elim (fun h => absurd h.2 (ni rfl)) (fun q => q.elim (fun h => absurd h.2 (ni rfl)) (fun q => q.elim (fun h => absurd h.2 (ni rfl)) (fun q => q.elim (fun h => absurd h (nn rfl)) (fun h => absurd h (nn rfl))))))))).trans (up_n (by decide))
            have kn_87 : Hid (c_66 41 2 = c_25 41 2) := (hF_68 41 2 (fun h => absurd h.2 (ni rfl))).trans (hid kn_86)
            have kn_88 : Hid (c_75 41 2 = c_25 41 2) := (hF_77 41 2 (fun h => absurd h.2 (ni rfl))).trans (hid kn_87)
            have h_89 : (upc (upc (up c_75 41 30 (c_42 41 29)) 50 0 52 0 (c_42 41 29)) 51 0 53 0 (c_42 41 29)) 41 2 = c_25 41 2 := ((upc_c (by omega)).trans ((upc_c (by omega)).trans ((up_n (by decide)).trans (hid kn_88))))
            exact K (upc (upc (up c_75 41 30 (c_42 41 29)) 50 0 52 0 (c_42 41 29)) 51 0 53 0 (c_42 41 29)) y_78 hI_85 (fun a j hm => (upc_c (fun h => hm (Or.inr (Or.inr (Or.inr (Or.inr (Or.inr (Or.inr (Or.inr (Or.inr (Or.inr (Or.inr (Or.inr (Or.inr (Or.inr (Or.inr h)))))))))))))))).trans ((upc_c (fun h => hm (Or.inr (Or.inr (Or.inr (Or.inr (Or.inr (Or.inr (Or.inr (Or.inr (Or.inr (Or.inr (Or.inr (Or.inr (Or.inr (Or.inl h)))))))))))))))).trans ((up_b (Decidable.or_iff_not_imp_left.mpr (fun h1 h2 => hm (Or.inr (Or.inr (Or.inr (Or.inr (Or.inr (Or.inr (Or.inr (Or.inr (Or.inr (Or.inr (Or.inl ⟨Decidable.not_not.mp h1, h2⟩)))))))))))))).trans ((hF_77 a j (fun h => hm (Or.inr (Or.inr (Or.inr (Or.inr (Or.inr (Or.inr (Or.inr (Or.inr (Or.inl h))))))))))).trans ((hF_68 a j (fun h => hm (Or.inr (Or.inr (Or.inr (Or.inr (Or.inl h))))))).trans ((hF_44 a j (fun q => q.elim (fun h => hm (Or.inr (Or.inr (Or.inr (Or.inr (Or.inl h)))))) (fun q => q.elim (fun h => hm (Or.inr (Or.inr (Or.inr (Or.inr (Or.inr (Or.inl h))))))) (fun q => q.elim (fun h => hm (Or.inr (Or.inr (Or.inr (Or.inr (Or.inr (Or.inr (Or.inl h)))))))) (fun q => q.elim (fun h => hm (Or.inr (Or.inr (Or.inr (Or.inr (Or.inr (Or.inr (Or.inr (Or.inl h))))))))) (fun q => q.elim (fun h => hm (Or.inr (Or.inr (Or.inr (Or.inr (Or.inr (Or.inr (Or.inr (Or.inr (Or.inr (Or.inl h))))))))))) (fun q => q.elim (fun h => hm (Or.inr (Or.inr (Or.inr (Or.inr (Or.inr (Or.inr (Or.inr (Or.inr (Or.inr (Or.inr (Or.inr (Or.inl h))))))))))))) (fun h => hm (Or.inr (Or.inr (Or.inr (Or.inr (Or.inr (Or.inr (Or.inr (Or.inr (Or.inr (Or.inr (Or.inr (Or.inr (Or.inl h))))))))))))))))))))).trans ((up_b (Decidable.or_iff_not_imp_left.mpr (fun h1 h2 => hm (Or.inr (Or.inr (Or.inr (Or.inr (Or.inr (Or.inr (Or.inr (Or.inr (Or.inr (Or.inl ⟨Decidable.not_not.mp h1, h2⟩))))))))))))).trans ((hF_27 a j (fun q => q.elim (fun h => hm (Or.inr (Or.inr (Or.inl h)))) (fun q => q.elim (fun h => hm (Or.inr (Or.inr (Or.inr (Or.inl h))))) (fun q => q.elim (fun h => hm (Or.inr (Or.inr (Or.inr (Or.inr (Or.inl h)))))) (fun q => q.elim (fun h => hm (Or.inr (Or.inr (Or.inr (Or.inr (Or.inr (Or.inl h))))))) (fun q => q.elim (fun h => hm (Or.inr (Or.inr (Or.inr (Or.inr (Or.inr (Or.inr (Or.inr (Or.inl h))))))))) (fun h => hm (Or.inr (Or.inr (Or.inr (Or.inr (Or.inr (Or.inr (Or.inr (Or.inr (Or.inl h)))))))))))))))).trans (up_b (Decidable.or_iff_not_imp_left.mpr (fun h1 h2 => hm (Or.inl ⟨Decidable.not_not.mp h1, h2⟩)))))))))))) hy_78 (Or.inl ⟨by first | (clear ha1 h_1 h_9 h_10 h_17 h_30 h_31 h_32 h_33 h_51 h_46 h_52 h_47 h_53 h_48 h_54 h_55 h_73 h_70 h_74 h_49 h_50 h_71 h_72; omega) | omega, by first | exact q_720657ba9 h_1 | (clear ha1 h_9 h_10 h_17 h_29 h_30 h_31 h_32 h_33 h_28 h_51 h_46 h_52 h_47 h_53 h_48 h_54 h_55 h_73 h_70 h_74 h_49 h_50 h_71 h_72; omega) | omega, by first | exact q_0325d56da h_10 | (clear ha1 h_1 h_9 h_17 h_29 h_30 h_31 h_32 h_33 h_28 h_51 h_46 h_52 h_47 h_53 h_48 h_54 h_55 h_73 h_70 h_74 h_49 h_50 h_71 h_72; omega) | omega, by first | exact q_803e7bd5f h_17 | (clear ha1 h_1 h_9 h_10 h_29 h_30 h_31 h_32 h_33 h_28 h_51 h_46 h_52 h_47 h_53 h_48 h_54 h_55 h_73 h_70 h_74 h_49 h_50 h_71 h_72; omega) | omega⟩)
          · refine v_if_eq_f (t := 77) rfl rfl ⟨h_74, ⟨(Int.le_trans (by decide) hy_69.1), (Int.le_trans hy_69.2 (by decide))⟩, by decide, by decide⟩ (q_aload_n rfl rfl (q_iconst rfl (q_aload_n rfl rfl (v_gi (z := 4) (v := c_66 41 4) rfl rfl rfl (Nat.le_of_ble_eq_true rfl) rfl rfl rfl (v_cv rfl rfl rfl rfl (Nat.le_of_ble_eq_true rfl) ⟨⟨rfl, rfl⟩, Nat.le_of_ble_eq_true rfl, rfl⟩ (Nat.le_of_ble_eq_true rfl) (Nat.le_of_ble_eq_true rfl) (s_153 (a1 := 1) (a2 := c_66 41 4) hI_67 (show 1 ≤ 1 ∧ 1 ≤ 3 from ⟨by decide, by decide⟩) (show 0 ≤ c_66 41 4 ∧ c_66 41 4 ≤ 605 from h_73) (fun c_90 hI_91 hF_92 h_93 => (bk_inl ?_))))))))
            have h_94 := ir_41_5 hI_91
            refine q_aload_n rfl rfl (q_iconst rfl (v_cv rfl rfl rfl rfl (Nat.le_of_ble_eq_true rfl) ⟨⟨rfl, rfl⟩, Nat.le_of_ble_eq_true rfl, rfl⟩ (Nat.le_of_ble_eq_true rfl) (Nat.le_of_ble_eq_true rfl) (s_164 (a1 := 1) hI_91 (show (-2147483648) ≤ 1 ∧ 1 ≤ 2147483647 from ⟨by decide, by decide⟩) (fun c_95 y_98 hI_96 hF_97 hy_98 => (bk_inl (q_istore_n rfl (Nat.le_of_ble_eq_true rfl) (q_aload_n rfl rfl ?_)))))))
            have kn_99 : Hid (c_95 41 5 = c_90 41 5) := hF_97 41 5 (fun h => absurd h.2 (ni rfl))
            refine v_gi (z := 5) (v := c_90 41 5) rfl rfl rfl (Nat.le_of_ble_eq_true rfl) rfl rfl (hid kn_99) (q_iconst rfl (v_ic_eq_f (t := 93) rfl rfl ⟨by first | (clear ha1 h_1 h_9 h_10 h_17 h_29 h_30 h_31 h_32 h_33 h_28 h_51 h_46 h_52 h_47 h_53 h_48 h_54 h_55 h_73 h_70 h_49 h_50 h_71 h_72 h_74; omega) | omega, ⟨(Int.le_trans (by decide) h_94.1), (Int.le_trans h_94.2 (by decide))⟩, by decide, by decide⟩ (q_iload_n rfl rfl (q_iret rfl rfl ?_))))
            have kn_100 : Hid (c_42 41 2 = c_25 41 2) := (hF_44 41 2 (fun q => q.elim (fun h => absurd h.2 (ni rfl)) (fun q => q.elim (fun h => absurd h.2 (ni rfl)) (fun q => q.elim (fun h => absurd h.2 (ni rfl)) (fun q => q.elim (fun h => absurd h.2 (ni rfl)) (fun q => q.elim (fun h => absurd h.2 (ni rfl)) (fun q => q.elim (fun h => absurd h (nn rfl)) (fun h => absurd h (nn rfl))))))))).trans (up_n (by decide))
            have kn_101 : Hid (c_66 41 2 = c_25 41 2) := (hF_68 41 2 (fun h => absurd h.2 (ni rfl))).trans (hid kn_100)
            have kn_102 : Hid (c_90 41 2 = c_25 41 2) := (hF_92 41 2 (fun q => q.elim (fun h => absurd h.2 (ni rfl)) (fun h => absurd h.2 (ni rfl)))).trans (hid kn_101)
            have kn_103 : Hid (c_95 41 2 = c_25 41 2) := (hF_97 41 2 (fun h => absurd h.2 (ni rfl))).trans (hid kn_102)
            have h_104 : c_95 41 2 = c_25 41 2 := (hid kn_103)
            exact K c_95 y_98 hI_96 (fun a j hm => (hF_97 a j (fun h => hm (Or.inr (Or.inr (Or.inr (Or.inr (Or.inr (Or.inr (Or.inr (Or.inr (Or.inl h))))))))))).trans ((hF_92 a j (fun q => q.elim (fun h => hm (Or.inr (Or.inr (Or.inr (Or.inr (Or.inr (Or.inl h))))))) (fun h => hm (Or.inr (Or.inr (Or.inr (Or.inr (Or.inr (Or.inr (Or.inl h)))))))))).trans ((hF_68 a j (fun h => hm (Or.inr (Or.inr (Or.inr (Or.inr (Or.inl h))))))).trans ((hF_44 a j (fun q => q.elim (fun h => hm (Or.inr (Or.inr (Or.inr (Or.inr (Or.inl h)))))) (fun q => q.elim (fun h => hm (Or.inr (Or.inr (Or.inr (Or.inr (Or.inr (Or.inl h))))))) (fun q => q.elim (fun h => hm (Or.inr (Or.inr (Or.inr (Or.inr (Or.inr (Or.inr (Or.inl h)))))))) (fun q => q.elim (fun h => hm (Or.inr (Or.inr (Or.inr (Or.inr (Or.inr (Or.inr (Or.inr (Or.inl h))))))))) (fun q => q.elim (fun h => hm (Or.inr (Or.inr (Or.inr (Or.inr (Or.inr (Or.inr (Or.inr (Or.inr (Or.inr (Or.inl h))))))))))) (fun q => q.elim (fun h => hm (Or.inr (Or.inr (Or.inr (Or.inr (Or.inr (Or.inr (Or.inr (Or.inr (Or.inr (Or.inr (Or.inr (Or.inl h))))))))))))) (fun h => hm (Or.inr (Or.inr (Or.inr (Or.inr (Or.inr (Or.inr (Or.inr (Or.inr (Or.inr (Or.inr (Or.inr (Or.inr (Or.inl h))))))))))))))))))))).trans ((up_b (Decidable.or_iff_not_imp_left.mpr (fun h1 h2 => hm (Or.inr (Or.inr (Or.inr (Or.inr (Or.inr (Or.inr (Or.inr (Or.inr (Or.inr (Or.inl ⟨Decidable.not_not.mp h1, h2⟩))))))))))))).trans ((hF_27 a j (fun q => q.elim (fun h => hm (Or.inr (Or.inr (Or.inl h)))) (fun q => q.elim (fun h => hm (Or.inr (Or.inr (Or.inr (Or.inl h))))) (fun q => q.elim (fun h => hm (Or.inr (Or.inr (Or.inr (Or.inr (Or.inl h)))))) (fun q => q.elim (fun h => hm (Or.inr (Or.inr (Or.inr (Or.inr (Or.inr (Or.inl h))))))) (fun q => q.elim (fun h => hm (Or.inr (Or.inr (Or.inr (Or.inr (Or.inr (Or.inr (Or.inr (Or.inl h))))))))) (fun h => hm (Or.inr (Or.inr (Or.inr (Or.inr (Or.inr (Or.inr (Or.inr (Or.inr (Or.inl h)))))))))))))))).trans (up_b (Decidable.or_iff_not_imp_left.mpr (fun h1 h2 => hm (Or.inl ⟨Decidable.not_not.mp h1, h2⟩)))))))))) hy_98 (Or.inl ⟨by first | (clear ha1 h_1 h_9 h_10 h_17 h_30 h_31 h_32 h_33 h_51 h_46 h_52 h_47 h_53 h_48 h_54 h_55 h_73 h_70 h_94 h_49 h_50 h_71 h_72 h_74 h_93; omega) | omega, by first | exact q_720657ba9 h_1 | (clear ha1 h_9 h_10 h_17 h_29 h_30 h_31 h_32 h_33 h_28 h_51 h_46 h_52 h_47 h_53 h_48 h_54 h_55 h_73 h_70 h_94 h_49 h_50 h_71 h_72 h_74 h_93; omega) | omega, by first | exact q_0325d56da h_10 | (clear ha1 h_1 h_9 h_17 h_29 h_30 h_31 h_32 h_33 h_28 h_51 h_46 h_52 h_47 h_53 h_48 h_54 h_55 h_73 h_70 h_94 h_49 h_50 h_71 h_72 h_74 h_93; omega) | omega, by first | exact q_803e7bd5f h_17 | (clear ha1 h_1 h_9 h_10 h_29 h_30 h_31 h_32 h_33 h_28 h_51 h_46 h_52 h_47 h_53 h_48 h_54 h_55 h_73 h_70 h_94 h_49 h_50 h_71 h_72 h_74 h_93; omega) | omega⟩)

set_option maxRecDepth 100000 in
set_option maxHeartbeats 4000000 in
theorem s_178 {sc : List Int32} {e : Int} {d u P Q : Nat} {c : ME} {a0 : Int} {a1 : Int} {a2 : Int} {Z : AR → Prop} (hI : Iv u e P Q c) (ha0 : (-2147483648) ≤ a0 ∧ a0 ≤ 2147483647) (ha1 : (-2147483648) ≤ a1 ∧ a1 ≤ 2147483647) (ha2 : (-2147483648) ≤ a2 ∧ a2 ≤ 2147483647) (K : ∀ (y : Int), (-2147483648) ≤ y ∧ y ≤ 2147483647 → Z (.inl (some (vi y)), Wd P Q P P c, 0, 0)) : Wp sc (d + 7) 178 0 [(0, vi a0), (1, vi a1), (2, vi a2)] [] (Wd P Q P P c) 0 0 Z := by
  have hP := iv_P hI
  have hQ := iv_Q hI
  refine q_iload_n rfl rfl (q_iconst rfl ?_)
  by_cases h_1 : a0 ≠ 2
  · refine v_ic_ne_t (t := 9) rfl rfl ⟨h_1, ⟨ha0.1, ha0.2⟩, by decide, by decide⟩ (q_iload_n rfl rfl (q_iconst rfl ?_))
    by_cases h_2 : a0 ≠ 3
    · refine v_ic_ne_t (t := 18) rfl rfl ⟨h_2, ⟨ha0.1, ha0.2⟩, by decide, by decide⟩ (q_iload_n rfl rfl (q_iconst rfl ?_))
      by_cases h_3 : a0 ≠ 4
      · refine v_ic_ne_t (t := 27) rfl rfl ⟨h_3, ⟨ha0.1, ha0.2⟩, by decide, by decide⟩ (q_iload_n rfl rfl (q_iconst rfl ?_))
        by_cases h_4 : a0 = 5
        · refine v_ic_eq_t (t := 38) rfl rfl h_4 (q_iload_n rfl rfl ?_)
          by_cases h_5 : a2 ≠ 0
          · refine v_if_ne_t (t := 46) rfl rfl ⟨h_5, ⟨ha2.1, ha2.2⟩, by decide, by decide⟩ (q_iload_n rfl rfl (q_iconst rfl (v_ic_ne_f (t := 57) rfl rfl (by first | exact q_6948128fc h_4 | (clear ha0 ha1 ha2 h_1 h_2 h_3 h_5; omega) | omega) (q_iload_n rfl rfl (q_iload_n rfl rfl (v_idivx rfl ⟨by omega, by omega, by omega⟩ (fun y_6 hy_6 => (q_goto (t := 60) rfl rfl ?_))))))))
            refine q_iret rfl rfl ?_
            exact K y_6 hy_6
          · refine v_if_ne_f (t := 46) rfl rfl (Decidable.not_not.mp h_5) (q_iconst rfl (q_goto (t := 60) rfl rfl (q_iret rfl rfl ?_)))
            exact K 0 ⟨by decide, by decide⟩
        · refine v_ic_eq_f (t := 38) rfl rfl ⟨h_4, ⟨ha0.1, ha0.2⟩, by decide, by decide⟩ (q_iload_n rfl rfl (v_bip rfl (by decide) ?_))
          by_cases h_7 : a0 ≠ 8
          · refine v_ic_ne_t (t := 61) rfl rfl ⟨h_7, ⟨ha0.1, ha0.2⟩, by decide, by decide⟩ (q_iload_n rfl rfl (q_iload_n rfl rfl ?_))
            by_cases h_8 : a1 ≥ a2
            · refine v_ic_ge_t (t := 70) rfl rfl ⟨ha2.1, h_8, ha1.2⟩ (q_iconst rfl (q_iload_n rfl rfl (v_bip rfl (by decide) ?_)))
              by_cases h_9 : a0 ≠ 6
              · refine v_ic_ne_t (t := 81) rfl rfl ⟨h_9, ⟨ha0.1, ha0.2⟩, by decide, by decide⟩ (q_iconst rfl (v_ic_ne_f (t := 89) rfl rfl (by decide) (q_iload_n rfl rfl (q_goto (t := 90) rfl rfl (q_iret rfl rfl ?_)))))
                exact K a1 ha1
              · refine v_ic_ne_f (t := 81) rfl rfl (Decidable.not_not.mp h_9) (q_iconst rfl (q_goto (t := 82) rfl rfl (v_ic_ne_t (t := 89) rfl rfl (by decide) (q_iload_n rfl rfl (q_iret rfl rfl ?_)))))
                exact K a2 ha2
            · refine v_ic_ge_f (t := 70) rfl rfl ⟨ha1.1, (Int.not_le.mp h_8), ha2.2⟩ (q_iconst rfl (q_goto (t := 71) rfl rfl (q_iload_n rfl rfl (v_bip rfl (by decide) ?_))))
              by_cases h_10 : a0 ≠ 6
              · refine v_ic_ne_t (t := 81) rfl rfl ⟨h_10, ⟨ha0.1, ha0.2⟩, by decide, by decide⟩ (q_iconst rfl (v_ic_ne_t (t := 89) rfl rfl (by decide) (q_iload_n rfl rfl (q_iret rfl rfl ?_))))
                exact K a2 ha2
              · refine v_ic_ne_f (t := 81) rfl rfl (Decidable.not_not.mp h_10) (q_iconst rfl (q_goto (t := 82) rfl rfl (v_ic_ne_f (t := 89) rfl rfl (by decide) (q_iload_n rfl rfl (q_goto (t := 90) rfl rfl (q_iret rfl rfl ?_))))))
                exact K a1 ha1
          · refine v_ic_ne_f (t := 61) rfl rfl (Decidable.not_not.mp h_7) (q_iload_n rfl rfl ?_)
            by_cases h_11 : a2 ≠ 0
            · refine v_if_ne_t (t := 46) rfl rfl ⟨h_11, ⟨ha2.1, ha2.2⟩, by decide, by decide⟩ (q_iload_n rfl rfl (q_iconst rfl (v_ic_ne_t (t := 57) rfl rfl ⟨by first | exact q_655701c1c h_7 | (clear ha0 ha1 ha2 h_1 h_2 h_3 h_4 h_11; omega) | omega, ⟨ha0.1, ha0.2⟩, by decide, by decide⟩ (q_iload_n rfl rfl (q_iload_n rfl rfl (v_iremx rfl ⟨by omega, by omega, by omega⟩ (fun y_12 hy_12 => (q_iret rfl rfl ?_))))))))
              exact K y_12 hy_12
            · refine v_if_ne_f (t := 46) rfl rfl (Decidable.not_not.mp h_11) (q_iconst rfl (q_goto (t := 60) rfl rfl (q_iret rfl rfl ?_)))
              exact K 0 ⟨by decide, by decide⟩
      · refine v_ic_ne_f (t := 27) rfl rfl (Decidable.not_not.mp h_3) (q_iload_n rfl rfl (q_iload_n rfl rfl (v_imul (v := (a1 * a2)) rfl rfl (v_nrm (fun y_13 hy_13 => (q_iret rfl rfl ?_))))))
        exact K y_13 hy_13
    · refine v_ic_ne_f (t := 18) rfl rfl (Decidable.not_not.mp h_2) (q_iload_n rfl rfl (q_iload_n rfl rfl (v_isub (v := a1 - a2) rfl rfl (v_nrm (fun y_14 hy_14 => (q_iret rfl rfl ?_))))))
      exact K y_14 hy_14
  · refine v_ic_ne_f (t := 9) rfl rfl (Decidable.not_not.mp h_1) (q_iload_n rfl rfl (q_iload_n rfl rfl (v_iadd (v := a1 + a2) rfl rfl (v_nrm (fun y_15 hy_15 => (q_iret rfl rfl ?_))))))
    exact K y_15 hy_15

set_option maxRecDepth 100000 in
set_option maxHeartbeats 4000000 in
theorem s_179_l {sc : List Int32} {e : Int} {d u P Q : Nat} {c : ME} {Z : AR → Prop} (hI : Iv u e P Q c)  (K : ∀ (c2 : ME) (y : Int), Iv u e P Q c2 → (∀ (a : Nat) (j : Int), ¬ (a = 54) → c2 a j = c a j) → (-2147483648) ≤ y ∧ y ≤ 2147483647 → Z (.inl (some (vi y)), Wd P Q P P c2, 0, 0)) : ∀ n : Nat, (∀ (c2 : ME) (v1 : Int) (v2 : Int), Iv u e P Q c2 → (∀ (a : Nat) (j : Int), ¬ (a = 54) → c2 a j = c a j) → 0 ≤ v1 ∧ v1 ≤ 150 → 0 ≤ v2 ∧ v2 ≤ 150 → ((v1 ≤ v2)) → (v1 = hgt (c 52) v2.toNat) → 301 - 2 * v2 < (n : Int) → Wp sc (d + 8) 179 4 [(0, .ref 41), (1, vi v1), (2, vi v2)] [] (Wd P Q P P c2) 0 0 Z)
  | 0 => by intro c2 v1 v2 hI2 hF hv1 hv2 hx0 hx1 hm9; have hP := iv_P hI; have hQ := iv_Q hI; exfalso; omega
  | n + 1 => by
    have hP := iv_P hI
    have hQ := iv_Q hI
    have ih := s_179_l (sc := sc) (d := d) hI K n
    intro c2 v1 v2 hI2 hF hv1 hv2 hx0 hx1 hm9
    have h_1 := ir_52 hI v2
    have h_2 := ir_53 hI v2
    have h_3 := ir_41_30 hI
    have hh1 := ir_hc hI (k := v2) (by omega)
    have hh2 := hgt_s (f := c 52) (k := v2) (by omega)
    refine q_iload_n rfl rfl (q_aload_n rfl rfl ?_)
    have kn_4 : Hid (c2 41 30 = c 41 30) := hF 41 30 (fun h => absurd h (nn rfl))
    refine v_gi (z := 30) (v := c 41 30) rfl rfl rfl (Nat.le_of_ble_eq_true rfl) rfl rfl (hid kn_4) ?_
    by_cases h_5 : v2 ≥ c 41 30
    · refine v_ic_ge_t (t := 95) rfl rfl ⟨(Int.le_trans (by decide) h_3.1), h_5, (Int.le_trans hv2.2 (by decide))⟩ (q_aload_n rfl rfl (v_gr (t := 54) rfl rfl rfl (Nat.le_of_ble_eq_true rfl) rfl (q_iconst rfl ?_)))
      have h_6 := ir_54 hI2 0
      refine v_ia (v := c2 54 0) rfl rfl (by decide) (by decide) (by decide) rfl (q_iret rfl rfl ?_)
      exact K c2 (c2 54 0) hI2 (fun a j hm => hF a j (fun h => hm h)) h_6
    · refine v_ic_ge_f (t := 95) rfl rfl ⟨(Int.le_trans (by decide) hv2.1), (Int.not_le.mp h_5), (Int.le_trans h_3.2 (by decide))⟩ (q_aload_n rfl rfl (v_gr (t := 52) rfl rfl rfl (Nat.le_of_ble_eq_true rfl) rfl (q_iload_n rfl rfl ?_)))
      have kn_7 : Hid (c2 52 v2 = c 52 v2) := hF 52 v2 (fun h => absurd h (nn rfl))
      refine v_ia (v := c 52 v2) rfl rfl (by decide) (by decide) ⟨hv2.1, by first | exact q_8d9392337 h_3 h_5 | (clear hv1 hv2 hx0 h_1 h_2 hh2; omega) | omega⟩ (hid kn_7) (q_istore_n rfl (Nat.le_of_ble_eq_true rfl) (q_iload_n rfl rfl (q_iconst rfl ?_)))
      by_cases h_8 : c 52 v2 > 1
      · refine v_ic_gt_t (t := 60) rfl rfl ⟨by decide, h_8, (Int.le_trans h_1.2 (by decide))⟩ (v_iinc (v := v1 - 1) rfl rfl (Nat.le_of_ble_eq_true rfl) (by first | (clear hv1 hv2 hx0 h_1 h_2 h_3 h_5 h_8 hh2; omega) | omega) (q_aload_n rfl rfl (v_gr (t := 54) rfl rfl rfl (Nat.le_of_ble_eq_true rfl) rfl (q_iload_n rfl rfl (q_iconst rfl (v_isub (v := v1 - 2) rfl (by first | (clear hv1 hv2 hx0 h_1 h_2 h_3 h_5 h_8 hh2; omega) | omega) (q_iload_n rfl rfl ?_)))))))
        refine q_aload_n rfl rfl (v_gr (t := 54) rfl rfl rfl (Nat.le_of_ble_eq_true rfl) rfl (q_iload_n rfl rfl (q_iconst rfl (v_isub (v := v1 - 2) rfl (by first | (clear hv1 hv2 hx0 h_1 h_2 h_3 h_5 h_8 hh2; omega) | omega) ?_))))
        have h_9 := ir_54 hI2 (v1 - 2)
        refine v_ia (v := c2 54 (v1 - 2)) rfl rfl (by decide) (by decide) ⟨by omega, by first | exact q_2d3808a94 hv1 | (clear hv2 hx0 h_1 h_2 h_3 h_5 h_8 h_9 hh2; omega) | omega⟩ rfl (q_aload_n rfl rfl (v_gr (t := 54) rfl rfl rfl (Nat.le_of_ble_eq_true rfl) rfl (q_iload_n rfl rfl ?_)))
        have h_10 := ir_54 hI2 (v1 - 1)
        refine v_ia (v := c2 54 (v1 - 1)) rfl rfl (by decide) (by decide) ⟨by omega, by first | exact q_8528fcf54 hv1 | (clear hv2 hx0 h_1 h_2 h_3 h_5 h_8 h_9 h_10 hh2; omega) | omega⟩ rfl (q_call rfl rfl rfl rfl (s_178 (a0 := c 52 v2) (a1 := c2 54 (v1 - 2)) (a2 := c2 54 (v1 - 1)) hI2 (show (-2147483648) ≤ c 52 v2 ∧ c 52 v2 ≤ 2147483647 from ⟨(Int.le_trans (by decide) h_1.1), (Int.le_trans h_1.2 (by decide))⟩) (show (-2147483648) ≤ c2 54 (v1 - 2) ∧ c2 54 (v1 - 2) ≤ 2147483647 from h_9) (show (-2147483648) ≤ c2 54 (v1 - 1) ∧ c2 54 (v1 - 1) ≤ 2147483647 from h_10) (fun y_11 hy_11 => (bk_inl (v_is rfl rfl (by decide) (by decide) ⟨by omega, by first | exact q_2d3808a94 hv1 | (clear hv2 hx0 h_1 h_2 h_3 h_5 h_8 h_9 h_10 hh2; omega) | omega⟩ (v_iinc (v := v2 + 1) rfl rfl (Nat.le_of_ble_eq_true rfl) rfl (q_goto (t := 4) rfl rfl ?_)))))))
        have hI_12 := iw_54 (j := v1 - 2) (v := y_11) hI2 ⟨hy_11.1, hy_11.2⟩
        refine Wp_ls [(0, .ref 41), (1, vi (v1 - 1)), (2, vi (v2 + 1))] (lsub_cons rfl (lsub_cons rfl (lsub_cons rfl lsub_nil))) ?_
        exact ih (up c2 54 (v1 - 2) y_11) (v1 - 1) (v2 + 1) hI_12 (fun a j hm => (up_b (Decidable.or_iff_not_imp_left.mpr (fun h1 h2 => hm (Decidable.not_not.mp h1)))).trans (hF a j (fun h => hm h))) ⟨by omega, by first | exact rgm_h hv1.2 (by decide) | omega⟩ ⟨by first | exact rgp_l hv2.1 (by decide) | omega, by first | exact q_b47906294 h_3 h_5 | (clear hv1 hv2 hx0 h_1 h_2 h_8 h_9 h_10 hh2; omega) | omega⟩ (by first | (clear hv1 hv2 h_1 h_2 h_3 h_5 h_8 h_9 h_10 hh2; omega) | omega) (by omega) (by omega)
      · refine v_ic_gt_f (t := 60) rfl rfl ⟨(Int.le_trans (by decide) h_1.1), (Int.not_lt.mp h_8), by decide⟩ (q_aload_n rfl rfl (v_gr (t := 54) rfl rfl rfl (Nat.le_of_ble_eq_true rfl) rfl (q_iload_n rfl rfl (q_iload_n rfl rfl ?_))))
        by_cases h_13 : c 52 v2 ≠ 0
        · refine v_if_ne_t (t := 42) rfl rfl ⟨h_13, ⟨(Int.le_trans (by decide) h_1.1), (Int.le_trans h_1.2 (by decide))⟩, by decide, by decide⟩ (q_aload_n rfl rfl (v_gr (t := 55) rfl rfl rfl (Nat.le_of_ble_eq_true rfl) rfl (q_aload_n rfl rfl (v_gr (t := 53) rfl rfl rfl (Nat.le_of_ble_eq_true rfl) rfl (q_iload_n rfl rfl ?_)))))
          have kn_14 : Hid (c2 53 v2 = c 53 v2) := hF 53 v2 (fun h => absurd h (nn rfl))
          refine v_ia (v := c 53 v2) rfl rfl (by decide) (by decide) ⟨hv2.1, by first | exact q_8d9392337 h_3 h_5 | (clear hv1 hv2 hx0 h_1 h_2 h_8 hh2 h_13; omega) | omega⟩ (hid kn_14) ?_
          have h_15 := ir_55 hI (c 53 v2)
          have kn_16 : Hid (c2 55 (c 53 v2) = c 55 (c 53 v2)) := hF 55 (c 53 v2) (fun h => absurd h (nn rfl))
          refine v_ia (v := c 55 (c 53 v2)) rfl rfl (by decide) (by decide) ⟨h_2.1, by omega⟩ (hid kn_16) (v_is rfl rfl (by decide) (by decide) ⟨hv1.1, by first | (clear hv1 hv2 h_1 h_2 h_8 h_15 hh2 h_13; omega) | omega⟩ (v_iinc (v := v1 + 1) rfl rfl (Nat.le_of_ble_eq_true rfl) rfl (q_goto (t := 89) rfl rfl (v_iinc (v := v2 + 1) rfl rfl (Nat.le_of_ble_eq_true rfl) rfl (q_goto (t := 4) rfl rfl ?_)))))
          have hI_17 := iw_54 (j := v1) (v := c 55 (c 53 v2)) hI2 ⟨by first | exact q_cc1935a2a h_15 | (clear hv1 hv2 hx0 h_1 h_2 h_3 h_5 h_8 hh2 h_13; omega) | omega, by first | exact q_4e52e4576 h_15 | (clear hv1 hv2 hx0 h_1 h_2 h_3 h_5 h_8 hh2 h_13; omega) | omega⟩
          refine Wp_ls [(0, .ref 41), (1, vi (v1 + 1)), (2, vi (v2 + 1))] (lsub_cons rfl (lsub_cons rfl (lsub_cons rfl lsub_nil))) ?_
          exact ih (up c2 54 v1 (c 55 (c 53 v2))) (v1 + 1) (v2 + 1) hI_17 (fun a j hm => (up_b (Decidable.or_iff_not_imp_left.mpr (fun h1 h2 => hm (Decidable.not_not.mp h1)))).trans (hF a j (fun h => hm h))) ⟨by first | exact rgp_l hv1.1 (by decide) | omega, by first | (clear hv1 hv2 h_1 h_2 h_8 h_15 hh2 h_13; omega) | omega⟩ ⟨by first | exact rgp_l hv2.1 (by decide) | omega, by first | exact q_b47906294 h_3 h_5 | (clear hv1 hv2 hx0 h_1 h_2 h_8 h_15 hh2 h_13; omega) | omega⟩ (by first | (clear hv1 hv2 h_1 h_2 h_3 h_5 h_8 h_15 hh2 h_13; omega) | omega) (by omega) (by omega)
        · refine v_if_ne_f (t := 42) rfl rfl (Decidable.not_not.mp h_13) (q_aload_n rfl rfl (v_gr (t := 53) rfl rfl rfl (Nat.le_of_ble_eq_true rfl) rfl (q_iload_n rfl rfl ?_)))
          have kn_18 : Hid (c2 53 v2 = c 53 v2) := hF 53 v2 (fun h => absurd h (nn rfl))
          refine v_ia (v := c 53 v2) rfl rfl (by decide) (by decide) ⟨hv2.1, by first | exact q_8d9392337 h_3 h_5 | (clear hv1 hv2 hx0 h_1 h_2 h_8 h_13 hh2; omega) | omega⟩ (hid kn_18) (q_goto (t := 53) rfl rfl (v_is rfl rfl (by decide) (by decide) ⟨hv1.1, by first | (clear hv1 hv2 h_1 h_2 h_8 h_13 hh2; omega) | omega⟩ (v_iinc (v := v1 + 1) rfl rfl (Nat.le_of_ble_eq_true rfl) rfl (q_goto (t := 89) rfl rfl (v_iinc (v := v2 + 1) rfl rfl (Nat.le_of_ble_eq_true rfl) rfl (q_goto (t := 4) rfl rfl ?_))))))
          have hI_19 := iw_54 (j := v1) (v := c 53 v2) hI2 ⟨(Int.le_trans (by decide) h_2.1), (Int.le_trans h_2.2 (by decide))⟩
          refine Wp_ls [(0, .ref 41), (1, vi (v1 + 1)), (2, vi (v2 + 1))] (lsub_cons rfl (lsub_cons rfl (lsub_cons rfl lsub_nil))) ?_
          exact ih (up c2 54 v1 (c 53 v2)) (v1 + 1) (v2 + 1) hI_19 (fun a j hm => (up_b (Decidable.or_iff_not_imp_left.mpr (fun h1 h2 => hm (Decidable.not_not.mp h1)))).trans (hF a j (fun h => hm h))) ⟨by first | exact rgp_l hv1.1 (by decide) | omega, by first | (clear hv1 hv2 h_1 h_2 h_8 h_13 hh2; omega) | omega⟩ ⟨by first | exact rgp_l hv2.1 (by decide) | omega, by first | exact q_b47906294 h_3 h_5 | (clear hv1 hv2 hx0 h_1 h_2 h_8 h_13 hh2; omega) | omega⟩ (by first | (clear hv1 hv2 h_1 h_2 h_3 h_5 h_8 h_13 hh2; omega) | omega) (by omega) (by omega)
set_option maxRecDepth 100000 in
set_option maxHeartbeats 4000000 in
theorem s_179 {sc : List Int32} {e : Int} {d u P Q : Nat} {c : ME} {Z : AR → Prop} (hI : Iv u e P Q c)  (K : ∀ (c2 : ME) (y : Int), Iv u e P Q c2 → (∀ (a : Nat) (j : Int), ¬ (a = 54) → c2 a j = c a j) → (-2147483648) ≤ y ∧ y ≤ 2147483647 → Z (.inl (some (vi y)), Wd P Q P P c2, 0, 0)) : Wp sc (d + 8) 179 0 [(0, .ref 41)] [] (Wd P Q P P c) 0 0 Z := by
  have hP := iv_P hI
  have hQ := iv_Q hI
  refine q_iconst rfl (q_istore_n rfl (Nat.le_of_ble_eq_true rfl) (q_iconst rfl (q_istore_n rfl (Nat.le_of_ble_eq_true rfl) (Wp_ls [(0, .ref 41), (1, vi 0), (2, vi 0)] (lsub_cons rfl (lsub_cons rfl (lsub_cons rfl lsub_nil))) ?_))))
  exact (s_179_l (sc := sc) (d := d) hI K 304) c 0 0 hI (fun a j hm => rfl) ⟨by decide, by decide⟩ ⟨by decide, by decide⟩ (by first | decide | omega) (show (0 : Int) = hgt (c 52) 0 from rfl) (by omega)

set_option maxRecDepth 100000 in
set_option maxHeartbeats 4000000 in
theorem s_180 {sc : List Int32} {e : Int} {d u P Q : Nat} {c : ME} {Z : AR → Prop} (hI : Iv u e P Q c) (hq0 : (c 55 4 ≥ 0 ∧ c 55 4 ≤ 39996)) (hq1 : (c 55 0 ≥ 0 ∧ c 55 0 ≤ 9999)) (K : ∀ (c2 : ME) (y : Int), Iv u e P Q c2 → (∀ (a : Nat) (j : Int), ¬ (a = 54) → c2 a j = c a j) → 0 ≤ y ∧ y ≤ 99 → Z (.inl (some (vi y)), Wd P Q P P c2, 0, 0)) : Wp sc (d + 9) 180 0 [(0, .ref 41)] [] (Wd P Q P P c) 0 0 Z := by
  have hP := iv_P hI
  have hQ := iv_Q hI
  have h_1 := ir_55 hI 4
  have h_2 := ir_55 hI 0
  refine q_aload_n rfl rfl ?_
  have h_3 := ir_41_30 hI
  refine v_gi (z := 30) (v := c 41 30) rfl rfl rfl (Nat.le_of_ble_eq_true rfl) rfl rfl rfl ?_
  by_cases h_4 : c 41 30 ≠ 0
  · refine v_if_ne_t (t := 28) rfl rfl ⟨h_4, ⟨(Int.le_trans (by decide) h_3.1), (Int.le_trans h_3.2 (by decide))⟩, by decide, by decide⟩ (q_aload_n rfl rfl (v_cv rfl rfl rfl rfl (Nat.le_of_ble_eq_true rfl) ⟨⟨rfl, rfl⟩, Nat.le_of_ble_eq_true rfl, rfl⟩ (Nat.le_of_ble_eq_true rfl) (Nat.le_of_ble_eq_true rfl) (s_179 hI (fun c_5 y_8 hI_6 hF_7 hy_8 => (bk_inl (q_istore_n rfl (Nat.le_of_ble_eq_true rfl) (q_iload_n rfl rfl ?_)))))))
    by_cases h_9 : y_8 ≥ 0
    · refine v_if_ge_t (t := 41) rfl rfl ⟨by decide, h_9, hy_8.2⟩ (q_iload_n rfl rfl (v_bip rfl (by decide) ?_))
      by_cases h_10 : y_8 ≤ 99
      · refine v_ic_le_t (t := 52) rfl rfl ⟨hy_8.1, h_10, by decide⟩ (q_iload_n rfl rfl (q_iret rfl rfl ?_))
        exact K c_5 y_8 hI_6 (fun a j hm => hF_7 a j (fun h => hm h)) ⟨by first | exact q_059235c2c h_9 | (clear hq0 hq1 h_1 h_2 h_3 h_10 h_4; omega) | omega, by first | exact q_a6cbc6a20 h_10 | (clear hq0 hq1 h_1 h_2 h_3 h_9 h_4; omega) | omega⟩
      · refine v_ic_le_f (t := 52) rfl rfl ⟨by decide, (Int.not_le.mp h_10), hy_8.2⟩ (v_bip rfl (by decide) (q_goto (t := 53) rfl rfl (q_iret rfl rfl ?_)))
        exact K c_5 99 hI_6 (fun a j hm => hF_7 a j (fun h => hm h)) ⟨by decide, by decide⟩
    · refine v_if_ge_f (t := 41) rfl rfl ⟨hy_8.1, (Int.not_le.mp h_9), by decide⟩ (q_iconst rfl (q_goto (t := 53) rfl rfl (q_iret rfl rfl ?_)))
      exact K c_5 0 hI_6 (fun a j hm => hF_7 a j (fun h => hm h)) ⟨by decide, by decide⟩
  · refine v_if_ne_f (t := 28) rfl rfl (Decidable.not_not.mp h_4) (q_aload_n rfl rfl (v_gr (t := 55) rfl rfl rfl (Nat.le_of_ble_eq_true rfl) rfl (q_iconst rfl (v_ia (v := c 55 0) rfl rfl (by decide) (by decide) (by decide) rfl (v_bip rfl (by decide) (v_imul (v := 90 * c 55 0) rfl (by omega) (q_aload_n rfl rfl ?_)))))))
    refine v_gr (t := 55) rfl rfl rfl (Nat.le_of_ble_eq_true rfl) rfl (q_iconst rfl (v_ia (v := c 55 4) rfl rfl (by decide) (by decide) (by decide) rfl (q_iconst rfl (v_iadd (v := c 55 4 + 1) rfl rfl (v_idivx rfl ⟨by omega, by omega, by omega⟩ (fun y_11 hy_11 => (q_goto (t := 32) rfl rfl (q_istore_n rfl (Nat.le_of_ble_eq_true rfl) ?_))))))))
    refine q_iload_n rfl rfl ?_
    by_cases h_12 : y_11 ≥ 0
    · refine v_if_ge_t (t := 41) rfl rfl ⟨by decide, h_12, hy_11.2⟩ (q_iload_n rfl rfl (v_bip rfl (by decide) ?_))
      by_cases h_13 : y_11 ≤ 99
      · refine v_ic_le_t (t := 52) rfl rfl ⟨hy_11.1, h_13, by decide⟩ (q_iload_n rfl rfl (q_iret rfl rfl ?_))
        exact K c y_11 hI (fun a j hm => rfl) ⟨by first | exact q_059235c2c h_12 | omega, by first | exact q_a6cbc6a20 h_13 | omega⟩
      · refine v_ic_le_f (t := 52) rfl rfl ⟨by decide, (Int.not_le.mp h_13), hy_11.2⟩ (v_bip rfl (by decide) (q_goto (t := 53) rfl rfl (q_iret rfl rfl ?_)))
        exact K c 99 hI (fun a j hm => rfl) ⟨by decide, by decide⟩
    · refine v_if_ge_f (t := 41) rfl rfl ⟨hy_11.1, (Int.not_le.mp h_12), by decide⟩ (q_iconst rfl (q_goto (t := 53) rfl rfl (q_iret rfl rfl ?_)))
      exact K c 0 hI (fun a j hm => rfl) ⟨by decide, by decide⟩
