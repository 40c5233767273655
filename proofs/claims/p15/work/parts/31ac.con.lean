/-! ===== contracts 3 ===== -/
set_option maxRecDepth 100000 in
set_option maxHeartbeats 4000000 in
theorem s_41_l {sc : List Int32} {d u P Q : Nat} {c : ME} {a4 : Int} {Z : AR → Prop} (hI : Iv u (-1) P Q c) (ha4 : 0 ≤ a4 ∧ a4 ≤ 6) (H41 : ∀ (c : ME) (Z : AR → Prop), a4 + 1 ≤ 6 → Iv u (-1) P Q c → (∀ c2 : ME, Iv u (-1) P Q c2 → (∀ (a : Nat) (j : Int), ¬ ((a = 1 ∧ j = 2) ∨ (a = 1 ∧ j = 4) ∨ (a = 1 ∧ j = 5) ∨ (a = 7 ∧ j = 2) ∨ (a = 8 ∧ j ≥ 5 * c 7 2)) → c2 a j = c a j) → (c2 7 2 ≥ c 7 2) → Z (.inl none, Wd P Q P P c2, 0, 0)) → Wp sc (d + 10) 41 0 [(0, .ref 7), (1, .ref 1), (2, .ref P), (3, vi (a4 + 1))] [] (Wd P Q P P c) 0 0 Z) (K : ∀ (c2 : ME), Iv u (-1) P Q c2 → (∀ (a : Nat) (j : Int), ¬ ((a = 1 ∧ j = 2) ∨ (a = 1 ∧ j = 4) ∨ (a = 1 ∧ j = 5) ∨ (a = 7 ∧ j = 2) ∨ (a = 8 ∧ j ≥ 5 * c 7 2)) → c2 a j = c a j) → ((c2 7 2 ≥ c 7 2)) → Z (.inl (none), Wd P Q P P c2, 0, 0)) : ∀ n : Nat, (∀ (c2 : ME) (v4 : Int), Iv u (-1) P Q c2 → (∀ (a : Nat) (j : Int), ¬ ((a = 1 ∧ j = 2) ∨ (a = 1 ∧ j = 4) ∨ (a = 1 ∧ j = 5) ∨ (a = 7 ∧ j = 2) ∨ (a = 8 ∧ j ≥ 5 * c 7 2)) → c2 a j = c a j) → 0 ≤ v4 ∧ v4 ≤ 38 → ((c2 7 2 ≥ c 7 2)) → 77 - 2 * v4 < (n : Int) → Wp sc (d + 12) 41 3 [(0, .ref 7), (1, .ref 1), (2, .ref P), (3, vi a4), (4, vi v4)] [] (Wd P Q P P c2) 0 0 Z)
  | 0 => by intro c2 v4 hI2 hF hv4 hx0 hm9; have hP := iv_P hI; have hQ := iv_Q hI; exfalso; omega
  | n + 1 => by
    have hP := iv_P hI
    have hQ := iv_Q hI
    have ih := s_41_l (sc := sc) (d := d) hI ha4 H41 K n
    intro c2 v4 hI2 hF hv4 hx0 hm9
    have h_1 := ir_7_2 hI
    have h_2 := ir_7_2 hI2
    refine q_iload rfl rfl ?_
    refine v_bip rfl (by decide) ?_
    by_cases h_3 : v4 ≥ 38
    · refine v_ic_ge_t (t := 129) rfl (by decide) ⟨by decide, h_3, (Int.le_trans hv4.2 (by decide))⟩ ?_
      refine q_vret rfl rfl ?_
      exact K c2 hI2 (fun a j hm => hF a j (fun q => q.elim (fun h => hm (Or.inl h)) (fun q => q.elim (fun h => hm (Or.inr (Or.inl h))) (fun q => q.elim (fun h => hm (Or.inr (Or.inr (Or.inl h)))) (fun q => q.elim (fun h => hm (Or.inr (Or.inr (Or.inr (Or.inl h))))) (fun h => hm (Or.inr (Or.inr (Or.inr (Or.inr ⟨h.1, by clear hm; omega⟩)))))))))) (by omega)
    · refine v_ic_ge_f (t := 129) rfl (by decide) ⟨(Int.le_trans (by decide) hv4.1), (Int.not_le.mp h_3), by decide⟩ ?_
      refine q_aload_n rfl rfl ?_
      refine v_cv rfl rfl rfl rfl (by decide) ⟨⟨rfl, rfl⟩, by decide, rfl⟩ (Nat.le_of_ble_eq_true rfl) (Nat.le_of_ble_eq_true rfl) (s_15 hI2 (fun c_4 y_7 hI_5 hF_6 hy_7 => ?_))
      refine bk_inl ?_
      by_cases h_8 : y_7 = 0
      · refine v_if_eq_t (t := 129) rfl (by decide) h_8 ?_
        refine q_vret rfl rfl ?_
        have kn_9 : Hid (c_4 7 2 = c2 7 2) := hF_6 7 2 (fun h => absurd h.1 (nn rfl))
        have h_10 : c_4 7 2 = c2 7 2 := (hid kn_9)
        exact K c_4 hI_5 (fun a j hm => (hF_6 a j (fun h => hm (Or.inl h))).trans (hF a j (fun q => q.elim (fun h => hm (Or.inl h)) (fun q => q.elim (fun h => hm (Or.inr (Or.inl h))) (fun q => q.elim (fun h => hm (Or.inr (Or.inr (Or.inl h)))) (fun q => q.elim (fun h => hm (Or.inr (Or.inr (Or.inr (Or.inl h))))) (fun h => hm (Or.inr (Or.inr (Or.inr (Or.inr ⟨h.1, by clear hm; omega⟩))))))))))) (by omega)
      · refine v_if_eq_f (t := 129) rfl (by decide) ⟨h_8, ⟨(Int.le_trans (by decide) hy_7.1), (Int.le_trans hy_7.2 (by decide))⟩, by decide, by decide⟩ ?_
        refine q_iload_n rfl rfl ?_
        by_cases h_11 : a4 ≤ 0
        · refine v_if_le_t (t := 31) rfl (by decide) ⟨(Int.le_trans (by decide) ha4.1), h_11, by decide⟩ ?_
          refine q_aload_n rfl rfl ?_
          refine v_cv rfl rfl rfl rfl (by decide) ⟨⟨rfl, rfl⟩, by decide, rfl⟩ (Nat.le_of_ble_eq_true rfl) (Nat.le_of_ble_eq_true rfl) (s_3 hI_5 (fun c_12 y_15 hI_13 hF_14 hy_15 h_16 => ?_))
          refine bk_inl ?_
          have h_17 := ir_1_2 hI_13
          refine q_istore rfl (by decide) ?_
          refine q_aload_n rfl rfl ?_
          refine q_ldc_s rfl rfl rfl (by decide) ?_
          refine v_cv rfl rfl rfl rfl (by decide) ⟨⟨rfl, rfl⟩, by decide, rfl⟩ (Nat.le_of_ble_eq_true rfl) (Nat.le_of_ble_eq_true rfl) (s_10 hI_13 (q := 10) (nt := 41) (by decide) (by decide) (by decide) (fun c_18 y_21 hI_19 hF_20 hy_21 h_22 => ?_))
          refine bk_inl ?_
          have h_23 := ir_1_4 hI_19
          refine q_istore rfl (by decide) ?_
          refine q_iload rfl rfl ?_
          refine v_bip rfl (by decide) ?_
          by_cases h_24 : y_21 ≠ 7
          · refine v_ic_ne_t (t := 65) rfl (by decide) ⟨h_24, ⟨(Int.le_trans (by decide) hy_21.1), (Int.le_trans hy_21.2 (by decide))⟩, by decide, by decide⟩ ?_
            refine q_aload_n rfl rfl ?_
            refine v_cv rfl rfl rfl rfl (by decide) ⟨⟨rfl, rfl⟩, by decide, rfl⟩ (Nat.le_of_ble_eq_true rfl) (Nat.le_of_ble_eq_true rfl) ?_
            refine q_aload_n rfl rfl ?_
            refine v_gi (z := 4) (v := c_18 1 4) rfl rfl rfl (by decide) rfl rfl rfl ?_
            by_cases h_25 : c_18 1 4 ≠ 0
            · refine v_if_ne_t (t := 11) rfl (by decide) ⟨h_25, ⟨(Int.le_trans (by decide) h_23.1), (Int.le_trans h_23.2 (by decide))⟩, by decide, by decide⟩ ?_
              refine q_iconst rfl ?_
              refine v_zret rfl rfl (by decide) ?_
              refine bk_inl ?_
              refine v_if_eq_t (t := 117) rfl (by decide) (by decide) ?_
              refine q_aload_n rfl rfl ?_
              refine q_ldc_s rfl rfl rfl (by decide) ?_
              refine v_cv rfl rfl rfl rfl (by decide) ⟨⟨rfl, rfl⟩, by decide, rfl⟩ (Nat.le_of_ble_eq_true rfl) (Nat.le_of_ble_eq_true rfl) (s_11 hI_19 (q := 13) (nt := 1) (by decide) (by decide) (by decide) (fun c_26 hI_27 hF_28 => ?_))
              refine bk_inl ?_
              refine v_iinc (v := v4 + 1) rfl rfl (by decide) rfl ?_
              refine q_goto (t := 3) rfl (by decide) ?_
              refine Wp_ls [(0, .ref 7), (1, .ref 1), (2, .ref P), (3, vi a4), (4, vi (v4 + 1))] (lsub_cons rfl (lsub_cons rfl (lsub_cons rfl (lsub_cons rfl (lsub_cons rfl lsub_nil))))) ?_
              have kn_29 : Hid (c_4 7 2 = c2 7 2) := hF_6 7 2 (fun h => absurd h.1 (nn rfl))
              have kn_30 : Hid (c_12 7 2 = c2 7 2) := (hF_14 7 2 (fun h => absurd h.1 (nn rfl))).trans (hid kn_29)
              have kn_31 : Hid (c_18 7 2 = c2 7 2) := (hF_20 7 2 (fun q => q.elim (fun h => absurd h.1 (nn rfl)) (fun q => q.elim (fun h => absurd h.1 (nn rfl)) (fun h => absurd h.1 (nn rfl))))).trans (hid kn_30)
              have kn_32 : Hid (c_26 7 2 = c2 7 2) := (hF_28 7 2 (fun q => q.elim (fun h => absurd h.1 (nn rfl)) (fun q => q.elim (fun h => absurd h.1 (nn rfl)) (fun h => absurd h.1 (nn rfl))))).trans (hid kn_31)
              have h_33 : c_26 7 2 = c2 7 2 := (hid kn_32)
              exact ih c_26 (v4 + 1) hI_27 (fun a j hm => (hF_28 a j (fun q => q.elim (fun h => hm (Or.inl h)) (fun q => q.elim (fun h => hm (Or.inr (Or.inl h))) (fun h => hm (Or.inr (Or.inr (Or.inl h))))))).trans ((hF_20 a j (fun q => q.elim (fun h => hm (Or.inl h)) (fun q => q.elim (fun h => hm (Or.inr (Or.inl h))) (fun h => hm (Or.inr (Or.inr (Or.inl h))))))).trans ((hF_14 a j (fun h => hm (Or.inl h))).trans ((hF_6 a j (fun h => hm (Or.inl h))).trans (hF a j (fun q => q.elim (fun h => hm (Or.inl h)) (fun q => q.elim (fun h => hm (Or.inr (Or.inl h))) (fun q => q.elim (fun h => hm (Or.inr (Or.inr (Or.inl h)))) (fun q => q.elim (fun h => hm (Or.inr (Or.inr (Or.inr (Or.inl h))))) (fun h => hm (Or.inr (Or.inr (Or.inr (Or.inr ⟨h.1, by clear hm; omega⟩)))))))))))))) ⟨by first | exact rgp_l hv4.1 (by decide) | omega, by omega⟩ (by omega) (by omega)
            · refine v_if_ne_f (t := 11) rfl (by decide) (Decidable.not_not.mp h_25) ?_
              refine q_iconst rfl ?_
              refine q_goto (t := 12) rfl (by decide) ?_
              refine v_zret rfl rfl (by decide) ?_
              refine bk_inl ?_
              refine v_if_eq_f (t := 117) rfl (by decide) (by decide) ?_
              refine q_aload_n rfl rfl ?_
              have kn_34 : Hid (c_4 7 2 = c2 7 2) := hF_6 7 2 (fun h => absurd h.1 (nn rfl))
              have kn_35 : Hid (c_12 7 2 = c2 7 2) := (hF_14 7 2 (fun h => absurd h.1 (nn rfl))).trans (hid kn_34)
              have kn_36 : Hid (c_18 7 2 = c2 7 2) := (hF_20 7 2 (fun q => q.elim (fun h => absurd h.1 (nn rfl)) (fun q => q.elim (fun h => absurd h.1 (nn rfl)) (fun h => absurd h.1 (nn rfl))))).trans (hid kn_35)
              refine v_gi (z := 2) (v := c2 7 2) rfl rfl rfl (by decide) rfl rfl (hid kn_36) ?_
              refine v_bip rfl (by decide) ?_
              by_cases h_37 : c2 7 2 ≥ 38
              · refine v_ic_ge_t (t := 117) rfl (by decide) ⟨by decide, h_37, (Int.le_trans h_2.2 (by decide))⟩ ?_
                refine q_aload_n rfl rfl ?_
                refine q_ldc_s rfl rfl rfl (by decide) ?_
                refine v_cv rfl rfl rfl rfl (by decide) ⟨⟨rfl, rfl⟩, by decide, rfl⟩ (Nat.le_of_ble_eq_true rfl) (Nat.le_of_ble_eq_true rfl) (s_11 hI_19 (q := 13) (nt := 1) (by decide) (by decide) (by decide) (fun c_38 hI_39 hF_40 => ?_))
                refine bk_inl ?_
                refine v_iinc (v := v4 + 1) rfl rfl (by decide) rfl ?_
                refine q_goto (t := 3) rfl (by decide) ?_
                refine Wp_ls [(0, .ref 7), (1, .ref 1), (2, .ref P), (3, vi a4), (4, vi (v4 + 1))] (lsub_cons rfl (lsub_cons rfl (lsub_cons rfl (lsub_cons rfl (lsub_cons rfl lsub_nil))))) ?_
                have kn_41 : Hid (c_38 7 2 = c2 7 2) := (hF_40 7 2 (fun q => q.elim (fun h => absurd h.1 (nn rfl)) (fun q => q.elim (fun h => absurd h.1 (nn rfl)) (fun h => absurd h.1 (nn rfl))))).trans (hid kn_36)
                have h_42 : c_38 7 2 = c2 7 2 := (hid kn_41)
                exact ih c_38 (v4 + 1) hI_39 (fun a j hm => (hF_40 a j (fun q => q.elim (fun h => hm (Or.inl h)) (fun q => q.elim (fun h => hm (Or.inr (Or.inl h))) (fun h => hm (Or.inr (Or.inr (Or.inl h))))))).trans ((hF_20 a j (fun q => q.elim (fun h => hm (Or.inl h)) (fun q => q.elim (fun h => hm (Or.inr (Or.inl h))) (fun h => hm (Or.inr (Or.inr (Or.inl h))))))).trans ((hF_14 a j (fun h => hm (Or.inl h))).trans ((hF_6 a j (fun h => hm (Or.inl h))).trans (hF a j (fun q => q.elim (fun h => hm (Or.inl h)) (fun q => q.elim (fun h => hm (Or.inr (Or.inl h))) (fun q => q.elim (fun h => hm (Or.inr (Or.inr (Or.inl h)))) (fun q => q.elim (fun h => hm (Or.inr (Or.inr (Or.inr (Or.inl h))))) (fun h => hm (Or.inr (Or.inr (Or.inr (Or.inr ⟨h.1, by clear hm; omega⟩)))))))))))))) ⟨by first | exact rgp_l hv4.1 (by decide) | omega, by omega⟩ (by omega) (by omega)
              · refine v_ic_ge_f (t := 117) rfl (by decide) ⟨(Int.le_trans (by decide) h_2.1), (Int.not_le.mp h_37), by decide⟩ ?_
                refine q_aload_n rfl rfl ?_
                refine v_gi (z := 2) (v := c2 7 2) rfl rfl rfl (by decide) rfl rfl (hid kn_36) ?_
                refine q_iconst rfl ?_
                refine v_imul (v := 5 * c2 7 2) rfl (by omega) ?_
                refine q_istore rfl (by decide) ?_
                refine q_aload_n rfl rfl ?_
                refine q_dup rfl rfl ?_
                refine v_gi (z := 2) (v := c2 7 2) rfl rfl rfl (by decide) rfl rfl (hid kn_36) ?_
                refine q_iconst rfl ?_
                refine v_iadd (v := c2 7 2 + 1) rfl rfl ?_
                refine v_pi (z := 2) rfl rfl rfl (by decide) rfl rfl rfl (by decide) ?_
                refine q_aload_n rfl rfl ?_
                refine v_gr (t := 8) rfl rfl rfl (by decide) rfl ?_
                refine q_iload rfl rfl ?_
                refine q_iload rfl rfl ?_
                refine v_is rfl rfl (by decide) (by decide) (by omega) ?_
                refine q_aload_n rfl rfl ?_
                refine q_aload_n rfl rfl ?_
                refine q_aload_n rfl rfl ?_
                refine q_iload rfl rfl ?_
                refine q_iload_n rfl rfl ?_
                have hI_43 := iw_7_2 (v := c2 7 2 + 1) hI_19 ⟨by first | exact rgp_l h_2.1 (by decide) | omega, by omega⟩
                have hI_44 := iw_8 (t := c2 7 2) (j := 5 * c2 7 2) (v := y_21) (iv_open8 hI_43) ⟨by omega, by omega⟩ ⟨by omega, by omega⟩ (by omega)
                have h_45 : (up (up c_18 7 2 (c2 7 2 + 1)) 8 (5 * c2 7 2) y_21) 7 2 = c2 7 2 + 1 := ((up_c (nn rfl)).trans (up_e rfl))
                have h_46 : (up (up c_18 7 2 (c2 7 2 + 1)) 8 (5 * c2 7 2) y_21) 8 (5 * c2 7 2) = y_21 := (up_e rfl)
                have h_47 : (up (up c_18 7 2 (c2 7 2 + 1)) 8 (5 * c2 7 2) y_21) 8 (5 * (c2 7 2)) = y_21 := (congrArg ((up (up c_18 7 2 (c2 7 2 + 1)) 8 (5 * c2 7 2) y_21) 8) (by omega)).trans (up_e rfl)
                refine v_cv rfl rfl rfl rfl (by decide) ⟨⟨rfl, rfl⟩, by decide, rfl⟩ (Nat.le_of_ble_eq_true rfl) (Nat.le_of_ble_eq_true rfl) (s_40 (t := c2 7 2) (a4 := a4) hI_44 (show 0 ≤ c2 7 2 ∧ c2 7 2 ≤ 37 from by omega) (show 0 ≤ a4 ∧ a4 ≤ 6 from ha4) (by omega) (Or.inl (by omega)) H41 (fun c_48 hI_49 hF_50 h_51 => ?_))
                refine bk_inl ?_
                have h_52 := ir_7_2 hI_49
                refine q_aload_n rfl rfl ?_
                refine q_ldc_s rfl rfl rfl (by decide) ?_
                refine v_cv rfl rfl rfl rfl (by decide) ⟨⟨rfl, rfl⟩, by decide, rfl⟩ (Nat.le_of_ble_eq_true rfl) (Nat.le_of_ble_eq_true rfl) (s_11 hI_49 (q := 13) (nt := 1) (by decide) (by decide) (by decide) (fun c_53 hI_54 hF_55 => ?_))
                refine bk_inl ?_
                refine v_iinc (v := v4 + 1) rfl rfl (by decide) rfl ?_
                refine q_goto (t := 3) rfl (by decide) ?_
                refine Wp_ls [(0, .ref 7), (1, .ref 1), (2, .ref P), (3, vi a4), (4, vi (v4 + 1))] (lsub_cons rfl (lsub_cons rfl (lsub_cons rfl (lsub_cons rfl (lsub_cons rfl lsub_nil))))) ?_
                have kn_56 : Hid (c_53 7 2 = c_48 7 2) := hF_55 7 2 (fun q => q.elim (fun h => absurd h.1 (nn rfl)) (fun q => q.elim (fun h => absurd h.1 (nn rfl)) (fun h => absurd h.1 (nn rfl))))
                have h_57 : c_53 7 2 = c_48 7 2 := (hid kn_56)
                exact ih c_53 (v4 + 1) hI_54 (fun a j hm => (hF_55 a j (fun q => q.elim (fun h => hm (Or.inl h)) (fun q => q.elim (fun h => hm (Or.inr (Or.inl h))) (fun h => hm (Or.inr (Or.inr (Or.inl h))))))).trans ((hF_50 a j (fun q => q.elim (fun h => hm (Or.inl h)) (fun q => q.elim (fun h => hm (Or.inr (Or.inl h))) (fun q => q.elim (fun h => hm (Or.inr (Or.inr (Or.inl h)))) (fun q => q.elim (fun h => hm (Or.inr (Or.inr (Or.inr (Or.inl h))))) (fun h => hm (Or.inr (Or.inr (Or.inr (Or.inr ⟨h.1, by clear hm; omega⟩)))))))))).trans ((up_b (Decidable.or_iff_not_imp_left.mpr (fun h1 h2 => hm (Or.inr (Or.inr (Or.inr (Or.inr ⟨Decidable.not_not.mp h1, by clear hm; omega⟩))))))).trans ((up_b (Decidable.or_iff_not_imp_left.mpr (fun h1 h2 => hm (Or.inr (Or.inr (Or.inr (Or.inl ⟨Decidable.not_not.mp h1, h2⟩))))))).trans ((hF_20 a j (fun q => q.elim (fun h => hm (Or.inl h)) (fun q => q.elim (fun h => hm (Or.inr (Or.inl h))) (fun h => hm (Or.inr (Or.inr (Or.inl h))))))).trans ((hF_14 a j (fun h => hm (Or.inl h))).trans ((hF_6 a j (fun h => hm (Or.inl h))).trans (hF a j (fun q => q.elim (fun h => hm (Or.inl h)) (fun q => q.elim (fun h => hm (Or.inr (Or.inl h))) (fun q => q.elim (fun h => hm (Or.inr (Or.inr (Or.inl h)))) (fun q => q.elim (fun h => hm (Or.inr (Or.inr (Or.inr (Or.inl h))))) (fun h => hm (Or.inr (Or.inr (Or.inr (Or.inr ⟨h.1, by clear hm; omega⟩))))))))))))))))) ⟨by first | exact rgp_l hv4.1 (by decide) | omega, by omega⟩ (by omega) (by omega)
          · refine v_ic_ne_f (t := 65) rfl (by decide) (Decidable.not_not.mp h_24) ?_
            refine q_iload_n rfl rfl ?_
            refine v_bip rfl (by decide) ?_
            refine v_ic_lt_t (t := 65) rfl (by decide) ⟨(Int.le_trans (by decide) ha4.1), by omega, by decide⟩ ?_
            refine q_aload_n rfl rfl ?_
            refine v_cv rfl rfl rfl rfl (by decide) ⟨⟨rfl, rfl⟩, by decide, rfl⟩ (Nat.le_of_ble_eq_true rfl) (Nat.le_of_ble_eq_true rfl) ?_
            refine q_aload_n rfl rfl ?_
            refine v_gi (z := 4) (v := c_18 1 4) rfl rfl rfl (by decide) rfl rfl rfl ?_
            by_cases h_58 : c_18 1 4 ≠ 0
            · refine v_if_ne_t (t := 11) rfl (by decide) ⟨h_58, ⟨(Int.le_trans (by decide) h_23.1), (Int.le_trans h_23.2 (by decide))⟩, by decide, by decide⟩ ?_
              refine q_iconst rfl ?_
              refine v_zret rfl rfl (by decide) ?_
              refine bk_inl ?_
              refine v_if_eq_t (t := 117) rfl (by decide) (by decide) ?_
              refine q_aload_n rfl rfl ?_
              refine q_ldc_s rfl rfl rfl (by decide) ?_
              refine v_cv rfl rfl rfl rfl (by decide) ⟨⟨rfl, rfl⟩, by decide, rfl⟩ (Nat.le_of_ble_eq_true rfl) (Nat.le_of_ble_eq_true rfl) (s_11 hI_19 (q := 13) (nt := 1) (by decide) (by decide) (by decide) (fun c_59 hI_60 hF_61 => ?_))
              refine bk_inl ?_
              refine v_iinc (v := v4 + 1) rfl rfl (by decide) rfl ?_
              refine q_goto (t := 3) rfl (by decide) ?_
              refine Wp_ls [(0, .ref 7), (1, .ref 1), (2, .ref P), (3, vi a4), (4, vi (v4 + 1))] (lsub_cons rfl (lsub_cons rfl (lsub_cons rfl (lsub_cons rfl (lsub_cons rfl lsub_nil))))) ?_
              have kn_62 : Hid (c_4 7 2 = c2 7 2) := hF_6 7 2 (fun h => absurd h.1 (nn rfl))
              have kn_63 : Hid (c_12 7 2 = c2 7 2) := (hF_14 7 2 (fun h => absurd h.1 (nn rfl))).trans (hid kn_62)
              have kn_64 : Hid (c_18 7 2 = c2 7 2) := (hF_20 7 2 (fun q => q.elim (fun h => absurd h.1 (nn rfl)) (fun q => q.elim (fun h => absurd h.1 (nn rfl)) (fun h => absurd h.1 (nn rfl))))).trans (hid kn_63)
              have kn_65 : Hid (c_59 7 2 = c2 7 2) := (hF_61 7 2 (fun q => q.elim (fun h => absurd h.1 (nn rfl)) (fun q => q.elim (fun h => absurd h.1 (nn rfl)) (fun h => absurd h.1 (nn rfl))))).trans (hid kn_64)
              have h_66 : c_59 7 2 = c2 7 2 := (hid kn_65)
              exact ih c_59 (v4 + 1) hI_60 (fun a j hm => (hF_61 a j (fun q => q.elim (fun h => hm (Or.inl h)) (fun q => q.elim (fun h => hm (Or.inr (Or.inl h))) (fun h => hm (Or.inr (Or.inr (Or.inl h))))))).trans ((hF_20 a j (fun q => q.elim (fun h => hm (Or.inl h)) (fun q => q.elim (fun h => hm (Or.inr (Or.inl h))) (fun h => hm (Or.inr (Or.inr (Or.inl h))))))).trans ((hF_14 a j (fun h => hm (Or.inl h))).trans ((hF_6 a j (fun h => hm (Or.inl h))).trans (hF a j (fun q => q.elim (fun h => hm (Or.inl h)) (fun q => q.elim (fun h => hm (Or.inr (Or.inl h))) (fun q => q.elim (fun h => hm (Or.inr (Or.inr (Or.inl h)))) (fun q => q.elim (fun h => hm (Or.inr (Or.inr (Or.inr (Or.inl h))))) (fun h => hm (Or.inr (Or.inr (Or.inr (Or.inr ⟨h.1, by clear hm; omega⟩)))))))))))))) ⟨by first | exact rgp_l hv4.1 (by decide) | omega, by omega⟩ (by omega) (by omega)
            · refine v_if_ne_f (t := 11) rfl (by decide) (Decidable.not_not.mp h_58) ?_
              refine q_iconst rfl ?_
              refine q_goto (t := 12) rfl (by decide) ?_
              refine v_zret rfl rfl (by decide) ?_
              refine bk_inl ?_
              refine v_if_eq_f (t := 117) rfl (by decide) (by decide) ?_
              refine q_aload_n rfl rfl ?_
              have kn_67 : Hid (c_4 7 2 = c2 7 2) := hF_6 7 2 (fun h => absurd h.1 (nn rfl))
              have kn_68 : Hid (c_12 7 2 = c2 7 2) := (hF_14 7 2 (fun h => absurd h.1 (nn rfl))).trans (hid kn_67)
              have kn_69 : Hid (c_18 7 2 = c2 7 2) := (hF_20 7 2 (fun q => q.elim (fun h => absurd h.1 (nn rfl)) (fun q => q.elim (fun h => absurd h.1 (nn rfl)) (fun h => absurd h.1 (nn rfl))))).trans (hid kn_68)
              refine v_gi (z := 2) (v := c2 7 2) rfl rfl rfl (by decide) rfl rfl (hid kn_69) ?_
              refine v_bip rfl (by decide) ?_
              by_cases h_70 : c2 7 2 ≥ 38
              · refine v_ic_ge_t (t := 117) rfl (by decide) ⟨by decide, h_70, (Int.le_trans h_2.2 (by decide))⟩ ?_
                refine q_aload_n rfl rfl ?_
                refine q_ldc_s rfl rfl rfl (by decide) ?_
                refine v_cv rfl rfl rfl rfl (by decide) ⟨⟨rfl, rfl⟩, by decide, rfl⟩ (Nat.le_of_ble_eq_true rfl) (Nat.le_of_ble_eq_true rfl) (s_11 hI_19 (q := 13) (nt := 1) (by decide) (by decide) (by decide) (fun c_71 hI_72 hF_73 => ?_))
                refine bk_inl ?_
                refine v_iinc (v := v4 + 1) rfl rfl (by decide) rfl ?_
                refine q_goto (t := 3) rfl (by decide) ?_
                refine Wp_ls [(0, .ref 7), (1, .ref 1), (2, .ref P), (3, vi a4), (4, vi (v4 + 1))] (lsub_cons rfl (lsub_cons rfl (lsub_cons rfl (lsub_cons rfl (lsub_cons rfl lsub_nil))))) ?_
                have kn_74 : Hid (c_71 7 2 = c2 7 2) := (hF_73 7 2 (fun q => q.elim (fun h => absurd h.1 (nn rfl)) (fun q => q.elim (fun h => absurd h.1 (nn rfl)) (fun h => absurd h.1 (nn rfl))))).trans (hid kn_69)
                have h_75 : c_71 7 2 = c2 7 2 := (hid kn_74)
                exact ih c_71 (v4 + 1) hI_72 (fun a j hm => (hF_73 a j (fun q => q.elim (fun h => hm (Or.inl h)) (fun q => q.elim (fun h => hm (Or.inr (Or.inl h))) (fun h => hm (Or.inr (Or.inr (Or.inl h))))))).trans ((hF_20 a j (fun q => q.elim (fun h => hm (Or.inl h)) (fun q => q.elim (fun h => hm (Or.inr (Or.inl h))) (fun h => hm (Or.inr (Or.inr (Or.inl h))))))).trans ((hF_14 a j (fun h => hm (Or.inl h))).trans ((hF_6 a j (fun h => hm (Or.inl h))).trans (hF a j (fun q => q.elim (fun h => hm (Or.inl h)) (fun q => q.elim (fun h => hm (Or.inr (Or.inl h))) (fun q => q.elim (fun h => hm (Or.inr (Or.inr (Or.inl h)))) (fun q => q.elim (fun h => hm (Or.inr (Or.inr (Or.inr (Or.inl h))))) (fun h => hm (Or.inr (Or.inr (Or.inr (Or.inr ⟨h.1, by clear hm; omega⟩)))))))))))))) ⟨by first | exact rgp_l hv4.1 (by decide) | omega, by omega⟩ (by omega) (by omega)
              · refine v_ic_ge_f (t := 117) rfl (by decide) ⟨(Int.le_trans (by decide) h_2.1), (Int.not_le.mp h_70), by decide⟩ ?_
                refine q_aload_n rfl rfl ?_
                refine v_gi (z := 2) (v := c2 7 2) rfl rfl rfl (by decide) rfl rfl (hid kn_69) ?_
                refine q_iconst rfl ?_
                refine v_imul (v := 5 * c2 7 2) rfl (by omega) ?_
                refine q_istore rfl (by decide) ?_
                refine q_aload_n rfl rfl ?_
                refine q_dup rfl rfl ?_
                refine v_gi (z := 2) (v := c2 7 2) rfl rfl rfl (by decide) rfl rfl (hid kn_69) ?_
                refine q_iconst rfl ?_
                refine v_iadd (v := c2 7 2 + 1) rfl rfl ?_
                refine v_pi (z := 2) rfl rfl rfl (by decide) rfl rfl rfl (by decide) ?_
                refine q_aload_n rfl rfl ?_
                refine v_gr (t := 8) rfl rfl rfl (by decide) rfl ?_
                refine q_iload rfl rfl ?_
                refine q_iload rfl rfl ?_
                refine v_is rfl rfl (by decide) (by decide) (by omega) ?_
                refine q_aload_n rfl rfl ?_
                refine q_aload_n rfl rfl ?_
                refine q_aload_n rfl rfl ?_
                refine q_iload rfl rfl ?_
                refine q_iload_n rfl rfl ?_
                have hI_76 := iw_7_2 (v := c2 7 2 + 1) hI_19 ⟨by first | exact rgp_l h_2.1 (by decide) | omega, by omega⟩
                have hI_77 := iw_8 (t := c2 7 2) (j := 5 * c2 7 2) (v := y_21) (iv_open8 hI_76) ⟨by omega, by omega⟩ ⟨by omega, by omega⟩ (by omega)
                have h_78 : (up (up c_18 7 2 (c2 7 2 + 1)) 8 (5 * c2 7 2) y_21) 7 2 = c2 7 2 + 1 := ((up_c (nn rfl)).trans (up_e rfl))
                have h_79 : (up (up c_18 7 2 (c2 7 2 + 1)) 8 (5 * c2 7 2) y_21) 8 (5 * c2 7 2) = y_21 := (up_e rfl)
                have h_80 : (up (up c_18 7 2 (c2 7 2 + 1)) 8 (5 * c2 7 2) y_21) 8 (5 * (c2 7 2)) = y_21 := (congrArg ((up (up c_18 7 2 (c2 7 2 + 1)) 8 (5 * c2 7 2) y_21) 8) (by omega)).trans (up_e rfl)
                refine v_cv rfl rfl rfl rfl (by decide) ⟨⟨rfl, rfl⟩, by decide, rfl⟩ (Nat.le_of_ble_eq_true rfl) (Nat.le_of_ble_eq_true rfl) (s_40 (t := c2 7 2) (a4 := a4) hI_77 (show 0 ≤ c2 7 2 ∧ c2 7 2 ≤ 37 from by omega) (show 0 ≤ a4 ∧ a4 ≤ 6 from ha4) (by omega) (Or.inl (by omega)) H41 (fun c_81 hI_82 hF_83 h_84 => ?_))
                refine bk_inl ?_
                have h_85 := ir_7_2 hI_82
                refine q_aload_n rfl rfl ?_
                refine q_ldc_s rfl rfl rfl (by decide) ?_
                refine v_cv rfl rfl rfl rfl (by decide) ⟨⟨rfl, rfl⟩, by decide, rfl⟩ (Nat.le_of_ble_eq_true rfl) (Nat.le_of_ble_eq_true rfl) (s_11 hI_82 (q := 13) (nt := 1) (by decide) (by decide) (by decide) (fun c_86 hI_87 hF_88 => ?_))
                refine bk_inl ?_
                refine v_iinc (v := v4 + 1) rfl rfl (by decide) rfl ?_
                refine q_goto (t := 3) rfl (by decide) ?_
                refine Wp_ls [(0, .ref 7), (1, .ref 1), (2, .ref P), (3, vi a4), (4, vi (v4 + 1))] (lsub_cons rfl (lsub_cons rfl (lsub_cons rfl (lsub_cons rfl (lsub_cons rfl lsub_nil))))) ?_
                have kn_89 : Hid (c_86 7 2 = c_81 7 2) := hF_88 7 2 (fun q => q.elim (fun h => absurd h.1 (nn rfl)) (fun q => q.elim (fun h => absurd h.1 (nn rfl)) (fun h => absurd h.1 (nn rfl))))
                have h_90 : c_86 7 2 = c_81 7 2 := (hid kn_89)
                exact ih c_86 (v4 + 1) hI_87 (fun a j hm => (hF_88 a j (fun q => q.elim (fun h => hm (Or.inl h)) (fun q => q.elim (fun h => hm (Or.inr (Or.inl h))) (fun h => hm (Or.inr (Or.inr (Or.inl h))))))).trans ((hF_83 a j (fun q => q.elim (fun h => hm (Or.inl h)) (fun q => q.elim (fun h => hm (Or.inr (Or.inl h))) (fun q => q.elim (fun h => hm (Or.inr (Or.inr (Or.inl h)))) (fun q => q.elim (fun h => hm (Or.inr (Or.inr (Or.inr (Or.inl h))))) (fun h => hm (Or.inr (Or.inr (Or.inr (Or.inr ⟨h.1, by clear hm; omega⟩)))))))))).trans ((up_b (Decidable.or_iff_not_imp_left.mpr (fun h1 h2 => hm (Or.inr (Or.inr (Or.inr (Or.inr ⟨Decidable.not_not.mp h1, by clear hm; omega⟩))))))).trans ((up_b (Decidable.or_iff_not_imp_left.mpr (fun h1 h2 => hm (Or.inr (Or.inr (Or.inr (Or.inl ⟨Decidable.not_not.mp h1, h2⟩))))))).trans ((hF_20 a j (fun q => q.elim (fun h => hm (Or.inl h)) (fun q => q.elim (fun h => hm (Or.inr (Or.inl h))) (fun h => hm (Or.inr (Or.inr (Or.inl h))))))).trans ((hF_14 a j (fun h => hm (Or.inl h))).trans ((hF_6 a j (fun h => hm (Or.inl h))).trans (hF a j (fun q => q.elim (fun h => hm (Or.inl h)) (fun q => q.elim (fun h => hm (Or.inr (Or.inl h))) (fun q => q.elim (fun h => hm (Or.inr (Or.inr (Or.inl h)))) (fun q => q.elim (fun h => hm (Or.inr (Or.inr (Or.inr (Or.inl h))))) (fun h => hm (Or.inr (Or.inr (Or.inr (Or.inr ⟨h.1, by clear hm; omega⟩))))))))))))))))) ⟨by first | exact rgp_l hv4.1 (by decide) | omega, by omega⟩ (by omega) (by omega)
        · refine v_if_le_f (t := 31) rfl (by decide) ⟨by decide, (Int.not_le.mp h_11), (Int.le_trans ha4.2 (by decide))⟩ ?_
          refine q_aload_n rfl rfl ?_
          refine v_cv rfl rfl rfl rfl (by decide) ⟨⟨rfl, rfl⟩, by decide, rfl⟩ (Nat.le_of_ble_eq_true rfl) (Nat.le_of_ble_eq_true rfl) (s_39 hI_5 (fun c_91 y_94 hI_92 hF_93 hy_94 => ?_))
          refine bk_inl ?_
          refine v_bip rfl (by decide) ?_
          by_cases h_95 : y_94 ≠ 93
          · refine v_ic_ne_t (t := 31) rfl (by decide) ⟨h_95, ⟨(Int.le_trans (by decide) hy_94.1), (Int.le_trans hy_94.2 (by decide))⟩, by decide, by decide⟩ ?_
            refine q_aload_n rfl rfl ?_
            refine v_cv rfl rfl rfl rfl (by decide) ⟨⟨rfl, rfl⟩, by decide, rfl⟩ (Nat.le_of_ble_eq_true rfl) (Nat.le_of_ble_eq_true rfl) (s_3 hI_92 (fun c_96 y_99 hI_97 hF_98 hy_99 h_100 => ?_))
            refine bk_inl ?_
            have h_101 := ir_1_2 hI_97
            refine q_istore rfl (by decide) ?_
            refine q_aload_n rfl rfl ?_
            refine q_ldc_s rfl rfl rfl (by decide) ?_
            refine v_cv rfl rfl rfl rfl (by decide) ⟨⟨rfl, rfl⟩, by decide, rfl⟩ (Nat.le_of_ble_eq_true rfl) (Nat.le_of_ble_eq_true rfl) (s_10 hI_97 (q := 10) (nt := 41) (by decide) (by decide) (by decide) (fun c_102 y_105 hI_103 hF_104 hy_105 h_106 => ?_))
            refine bk_inl ?_
            have h_107 := ir_1_4 hI_103
            refine q_istore rfl (by decide) ?_
            refine q_iload rfl rfl ?_
            refine v_bip rfl (by decide) ?_
            by_cases h_108 : y_105 ≠ 7
            · refine v_ic_ne_t (t := 65) rfl (by decide) ⟨h_108, ⟨(Int.le_trans (by decide) hy_105.1), (Int.le_trans hy_105.2 (by decide))⟩, by decide, by decide⟩ ?_
              refine q_aload_n rfl rfl ?_
              refine v_cv rfl rfl rfl rfl (by decide) ⟨⟨rfl, rfl⟩, by decide, rfl⟩ (Nat.le_of_ble_eq_true rfl) (Nat.le_of_ble_eq_true rfl) ?_
              refine q_aload_n rfl rfl ?_
              refine v_gi (z := 4) (v := c_102 1 4) rfl rfl rfl (by decide) rfl rfl rfl ?_
              by_cases h_109 : c_102 1 4 ≠ 0
              · refine v_if_ne_t (t := 11) rfl (by decide) ⟨h_109, ⟨(Int.le_trans (by decide) h_107.1), (Int.le_trans h_107.2 (by decide))⟩, by decide, by decide⟩ ?_
                refine q_iconst rfl ?_
                refine v_zret rfl rfl (by decide) ?_
                refine bk_inl ?_
                refine v_if_eq_t (t := 117) rfl (by decide) (by decide) ?_
                refine q_aload_n rfl rfl ?_
                refine q_ldc_s rfl rfl rfl (by decide) ?_
                refine v_cv rfl rfl rfl rfl (by decide) ⟨⟨rfl, rfl⟩, by decide, rfl⟩ (Nat.le_of_ble_eq_true rfl) (Nat.le_of_ble_eq_true rfl) (s_11 hI_103 (q := 13) (nt := 1) (by decide) (by decide) (by decide) (fun c_110 hI_111 hF_112 => ?_))
                refine bk_inl ?_
                refine v_iinc (v := v4 + 1) rfl rfl (by decide) rfl ?_
                refine q_goto (t := 3) rfl (by decide) ?_
                refine Wp_ls [(0, .ref 7), (1, .ref 1), (2, .ref P), (3, vi a4), (4, vi (v4 + 1))] (lsub_cons rfl (lsub_cons rfl (lsub_cons rfl (lsub_cons rfl (lsub_cons rfl lsub_nil))))) ?_
                have kn_113 : Hid (c_4 7 2 = c2 7 2) := hF_6 7 2 (fun h => absurd h.1 (nn rfl))
                have kn_114 : Hid (c_91 7 2 = c2 7 2) := (hF_93 7 2 (fun h => absurd h.1 (nn rfl))).trans (hid kn_113)
                have kn_115 : Hid (c_96 7 2 = c2 7 2) := (hF_98 7 2 (fun h => absurd h.1 (nn rfl))).trans (hid kn_114)
                have kn_116 : Hid (c_102 7 2 = c2 7 2) := (hF_104 7 2 (fun q => q.elim (fun h => absurd h.1 (nn rfl)) (fun q => q.elim (fun h => absurd h.1 (nn rfl)) (fun h => absurd h.1 (nn rfl))))).trans (hid kn_115)
                have kn_117 : Hid (c_110 7 2 = c2 7 2) := (hF_112 7 2 (fun q => q.elim (fun h => absurd h.1 (nn rfl)) (fun q => q.elim (fun h => absurd h.1 (nn rfl)) (fun h => absurd h.1 (nn rfl))))).trans (hid kn_116)
                have h_118 : c_110 7 2 = c2 7 2 := (hid kn_117)
                exact ih c_110 (v4 + 1) hI_111 (fun a j hm => (hF_112 a j (fun q => q.elim (fun h => hm (Or.inl h)) (fun q => q.elim (fun h => hm (Or.inr (Or.inl h))) (fun h => hm (Or.inr (Or.inr (Or.inl h))))))).trans ((hF_104 a j (fun q => q.elim (fun h => hm (Or.inl h)) (fun q => q.elim (fun h => hm (Or.inr (Or.inl h))) (fun h => hm (Or.inr (Or.inr (Or.inl h))))))).trans ((hF_98 a j (fun h => hm (Or.inl h))).trans ((hF_93 a j (fun h => hm (Or.inl h))).trans ((hF_6 a j (fun h => hm (Or.inl h))).trans (hF a j (fun q => q.elim (fun h => hm (Or.inl h)) (fun q => q.elim (fun h => hm (Or.inr (Or.inl h))) (fun q => q.elim (fun h => hm (Or.inr (Or.inr (Or.inl h)))) (fun q => q.elim (fun h => hm (Or.inr (Or.inr (Or.inr (Or.inl h))))) (fun h => hm (Or.inr (Or.inr (Or.inr (Or.inr ⟨h.1, by clear hm; omega⟩))))))))))))))) ⟨by first | exact rgp_l hv4.1 (by decide) | omega, by omega⟩ (by omega) (by omega)
              · refine v_if_ne_f (t := 11) rfl (by decide) (Decidable.not_not.mp h_109) ?_
                refine q_iconst rfl ?_
                refine q_goto (t := 12) rfl (by decide) ?_
                refine v_zret rfl rfl (by decide) ?_
                refine bk_inl ?_
                refine v_if_eq_f (t := 117) rfl (by decide) (by decide) ?_
                refine q_aload_n rfl rfl ?_
                have kn_119 : Hid (c_4 7 2 = c2 7 2) := hF_6 7 2 (fun h => absurd h.1 (nn rfl))
                have kn_120 : Hid (c_91 7 2 = c2 7 2) := (hF_93 7 2 (fun h => absurd h.1 (nn rfl))).trans (hid kn_119)
                have kn_121 : Hid (c_96 7 2 = c2 7 2) := (hF_98 7 2 (fun h => absurd h.1 (nn rfl))).trans (hid kn_120)
                have kn_122 : Hid (c_102 7 2 = c2 7 2) := (hF_104 7 2 (fun q => q.elim (fun h => absurd h.1 (nn rfl)) (fun q => q.elim (fun h => absurd h.1 (nn rfl)) (fun h => absurd h.1 (nn rfl))))).trans (hid kn_121)
                refine v_gi (z := 2) (v := c2 7 2) rfl rfl rfl (by decide) rfl rfl (hid kn_122) ?_
                refine v_bip rfl (by decide) ?_
                by_cases h_123 : c2 7 2 ≥ 38
                · refine v_ic_ge_t (t := 117) rfl (by decide) ⟨by decide, h_123, (Int.le_trans h_2.2 (by decide))⟩ ?_
                  refine q_aload_n rfl rfl ?_
                  refine q_ldc_s rfl rfl rfl (by decide) ?_
                  refine v_cv rfl rfl rfl rfl (by decide) ⟨⟨rfl, rfl⟩, by decide, rfl⟩ (Nat.le_of_ble_eq_true rfl) (Nat.le_of_ble_eq_true rfl) (s_11 hI_103 (q := 13) (nt := 1) (by decide) (by decide) (by decide) (fun c_124 hI_125 hF_126 => ?_))
                  refine bk_inl ?_
                  refine v_iinc (v := v4 + 1) rfl rfl (by decide) rfl ?_
                  refine q_goto (t := 3) rfl (by decide) ?_
                  refine Wp_ls [(0, .ref 7), (1, .ref 1), (2, .ref P), (3, vi a4), (4, vi (v4 + 1))] (lsub_cons rfl (lsub_cons rfl (lsub_cons rfl (lsub_cons rfl (lsub_cons rfl lsub_nil))))) ?_
                  have kn_127 : Hid (c_124 7 2 = c2 7 2) := (hF_126 7 2 (fun q => q.elim (fun h => absurd h.1 (nn rfl)) (fun q => q.elim (fun h => absurd h.1 (nn rfl)) (fun h => absurd h.1 (nn rfl))))).trans (hid kn_122)
                  have h_128 : c_124 7 2 = c2 7 2 := (hid kn_127)
                  exact ih c_124 (v4 + 1) hI_125 (fun a j hm => (hF_126 a j (fun q => q.elim (fun h => hm (Or.inl h)) (fun q => q.elim (fun h => hm (Or.inr (Or.inl h))) (fun h => hm (Or.inr (Or.inr (Or.inl h))))))).trans ((hF_104 a j (fun q => q.elim (fun h => hm (Or.inl h)) (fun q => q.elim (fun h => hm (Or.inr (Or.inl h))) (fun h => hm (Or.inr (Or.inr (Or.inl h))))))).trans ((hF_98 a j (fun h => hm (Or.inl h))).trans ((hF_93 a j (fun h => hm (Or.inl h))).trans ((hF_6 a j (fun h => hm (Or.inl h))).trans (hF a j (fun q => q.elim (fun h => hm (Or.inl h)) (fun q => q.elim (fun h => hm (Or.inr (Or.inl h))) (fun q => q.elim (fun h => hm (Or.inr (Or.inr (Or.inl h)))) (fun q => q.elim (fun h => hm (Or.inr (Or.inr (Or.inr (Or.inl h))))) (fun h => hm (Or.inr (Or.inr (Or.inr (Or.inr ⟨h.1, by clear hm; omega⟩))))))))))))))) ⟨by first | exact rgp_l hv4.1 (by decide) | omega, by omega⟩ (by omega) (by omega)
                · refine v_ic_ge_f (t := 117) rfl (by decide) ⟨(Int.le_trans (by decide) h_2.1), (Int.not_le.mp h_123), by decide⟩ ?_
                  refine q_aload_n rfl rfl ?_
                  refine v_gi (z := 2) (v := c2 7 2) rfl rfl rfl (by decide) rfl rfl (hid kn_122) ?_
                  refine q_iconst rfl ?_
                  refine v_imul (v := 5 * c2 7 2) rfl (by omega) ?_
                  refine q_istore rfl (by decide) ?_
                  refine q_aload_n rfl rfl ?_
                  refine q_dup rfl rfl ?_
                  refine v_gi (z := 2) (v := c2 7 2) rfl rfl rfl (by decide) rfl rfl (hid kn_122) ?_
                  refine q_iconst rfl ?_
                  refine v_iadd (v := c2 7 2 + 1) rfl rfl ?_
                  refine v_pi (z := 2) rfl rfl rfl (by decide) rfl rfl rfl (by decide) ?_
                  refine q_aload_n rfl rfl ?_
                  refine v_gr (t := 8) rfl rfl rfl (by decide) rfl ?_
                  refine q_iload rfl rfl ?_
                  refine q_iload rfl rfl ?_
                  refine v_is rfl rfl (by decide) (by decide) (by omega) ?_
                  refine q_aload_n rfl rfl ?_
                  refine q_aload_n rfl rfl ?_
                  refine q_aload_n rfl rfl ?_
                  refine q_iload rfl rfl ?_
                  refine q_iload_n rfl rfl ?_
                  have hI_129 := iw_7_2 (v := c2 7 2 + 1) hI_103 ⟨by first | exact rgp_l h_2.1 (by decide) | omega, by omega⟩
                  have hI_130 := iw_8 (t := c2 7 2) (j := 5 * c2 7 2) (v := y_105) (iv_open8 hI_129) ⟨by omega, by omega⟩ ⟨by omega, by omega⟩ (by omega)
                  have h_131 : (up (up c_102 7 2 (c2 7 2 + 1)) 8 (5 * c2 7 2) y_105) 7 2 = c2 7 2 + 1 := ((up_c (nn rfl)).trans (up_e rfl))
                  have h_132 : (up (up c_102 7 2 (c2 7 2 + 1)) 8 (5 * c2 7 2) y_105) 8 (5 * c2 7 2) = y_105 := (up_e rfl)
                  have h_133 : (up (up c_102 7 2 (c2 7 2 + 1)) 8 (5 * c2 7 2) y_105) 8 (5 * (c2 7 2)) = y_105 := (congrArg ((up (up c_102 7 2 (c2 7 2 + 1)) 8 (5 * c2 7 2) y_105) 8) (by omega)).trans (up_e rfl)
                  refine v_cv rfl rfl rfl rfl (by decide) ⟨⟨rfl, rfl⟩, by decide, rfl⟩ (Nat.le_of_ble_eq_true rfl) (Nat.le_of_ble_eq_true rfl) (s_40 (t := c2 7 2) (a4 := a4) hI_130 (show 0 ≤ c2 7 2 ∧ c2 7 2 ≤ 37 from by omega) (show 0 ≤ a4 ∧ a4 ≤ 6 from ha4) (by omega) (by omega) H41 (fun c_134 hI_135 hF_136 h_137 => ?_))
                  refine bk_inl ?_
                  have h_138 := ir_7_2 hI_135
                  refine q_aload_n rfl rfl ?_
                  refine q_ldc_s rfl rfl rfl (by decide) ?_
                  refine v_cv rfl rfl rfl rfl (by decide) ⟨⟨rfl, rfl⟩, by decide, rfl⟩ (Nat.le_of_ble_eq_true rfl) (Nat.le_of_ble_eq_true rfl) (s_11 hI_135 (q := 13) (nt := 1) (by decide) (by decide) (by decide) (fun c_139 hI_140 hF_141 => ?_))
                  refine bk_inl ?_
                  refine v_iinc (v := v4 + 1) rfl rfl (by decide) rfl ?_
                  refine q_goto (t := 3) rfl (by decide) ?_
                  refine Wp_ls [(0, .ref 7), (1, .ref 1), (2, .ref P), (3, vi a4), (4, vi (v4 + 1))] (lsub_cons rfl (lsub_cons rfl (lsub_cons rfl (lsub_cons rfl (lsub_cons rfl lsub_nil))))) ?_
                  have kn_142 : Hid (c_139 7 2 = c_134 7 2) := hF_141 7 2 (fun q => q.elim (fun h => absurd h.1 (nn rfl)) (fun q => q.elim (fun h => absurd h.1 (nn rfl)) (fun h => absurd h.1 (nn rfl))))
                  have h_143 : c_139 7 2 = c_134 7 2 := (hid kn_142)
                  exact ih c_139 (v4 + 1) hI_140 (fun a j hm => (hF_141 a j (fun q => q.elim (fun h => hm (Or.inl h)) (fun q => q.elim (fun h => hm (Or.inr (Or.inl h))) (fun h => hm (Or.inr (Or.inr (Or.inl h))))))).trans ((hF_136 a j (fun q => q.elim (fun h => hm (Or.inl h)) (fun q => q.elim (fun h => hm (Or.inr (Or.inl h))) (fun q => q.elim (fun h => hm (Or.inr (Or.inr (Or.inl h)))) (fun q => q.elim (fun h => hm (Or.inr (Or.inr (Or.inr (Or.inl h))))) (fun h => hm (Or.inr (Or.inr (Or.inr (Or.inr ⟨h.1, by clear hm; omega⟩)))))))))).trans ((up_b (Decidable.or_iff_not_imp_left.mpr (fun h1 h2 => hm (Or.inr (Or.inr (Or.inr (Or.inr ⟨Decidable.not_not.mp h1, by clear hm; omega⟩))))))).trans ((up_b (Decidable.or_iff_not_imp_left.mpr (fun h1 h2 => hm (Or.inr (Or.inr (Or.inr (Or.inl ⟨Decidable.not_not.mp h1, h2⟩))))))).trans ((hF_104 a j (fun q => q.elim (fun h => hm (Or.inl h)) (fun q => q.elim (fun h => hm (Or.inr (Or.inl h))) (fun h => hm (Or.inr (Or.inr (Or.inl h))))))).trans ((hF_98 a j (fun h => hm (Or.inl h))).trans ((hF_93 a j (fun h => hm (Or.inl h))).trans ((hF_6 a j (fun h => hm (Or.inl h))).trans (hF a j (fun q => q.elim (fun h => hm (Or.inl h)) (fun q => q.elim (fun h => hm (Or.inr (Or.inl h))) (fun q => q.elim (fun h => hm (Or.inr (Or.inr (Or.inl h)))) (fun q => q.elim (fun h => hm (Or.inr (Or.inr (Or.inr (Or.inl h))))) (fun h => hm (Or.inr (Or.inr (Or.inr (Or.inr ⟨h.1, by clear hm; omega⟩)))))))))))))))))) ⟨by first | exact rgp_l hv4.1 (by decide) | omega, by omega⟩ (by omega) (by omega)
            · refine v_ic_ne_f (t := 65) rfl (by decide) (Decidable.not_not.mp h_108) ?_
              refine q_iload_n rfl rfl ?_
              refine v_bip rfl (by decide) ?_
              by_cases h_144 : a4 < 6
              · refine v_ic_lt_t (t := 65) rfl (by decide) ⟨(Int.le_trans (by decide) ha4.1), h_144, by decide⟩ ?_
                refine q_aload_n rfl rfl ?_
                refine v_cv rfl rfl rfl rfl (by decide) ⟨⟨rfl, rfl⟩, by decide, rfl⟩ (Nat.le_of_ble_eq_true rfl) (Nat.le_of_ble_eq_true rfl) ?_
                refine q_aload_n rfl rfl ?_
                refine v_gi (z := 4) (v := c_102 1 4) rfl rfl rfl (by decide) rfl rfl rfl ?_
                by_cases h_145 : c_102 1 4 ≠ 0
                · refine v_if_ne_t (t := 11) rfl (by decide) ⟨h_145, ⟨(Int.le_trans (by decide) h_107.1), (Int.le_trans h_107.2 (by decide))⟩, by decide, by decide⟩ ?_
                  refine q_iconst rfl ?_
                  refine v_zret rfl rfl (by decide) ?_
                  refine bk_inl ?_
                  refine v_if_eq_t (t := 117) rfl (by decide) (by decide) ?_
                  refine q_aload_n rfl rfl ?_
                  refine q_ldc_s rfl rfl rfl (by decide) ?_
                  refine v_cv rfl rfl rfl rfl (by decide) ⟨⟨rfl, rfl⟩, by decide, rfl⟩ (Nat.le_of_ble_eq_true rfl) (Nat.le_of_ble_eq_true rfl) (s_11 hI_103 (q := 13) (nt := 1) (by decide) (by decide) (by decide) (fun c_146 hI_147 hF_148 => ?_))
                  refine bk_inl ?_
                  refine v_iinc (v := v4 + 1) rfl rfl (by decide) rfl ?_
                  refine q_goto (t := 3) rfl (by decide) ?_
                  refine Wp_ls [(0, .ref 7), (1, .ref 1), (2, .ref P), (3, vi a4), (4, vi (v4 + 1))] (lsub_cons rfl (lsub_cons rfl (lsub_cons rfl (lsub_cons rfl (lsub_cons rfl lsub_nil))))) ?_
                  have kn_149 : Hid (c_4 7 2 = c2 7 2) := hF_6 7 2 (fun h => absurd h.1 (nn rfl))
                  have kn_150 : Hid (c_91 7 2 = c2 7 2) := (hF_93 7 2 (fun h => absurd h.1 (nn rfl))).trans (hid kn_149)
                  have kn_151 : Hid (c_96 7 2 = c2 7 2) := (hF_98 7 2 (fun h => absurd h.1 (nn rfl))).trans (hid kn_150)
                  have kn_152 : Hid (c_102 7 2 = c2 7 2) := (hF_104 7 2 (fun q => q.elim (fun h => absurd h.1 (nn rfl)) (fun q => q.elim (fun h => absurd h.1 (nn rfl)) (fun h => absurd h.1 (nn rfl))))).trans (hid kn_151)
                  have kn_153 : Hid (c_146 7 2 = c2 7 2) := (hF_148 7 2 (fun q => q.elim (fun h => absurd h.1 (nn rfl)) (fun q => q.elim (fun h => absurd h.1 (nn rfl)) (fun h => absurd h.1 (nn rfl))))).trans (hid kn_152)
                  have h_154 : c_146 7 2 = c2 7 2 := (hid kn_153)
                  exact ih c_146 (v4 + 1) hI_147 (fun a j hm => (hF_148 a j (fun q => q.elim (fun h => hm (Or.inl h)) (fun q => q.elim (fun h => hm (Or.inr (Or.inl h))) (fun h => hm (Or.inr (Or.inr (Or.inl h))))))).trans ((hF_104 a j (fun q => q.elim (fun h => hm (Or.inl h)) (fun q => q.elim (fun h => hm (Or.inr (Or.inl h))) (fun h => hm (Or.inr (Or.inr (Or.inl h))))))).trans ((hF_98 a j (fun h => hm (Or.inl h))).trans ((hF_93 a j (fun h => hm (Or.inl h))).trans ((hF_6 a j (fun h => hm (Or.inl h))).trans (hF a j (fun q => q.elim (fun h => hm (Or.inl h)) (fun q => q.elim (fun h => hm (Or.inr (Or.inl h))) (fun q => q.elim (fun h => hm (Or.inr (Or.inr (Or.inl h)))) (fun q => q.elim (fun h => hm (Or.inr (Or.inr (Or.inr (Or.inl h))))) (fun h => hm (Or.inr (Or.inr (Or.inr (Or.inr ⟨h.1, by clear hm; omega⟩))))))))))))))) ⟨by first | exact rgp_l hv4.1 (by decide) | omega, by omega⟩ (by omega) (by omega)
                · refine v_if_ne_f (t := 11) rfl (by decide) (Decidable.not_not.mp h_145) ?_
                  refine q_iconst rfl ?_
                  refine q_goto (t := 12) rfl (by decide) ?_
                  refine v_zret rfl rfl (by decide) ?_
                  refine bk_inl ?_
                  refine v_if_eq_f (t := 117) rfl (by decide) (by decide) ?_
                  refine q_aload_n rfl rfl ?_
                  have kn_155 : Hid (c_4 7 2 = c2 7 2) := hF_6 7 2 (fun h => absurd h.1 (nn rfl))
                  have kn_156 : Hid (c_91 7 2 = c2 7 2) := (hF_93 7 2 (fun h => absurd h.1 (nn rfl))).trans (hid kn_155)
                  have kn_157 : Hid (c_96 7 2 = c2 7 2) := (hF_98 7 2 (fun h => absurd h.1 (nn rfl))).trans (hid kn_156)
                  have kn_158 : Hid (c_102 7 2 = c2 7 2) := (hF_104 7 2 (fun q => q.elim (fun h => absurd h.1 (nn rfl)) (fun q => q.elim (fun h => absurd h.1 (nn rfl)) (fun h => absurd h.1 (nn rfl))))).trans (hid kn_157)
                  refine v_gi (z := 2) (v := c2 7 2) rfl rfl rfl (by decide) rfl rfl (hid kn_158) ?_
                  refine v_bip rfl (by decide) ?_
                  by_cases h_159 : c2 7 2 ≥ 38
                  · refine v_ic_ge_t (t := 117) rfl (by decide) ⟨by decide, h_159, (Int.le_trans h_2.2 (by decide))⟩ ?_
                    refine q_aload_n rfl rfl ?_
                    refine q_ldc_s rfl rfl rfl (by decide) ?_
                    refine v_cv rfl rfl rfl rfl (by decide) ⟨⟨rfl, rfl⟩, by decide, rfl⟩ (Nat.le_of_ble_eq_true rfl) (Nat.le_of_ble_eq_true rfl) (s_11 hI_103 (q := 13) (nt := 1) (by decide) (by decide) (by decide) (fun c_160 hI_161 hF_162 => ?_))
                    refine bk_inl ?_
                    refine v_iinc (v := v4 + 1) rfl rfl (by decide) rfl ?_
                    refine q_goto (t := 3) rfl (by decide) ?_
                    refine Wp_ls [(0, .ref 7), (1, .ref 1), (2, .ref P), (3, vi a4), (4, vi (v4 + 1))] (lsub_cons rfl (lsub_cons rfl (lsub_cons rfl (lsub_cons rfl (lsub_cons rfl lsub_nil))))) ?_
                    have kn_163 : Hid (c_160 7 2 = c2 7 2) := (hF_162 7 2 (fun q => q.elim (fun h => absurd h.1 (nn rfl)) (fun q => q.elim (fun h => absurd h.1 (nn rfl)) (fun h => absurd h.1 (nn rfl))))).trans (hid kn_158)
                    have h_164 : c_160 7 2 = c2 7 2 := (hid kn_163)
                    exact ih c_160 (v4 + 1) hI_161 (fun a j hm => (hF_162 a j (fun q => q.elim (fun h => hm (Or.inl h)) (fun q => q.elim (fun h => hm (Or.inr (Or.inl h))) (fun h => hm (Or.inr (Or.inr (Or.inl h))))))).trans ((hF_104 a j (fun q => q.elim (fun h => hm (Or.inl h)) (fun q => q.elim (fun h => hm (Or.inr (Or.inl h))) (fun h => hm (Or.inr (Or.inr (Or.inl h))))))).trans ((hF_98 a j (fun h => hm (Or.inl h))).trans ((hF_93 a j (fun h => hm (Or.inl h))).trans ((hF_6 a j (fun h => hm (Or.inl h))).trans (hF a j (fun q => q.elim (fun h => hm (Or.inl h)) (fun q => q.elim (fun h => hm (Or.inr (Or.inl h))) (fun q => q.elim (fun h => hm (Or.inr (Or.inr (Or.inl h)))) (fun q => q.elim (fun h => hm (Or.inr (Or.inr (Or.inr (Or.inl h))))) (fun h => hm (Or.inr (Or.inr (Or.inr (Or.inr ⟨h.1, by clear hm; omega⟩))))))))))))))) ⟨by first | exact rgp_l hv4.1 (by decide) | omega, by omega⟩ (by omega) (by omega)
                  · refine v_ic_ge_f (t := 117) rfl (by decide) ⟨(Int.le_trans (by decide) h_2.1), (Int.not_le.mp h_159), by decide⟩ ?_
                    refine q_aload_n rfl rfl ?_
                    refine v_gi (z := 2) (v := c2 7 2) rfl rfl rfl (by decide) rfl rfl (hid kn_158) ?_
                    refine q_iconst rfl ?_
                    refine v_imul (v := 5 * c2 7 2) rfl (by omega) ?_
                    refine q_istore rfl (by decide) ?_
                    refine q_aload_n rfl rfl ?_
                    refine q_dup rfl rfl ?_
                    refine v_gi (z := 2) (v := c2 7 2) rfl rfl rfl (by decide) rfl rfl (hid kn_158) ?_
                    refine q_iconst rfl ?_
                    refine v_iadd (v := c2 7 2 + 1) rfl rfl ?_
                    refine v_pi (z := 2) rfl rfl rfl (by decide) rfl rfl rfl (by decide) ?_
                    refine q_aload_n rfl rfl ?_
                    refine v_gr (t := 8) rfl rfl rfl (by decide) rfl ?_
                    refine q_iload rfl rfl ?_
                    refine q_iload rfl rfl ?_
                    refine v_is rfl rfl (by decide) (by decide) (by omega) ?_
                    refine q_aload_n rfl rfl ?_
                    refine q_aload_n rfl rfl ?_
                    refine q_aload_n rfl rfl ?_
                    refine q_iload rfl rfl ?_
                    refine q_iload_n rfl rfl ?_
                    have hI_165 := iw_7_2 (v := c2 7 2 + 1) hI_103 ⟨by first | exact rgp_l h_2.1 (by decide) | omega, by omega⟩
                    have hI_166 := iw_8 (t := c2 7 2) (j := 5 * c2 7 2) (v := y_105) (iv_open8 hI_165) ⟨by omega, by omega⟩ ⟨by omega, by omega⟩ (by omega)
                    have h_167 : (up (up c_102 7 2 (c2 7 2 + 1)) 8 (5 * c2 7 2) y_105) 7 2 = c2 7 2 + 1 := ((up_c (nn rfl)).trans (up_e rfl))
                    have h_168 : (up (up c_102 7 2 (c2 7 2 + 1)) 8 (5 * c2 7 2) y_105) 8 (5 * c2 7 2) = y_105 := (up_e rfl)
                    have h_169 : (up (up c_102 7 2 (c2 7 2 + 1)) 8 (5 * c2 7 2) y_105) 8 (5 * (c2 7 2)) = y_105 := (congrArg ((up (up c_102 7 2 (c2 7 2 + 1)) 8 (5 * c2 7 2) y_105) 8) (by omega)).trans (up_e rfl)
                    refine v_cv rfl rfl rfl rfl (by decide) ⟨⟨rfl, rfl⟩, by decide, rfl⟩ (Nat.le_of_ble_eq_true rfl) (Nat.le_of_ble_eq_true rfl) (s_40 (t := c2 7 2) (a4 := a4) hI_166 (show 0 ≤ c2 7 2 ∧ c2 7 2 ≤ 37 from by omega) (show 0 ≤ a4 ∧ a4 ≤ 6 from ha4) (by omega) (Or.inl (by omega)) H41 (fun c_170 hI_171 hF_172 h_173 => ?_))
                    refine bk_inl ?_
                    have h_174 := ir_7_2 hI_171
                    refine q_aload_n rfl rfl ?_
                    refine q_ldc_s rfl rfl rfl (by decide) ?_
                    refine v_cv rfl rfl rfl rfl (by decide) ⟨⟨rfl, rfl⟩, by decide, rfl⟩ (Nat.le_of_ble_eq_true rfl) (Nat.le_of_ble_eq_true rfl) (s_11 hI_171 (q := 13) (nt := 1) (by decide) (by decide) (by decide) (fun c_175 hI_176 hF_177 => ?_))
                    refine bk_inl ?_
                    refine v_iinc (v := v4 + 1) rfl rfl (by decide) rfl ?_
                    refine q_goto (t := 3) rfl (by decide) ?_
                    refine Wp_ls [(0, .ref 7), (1, .ref 1), (2, .ref P), (3, vi a4), (4, vi (v4 + 1))] (lsub_cons rfl (lsub_cons rfl (lsub_cons rfl (lsub_cons rfl (lsub_cons rfl lsub_nil))))) ?_
                    have kn_178 : Hid (c_175 7 2 = c_170 7 2) := hF_177 7 2 (fun q => q.elim (fun h => absurd h.1 (nn rfl)) (fun q => q.elim (fun h => absurd h.1 (nn rfl)) (fun h => absurd h.1 (nn rfl))))
                    have h_179 : c_175 7 2 = c_170 7 2 := (hid kn_178)
                    exact ih c_175 (v4 + 1) hI_176 (fun a j hm => (hF_177 a j (fun q => q.elim (fun h => hm (Or.inl h)) (fun q => q.elim (fun h => hm (Or.inr (Or.inl h))) (fun h => hm (Or.inr (Or.inr (Or.inl h))))))).trans ((hF_172 a j (fun q => q.elim (fun h => hm (Or.inl h)) (fun q => q.elim (fun h => hm (Or.inr (Or.inl h))) (fun q => q.elim (fun h => hm (Or.inr (Or.inr (Or.inl h)))) (fun q => q.elim (fun h => hm (Or.inr (Or.inr (Or.inr (Or.inl h))))) (fun h => hm (Or.inr (Or.inr (Or.inr (Or.inr ⟨h.1, by clear hm; omega⟩)))))))))).trans ((up_b (Decidable.or_iff_not_imp_left.mpr (fun h1 h2 => hm (Or.inr (Or.inr (Or.inr (Or.inr ⟨Decidable.not_not.mp h1, by clear hm; omega⟩))))))).trans ((up_b (Decidable.or_iff_not_imp_left.mpr (fun h1 h2 => hm (Or.inr (Or.inr (Or.inr (Or.inl ⟨Decidable.not_not.mp h1, h2⟩))))))).trans ((hF_104 a j (fun q => q.elim (fun h => hm (Or.inl h)) (fun q => q.elim (fun h => hm (Or.inr (Or.inl h))) (fun h => hm (Or.inr (Or.inr (Or.inl h))))))).trans ((hF_98 a j (fun h => hm (Or.inl h))).trans ((hF_93 a j (fun h => hm (Or.inl h))).trans ((hF_6 a j (fun h => hm (Or.inl h))).trans (hF a j (fun q => q.elim (fun h => hm (Or.inl h)) (fun q => q.elim (fun h => hm (Or.inr (Or.inl h))) (fun q => q.elim (fun h => hm (Or.inr (Or.inr (Or.inl h)))) (fun q => q.elim (fun h => hm (Or.inr (Or.inr (Or.inr (Or.inl h))))) (fun h => hm (Or.inr (Or.inr (Or.inr (Or.inr ⟨h.1, by clear hm; omega⟩)))))))))))))))))) ⟨by first | exact rgp_l hv4.1 (by decide) | omega, by omega⟩ (by omega) (by omega)
              · refine v_ic_lt_f (t := 65) rfl (by decide) ⟨by decide, (Int.not_lt.mp h_144), (Int.le_trans ha4.2 (by decide))⟩ ?_
                refine q_aload_n rfl rfl ?_
                refine q_iconst rfl ?_
                refine q_iload rfl rfl ?_
                refine v_cv rfl rfl rfl rfl (by decide) ⟨⟨rfl, rfl⟩, by decide, rfl⟩ (Nat.le_of_ble_eq_true rfl) (Nat.le_of_ble_eq_true rfl) (s_7 (a1 := 3) (a2 := y_99) hI_103 (show 1 ≤ 3 ∧ 3 ≤ 3 from ⟨by decide, by decide⟩) (show 0 ≤ y_99 ∧ y_99 ≤ 600 from hy_99) (fun c_180 hI_181 hF_182 h_183 => ?_))
                refine bk_inl ?_
                have h_184 := ir_1_4 hI_181
                refine q_aload_n rfl rfl ?_
                refine v_cv rfl rfl rfl rfl (by decide) ⟨⟨rfl, rfl⟩, by decide, rfl⟩ (Nat.le_of_ble_eq_true rfl) (Nat.le_of_ble_eq_true rfl) ?_
                refine q_aload_n rfl rfl ?_
                refine v_gi (z := 4) (v := c_180 1 4) rfl rfl rfl (by decide) rfl rfl rfl ?_
                refine v_if_ne_t (t := 11) rfl (by decide) ⟨by omega, ⟨(Int.le_trans (by decide) h_184.1), (Int.le_trans h_184.2 (by decide))⟩, by decide, by decide⟩ ?_
                refine q_iconst rfl ?_
                refine v_zret rfl rfl (by decide) ?_
                refine bk_inl ?_
                refine v_if_eq_t (t := 117) rfl (by decide) (by decide) ?_
                refine q_aload_n rfl rfl ?_
                refine q_ldc_s rfl rfl rfl (by decide) ?_
                refine v_cv rfl rfl rfl rfl (by decide) ⟨⟨rfl, rfl⟩, by decide, rfl⟩ (Nat.le_of_ble_eq_true rfl) (Nat.le_of_ble_eq_true rfl) (s_11 hI_181 (q := 13) (nt := 1) (by decide) (by decide) (by decide) (fun c_185 hI_186 hF_187 => ?_))
                refine bk_inl ?_
                refine v_iinc (v := v4 + 1) rfl rfl (by decide) rfl ?_
                refine q_goto (t := 3) rfl (by decide) ?_
                refine Wp_ls [(0, .ref 7), (1, .ref 1), (2, .ref P), (3, vi a4), (4, vi (v4 + 1))] (lsub_cons rfl (lsub_cons rfl (lsub_cons rfl (lsub_cons rfl (lsub_cons rfl lsub_nil))))) ?_
                have kn_188 : Hid (c_4 7 2 = c2 7 2) := hF_6 7 2 (fun h => absurd h.1 (nn rfl))
                have kn_189 : Hid (c_91 7 2 = c2 7 2) := (hF_93 7 2 (fun h => absurd h.1 (nn rfl))).trans (hid kn_188)
                have kn_190 : Hid (c_96 7 2 = c2 7 2) := (hF_98 7 2 (fun h => absurd h.1 (nn rfl))).trans (hid kn_189)
                have kn_191 : Hid (c_102 7 2 = c2 7 2) := (hF_104 7 2 (fun q => q.elim (fun h => absurd h.1 (nn rfl)) (fun q => q.elim (fun h => absurd h.1 (nn rfl)) (fun h => absurd h.1 (nn rfl))))).trans (hid kn_190)
                have kn_192 : Hid (c_180 7 2 = c2 7 2) := (hF_182 7 2 (fun q => q.elim (fun h => absurd h.1 (nn rfl)) (fun h => absurd h.1 (nn rfl)))).trans (hid kn_191)
                have kn_193 : Hid (c_185 7 2 = c2 7 2) := (hF_187 7 2 (fun q => q.elim (fun h => absurd h.1 (nn rfl)) (fun q => q.elim (fun h => absurd h.1 (nn rfl)) (fun h => absurd h.1 (nn rfl))))).trans (hid kn_192)
                have h_194 : c_185 7 2 = c2 7 2 := (hid kn_193)
                exact ih c_185 (v4 + 1) hI_186 (fun a j hm => (hF_187 a j (fun q => q.elim (fun h => hm (Or.inl h)) (fun q => q.elim (fun h => hm (Or.inr (Or.inl h))) (fun h => hm (Or.inr (Or.inr (Or.inl h))))))).trans ((hF_182 a j (fun q => q.elim (fun h => hm (Or.inr (Or.inl h))) (fun h => hm (Or.inr (Or.inr (Or.inl h)))))).trans ((hF_104 a j (fun q => q.elim (fun h => hm (Or.inl h)) (fun q => q.elim (fun h => hm (Or.inr (Or.inl h))) (fun h => hm (Or.inr (Or.inr (Or.inl h))))))).trans ((hF_98 a j (fun h => hm (Or.inl h))).trans ((hF_93 a j (fun h => hm (Or.inl h))).trans ((hF_6 a j (fun h => hm (Or.inl h))).trans (hF a j (fun q => q.elim (fun h => hm (Or.inl h)) (fun q => q.elim (fun h => hm (Or.inr (Or.inl h))) (fun q => q.elim (fun h => hm (Or.inr (Or.inr (Or.inl h)))) (fun q => q.elim (fun h => hm (Or.inr (Or.inr (Or.inr (Or.inl h))))) (fun h => hm (Or.inr (Or.inr (Or.inr (Or.inr ⟨h.1, by clear hm; omega⟩)))))))))))))))) ⟨by first | exact rgp_l hv4.1 (by decide) | omega, by omega⟩ (by omega) (by omega)
          · refine v_ic_ne_f (t := 31) rfl (by decide) (Decidable.not_not.mp h_95) ?_
            refine q_vret rfl rfl ?_
            have kn_195 : Hid (c_4 7 2 = c2 7 2) := hF_6 7 2 (fun h => absurd h.1 (nn rfl))
            have kn_196 : Hid (c_91 7 2 = c2 7 2) := (hF_93 7 2 (fun h => absurd h.1 (nn rfl))).trans (hid kn_195)
            have h_197 : c_91 7 2 = c2 7 2 := (hid kn_196)
            exact K c_91 hI_92 (fun a j hm => (hF_93 a j (fun h => hm (Or.inl h))).trans ((hF_6 a j (fun h => hm (Or.inl h))).trans (hF a j (fun q => q.elim (fun h => hm (Or.inl h)) (fun q => q.elim (fun h => hm (Or.inr (Or.inl h))) (fun q => q.elim (fun h => hm (Or.inr (Or.inr (Or.inl h)))) (fun q => q.elim (fun h => hm (Or.inr (Or.inr (Or.inr (Or.inl h))))) (fun h => hm (Or.inr (Or.inr (Or.inr (Or.inr ⟨h.1, by clear hm; omega⟩)))))))))))) (by omega)
set_option maxRecDepth 100000 in
set_option maxHeartbeats 4000000 in
theorem s_41 {sc : List Int32} {d u P Q : Nat} {c : ME} {a4 : Int} {Z : AR → Prop} (hI : Iv u (-1) P Q c) (ha4 : 0 ≤ a4 ∧ a4 ≤ 6) (H41 : ∀ (c : ME) (Z : AR → Prop), a4 + 1 ≤ 6 → Iv u (-1) P Q c → (∀ c2 : ME, Iv u (-1) P Q c2 → (∀ (a : Nat) (j : Int), ¬ ((a = 1 ∧ j = 2) ∨ (a = 1 ∧ j = 4) ∨ (a = 1 ∧ j = 5) ∨ (a = 7 ∧ j = 2) ∨ (a = 8 ∧ j ≥ 5 * c 7 2)) → c2 a j = c a j) → (c2 7 2 ≥ c 7 2) → Z (.inl none, Wd P Q P P c2, 0, 0)) → Wp sc (d + 10) 41 0 [(0, .ref 7), (1, .ref 1), (2, .ref P), (3, vi (a4 + 1))] [] (Wd P Q P P c) 0 0 Z) (K : ∀ (c2 : ME), Iv u (-1) P Q c2 → (∀ (a : Nat) (j : Int), ¬ ((a = 1 ∧ j = 2) ∨ (a = 1 ∧ j = 4) ∨ (a = 1 ∧ j = 5) ∨ (a = 7 ∧ j = 2) ∨ (a = 8 ∧ j ≥ 5 * c 7 2)) → c2 a j = c a j) → ((c2 7 2 ≥ c 7 2)) → Z (.inl (none), Wd P Q P P c2, 0, 0)) : Wp sc (d + 12) 41 0 [(0, .ref 7), (1, .ref 1), (2, .ref P), (3, vi a4)] [] (Wd P Q P P c) 0 0 Z := by
  have hP := iv_P hI
  have hQ := iv_Q hI
  refine q_iconst rfl ?_
  refine q_istore rfl (by decide) ?_
  refine Wp_ls [(0, .ref 7), (1, .ref 1), (2, .ref P), (3, vi a4), (4, vi 0)] (lsub_cons rfl (lsub_cons rfl (lsub_cons rfl (lsub_cons rfl (lsub_cons rfl lsub_nil))))) ?_
  have h_198 := ir_7_2 hI
  exact (s_41_l (sc := sc) (d := d) hI ha4 H41 K 80) c 0 hI (fun a j hm => rfl) ⟨by decide, by decide⟩ (by omega) (by omega)
set_option maxRecDepth 100000 in
set_option maxHeartbeats 4000000 in
theorem r_41_n {sc : List Int32} {d u P Q : Nat} : ∀ (m : Nat) (c : ME) (a4 : Int) (Z : AR → Prop), a4 + (m : Int) = 6 → 0 ≤ a4 → Iv u (-1) P Q c → (∀ c2 : ME, Iv u (-1) P Q c2 → (∀ (a : Nat) (j : Int), ¬ ((a = 1 ∧ j = 2) ∨ (a = 1 ∧ j = 4) ∨ (a = 1 ∧ j = 5) ∨ (a = 7 ∧ j = 2) ∨ (a = 8 ∧ j ≥ 5 * c 7 2)) → c2 a j = c a j) → (c2 7 2 ≥ c 7 2) → Z (.inl none, Wd P Q P P c2, 0, 0)) → Wp sc (d + 2 * m + 12) 41 0 [(0, .ref 7), (1, .ref 1), (2, .ref P), (3, vi a4)] [] (Wd P Q P P c) 0 0 Z
  | 0, c, a4, Z, hm, h0, hI, K => s_41 (d := d) (a4 := a4) hI (show 0 ≤ a4 ∧ a4 ≤ 6 from ⟨by omega, by omega⟩) (fun c9 Z9 hc => absurd hc (by omega)) K
  | m + 1, c, a4, Z, hm, h0, hI, K => by
    have ih := r_41_n (sc := sc) (d := d) (u := u) (P := P) (Q := Q) m
    rw [show d + 2 * (m + 1) + 12 = (d + 2 * m + 2) + 12 by omega]
    refine s_41 (d := d + 2 * m + 2) (a4 := a4) hI (show 0 ≤ a4 ∧ a4 ≤ 6 from ⟨by omega, by omega⟩) (fun c9 Z9 hc hI9 K9 => ?_) K
    have r := ih c9 (a4 + 1) Z9 (by omega) (by omega) hI9 K9
    rw [show d + 2 * m + 12 = (d + 2 * m + 2) + 10 by omega] at r
    exact r
set_option maxRecDepth 100000 in
set_option maxHeartbeats 4000000 in
theorem r_41 {sc : List Int32} {d u P Q : Nat} {c : ME} {a4 : Int} {Z : AR → Prop} (hI : Iv u (-1) P Q c) (ha4 : 0 ≤ a4 ∧ a4 ≤ 6) (K : (∀ c2 : ME, Iv u (-1) P Q c2 → (∀ (a : Nat) (j : Int), ¬ ((a = 1 ∧ j = 2) ∨ (a = 1 ∧ j = 4) ∨ (a = 1 ∧ j = 5) ∨ (a = 7 ∧ j = 2) ∨ (a = 8 ∧ j ≥ 5 * c 7 2)) → c2 a j = c a j) → (c2 7 2 ≥ c 7 2) → Z (.inl none, Wd P Q P P c2, 0, 0))) : Wp sc (d + 24) 41 0 [(0, .ref 7), (1, .ref 1), (2, .ref P), (3, vi a4)] [] (Wd P Q P P c) 0 0 Z := by
  obtain ⟨m, hm⟩ : ∃ m : Nat, (m : Int) = 6 - a4 := ⟨(6 - a4).toNat, by omega⟩
  rw [show d + 24 = (d + 12 - 2 * m) + 2 * m + 12 by omega]
  exact r_41_n m c a4 Z (by omega) (by omega) hI K

set_option maxRecDepth 100000 in
set_option maxHeartbeats 4000000 in
theorem s_42 {sc : List Int32} {d u P Q : Nat} {c : ME} {Z : AR → Prop} (hI : Iv u (-1) P Q c)  (K : ∀ (c2 : ME), Iv u (-1) P Q c2 → (∀ (a : Nat) (j : Int), ¬ ((a = 1 ∧ j = 2) ∨ (a = 1 ∧ j = 4) ∨ (a = 1 ∧ j = 5) ∨ (a = 7 ∧ j = 1) ∨ (a = 7 ∧ j = 2) ∨ (a = 7 ∧ j = 3) ∨ (a = 7 ∧ j = 4) ∨ a = 8) → c2 a j = c a j) → Z (.inl (none), Wd P Q P P c2, 0, 0)) : Wp sc (d + 25) 42 0 [(0, .ref 7), (1, .ref 1), (2, .ref P)] [] (Wd P Q P P c) 0 0 Z := by
  have hP := iv_P hI
  have hQ := iv_Q hI
  refine q_aload_n rfl rfl ?_
  refine q_iconst rfl ?_
  refine v_pi (z := 1) rfl rfl rfl (by decide) rfl rfl rfl (by decide) ?_
  refine q_aload_n rfl rfl ?_
  refine q_iconst rfl ?_
  refine v_pi (z := 2) rfl rfl rfl (by decide) rfl rfl rfl (by decide) ?_
  refine q_aload_n rfl rfl ?_
  refine q_iconst rfl ?_
  refine v_pi (z := 3) rfl rfl rfl (by decide) rfl rfl rfl (by decide) ?_
  refine q_aload_n rfl rfl ?_
  refine q_iconst rfl ?_
  refine v_pi (z := 4) rfl rfl rfl (by decide) rfl rfl rfl (by decide) ?_
  refine q_aload_n rfl rfl ?_
  refine q_aload_n rfl rfl ?_
  refine q_aload_n rfl rfl ?_
  refine q_iconst rfl ?_
  have hI_1 := iw_7_1 (v := 0) hI ⟨by decide, by decide⟩
  have hI_2 := iw_7_2 (v := 0) hI_1 ⟨by decide, by decide⟩
  have hI_3 := iw_7_3 (v := 0) hI_2 ⟨by decide, by decide⟩
  have hI_4 := iw_7_4 (v := 0) hI_3 ⟨by decide, by decide⟩
  have h_5 : (up (up (up (up c 7 1 0) 7 2 0) 7 3 0) 7 4 0) 7 2 = 0 := ((up_n (by decide)).trans ((up_n (by decide)).trans (up_e rfl)))
  have h_6 : (up (up (up (up c 7 1 0) 7 2 0) 7 3 0) 7 4 0) 7 2 = 0 := ((up_n (by decide)).trans ((up_n (by decide)).trans (up_e rfl)))
  refine v_cv rfl rfl rfl rfl (by decide) ⟨⟨rfl, rfl⟩, by decide, rfl⟩ (Nat.le_of_ble_eq_true rfl) (Nat.le_of_ble_eq_true rfl) (r_41 (a4 := 0) hI_4 (show 0 ≤ 0 ∧ 0 ≤ 6 from ⟨by decide, by decide⟩) (fun c_7 hI_8 hF_9 h_10 => ?_))
  refine bk_inl ?_
  have h_11 := ir_7_2 hI_8
  refine q_vret rfl rfl ?_
  exact K c_7 hI_8 (fun a j hm => (hF_9 a j (fun q => q.elim (fun h => hm (Or.inl h)) (fun q => q.elim (fun h => hm (Or.inr (Or.inl h))) (fun q => q.elim (fun h => hm (Or.inr (Or.inr (Or.inl h)))) (fun q => q.elim (fun h => hm (Or.inr (Or.inr (Or.inr (Or.inr (Or.inl h)))))) (fun h => hm (Or.inr (Or.inr (Or.inr (Or.inr (Or.inr (Or.inr (Or.inr h.1))))))))))))).trans ((up_b (Decidable.or_iff_not_imp_left.mpr (fun h1 h2 => hm (Or.inr (Or.inr (Or.inr (Or.inr (Or.inr (Or.inr (Or.inl ⟨Decidable.not_not.mp h1, h2⟩)))))))))).trans ((up_b (Decidable.or_iff_not_imp_left.mpr (fun h1 h2 => hm (Or.inr (Or.inr (Or.inr (Or.inr (Or.inr (Or.inl ⟨Decidable.not_not.mp h1, h2⟩))))))))).trans ((up_b (Decidable.or_iff_not_imp_left.mpr (fun h1 h2 => hm (Or.inr (Or.inr (Or.inr (Or.inr (Or.inl ⟨Decidable.not_not.mp h1, h2⟩)))))))).trans (up_b (Decidable.or_iff_not_imp_left.mpr (fun h1 h2 => hm (Or.inr (Or.inr (Or.inr (Or.inl ⟨Decidable.not_not.mp h1, h2⟩)))))))))))

set_option maxRecDepth 100000 in
set_option maxHeartbeats 4000000 in
theorem s_43 {sc : List Int32} {e : Int} {d u P Q sh s : Nat} {c : ME} {v1 v2 v3 v4 r : Int} {a1 : Int} {Z : AR → Prop} (hI : Iv u e P Q c) (hs : (sh = 37 ∧ s = 38) ∨ (sh = 39 ∧ s = 40)) (ha1 : 0 ≤ a1 ∧ a1 ≤ 5) (hv0 : c s (4 * a1) = v1) (hv1 : c s (4 * a1 + 1) = v2) (hv2 : c s (4 * a1 + 2) = v3) (hv3 : c s (4 * a1 + 3) = v4) (hr9 : v1 + v2 + v3 + v4 = r) (K : Z (.inl (some (vi r)), Wd P Q P P c, 0, 0)) : Wp sc (d + 7) 43 0 [(0, .ref sh), (1, vi a1)] [] (Wd P Q P P c) 0 0 Z := by
  have hP := iv_P hI
  have hQ := iv_Q hI
  have h_1 := ir_s_g hI hs (j := 4 * a1) (by omega)
  have h_2 := ir_s_g hI hs (j := 4 * a1 + 1) (by omega)
  have h_3 := ir_s_g hI hs (j := 4 * a1 + 2) (by omega)
  have h_4 := ir_s_g hI hs (j := 4 * a1 + 3) (by omega)
  refine q_iload_n rfl rfl ?_
  refine q_iconst rfl ?_
  refine v_imul (v := 4 * a1) rfl (by omega) ?_
  refine q_istore_n rfl (by decide) ?_
  refine q_aload_n rfl rfl ?_
  refine v_gr (t := s) rfl rfl (ck_sh hs) (by omega) rfl ?_
  refine q_iload_n rfl rfl ?_
  refine v_ia (v := v1) rfl (ck_s hs) (by omega) (by decide) (by omega) (hv0) ?_
  refine q_aload_n rfl rfl ?_
  refine v_gr (t := s) rfl rfl (ck_sh hs) (by omega) rfl ?_
  refine q_iload_n rfl rfl ?_
  refine q_iconst rfl ?_
  refine v_iadd (v := 4 * a1 + 1) rfl rfl ?_
  refine v_ia (v := v2) rfl (ck_s hs) (by omega) (by decide) (by omega) (hv1) ?_
  refine v_iadd (v := v1 + v2) rfl rfl ?_
  refine q_aload_n rfl rfl ?_
  refine v_gr (t := s) rfl rfl (ck_sh hs) (by omega) rfl ?_
  refine q_iload_n rfl rfl ?_
  refine q_iconst rfl ?_
  refine v_iadd (v := 4 * a1 + 2) rfl rfl ?_
  refine v_ia (v := v3) rfl (ck_s hs) (by omega) (by decide) (by omega) (hv2) ?_
  refine v_iadd (v := v1 + v2 + v3) rfl rfl ?_
  refine q_aload_n rfl rfl ?_
  refine v_gr (t := s) rfl rfl (ck_sh hs) (by omega) rfl ?_
  refine q_iload_n rfl rfl ?_
  refine q_iconst rfl ?_
  refine v_iadd (v := 4 * a1 + 3) rfl rfl ?_
  refine v_ia (v := v4) rfl (ck_s hs) (by omega) (by decide) (by omega) (hv3) ?_
  refine v_iadd (v := v1 + v2 + v3 + v4) rfl rfl ?_
  refine q_iret rfl rfl ?_
  exact zv (by omega) (K)

set_option maxRecDepth 100000 in
set_option maxHeartbeats 4000000 in
theorem s_44 {sc : List Int32} {d P Q sh s : Nat} {c : ME} {a1 : Int} {a2 : Int} {Z : AR → Prop} (hI : Iv 0 (-1) P Q c) (hs : (sh = 37 ∧ s = 38) ∨ (sh = 39 ∧ s = 40)) (ha1 : 0 ≤ a1 ∧ a1 ≤ 3) (ha2 : 0 ≤ a2 ∧ a2 ≤ 5) (K : ∀ (c2 : ME) (y : Int), Iv 0 (-1) P Q c2 → (∀ (a : Nat) (j : Int), ¬ (a = s) → c2 a j = c a j) → 0 ≤ y ∧ y ≤ 1 → Z (.inl (some (vi y)), Wd P Q P P c2, 0, 0)) : Wp sc (d + 8) 44 0 [(0, .ref sh), (1, vi a1), (2, vi a2)] [] (Wd P Q P P c) 0 0 Z := by
  have hP := iv_P hI
  have hQ := iv_Q hI
  have hIo : Iv s (-1) P Q c := iv_open hI
  have hsum_1 := ir_s_r hI hs (by omega) (j := a2) (by omega)
  have h_2 := ir_s_g hI hs (j := 4 * a2) (by omega)
  have h_3 := ir_s_g hI hs (j := 4 * a2 + 1) (by omega)
  have h_4 := ir_s_g hI hs (j := 4 * a2 + 2) (by omega)
  have h_5 := ir_s_g hI hs (j := 4 * a2 + 3) (by omega)
  refine q_aload_n rfl rfl ?_
  refine q_iload_n rfl rfl ?_
  refine v_cv rfl rfl rfl (ck_sh hs) (by omega) ⟨⟨rfl, rfl⟩, by decide, rfl⟩ (Nat.le_of_ble_eq_true rfl) (Nat.le_of_ble_eq_true rfl) (s_43 (v1 := c s (4 * a2)) (v2 := c s (4 * a2 + 1)) (v3 := c s (4 * a2 + 2)) (v4 := c s (4 * a2 + 3)) (r := c s (4 * a2 + 1) + c s (4 * a2 + 2) + c s (4 * a2 + 3) + c s (4 * a2)) (a1 := a2) hIo hs (show 0 ≤ a2 ∧ a2 ≤ 5 from ha2) (rfl) (rfl) (rfl) (rfl) (by omega) ?_)
  refine bk_inl ?_
  by_cases h_6 : c s (4 * a2 + 1) + c s (4 * a2 + 2) + c s (4 * a2 + 3) + c s (4 * a2) ≠ 0
  · refine v_if_ne_t (t := 10) rfl (by decide) ⟨h_6, ⟨by omega, by omega⟩, by decide, by decide⟩ ?_
    refine q_iload_n rfl rfl ?_
    refine q_iconst rfl ?_
    refine v_imul (v := 4 * a2) rfl (by omega) ?_
    refine q_istore_n rfl (by decide) ?_
    refine q_aload_n rfl rfl ?_
    refine v_gr (t := s) rfl rfl (ck_sh hs) (by omega) rfl ?_
    refine q_iload_n rfl rfl ?_
    refine q_iconst rfl ?_
    refine v_iadd (v := 4 * a2 + 1) rfl rfl ?_
    refine v_ia (v := c s (4 * a2 + 1)) rfl (ck_s hs) (by omega) (by decide) (by omega) rfl ?_
    refine q_aload_n rfl rfl ?_
    refine v_gr (t := P) rfl rfl (ck_sh hs) (by omega) rfl ?_
    refine q_iload_n rfl rfl ?_
    refine q_iconst rfl ?_
    refine v_cv rfl rfl rfl (ck_p0 hP) (a68z hP) ⟨⟨rfl, rfl⟩, by decide, rfl⟩ (Nat.le_of_ble_eq_true rfl) (Nat.le_of_ble_eq_true rfl) (s_29 (a1 := a1) (a2 := 0) hIo hP (show 0 ≤ a1 ∧ a1 ≤ 3 from ha1) (show 0 ≤ 0 ∧ 0 ≤ 2 from ⟨by decide, by decide⟩) (fun y_7 hy_7 => ?_))
    refine bk_inl ?_
    have h_8 : 0 ≤ (c s (4 * a2 + 1)) * y_7 ∧ (c s (4 * a2 + 1)) * y_7 ≤ 10 * (c s (4 * a2 + 1)) := mul_bd (by omega) (by omega) (by omega)
    have h_9 : 0 ≤ (c s (4 * a2 + 1)) * y_7 ∧ (c s (4 * a2 + 1)) * y_7 ≤ 9999 * y_7 := mul_bd2 (by omega) (by omega) (by omega)
    refine v_imul (v := ((c s (4 * a2 + 1)) * y_7)) rfl rfl ?_
    refine v_bip rfl (by decide) ?_
    refine v_idiv (v := (((c s (4 * a2 + 1)) * y_7) / 10)) rfl (by omega) rfl ?_
    refine q_istore rfl (by decide) ?_
    refine q_aload_n rfl rfl ?_
    refine v_gr (t := s) rfl rfl (ck_sh hs) (by omega) rfl ?_
    refine q_iload_n rfl rfl ?_
    refine q_iconst rfl ?_
    refine v_iadd (v := 4 * a2 + 2) rfl rfl ?_
    refine v_ia (v := c s (4 * a2 + 2)) rfl (ck_s hs) (by omega) (by decide) (by omega) rfl ?_
    refine q_aload_n rfl rfl ?_
    refine v_gr (t := P) rfl rfl (ck_sh hs) (by omega) rfl ?_
    refine q_iload_n rfl rfl ?_
    refine q_iconst rfl ?_
    refine v_cv rfl rfl rfl (ck_p0 hP) (a68z hP) ⟨⟨rfl, rfl⟩, by decide, rfl⟩ (Nat.le_of_ble_eq_true rfl) (Nat.le_of_ble_eq_true rfl) (s_29 (a1 := a1) (a2 := 1) hIo hP (show 0 ≤ a1 ∧ a1 ≤ 3 from ha1) (show 0 ≤ 1 ∧ 1 ≤ 2 from ⟨by decide, by decide⟩) (fun y_10 hy_10 => ?_))
    refine bk_inl ?_
    have h_11 : 0 ≤ (c s (4 * a2 + 2)) * y_10 ∧ (c s (4 * a2 + 2)) * y_10 ≤ 10 * (c s (4 * a2 + 2)) := mul_bd (by omega) (by omega) (by omega)
    have h_12 : 0 ≤ (c s (4 * a2 + 2)) * y_10 ∧ (c s (4 * a2 + 2)) * y_10 ≤ 9999 * y_10 := mul_bd2 (by omega) (by omega) (by omega)
    refine v_imul (v := ((c s (4 * a2 + 2)) * y_10)) rfl rfl ?_
    refine v_bip rfl (by decide) ?_
    refine v_idiv (v := (((c s (4 * a2 + 2)) * y_10) / 10)) rfl (by omega) rfl ?_
    refine q_istore rfl (by decide) ?_
    refine q_aload_n rfl rfl ?_
    refine v_gr (t := s) rfl rfl (ck_sh hs) (by omega) rfl ?_
    refine q_iload_n rfl rfl ?_
    refine q_iconst rfl ?_
    refine v_iadd (v := 4 * a2 + 3) rfl rfl ?_
    refine v_ia (v := c s (4 * a2 + 3)) rfl (ck_s hs) (by omega) (by decide) (by omega) rfl ?_
    refine q_aload_n rfl rfl ?_
    refine v_gr (t := P) rfl rfl (ck_sh hs) (by omega) rfl ?_
    refine q_iload_n rfl rfl ?_
    refine q_iconst rfl ?_
    refine v_cv rfl rfl rfl (ck_p0 hP) (a68z hP) ⟨⟨rfl, rfl⟩, by decide, rfl⟩ (Nat.le_of_ble_eq_true rfl) (Nat.le_of_ble_eq_true rfl) (s_29 (a1 := a1) (a2 := 2) hIo hP (show 0 ≤ a1 ∧ a1 ≤ 3 from ha1) (show 0 ≤ 2 ∧ 2 ≤ 2 from ⟨by decide, by decide⟩) (fun y_13 hy_13 => ?_))
    refine bk_inl ?_
    have h_14 : 0 ≤ (c s (4 * a2 + 3)) * y_13 ∧ (c s (4 * a2 + 3)) * y_13 ≤ 10 * (c s (4 * a2 + 3)) := mul_bd (by omega) (by omega) (by omega)
    have h_15 : 0 ≤ (c s (4 * a2 + 3)) * y_13 ∧ (c s (4 * a2 + 3)) * y_13 ≤ 9999 * y_13 := mul_bd2 (by omega) (by omega) (by omega)
    refine v_imul (v := ((c s (4 * a2 + 3)) * y_13)) rfl rfl ?_
    refine v_bip rfl (by decide) ?_
    refine v_idiv (v := (((c s (4 * a2 + 3)) * y_13) / 10)) rfl (by omega) rfl ?_
    refine q_istore rfl (by decide) ?_
    refine q_aload_n rfl rfl ?_
    refine v_gr (t := s) rfl rfl (ck_sh hs) (by omega) rfl ?_
    refine q_iload_n rfl rfl ?_
    refine q_dup2 rfl ⟨rfl, rfl⟩ ?_
    refine v_ia (v := c s (4 * a2)) rfl (ck_s hs) (by omega) (by decide) (by omega) rfl ?_
    refine q_iload rfl rfl ?_
    refine v_iadd (v := (((c s (4 * a2 + 1)) * y_7) / 10) + c s (4 * a2)) rfl (by omega) ?_
    refine v_is rfl (ck_s hs) (by omega) (by decide) (by omega) ?_
    refine q_aload_n rfl rfl ?_
    refine v_gr (t := s) rfl rfl (ck_sh hs) (by omega) rfl ?_
    refine q_iload_n rfl rfl ?_
    refine q_iconst rfl ?_
    refine v_iadd (v := 4 * a2 + 1) rfl rfl ?_
    refine q_dup2 rfl ⟨rfl, rfl⟩ ?_
    refine v_ia (v := c s (4 * a2 + 1)) rfl (ck_s hs) (by omega) (by decide) (by omega) (up_n (by omega)) ?_
    refine q_iload rfl rfl ?_
    refine q_iload rfl rfl ?_
    refine v_isub (v := (((c s (4 * a2 + 2)) * y_10) / 10) - (((c s (4 * a2 + 1)) * y_7) / 10)) rfl rfl ?_
    refine v_iadd (v := (((c s (4 * a2 + 2)) * y_10) / 10) + c s (4 * a2 + 1) - (((c s (4 * a2 + 1)) * y_7) / 10)) rfl (by omega) ?_
    refine v_is rfl (ck_s hs) (by omega) (by decide) (by omega) ?_
    refine q_aload_n rfl rfl ?_
    refine v_gr (t := s) rfl rfl (ck_sh hs) (by omega) rfl ?_
    refine q_iload_n rfl rfl ?_
    refine q_iconst rfl ?_
    refine v_iadd (v := 4 * a2 + 2) rfl rfl ?_
    refine q_dup2 rfl ⟨rfl, rfl⟩ ?_
    refine v_ia (v := c s (4 * a2 + 2)) rfl (ck_s hs) (by omega) (by decide) (by omega) ((up_n (by omega)).trans (up_n (by omega))) ?_
    refine q_iload rfl rfl ?_
    refine q_iload rfl rfl ?_
    refine v_isub (v := (((c s (4 * a2 + 3)) * y_13) / 10) - (((c s (4 * a2 + 2)) * y_10) / 10)) rfl rfl ?_
    refine v_iadd (v := (((c s (4 * a2 + 3)) * y_13) / 10) + c s (4 * a2 + 2) - (((c s (4 * a2 + 2)) * y_10) / 10)) rfl (by omega) ?_
    refine v_is rfl (ck_s hs) (by omega) (by decide) (by omega) ?_
    refine q_aload_n rfl rfl ?_
    refine v_gr (t := s) rfl rfl (ck_sh hs) (by omega) rfl ?_
    refine q_iload_n rfl rfl ?_
    refine q_iconst rfl ?_
    refine v_iadd (v := 4 * a2 + 3) rfl rfl ?_
    refine q_dup2 rfl ⟨rfl, rfl⟩ ?_
    refine v_ia (v := c s (4 * a2 + 3)) rfl (ck_s hs) (by omega) (by decide) (by omega) ((up_n (by omega)).trans ((up_n (by omega)).trans (up_n (by omega)))) ?_
    refine q_iload rfl rfl ?_
    refine v_isub (v := c s (4 * a2 + 3) - (((c s (4 * a2 + 3)) * y_13) / 10)) rfl rfl ?_
    refine v_is rfl (ck_s hs) (by omega) (by decide) (by omega) ?_
    refine q_aload_n rfl rfl ?_
    refine v_gr (t := s) rfl rfl (ck_sh hs) (by omega) rfl ?_
    refine q_iload_n rfl rfl ?_
    refine v_ia (v := (((c s (4 * a2 + 1)) * y_7) / 10) + c s (4 * a2)) rfl (ck_s hs) (by omega) (by decide) (by omega) ((up_n (by omega)).trans ((up_n (by omega)).trans ((up_n (by omega)).trans (up_e rfl)))) ?_
    refine q_aload_n rfl rfl ?_
    refine v_gr (t := P) rfl rfl (ck_sh hs) (by omega) rfl ?_
    have h_16 := ir_p0_3 hI hP
    refine v_gi (z := 3) (v := c P 3) rfl rfl (ck_p0 hP) (a68z hP) rfl rfl ((up_c (by omega)).trans ((up_c (by omega)).trans ((up_c (by omega)).trans (up_c (by omega))))) ?_
    have h_17 : 0 ≤ ((((c s (4 * a2 + 1)) * y_7) / 10) + c s (4 * a2)) * (c P 3) ∧ ((((c s (4 * a2 + 1)) * y_7) / 10) + c s (4 * a2)) * (c P 3) ≤ 50 * ((((c s (4 * a2 + 1)) * y_7) / 10) + c s (4 * a2)) := mul_bd (by omega) (by omega) (by omega)
    have h_18 : 0 ≤ ((((c s (4 * a2 + 1)) * y_7) / 10) + c s (4 * a2)) * (c P 3) ∧ ((((c s (4 * a2 + 1)) * y_7) / 10) + c s (4 * a2)) * (c P 3) ≤ 9999 * (c P 3) := mul_bd2 (by omega) (by omega) (by omega)
    refine v_imul (v := (((((c s (4 * a2 + 1)) * y_7) / 10) + c s (4 * a2)) * (c P 3))) rfl rfl ?_
    refine v_bip rfl (by decide) ?_
    refine v_idiv (v := ((((((c s (4 * a2 + 1)) * y_7) / 10) + c s (4 * a2)) * (c P 3)) / 100)) rfl (by omega) rfl ?_
    refine q_istore rfl (by decide) ?_
    refine Wp_ls [(7, vi ((((((c s (4 * a2 + 1)) * y_7) / 10) + c s (4 * a2)) * (c P 3)) / 100)), (6, vi (((c s (4 * a2 + 3)) * y_13) / 10)), (5, vi (((c s (4 * a2 + 2)) * y_10) / 10)), (4, vi (((c s (4 * a2 + 1)) * y_7) / 10)), (3, vi (4 * a2)), (0, .ref sh), (1, vi a1), (2, vi a2)] (lsub_cons rfl (lsub_cons rfl (lsub_cons rfl (lsub_cons rfl (lsub_cons rfl (lsub_cons rfl (lsub_cons rfl (lsub_cons rfl lsub_nil)))))))) ?_
    refine q_aload_n rfl rfl ?_
    refine v_gr (t := s) rfl rfl (ck_sh hs) (by omega) rfl ?_
    refine q_iload_n rfl rfl ?_
    refine q_dup2 rfl ⟨rfl, rfl⟩ ?_
    refine v_ia (v := (((c s (4 * a2 + 1)) * y_7) / 10) + c s (4 * a2)) rfl (ck_s hs) (by omega) (by decide) (by omega) ((up_n (by omega)).trans ((up_n (by omega)).trans ((up_n (by omega)).trans (up_e rfl)))) ?_
    refine q_iload rfl rfl ?_
    refine v_isub (v := (((c s (4 * a2 + 1)) * y_7) / 10) + c s (4 * a2) - ((((((c s (4 * a2 + 1)) * y_7) / 10) + c s (4 * a2)) * (c P 3)) / 100)) rfl rfl ?_
    refine v_is rfl (ck_s hs) (by omega) (by decide) (by omega) ?_
    refine q_aload_n rfl rfl ?_
    refine v_gr (t := s) rfl rfl (ck_sh hs) (by omega) rfl ?_
    refine v_bip rfl (by decide) ?_
    refine q_dup2 rfl ⟨rfl, rfl⟩ ?_
    have h_19 := ir_s hI hs 32
    refine v_ia (v := c s 32) rfl (ck_s hs) (by omega) (by decide) (by decide) ((up_n (by omega)).trans ((up_n (by omega)).trans ((up_n (by omega)).trans ((up_n (by omega)).trans (up_n (by omega)))))) ?_
    refine q_iload rfl rfl ?_
    refine v_iadd (v := ((((((c s (4 * a2 + 1)) * y_7) / 10) + c s (4 * a2)) * (c P 3)) / 100) + c s 32) rfl (by first | (clear h_2 h_3 h_4 h_5 h_8 h_9 h_11 h_12 h_14 h_15 h_16 h_17 h_18 h_19 h_6; omega) | omega) ?_
    refine v_nrm (fun y_20 hy_20 => ?_)
    refine v_is rfl (ck_s hs) (by omega) (by decide) (by decide) ?_
    refine q_iconst rfl ?_
    refine v_zret rfl rfl (by decide) ?_
    have hI_21 := iw_row (a := s) (j := 4 * a2) (v := (((c s (4 * a2 + 1)) * y_7) / 10) + c s (4 * a2)) hIo (by omega) (Or.inl rfl) ⟨by omega, by omega, by omega⟩
    have hI_22 := iw_row (a := s) (j := 4 * a2 + 1) (v := (((c s (4 * a2 + 2)) * y_10) / 10) + c s (4 * a2 + 1) - (((c s (4 * a2 + 1)) * y_7) / 10)) hI_21 (by omega) (Or.inl rfl) ⟨by omega, by omega, by omega⟩
    have hI_23 := iw_row (a := s) (j := 4 * a2 + 2) (v := (((c s (4 * a2 + 3)) * y_13) / 10) + c s (4 * a2 + 2) - (((c s (4 * a2 + 2)) * y_10) / 10)) hI_22 (by omega) (Or.inl rfl) ⟨by omega, by omega, by omega⟩
    have hI_24 := iw_row (a := s) (j := 4 * a2 + 3) (v := c s (4 * a2 + 3) - (((c s (4 * a2 + 3)) * y_13) / 10)) hI_23 (by omega) (Or.inl rfl) ⟨by omega, by omega, by omega⟩
    have hI_25 := iw_row (a := s) (j := 4 * a2) (v := (((c s (4 * a2 + 1)) * y_7) / 10) + c s (4 * a2) - ((((((c s (4 * a2 + 1)) * y_7) / 10) + c s (4 * a2)) * (c P 3)) / 100)) hI_24 (by omega) (Or.inl rfl) ⟨by omega, by omega, by omega⟩
    have hI_26 := iw_row (a := s) (j := 32) (v := y_20) hI_25 (by omega) (Or.inr (by omega)) ⟨by omega, by omega, by omega⟩
    have hr_27 : ∀ j : Int, rs s j → (up (up (up (up (up (up c s (4 * a2) ((((c s (4 * a2 + 1)) * y_7) / 10) + c s (4 * a2))) s (4 * a2 + 1) ((((c s (4 * a2 + 2)) * y_10) / 10) + c s (4 * a2 + 1) - (((c s (4 * a2 + 1)) * y_7) / 10))) s (4 * a2 + 2) ((((c s (4 * a2 + 3)) * y_13) / 10) + c s (4 * a2 + 2) - (((c s (4 * a2 + 2)) * y_10) / 10))) s (4 * a2 + 3) (c s (4 * a2 + 3) - (((c s (4 * a2 + 3)) * y_13) / 10))) s (4 * a2) ((((c s (4 * a2 + 1)) * y_7) / 10) + c s (4 * a2) - ((((((c s (4 * a2 + 1)) * y_7) / 10) + c s (4 * a2)) * (c P 3)) / 100))) s 32 y_20) s j + (up (up (up (up (up (up c s (4 * a2) ((((c s (4 * a2 + 1)) * y_7) / 10) + c s (4 * a2))) s (4 * a2 + 1) ((((c s (4 * a2 + 2)) * y_10) / 10) + c s (4 * a2 + 1) - (((c s (4 * a2 + 1)) * y_7) / 10))) s (4 * a2 + 2) ((((c s (4 * a2 + 3)) * y_13) / 10) + c s (4 * a2 + 2) - (((c s (4 * a2 + 2)) * y_10) / 10))) s (4 * a2 + 3) (c s (4 * a2 + 3) - (((c s (4 * a2 + 3)) * y_13) / 10))) s (4 * a2) ((((c s (4 * a2 + 1)) * y_7) / 10) + c s (4 * a2) - ((((((c s (4 * a2 + 1)) * y_7) / 10) + c s (4 * a2)) * (c P 3)) / 100))) s 32 y_20) s (j + 1) + (up (up (up (up (up (up c s (4 * a2) ((((c s (4 * a2 + 1)) * y_7) / 10) + c s (4 * a2))) s (4 * a2 + 1) ((((c s (4 * a2 + 2)) * y_10) / 10) + c s (4 * a2 + 1) - (((c s (4 * a2 + 1)) * y_7) / 10))) s (4 * a2 + 2) ((((c s (4 * a2 + 3)) * y_13) / 10) + c s (4 * a2 + 2) - (((c s (4 * a2 + 2)) * y_10) / 10))) s (4 * a2 + 3) (c s (4 * a2 + 3) - (((c s (4 * a2 + 3)) * y_13) / 10))) s (4 * a2) ((((c s (4 * a2 + 1)) * y_7) / 10) + c s (4 * a2) - ((((((c s (4 * a2 + 1)) * y_7) / 10) + c s (4 * a2)) * (c P 3)) / 100))) s 32 y_20) s (j + 2) + (up (up (up (up (up (up c s (4 * a2) ((((c s (4 * a2 + 1)) * y_7) / 10) + c s (4 * a2))) s (4 * a2 + 1) ((((c s (4 * a2 + 2)) * y_10) / 10) + c s (4 * a2 + 1) - (((c s (4 * a2 + 1)) * y_7) / 10))) s (4 * a2 + 2) ((((c s (4 * a2 + 3)) * y_13) / 10) + c s (4 * a2 + 2) - (((c s (4 * a2 + 2)) * y_10) / 10))) s (4 * a2 + 3) (c s (4 * a2 + 3) - (((c s (4 * a2 + 3)) * y_13) / 10))) s (4 * a2) ((((c s (4 * a2 + 1)) * y_7) / 10) + c s (4 * a2) - ((((((c s (4 * a2 + 1)) * y_7) / 10) + c s (4 * a2)) * (c P 3)) / 100))) s 32 y_20) s (j + 3) ≤ 9999 := by
      intro j9 hj9
      obtain ⟨k9, rfl, hk9⟩ := rs_s hs hj9
      by_cases e_28 : k9 = a2
      · skip
        have h_29 : (up (up (up (up (up (up c s (4 * a2) ((((c s (4 * a2 + 1)) * y_7) / 10) + c s (4 * a2))) s (4 * a2 + 1) ((((c s (4 * a2 + 2)) * y_10) / 10) + c s (4 * a2 + 1) - (((c s (4 * a2 + 1)) * y_7) / 10))) s (4 * a2 + 2) ((((c s (4 * a2 + 3)) * y_13) / 10) + c s (4 * a2 + 2) - (((c s (4 * a2 + 2)) * y_10) / 10))) s (4 * a2 + 3) (c s (4 * a2 + 3) - (((c s (4 * a2 + 3)) * y_13) / 10))) s (4 * a2) ((((c s (4 * a2 + 1)) * y_7) / 10) + c s (4 * a2) - ((((((c s (4 * a2 + 1)) * y_7) / 10) + c s (4 * a2)) * (c P 3)) / 100))) s 32 y_20) s (4 * k9) = (((c s (4 * a2 + 1)) * y_7) / 10) + c s (4 * a2) - ((((((c s (4 * a2 + 1)) * y_7) / 10) + c s (4 * a2)) * (c P 3)) / 100) := (congrArg ((up (up (up (up (up (up c s (4 * a2) ((((c s (4 * a2 + 1)) * y_7) / 10) + c s (4 * a2))) s (4 * a2 + 1) ((((c s (4 * a2 + 2)) * y_10) / 10) + c s (4 * a2 + 1) - (((c s (4 * a2 + 1)) * y_7) / 10))) s (4 * a2 + 2) ((((c s (4 * a2 + 3)) * y_13) / 10) + c s (4 * a2 + 2) - (((c s (4 * a2 + 2)) * y_10) / 10))) s (4 * a2 + 3) (c s (4 * a2 + 3) - (((c s (4 * a2 + 3)) * y_13) / 10))) s (4 * a2) ((((c s (4 * a2 + 1)) * y_7) / 10) + c s (4 * a2) - ((((((c s (4 * a2 + 1)) * y_7) / 10) + c s (4 * a2)) * (c P 3)) / 100))) s 32 y_20) s) (show 4 * k9 = 4 * a2 from by omega)).trans ((up_n (by omega)).trans (up_e rfl))
        have h_30 : (up (up (up (up (up (up c s (4 * a2) ((((c s (4 * a2 + 1)) * y_7) / 10) + c s (4 * a2))) s (4 * a2 + 1) ((((c s (4 * a2 + 2)) * y_10) / 10) + c s (4 * a2 + 1) - (((c s (4 * a2 + 1)) * y_7) / 10))) s (4 * a2 + 2) ((((c s (4 * a2 + 3)) * y_13) / 10) + c s (4 * a2 + 2) - (((c s (4 * a2 + 2)) * y_10) / 10))) s (4 * a2 + 3) (c s (4 * a2 + 3) - (((c s (4 * a2 + 3)) * y_13) / 10))) s (4 * a2) ((((c s (4 * a2 + 1)) * y_7) / 10) + c s (4 * a2) - ((((((c s (4 * a2 + 1)) * y_7) / 10) + c s (4 * a2)) * (c P 3)) / 100))) s 32 y_20) s (4 * k9 + 1) = (((c s (4 * a2 + 2)) * y_10) / 10) + c s (4 * a2 + 1) - (((c s (4 * a2 + 1)) * y_7) / 10) := (congrArg ((up (up (up (up (up (up c s (4 * a2) ((((c s (4 * a2 + 1)) * y_7) / 10) + c s (4 * a2))) s (4 * a2 + 1) ((((c s (4 * a2 + 2)) * y_10) / 10) + c s (4 * a2 + 1) - (((c s (4 * a2 + 1)) * y_7) / 10))) s (4 * a2 + 2) ((((c s (4 * a2 + 3)) * y_13) / 10) + c s (4 * a2 + 2) - (((c s (4 * a2 + 2)) * y_10) / 10))) s (4 * a2 + 3) (c s (4 * a2 + 3) - (((c s (4 * a2 + 3)) * y_13) / 10))) s (4 * a2) ((((c s (4 * a2 + 1)) * y_7) / 10) + c s (4 * a2) - ((((((c s (4 * a2 + 1)) * y_7) / 10) + c s (4 * a2)) * (c P 3)) / 100))) s 32 y_20) s) (show 4 * k9 + 1 = 4 * a2 + 1 from by omega)).trans ((up_n (by omega)).trans ((up_n (by omega)).trans ((up_n (by omega)).trans ((up_n (by omega)).trans (up_e rfl)))))
        have h_31 : (up (up (up (up (up (up c s (4 * a2) ((((c s (4 * a2 + 1)) * y_7) / 10) + c s (4 * a2))) s (4 * a2 + 1) ((((c s (4 * a2 + 2)) * y_10) / 10) + c s (4 * a2 + 1) - (((c s (4 * a2 + 1)) * y_7) / 10))) s (4 * a2 + 2) ((((c s (4 * a2 + 3)) * y_13) / 10) + c s (4 * a2 + 2) - (((c s (4 * a2 + 2)) * y_10) / 10))) s (4 * a2 + 3) (c s (4 * a2 + 3) - (((c s (4 * a2 + 3)) * y_13) / 10))) s (4 * a2) ((((c s (4 * a2 + 1)) * y_7) / 10) + c s (4 * a2) - ((((((c s (4 * a2 + 1)) * y_7) / 10) + c s (4 * a2)) * (c P 3)) / 100))) s 32 y_20) s (4 * k9 + 2) = (((c s (4 * a2 + 3)) * y_13) / 10) + c s (4 * a2 + 2) - (((c s (4 * a2 + 2)) * y_10) / 10) := (congrArg ((up (up (up (up (up (up c s (4 * a2) ((((c s (4 * a2 + 1)) * y_7) / 10) + c s (4 * a2))) s (4 * a2 + 1) ((((c s (4 * a2 + 2)) * y_10) / 10) + c s (4 * a2 + 1) - (((c s (4 * a2 + 1)) * y_7) / 10))) s (4 * a2 + 2) ((((c s (4 * a2 + 3)) * y_13) / 10) + c s (4 * a2 + 2) - (((c s (4 * a2 + 2)) * y_10) / 10))) s (4 * a2 + 3) (c s (4 * a2 + 3) - (((c s (4 * a2 + 3)) * y_13) / 10))) s (4 * a2) ((((c s (4 * a2 + 1)) * y_7) / 10) + c s (4 * a2) - ((((((c s (4 * a2 + 1)) * y_7) / 10) + c s (4 * a2)) * (c P 3)) / 100))) s 32 y_20) s) (show 4 * k9 + 2 = 4 * a2 + 2 from by omega)).trans ((up_n (by omega)).trans ((up_n (by omega)).trans ((up_n (by omega)).trans (up_e rfl))))
        have h_32 : (up (up (up (up (up (up c s (4 * a2) ((((c s (4 * a2 + 1)) * y_7) / 10) + c s (4 * a2))) s (4 * a2 + 1) ((((c s (4 * a2 + 2)) * y_10) / 10) + c s (4 * a2 + 1) - (((c s (4 * a2 + 1)) * y_7) / 10))) s (4 * a2 + 2) ((((c s (4 * a2 + 3)) * y_13) / 10) + c s (4 * a2 + 2) - (((c s (4 * a2 + 2)) * y_10) / 10))) s (4 * a2 + 3) (c s (4 * a2 + 3) - (((c s (4 * a2 + 3)) * y_13) / 10))) s (4 * a2) ((((c s (4 * a2 + 1)) * y_7) / 10) + c s (4 * a2) - ((((((c s (4 * a2 + 1)) * y_7) / 10) + c s (4 * a2)) * (c P 3)) / 100))) s 32 y_20) s (4 * k9 + 3) = c s (4 * a2 + 3) - (((c s (4 * a2 + 3)) * y_13) / 10) := (congrArg ((up (up (up (up (up (up c s (4 * a2) ((((c s (4 * a2 + 1)) * y_7) / 10) + c s (4 * a2))) s (4 * a2 + 1) ((((c s (4 * a2 + 2)) * y_10) / 10) + c s (4 * a2 + 1) - (((c s (4 * a2 + 1)) * y_7) / 10))) s (4 * a2 + 2) ((((c s (4 * a2 + 3)) * y_13) / 10) + c s (4 * a2 + 2) - (((c s (4 * a2 + 2)) * y_10) / 10))) s (4 * a2 + 3) (c s (4 * a2 + 3) - (((c s (4 * a2 + 3)) * y_13) / 10))) s (4 * a2) ((((c s (4 * a2 + 1)) * y_7) / 10) + c s (4 * a2) - ((((((c s (4 * a2 + 1)) * y_7) / 10) + c s (4 * a2)) * (c P 3)) / 100))) s 32 y_20) s) (show 4 * k9 + 3 = 4 * a2 + 3 from by omega)).trans ((up_n (by omega)).trans ((up_n (by omega)).trans (up_e rfl)))
        omega
      have h_33 := iv_r hI s (4 * k9) hj9 (by omega)
      have h_34 := ir_s_g hI hs (j := 4 * k9) (by omega)
      have h_35 : (up (up (up (up (up (up c s (4 * a2) ((((c s (4 * a2 + 1)) * y_7) / 10) + c s (4 * a2))) s (4 * a2 + 1) ((((c s (4 * a2 + 2)) * y_10) / 10) + c s (4 * a2 + 1) - (((c s (4 * a2 + 1)) * y_7) / 10))) s (4 * a2 + 2) ((((c s (4 * a2 + 3)) * y_13) / 10) + c s (4 * a2 + 2) - (((c s (4 * a2 + 2)) * y_10) / 10))) s (4 * a2 + 3) (c s (4 * a2 + 3) - (((c s (4 * a2 + 3)) * y_13) / 10))) s (4 * a2) ((((c s (4 * a2 + 1)) * y_7) / 10) + c s (4 * a2) - ((((((c s (4 * a2 + 1)) * y_7) / 10) + c s (4 * a2)) * (c P 3)) / 100))) s 32 y_20) s (4 * k9) = c s (4 * k9) := ((up_n (by omega)).trans ((up_n (by omega)).trans ((up_n (by omega)).trans ((up_n (by omega)).trans ((up_n (by omega)).trans (up_n (by omega)))))))
      have h_36 := ir_s_g hI hs (j := 4 * k9 + 1) (by omega)
      have h_37 : (up (up (up (up (up (up c s (4 * a2) ((((c s (4 * a2 + 1)) * y_7) / 10) + c s (4 * a2))) s (4 * a2 + 1) ((((c s (4 * a2 + 2)) * y_10) / 10) + c s (4 * a2 + 1) - (((c s (4 * a2 + 1)) * y_7) / 10))) s (4 * a2 + 2) ((((c s (4 * a2 + 3)) * y_13) / 10) + c s (4 * a2 + 2) - (((c s (4 * a2 + 2)) * y_10) / 10))) s (4 * a2 + 3) (c s (4 * a2 + 3) - (((c s (4 * a2 + 3)) * y_13) / 10))) s (4 * a2) ((((c s (4 * a2 + 1)) * y_7) / 10) + c s (4 * a2) - ((((((c s (4 * a2 + 1)) * y_7) / 10) + c s (4 * a2)) * (c P 3)) / 100))) s 32 y_20) s (4 * k9 + 1) = c s (4 * k9 + 1) := ((up_n (by omega)).trans ((up_n (by omega)).trans ((up_n (by omega)).trans ((up_n (by omega)).trans ((up_n (by omega)).trans (up_n (by omega)))))))
      have h_38 := ir_s_g hI hs (j := 4 * k9 + 2) (by omega)
      have h_39 : (up (up (up (up (up (up c s (4 * a2) ((((c s (4 * a2 + 1)) * y_7) / 10) + c s (4 * a2))) s (4 * a2 + 1) ((((c s (4 * a2 + 2)) * y_10) / 10) + c s (4 * a2 + 1) - (((c s (4 * a2 + 1)) * y_7) / 10))) s (4 * a2 + 2) ((((c s (4 * a2 + 3)) * y_13) / 10) + c s (4 * a2 + 2) - (((c s (4 * a2 + 2)) * y_10) / 10))) s (4 * a2 + 3) (c s (4 * a2 + 3) - (((c s (4 * a2 + 3)) * y_13) / 10))) s (4 * a2) ((((c s (4 * a2 + 1)) * y_7) / 10) + c s (4 * a2) - ((((((c s (4 * a2 + 1)) * y_7) / 10) + c s (4 * a2)) * (c P 3)) / 100))) s 32 y_20) s (4 * k9 + 2) = c s (4 * k9 + 2) := ((up_n (by omega)).trans ((up_n (by omega)).trans ((up_n (by omega)).trans ((up_n (by omega)).trans ((up_n (by omega)).trans (up_n (by omega)))))))
      have h_40 := ir_s_g hI hs (j := 4 * k9 + 3) (by omega)
      have h_41 : (up (up (up (up (up (up c s (4 * a2) ((((c s (4 * a2 + 1)) * y_7) / 10) + c s (4 * a2))) s (4 * a2 + 1) ((((c s (4 * a2 + 2)) * y_10) / 10) + c s (4 * a2 + 1) - (((c s (4 * a2 + 1)) * y_7) / 10))) s (4 * a2 + 2) ((((c s (4 * a2 + 3)) * y_13) / 10) + c s (4 * a2 + 2) - (((c s (4 * a2 + 2)) * y_10) / 10))) s (4 * a2 + 3) (c s (4 * a2 + 3) - (((c s (4 * a2 + 3)) * y_13) / 10))) s (4 * a2) ((((c s (4 * a2 + 1)) * y_7) / 10) + c s (4 * a2) - ((((((c s (4 * a2 + 1)) * y_7) / 10) + c s (4 * a2)) * (c P 3)) / 100))) s 32 y_20) s (4 * k9 + 3) = c s (4 * k9 + 3) := ((up_n (by omega)).trans ((up_n (by omega)).trans ((up_n (by omega)).trans ((up_n (by omega)).trans ((up_n (by omega)).trans (up_n (by omega)))))))
      omega
    have hI_42 := iv_close hI_26 hr_27
    exact K (up (up (up (up (up (up c s (4 * a2) ((((c s (4 * a2 + 1)) * y_7) / 10) + c s (4 * a2))) s (4 * a2 + 1) ((((c s (4 * a2 + 2)) * y_10) / 10) + c s (4 * a2 + 1) - (((c s (4 * a2 + 1)) * y_7) / 10))) s (4 * a2 + 2) ((((c s (4 * a2 + 3)) * y_13) / 10) + c s (4 * a2 + 2) - (((c s (4 * a2 + 2)) * y_10) / 10))) s (4 * a2 + 3) (c s (4 * a2 + 3) - (((c s (4 * a2 + 3)) * y_13) / 10))) s (4 * a2) ((((c s (4 * a2 + 1)) * y_7) / 10) + c s (4 * a2) - ((((((c s (4 * a2 + 1)) * y_7) / 10) + c s (4 * a2)) * (c P 3)) / 100))) s 32 y_20) 1 hI_42 (fun a j hm => (up_b (Decidable.or_iff_not_imp_left.mpr (fun h1 h2 => hm (Decidable.not_not.mp h1)))).trans ((up_b (Decidable.or_iff_not_imp_left.mpr (fun h1 h2 => hm (Decidable.not_not.mp h1)))).trans ((up_b (Decidable.or_iff_not_imp_left.mpr (fun h1 h2 => hm (Decidable.not_not.mp h1)))).trans ((up_b (Decidable.or_iff_not_imp_left.mpr (fun h1 h2 => hm (Decidable.not_not.mp h1)))).trans ((up_b (Decidable.or_iff_not_imp_left.mpr (fun h1 h2 => hm (Decidable.not_not.mp h1)))).trans (up_b (Decidable.or_iff_not_imp_left.mpr (fun h1 h2 => hm (Decidable.not_not.mp h1))))))))) ⟨by decide, by decide⟩
  · refine v_if_ne_f (t := 10) rfl (by decide) (Decidable.not_not.mp h_6) ?_
    refine q_iconst rfl ?_
    refine v_zret rfl rfl (by decide) ?_
    have hr_43 : ∀ j : Int, rs s j → c s j + c s (j + 1) + c s (j + 2) + c s (j + 3) ≤ 9999 := by
      intro j9 hj9
      obtain ⟨k9, rfl, hk9⟩ := rs_s hs hj9
      by_cases e_44 : k9 = a2
      · skip
        have h_45 : c s (4 * k9) = c s (4 * a2) := (congrArg (c s) (show 4 * k9 = 4 * a2 from by omega))
        have h_46 : c s (4 * k9 + 1) = c s (4 * a2 + 1) := (congrArg (c s) (show 4 * k9 + 1 = 4 * a2 + 1 from by omega))
        have h_47 : c s (4 * k9 + 2) = c s (4 * a2 + 2) := (congrArg (c s) (show 4 * k9 + 2 = 4 * a2 + 2 from by omega))
        have h_48 : c s (4 * k9 + 3) = c s (4 * a2 + 3) := (congrArg (c s) (show 4 * k9 + 3 = 4 * a2 + 3 from by omega))
        omega
      have h_49 := iv_r hI s (4 * k9) hj9 (by omega)
      have h_50 := ir_s_g hI hs (j := 4 * k9) (by omega)
      have h_51 : c s (4 * k9) = c s (4 * k9) := rfl
      have h_52 := ir_s_g hI hs (j := 4 * k9 + 1) (by omega)
      have h_53 : c s (4 * k9 + 1) = c s (4 * k9 + 1) := rfl
      have h_54 := ir_s_g hI hs (j := 4 * k9 + 2) (by omega)
      have h_55 : c s (4 * k9 + 2) = c s (4 * k9 + 2) := rfl
      have h_56 := ir_s_g hI hs (j := 4 * k9 + 3) (by omega)
      have h_57 : c s (4 * k9 + 3) = c s (4 * k9 + 3) := rfl
      omega
    have hI_58 := iv_close hIo hr_43
    exact K c 0 hI_58 (fun a j hm => rfl) ⟨by decide, by decide⟩

set_option maxRecDepth 100000 in
set_option maxHeartbeats 4000000 in
theorem s_45 {sc : List Int32} {e : Int} {d u P Q sh s : Nat} {c : ME} {v1 r : Int} {a1 : Int} {a2 : Int} {Z : AR → Prop} (hI : Iv u e P Q c) (hs : (sh = 37 ∧ s = 38) ∨ (sh = 39 ∧ s = 40)) (ha1 : 0 ≤ a1 ∧ a1 ≤ 5) (ha2 : 0 ≤ a2 ∧ a2 ≤ 3) (hv0 : c s (4 * a1 + a2) = v1) (hr9 : v1 = r) (K : Z (.inl (some (vi r)), Wd P Q P P c, 0, 0)) : Wp sc (d + 7) 45 0 [(0, .ref sh), (1, vi a1), (2, vi a2)] [] (Wd P Q P P c) 0 0 Z := by
  have hP := iv_P hI
  have hQ := iv_Q hI
  have h_1 := ir_s_g hI hs (j := 4 * a1 + a2) (by omega)
  refine q_aload_n rfl rfl ?_
  refine v_gr (t := s) rfl rfl (ck_sh hs) (by omega) rfl ?_
  refine q_iload_n rfl rfl ?_
  refine q_iconst rfl ?_
  refine v_imul (v := 4 * a1) rfl (by omega) ?_
  refine q_iload_n rfl rfl ?_
  refine v_iadd (v := 4 * a1 + a2) rfl rfl ?_
  refine v_ia (v := v1) rfl (ck_s hs) (by omega) (by decide) (by omega) (hv0) ?_
  refine q_iret rfl rfl ?_
  exact zv (by omega) (K)

set_option maxRecDepth 100000 in
set_option maxHeartbeats 4000000 in
theorem s_46 {sc : List Int32} {e : Int} {d u P Q sh s : Nat} {c : ME} {v1 r : Int} {a1 : Int} {Z : AR → Prop} (hI : Iv u e P Q c) (hs : (sh = 37 ∧ s = 38) ∨ (sh = 39 ∧ s = 40)) (ha1 : 0 ≤ a1 ∧ a1 ≤ 3) (hv0 : c s 30 = v1) (hr9 : tb v1 a1 = r) (K : Z (.inl (some (vi r)), Wd P Q P P c, 0, 0)) : Wp sc (d + 7) 46 0 [(0, .ref sh), (1, vi a1)] [] (Wd P Q P P c) 0 0 Z := by
  refine q_aload_n rfl rfl ?_
  refine v_gr (t := s) rfl rfl (ck_sh hs) (by omega) rfl ?_
  refine v_bip rfl (by decide) ?_
  refine v_ia (v := v1) rfl (ck_s hs) (by omega) (by decide) (by decide) hv0 ?_
  refine q_iload_n rfl rfl ?_
  refine q_ishr rfl ?_
  refine q_iconst rfl ?_
  refine q_iand rfl ?_
  refine q_iconst rfl ?_
  by_cases h : ((Int32.ofInt v1 >>> (Int32.ofInt a1 &&& 31)) &&& 1) = 1
  · refine q_ic_ne_f (t := 19) rfl (by decide) (fun q => q h) ?_
    refine q_iconst rfl ?_
    refine q_goto (t := 20) rfl (by decide) ?_
    refine v_zret (a := 1) rfl rfl (by decide) ?_
    exact zv (by rw [← hr9]; unfold tb; rw [if_pos h]) K
  · refine q_ic_ne_t (t := 19) rfl (by decide) h ?_
    refine q_iconst rfl ?_
    refine v_zret (a := 0) rfl rfl (by decide) ?_
    exact zv (by rw [← hr9]; unfold tb; rw [if_neg h]) K

set_option maxRecDepth 100000 in
set_option maxHeartbeats 4000000 in
theorem s_47 {sc : List Int32} {e : Int} {d u P Q sh s : Nat} {c : ME} {v1 v2 r : Int} {a1 : Int} {a2 : Int} {a3 : Int} {Z : AR → Prop} (hI : Iv u e P Q c) (hs : (sh = 37 ∧ s = 38) ∨ (sh = 39 ∧ s = 40)) (ha1 : 0 ≤ a1 ∧ a1 ≤ 3) (ha2 : 0 ≤ a2 ∧ a2 ≤ 3) (ha3 : 0 ≤ a3 ∧ a3 ≤ 9999) (hv0 : c (P + 3) a1 = v1) (hv1 : c s 30 = v2) (hr9 : fal v1 (tb v2 a1) a2 a3 = r) (K : Z (.inl (some (vi r)), Wd P Q P P c, 0, 0)) : Wp sc (d + 8) 47 0 [(0, .ref sh), (1, vi a1), (2, vi a2), (3, vi a3)] [] (Wd P Q P P c) 0 0 Z := by
  have hP := iv_P hI
  have hQ := iv_Q hI
  have h_1 := ir_p3 hI hP a1
  have h_2 := ir_s hI hs 30
  refine q_aload_n rfl rfl ?_
  refine v_gr (t := P) rfl rfl (ck_sh hs) (by omega) rfl ?_
  refine v_gr (t := (P + 3)) rfl rfl (ck_p0 hP) (a68z hP) rfl ?_
  refine q_iload_n rfl rfl ?_
  refine v_ia (v := v1) rfl (ck_p3 hP) (a68 hP rfl) (by decide) (by omega) (hv0) ?_
  refine q_istore rfl (by decide) ?_
  refine q_iload_n rfl rfl ?_
  refine q_iload rfl rfl ?_
  by_cases h_3 : a2 > v1
  · refine v_ic_gt_t (t := 19) rfl (by decide) ⟨by omega, h_3, (Int.le_trans ha2.2 (by decide))⟩ ?_
    refine q_iload_n rfl rfl ?_
    refine q_iload rfl rfl ?_
    refine q_iconst rfl ?_
    refine v_iadd (v := v1 + 1) rfl rfl ?_
    by_cases h_4 : a2 ≠ v1 + 1
    · refine v_ic_ne_t (t := 41) rfl (by decide) ⟨h_4, ⟨(Int.le_trans (by decide) ha2.1), (Int.le_trans ha2.2 (by decide))⟩, by omega, by omega⟩ ?_
      refine q_iconst rfl ?_
      refine q_iret rfl rfl ?_
      exact zv (by rw [← hr9]; unfold fal; split <;> first | omega | (split <;> omega)) (K)
    · refine v_ic_ne_f (t := 41) rfl (by decide) (Decidable.not_not.mp h_4) ?_
      refine q_aload_n rfl rfl ?_
      refine q_iload_n rfl rfl ?_
      have h_5 := tb_rng v2 a1
      refine v_cv rfl rfl rfl (ck_sh hs) (by omega) ⟨⟨rfl, rfl⟩, by decide, rfl⟩ (Nat.le_of_ble_eq_true rfl) (Nat.le_of_ble_eq_true rfl) (s_46 (v1 := v2) (r := (tb v2 a1)) (a1 := a1) hI hs (show 0 ≤ a1 ∧ a1 ≤ 3 from ha1) ((hv1)) rfl ?_)
      refine bk_inl ?_
      by_cases h_6 : (tb v2 a1) = 0
      · refine v_if_eq_t (t := 41) rfl (by decide) h_6 ?_
        refine q_iconst rfl ?_
        refine q_iret rfl rfl ?_
        exact zv (by rw [← hr9]; unfold fal; split <;> first | omega | (split <;> omega)) (K)
      · refine v_if_eq_f (t := 41) rfl (by decide) ⟨h_6, ⟨by omega, by omega⟩, by decide, by decide⟩ ?_
        refine q_iload_n rfl rfl ?_
        refine q_iconst rfl ?_
        refine v_idiv (v := (a3 / 2)) rfl (by omega) rfl ?_
        refine q_goto (t := 42) rfl (by decide) ?_
        refine q_iret rfl rfl ?_
        exact zv (by rw [← hr9]; unfold fal; split <;> first | omega | (split <;> omega)) (K)
  · refine v_ic_gt_f (t := 19) rfl (by decide) ⟨(Int.le_trans (by decide) ha2.1), (Int.not_lt.mp h_3), by omega⟩ ?_
    refine q_iload_n rfl rfl ?_
    refine q_iret rfl rfl ?_
    exact zv (by rw [← hr9]; unfold fal; split <;> first | omega | (split <;> omega)) (K)

set_option maxRecDepth 100000 in
set_option maxHeartbeats 4000000 in
theorem s_48 {sc : List Int32} {e : Int} {d u P Q sh s : Nat} {c : ME} {v1 v2 v3 r : Int} {a1 : Int} {a2 : Int} {a3 : Int} {Z : AR → Prop} (hI : Iv u e P Q c) (hs : (sh = 37 ∧ s = 38) ∨ (sh = 39 ∧ s = 40)) (ha1 : 0 ≤ a1 ∧ a1 ≤ 3) (ha2 : 0 ≤ a2 ∧ a2 ≤ 5) (ha3 : 0 ≤ a3 ∧ a3 ≤ 3) (hv0 : c (P + 3) a1 = v1) (hv1 : c s 30 = v2) (hv2 : c s (4 * a2 + a3) = v3) (hr9 : fal v1 (tb v2 a1) a3 v3 = r) (K : Z (.inl (some (vi r)), Wd P Q P P c, 0, 0)) : Wp sc (d + 9) 48 0 [(0, .ref sh), (1, vi a1), (2, vi a2), (3, vi a3)] [] (Wd P Q P P c) 0 0 Z := by
  have hP := iv_P hI
  have hQ := iv_Q hI
  have h_1 := ir_p3 hI hP a1
  have h_2 := ir_s hI hs 30
  have h_3 := ir_s_g hI hs (j := 4 * a2 + a3) (by omega)
  refine q_aload_n rfl rfl ?_
  refine q_iload_n rfl rfl ?_
  refine q_iload_n rfl rfl ?_
  refine q_aload_n rfl rfl ?_
  refine q_iload_n rfl rfl ?_
  refine q_iload_n rfl rfl ?_
  refine v_cv rfl rfl rfl (ck_sh hs) (by omega) ⟨⟨rfl, rfl⟩, by decide, rfl⟩ (Nat.le_of_ble_eq_true rfl) (Nat.le_of_ble_eq_true rfl) (s_45 (v1 := v3) (r := v3) (a1 := a2) (a2 := a3) hI hs (show 0 ≤ a2 ∧ a2 ≤ 5 from ha2) (show 0 ≤ a3 ∧ a3 ≤ 3 from ha3) ((hv2)) (by omega) ?_)
  refine bk_inl ?_
  have h_4 := fal_rng (m := v1) (t := tb v2 a1) (g := a3) (x := v3) (by omega)
  refine v_cv rfl rfl rfl (ck_sh hs) (by omega) ⟨⟨rfl, rfl⟩, by decide, rfl⟩ (Nat.le_of_ble_eq_true rfl) (Nat.le_of_ble_eq_true rfl) (s_47 (v1 := v1) (v2 := v2) (r := (fal v1 (tb v2 a1) a3 v3)) (a1 := a1) (a2 := a3) (a3 := v3) hI hs (show 0 ≤ a1 ∧ a1 ≤ 3 from ha1) (show 0 ≤ a3 ∧ a3 ≤ 3 from ha3) (show 0 ≤ v3 ∧ v3 ≤ 9999 from ⟨by omega, by omega⟩) ((hv0)) ((hv1)) rfl ?_)
  refine bk_inl ?_
  refine q_iret rfl rfl ?_
  exact zv hr9 (K)

set_option maxRecDepth 100000 in
set_option maxHeartbeats 4000000 in
theorem s_49 {sc : List Int32} {e : Int} {d u P Q sh s : Nat} {c : ME} {v1 v2 v3 v4 v5 v6 r : Int} {a1 : Int} {a2 : Int} {Z : AR → Prop} (hI : Iv u e P Q c) (hs : (sh = 37 ∧ s = 38) ∨ (sh = 39 ∧ s = 40)) (ha1 : 0 ≤ a1 ∧ a1 ≤ 3) (ha2 : 0 ≤ a2 ∧ a2 ≤ 5) (hv0 : c (P + 3) a1 = v1) (hv1 : c s 30 = v2) (hv2 : c s (4 * a2) = v3) (hv3 : c s (4 * a2 + 1) = v4) (hv4 : c s (4 * a2 + 2) = v5) (hv5 : c s (4 * a2 + 3) = v6) (hr9 : fal v1 (tb v2 a1) 0 v3 + fal v1 (tb v2 a1) 1 v4 + fal v1 (tb v2 a1) 2 v5 + fal v1 (tb v2 a1) 3 v6 = r) (K : Z (.inl (some (vi r)), Wd P Q P P c, 0, 0)) : Wp sc (d + 10) 49 0 [(0, .ref sh), (1, vi a1), (2, vi a2)] [] (Wd P Q P P c) 0 0 Z := by
  have hP := iv_P hI
  have hQ := iv_Q hI
  have h_1 := ir_p3 hI hP a1
  have h_2 := ir_s hI hs 30
  have h_3 := ir_s_g hI hs (j := 4 * a2) (by omega)
  have h_4 := ir_s_g hI hs (j := 4 * a2 + 1) (by omega)
  have h_5 := ir_s_g hI hs (j := 4 * a2 + 2) (by omega)
  have h_6 := ir_s_g hI hs (j := 4 * a2 + 3) (by omega)
  refine q_iconst rfl ?_
  refine q_istore_n rfl (by decide) ?_
  refine q_iconst rfl ?_
  refine q_istore rfl (by decide) ?_
  refine q_iload rfl rfl ?_
  refine q_iconst rfl ?_
  refine v_ic_ge_f (t := 28) rfl (by decide) (by decide) ?_
  refine q_iload_n rfl rfl ?_
  refine q_aload_n rfl rfl ?_
  refine q_iload_n rfl rfl ?_
  refine q_iload_n rfl rfl ?_
  refine q_iload rfl rfl ?_
  have h_7 := fal_rng (m := v1) (t := tb v2 a1) (g := 0) (x := v3) (by omega)
  refine v_cv rfl rfl rfl (ck_sh hs) (by omega) ⟨⟨rfl, rfl⟩, by decide, rfl⟩ (Nat.le_of_ble_eq_true rfl) (Nat.le_of_ble_eq_true rfl) (s_48 (v1 := v1) (v2 := v2) (v3 := v3) (r := (fal v1 (tb v2 a1) 0 v3)) (a1 := a1) (a2 := a2) (a3 := 0) hI hs (show 0 ≤ a1 ∧ a1 ≤ 3 from ha1) (show 0 ≤ a2 ∧ a2 ≤ 5 from ha2) (show 0 ≤ 0 ∧ 0 ≤ 3 from ⟨by decide, by decide⟩) ((hv0)) ((hv1)) ((congrArg (c s) (show 4 * a2 + 0 = 4 * a2 from by omega)).trans (hv2)) rfl ?_)
  refine bk_inl ?_
  refine v_iadd (v := (fal v1 (tb v2 a1) 0 v3)) rfl (by omega) ?_
  refine q_istore_n rfl (by decide) ?_
  refine v_iinc (v := 1) rfl rfl (by decide) (by decide) ?_
  refine q_goto (t := 5) rfl (by decide) ?_
  refine q_iload rfl rfl ?_
  refine q_iconst rfl ?_
  refine v_ic_ge_f (t := 28) rfl (by decide) (by decide) ?_
  refine q_iload_n rfl rfl ?_
  refine q_aload_n rfl rfl ?_
  refine q_iload_n rfl rfl ?_
  refine q_iload_n rfl rfl ?_
  refine q_iload rfl rfl ?_
  have h_8 := fal_rng (m := v1) (t := tb v2 a1) (g := 1) (x := v4) (by omega)
  refine v_cv rfl rfl rfl (ck_sh hs) (by omega) ⟨⟨rfl, rfl⟩, by decide, rfl⟩ (Nat.le_of_ble_eq_true rfl) (Nat.le_of_ble_eq_true rfl) (s_48 (v1 := v1) (v2 := v2) (v3 := v4) (r := (fal v1 (tb v2 a1) 1 v4)) (a1 := a1) (a2 := a2) (a3 := 1) hI hs (show 0 ≤ a1 ∧ a1 ≤ 3 from ha1) (show 0 ≤ a2 ∧ a2 ≤ 5 from ha2) (show 0 ≤ 1 ∧ 1 ≤ 3 from ⟨by decide, by decide⟩) ((hv0)) ((hv1)) ((hv3)) rfl ?_)
  refine bk_inl ?_
  refine v_iadd (v := (fal v1 (tb v2 a1) 0 v3) + (fal v1 (tb v2 a1) 1 v4)) rfl rfl ?_
  refine q_istore_n rfl (by decide) ?_
  refine Wp_ls [(3, vi ((fal v1 (tb v2 a1) 0 v3) + (fal v1 (tb v2 a1) 1 v4))), (4, vi 1), (0, .ref sh), (1, vi a1), (2, vi a2)] (lsub_cons rfl (lsub_cons rfl (lsub_cons rfl (lsub_cons rfl (lsub_cons rfl lsub_nil))))) ?_
  refine v_iinc (v := 2) rfl rfl (by decide) (by decide) ?_
  refine q_goto (t := 5) rfl (by decide) ?_
  refine q_iload rfl rfl ?_
  refine q_iconst rfl ?_
  refine v_ic_ge_f (t := 28) rfl (by decide) (by decide) ?_
  refine q_iload_n rfl rfl ?_
  refine q_aload_n rfl rfl ?_
  refine q_iload_n rfl rfl ?_
  refine q_iload_n rfl rfl ?_
  refine q_iload rfl rfl ?_
  have h_9 := fal_rng (m := v1) (t := tb v2 a1) (g := 2) (x := v5) (by omega)
  refine v_cv rfl rfl rfl (ck_sh hs) (by omega) ⟨⟨rfl, rfl⟩, by decide, rfl⟩ (Nat.le_of_ble_eq_true rfl) (Nat.le_of_ble_eq_true rfl) (s_48 (v1 := v1) (v2 := v2) (v3 := v5) (r := (fal v1 (tb v2 a1) 2 v5)) (a1 := a1) (a2 := a2) (a3 := 2) hI hs (show 0 ≤ a1 ∧ a1 ≤ 3 from ha1) (show 0 ≤ a2 ∧ a2 ≤ 5 from ha2) (show 0 ≤ 2 ∧ 2 ≤ 3 from ⟨by decide, by decide⟩) ((hv0)) ((hv1)) ((hv4)) rfl ?_)
  refine bk_inl ?_
  refine v_iadd (v := (fal v1 (tb v2 a1) 0 v3) + (fal v1 (tb v2 a1) 1 v4) + (fal v1 (tb v2 a1) 2 v5)) rfl rfl ?_
  refine q_istore_n rfl (by decide) ?_
  refine v_iinc (v := 3) rfl rfl (by decide) (by decide) ?_
  refine q_goto (t := 5) rfl (by decide) ?_
  refine q_iload rfl rfl ?_
  refine q_iconst rfl ?_
  refine v_ic_ge_f (t := 28) rfl (by decide) (by decide) ?_
  refine q_iload_n rfl rfl ?_
  refine q_aload_n rfl rfl ?_
  refine q_iload_n rfl rfl ?_
  refine q_iload_n rfl rfl ?_
  refine q_iload rfl rfl ?_
  have h_10 := fal_rng (m := v1) (t := tb v2 a1) (g := 3) (x := v6) (by omega)
  refine v_cv rfl rfl rfl (ck_sh hs) (by omega) ⟨⟨rfl, rfl⟩, by decide, rfl⟩ (Nat.le_of_ble_eq_true rfl) (Nat.le_of_ble_eq_true rfl) (s_48 (v1 := v1) (v2 := v2) (v3 := v6) (r := (fal v1 (tb v2 a1) 3 v6)) (a1 := a1) (a2 := a2) (a3 := 3) hI hs (show 0 ≤ a1 ∧ a1 ≤ 3 from ha1) (show 0 ≤ a2 ∧ a2 ≤ 5 from ha2) (show 0 ≤ 3 ∧ 3 ≤ 3 from ⟨by decide, by decide⟩) ((hv0)) ((hv1)) ((hv5)) rfl ?_)
  refine bk_inl ?_
  refine v_iadd (v := (fal v1 (tb v2 a1) 0 v3) + (fal v1 (tb v2 a1) 1 v4) + (fal v1 (tb v2 a1) 2 v5) + (fal v1 (tb v2 a1) 3 v6)) rfl rfl ?_
  refine q_istore_n rfl (by decide) ?_
  refine v_iinc (v := 4) rfl rfl (by decide) (by decide) ?_
  refine Wp_ls [(4, vi 4), (3, vi ((fal v1 (tb v2 a1) 0 v3) + (fal v1 (tb v2 a1) 1 v4) + (fal v1 (tb v2 a1) 2 v5) + (fal v1 (tb v2 a1) 3 v6))), (0, .ref sh), (1, vi a1), (2, vi a2)] (lsub_cons rfl (lsub_cons rfl (lsub_cons rfl (lsub_cons rfl (lsub_cons rfl lsub_nil))))) ?_
  refine q_goto (t := 5) rfl (by decide) ?_
  refine q_iload rfl rfl ?_
  refine q_iconst rfl ?_
  refine v_ic_ge_t (t := 28) rfl (by decide) (by decide) ?_
  refine q_iload_n rfl rfl ?_
  refine q_iret rfl rfl ?_
  exact zv (by omega) (K)

set_option maxRecDepth 100000 in
set_option maxHeartbeats 4000000 in
theorem s_51 {sc : List Int32} {e : Int} {d u P Q sh s : Nat} {c : ME} {a1 : Int} {Z : AR → Prop} (hI : Iv u e P Q c) (hs : (sh = 37 ∧ s = 38) ∨ (sh = 39 ∧ s = 40)) (ha1 : 0 ≤ a1 ∧ a1 ≤ 5) (K : ∀ (y : Int), (-2147483648) ≤ y ∧ y ≤ 2147483647 → Z (.inl (some (vi y)), Wd P Q P P c, 0, 0)) : Wp sc (d + 7) 51 0 [(0, .ref sh), (1, vi a1)] [] (Wd P Q P P c) 0 0 Z := by
  have hP := iv_P hI
  have hQ := iv_Q hI
  refine q_aload_n rfl rfl ?_
  refine v_gr (t := s) rfl rfl (ck_sh hs) (by omega) rfl ?_
  refine v_bip rfl (by decide) ?_
  refine q_iload_n rfl rfl ?_
  refine v_iadd (v := a1 + 24) rfl (by omega) ?_
  have h_1 := ir_s hI hs (a1 + 24)
  refine v_ia (v := c s (a1 + 24)) rfl (ck_s hs) (by omega) (by decide) (by omega) rfl ?_
  refine q_iret rfl rfl ?_
  exact K (c s (a1 + 24)) h_1

set_option maxRecDepth 100000 in
set_option maxHeartbeats 4000000 in
theorem s_52 {sc : List Int32} {d P Q sh s : Nat} {c : ME} {a1 : Int} {a2 : Int} {a3 : Int} {a4 : Int} {Z : AR → Prop} (hI : Iv s (-1) P Q c) (hs : (sh = 37 ∧ s = 38) ∨ (sh = 39 ∧ s = 40)) (ha1 : 0 ≤ a1 ∧ a1 ≤ 5) (ha2 : 0 ≤ a2 ∧ a2 ≤ 5) (ha3 : 0 ≤ a3 ∧ a3 ≤ 3) (ha4 : 0 ≤ a4 ∧ a4 ≤ 9999) (hq0 : (a1 < a2) ∨ (a1 > a2)) (hq1 : (a4 ≤ c s (4 * a1 + a3))) (hq2 : (a4 + c s (4 * a2 + a3) ≤ 9999)) (K : ∀ (c2 : ME), Iv s (-1) P Q c2 → (∀ (a : Nat) (j : Int), ¬ ((a = s ∧ j = 4 * a1 + a3) ∨ (a = s ∧ j = 4 * a2 + a3) ∨ (a = s ∧ j = a2 + 24)) → c2 a j = c a j) → ((c2 s (4 * a1 + a3) = c s (4 * a1 + a3) - a4 ∧ c2 s (4 * a2 + a3) = a4 + c s (4 * a2 + a3))) → Z (.inl (none), Wd P Q P P c2, 0, 0)) : Wp sc (d + 8) 52 0 [(0, .ref sh), (1, vi a1), (2, vi a2), (3, vi a3), (4, vi a4)] [] (Wd P Q P P c) 0 0 Z := by
  have hP := iv_P hI
  have hQ := iv_Q hI
  have h_1 := ir_s_g hI hs (j := 4 * a1 + a3) (by omega)
  have h_2 := ir_s_g hI hs (j := 4 * a2 + a3) (by omega)
  refine q_iload rfl rfl ?_
  by_cases h_3 : a4 ≤ 0
  · refine v_if_le_t (t := 57) rfl (by decide) ⟨(Int.le_trans (by decide) ha4.1), h_3, by decide⟩ ?_
    refine q_vret rfl rfl ?_
    exact K c hI (fun a j hm => rfl) ⟨by omega, by omega⟩
  · refine v_if_le_f (t := 57) rfl (by decide) ⟨by decide, (Int.not_le.mp h_3), (Int.le_trans ha4.2 (by decide))⟩ ?_
    refine q_aload_n rfl rfl ?_
    refine v_gr (t := s) rfl rfl (ck_sh hs) (by omega) rfl ?_
    refine q_iload_n rfl rfl ?_
    refine q_iconst rfl ?_
    refine v_imul (v := 4 * a1) rfl (by omega) ?_
    refine q_iload_n rfl rfl ?_
    refine v_iadd (v := 4 * a1 + a3) rfl rfl ?_
    refine q_dup2 rfl ⟨rfl, rfl⟩ ?_
    refine v_ia (v := c s (4 * a1 + a3)) rfl (ck_s hs) (by omega) (by decide) (by omega) rfl ?_
    refine q_iload rfl rfl ?_
    refine v_isub (v := c s (4 * a1 + a3) - a4) rfl rfl ?_
    refine v_is rfl (ck_s hs) (by omega) (by decide) (by omega) ?_
    refine q_aload_n rfl rfl ?_
    refine v_gr (t := s) rfl rfl (ck_sh hs) (by omega) rfl ?_
    refine q_iload_n rfl rfl ?_
    refine q_iconst rfl ?_
    refine v_imul (v := 4 * a2) rfl (by omega) ?_
    refine q_iload_n rfl rfl ?_
    refine v_iadd (v := 4 * a2 + a3) rfl rfl ?_
    refine q_dup2 rfl ⟨rfl, rfl⟩ ?_
    refine v_ia (v := c s (4 * a2 + a3)) rfl (ck_s hs) (by omega) (by decide) (by omega) (up_n (by omega)) ?_
    refine q_iload rfl rfl ?_
    refine v_iadd (v := a4 + c s (4 * a2 + a3)) rfl (by omega) ?_
    refine v_is rfl (ck_s hs) (by omega) (by decide) (by omega) ?_
    refine q_aload_n rfl rfl ?_
    refine v_gr (t := s) rfl rfl (ck_sh hs) (by omega) rfl ?_
    refine v_bip rfl (by decide) ?_
    refine q_iload_n rfl rfl ?_
    refine v_iadd (v := a2 + 24) rfl (by omega) ?_
    refine q_aload_n rfl rfl ?_
    refine q_iload_n rfl rfl ?_
    have hI_4 := iw_row (a := s) (j := 4 * a1 + a3) (v := c s (4 * a1 + a3) - a4) hI (by omega) (Or.inl rfl) ⟨by omega, by omega, by omega⟩
    have hI_5 := iw_row (a := s) (j := 4 * a2 + a3) (v := a4 + c s (4 * a2 + a3)) hI_4 (by omega) (Or.inl rfl) ⟨by omega, by omega, by omega⟩
    refine v_cv rfl rfl rfl (ck_sh hs) (by omega) ⟨⟨rfl, rfl⟩, by decide, rfl⟩ (Nat.le_of_ble_eq_true rfl) (Nat.le_of_ble_eq_true rfl) (s_51 (a1 := a2) hI_5 hs (show 0 ≤ a2 ∧ a2 ≤ 5 from ha2) (fun y_6 hy_6 => ?_))
    refine bk_inl ?_
    refine q_aload_n rfl rfl ?_
    refine q_iload_n rfl rfl ?_
    refine v_cv rfl rfl rfl (ck_sh hs) (by omega) ⟨⟨rfl, rfl⟩, by decide, rfl⟩ (Nat.le_of_ble_eq_true rfl) (Nat.le_of_ble_eq_true rfl) (s_51 (a1 := a1) hI_5 hs (show 0 ≤ a1 ∧ a1 ≤ 5 from ha1) (fun y_7 hy_7 => ?_))
    refine bk_inl ?_
    refine v_maxx rfl rfl (by omega) (Nat.le_of_ble_eq_true rfl) ⟨by omega, by omega, by omega, by omega⟩ (fun y_8 hy_8 => ?_)
    refine v_is rfl (ck_s hs) (by omega) (by decide) (by omega) ?_
    refine q_vret rfl rfl ?_
    have hI_9 := iw_row (a := s) (j := a2 + 24) (v := y_8) hI_5 (by omega) (Or.inr (by omega)) ⟨by omega, by omega, by omega⟩
    have h_10 : (up (up (up c s (4 * a1 + a3) (c s (4 * a1 + a3) - a4)) s (4 * a2 + a3) (a4 + c s (4 * a2 + a3))) s (a2 + 24) y_8) s (4 * a1 + a3) = c s (4 * a1 + a3) - a4 := ((up_n (by omega)).trans ((up_n (by omega)).trans (up_e rfl)))
    have h_11 : (up (up (up c s (4 * a1 + a3) (c s (4 * a1 + a3) - a4)) s (4 * a2 + a3) (a4 + c s (4 * a2 + a3))) s (a2 + 24) y_8) s (4 * a2 + a3) = a4 + c s (4 * a2 + a3) := ((up_n (by omega)).trans (up_e rfl))
    exact K (up (up (up c s (4 * a1 + a3) (c s (4 * a1 + a3) - a4)) s (4 * a2 + a3) (a4 + c s (4 * a2 + a3))) s (a2 + 24) y_8) hI_9 (fun a j hm => (up_b (Decidable.or_iff_not_imp_left.mpr (fun h1 h2 => hm (Or.inr (Or.inr ⟨Decidable.not_not.mp h1, h2⟩))))).trans ((up_b (Decidable.or_iff_not_imp_left.mpr (fun h1 h2 => hm (Or.inr (Or.inl ⟨Decidable.not_not.mp h1, h2⟩))))).trans (up_b (Decidable.or_iff_not_imp_left.mpr (fun h1 h2 => hm (Or.inl ⟨Decidable.not_not.mp h1, h2⟩)))))) ⟨by omega, by omega⟩

