/-! ===== contracts 6 ===== -/
set_option maxRecDepth 100000 in
set_option maxHeartbeats 4000000 in
theorem s_63_l {sc : List Int32} {d P Q : Nat} {c : ME} {a2 : Int} {a3 : Int} {a4 : Int} {Z : AR → Prop} (hI : Iv 0 (-1) P Q c) (ha2 : 0 ≤ a2 ∧ a2 ≤ 38) (ha3 : 0 ≤ a3 ∧ a3 ≤ 38) (ha4 : 0 ≤ a4 ∧ a4 ≤ 7) (H63 : ∀ (c : ME) (a2 : Int) (a3 : Int) (Z : AR → Prop), a4 + 1 ≤ 7 → Iv 0 (-1) P Q c → 0 ≤ a2 ∧ a2 ≤ 38 → 0 ≤ a3 ∧ a3 ≤ 38 → (∀ c2 : ME, Iv 0 (-1) P Q c2 → (∀ (a : Nat) (j : Int), ¬ ((a = 7 ∧ j = 1) ∨ (a = 7 ∧ j = 3) ∨ (a = 7 ∧ j = 4) ∨ a = 38 ∨ a = (P + 10) ∨ a = (P + 11)) → c2 a j = c a j) → (c2 7 1 ≥ c 7 1) → Z (.inl none, Wd P Q P P c2, 0, 0)) → Wp sc (d + 13) 63 0 [(0, .ref 7), (1, .ref 37), (2, vi a2), (3, vi a3), (4, vi (a4 + 1))] [] (Wd P Q P P c) 0 0 Z) (K : ∀ (c2 : ME), Iv 0 (-1) P Q c2 → (∀ (a : Nat) (j : Int), ¬ ((a = 7 ∧ j = 1) ∨ (a = 7 ∧ j = 3) ∨ (a = 7 ∧ j = 4) ∨ a = 38 ∨ a = (P + 10) ∨ a = (P + 11)) → c2 a j = c a j) → ((c2 7 1 ≥ c 7 1)) → Z (.inl (none), Wd P Q P P c2, 0, 0)) : ∀ n : Nat, (∀ (c2 : ME) (v5 : Int), Iv 0 (-1) P Q c2 → (∀ (a : Nat) (j : Int), ¬ ((a = 7 ∧ j = 1) ∨ (a = 7 ∧ j = 3) ∨ (a = 7 ∧ j = 4) ∨ a = 38 ∨ a = (P + 10) ∨ a = (P + 11)) → c2 a j = c a j) → 0 ≤ v5 ∧ v5 ≤ 38 → ((c2 7 1 ≥ c 7 1)) → 40002000 - 200010 * c2 7 1 < (n : Int) → Wp sc (d + 14) 63 3 [(0, .ref 7), (1, .ref 37), (2, vi a2), (3, vi a3), (4, vi a4), (5, vi v5)] [] (Wd P Q P P c2) 0 0 Z) ∧ (∀ (c2 : ME) (v5 : Int) (v6 : Int) (v7 : Int) (v8 : Int), Iv 0 (-1) P Q c2 → (∀ (a : Nat) (j : Int), ¬ ((a = 7 ∧ j = 1) ∨ (a = 7 ∧ j = 3) ∨ (a = 7 ∧ j = 4) ∨ a = 38 ∨ a = (P + 10) ∨ a = (P + 11)) → c2 a j = c a j) → 1 ≤ v5 ∧ v5 ≤ 38 → 0 ≤ v6 ∧ v6 ≤ 185 → 0 ≤ v7 ∧ v7 ≤ 38 → 0 ≤ v8 ∧ v8 ≤ 99999 → ((v6 = 5 * v5 - 5)) → ((v6 ≥ 0)) → ((a4 ≤ 6)) → ((c2 7 1 ≥ c 7 1)) → 40202003 - 200010 * c2 7 1 - 2 * v8 < (n : Int) → Wp sc (d + 14) 63 71 [(0, .ref 7), (1, .ref 37), (2, vi a2), (3, vi a3), (4, vi a4), (5, vi v5), (6, vi v6), (7, vi v7), (8, vi v8)] [] (Wd P Q P P c2) 0 0 Z)
  | 0 => by exact ⟨by (intro c2 v5 hI2 hF hv5 hx0 hm9; have hP := iv_P hI; have hQ := iv_Q hI; have h_45 := ir_7_1 hI2; exfalso; omega), by (intro c2 v5 v6 v7 v8 hI2 hF hv5 hv6 hv7 hv8 hx0 hx1 hx2 hx3 hm9; have hP := iv_P hI; have hQ := iv_Q hI; have h_46 := ir_7_1 hI2; exfalso; omega)⟩
  | n + 1 => by
    have hP := iv_P hI
    have hQ := iv_Q hI
    have ih := s_63_l (sc := sc) (d := d) hI ha2 ha3 ha4 H63 K n
    refine ⟨?_, ?_⟩
    · skip
      intro c2 v5 hI2 hF hv5 hx0 hm9
      have h_1 := ir_7_1 hI
      have h_2 := ir_7_1 hI2
      refine q_iload rfl rfl ?_
      refine q_iload_n rfl rfl ?_
      by_cases h_3 : v5 ≥ a3
      · refine v_ic_ge_t (t := 162) rfl (by decide) ⟨(Int.le_trans (by decide) ha3.1), h_3, (Int.le_trans hv5.2 (by decide))⟩ ?_
        refine q_vret rfl rfl ?_
        exact K c2 hI2 (fun a j hm => hF a j (fun q => q.elim (fun h => hm (Or.inl h)) (fun q => q.elim (fun h => hm (Or.inr (Or.inl h))) (fun q => q.elim (fun h => hm (Or.inr (Or.inr (Or.inl h)))) (fun q => q.elim (fun h => hm (Or.inr (Or.inr (Or.inr (Or.inl h))))) (fun q => q.elim (fun h => hm (Or.inr (Or.inr (Or.inr (Or.inr (Or.inl h)))))) (fun h => hm (Or.inr (Or.inr (Or.inr (Or.inr (Or.inr h)))))))))))) (by omega)
      · refine v_ic_ge_f (t := 162) rfl (by decide) ⟨(Int.le_trans (by decide) hv5.1), (Int.not_le.mp h_3), (Int.le_trans ha3.2 (by decide))⟩ ?_
        refine q_aload_n rfl rfl ?_
        refine v_gi (z := 1) (v := c2 7 1) rfl rfl rfl (by decide) rfl rfl rfl ?_
        refine v_sip rfl (by decide) ?_
        by_cases h_4 : c2 7 1 ≥ 200
        · refine v_ic_ge_t (t := 162) rfl (by decide) ⟨by decide, h_4, (Int.le_trans h_2.2 (by decide))⟩ ?_
          refine q_vret rfl rfl ?_
          exact K c2 hI2 (fun a j hm => hF a j (fun q => q.elim (fun h => hm (Or.inl h)) (fun q => q.elim (fun h => hm (Or.inr (Or.inl h))) (fun q => q.elim (fun h => hm (Or.inr (Or.inr (Or.inl h)))) (fun q => q.elim (fun h => hm (Or.inr (Or.inr (Or.inr (Or.inl h))))) (fun q => q.elim (fun h => hm (Or.inr (Or.inr (Or.inr (Or.inr (Or.inl h)))))) (fun h => hm (Or.inr (Or.inr (Or.inr (Or.inr (Or.inr h)))))))))))) (by omega)
        · refine v_ic_ge_f (t := 162) rfl (by decide) ⟨(Int.le_trans (by decide) h_2.1), (Int.not_le.mp h_4), by decide⟩ ?_
          refine q_iload rfl rfl ?_
          refine v_bip rfl (by decide) ?_
          by_cases h_5 : a4 > 6
          · refine v_ic_gt_t (t := 162) rfl (by decide) ⟨by decide, h_5, (Int.le_trans ha4.2 (by decide))⟩ ?_
            refine q_vret rfl rfl ?_
            exact K c2 hI2 (fun a j hm => hF a j (fun q => q.elim (fun h => hm (Or.inl h)) (fun q => q.elim (fun h => hm (Or.inr (Or.inl h))) (fun q => q.elim (fun h => hm (Or.inr (Or.inr (Or.inl h)))) (fun q => q.elim (fun h => hm (Or.inr (Or.inr (Or.inr (Or.inl h))))) (fun q => q.elim (fun h => hm (Or.inr (Or.inr (Or.inr (Or.inr (Or.inl h)))))) (fun h => hm (Or.inr (Or.inr (Or.inr (Or.inr (Or.inr h)))))))))))) (by omega)
          · refine v_ic_gt_f (t := 162) rfl (by decide) ⟨(Int.le_trans (by decide) ha4.1), (Int.not_lt.mp h_5), by decide⟩ ?_
            refine q_iload rfl rfl ?_
            refine q_iconst rfl ?_
            refine v_imul (v := 5 * v5) rfl (by omega) ?_
            refine q_istore rfl (by decide) ?_
            refine q_aload_n rfl rfl ?_
            refine q_dup rfl rfl ?_
            refine v_gi (z := 1) (v := c2 7 1) rfl rfl rfl (by decide) rfl rfl rfl ?_
            refine q_iconst rfl ?_
            refine v_iadd (v := c2 7 1 + 1) rfl rfl ?_
            refine v_pi (z := 1) rfl rfl rfl (by decide) rfl rfl rfl (by decide) ?_
            refine v_iinc (v := v5 + 1) rfl rfl (by decide) rfl ?_
            refine q_aload_n rfl rfl ?_
            refine v_gr (t := 8) rfl rfl rfl (by decide) rfl ?_
            refine q_iload rfl rfl ?_
            have h_6 := ir_8 hI (5 * v5)
            have kn_7 : Hid (c2 8 (5 * v5) = c 8 (5 * v5)) := hF 8 (5 * v5) (fun q => q.elim (fun h => absurd h.1 (nn rfl)) (fun q => q.elim (fun h => absurd h.1 (nn rfl)) (fun q => q.elim (fun h => absurd h.1 (nn rfl)) (fun q => q.elim (fun h => absurd h (nn rfl)) (fun q => q.elim (fun h => absurd h (pn hP rfl rfl)) (fun h => absurd h (pn hP rfl rfl)))))))
            refine v_ia (v := c 8 (5 * v5)) rfl rfl (by decide) (by decide) (by omega) ((up_c (nn rfl)).trans (hid kn_7)) ?_
            refine v_bip rfl (by decide) ?_
            by_cases h_8 : c 8 (5 * v5) ≠ 7
            · refine v_ic_ne_t (t := 126) rfl (by decide) ⟨h_8, ⟨by omega, by omega⟩, by decide, by decide⟩ ?_
              refine q_aload_n rfl rfl ?_
              refine q_aload_n rfl rfl ?_
              refine q_iload rfl rfl ?_
              have hI_9 := iw_7_1 (v := c2 7 1 + 1) hI2 ⟨by first | exact rgp_l h_2.1 (by decide) | omega, by omega⟩
              refine v_cv rfl rfl rfl rfl (by decide) ⟨⟨rfl, rfl⟩, by decide, rfl⟩ (Nat.le_of_ble_eq_true rfl) (Nat.le_of_ble_eq_true rfl) (s_62 (t := v5) hI_9 (show 0 ≤ v5 ∧ v5 ≤ 37 from by omega) (fun c_10 y_13 hI_11 hF_12 hy_13 => ?_))
              refine bk_inl ?_
              by_cases h_14 : y_13 = 0
              · refine v_if_eq_t (t := 149) rfl (by decide) h_14 ?_
                refine q_aload_n rfl rfl ?_
                refine q_dup rfl rfl ?_
                have h_15 := ir_7_4 hI2
                have kn_16 : Hid (c_10 7 4 = c2 7 4) := (hF_12 7 4 (fun q => q.elim (fun h => absurd h (nn rfl)) (fun q => q.elim (fun h => absurd h (pn hP rfl rfl)) (fun h => absurd h (pn hP rfl rfl))))).trans (up_n (by decide))
                refine v_gi (z := 4) (v := c2 7 4) rfl rfl rfl (by decide) rfl rfl (hid kn_16) ?_
                refine q_iconst rfl ?_
                refine v_iadd (v := c2 7 4 + 1) rfl rfl ?_
                refine v_nrm (fun y_17 hy_17 => ?_)
                refine v_pi (z := 4) rfl rfl rfl (by decide) rfl rfl rfl (by decide) ?_
                refine q_goto (t := 3) rfl (by decide) ?_
                have hI_18 := iw_7_4 (v := y_17) hI_11 ⟨hy_17.1, hy_17.2⟩
                refine Wp_ls [(0, .ref 7), (1, .ref 37), (2, vi a2), (3, vi a3), (4, vi a4), (5, vi (v5 + 1))] (lsub_cons rfl (lsub_cons rfl (lsub_cons rfl (lsub_cons rfl (lsub_cons rfl (lsub_cons rfl lsub_nil)))))) ?_
                have kn_19 : Hid (c_10 7 1 = c2 7 1 + 1) := (hF_12 7 1 (fun q => q.elim (fun h => absurd h (nn rfl)) (fun q => q.elim (fun h => absurd h (pn hP rfl rfl)) (fun h => absurd h (pn hP rfl rfl))))).trans (up_e rfl)
                have h_20 : (up c_10 7 4 y_17) 7 1 = c2 7 1 + 1 := ((up_n (by decide)).trans (hid kn_19))
                exact ih.1 (up c_10 7 4 y_17) (v5 + 1) hI_18 (fun a j hm => (up_b (Decidable.or_iff_not_imp_left.mpr (fun h1 h2 => hm (Or.inr (Or.inr (Or.inl ⟨Decidable.not_not.mp h1, h2⟩)))))).trans ((hF_12 a j (fun q => q.elim (fun h => hm (Or.inr (Or.inr (Or.inr (Or.inl h))))) (fun q => q.elim (fun h => hm (Or.inr (Or.inr (Or.inr (Or.inr (Or.inl h)))))) (fun h => hm (Or.inr (Or.inr (Or.inr (Or.inr (Or.inr h))))))))).trans ((up_b (Decidable.or_iff_not_imp_left.mpr (fun h1 h2 => hm (Or.inl ⟨Decidable.not_not.mp h1, h2⟩)))).trans (hF a j (fun q => q.elim (fun h => hm (Or.inl h)) (fun q => q.elim (fun h => hm (Or.inr (Or.inl h))) (fun q => q.elim (fun h => hm (Or.inr (Or.inr (Or.inl h)))) (fun q => q.elim (fun h => hm (Or.inr (Or.inr (Or.inr (Or.inl h))))) (fun q => q.elim (fun h => hm (Or.inr (Or.inr (Or.inr (Or.inr (Or.inl h)))))) (fun h => hm (Or.inr (Or.inr (Or.inr (Or.inr (Or.inr h))))))))))))))) ⟨by first | exact rgp_l hv5.1 (by decide) | omega, by omega⟩ (by omega) (by omega)
              · refine v_if_eq_f (t := 149) rfl (by decide) ⟨h_14, ⟨(Int.le_trans (by decide) hy_13.1), (Int.le_trans hy_13.2 (by decide))⟩, by decide, by decide⟩ ?_
                refine q_aload_n rfl rfl ?_
                refine q_dup rfl rfl ?_
                have h_21 := ir_7_3 hI2
                have kn_22 : Hid (c_10 7 3 = c2 7 3) := (hF_12 7 3 (fun q => q.elim (fun h => absurd h (nn rfl)) (fun q => q.elim (fun h => absurd h (pn hP rfl rfl)) (fun h => absurd h (pn hP rfl rfl))))).trans (up_n (by decide))
                refine v_gi (z := 3) (v := c2 7 3) rfl rfl rfl (by decide) rfl rfl (hid kn_22) ?_
                refine q_iconst rfl ?_
                refine v_iadd (v := c2 7 3 + 1) rfl rfl ?_
                refine v_nrm (fun y_23 hy_23 => ?_)
                refine v_pi (z := 3) rfl rfl rfl (by decide) rfl rfl rfl (by decide) ?_
                refine q_goto (t := 159) rfl (by decide) ?_
                refine q_goto (t := 3) rfl (by decide) ?_
                have hI_24 := iw_7_3 (v := y_23) hI_11 ⟨hy_23.1, hy_23.2⟩
                refine Wp_ls [(0, .ref 7), (1, .ref 37), (2, vi a2), (3, vi a3), (4, vi a4), (5, vi (v5 + 1))] (lsub_cons rfl (lsub_cons rfl (lsub_cons rfl (lsub_cons rfl (lsub_cons rfl (lsub_cons rfl lsub_nil)))))) ?_
                have kn_25 : Hid (c_10 7 1 = c2 7 1 + 1) := (hF_12 7 1 (fun q => q.elim (fun h => absurd h (nn rfl)) (fun q => q.elim (fun h => absurd h (pn hP rfl rfl)) (fun h => absurd h (pn hP rfl rfl))))).trans (up_e rfl)
                have h_26 : (up c_10 7 3 y_23) 7 1 = c2 7 1 + 1 := ((up_n (by decide)).trans (hid kn_25))
                exact ih.1 (up c_10 7 3 y_23) (v5 + 1) hI_24 (fun a j hm => (up_b (Decidable.or_iff_not_imp_left.mpr (fun h1 h2 => hm (Or.inr (Or.inl ⟨Decidable.not_not.mp h1, h2⟩))))).trans ((hF_12 a j (fun q => q.elim (fun h => hm (Or.inr (Or.inr (Or.inr (Or.inl h))))) (fun q => q.elim (fun h => hm (Or.inr (Or.inr (Or.inr (Or.inr (Or.inl h)))))) (fun h => hm (Or.inr (Or.inr (Or.inr (Or.inr (Or.inr h))))))))).trans ((up_b (Decidable.or_iff_not_imp_left.mpr (fun h1 h2 => hm (Or.inl ⟨Decidable.not_not.mp h1, h2⟩)))).trans (hF a j (fun q => q.elim (fun h => hm (Or.inl h)) (fun q => q.elim (fun h => hm (Or.inr (Or.inl h))) (fun q => q.elim (fun h => hm (Or.inr (Or.inr (Or.inl h)))) (fun q => q.elim (fun h => hm (Or.inr (Or.inr (Or.inr (Or.inl h))))) (fun q => q.elim (fun h => hm (Or.inr (Or.inr (Or.inr (Or.inr (Or.inl h)))))) (fun h => hm (Or.inr (Or.inr (Or.inr (Or.inr (Or.inr h))))))))))))))) ⟨by first | exact rgp_l hv5.1 (by decide) | omega, by omega⟩ (by omega) (by omega)
            · refine v_ic_ne_f (t := 126) rfl (by decide) (Decidable.not_not.mp h_8) ?_
              refine q_aload_n rfl rfl ?_
              refine v_gr (t := 8) rfl rfl rfl (by decide) rfl ?_
              refine q_iload rfl rfl ?_
              refine q_iconst rfl ?_
              refine v_iadd (v := 5 * v5 + 2) rfl rfl ?_
              have h_27 := ir_8 hI (5 * v5 + 2)
              have h_28 := ir_8_2 hI (j := 5 * v5 + 2) (by omega)
              have kn_29 : Hid (c2 8 (5 * v5 + 2) = c 8 (5 * v5 + 2)) := hF 8 (5 * v5 + 2) (fun q => q.elim (fun h => absurd h.1 (nn rfl)) (fun q => q.elim (fun h => absurd h.1 (nn rfl)) (fun q => q.elim (fun h => absurd h.1 (nn rfl)) (fun q => q.elim (fun h => absurd h (nn rfl)) (fun q => q.elim (fun h => absurd h (pn hP rfl rfl)) (fun h => absurd h (pn hP rfl rfl)))))))
              refine v_ia (v := c 8 (5 * v5 + 2)) rfl rfl (by decide) (by decide) (by omega) ((up_c (nn rfl)).trans (hid kn_29)) ?_
              refine q_istore rfl (by decide) ?_
              refine q_iconst rfl ?_
              refine q_istore rfl (by decide) ?_
              have hI_30 := iw_7_1 (v := c2 7 1 + 1) hI2 ⟨by first | exact rgp_l h_2.1 (by decide) | omega, by omega⟩
              refine Wp_ls [(0, .ref 7), (1, .ref 37), (2, vi a2), (3, vi a3), (4, vi a4), (5, vi (v5 + 1)), (6, vi (5 * v5)), (7, vi (c 8 (5 * v5 + 2))), (8, vi 0)] (lsub_cons rfl (lsub_cons rfl (lsub_cons rfl (lsub_cons rfl (lsub_cons rfl (lsub_cons rfl (lsub_cons rfl (lsub_cons rfl (lsub_cons rfl lsub_nil))))))))) ?_
              have h_31 : (up c2 7 1 (c2 7 1 + 1)) 7 1 = c2 7 1 + 1 := (up_e rfl)
              exact ih.2 (up c2 7 1 (c2 7 1 + 1)) (v5 + 1) (5 * v5) (c 8 (5 * v5 + 2)) 0 hI_30 (fun a j hm => (up_b (Decidable.or_iff_not_imp_left.mpr (fun h1 h2 => hm (Or.inl ⟨Decidable.not_not.mp h1, h2⟩)))).trans (hF a j (fun q => q.elim (fun h => hm (Or.inl h)) (fun q => q.elim (fun h => hm (Or.inr (Or.inl h))) (fun q => q.elim (fun h => hm (Or.inr (Or.inr (Or.inl h)))) (fun q => q.elim (fun h => hm (Or.inr (Or.inr (Or.inr (Or.inl h))))) (fun q => q.elim (fun h => hm (Or.inr (Or.inr (Or.inr (Or.inr (Or.inl h)))))) (fun h => hm (Or.inr (Or.inr (Or.inr (Or.inr (Or.inr h))))))))))))) ⟨by first | exact rgp_l hv5.1 (by decide) | omega, by omega⟩ ⟨by omega, by omega⟩ ⟨by omega, by omega⟩ ⟨by decide, by decide⟩ (by omega) (by omega) (by omega) (by omega) (by omega)
    · skip
      intro c2 v5 v6 v7 v8 hI2 hF hv5 hv6 hv7 hv8 hx0 hx1 hx2 hx3 hm9
      have h_32 := ir_7_1 hI
      have h_33 := ir_7_1 hI2
      refine q_iload rfl rfl ?_
      refine q_aload_n rfl rfl ?_
      refine v_gr (t := 8) rfl rfl rfl (by decide) rfl ?_
      refine q_iload rfl rfl ?_
      refine q_iconst rfl ?_
      refine v_iadd (v := v6 + 1) rfl rfl ?_
      have h_34 := ir_8 hI (v6 + 1)
      have kn_35 : Hid (c2 8 (v6 + 1) = c 8 (v6 + 1)) := hF 8 (v6 + 1) (fun q => q.elim (fun h => absurd h.1 (nn rfl)) (fun q => q.elim (fun h => absurd h.1 (nn rfl)) (fun q => q.elim (fun h => absurd h.1 (nn rfl)) (fun q => q.elim (fun h => absurd h (nn rfl)) (fun q => q.elim (fun h => absurd h (pn hP rfl rfl)) (fun h => absurd h (pn hP rfl rfl)))))))
      refine v_ia (v := c 8 (v6 + 1)) rfl rfl (by decide) (by decide) (by omega) (hid kn_35) ?_
      by_cases h_36 : v8 ≥ c 8 (v6 + 1)
      · refine v_ic_ge_t (t := 114) rfl (by decide) ⟨by omega, h_36, (Int.le_trans hv8.2 (by decide))⟩ ?_
        refine q_iload rfl rfl ?_
        refine q_iload rfl rfl ?_
        refine v_maxx rfl rfl (by omega) (Nat.le_of_ble_eq_true rfl) ⟨by omega, by omega, by omega, by omega⟩ (fun y_37 hy_37 => ?_)
        refine q_istore rfl (by decide) ?_
        refine q_goto (t := 159) rfl (by decide) ?_
        refine q_goto (t := 3) rfl (by decide) ?_
        refine Wp_ls [(0, .ref 7), (1, .ref 37), (2, vi a2), (3, vi a3), (4, vi a4), (5, vi y_37)] (lsub_cons rfl (lsub_cons rfl (lsub_cons rfl (lsub_cons rfl (lsub_cons rfl (lsub_cons rfl lsub_nil)))))) ?_
        exact ih.1 c2 y_37 hI2 (fun a j hm => hF a j (fun q => q.elim (fun h => hm (Or.inl h)) (fun q => q.elim (fun h => hm (Or.inr (Or.inl h))) (fun q => q.elim (fun h => hm (Or.inr (Or.inr (Or.inl h)))) (fun q => q.elim (fun h => hm (Or.inr (Or.inr (Or.inr (Or.inl h))))) (fun q => q.elim (fun h => hm (Or.inr (Or.inr (Or.inr (Or.inr (Or.inl h)))))) (fun h => hm (Or.inr (Or.inr (Or.inr (Or.inr (Or.inr h)))))))))))) ⟨by omega, by omega⟩ (by omega) (by omega)
      · refine v_ic_ge_f (t := 114) rfl (by decide) ⟨(Int.le_trans (by decide) hv8.1), (Int.not_le.mp h_36), by omega⟩ ?_
        refine q_aload_n rfl rfl ?_
        refine v_gi (z := 1) (v := c2 7 1) rfl rfl rfl (by decide) rfl rfl rfl ?_
        refine v_sip rfl (by decide) ?_
        by_cases h_38 : c2 7 1 ≥ 200
        · refine v_ic_ge_t (t := 114) rfl (by decide) ⟨by decide, h_38, (Int.le_trans h_33.2 (by decide))⟩ ?_
          refine q_iload rfl rfl ?_
          refine q_iload rfl rfl ?_
          refine v_maxx rfl rfl (by omega) (Nat.le_of_ble_eq_true rfl) ⟨by omega, by omega, by omega, by omega⟩ (fun y_39 hy_39 => ?_)
          refine q_istore rfl (by decide) ?_
          refine q_goto (t := 159) rfl (by decide) ?_
          refine q_goto (t := 3) rfl (by decide) ?_
          refine Wp_ls [(0, .ref 7), (1, .ref 37), (2, vi a2), (3, vi a3), (4, vi a4), (5, vi y_39)] (lsub_cons rfl (lsub_cons rfl (lsub_cons rfl (lsub_cons rfl (lsub_cons rfl (lsub_cons rfl lsub_nil)))))) ?_
          exact ih.1 c2 y_39 hI2 (fun a j hm => hF a j (fun q => q.elim (fun h => hm (Or.inl h)) (fun q => q.elim (fun h => hm (Or.inr (Or.inl h))) (fun q => q.elim (fun h => hm (Or.inr (Or.inr (Or.inl h)))) (fun q => q.elim (fun h => hm (Or.inr (Or.inr (Or.inr (Or.inl h))))) (fun q => q.elim (fun h => hm (Or.inr (Or.inr (Or.inr (Or.inr (Or.inl h)))))) (fun h => hm (Or.inr (Or.inr (Or.inr (Or.inr (Or.inr h)))))))))))) ⟨by omega, by omega⟩ (by omega) (by omega)
        · refine v_ic_ge_f (t := 114) rfl (by decide) ⟨(Int.le_trans (by decide) h_33.1), (Int.not_le.mp h_38), by decide⟩ ?_
          refine q_aload_n rfl rfl ?_
          refine q_aload_n rfl rfl ?_
          refine q_iload rfl rfl ?_
          refine q_iload rfl rfl ?_
          refine q_iload rfl rfl ?_
          refine q_iconst rfl ?_
          refine v_iadd (v := a4 + 1) rfl rfl ?_
          refine v_cv rfl rfl rfl rfl (by decide) ⟨⟨rfl, rfl⟩, by decide, rfl⟩ (Nat.le_of_ble_eq_true rfl) (Nat.le_of_ble_eq_true rfl) (H63 _ v5 v7 _ (by omega) hI2 (by omega) (by omega) (fun c_40 hI_41 hF_42 h_43 => ?_))
          refine bk_inl ?_
          have h_44 := ir_7_1 hI_41
          refine v_iinc (v := v8 + 1) rfl rfl (by decide) rfl ?_
          refine q_goto (t := 71) rfl (by decide) ?_
          refine Wp_ls [(0, .ref 7), (1, .ref 37), (2, vi a2), (3, vi a3), (4, vi a4), (5, vi v5), (6, vi v6), (7, vi v7), (8, vi (v8 + 1))] (lsub_cons rfl (lsub_cons rfl (lsub_cons rfl (lsub_cons rfl (lsub_cons rfl (lsub_cons rfl (lsub_cons rfl (lsub_cons rfl (lsub_cons rfl lsub_nil))))))))) ?_
          exact ih.2 c_40 v5 v6 v7 (v8 + 1) hI_41 (fun a j hm => (hF_42 a j (fun q => q.elim (fun h => hm (Or.inl h)) (fun q => q.elim (fun h => hm (Or.inr (Or.inl h))) (fun q => q.elim (fun h => hm (Or.inr (Or.inr (Or.inl h)))) (fun q => q.elim (fun h => hm (Or.inr (Or.inr (Or.inr (Or.inl h))))) (fun q => q.elim (fun h => hm (Or.inr (Or.inr (Or.inr (Or.inr (Or.inl h)))))) (fun h => hm (Or.inr (Or.inr (Or.inr (Or.inr (Or.inr h)))))))))))).trans (hF a j (fun q => q.elim (fun h => hm (Or.inl h)) (fun q => q.elim (fun h => hm (Or.inr (Or.inl h))) (fun q => q.elim (fun h => hm (Or.inr (Or.inr (Or.inl h)))) (fun q => q.elim (fun h => hm (Or.inr (Or.inr (Or.inr (Or.inl h))))) (fun q => q.elim (fun h => hm (Or.inr (Or.inr (Or.inr (Or.inr (Or.inl h)))))) (fun h => hm (Or.inr (Or.inr (Or.inr (Or.inr (Or.inr h))))))))))))) hv5 hv6 hv7 ⟨by first | exact rgp_l hv8.1 (by decide) | omega, by omega⟩ (by omega) (by omega) (by omega) (by omega) (by omega)
set_option maxRecDepth 100000 in
set_option maxHeartbeats 4000000 in
theorem s_63 {sc : List Int32} {d P Q : Nat} {c : ME} {a2 : Int} {a3 : Int} {a4 : Int} {Z : AR → Prop} (hI : Iv 0 (-1) P Q c) (ha2 : 0 ≤ a2 ∧ a2 ≤ 38) (ha3 : 0 ≤ a3 ∧ a3 ≤ 38) (ha4 : 0 ≤ a4 ∧ a4 ≤ 7) (H63 : ∀ (c : ME) (a2 : Int) (a3 : Int) (Z : AR → Prop), a4 + 1 ≤ 7 → Iv 0 (-1) P Q c → 0 ≤ a2 ∧ a2 ≤ 38 → 0 ≤ a3 ∧ a3 ≤ 38 → (∀ c2 : ME, Iv 0 (-1) P Q c2 → (∀ (a : Nat) (j : Int), ¬ ((a = 7 ∧ j = 1) ∨ (a = 7 ∧ j = 3) ∨ (a = 7 ∧ j = 4) ∨ a = 38 ∨ a = (P + 10) ∨ a = (P + 11)) → c2 a j = c a j) → (c2 7 1 ≥ c 7 1) → Z (.inl none, Wd P Q P P c2, 0, 0)) → Wp sc (d + 13) 63 0 [(0, .ref 7), (1, .ref 37), (2, vi a2), (3, vi a3), (4, vi (a4 + 1))] [] (Wd P Q P P c) 0 0 Z) (K : ∀ (c2 : ME), Iv 0 (-1) P Q c2 → (∀ (a : Nat) (j : Int), ¬ ((a = 7 ∧ j = 1) ∨ (a = 7 ∧ j = 3) ∨ (a = 7 ∧ j = 4) ∨ a = 38 ∨ a = (P + 10) ∨ a = (P + 11)) → c2 a j = c a j) → ((c2 7 1 ≥ c 7 1)) → Z (.inl (none), Wd P Q P P c2, 0, 0)) : Wp sc (d + 14) 63 0 [(0, .ref 7), (1, .ref 37), (2, vi a2), (3, vi a3), (4, vi a4)] [] (Wd P Q P P c) 0 0 Z := by
  have hP := iv_P hI
  have hQ := iv_Q hI
  refine q_iload_n rfl rfl ?_
  refine q_istore rfl (by decide) ?_
  refine Wp_ls [(0, .ref 7), (1, .ref 37), (2, vi a2), (3, vi a3), (4, vi a4), (5, vi a2)] (lsub_cons rfl (lsub_cons rfl (lsub_cons rfl (lsub_cons rfl (lsub_cons rfl (lsub_cons rfl lsub_nil)))))) ?_
  have h_47 := ir_7_1 hI
  exact (s_63_l (sc := sc) (d := d) hI ha2 ha3 ha4 H63 K 40300000).1 c a2 hI (fun a j hm => rfl) ha2 (by omega) (by omega)
set_option maxRecDepth 100000 in
set_option maxHeartbeats 4000000 in
theorem r_63_n {sc : List Int32} {d P Q : Nat} : ∀ (m : Nat) (c : ME) (a4 : Int) (a2 : Int) (a3 : Int) (Z : AR → Prop), a4 + (m : Int) = 7 → 0 ≤ a4 → Iv 0 (-1) P Q c → 0 ≤ a2 ∧ a2 ≤ 38 → 0 ≤ a3 ∧ a3 ≤ 38 → (∀ c2 : ME, Iv 0 (-1) P Q c2 → (∀ (a : Nat) (j : Int), ¬ ((a = 7 ∧ j = 1) ∨ (a = 7 ∧ j = 3) ∨ (a = 7 ∧ j = 4) ∨ a = 38 ∨ a = (P + 10) ∨ a = (P + 11)) → c2 a j = c a j) → (c2 7 1 ≥ c 7 1) → Z (.inl none, Wd P Q P P c2, 0, 0)) → Wp sc (d + 1 * m + 14) 63 0 [(0, .ref 7), (1, .ref 37), (2, vi a2), (3, vi a3), (4, vi a4)] [] (Wd P Q P P c) 0 0 Z
  | 0, c, a4, a2, a3, Z, hm, h0, hI, ha2, ha3, K => s_63 (d := d) (a4 := a4) hI ha2 ha3 (show 0 ≤ a4 ∧ a4 ≤ 7 from ⟨by omega, by omega⟩) (fun c9 a29 a39 Z9 hc => absurd hc (by omega)) K
  | m + 1, c, a4, a2, a3, Z, hm, h0, hI, ha2, ha3, K => by
    have ih := r_63_n (sc := sc) (d := d) (P := P) (Q := Q) m
    rw [show d + 1 * (m + 1) + 14 = (d + 1 * m + 1) + 14 by omega]
    refine s_63 (d := d + 1 * m + 1) (a4 := a4) hI ha2 ha3 (show 0 ≤ a4 ∧ a4 ≤ 7 from ⟨by omega, by omega⟩) (fun c9 a29 a39 Z9 hc hI9 ha29 ha39 K9 => ?_) K
    have r := ih c9 (a4 + 1) a29 a39 Z9 (by omega) (by omega) hI9 ha29 ha39 K9
    rw [show d + 1 * m + 14 = (d + 1 * m + 1) + 13 by omega] at r
    exact r
set_option maxRecDepth 100000 in
set_option maxHeartbeats 4000000 in
theorem r_63 {sc : List Int32} {d P Q : Nat} {c : ME} {a4 : Int} {a2 : Int} {a3 : Int} {Z : AR → Prop} (hI : Iv 0 (-1) P Q c) (ha2 : 0 ≤ a2 ∧ a2 ≤ 38) (ha3 : 0 ≤ a3 ∧ a3 ≤ 38) (ha4 : 0 ≤ a4 ∧ a4 ≤ 7) (K : (∀ c2 : ME, Iv 0 (-1) P Q c2 → (∀ (a : Nat) (j : Int), ¬ ((a = 7 ∧ j = 1) ∨ (a = 7 ∧ j = 3) ∨ (a = 7 ∧ j = 4) ∨ a = 38 ∨ a = (P + 10) ∨ a = (P + 11)) → c2 a j = c a j) → (c2 7 1 ≥ c 7 1) → Z (.inl none, Wd P Q P P c2, 0, 0))) : Wp sc (d + 21) 63 0 [(0, .ref 7), (1, .ref 37), (2, vi a2), (3, vi a3), (4, vi a4)] [] (Wd P Q P P c) 0 0 Z := by
  obtain ⟨m, hm⟩ : ∃ m : Nat, (m : Int) = 7 - a4 := ⟨(7 - a4).toNat, by omega⟩
  rw [show d + 21 = (d + 7 - 1 * m) + 1 * m + 14 by omega]
  exact r_63_n m c a4 a2 a3 Z (by omega) (by omega) hI ha2 ha3 K
