/-! ===== contracts 2 ===== -/
set_option maxRecDepth 100000 in
set_option maxHeartbeats 4000000 in
theorem s_34_l {sc : List Int32} {e : Int} {d u P Q A : Nat} {c : ME} {Z : AR → Prop} (hI : Iv u e P Q c) (hA : A = 13 ∨ A = 25) (K : ∀ (c2 : ME), Iv u e P Q c2 → (∀ (a : Nat) (j : Int), ¬ ((a = 1 ∧ j = 2) ∨ (a = 1 ∧ j = 4) ∨ (a = 1 ∧ j = 5) ∨ (a = A ∧ j = 0) ∨ (a = A ∧ j = 1) ∨ (a = A ∧ j = 2) ∨ (a = A ∧ j = 3) ∨ a = (A + 1) ∨ a = (A + 2) ∨ a = (A + 3) ∨ (a = A ∧ j = 4) ∨ (a = A ∧ j = 5) ∨ a = (A + 6) ∨ (a = (A + 7) ∧ j = 4)) → c2 a j = c a j) → Z (.inl (none), Wd P Q P P c2, 0, 0)) : ∀ n : Nat, (∀ (c2 : ME) (v2 : Int), Iv u e P Q c2 → (∀ (a : Nat) (j : Int), ¬ ((a = 1 ∧ j = 2) ∨ (a = 1 ∧ j = 4) ∨ (a = 1 ∧ j = 5) ∨ (a = A ∧ j = 0) ∨ (a = A ∧ j = 1) ∨ (a = A ∧ j = 2) ∨ (a = A ∧ j = 3) ∨ a = (A + 1) ∨ a = (A + 2) ∨ a = (A + 3) ∨ (a = A ∧ j = 4) ∨ (a = A ∧ j = 5) ∨ a = (A + 6) ∨ (a = (A + 7) ∧ j = 4)) → c2 a j = c a j) → 0 ≤ v2 ∧ v2 ≤ 61 → 123 - 2 * v2 < (n : Int) → Wp sc (d + 12) 34 6 [(0, .ref A), (1, .ref 1), (2, vi v2)] [] (Wd P Q P P c2) 0 0 Z)
  | 0 => by intros; exfalso; omega
  | n + 1 => by
    have hP := iv_P hI
    have hQ := iv_Q hI
    have ih := s_34_l (sc := sc) (d := d) hI hA K n
    intro c2 v2 hI2 hF hv2 hm9
    refine q_iload_n rfl rfl ?_
    refine v_bip rfl (by decide) ?_
    by_cases h_1 : v2 > 60
    · refine v_ic_gt_t (t := 85) rfl (by decide) (by omega) ?_
      refine q_vret rfl rfl ?_
      exact K c2 hI2 (fun a j hm => hF a j (by omega))
    · refine v_ic_gt_f (t := 85) rfl (by decide) (by omega) ?_
      refine q_aload_n rfl rfl ?_
      refine v_cv rfl rfl rfl rfl (by decide) ⟨⟨rfl, rfl⟩, by decide, rfl⟩ (Nat.le_of_ble_eq_true rfl) (Nat.le_of_ble_eq_true rfl) (s_15 hI2 (fun c_2 y_5 hI_3 hF_4 hy_5 => ?_))
      refine bk_inl ?_
      by_cases h_6 : y_5 = 0
      · refine v_if_eq_t (t := 85) rfl (by decide) (by omega) ?_
        refine q_vret rfl rfl ?_
        exact K c_2 hI_3 (fun a j hm => (hF_4 a j (by omega)).trans (hF a j (by omega)))
      · refine v_if_eq_f (t := 85) rfl (by decide) (by omega) ?_
        refine q_aload_n rfl rfl ?_
        refine v_cv rfl rfl rfl rfl (by decide) ⟨⟨rfl, rfl⟩, by decide, rfl⟩ (Nat.le_of_ble_eq_true rfl) (Nat.le_of_ble_eq_true rfl) (s_3 hI_3 (fun c_7 y_10 hI_8 hF_9 hy_10 h_11 => ?_))
        refine bk_inl ?_
        have h_12 := ir_1_2 hI_8
        refine q_istore_n rfl (by decide) ?_
        refine q_aload_n rfl rfl ?_
        refine q_ldc_s rfl rfl rfl (by decide) ?_
        refine v_cv rfl rfl rfl rfl (by decide) ⟨⟨rfl, rfl⟩, by decide, rfl⟩ (Nat.le_of_ble_eq_true rfl) (Nat.le_of_ble_eq_true rfl) (s_10 hI_8 (q := 8) (nt := 20) (by decide) (by decide) (by decide) (fun c_13 y_16 hI_14 hF_15 hy_16 h_17 => ?_))
        refine bk_inl ?_
        have h_18 := ir_1_4 hI_14
        refine q_istore rfl (by decide) ?_
        refine q_iload rfl rfl ?_
        refine q_iconst rfl ?_
        by_cases h_19 : y_16 = (-1)
        · refine v_ic_eq_t (t := 59) rfl (by decide) (by omega) ?_
          refine q_aload_n rfl rfl ?_
          refine v_cv rfl rfl rfl rfl (by decide) ⟨⟨rfl, rfl⟩, by decide, rfl⟩ (Nat.le_of_ble_eq_true rfl) (Nat.le_of_ble_eq_true rfl) ?_
          refine q_aload_n rfl rfl ?_
          refine v_gi (z := 4) (v := c_13 1 4) rfl rfl rfl (by decide) rfl rfl rfl ?_
          refine v_if_ne_t (t := 11) rfl (by decide) (by omega) ?_
          refine q_iconst rfl ?_
          refine v_zret rfl rfl (by omega) ?_
          refine bk_inl ?_
          refine v_if_eq_t (t := 73) rfl (by decide) (by decide) ?_
          refine q_aload_n rfl rfl ?_
          refine q_ldc_s rfl rfl rfl (by decide) ?_
          refine v_cv rfl rfl rfl rfl (by decide) ⟨⟨rfl, rfl⟩, by decide, rfl⟩ (Nat.le_of_ble_eq_true rfl) (Nat.le_of_ble_eq_true rfl) (s_11 hI_14 (q := 9) (nt := 1) (by decide) (by decide) (by decide) (fun c_20 hI_21 hF_22 => ?_))
          refine bk_inl ?_
          refine v_iinc (v := v2 + 1) rfl rfl (by decide) (by omega) ?_
          refine q_goto (t := 6) rfl (by decide) ?_
          refine Wp_ls [(0, .ref A), (1, .ref 1), (2, vi (v2 + 1))] (lsub_cons rfl (lsub_cons rfl (lsub_cons rfl lsub_nil))) ?_
          exact ih c_20 (v2 + 1) hI_21 (fun a j hm => (hF_22 a j (by omega)).trans ((hF_15 a j (by omega)).trans ((hF_9 a j (by omega)).trans ((hF_4 a j (by omega)).trans (hF a j (by omega)))))) ⟨by omega, by omega⟩ (by omega)
        · refine v_ic_eq_f (t := 59) rfl (by decide) (by omega) ?_
          refine q_iload_n rfl rfl ?_
          refine v_bip rfl (by decide) ?_
          by_cases h_23 : v2 = 60
          · refine v_ic_eq_t (t := 53) rfl (by decide) (by omega) ?_
            refine q_aload_n rfl rfl ?_
            refine q_iconst rfl ?_
            refine q_iload_n rfl rfl ?_
            refine v_cv rfl rfl rfl rfl (by decide) ⟨⟨rfl, rfl⟩, by decide, rfl⟩ (Nat.le_of_ble_eq_true rfl) (Nat.le_of_ble_eq_true rfl) (s_7 (a1 := 3) (a2 := y_10) hI_14 (show 1 ≤ 3 ∧ 3 ≤ 3 from by omega) (show 0 ≤ y_10 ∧ y_10 ≤ 600 from by omega) (fun c_24 hI_25 hF_26 h_27 => ?_))
            refine bk_inl ?_
            have h_28 := ir_1_4 hI_25
            refine q_aload_n rfl rfl ?_
            refine v_cv rfl rfl rfl rfl (by decide) ⟨⟨rfl, rfl⟩, by decide, rfl⟩ (Nat.le_of_ble_eq_true rfl) (Nat.le_of_ble_eq_true rfl) ?_
            refine q_aload_n rfl rfl ?_
            refine v_gi (z := 4) (v := c_24 1 4) rfl rfl rfl (by decide) rfl rfl rfl ?_
            refine v_if_ne_t (t := 11) rfl (by decide) (by omega) ?_
            refine q_iconst rfl ?_
            refine v_zret rfl rfl (by omega) ?_
            refine bk_inl ?_
            refine v_if_eq_t (t := 73) rfl (by decide) (by decide) ?_
            refine q_aload_n rfl rfl ?_
            refine q_ldc_s rfl rfl rfl (by decide) ?_
            refine v_cv rfl rfl rfl rfl (by decide) ⟨⟨rfl, rfl⟩, by decide, rfl⟩ (Nat.le_of_ble_eq_true rfl) (Nat.le_of_ble_eq_true rfl) (s_11 hI_25 (q := 9) (nt := 1) (by decide) (by decide) (by decide) (fun c_29 hI_30 hF_31 => ?_))
            refine bk_inl ?_
            refine v_iinc (v := v2 + 1) rfl rfl (by decide) (by omega) ?_
            refine q_goto (t := 6) rfl (by decide) ?_
            refine Wp_ls [(0, .ref A), (1, .ref 1), (2, vi (v2 + 1))] (lsub_cons rfl (lsub_cons rfl (lsub_cons rfl lsub_nil))) ?_
            exact ih c_29 (v2 + 1) hI_30 (fun a j hm => (hF_31 a j (by omega)).trans ((hF_26 a j (by omega)).trans ((hF_15 a j (by omega)).trans ((hF_9 a j (by omega)).trans ((hF_4 a j (by omega)).trans (hF a j (by omega))))))) ⟨by omega, by omega⟩ (by omega)
          · refine v_ic_eq_f (t := 53) rfl (by decide) (by omega) ?_
            refine q_aload_n rfl rfl ?_
            refine q_iload rfl rfl ?_
            refine v_cv rfl rfl rfl (ck_p0 hA) (by omega) ⟨⟨rfl, rfl⟩, by decide, rfl⟩ (Nat.le_of_ble_eq_true rfl) (Nat.le_of_ble_eq_true rfl) ?_
            refine q_iload_n rfl rfl ?_
            by_cases h_32 : y_16 = 0
            · skip
              refine v_tsw_i (t := 28) 0 rfl (by omega) (by decide) rfl (by decide) ?_
              refine q_aload_n rfl rfl ?_
              have h_33 := ir_p0_0 hI2 hA
              refine v_gi (z := 0) (v := c2 A 0) rfl rfl (ck_p0 hA) (by omega) rfl rfl ((hF_15 A 0 (by omega)).trans ((hF_9 A 0 (by omega)).trans (hF_4 A 0 (by omega)))) ?_
              refine v_bip rfl (by decide) ?_
              by_cases h_34 : c2 A 0 ≠ 6
              · refine v_ic_ne_t (t := 41) rfl (by decide) (by omega) ?_
                refine q_iconst rfl ?_
                refine v_zret rfl rfl (by omega) ?_
                refine bk_inl ?_
                refine v_if_eq_t (t := 59) rfl (by decide) (by decide) ?_
                refine q_aload_n rfl rfl ?_
                refine v_cv rfl rfl rfl rfl (by decide) ⟨⟨rfl, rfl⟩, by decide, rfl⟩ (Nat.le_of_ble_eq_true rfl) (Nat.le_of_ble_eq_true rfl) ?_
                refine q_aload_n rfl rfl ?_
                refine v_gi (z := 4) (v := c_13 1 4) rfl rfl rfl (by decide) rfl rfl rfl ?_
                by_cases h_35 : c_13 1 4 ≠ 0
                · refine v_if_ne_t (t := 11) rfl (by decide) (by omega) ?_
                  refine q_iconst rfl ?_
                  refine v_zret rfl rfl (by omega) ?_
                  refine bk_inl ?_
                  refine v_if_eq_t (t := 73) rfl (by decide) (by decide) ?_
                  refine q_aload_n rfl rfl ?_
                  refine q_ldc_s rfl rfl rfl (by decide) ?_
                  refine v_cv rfl rfl rfl rfl (by decide) ⟨⟨rfl, rfl⟩, by decide, rfl⟩ (Nat.le_of_ble_eq_true rfl) (Nat.le_of_ble_eq_true rfl) (s_11 hI_14 (q := 9) (nt := 1) (by decide) (by decide) (by decide) (fun c_36 hI_37 hF_38 => ?_))
                  refine bk_inl ?_
                  refine v_iinc (v := v2 + 1) rfl rfl (by decide) (by omega) ?_
                  refine q_goto (t := 6) rfl (by decide) ?_
                  refine Wp_ls [(0, .ref A), (1, .ref 1), (2, vi (v2 + 1))] (lsub_cons rfl (lsub_cons rfl (lsub_cons rfl lsub_nil))) ?_
                  exact ih c_36 (v2 + 1) hI_37 (fun a j hm => (hF_38 a j (by omega)).trans ((hF_15 a j (by omega)).trans ((hF_9 a j (by omega)).trans ((hF_4 a j (by omega)).trans (hF a j (by omega)))))) ⟨by omega, by omega⟩ (by omega)
                · refine v_if_ne_f (t := 11) rfl (by decide) (by omega) ?_
                  refine q_iconst rfl ?_
                  refine q_goto (t := 12) rfl (by decide) ?_
                  refine v_zret rfl rfl (by omega) ?_
                  refine bk_inl ?_
                  refine v_if_eq_f (t := 73) rfl (by decide) (by decide) ?_
                  refine q_aload_n rfl rfl ?_
                  refine q_aload_n rfl rfl ?_
                  refine q_iload rfl rfl ?_
                  have h_39 : c_13 A 0 = c2 A 0 := ((hF_15 A 0 (by omega)).trans ((hF_9 A 0 (by omega)).trans (hF_4 A 0 (by omega))))
                  have h_40 := ir_p0_1 hI2 hA
                  have h_41 : c_13 A 1 = c2 A 1 := ((hF_15 A 1 (by omega)).trans ((hF_9 A 1 (by omega)).trans (hF_4 A 1 (by omega))))
                  have h_42 := ir_p0_2 hI2 hA
                  have h_43 : c_13 A 2 = c2 A 2 := ((hF_15 A 2 (by omega)).trans ((hF_9 A 2 (by omega)).trans (hF_4 A 2 (by omega))))
                  refine v_cv rfl rfl rfl (ck_p0 hA) (by omega) ⟨⟨rfl, rfl⟩, by decide, rfl⟩ (Nat.le_of_ble_eq_true rfl) (Nat.le_of_ble_eq_true rfl) (s_33 (a2 := y_16) hI_14 hA (show 0 ≤ y_16 ∧ y_16 ≤ 100 from by omega) (by omega) (by omega) (by omega) (fun c_44 hI_45 hF_46 => ?_))
                  refine bk_inl ?_
                  refine q_aload_n rfl rfl ?_
                  refine q_ldc_s rfl rfl rfl (by decide) ?_
                  refine v_cv rfl rfl rfl rfl (by decide) ⟨⟨rfl, rfl⟩, by decide, rfl⟩ (Nat.le_of_ble_eq_true rfl) (Nat.le_of_ble_eq_true rfl) (s_11 hI_45 (q := 9) (nt := 1) (by decide) (by decide) (by decide) (fun c_47 hI_48 hF_49 => ?_))
                  refine bk_inl ?_
                  refine v_iinc (v := v2 + 1) rfl rfl (by decide) (by omega) ?_
                  refine q_goto (t := 6) rfl (by decide) ?_
                  refine Wp_ls [(0, .ref A), (1, .ref 1), (2, vi (v2 + 1))] (lsub_cons rfl (lsub_cons rfl (lsub_cons rfl lsub_nil))) ?_
                  exact ih c_47 (v2 + 1) hI_48 (fun a j hm => (hF_49 a j (by omega)).trans ((hF_46 a j (by omega)).trans ((hF_15 a j (by omega)).trans ((hF_9 a j (by omega)).trans ((hF_4 a j (by omega)).trans (hF a j (by omega))))))) ⟨by omega, by omega⟩ (by omega)
              · refine v_ic_ne_f (t := 41) rfl (by decide) (by omega) ?_
                refine q_iconst rfl ?_
                refine q_goto (t := 42) rfl (by decide) ?_
                refine v_zret rfl rfl (by omega) ?_
                refine bk_inl ?_
                refine v_if_eq_f (t := 59) rfl (by decide) (by decide) ?_
                refine q_aload_n rfl rfl ?_
                refine q_iconst rfl ?_
                refine q_iload_n rfl rfl ?_
                refine v_cv rfl rfl rfl rfl (by decide) ⟨⟨rfl, rfl⟩, by decide, rfl⟩ (Nat.le_of_ble_eq_true rfl) (Nat.le_of_ble_eq_true rfl) (s_7 (a1 := 3) (a2 := y_10) hI_14 (show 1 ≤ 3 ∧ 3 ≤ 3 from by omega) (show 0 ≤ y_10 ∧ y_10 ≤ 600 from by omega) (fun c_50 hI_51 hF_52 h_53 => ?_))
                refine bk_inl ?_
                have h_54 := ir_1_4 hI_51
                refine q_aload_n rfl rfl ?_
                refine v_cv rfl rfl rfl rfl (by decide) ⟨⟨rfl, rfl⟩, by decide, rfl⟩ (Nat.le_of_ble_eq_true rfl) (Nat.le_of_ble_eq_true rfl) ?_
                refine q_aload_n rfl rfl ?_
                refine v_gi (z := 4) (v := c_50 1 4) rfl rfl rfl (by decide) rfl rfl rfl ?_
                refine v_if_ne_t (t := 11) rfl (by decide) (by omega) ?_
                refine q_iconst rfl ?_
                refine v_zret rfl rfl (by omega) ?_
                refine bk_inl ?_
                refine v_if_eq_t (t := 73) rfl (by decide) (by decide) ?_
                refine q_aload_n rfl rfl ?_
                refine q_ldc_s rfl rfl rfl (by decide) ?_
                refine v_cv rfl rfl rfl rfl (by decide) ⟨⟨rfl, rfl⟩, by decide, rfl⟩ (Nat.le_of_ble_eq_true rfl) (Nat.le_of_ble_eq_true rfl) (s_11 hI_51 (q := 9) (nt := 1) (by decide) (by decide) (by decide) (fun c_55 hI_56 hF_57 => ?_))
                refine bk_inl ?_
                refine v_iinc (v := v2 + 1) rfl rfl (by decide) (by omega) ?_
                refine q_goto (t := 6) rfl (by decide) ?_
                refine Wp_ls [(0, .ref A), (1, .ref 1), (2, vi (v2 + 1))] (lsub_cons rfl (lsub_cons rfl (lsub_cons rfl lsub_nil))) ?_
                exact ih c_55 (v2 + 1) hI_56 (fun a j hm => (hF_57 a j (by omega)).trans ((hF_52 a j (by omega)).trans ((hF_15 a j (by omega)).trans ((hF_9 a j (by omega)).trans ((hF_4 a j (by omega)).trans (hF a j (by omega))))))) ⟨by omega, by omega⟩ (by omega)
            by_cases h_58 : y_16 = 1
            · skip
              refine v_tsw_i (t := 43) 1 rfl (by omega) (by decide) rfl (by decide) ?_
              refine q_aload_n rfl rfl ?_
              have h_59 := ir_p0_1 hI2 hA
              refine v_gi (z := 1) (v := c2 A 1) rfl rfl (ck_p0 hA) (by omega) rfl rfl ((hF_15 A 1 (by omega)).trans ((hF_9 A 1 (by omega)).trans (hF_4 A 1 (by omega)))) ?_
              refine q_iconst rfl ?_
              by_cases h_60 : c2 A 1 ≠ 4
              · refine v_ic_ne_t (t := 55) rfl (by decide) (by omega) ?_
                refine q_iconst rfl ?_
                refine v_zret rfl rfl (by omega) ?_
                refine bk_inl ?_
                refine v_if_eq_t (t := 59) rfl (by decide) (by decide) ?_
                refine q_aload_n rfl rfl ?_
                refine v_cv rfl rfl rfl rfl (by decide) ⟨⟨rfl, rfl⟩, by decide, rfl⟩ (Nat.le_of_ble_eq_true rfl) (Nat.le_of_ble_eq_true rfl) ?_
                refine q_aload_n rfl rfl ?_
                refine v_gi (z := 4) (v := c_13 1 4) rfl rfl rfl (by decide) rfl rfl rfl ?_
                by_cases h_61 : c_13 1 4 ≠ 0
                · refine v_if_ne_t (t := 11) rfl (by decide) (by omega) ?_
                  refine q_iconst rfl ?_
                  refine v_zret rfl rfl (by omega) ?_
                  refine bk_inl ?_
                  refine v_if_eq_t (t := 73) rfl (by decide) (by decide) ?_
                  refine q_aload_n rfl rfl ?_
                  refine q_ldc_s rfl rfl rfl (by decide) ?_
                  refine v_cv rfl rfl rfl rfl (by decide) ⟨⟨rfl, rfl⟩, by decide, rfl⟩ (Nat.le_of_ble_eq_true rfl) (Nat.le_of_ble_eq_true rfl) (s_11 hI_14 (q := 9) (nt := 1) (by decide) (by decide) (by decide) (fun c_62 hI_63 hF_64 => ?_))
                  refine bk_inl ?_
                  refine v_iinc (v := v2 + 1) rfl rfl (by decide) (by omega) ?_
                  refine q_goto (t := 6) rfl (by decide) ?_
                  refine Wp_ls [(0, .ref A), (1, .ref 1), (2, vi (v2 + 1))] (lsub_cons rfl (lsub_cons rfl (lsub_cons rfl lsub_nil))) ?_
                  exact ih c_62 (v2 + 1) hI_63 (fun a j hm => (hF_64 a j (by omega)).trans ((hF_15 a j (by omega)).trans ((hF_9 a j (by omega)).trans ((hF_4 a j (by omega)).trans (hF a j (by omega)))))) ⟨by omega, by omega⟩ (by omega)
                · refine v_if_ne_f (t := 11) rfl (by decide) (by omega) ?_
                  refine q_iconst rfl ?_
                  refine q_goto (t := 12) rfl (by decide) ?_
                  refine v_zret rfl rfl (by omega) ?_
                  refine bk_inl ?_
                  refine v_if_eq_f (t := 73) rfl (by decide) (by decide) ?_
                  refine q_aload_n rfl rfl ?_
                  refine q_aload_n rfl rfl ?_
                  refine q_iload rfl rfl ?_
                  have h_65 := ir_p0_0 hI2 hA
                  have h_66 : c_13 A 0 = c2 A 0 := ((hF_15 A 0 (by omega)).trans ((hF_9 A 0 (by omega)).trans (hF_4 A 0 (by omega))))
                  have h_67 : c_13 A 1 = c2 A 1 := ((hF_15 A 1 (by omega)).trans ((hF_9 A 1 (by omega)).trans (hF_4 A 1 (by omega))))
                  have h_68 := ir_p0_2 hI2 hA
                  have h_69 : c_13 A 2 = c2 A 2 := ((hF_15 A 2 (by omega)).trans ((hF_9 A 2 (by omega)).trans (hF_4 A 2 (by omega))))
                  refine v_cv rfl rfl rfl (ck_p0 hA) (by omega) ⟨⟨rfl, rfl⟩, by decide, rfl⟩ (Nat.le_of_ble_eq_true rfl) (Nat.le_of_ble_eq_true rfl) (s_33 (a2 := y_16) hI_14 hA (show 0 ≤ y_16 ∧ y_16 ≤ 100 from by omega) (by omega) (by omega) (by omega) (fun c_70 hI_71 hF_72 => ?_))
                  refine bk_inl ?_
                  refine q_aload_n rfl rfl ?_
                  refine q_ldc_s rfl rfl rfl (by decide) ?_
                  refine v_cv rfl rfl rfl rfl (by decide) ⟨⟨rfl, rfl⟩, by decide, rfl⟩ (Nat.le_of_ble_eq_true rfl) (Nat.le_of_ble_eq_true rfl) (s_11 hI_71 (q := 9) (nt := 1) (by decide) (by decide) (by decide) (fun c_73 hI_74 hF_75 => ?_))
                  refine bk_inl ?_
                  refine v_iinc (v := v2 + 1) rfl rfl (by decide) (by omega) ?_
                  refine q_goto (t := 6) rfl (by decide) ?_
                  refine Wp_ls [(0, .ref A), (1, .ref 1), (2, vi (v2 + 1))] (lsub_cons rfl (lsub_cons rfl (lsub_cons rfl lsub_nil))) ?_
                  exact ih c_73 (v2 + 1) hI_74 (fun a j hm => (hF_75 a j (by omega)).trans ((hF_72 a j (by omega)).trans ((hF_15 a j (by omega)).trans ((hF_9 a j (by omega)).trans ((hF_4 a j (by omega)).trans (hF a j (by omega))))))) ⟨by omega, by omega⟩ (by omega)
              · refine v_ic_ne_f (t := 55) rfl (by decide) (by omega) ?_
                refine q_iconst rfl ?_
                refine q_goto (t := 56) rfl (by decide) ?_
                refine v_zret rfl rfl (by omega) ?_
                refine bk_inl ?_
                refine v_if_eq_f (t := 59) rfl (by decide) (by decide) ?_
                refine q_aload_n rfl rfl ?_
                refine q_iconst rfl ?_
                refine q_iload_n rfl rfl ?_
                refine v_cv rfl rfl rfl rfl (by decide) ⟨⟨rfl, rfl⟩, by decide, rfl⟩ (Nat.le_of_ble_eq_true rfl) (Nat.le_of_ble_eq_true rfl) (s_7 (a1 := 3) (a2 := y_10) hI_14 (show 1 ≤ 3 ∧ 3 ≤ 3 from by omega) (show 0 ≤ y_10 ∧ y_10 ≤ 600 from by omega) (fun c_76 hI_77 hF_78 h_79 => ?_))
                refine bk_inl ?_
                have h_80 := ir_1_4 hI_77
                refine q_aload_n rfl rfl ?_
                refine v_cv rfl rfl rfl rfl (by decide) ⟨⟨rfl, rfl⟩, by decide, rfl⟩ (Nat.le_of_ble_eq_true rfl) (Nat.le_of_ble_eq_true rfl) ?_
                refine q_aload_n rfl rfl ?_
                refine v_gi (z := 4) (v := c_76 1 4) rfl rfl rfl (by decide) rfl rfl rfl ?_
                refine v_if_ne_t (t := 11) rfl (by decide) (by omega) ?_
                refine q_iconst rfl ?_
                refine v_zret rfl rfl (by omega) ?_
                refine bk_inl ?_
                refine v_if_eq_t (t := 73) rfl (by decide) (by decide) ?_
                refine q_aload_n rfl rfl ?_
                refine q_ldc_s rfl rfl rfl (by decide) ?_
                refine v_cv rfl rfl rfl rfl (by decide) ⟨⟨rfl, rfl⟩, by decide, rfl⟩ (Nat.le_of_ble_eq_true rfl) (Nat.le_of_ble_eq_true rfl) (s_11 hI_77 (q := 9) (nt := 1) (by decide) (by decide) (by decide) (fun c_81 hI_82 hF_83 => ?_))
                refine bk_inl ?_
                refine v_iinc (v := v2 + 1) rfl rfl (by decide) (by omega) ?_
                refine q_goto (t := 6) rfl (by decide) ?_
                refine Wp_ls [(0, .ref A), (1, .ref 1), (2, vi (v2 + 1))] (lsub_cons rfl (lsub_cons rfl (lsub_cons rfl lsub_nil))) ?_
                exact ih c_81 (v2 + 1) hI_82 (fun a j hm => (hF_83 a j (by omega)).trans ((hF_78 a j (by omega)).trans ((hF_15 a j (by omega)).trans ((hF_9 a j (by omega)).trans ((hF_4 a j (by omega)).trans (hF a j (by omega))))))) ⟨by omega, by omega⟩ (by omega)
            by_cases h_84 : y_16 = 2
            · skip
              refine v_tsw_i (t := 57) 2 rfl (by omega) (by decide) rfl (by decide) ?_
              refine q_aload_n rfl rfl ?_
              have h_85 := ir_p0_2 hI2 hA
              refine v_gi (z := 2) (v := c2 A 2) rfl rfl (ck_p0 hA) (by omega) rfl rfl ((hF_15 A 2 (by omega)).trans ((hF_9 A 2 (by omega)).trans (hF_4 A 2 (by omega)))) ?_
              refine q_iconst rfl ?_
              by_cases h_86 : c2 A 2 ≠ 4
              · refine v_ic_ne_t (t := 69) rfl (by decide) (by omega) ?_
                refine q_iconst rfl ?_
                refine v_zret rfl rfl (by omega) ?_
                refine bk_inl ?_
                refine v_if_eq_t (t := 59) rfl (by decide) (by decide) ?_
                refine q_aload_n rfl rfl ?_
                refine v_cv rfl rfl rfl rfl (by decide) ⟨⟨rfl, rfl⟩, by decide, rfl⟩ (Nat.le_of_ble_eq_true rfl) (Nat.le_of_ble_eq_true rfl) ?_
                refine q_aload_n rfl rfl ?_
                refine v_gi (z := 4) (v := c_13 1 4) rfl rfl rfl (by decide) rfl rfl rfl ?_
                by_cases h_87 : c_13 1 4 ≠ 0
                · refine v_if_ne_t (t := 11) rfl (by decide) (by omega) ?_
                  refine q_iconst rfl ?_
                  refine v_zret rfl rfl (by omega) ?_
                  refine bk_inl ?_
                  refine v_if_eq_t (t := 73) rfl (by decide) (by decide) ?_
                  refine q_aload_n rfl rfl ?_
                  refine q_ldc_s rfl rfl rfl (by decide) ?_
                  refine v_cv rfl rfl rfl rfl (by decide) ⟨⟨rfl, rfl⟩, by decide, rfl⟩ (Nat.le_of_ble_eq_true rfl) (Nat.le_of_ble_eq_true rfl) (s_11 hI_14 (q := 9) (nt := 1) (by decide) (by decide) (by decide) (fun c_88 hI_89 hF_90 => ?_))
                  refine bk_inl ?_
                  refine v_iinc (v := v2 + 1) rfl rfl (by decide) (by omega) ?_
                  refine q_goto (t := 6) rfl (by decide) ?_
                  refine Wp_ls [(0, .ref A), (1, .ref 1), (2, vi (v2 + 1))] (lsub_cons rfl (lsub_cons rfl (lsub_cons rfl lsub_nil))) ?_
                  exact ih c_88 (v2 + 1) hI_89 (fun a j hm => (hF_90 a j (by omega)).trans ((hF_15 a j (by omega)).trans ((hF_9 a j (by omega)).trans ((hF_4 a j (by omega)).trans (hF a j (by omega)))))) ⟨by omega, by omega⟩ (by omega)
                · refine v_if_ne_f (t := 11) rfl (by decide) (by omega) ?_
                  refine q_iconst rfl ?_
                  refine q_goto (t := 12) rfl (by decide) ?_
                  refine v_zret rfl rfl (by omega) ?_
                  refine bk_inl ?_
                  refine v_if_eq_f (t := 73) rfl (by decide) (by decide) ?_
                  refine q_aload_n rfl rfl ?_
                  refine q_aload_n rfl rfl ?_
                  refine q_iload rfl rfl ?_
                  have h_91 := ir_p0_0 hI2 hA
                  have h_92 : c_13 A 0 = c2 A 0 := ((hF_15 A 0 (by omega)).trans ((hF_9 A 0 (by omega)).trans (hF_4 A 0 (by omega))))
                  have h_93 := ir_p0_1 hI2 hA
                  have h_94 : c_13 A 1 = c2 A 1 := ((hF_15 A 1 (by omega)).trans ((hF_9 A 1 (by omega)).trans (hF_4 A 1 (by omega))))
                  have h_95 : c_13 A 2 = c2 A 2 := ((hF_15 A 2 (by omega)).trans ((hF_9 A 2 (by omega)).trans (hF_4 A 2 (by omega))))
                  refine v_cv rfl rfl rfl (ck_p0 hA) (by omega) ⟨⟨rfl, rfl⟩, by decide, rfl⟩ (Nat.le_of_ble_eq_true rfl) (Nat.le_of_ble_eq_true rfl) (s_33 (a2 := y_16) hI_14 hA (show 0 ≤ y_16 ∧ y_16 ≤ 100 from by omega) (by omega) (by omega) (by omega) (fun c_96 hI_97 hF_98 => ?_))
                  refine bk_inl ?_
                  refine q_aload_n rfl rfl ?_
                  refine q_ldc_s rfl rfl rfl (by decide) ?_
                  refine v_cv rfl rfl rfl rfl (by decide) ⟨⟨rfl, rfl⟩, by decide, rfl⟩ (Nat.le_of_ble_eq_true rfl) (Nat.le_of_ble_eq_true rfl) (s_11 hI_97 (q := 9) (nt := 1) (by decide) (by decide) (by decide) (fun c_99 hI_100 hF_101 => ?_))
                  refine bk_inl ?_
                  refine v_iinc (v := v2 + 1) rfl rfl (by decide) (by omega) ?_
                  refine q_goto (t := 6) rfl (by decide) ?_
                  refine Wp_ls [(0, .ref A), (1, .ref 1), (2, vi (v2 + 1))] (lsub_cons rfl (lsub_cons rfl (lsub_cons rfl lsub_nil))) ?_
                  exact ih c_99 (v2 + 1) hI_100 (fun a j hm => (hF_101 a j (by omega)).trans ((hF_98 a j (by omega)).trans ((hF_15 a j (by omega)).trans ((hF_9 a j (by omega)).trans ((hF_4 a j (by omega)).trans (hF a j (by omega))))))) ⟨by omega, by omega⟩ (by omega)
              · refine v_ic_ne_f (t := 69) rfl (by decide) (by omega) ?_
                refine q_iconst rfl ?_
                refine q_goto (t := 70) rfl (by decide) ?_
                refine v_zret rfl rfl (by omega) ?_
                refine bk_inl ?_
                refine v_if_eq_f (t := 59) rfl (by decide) (by decide) ?_
                refine q_aload_n rfl rfl ?_
                refine q_iconst rfl ?_
                refine q_iload_n rfl rfl ?_
                refine v_cv rfl rfl rfl rfl (by decide) ⟨⟨rfl, rfl⟩, by decide, rfl⟩ (Nat.le_of_ble_eq_true rfl) (Nat.le_of_ble_eq_true rfl) (s_7 (a1 := 3) (a2 := y_10) hI_14 (show 1 ≤ 3 ∧ 3 ≤ 3 from by omega) (show 0 ≤ y_10 ∧ y_10 ≤ 600 from by omega) (fun c_102 hI_103 hF_104 h_105 => ?_))
                refine bk_inl ?_
                have h_106 := ir_1_4 hI_103
                refine q_aload_n rfl rfl ?_
                refine v_cv rfl rfl rfl rfl (by decide) ⟨⟨rfl, rfl⟩, by decide, rfl⟩ (Nat.le_of_ble_eq_true rfl) (Nat.le_of_ble_eq_true rfl) ?_
                refine q_aload_n rfl rfl ?_
                refine v_gi (z := 4) (v := c_102 1 4) rfl rfl rfl (by decide) rfl rfl rfl ?_
                refine v_if_ne_t (t := 11) rfl (by decide) (by omega) ?_
                refine q_iconst rfl ?_
                refine v_zret rfl rfl (by omega) ?_
                refine bk_inl ?_
                refine v_if_eq_t (t := 73) rfl (by decide) (by decide) ?_
                refine q_aload_n rfl rfl ?_
                refine q_ldc_s rfl rfl rfl (by decide) ?_
                refine v_cv rfl rfl rfl rfl (by decide) ⟨⟨rfl, rfl⟩, by decide, rfl⟩ (Nat.le_of_ble_eq_true rfl) (Nat.le_of_ble_eq_true rfl) (s_11 hI_103 (q := 9) (nt := 1) (by decide) (by decide) (by decide) (fun c_107 hI_108 hF_109 => ?_))
                refine bk_inl ?_
                refine v_iinc (v := v2 + 1) rfl rfl (by decide) (by omega) ?_
                refine q_goto (t := 6) rfl (by decide) ?_
                refine Wp_ls [(0, .ref A), (1, .ref 1), (2, vi (v2 + 1))] (lsub_cons rfl (lsub_cons rfl (lsub_cons rfl lsub_nil))) ?_
                exact ih c_107 (v2 + 1) hI_108 (fun a j hm => (hF_109 a j (by omega)).trans ((hF_104 a j (by omega)).trans ((hF_15 a j (by omega)).trans ((hF_9 a j (by omega)).trans ((hF_4 a j (by omega)).trans (hF a j (by omega))))))) ⟨by omega, by omega⟩ (by omega)
            refine v_tsw_o (t := 71) rfl (by omega) (by decide) ?_
            refine q_iconst rfl ?_
            refine v_zret rfl rfl (by omega) ?_
            refine bk_inl ?_
            refine v_if_eq_t (t := 59) rfl (by decide) (by decide) ?_
            refine q_aload_n rfl rfl ?_
            refine v_cv rfl rfl rfl rfl (by decide) ⟨⟨rfl, rfl⟩, by decide, rfl⟩ (Nat.le_of_ble_eq_true rfl) (Nat.le_of_ble_eq_true rfl) ?_
            refine q_aload_n rfl rfl ?_
            refine v_gi (z := 4) (v := c_13 1 4) rfl rfl rfl (by decide) rfl rfl rfl ?_
            by_cases h_110 : c_13 1 4 ≠ 0
            · refine v_if_ne_t (t := 11) rfl (by decide) (by omega) ?_
              refine q_iconst rfl ?_
              refine v_zret rfl rfl (by omega) ?_
              refine bk_inl ?_
              refine v_if_eq_t (t := 73) rfl (by decide) (by decide) ?_
              refine q_aload_n rfl rfl ?_
              refine q_ldc_s rfl rfl rfl (by decide) ?_
              refine v_cv rfl rfl rfl rfl (by decide) ⟨⟨rfl, rfl⟩, by decide, rfl⟩ (Nat.le_of_ble_eq_true rfl) (Nat.le_of_ble_eq_true rfl) (s_11 hI_14 (q := 9) (nt := 1) (by decide) (by decide) (by decide) (fun c_111 hI_112 hF_113 => ?_))
              refine bk_inl ?_
              refine v_iinc (v := v2 + 1) rfl rfl (by decide) (by omega) ?_
              refine q_goto (t := 6) rfl (by decide) ?_
              refine Wp_ls [(0, .ref A), (1, .ref 1), (2, vi (v2 + 1))] (lsub_cons rfl (lsub_cons rfl (lsub_cons rfl lsub_nil))) ?_
              exact ih c_111 (v2 + 1) hI_112 (fun a j hm => (hF_113 a j (by omega)).trans ((hF_15 a j (by omega)).trans ((hF_9 a j (by omega)).trans ((hF_4 a j (by omega)).trans (hF a j (by omega)))))) ⟨by omega, by omega⟩ (by omega)
            · refine v_if_ne_f (t := 11) rfl (by decide) (by omega) ?_
              refine q_iconst rfl ?_
              refine q_goto (t := 12) rfl (by decide) ?_
              refine v_zret rfl rfl (by omega) ?_
              refine bk_inl ?_
              refine v_if_eq_f (t := 73) rfl (by decide) (by decide) ?_
              refine q_aload_n rfl rfl ?_
              refine q_aload_n rfl rfl ?_
              refine q_iload rfl rfl ?_
              have h_114 := ir_p0_0 hI2 hA
              have h_115 : c_13 A 0 = c2 A 0 := ((hF_15 A 0 (by omega)).trans ((hF_9 A 0 (by omega)).trans (hF_4 A 0 (by omega))))
              have h_116 := ir_p0_1 hI2 hA
              have h_117 : c_13 A 1 = c2 A 1 := ((hF_15 A 1 (by omega)).trans ((hF_9 A 1 (by omega)).trans (hF_4 A 1 (by omega))))
              have h_118 := ir_p0_2 hI2 hA
              have h_119 : c_13 A 2 = c2 A 2 := ((hF_15 A 2 (by omega)).trans ((hF_9 A 2 (by omega)).trans (hF_4 A 2 (by omega))))
              refine v_cv rfl rfl rfl (ck_p0 hA) (by omega) ⟨⟨rfl, rfl⟩, by decide, rfl⟩ (Nat.le_of_ble_eq_true rfl) (Nat.le_of_ble_eq_true rfl) (s_33 (a2 := y_16) hI_14 hA (show 0 ≤ y_16 ∧ y_16 ≤ 100 from by omega) (by omega) (by omega) (by omega) (fun c_120 hI_121 hF_122 => ?_))
              refine bk_inl ?_
              refine q_aload_n rfl rfl ?_
              refine q_ldc_s rfl rfl rfl (by decide) ?_
              refine v_cv rfl rfl rfl rfl (by decide) ⟨⟨rfl, rfl⟩, by decide, rfl⟩ (Nat.le_of_ble_eq_true rfl) (Nat.le_of_ble_eq_true rfl) (s_11 hI_121 (q := 9) (nt := 1) (by decide) (by decide) (by decide) (fun c_123 hI_124 hF_125 => ?_))
              refine bk_inl ?_
              refine v_iinc (v := v2 + 1) rfl rfl (by decide) (by omega) ?_
              refine q_goto (t := 6) rfl (by decide) ?_
              refine Wp_ls [(0, .ref A), (1, .ref 1), (2, vi (v2 + 1))] (lsub_cons rfl (lsub_cons rfl (lsub_cons rfl lsub_nil))) ?_
              exact ih c_123 (v2 + 1) hI_124 (fun a j hm => (hF_125 a j (by omega)).trans ((hF_122 a j (by omega)).trans ((hF_15 a j (by omega)).trans ((hF_9 a j (by omega)).trans ((hF_4 a j (by omega)).trans (hF a j (by omega))))))) ⟨by omega, by omega⟩ (by omega)
set_option maxRecDepth 100000 in
set_option maxHeartbeats 4000000 in
theorem s_34 {sc : List Int32} {e : Int} {d u P Q A : Nat} {c : ME} {Z : AR → Prop} (hI : Iv u e P Q c) (hA : A = 13 ∨ A = 25) (K : ∀ (c2 : ME), Iv u e P Q c2 → (∀ (a : Nat) (j : Int), ¬ ((a = 1 ∧ j = 2) ∨ (a = 1 ∧ j = 4) ∨ (a = 1 ∧ j = 5) ∨ (a = A ∧ j = 0) ∨ (a = A ∧ j = 1) ∨ (a = A ∧ j = 2) ∨ (a = A ∧ j = 3) ∨ a = (A + 1) ∨ a = (A + 2) ∨ a = (A + 3) ∨ (a = A ∧ j = 4) ∨ (a = A ∧ j = 5) ∨ a = (A + 6) ∨ (a = (A + 7) ∧ j = 4)) → c2 a j = c a j) → Z (.inl (none), Wd P Q P P c2, 0, 0)) : Wp sc (d + 12) 34 0 [(0, .ref A), (1, .ref 1)] [] (Wd P Q P P c) 0 0 Z := by
  have hP := iv_P hI
  have hQ := iv_Q hI
  refine q_aload_n rfl rfl ?_
  refine v_cv rfl rfl rfl (ck_p0 hA) (by omega) ⟨⟨rfl, rfl⟩, by decide, rfl⟩ (Nat.le_of_ble_eq_true rfl) (Nat.le_of_ble_eq_true rfl) (s_30 hI hA (fun c_126 hI_127 hF_128 h_129 => ?_))
  refine bk_inl ?_
  have h_130 := ir_p0_0 hI_127 hA
  have h_131 := ir_p0_1 hI_127 hA
  have h_132 := ir_p0_2 hI_127 hA
  refine q_iconst rfl ?_
  refine q_istore_n rfl (by decide) ?_
  refine Wp_ls [(0, .ref A), (1, .ref 1), (2, vi 0)] (lsub_cons rfl (lsub_cons rfl (lsub_cons rfl lsub_nil))) ?_
  exact (s_34_l (sc := sc) (d := d) hI hA K 126) c_126 0 hI_127 (fun a j hm => hF_128 a j (by omega)) ⟨by decide, by decide⟩ (by omega)

set_option maxRecDepth 100000 in
set_option maxHeartbeats 4000000 in
theorem s_35_l {sc : List Int32} {e : Int} {d u P Q A : Nat} {c : ME} {Z : AR → Prop} (hI : Iv u e P Q c) (hA : A = 13 ∨ A = 25) (K : ∀ (c2 : ME), Iv u e P Q c2 → (∀ (a : Nat) (j : Int), ¬ ((a = 1 ∧ j = 2) ∨ (a = 1 ∧ j = 4) ∨ (a = 1 ∧ j = 5) ∨ (a = A ∧ j = 4) ∨ a = (A + 4) ∨ a = (A + 5)) → c2 a j = c a j) → Z (.inl (none), Wd P Q P P c2, 0, 0)) : ∀ n : Nat, (∀ (c2 : ME) (v2 : Int) (v3 : Int), Iv u e P Q c2 → (∀ (a : Nat) (j : Int), ¬ ((a = 1 ∧ j = 2) ∨ (a = 1 ∧ j = 4) ∨ (a = 1 ∧ j = 5) ∨ (a = A ∧ j = 4) ∨ a = (A + 4) ∨ a = (A + 5)) → c2 a j = c a j) → 0 ≤ v2 ∧ v2 ≤ 8 → 0 ≤ v3 ∧ v3 ≤ 9 → (∀ j : Int, 0 ≤ j → j < v2 → 0 ≤ c2 (A + 5) j ∧ c2 (A + 5) j ≤ 3) → ((v2 ≤ v3)) → 19 - 2 * v3 < (n : Int) → Wp sc (d + 10) 35 4 [(0, .ref A), (1, .ref 1), (2, vi v2), (3, vi v3)] [] (Wd P Q P P c2) 0 0 Z)
  | 0 => by intros; exfalso; omega
  | n + 1 => by
    have hP := iv_P hI
    have hQ := iv_Q hI
    have ih := s_35_l (sc := sc) (d := d) hI hA K n
    intro c2 v2 v3 hI2 hF hv2 hv3 hx0 hx1 hm9
    refine q_iload_n rfl rfl ?_
    refine v_bip rfl (by decide) ?_
    by_cases h_1 : v3 > 8
    · refine v_ic_gt_t (t := 75) rfl (by decide) (by omega) ?_
      refine q_aload_n rfl rfl ?_
      refine v_cv rfl rfl rfl rfl (by decide) ⟨⟨rfl, rfl⟩, by decide, rfl⟩ (Nat.le_of_ble_eq_true rfl) (Nat.le_of_ble_eq_true rfl) ?_
      refine q_aload_n rfl rfl ?_
      have h_2 := ir_1_4 hI2
      refine v_gi (z := 4) (v := c2 1 4) rfl rfl rfl (by decide) rfl rfl rfl ?_
      by_cases h_3 : c2 1 4 ≠ 0
      · refine v_if_ne_t (t := 11) rfl (by decide) (by omega) ?_
        refine q_iconst rfl ?_
        refine v_zret rfl rfl (by omega) ?_
        refine bk_inl ?_
        refine v_if_eq_t (t := 102) rfl (by decide) (by decide) ?_
        refine q_vret rfl rfl ?_
        exact K c2 hI2 (fun a j hm => hF a j (by omega))
      · refine v_if_ne_f (t := 11) rfl (by decide) (by omega) ?_
        refine q_iconst rfl ?_
        refine q_goto (t := 12) rfl (by decide) ?_
        refine v_zret rfl rfl (by omega) ?_
        refine bk_inl ?_
        refine v_if_eq_f (t := 102) rfl (by decide) (by decide) ?_
        refine q_aload_n rfl rfl ?_
        refine v_gr (t := (A + 5)) rfl rfl (ck_p0 hA) (by omega) rfl ?_
        refine q_iconst rfl ?_
        refine q_aload_n rfl rfl ?_
        refine v_gr (t := (A + 4)) rfl rfl (ck_p0 hA) (by omega) rfl ?_
        refine q_iconst rfl ?_
        refine v_bip rfl (by decide) ?_
        refine v_cpy rfl rfl (ck_p4 hA) (by omega) (ck_p5 hA) (by omega) rfl rfl (by omega) (Nat.le_of_ble_eq_true rfl) (by omega) ?_
        refine q_aload_n rfl rfl ?_
        refine q_iload_n rfl rfl ?_
        refine v_pi (z := 4) rfl rfl (ck_p0 hA) (by omega) rfl rfl rfl (by decide) ?_
        refine q_vret rfl rfl ?_
        have hr_6 : ∀ j : Int, 0 ≤ j → j < v2 → 0 ≤ c2 (A + 5) j ∧ c2 (A + 5) j ≤ 3 := by
          intro j hj1 hj2
          have q9 : c2 (A + 5) j = c2 (A + 5) j := rfl
          rw [q9]
          exact hx0 j hj1 (by omega)
        have hI_5 := iw_stk (v := v2) hI2 hA ⟨by omega, by omega⟩ hr_6
        exact K (up (upc c2 (A + 5) 0 (A + 4) 0 8) A 4 v2) hI_5 (fun a j hm => (up_b (by omega)).trans ((upc_c (by omega)).trans (hF a j (by omega))))
    · refine v_ic_gt_f (t := 75) rfl (by decide) (by omega) ?_
      refine q_aload_n rfl rfl ?_
      refine v_cv rfl rfl rfl rfl (by decide) ⟨⟨rfl, rfl⟩, by decide, rfl⟩ (Nat.le_of_ble_eq_true rfl) (Nat.le_of_ble_eq_true rfl) (s_15 hI2 (fun c_7 y_10 hI_8 hF_9 hy_10 => ?_))
      refine bk_inl ?_
      by_cases h_11 : y_10 = 0
      · refine v_if_eq_t (t := 75) rfl (by decide) (by omega) ?_
        refine q_aload_n rfl rfl ?_
        refine v_cv rfl rfl rfl rfl (by decide) ⟨⟨rfl, rfl⟩, by decide, rfl⟩ (Nat.le_of_ble_eq_true rfl) (Nat.le_of_ble_eq_true rfl) ?_
        refine q_aload_n rfl rfl ?_
        have h_12 := ir_1_4 hI2
        refine v_gi (z := 4) (v := c2 1 4) rfl rfl rfl (by decide) rfl rfl (hF_9 1 4 (by omega)) ?_
        by_cases h_13 : c2 1 4 ≠ 0
        · refine v_if_ne_t (t := 11) rfl (by decide) (by omega) ?_
          refine q_iconst rfl ?_
          refine v_zret rfl rfl (by omega) ?_
          refine bk_inl ?_
          refine v_if_eq_t (t := 102) rfl (by decide) (by decide) ?_
          refine q_vret rfl rfl ?_
          exact K c_7 hI_8 (fun a j hm => (hF_9 a j (by omega)).trans (hF a j (by omega)))
        · refine v_if_ne_f (t := 11) rfl (by decide) (by omega) ?_
          refine q_iconst rfl ?_
          refine q_goto (t := 12) rfl (by decide) ?_
          refine v_zret rfl rfl (by omega) ?_
          refine bk_inl ?_
          refine v_if_eq_f (t := 102) rfl (by decide) (by decide) ?_
          refine q_aload_n rfl rfl ?_
          refine v_gr (t := (A + 5)) rfl rfl (ck_p0 hA) (by omega) rfl ?_
          refine q_iconst rfl ?_
          refine q_aload_n rfl rfl ?_
          refine v_gr (t := (A + 4)) rfl rfl (ck_p0 hA) (by omega) rfl ?_
          refine q_iconst rfl ?_
          refine v_bip rfl (by decide) ?_
          refine v_cpy rfl rfl (ck_p4 hA) (by omega) (ck_p5 hA) (by omega) rfl rfl (by omega) (Nat.le_of_ble_eq_true rfl) (by omega) ?_
          refine q_aload_n rfl rfl ?_
          refine q_iload_n rfl rfl ?_
          refine v_pi (z := 4) rfl rfl (ck_p0 hA) (by omega) rfl rfl rfl (by decide) ?_
          refine q_vret rfl rfl ?_
          have hr_16 : ∀ j : Int, 0 ≤ j → j < v2 → 0 ≤ c_7 (A + 5) j ∧ c_7 (A + 5) j ≤ 3 := by
            intro j hj1 hj2
            have q9 : c_7 (A + 5) j = c2 (A + 5) j := hF_9 (A + 5) j (by omega)
            rw [q9]
            exact hx0 j hj1 (by omega)
          have hI_15 := iw_stk (v := v2) hI_8 hA ⟨by omega, by omega⟩ hr_16
          exact K (up (upc c_7 (A + 5) 0 (A + 4) 0 8) A 4 v2) hI_15 (fun a j hm => (up_b (by omega)).trans ((upc_c (by omega)).trans ((hF_9 a j (by omega)).trans (hF a j (by omega)))))
      · refine v_if_eq_f (t := 75) rfl (by decide) (by omega) ?_
        refine q_aload_n rfl rfl ?_
        refine v_cv rfl rfl rfl rfl (by decide) ⟨⟨rfl, rfl⟩, by decide, rfl⟩ (Nat.le_of_ble_eq_true rfl) (Nat.le_of_ble_eq_true rfl) (s_3 hI_8 (fun c_17 y_20 hI_18 hF_19 hy_20 h_21 => ?_))
        refine bk_inl ?_
        have h_22 := ir_1_2 hI_18
        refine q_istore rfl (by decide) ?_
        refine q_aload_n rfl rfl ?_
        refine q_aload_n rfl rfl ?_
        have h_23 := ir_p0_2 hI hA
        refine v_gi (z := 2) (v := c A 2) rfl rfl (ck_p0 hA) (by omega) rfl rfl ((hF_19 A 2 (by omega)).trans ((hF_9 A 2 (by omega)).trans (hF A 2 (by omega)))) ?_
        refine q_iconst rfl ?_
        refine v_isub (v := c A 2 - 1) rfl (by omega) ?_
        refine v_cv rfl rfl rfl rfl (by decide) ⟨⟨rfl, rfl⟩, by decide, rfl⟩ (Nat.le_of_ble_eq_true rfl) (Nat.le_of_ble_eq_true rfl) (s_8 (a1 := c A 2 - 1) hI_18 (show (-1) ≤ c A 2 - 1 ∧ c A 2 - 1 ≤ 9999 from by omega) (fun c_24 y_27 hI_25 hF_26 hy_27 h_28 => ?_))
        refine bk_inl ?_
        refine q_istore rfl (by decide) ?_
        refine q_iload_n rfl rfl ?_
        refine v_bip rfl (by decide) ?_
        by_cases h_29 : v3 ≠ 8
        · refine v_ic_ne_t (t := 51) rfl (by decide) (by omega) ?_
          refine q_aload_n rfl rfl ?_
          refine v_gr (t := (A + 5)) rfl rfl (ck_p0 hA) (by omega) rfl ?_
          refine q_iload_n rfl rfl ?_
          refine q_iload rfl rfl ?_
          refine v_is rfl (ck_p5 hA) (by omega) (by decide) (by omega) ?_
          refine q_iload_n rfl rfl ?_
          refine q_iconst rfl ?_
          refine v_iadd (v := v3 + 1) rfl (by omega) ?_
          refine q_istore_n rfl (by decide) ?_
          refine q_aload_n rfl rfl ?_
          refine q_ldc_s rfl rfl rfl (by decide) ?_
          have hI_30 := iw_p5 (j := v3) (v := y_27) hI_25 hA ⟨by omega, by omega⟩
          refine v_cv rfl rfl rfl rfl (by decide) ⟨⟨rfl, rfl⟩, by decide, rfl⟩ (Nat.le_of_ble_eq_true rfl) (Nat.le_of_ble_eq_true rfl) (s_11 hI_30 (q := 9) (nt := 1) (by decide) (by decide) (by decide) (fun c_31 hI_32 hF_33 => ?_))
          refine bk_inl ?_
          refine v_iinc (v := v3 + 1) rfl rfl (by decide) (by omega) ?_
          refine q_goto (t := 4) rfl (by decide) ?_
          refine Wp_ls [(0, .ref A), (1, .ref 1), (2, vi (v3 + 1)), (3, vi (v3 + 1))] (lsub_cons rfl (lsub_cons rfl (lsub_cons rfl (lsub_cons rfl lsub_nil)))) ?_
          have hr_34 : ∀ j : Int, 0 ≤ j → j < v3 + 1 → 0 ≤ c_31 (A + 5) j ∧ c_31 (A + 5) j ≤ 3 := by
            intro j hj1 hj2
            by_cases e9 : j = v3
            · have q9 : c_31 (A + 5) j = y_27 := (hF_33 (A + 5) j (by omega)).trans (up_e e9)
              rw [q9]
              omega
            · have q9 : c_31 (A + 5) j = c2 (A + 5) j := (hF_33 (A + 5) j (by omega)).trans ((up_n e9).trans ((hF_26 (A + 5) j (by omega)).trans ((hF_19 (A + 5) j (by omega)).trans (hF_9 (A + 5) j (by omega)))))
              rw [q9]
              exact hx0 j hj1 (by omega)
          exact ih c_31 (v3 + 1) (v3 + 1) hI_32 (fun a j hm => (hF_33 a j (by omega)).trans ((up_b (by omega)).trans ((hF_26 a j (by omega)).trans ((hF_19 a j (by omega)).trans ((hF_9 a j (by omega)).trans (hF a j (by omega))))))) ⟨by omega, by omega⟩ ⟨by omega, by omega⟩ hr_34 (by omega) (by omega)
        · refine v_ic_ne_f (t := 51) rfl (by decide) (by omega) ?_
          refine q_aload_n rfl rfl ?_
          refine q_iconst rfl ?_
          refine q_iload rfl rfl ?_
          refine v_cv rfl rfl rfl rfl (by decide) ⟨⟨rfl, rfl⟩, by decide, rfl⟩ (Nat.le_of_ble_eq_true rfl) (Nat.le_of_ble_eq_true rfl) (s_7 (a1 := 3) (a2 := y_20) hI_25 (show 1 ≤ 3 ∧ 3 ≤ 3 from by omega) (show 0 ≤ y_20 ∧ y_20 ≤ 600 from by omega) (fun c_35 hI_36 hF_37 h_38 => ?_))
          refine bk_inl ?_
          have h_39 := ir_1_4 hI_36
          refine q_goto (t := 63) rfl (by decide) ?_
          refine q_aload_n rfl rfl ?_
          refine q_ldc_s rfl rfl rfl (by decide) ?_
          refine v_cv rfl rfl rfl rfl (by decide) ⟨⟨rfl, rfl⟩, by decide, rfl⟩ (Nat.le_of_ble_eq_true rfl) (Nat.le_of_ble_eq_true rfl) (s_11 hI_36 (q := 9) (nt := 1) (by decide) (by decide) (by decide) (fun c_40 hI_41 hF_42 => ?_))
          refine bk_inl ?_
          refine v_iinc (v := v3 + 1) rfl rfl (by decide) (by omega) ?_
          refine q_goto (t := 4) rfl (by decide) ?_
          refine Wp_ls [(0, .ref A), (1, .ref 1), (2, vi v2), (3, vi (v3 + 1))] (lsub_cons rfl (lsub_cons rfl (lsub_cons rfl (lsub_cons rfl lsub_nil)))) ?_
          have hr_43 : ∀ j : Int, 0 ≤ j → j < v2 → 0 ≤ c_40 (A + 5) j ∧ c_40 (A + 5) j ≤ 3 := by
            intro j hj1 hj2
            have q9 : c_40 (A + 5) j = c2 (A + 5) j := (hF_42 (A + 5) j (by omega)).trans ((hF_37 (A + 5) j (by omega)).trans ((hF_26 (A + 5) j (by omega)).trans ((hF_19 (A + 5) j (by omega)).trans (hF_9 (A + 5) j (by omega)))))
            rw [q9]
            exact hx0 j hj1 (by omega)
          exact ih c_40 v2 (v3 + 1) hI_41 (fun a j hm => (hF_42 a j (by omega)).trans ((hF_37 a j (by omega)).trans ((hF_26 a j (by omega)).trans ((hF_19 a j (by omega)).trans ((hF_9 a j (by omega)).trans (hF a j (by omega))))))) ⟨by omega, by omega⟩ ⟨by omega, by omega⟩ hr_43 (by omega) (by omega)
set_option maxRecDepth 100000 in
set_option maxHeartbeats 4000000 in
theorem s_35 {sc : List Int32} {e : Int} {d u P Q A : Nat} {c : ME} {Z : AR → Prop} (hI : Iv u e P Q c) (hA : A = 13 ∨ A = 25) (K : ∀ (c2 : ME), Iv u e P Q c2 → (∀ (a : Nat) (j : Int), ¬ ((a = 1 ∧ j = 2) ∨ (a = 1 ∧ j = 4) ∨ (a = 1 ∧ j = 5) ∨ (a = A ∧ j = 4) ∨ a = (A + 4) ∨ a = (A + 5)) → c2 a j = c a j) → Z (.inl (none), Wd P Q P P c2, 0, 0)) : Wp sc (d + 10) 35 0 [(0, .ref A), (1, .ref 1)] [] (Wd P Q P P c) 0 0 Z := by
  have hP := iv_P hI
  have hQ := iv_Q hI
  refine q_iconst rfl ?_
  refine q_istore_n rfl (by decide) ?_
  refine q_iconst rfl ?_
  refine q_istore_n rfl (by decide) ?_
  refine Wp_ls [(0, .ref A), (1, .ref 1), (2, vi 0), (3, vi 0)] (lsub_cons rfl (lsub_cons rfl (lsub_cons rfl (lsub_cons rfl lsub_nil)))) ?_
  have hr_44 : ∀ j : Int, 0 ≤ j → j < 0 → 0 ≤ c (A + 5) j ∧ c (A + 5) j ≤ 3 := by
    intro j hj1 hj2
    omega
  exact (s_35_l (sc := sc) (d := d) hI hA K 22) c 0 0 hI (fun a j hm => rfl) ⟨by decide, by decide⟩ ⟨by decide, by decide⟩ hr_44 (by omega) (by omega)

set_option maxRecDepth 100000 in
set_option maxHeartbeats 4000000 in
theorem s_36_l {sc : List Int32} {e : Int} {d u P Q A : Nat} {c : ME} {Z : AR → Prop} (hI : Iv u e P Q c) (hA : A = 13 ∨ A = 25) (K : ∀ (c2 : ME), Iv u e P Q c2 → (∀ (a : Nat) (j : Int), ¬ ((a = 1 ∧ j = 2) ∨ (a = 1 ∧ j = 4) ∨ (a = 1 ∧ j = 5) ∨ (a = A ∧ j = 5) ∨ a = (A + 5) ∨ a = (A + 6)) → c2 a j = c a j) → Z (.inl (none), Wd P Q P P c2, 0, 0)) : ∀ n : Nat, (∀ (c2 : ME) (v2 : Int), Iv u e P Q c2 → (∀ (a : Nat) (j : Int), ¬ ((a = 1 ∧ j = 2) ∨ (a = 1 ∧ j = 4) ∨ (a = 1 ∧ j = 5) ∨ (a = A ∧ j = 5) ∨ a = (A + 5) ∨ a = (A + 6)) → c2 a j = c a j) → 0 ≤ v2 ∧ v2 ≤ 4 → 22 - 2 * v2 < (n : Int) → Wp sc (d + 10) 36 2 [(0, .ref A), (1, .ref 1), (2, vi v2)] [] (Wd P Q P P c2) 0 0 Z) ∧ (∀ (c2 : ME) (v2 : Int) (v3 : Int), Iv u e P Q c2 → (∀ (a : Nat) (j : Int), ¬ ((a = 1 ∧ j = 2) ∨ (a = 1 ∧ j = 4) ∨ (a = 1 ∧ j = 5) ∨ (a = A ∧ j = 5) ∨ a = (A + 5) ∨ a = (A + 6)) → c2 a j = c a j) → 0 ≤ v2 ∧ v2 ≤ 5 → 0 ≤ v3 ∧ v3 ≤ 5 → 11 - 2 * v3 < (n : Int) → Wp sc (d + 10) 36 24 [(0, .ref A), (1, .ref 1), (2, vi v2), (3, vi v3)] [] (Wd P Q P P c2) 0 0 Z)
  | 0 => by refine ⟨?_, ?_⟩ <;> (intros; exfalso; omega)
  | n + 1 => by
    have hP := iv_P hI
    have hQ := iv_Q hI
    have ih := s_36_l (sc := sc) (d := d) hI hA K n
    refine ⟨?_, ?_⟩
    · skip
      intro c2 v2 hI2 hF hv2 hm9
      refine q_iload_n rfl rfl ?_
      refine q_iconst rfl ?_
      by_cases h_1 : v2 ≥ 4
      · refine v_ic_ge_t (t := 20) rfl (by decide) (by omega) ?_
        refine q_iconst rfl ?_
        refine q_istore_n rfl (by decide) ?_
        refine q_iconst rfl ?_
        refine q_istore_n rfl (by decide) ?_
        refine Wp_ls [(0, .ref A), (1, .ref 1), (2, vi 0), (3, vi 0)] (lsub_cons rfl (lsub_cons rfl (lsub_cons rfl (lsub_cons rfl lsub_nil)))) ?_
        exact ih.2 c2 0 0 hI2 (fun a j hm => hF a j (by omega)) ⟨by decide, by decide⟩ ⟨by decide, by decide⟩ (by omega)
      · refine v_ic_ge_f (t := 20) rfl (by decide) (by omega) ?_
        refine q_aload_n rfl rfl ?_
        refine v_gr (t := (A + 5)) rfl rfl (ck_p0 hA) (by omega) rfl ?_
        refine q_iload_n rfl rfl ?_
        refine q_iconst rfl ?_
        refine v_is rfl (ck_p5 hA) (by omega) (by decide) (by omega) ?_
        refine v_iinc (v := v2 + 1) rfl rfl (by decide) (by omega) ?_
        refine q_goto (t := 2) rfl (by decide) ?_
        have hI_2 := iw_p5 (j := v2) (v := (-1)) hI2 hA ⟨by decide, by decide⟩
        refine Wp_ls [(0, .ref A), (1, .ref 1), (2, vi (v2 + 1))] (lsub_cons rfl (lsub_cons rfl (lsub_cons rfl lsub_nil))) ?_
        exact ih.1 (up c2 (A + 5) v2 (-1)) (v2 + 1) hI_2 (fun a j hm => (up_b (by omega)).trans (hF a j (by omega))) ⟨by omega, by omega⟩ (by omega)
    · skip
      intro c2 v2 v3 hI2 hF hv2 hv3 hm9
      refine q_iload_n rfl rfl ?_
      refine q_iconst rfl ?_
      by_cases h_3 : v3 > 4
      · refine v_ic_gt_t (t := 97) rfl (by decide) (by omega) ?_
        refine q_aload_n rfl rfl ?_
        refine v_cv rfl rfl rfl rfl (by decide) ⟨⟨rfl, rfl⟩, by decide, rfl⟩ (Nat.le_of_ble_eq_true rfl) (Nat.le_of_ble_eq_true rfl) ?_
        refine q_aload_n rfl rfl ?_
        have h_4 := ir_1_4 hI2
        refine v_gi (z := 4) (v := c2 1 4) rfl rfl rfl (by decide) rfl rfl rfl ?_
        by_cases h_5 : c2 1 4 ≠ 0
        · refine v_if_ne_t (t := 11) rfl (by decide) (by omega) ?_
          refine q_iconst rfl ?_
          refine v_zret rfl rfl (by omega) ?_
          refine bk_inl ?_
          refine v_if_eq_t (t := 123) rfl (by decide) (by decide) ?_
          refine q_vret rfl rfl ?_
          exact K c2 hI2 (fun a j hm => hF a j (by omega))
        · refine v_if_ne_f (t := 11) rfl (by decide) (by omega) ?_
          refine q_iconst rfl ?_
          refine q_goto (t := 12) rfl (by decide) ?_
          refine v_zret rfl rfl (by omega) ?_
          refine bk_inl ?_
          refine v_if_eq_f (t := 123) rfl (by decide) (by decide) ?_
          refine q_aload_n rfl rfl ?_
          refine v_gr (t := (A + 5)) rfl rfl (ck_p0 hA) (by omega) rfl ?_
          refine q_iconst rfl ?_
          refine q_aload_n rfl rfl ?_
          refine v_gr (t := (A + 6)) rfl rfl (ck_p0 hA) (by omega) rfl ?_
          refine q_iconst rfl ?_
          refine q_iconst rfl ?_
          refine v_cpy rfl rfl (ck_p6 hA) (by omega) (ck_p5 hA) (by omega) rfl rfl (by omega) (Nat.le_of_ble_eq_true rfl) (by omega) ?_
          refine q_aload_n rfl rfl ?_
          refine q_iload_n rfl rfl ?_
          refine v_pi (z := 5) rfl rfl (ck_p0 hA) (by omega) rfl rfl rfl (by decide) ?_
          refine q_vret rfl rfl ?_
          have hI_6 := cp_p5_p6 hI2 hA
          have hI_7 := iw_p0_5 (v := v2) hI_6 hA ⟨by omega, by omega⟩
          exact K (up (upc c2 (A + 5) 0 (A + 6) 0 4) A 5 v2) hI_7 (fun a j hm => (up_b (by omega)).trans ((upc_c (by omega)).trans (hF a j (by omega))))
      · refine v_ic_gt_f (t := 97) rfl (by decide) (by omega) ?_
        refine q_aload_n rfl rfl ?_
        refine v_cv rfl rfl rfl rfl (by decide) ⟨⟨rfl, rfl⟩, by decide, rfl⟩ (Nat.le_of_ble_eq_true rfl) (Nat.le_of_ble_eq_true rfl) (s_15 hI2 (fun c_8 y_11 hI_9 hF_10 hy_11 => ?_))
        refine bk_inl ?_
        by_cases h_12 : y_11 = 0
        · refine v_if_eq_t (t := 97) rfl (by decide) (by omega) ?_
          refine q_aload_n rfl rfl ?_
          refine v_cv rfl rfl rfl rfl (by decide) ⟨⟨rfl, rfl⟩, by decide, rfl⟩ (Nat.le_of_ble_eq_true rfl) (Nat.le_of_ble_eq_true rfl) ?_
          refine q_aload_n rfl rfl ?_
          have h_13 := ir_1_4 hI2
          refine v_gi (z := 4) (v := c2 1 4) rfl rfl rfl (by decide) rfl rfl (hF_10 1 4 (by omega)) ?_
          by_cases h_14 : c2 1 4 ≠ 0
          · refine v_if_ne_t (t := 11) rfl (by decide) (by omega) ?_
            refine q_iconst rfl ?_
            refine v_zret rfl rfl (by omega) ?_
            refine bk_inl ?_
            refine v_if_eq_t (t := 123) rfl (by decide) (by decide) ?_
            refine q_vret rfl rfl ?_
            exact K c_8 hI_9 (fun a j hm => (hF_10 a j (by omega)).trans (hF a j (by omega)))
          · refine v_if_ne_f (t := 11) rfl (by decide) (by omega) ?_
            refine q_iconst rfl ?_
            refine q_goto (t := 12) rfl (by decide) ?_
            refine v_zret rfl rfl (by omega) ?_
            refine bk_inl ?_
            refine v_if_eq_f (t := 123) rfl (by decide) (by decide) ?_
            refine q_aload_n rfl rfl ?_
            refine v_gr (t := (A + 5)) rfl rfl (ck_p0 hA) (by omega) rfl ?_
            refine q_iconst rfl ?_
            refine q_aload_n rfl rfl ?_
            refine v_gr (t := (A + 6)) rfl rfl (ck_p0 hA) (by omega) rfl ?_
            refine q_iconst rfl ?_
            refine q_iconst rfl ?_
            refine v_cpy rfl rfl (ck_p6 hA) (by omega) (ck_p5 hA) (by omega) rfl rfl (by omega) (Nat.le_of_ble_eq_true rfl) (by omega) ?_
            refine q_aload_n rfl rfl ?_
            refine q_iload_n rfl rfl ?_
            refine v_pi (z := 5) rfl rfl (ck_p0 hA) (by omega) rfl rfl rfl (by decide) ?_
            refine q_vret rfl rfl ?_
            have hI_15 := cp_p5_p6 hI_9 hA
            have hI_16 := iw_p0_5 (v := v2) hI_15 hA ⟨by omega, by omega⟩
            exact K (up (upc c_8 (A + 5) 0 (A + 6) 0 4) A 5 v2) hI_16 (fun a j hm => (up_b (by omega)).trans ((upc_c (by omega)).trans ((hF_10 a j (by omega)).trans (hF a j (by omega)))))
        · refine v_if_eq_f (t := 97) rfl (by decide) (by omega) ?_
          refine q_aload_n rfl rfl ?_
          refine v_cv rfl rfl rfl rfl (by decide) ⟨⟨rfl, rfl⟩, by decide, rfl⟩ (Nat.le_of_ble_eq_true rfl) (Nat.le_of_ble_eq_true rfl) (s_3 hI_9 (fun c_17 y_20 hI_18 hF_19 hy_20 h_21 => ?_))
          refine bk_inl ?_
          have h_22 := ir_1_2 hI_18
          refine q_istore rfl (by decide) ?_
          refine q_aload_n rfl rfl ?_
          refine q_iconst rfl ?_
          refine v_cv rfl rfl rfl rfl (by decide) ⟨⟨rfl, rfl⟩, by decide, rfl⟩ (Nat.le_of_ble_eq_true rfl) (Nat.le_of_ble_eq_true rfl) (s_8 (a1 := 3) hI_18 (show (-1) ≤ 3 ∧ 3 ≤ 9999 from by omega) (fun c_23 y_26 hI_24 hF_25 hy_26 h_27 => ?_))
          refine bk_inl ?_
          refine q_istore rfl (by decide) ?_
          refine q_aload_n rfl rfl ?_
          refine v_gr (t := (A + 5)) rfl rfl (ck_p0 hA) (by omega) rfl ?_
          refine q_iload rfl rfl ?_
          have h_28 := ir_p5 hI2 hA y_26
          refine v_ia (v := c2 (A + 5) y_26) rfl (ck_p5 hA) (by omega) (by decide) (by omega) ((hF_25 (A + 5) y_26 (by omega)).trans ((hF_19 (A + 5) y_26 (by omega)).trans (hF_10 (A + 5) y_26 (by omega)))) ?_
          refine q_iconst rfl ?_
          by_cases h_29 : c2 (A + 5) y_26 = (-1)
          · refine v_ic_eq_t (t := 67) rfl (by decide) (by omega) ?_
            refine q_aload_n rfl rfl ?_
            refine v_gr (t := (A + 5)) rfl rfl (ck_p0 hA) (by omega) rfl ?_
            refine q_iload rfl rfl ?_
            refine q_aload_n rfl rfl ?_
            refine v_sip rfl (by decide) ?_
            refine v_cv rfl rfl rfl rfl (by decide) ⟨⟨rfl, rfl⟩, by decide, rfl⟩ (Nat.le_of_ble_eq_true rfl) (Nat.le_of_ble_eq_true rfl) (s_8 (a1 := 9999) hI_24 (show (-1) ≤ 9999 ∧ 9999 ≤ 9999 from by omega) (fun c_30 y_33 hI_31 hF_32 hy_33 h_34 => ?_))
            refine bk_inl ?_
            refine v_is rfl (ck_p5 hA) (by omega) (by decide) (by omega) ?_
            refine q_aload_n rfl rfl ?_
            refine q_ldc_s rfl rfl rfl (by decide) ?_
            have hI_35 := iw_p5 (j := y_26) (v := y_33) hI_31 hA ⟨by omega, by omega⟩
            refine v_cv rfl rfl rfl rfl (by decide) ⟨⟨rfl, rfl⟩, by decide, rfl⟩ (Nat.le_of_ble_eq_true rfl) (Nat.le_of_ble_eq_true rfl) (s_11 hI_35 (q := 9) (nt := 1) (by decide) (by decide) (by decide) (fun c_36 hI_37 hF_38 => ?_))
            refine bk_inl ?_
            refine q_iload_n rfl rfl ?_
            refine q_iconst rfl ?_
            refine v_iadd (v := v3 + 1) rfl (by omega) ?_
            refine q_istore_n rfl (by decide) ?_
            refine v_iinc (v := v3 + 1) rfl rfl (by decide) (by omega) ?_
            refine q_goto (t := 24) rfl (by decide) ?_
            refine Wp_ls [(0, .ref A), (1, .ref 1), (2, vi (v3 + 1)), (3, vi (v3 + 1))] (lsub_cons rfl (lsub_cons rfl (lsub_cons rfl (lsub_cons rfl lsub_nil)))) ?_
            exact ih.2 c_36 (v3 + 1) (v3 + 1) hI_37 (fun a j hm => (hF_38 a j (by omega)).trans ((up_b (by omega)).trans ((hF_32 a j (by omega)).trans ((hF_25 a j (by omega)).trans ((hF_19 a j (by omega)).trans ((hF_10 a j (by omega)).trans (hF a j (by omega)))))))) ⟨by omega, by omega⟩ ⟨by omega, by omega⟩ (by omega)
          · refine v_ic_eq_f (t := 67) rfl (by decide) (by omega) ?_
            refine q_aload_n rfl rfl ?_
            refine q_iconst rfl ?_
            refine q_iload rfl rfl ?_
            refine v_cv rfl rfl rfl rfl (by decide) ⟨⟨rfl, rfl⟩, by decide, rfl⟩ (Nat.le_of_ble_eq_true rfl) (Nat.le_of_ble_eq_true rfl) (s_7 (a1 := 2) (a2 := y_20) hI_24 (show 1 ≤ 2 ∧ 2 ≤ 3 from by omega) (show 0 ≤ y_20 ∧ y_20 ≤ 600 from by omega) (fun c_39 hI_40 hF_41 h_42 => ?_))
            refine bk_inl ?_
            have h_43 := ir_1_4 hI_40
            refine q_aload_n rfl rfl ?_
            refine v_gr (t := (A + 5)) rfl rfl (ck_p0 hA) (by omega) rfl ?_
            refine q_iload rfl rfl ?_
            refine q_aload_n rfl rfl ?_
            refine v_sip rfl (by decide) ?_
            refine v_cv rfl rfl rfl rfl (by decide) ⟨⟨rfl, rfl⟩, by decide, rfl⟩ (Nat.le_of_ble_eq_true rfl) (Nat.le_of_ble_eq_true rfl) (s_8 (a1 := 9999) hI_40 (show (-1) ≤ 9999 ∧ 9999 ≤ 9999 from by omega) (fun c_44 y_47 hI_45 hF_46 hy_47 h_48 => ?_))
            refine bk_inl ?_
            refine v_is rfl (ck_p5 hA) (by omega) (by decide) (by omega) ?_
            refine q_aload_n rfl rfl ?_
            refine q_ldc_s rfl rfl rfl (by decide) ?_
            have hI_49 := iw_p5 (j := y_26) (v := y_47) hI_45 hA ⟨by omega, by omega⟩
            refine v_cv rfl rfl rfl rfl (by decide) ⟨⟨rfl, rfl⟩, by decide, rfl⟩ (Nat.le_of_ble_eq_true rfl) (Nat.le_of_ble_eq_true rfl) (s_11 hI_49 (q := 9) (nt := 1) (by decide) (by decide) (by decide) (fun c_50 hI_51 hF_52 => ?_))
            refine bk_inl ?_
            refine q_iload_n rfl rfl ?_
            refine q_iconst rfl ?_
            refine v_iadd (v := v3 + 1) rfl (by omega) ?_
            refine q_istore_n rfl (by decide) ?_
            refine v_iinc (v := v3 + 1) rfl rfl (by decide) (by omega) ?_
            refine q_goto (t := 24) rfl (by decide) ?_
            refine Wp_ls [(0, .ref A), (1, .ref 1), (2, vi (v3 + 1)), (3, vi (v3 + 1))] (lsub_cons rfl (lsub_cons rfl (lsub_cons rfl (lsub_cons rfl lsub_nil)))) ?_
            exact ih.2 c_50 (v3 + 1) (v3 + 1) hI_51 (fun a j hm => (hF_52 a j (by omega)).trans ((up_b (by omega)).trans ((hF_46 a j (by omega)).trans ((hF_41 a j (by omega)).trans ((hF_25 a j (by omega)).trans ((hF_19 a j (by omega)).trans ((hF_10 a j (by omega)).trans (hF a j (by omega))))))))) ⟨by omega, by omega⟩ ⟨by omega, by omega⟩ (by omega)
set_option maxRecDepth 100000 in
set_option maxHeartbeats 4000000 in
theorem s_36 {sc : List Int32} {e : Int} {d u P Q A : Nat} {c : ME} {Z : AR → Prop} (hI : Iv u e P Q c) (hA : A = 13 ∨ A = 25) (K : ∀ (c2 : ME), Iv u e P Q c2 → (∀ (a : Nat) (j : Int), ¬ ((a = 1 ∧ j = 2) ∨ (a = 1 ∧ j = 4) ∨ (a = 1 ∧ j = 5) ∨ (a = A ∧ j = 5) ∨ a = (A + 5) ∨ a = (A + 6)) → c2 a j = c a j) → Z (.inl (none), Wd P Q P P c2, 0, 0)) : Wp sc (d + 10) 36 0 [(0, .ref A), (1, .ref 1)] [] (Wd P Q P P c) 0 0 Z := by
  have hP := iv_P hI
  have hQ := iv_Q hI
  refine q_iconst rfl ?_
  refine q_istore_n rfl (by decide) ?_
  refine Wp_ls [(0, .ref A), (1, .ref 1), (2, vi 0)] (lsub_cons rfl (lsub_cons rfl (lsub_cons rfl lsub_nil))) ?_
  exact (s_36_l (sc := sc) (d := d) hI hA K 25).1 c 0 hI (fun a j hm => rfl) ⟨by decide, by decide⟩ (by omega)

set_option maxRecDepth 100000 in
set_option maxHeartbeats 4000000 in
theorem s_38 {sc : List Int32} {e : Int} {d u P Q : Nat} {c : ME} {Z : AR → Prop} (hI : Iv u e P Q c)  (K : ∀ (c2 : ME) (y : Int), Iv u e P Q c2 → (∀ (a : Nat) (j : Int), ¬ ((a = 1 ∧ j = 2) ∨ (a = 1 ∧ j = 4) ∨ (a = 1 ∧ j = 5)) → c2 a j = c a j) → 0 ≤ y ∧ y ≤ 999 → Z (.inl (some (vi y)), Wd P Q P P c2, 0, 0)) : Wp sc (d + 10) 38 0 [(0, .ref 1)] [] (Wd P Q P P c) 0 0 Z := by
  have hP := iv_P hI
  have hQ := iv_Q hI
  refine q_aload_n rfl rfl ?_
  refine v_cv rfl rfl rfl rfl (by decide) ⟨⟨rfl, rfl⟩, by decide, rfl⟩ (Nat.le_of_ble_eq_true rfl) (Nat.le_of_ble_eq_true rfl) (s_3 hI (fun c_1 y_4 hI_2 hF_3 hy_4 h_5 => ?_))
  refine bk_inl ?_
  have h_6 := ir_1_2 hI_2
  refine q_istore_n rfl (by decide) ?_
  refine q_aload_n rfl rfl ?_
  refine v_sip rfl (by decide) ?_
  refine v_cv rfl rfl rfl rfl (by decide) ⟨⟨rfl, rfl⟩, by decide, rfl⟩ (Nat.le_of_ble_eq_true rfl) (Nat.le_of_ble_eq_true rfl) (s_8 (a1 := 999) hI_2 (show (-1) ≤ 999 ∧ 999 ≤ 9999 from by omega) (fun c_7 y_10 hI_8 hF_9 hy_10 h_11 => ?_))
  refine bk_inl ?_
  refine q_istore_n rfl (by decide) ?_
  refine q_iload_n rfl rfl ?_
  by_cases h_12 : y_10 ≠ 0
  · refine v_if_ne_t (t := 23) rfl (by decide) (by omega) ?_
    refine q_iload_n rfl rfl ?_
    refine q_iret rfl rfl ?_
    exact K c_7 y_10 hI_8 (fun a j hm => (hF_9 a j (by omega)).trans (hF_3 a j (by omega))) ⟨by omega, by omega⟩
  · refine v_if_ne_f (t := 23) rfl (by decide) (by omega) ?_
    refine q_aload_n rfl rfl ?_
    refine q_iconst rfl ?_
    refine q_iload_n rfl rfl ?_
    refine v_cv rfl rfl rfl rfl (by decide) ⟨⟨rfl, rfl⟩, by decide, rfl⟩ (Nat.le_of_ble_eq_true rfl) (Nat.le_of_ble_eq_true rfl) (s_7 (a1 := 2) (a2 := y_4) hI_8 (show 1 ≤ 2 ∧ 2 ≤ 3 from by omega) (show 0 ≤ y_4 ∧ y_4 ≤ 600 from by omega) (fun c_13 hI_14 hF_15 h_16 => ?_))
    refine bk_inl ?_
    have h_17 := ir_1_4 hI_14
    refine q_iload_n rfl rfl ?_
    refine q_iret rfl rfl ?_
    exact K c_13 y_10 hI_14 (fun a j hm => (hF_15 a j (by omega)).trans ((hF_9 a j (by omega)).trans (hF_3 a j (by omega)))) ⟨by omega, by omega⟩

set_option maxRecDepth 100000 in
set_option maxHeartbeats 4000000 in
theorem s_39 {sc : List Int32} {e : Int} {d u P Q : Nat} {c : ME} {Z : AR → Prop} (hI : Iv u e P Q c)  (K : ∀ (c2 : ME) (y : Int), Iv u e P Q c2 → (∀ (a : Nat) (j : Int), ¬ ((a = 1 ∧ j = 2)) → c2 a j = c a j) → (-1) ≤ y ∧ y ≤ 255 → Z (.inl (some (vi y)), Wd P Q P P c2, 0, 0)) : Wp sc (d + 8) 39 0 [(0, .ref 1)] [] (Wd P Q P P c) 0 0 Z := by
  have hP := iv_P hI
  have hQ := iv_Q hI
  refine q_aload_n rfl rfl ?_
  refine v_cv rfl rfl rfl rfl (by decide) ⟨⟨rfl, rfl⟩, by decide, rfl⟩ (Nat.le_of_ble_eq_true rfl) (Nat.le_of_ble_eq_true rfl) (s_3 hI (fun c_1 y_4 hI_2 hF_3 hy_4 h_5 => ?_))
  refine bk_inl ?_
  have h_6 := ir_1_2 hI_2
  refine q_aload_n rfl rfl ?_
  have h_7 := ir_1_1 hI
  refine v_gi (z := 1) (v := c 1 1) rfl rfl rfl (by decide) rfl rfl (hF_3 1 1 (by omega)) ?_
  by_cases h_8 : y_4 ≥ c 1 1
  · refine v_ic_ge_t (t := 27) rfl (by decide) (by omega) ?_
    refine q_iconst rfl ?_
    refine q_iret rfl rfl ?_
    exact K c_1 (-1) hI_2 (fun a j hm => hF_3 a j (by omega)) ⟨by decide, by decide⟩
  · refine v_ic_ge_f (t := 27) rfl (by decide) (by omega) ?_
    refine q_aload_n rfl rfl ?_
    refine v_gr (t := 2) rfl rfl rfl (by decide) rfl ?_
    refine q_aload_n rfl rfl ?_
    refine v_gi (z := 2) (v := c_1 1 2) rfl rfl rfl (by decide) rfl rfl rfl ?_
    have h_9 := ir_2 hI (c_1 1 2)
    refine v_ba (v := c 2 (c_1 1 2)) rfl rfl (by decide) (by decide) (by omega) (hF_3 2 (c_1 1 2) (by omega)) ?_
    refine v_sip rfl (by decide) ?_
    refine v_and8 (v := ((c 2 (c_1 1 2)) % 256)) rfl rfl ?_
    refine q_goto (t := 28) rfl (by decide) ?_
    refine q_iret rfl rfl ?_
    exact K c_1 ((c 2 (c_1 1 2)) % 256) hI_2 (fun a j hm => hF_3 a j (by omega)) ⟨by omega, by omega⟩

set_option maxRecDepth 100000 in
set_option maxHeartbeats 4000000 in
theorem s_43 {sc : List Int32} {e : Int} {d u P Q sh s : Nat} {c : ME} {a1 : Int} {Z : AR → Prop} (hI : Iv u e P Q c) (hs : (sh = 37 ∧ s = 38) ∨ (sh = 39 ∧ s = 40)) (ha1 : 0 ≤ a1 ∧ a1 ≤ 5) (K : ∀ (y : Int), 0 ≤ y ∧ y ≤ 39996 → Z (.inl (some (vi y)), Wd P Q P P c, 0, 0)) : Wp sc (d + 7) 43 0 [(0, .ref sh), (1, vi a1)] [] (Wd P Q P P c) 0 0 Z := by
  have hP := iv_P hI
  have hQ := iv_Q hI
  refine q_iload_n rfl rfl ?_
  refine q_iconst rfl ?_
  refine v_imul (v := 4 * a1) rfl (by omega) ?_
  refine q_istore_n rfl (by decide) ?_
  refine q_aload_n rfl rfl ?_
  refine v_gr (t := s) rfl rfl (ck_sh hs) (by omega) rfl ?_
  refine q_iload_n rfl rfl ?_
  have h_1 := ir_s_g hI hs (j := 4 * a1) (by omega)
  refine v_ia (v := c s (4 * a1)) rfl (ck_s hs) (by omega) (by decide) (by omega) rfl ?_
  refine q_aload_n rfl rfl ?_
  refine v_gr (t := s) rfl rfl (ck_sh hs) (by omega) rfl ?_
  refine q_iload_n rfl rfl ?_
  refine q_iconst rfl ?_
  refine v_iadd (v := 4 * a1 + 1) rfl (by omega) ?_
  have h_2 := ir_s_g hI hs (j := 4 * a1 + 1) (by omega)
  refine v_ia (v := c s (4 * a1 + 1)) rfl (ck_s hs) (by omega) (by decide) (by omega) rfl ?_
  refine v_iadd (v := c s (4 * a1 + 1) + c s (4 * a1)) rfl (by omega) ?_
  refine q_aload_n rfl rfl ?_
  refine v_gr (t := s) rfl rfl (ck_sh hs) (by omega) rfl ?_
  refine q_iload_n rfl rfl ?_
  refine q_iconst rfl ?_
  refine v_iadd (v := 4 * a1 + 2) rfl (by omega) ?_
  have h_3 := ir_s_g hI hs (j := 4 * a1 + 2) (by omega)
  refine v_ia (v := c s (4 * a1 + 2)) rfl (ck_s hs) (by omega) (by decide) (by omega) rfl ?_
  refine v_iadd (v := c s (4 * a1 + 1) + c s (4 * a1 + 2) + c s (4 * a1)) rfl (by omega) ?_
  refine q_aload_n rfl rfl ?_
  refine v_gr (t := s) rfl rfl (ck_sh hs) (by omega) rfl ?_
  refine q_iload_n rfl rfl ?_
  refine q_iconst rfl ?_
  refine v_iadd (v := 4 * a1 + 3) rfl (by omega) ?_
  have h_4 := ir_s_g hI hs (j := 4 * a1 + 3) (by omega)
  refine v_ia (v := c s (4 * a1 + 3)) rfl (ck_s hs) (by omega) (by decide) (by omega) rfl ?_
  refine v_iadd (v := c s (4 * a1 + 1) + c s (4 * a1 + 2) + c s (4 * a1 + 3) + c s (4 * a1)) rfl (by omega) ?_
  refine q_iret rfl rfl ?_
  exact K (c s (4 * a1 + 1) + c s (4 * a1 + 2) + c s (4 * a1 + 3) + c s (4 * a1)) ⟨by omega, by omega⟩

set_option maxRecDepth 100000 in
set_option maxHeartbeats 4000000 in
theorem s_45 {sc : List Int32} {e : Int} {d u P Q sh s : Nat} {c : ME} {a1 : Int} {a2 : Int} {Z : AR → Prop} (hI : Iv u e P Q c) (hs : (sh = 37 ∧ s = 38) ∨ (sh = 39 ∧ s = 40)) (ha1 : 0 ≤ a1 ∧ a1 ≤ 5) (ha2 : 0 ≤ a2 ∧ a2 ≤ 3) (K : ∀ (y : Int), 0 ≤ y ∧ y ≤ 9999 → Z (.inl (some (vi y)), Wd P Q P P c, 0, 0)) : Wp sc (d + 7) 45 0 [(0, .ref sh), (1, vi a1), (2, vi a2)] [] (Wd P Q P P c) 0 0 Z := by
  have hP := iv_P hI
  have hQ := iv_Q hI
  refine q_aload_n rfl rfl ?_
  refine v_gr (t := s) rfl rfl (ck_sh hs) (by omega) rfl ?_
  refine q_iload_n rfl rfl ?_
  refine q_iconst rfl ?_
  refine v_imul (v := 4 * a1) rfl (by omega) ?_
  refine q_iload_n rfl rfl ?_
  refine v_iadd (v := 4 * a1 + a2) rfl (by omega) ?_
  have h_1 := ir_s_g hI hs (j := 4 * a1 + a2) (by omega)
  refine v_ia (v := c s (4 * a1 + a2)) rfl (ck_s hs) (by omega) (by decide) (by omega) rfl ?_
  refine q_iret rfl rfl ?_
  exact K (c s (4 * a1 + a2)) ⟨by omega, by omega⟩

set_option maxRecDepth 100000 in
set_option maxHeartbeats 4000000 in
theorem s_47 {sc : List Int32} {e : Int} {d u P Q sh s : Nat} {c : ME} {a1 : Int} {a2 : Int} {a3 : Int} {Z : AR → Prop} (hI : Iv u e P Q c) (hs : (sh = 37 ∧ s = 38) ∨ (sh = 39 ∧ s = 40)) (ha1 : 0 ≤ a1 ∧ a1 ≤ 3) (ha2 : 0 ≤ a2 ∧ a2 ≤ 3) (ha3 : 0 ≤ a3 ∧ a3 ≤ 9999) (K : ∀ (y : Int), 0 ≤ y ∧ y ≤ 9999 → Z (.inl (some (vi y)), Wd P Q P P c, 0, 0)) : Wp sc (d + 8) 47 0 [(0, .ref sh), (1, vi a1), (2, vi a2), (3, vi a3)] [] (Wd P Q P P c) 0 0 Z := by
  have hP := iv_P hI
  have hQ := iv_Q hI
  refine q_aload_n rfl rfl ?_
  refine v_gr (t := P) rfl rfl (ck_sh hs) (by omega) rfl ?_
  refine v_gr (t := (P + 3)) rfl rfl (ck_p0 hP) (by omega) rfl ?_
  refine q_iload_n rfl rfl ?_
  have h_1 := ir_p3 hI hP a1
  refine v_ia (v := c (P + 3) a1) rfl (ck_p3 hP) (by omega) (by decide) (by omega) rfl ?_
  refine q_istore rfl (by decide) ?_
  refine q_iload_n rfl rfl ?_
  refine q_iload rfl rfl ?_
  by_cases h_2 : a2 > c (P + 3) a1
  · refine v_ic_gt_t (t := 19) rfl (by decide) (by omega) ?_
    refine q_iload_n rfl rfl ?_
    refine q_iload rfl rfl ?_
    refine q_iconst rfl ?_
    refine v_iadd (v := c (P + 3) a1 + 1) rfl (by omega) ?_
    by_cases h_3 : a2 ≠ c (P + 3) a1 + 1
    · refine v_ic_ne_t (t := 41) rfl (by decide) (by omega) ?_
      refine q_iconst rfl ?_
      refine q_iret rfl rfl ?_
      exact K 0 ⟨by decide, by decide⟩
    · refine v_ic_ne_f (t := 41) rfl (by decide) (by omega) ?_
      refine q_aload_n rfl rfl ?_
      refine q_iload_n rfl rfl ?_
      refine v_cv rfl rfl rfl (ck_sh hs) (by omega) ⟨⟨rfl, rfl⟩, by decide, rfl⟩ (Nat.le_of_ble_eq_true rfl) (Nat.le_of_ble_eq_true rfl) ?_
      refine q_aload_n rfl rfl ?_
      refine v_gr (t := s) rfl rfl (ck_sh hs) (by omega) rfl ?_
      refine v_bip rfl (by decide) ?_
      have h_4 := ir_s hI hs 30
      refine v_ia (v := c s 30) rfl (ck_s hs) (by omega) (by decide) (by decide) rfl ?_
      refine q_iload_n rfl rfl ?_
      refine v_ishrx rfl (fun y_5 hy_5 => ?_)
      refine q_iconst rfl ?_
      refine v_iandx rfl (fun y_6 hy_6 => ?_)
      refine q_iconst rfl ?_
      by_cases h_7 : y_6 ≠ 1
      · refine v_ic_ne_t (t := 19) rfl (by decide) (by omega) ?_
        refine q_iconst rfl ?_
        refine v_zret rfl rfl (by omega) ?_
        refine bk_inl ?_
        refine v_if_eq_t (t := 41) rfl (by decide) (by decide) ?_
        refine q_iconst rfl ?_
        refine q_iret rfl rfl ?_
        exact K 0 ⟨by decide, by decide⟩
      · refine v_ic_ne_f (t := 19) rfl (by decide) (by omega) ?_
        refine q_iconst rfl ?_
        refine q_goto (t := 20) rfl (by decide) ?_
        refine v_zret rfl rfl (by omega) ?_
        refine bk_inl ?_
        refine v_if_eq_f (t := 41) rfl (by decide) (by decide) ?_
        refine q_iload_n rfl rfl ?_
        refine q_iconst rfl ?_
        refine v_idiv (v := (a3 / 2)) rfl (by omega) rfl ?_
        refine q_goto (t := 42) rfl (by decide) ?_
        refine q_iret rfl rfl ?_
        exact K (a3 / 2) ⟨by omega, by omega⟩
  · refine v_ic_gt_f (t := 19) rfl (by decide) (by omega) ?_
    refine q_iload_n rfl rfl ?_
    refine q_iret rfl rfl ?_
    exact K a3 ⟨by omega, by omega⟩

set_option maxRecDepth 100000 in
set_option maxHeartbeats 4000000 in
theorem s_48 {sc : List Int32} {e : Int} {d u P Q sh s : Nat} {c : ME} {a1 : Int} {a2 : Int} {a3 : Int} {Z : AR → Prop} (hI : Iv u e P Q c) (hs : (sh = 37 ∧ s = 38) ∨ (sh = 39 ∧ s = 40)) (ha1 : 0 ≤ a1 ∧ a1 ≤ 3) (ha2 : 0 ≤ a2 ∧ a2 ≤ 5) (ha3 : 0 ≤ a3 ∧ a3 ≤ 3) (K : ∀ (y : Int), 0 ≤ y ∧ y ≤ 9999 → Z (.inl (some (vi y)), Wd P Q P P c, 0, 0)) : Wp sc (d + 9) 48 0 [(0, .ref sh), (1, vi a1), (2, vi a2), (3, vi a3)] [] (Wd P Q P P c) 0 0 Z := by
  have hP := iv_P hI
  have hQ := iv_Q hI
  refine q_aload_n rfl rfl ?_
  refine q_iload_n rfl rfl ?_
  refine q_iload_n rfl rfl ?_
  refine q_aload_n rfl rfl ?_
  refine q_iload_n rfl rfl ?_
  refine q_iload_n rfl rfl ?_
  refine v_cv rfl rfl rfl (ck_sh hs) (by omega) ⟨⟨rfl, rfl⟩, by decide, rfl⟩ (Nat.le_of_ble_eq_true rfl) (Nat.le_of_ble_eq_true rfl) (s_45 (a1 := a2) (a2 := a3) hI hs (show 0 ≤ a2 ∧ a2 ≤ 5 from by omega) (show 0 ≤ a3 ∧ a3 ≤ 3 from by omega) (fun y_1 hy_1 => ?_))
  refine bk_inl ?_
  refine v_cv rfl rfl rfl (ck_sh hs) (by omega) ⟨⟨rfl, rfl⟩, by decide, rfl⟩ (Nat.le_of_ble_eq_true rfl) (Nat.le_of_ble_eq_true rfl) (s_47 (a1 := a1) (a2 := a3) (a3 := y_1) hI hs (show 0 ≤ a1 ∧ a1 ≤ 3 from by omega) (show 0 ≤ a3 ∧ a3 ≤ 3 from by omega) (show 0 ≤ y_1 ∧ y_1 ≤ 9999 from by omega) (fun y_2 hy_2 => ?_))
  refine bk_inl ?_
  refine q_iret rfl rfl ?_
  exact K y_2 ⟨by omega, by omega⟩

set_option maxRecDepth 100000 in
set_option maxHeartbeats 4000000 in
theorem s_49_l {sc : List Int32} {e : Int} {d u P Q sh s : Nat} {c : ME} {a1 : Int} {a2 : Int} {Z : AR → Prop} (hI : Iv u e P Q c) (hs : (sh = 37 ∧ s = 38) ∨ (sh = 39 ∧ s = 40)) (ha1 : 0 ≤ a1 ∧ a1 ≤ 3) (ha2 : 0 ≤ a2 ∧ a2 ≤ 5) (K : ∀ (y : Int), (-2147483648) ≤ y ∧ y ≤ 2147483647 → Z (.inl (some (vi y)), Wd P Q P P c, 0, 0)) : ∀ n : Nat, (∀ (v3 : Int) (v4 : Int), (-2147483648) ≤ v3 ∧ v3 ≤ 2147483647 → 0 ≤ v4 ∧ v4 ≤ 4 → 9 - 2 * v4 < (n : Int) → Wp sc (d + 10) 49 5 [(0, .ref sh), (1, vi a1), (2, vi a2), (3, vi v3), (4, vi v4)] [] (Wd P Q P P c) 0 0 Z)
  | 0 => by intros; exfalso; omega
  | n + 1 => by
    have hP := iv_P hI
    have hQ := iv_Q hI
    have ih := s_49_l (sc := sc) (d := d) hI hs ha1 ha2 K n
    intro v3 v4 hv3 hv4 hm9
    refine q_iload rfl rfl ?_
    refine q_iconst rfl ?_
    by_cases h_1 : v4 ≥ 4
    · refine v_ic_ge_t (t := 28) rfl (by decide) (by omega) ?_
      refine q_iload_n rfl rfl ?_
      refine q_iret rfl rfl ?_
      exact K v3 ⟨by omega, by omega⟩
    · refine v_ic_ge_f (t := 28) rfl (by decide) (by omega) ?_
      refine q_iload_n rfl rfl ?_
      refine q_aload_n rfl rfl ?_
      refine q_iload_n rfl rfl ?_
      refine q_iload_n rfl rfl ?_
      refine q_iload rfl rfl ?_
      refine v_cv rfl rfl rfl (ck_sh hs) (by omega) ⟨⟨rfl, rfl⟩, by decide, rfl⟩ (Nat.le_of_ble_eq_true rfl) (Nat.le_of_ble_eq_true rfl) (s_48 (a1 := a1) (a2 := a2) (a3 := v4) hI hs (show 0 ≤ a1 ∧ a1 ≤ 3 from by omega) (show 0 ≤ a2 ∧ a2 ≤ 5 from by omega) (show 0 ≤ v4 ∧ v4 ≤ 3 from by omega) (fun y_2 hy_2 => ?_))
      refine bk_inl ?_
      refine v_iadd (v := v3 + y_2) rfl (by omega) ?_
      refine v_nrm (fun y_3 hy_3 => ?_)
      refine q_istore_n rfl (by decide) ?_
      refine v_iinc (v := v4 + 1) rfl rfl (by decide) (by omega) ?_
      refine q_goto (t := 5) rfl (by decide) ?_
      refine Wp_ls [(0, .ref sh), (1, vi a1), (2, vi a2), (3, vi y_3), (4, vi (v4 + 1))] (lsub_cons rfl (lsub_cons rfl (lsub_cons rfl (lsub_cons rfl (lsub_cons rfl lsub_nil))))) ?_
      exact ih y_3 (v4 + 1) ⟨by omega, by omega⟩ ⟨by omega, by omega⟩ (by omega)
set_option maxRecDepth 100000 in
set_option maxHeartbeats 4000000 in
theorem s_49 {sc : List Int32} {e : Int} {d u P Q sh s : Nat} {c : ME} {a1 : Int} {a2 : Int} {Z : AR → Prop} (hI : Iv u e P Q c) (hs : (sh = 37 ∧ s = 38) ∨ (sh = 39 ∧ s = 40)) (ha1 : 0 ≤ a1 ∧ a1 ≤ 3) (ha2 : 0 ≤ a2 ∧ a2 ≤ 5) (K : ∀ (y : Int), (-2147483648) ≤ y ∧ y ≤ 2147483647 → Z (.inl (some (vi y)), Wd P Q P P c, 0, 0)) : Wp sc (d + 10) 49 0 [(0, .ref sh), (1, vi a1), (2, vi a2)] [] (Wd P Q P P c) 0 0 Z := by
  have hP := iv_P hI
  have hQ := iv_Q hI
  refine q_iconst rfl ?_
  refine q_istore_n rfl (by decide) ?_
  refine q_iconst rfl ?_
  refine q_istore rfl (by decide) ?_
  refine Wp_ls [(0, .ref sh), (1, vi a1), (2, vi a2), (3, vi 0), (4, vi 0)] (lsub_cons rfl (lsub_cons rfl (lsub_cons rfl (lsub_cons rfl (lsub_cons rfl lsub_nil))))) ?_
  exact (s_49_l (sc := sc) (d := d) hI hs ha1 ha2 K 12) 0 0 ⟨by decide, by decide⟩ ⟨by decide, by decide⟩ (by omega)

set_option maxRecDepth 100000 in
set_option maxHeartbeats 4000000 in
theorem s_50 {sc : List Int32} {e : Int} {d u P Q sh s : Nat} {c : ME} {a1 : Int} {a2 : Int} {Z : AR → Prop} (hI : Iv u e P Q c) (hs : (sh = 37 ∧ s = 38) ∨ (sh = 39 ∧ s = 40)) (ha1 : 0 ≤ a1 ∧ a1 ≤ 5) (ha2 : 0 ≤ a2 ∧ a2 ≤ 99999) (K : ∀ (y : Int), 0 ≤ y ∧ y ≤ 1 → Z (.inl (some (vi y)), Wd P Q P P c, 0, 0)) : Wp sc (d + 8) 50 0 [(0, .ref sh), (1, vi a1), (2, vi a2)] [] (Wd P Q P P c) 0 0 Z := by
  have hP := iv_P hI
  have hQ := iv_Q hI
  refine q_aload_n rfl rfl ?_
  refine q_iload_n rfl rfl ?_
  refine v_cv rfl rfl rfl (ck_sh hs) (by omega) ⟨⟨rfl, rfl⟩, by decide, rfl⟩ (Nat.le_of_ble_eq_true rfl) (Nat.le_of_ble_eq_true rfl) (s_43 (a1 := a1) hI hs (show 0 ≤ a1 ∧ a1 ≤ 5 from by omega) (fun y_1 hy_1 => ?_))
  refine bk_inl ?_
  refine q_iload_n rfl rfl ?_
  refine v_iadd (v := a2 + y_1) rfl (by omega) ?_
  refine v_sip rfl (by decide) ?_
  by_cases h_2 : a2 + y_1 > 9999
  · refine v_ic_gt_t (t := 17) rfl (by decide) (by omega) ?_
    refine q_iconst rfl ?_
    refine v_zret rfl rfl (by omega) ?_
    exact K 0 ⟨by decide, by decide⟩
  · refine v_ic_gt_f (t := 17) rfl (by decide) (by omega) ?_
    refine q_iconst rfl ?_
    refine q_goto (t := 18) rfl (by decide) ?_
    refine v_zret rfl rfl (by omega) ?_
    exact K 1 ⟨by decide, by decide⟩

set_option maxRecDepth 100000 in
set_option maxHeartbeats 4000000 in
theorem s_51 {sc : List Int32} {e : Int} {d u P Q sh s : Nat} {c : ME} {a1 : Int} {Z : AR → Prop} (hI : Iv u e P Q c) (hs : (sh = 37 ∧ s = 38) ∨ (sh = 39 ∧ s = 40)) (ha1 : 0 ≤ a1 ∧ a1 ≤ 5) (K : ∀ (y : Int), (-2147483648) ≤ y ∧ y ≤ 2147483647 → Z (.inl (some (vi y)), Wd P Q P P c, 0, 0)) : Wp sc (d + 7) 51 0 [(0, .ref sh), (1, vi a1)] [] (Wd P Q P P c) 0 0 Z := by
  have hP := iv_P hI
  have hQ := iv_Q hI
  refine q_aload_n rfl rfl ?_
  refine v_gr (t := s) rfl rfl (ck_sh hs) (by omega) rfl ?_
  refine v_bip rfl (by decide) ?_
  refine q_iload_n rfl rfl ?_
  refine v_iadd (v := a1 + 24) rfl (by omega) ?_
  have h_1 := ir_s hI hs (a1 + 24)
  refine v_ia (v := c s (a1 + 24)) rfl (ck_s hs) (by omega) (by decide) (by omega) rfl ?_
  refine q_iret rfl rfl ?_
  exact K (c s (a1 + 24)) ⟨by omega, by omega⟩

set_option maxRecDepth 100000 in
set_option maxHeartbeats 4000000 in
theorem s_56 {sc : List Int32} {e : Int} {d u P Q sh s : Nat} {c : ME} {a1 : Int} {Z : AR → Prop} (hI : Iv u e P Q c) (hs : (sh = 37 ∧ s = 38) ∨ (sh = 39 ∧ s = 40)) (ha1 : 0 ≤ a1 ∧ a1 ≤ 5) (K : ∀ (c2 : ME) (y : Int), Iv u e P Q c2 → (∀ (a : Nat) (j : Int), ¬ (a = (P + 10) ∨ a = (P + 11)) → c2 a j = c a j) → 0 ≤ y ∧ y ≤ 99 → Z (.inl (some (vi y)), Wd P Q P P c2, 0, 0)) : Wp sc (d + 9) 56 0 [(0, .ref sh), (1, vi a1)] [] (Wd P Q P P c) 0 0 Z := by
  have hP := iv_P hI
  have hQ := iv_Q hI
  refine q_iload_n rfl rfl ?_
  refine q_iconst rfl ?_
  refine v_imul (v := 4 * a1) rfl (by omega) ?_
  refine q_istore_n rfl (by decide) ?_
  refine q_aload_n rfl rfl ?_
  refine v_gr (t := P) rfl rfl (ck_sh hs) (by omega) rfl ?_
  refine v_gr (t := (P + 7)) rfl rfl (ck_p0 hP) (by omega) rfl ?_
  refine q_aload_n rfl rfl ?_
  refine v_gr (t := s) rfl rfl (ck_sh hs) (by omega) rfl ?_
  refine q_iload_n rfl rfl ?_
  have h_1 := ir_s_g hI hs (j := 4 * a1) (by omega)
  refine v_ia (v := c s (4 * a1)) rfl (ck_s hs) (by omega) (by decide) (by omega) rfl ?_
  refine q_aload_n rfl rfl ?_
  refine v_gr (t := s) rfl rfl (ck_sh hs) (by omega) rfl ?_
  refine q_iload_n rfl rfl ?_
  refine q_iconst rfl ?_
  refine v_iadd (v := 4 * a1 + 1) rfl (by omega) ?_
  have h_2 := ir_s_g hI hs (j := 4 * a1 + 1) (by omega)
  refine v_ia (v := c s (4 * a1 + 1)) rfl (ck_s hs) (by omega) (by decide) (by omega) rfl ?_
  refine q_aload_n rfl rfl ?_
  refine v_gr (t := s) rfl rfl (ck_sh hs) (by omega) rfl ?_
  refine q_iload_n rfl rfl ?_
  refine q_iconst rfl ?_
  refine v_iadd (v := 4 * a1 + 2) rfl (by omega) ?_
  have h_3 := ir_s_g hI hs (j := 4 * a1 + 2) (by omega)
  refine v_ia (v := c s (4 * a1 + 2)) rfl (ck_s hs) (by omega) (by decide) (by omega) rfl ?_
  refine q_aload_n rfl rfl ?_
  refine v_gr (t := s) rfl rfl (ck_sh hs) (by omega) rfl ?_
  refine q_iload_n rfl rfl ?_
  refine q_iconst rfl ?_
  refine v_iadd (v := 4 * a1 + 3) rfl (by omega) ?_
  have h_4 := ir_s_g hI hs (j := 4 * a1 + 3) (by omega)
  refine v_ia (v := c s (4 * a1 + 3)) rfl (ck_s hs) (by omega) (by decide) (by omega) rfl ?_
  refine q_aload_n rfl rfl ?_
  refine q_iload_n rfl rfl ?_
  refine v_cv rfl rfl rfl (ck_sh hs) (by omega) ⟨⟨rfl, rfl⟩, by decide, rfl⟩ (Nat.le_of_ble_eq_true rfl) (Nat.le_of_ble_eq_true rfl) (s_51 (a1 := a1) hI hs (show 0 ≤ a1 ∧ a1 ≤ 5 from by omega) (fun y_5 hy_5 => ?_))
  refine bk_inl ?_
  refine q_aload_n rfl rfl ?_
  refine v_gr (t := s) rfl rfl (ck_sh hs) (by omega) rfl ?_
  refine v_bip rfl (by decide) ?_
  have h_6 := ir_s hI hs 31
  refine v_ia (v := c s 31) rfl (ck_s hs) (by omega) (by decide) (by decide) rfl ?_
  refine q_iload_n rfl rfl ?_
  refine v_cv rfl rfl rfl (ck_p7 hP) (by omega) ⟨⟨rfl, rfl⟩, by decide, rfl⟩ (Nat.le_of_ble_eq_true rfl) (Nat.le_of_ble_eq_true rfl) (s_20 (a1 := c s (4 * a1)) (a2 := c s (4 * a1 + 1)) (a3 := c s (4 * a1 + 2)) (a4 := c s (4 * a1 + 3)) (a5 := y_5) (a6 := c s 31) (a7 := a1) hI hP (show 0 ≤ c s (4 * a1) ∧ c s (4 * a1) ≤ 9999 from by omega) (show 0 ≤ c s (4 * a1 + 1) ∧ c s (4 * a1 + 1) ≤ 9999 from by omega) (show 0 ≤ c s (4 * a1 + 2) ∧ c s (4 * a1 + 2) ≤ 9999 from by omega) (show 0 ≤ c s (4 * a1 + 3) ∧ c s (4 * a1 + 3) ≤ 9999 from by omega) (show (-2147483648) ≤ y_5 ∧ y_5 ≤ 2147483647 from by omega) (show (-2147483648) ≤ c s 31 ∧ c s 31 ≤ 2147483647 from by omega) (show (-2147483648) ≤ a1 ∧ a1 ≤ 2147483647 from by omega) (fun c_7 y_10 hI_8 hF_9 hy_10 => ?_))
  refine bk_inl ?_
  refine q_iret rfl rfl ?_
  exact K c_7 y_10 hI_8 (fun a j hm => hF_9 a j (by omega)) ⟨by omega, by omega⟩

set_option maxRecDepth 100000 in
set_option maxHeartbeats 4000000 in
theorem s_57 {sc : List Int32} {e : Int} {d u P Q sh s : Nat} {c : ME} {a1 : Int} {Z : AR → Prop} (hI : Iv u e P Q c) (hs : (sh = 37 ∧ s = 38) ∨ (sh = 39 ∧ s = 40)) (ha1 : 0 ≤ a1 ∧ a1 ≤ 5) (K : ∀ (c2 : ME) (y : Int), Iv u e P Q c2 → (∀ (a : Nat) (j : Int), ¬ (a = (P + 10) ∨ a = (P + 11)) → c2 a j = c a j) → 0 ≤ y ∧ y ≤ 1 → Z (.inl (some (vi y)), Wd P Q P P c2, 0, 0)) : Wp sc (d + 10) 57 0 [(0, .ref sh), (1, vi a1)] [] (Wd P Q P P c) 0 0 Z := by
  have hP := iv_P hI
  have hQ := iv_Q hI
  refine q_aload_n rfl rfl ?_
  refine q_iload_n rfl rfl ?_
  refine v_cv rfl rfl rfl (ck_sh hs) (by omega) ⟨⟨rfl, rfl⟩, by decide, rfl⟩ (Nat.le_of_ble_eq_true rfl) (Nat.le_of_ble_eq_true rfl) (s_43 (a1 := a1) hI hs (show 0 ≤ a1 ∧ a1 ≤ 5 from by omega) (fun y_1 hy_1 => ?_))
  refine bk_inl ?_
  by_cases h_2 : y_1 ≤ 0
  · refine v_if_le_t (t := 22) rfl (by decide) (by omega) ?_
    refine q_iconst rfl ?_
    refine v_zret rfl rfl (by omega) ?_
    exact K c 0 hI (fun a j hm => rfl) ⟨by decide, by decide⟩
  · refine v_if_le_f (t := 22) rfl (by decide) (by omega) ?_
    refine q_aload_n rfl rfl ?_
    refine q_iload_n rfl rfl ?_
    refine v_cv rfl rfl rfl (ck_sh hs) (by omega) ⟨⟨rfl, rfl⟩, by decide, rfl⟩ (Nat.le_of_ble_eq_true rfl) (Nat.le_of_ble_eq_true rfl) (s_56 (a1 := a1) hI hs (show 0 ≤ a1 ∧ a1 ≤ 5 from by omega) (fun c_3 y_6 hI_4 hF_5 hy_6 => ?_))
    refine bk_inl ?_
    refine v_bip rfl (by decide) ?_
    by_cases h_7 : y_6 < 50
    · refine v_ic_lt_t (t := 22) rfl (by decide) (by omega) ?_
      refine q_iconst rfl ?_
      refine v_zret rfl rfl (by omega) ?_
      exact K c_3 0 hI_4 (fun a j hm => hF_5 a j (by omega)) ⟨by decide, by decide⟩
    · refine v_ic_lt_f (t := 22) rfl (by decide) (by omega) ?_
      refine q_iconst rfl ?_
      refine q_goto (t := 23) rfl (by decide) ?_
      refine v_zret rfl rfl (by omega) ?_
      exact K c_3 1 hI_4 (fun a j hm => hF_5 a j (by omega)) ⟨by decide, by decide⟩

set_option maxRecDepth 100000 in
set_option maxHeartbeats 4000000 in
theorem s_59_l {sc : List Int32} {e : Int} {d u P Q sh s : Nat} {c : ME} {Z : AR → Prop} (hI : Iv u e P Q c) (hs : (sh = 37 ∧ s = 38) ∨ (sh = 39 ∧ s = 40)) (K : ∀ (c2 : ME), Iv u e P Q c2 → (∀ (a : Nat) (j : Int), ¬ (a = s) → c2 a j = c a j) → Z (.inl (none), Wd P Q P P c2, 0, 0)) : ∀ n : Nat, (∀ (c2 : ME) (v1 : Int), Iv u e P Q c2 → (∀ (a : Nat) (j : Int), ¬ (a = s) → c2 a j = c a j) → 0 ≤ v1 ∧ v1 ≤ 6 → 13 - 2 * v1 < (n : Int) → Wp sc (d + 8) 59 2 [(0, .ref sh), (1, vi v1)] [] (Wd P Q P P c2) 0 0 Z)
  | 0 => by intros; exfalso; omega
  | n + 1 => by
    have hP := iv_P hI
    have hQ := iv_Q hI
    have ih := s_59_l (sc := sc) (d := d) hI hs K n
    intro c2 v1 hI2 hF hv1 hm9
    refine q_iload_n rfl rfl ?_
    refine q_aload_n rfl rfl ?_
    refine v_gr (t := P) rfl rfl (ck_sh hs) (by omega) rfl ?_
    have h_1 := ir_p0_0 hI hP
    refine v_gi (z := 0) (v := c P 0) rfl rfl (ck_p0 hP) (by omega) rfl rfl (hF P 0 (by omega)) ?_
    by_cases h_2 : v1 ≥ c P 0
    · refine v_ic_ge_t (t := 40) rfl (by decide) (by omega) ?_
      refine q_aload_n rfl rfl ?_
      refine v_gr (t := s) rfl rfl (ck_sh hs) (by omega) rfl ?_
      refine v_bip rfl (by decide) ?_
      refine q_dup2 rfl ⟨rfl, rfl⟩ ?_
      have h_3 := ir_s hI2 hs 31
      refine v_ia (v := c2 s 31) rfl (ck_s hs) (by omega) (by decide) (by decide) rfl ?_
      refine q_iconst rfl ?_
      refine v_iadd (v := c2 s 31 + 1) rfl (by omega) ?_
      refine v_nrm (fun y_4 hy_4 => ?_)
      refine v_is rfl (ck_s hs) (by omega) (by decide) (by decide) ?_
      refine q_vret rfl rfl ?_
      have hI_5 := iw_row (a := s) (j := 31) (v := y_4) hI2 (by omega) (Or.inr (by omega)) ⟨by omega, by omega, by omega⟩
      exact K (up c2 s 31 y_4) hI_5 (fun a j hm => (up_b (by omega)).trans (hF a j (by omega)))
    · refine v_ic_ge_f (t := 40) rfl (by decide) (by omega) ?_
      refine q_aload_n rfl rfl ?_
      refine q_iload_n rfl rfl ?_
      refine v_cv rfl rfl rfl (ck_sh hs) (by omega) ⟨⟨rfl, rfl⟩, by decide, rfl⟩ (Nat.le_of_ble_eq_true rfl) (Nat.le_of_ble_eq_true rfl) (s_43 (a1 := v1) hI2 hs (show 0 ≤ v1 ∧ v1 ≤ 5 from by omega) (fun y_6 hy_6 => ?_))
      refine bk_inl ?_
      by_cases h_7 : y_6 ≤ 0
      · refine v_if_le_t (t := 34) rfl (by decide) (by omega) ?_
        refine v_iinc (v := v1 + 1) rfl rfl (by decide) (by omega) ?_
        refine q_goto (t := 2) rfl (by decide) ?_
        refine Wp_ls [(0, .ref sh), (1, vi (v1 + 1))] (lsub_cons rfl (lsub_cons rfl lsub_nil)) ?_
        exact ih c2 (v1 + 1) hI2 (fun a j hm => hF a j (by omega)) ⟨by omega, by omega⟩ (by omega)
      · refine v_if_le_f (t := 34) rfl (by decide) (by omega) ?_
        refine q_aload_n rfl rfl ?_
        refine v_gr (t := s) rfl rfl (ck_sh hs) (by omega) rfl ?_
        refine v_bip rfl (by decide) ?_
        refine q_iload_n rfl rfl ?_
        refine v_iadd (v := v1 + 24) rfl (by omega) ?_
        refine q_dup2 rfl ⟨rfl, rfl⟩ ?_
        have h_8 := ir_s hI2 hs (v1 + 24)
        refine v_ia (v := c2 s (v1 + 24)) rfl (ck_s hs) (by omega) (by decide) (by omega) rfl ?_
        refine q_iconst rfl ?_
        refine v_iadd (v := c2 s (v1 + 24) + 1) rfl (by omega) ?_
        refine v_nrm (fun y_9 hy_9 => ?_)
        refine v_is rfl (ck_s hs) (by omega) (by decide) (by omega) ?_
        refine v_iinc (v := v1 + 1) rfl rfl (by decide) (by omega) ?_
        refine q_goto (t := 2) rfl (by decide) ?_
        have hI_10 := iw_row (a := s) (j := v1 + 24) (v := y_9) hI2 (by omega) (Or.inr (by omega)) ⟨by omega, by omega, by omega⟩
        refine Wp_ls [(0, .ref sh), (1, vi (v1 + 1))] (lsub_cons rfl (lsub_cons rfl lsub_nil)) ?_
        exact ih (up c2 s (v1 + 24) y_9) (v1 + 1) hI_10 (fun a j hm => (up_b (by omega)).trans (hF a j (by omega))) ⟨by omega, by omega⟩ (by omega)
set_option maxRecDepth 100000 in
set_option maxHeartbeats 4000000 in
theorem s_59 {sc : List Int32} {e : Int} {d u P Q sh s : Nat} {c : ME} {Z : AR → Prop} (hI : Iv u e P Q c) (hs : (sh = 37 ∧ s = 38) ∨ (sh = 39 ∧ s = 40)) (K : ∀ (c2 : ME), Iv u e P Q c2 → (∀ (a : Nat) (j : Int), ¬ (a = s) → c2 a j = c a j) → Z (.inl (none), Wd P Q P P c2, 0, 0)) : Wp sc (d + 8) 59 0 [(0, .ref sh)] [] (Wd P Q P P c) 0 0 Z := by
  have hP := iv_P hI
  have hQ := iv_Q hI
  refine q_iconst rfl ?_
  refine q_istore_n rfl (by decide) ?_
  refine Wp_ls [(0, .ref sh), (1, vi 0)] (lsub_cons rfl (lsub_cons rfl lsub_nil)) ?_
  exact (s_59_l (sc := sc) (d := d) hI hs K 16) c 0 hI (fun a j hm => rfl) ⟨by decide, by decide⟩ (by omega)

set_option maxRecDepth 100000 in
set_option maxHeartbeats 4000000 in
theorem s_60 {sc : List Int32} {e : Int} {d u P Q sh s : Nat} {c : ME} {Z : AR → Prop} (hI : Iv u e P Q c) (hs : (sh = 37 ∧ s = 38) ∨ (sh = 39 ∧ s = 40)) (K : ∀ (c2 : ME) (y : Int), Iv u e P Q c2 → (∀ (a : Nat) (j : Int), ¬ (a = s) → c2 a j = c a j) → 0 ≤ y ∧ y ≤ 1 → Z (.inl (some (vi y)), Wd P Q P P c2, 0, 0)) : Wp sc (d + 9) 60 0 [(0, .ref sh)] [] (Wd P Q P P c) 0 0 Z := by
  have hP := iv_P hI
  have hQ := iv_Q hI
  refine q_aload_n rfl rfl ?_
  refine v_gr (t := s) rfl rfl (ck_sh hs) (by omega) rfl ?_
  refine v_bip rfl (by decide) ?_
  have h_1 := ir_s hI hs 31
  refine v_ia (v := c s 31) rfl (ck_s hs) (by omega) (by decide) (by decide) rfl ?_
  refine v_sip rfl (by decide) ?_
  by_cases h_2 : c s 31 < 400
  · refine v_ic_lt_t (t := 15) rfl (by decide) (by omega) ?_
    refine q_aload_n rfl rfl ?_
    refine v_cv rfl rfl rfl (ck_sh hs) (by omega) ⟨⟨rfl, rfl⟩, by decide, rfl⟩ (Nat.le_of_ble_eq_true rfl) (Nat.le_of_ble_eq_true rfl) (s_59 hI hs (fun c_3 hI_4 hF_5 => ?_))
    refine bk_inl ?_
    refine q_iconst rfl ?_
    refine v_zret rfl rfl (by omega) ?_
    exact K c_3 1 hI_4 (fun a j hm => hF_5 a j (by omega)) ⟨by decide, by decide⟩
  · refine v_ic_lt_f (t := 15) rfl (by decide) (by omega) ?_
    refine q_iconst rfl ?_
    refine v_zret rfl rfl (by omega) ?_
    exact K c 0 hI (fun a j hm => rfl) ⟨by decide, by decide⟩

set_option maxRecDepth 100000 in
set_option maxHeartbeats 4000000 in
theorem s_61 {sc : List Int32} {e : Int} {d u P Q sh s : Nat} {c : ME} {a1 : Int} {Z : AR → Prop} (hI : Iv u e P Q c) (hs : (sh = 37 ∧ s = 38) ∨ (sh = 39 ∧ s = 40)) (ha1 : (-2147483648) ≤ a1 ∧ a1 ≤ 2147483647) (K : ∀ (c2 : ME), Iv u e P Q c2 → (∀ (a : Nat) (j : Int), ¬ (a = s) → c2 a j = c a j) → Z (.inl (none), Wd P Q P P c2, 0, 0)) : Wp sc (d + 7) 61 0 [(0, .ref sh), (1, vi a1)] [] (Wd P Q P P c) 0 0 Z := by
  have hP := iv_P hI
  have hQ := iv_Q hI
  refine q_aload_n rfl rfl ?_
  refine v_gr (t := s) rfl rfl (ck_sh hs) (by omega) rfl ?_
  refine v_bip rfl (by decide) ?_
  refine q_dup2 rfl ⟨rfl, rfl⟩ ?_
  have h_1 := ir_s hI hs 30
  refine v_ia (v := c s 30) rfl (ck_s hs) (by omega) (by decide) (by decide) rfl ?_
  refine q_iconst rfl ?_
  refine q_iload_n rfl rfl ?_
  refine v_ishlx rfl (fun y_2 hy_2 => ?_)
  refine v_ixorx rfl (fun y_3 hy_3 => ?_)
  refine v_is rfl (ck_s hs) (by omega) (by decide) (by decide) ?_
  refine q_vret rfl rfl ?_
  have hI_4 := iw_row (a := s) (j := 30) (v := y_3) hI (by omega) (Or.inr (by omega)) ⟨by omega, by omega, by omega⟩
  exact K (up c s 30 y_3) hI_4 (fun a j hm => up_b (by omega))

set_option maxRecDepth 100000 in
set_option maxHeartbeats 4000000 in
theorem s_66 {sc : List Int32} {e : Int} {d u P Q : Nat} {c : ME} {Z : AR → Prop} (hI : Iv u e P Q c)  (K : ∀ (c2 : ME), Iv u e P Q c2 → (∀ (a : Nat) (j : Int), ¬ (a = 40) → c2 a j = c a j) → Z (.inl (none), Wd P Q P P c2, 0, 0)) : Wp sc (d + 7) 66 0 [(0, .ref 39), (1, .ref 37)] [] (Wd P Q P P c) 0 0 Z := by
  have hP := iv_P hI
  have hQ := iv_Q hI
  refine q_aload_n rfl rfl ?_
  refine v_gr (t := 38) rfl rfl rfl (by decide) rfl ?_
  refine q_iconst rfl ?_
  refine q_aload_n rfl rfl ?_
  refine v_gr (t := 40) rfl rfl rfl (by decide) rfl ?_
  refine q_iconst rfl ?_
  refine v_bip rfl (by decide) ?_
  refine v_cpy rfl rfl rfl (by decide) rfl (by decide) rfl rfl (by omega) (Nat.le_of_ble_eq_true rfl) (by omega) ?_
  refine q_vret rfl rfl ?_
  have hI_1 := cp_38_40 hI
  exact K (upc c 38 0 40 0 34) hI_1 (fun a j hm => upc_c (by omega))

set_option maxRecDepth 100000 in
set_option maxHeartbeats 4000000 in
theorem s_67_l {sc : List Int32} {e : Int} {d u P Q sh s : Nat} {c : ME} {a1 : Int} {Z : AR → Prop} (hI : Iv u e P Q c) (hs : (sh = 37 ∧ s = 38) ∨ (sh = 39 ∧ s = 40)) (ha1 : 0 ≤ a1 ∧ a1 ≤ 5) (K : ∀ (y : Int), (-2147483648) ≤ y ∧ y ≤ 2147483647 → Z (.inl (some (vi y)), Wd P Q P P c, 0, 0)) : ∀ n : Nat, (∀ (v2 : Int) (v3 : Int), (-2147483648) ≤ v2 ∧ v2 ≤ 2147483647 → 0 ≤ v3 ∧ v3 ≤ 4 → 9 - 2 * v3 < (n : Int) → Wp sc (d + 8) 67 4 [(0, .ref sh), (1, vi a1), (2, vi v2), (3, vi v3)] [] (Wd P Q P P c) 0 0 Z)
  | 0 => by intros; exfalso; omega
  | n + 1 => by
    have hP := iv_P hI
    have hQ := iv_Q hI
    have ih := s_67_l (sc := sc) (d := d) hI hs ha1 K n
    intro v2 v3 hv2 hv3 hm9
    refine q_iload_n rfl rfl ?_
    refine q_iconst rfl ?_
    by_cases h_1 : v3 ≥ 4
    · refine v_ic_ge_t (t := 32) rfl (by decide) (by omega) ?_
      refine q_iload_n rfl rfl ?_
      refine q_iret rfl rfl ?_
      exact K v2 ⟨by omega, by omega⟩
    · refine v_ic_ge_f (t := 32) rfl (by decide) (by omega) ?_
      refine q_iload_n rfl rfl ?_
      refine q_aload_n rfl rfl ?_
      refine q_iload_n rfl rfl ?_
      refine q_iload_n rfl rfl ?_
      refine v_cv rfl rfl rfl (ck_sh hs) (by omega) ⟨⟨rfl, rfl⟩, by decide, rfl⟩ (Nat.le_of_ble_eq_true rfl) (Nat.le_of_ble_eq_true rfl) (s_45 (a1 := a1) (a2 := v3) hI hs (show 0 ≤ a1 ∧ a1 ≤ 5 from by omega) (show 0 ≤ v3 ∧ v3 ≤ 3 from by omega) (fun y_2 hy_2 => ?_))
      refine bk_inl ?_
      by_cases h_3 : y_2 ≤ 0
      · refine v_if_le_t (t := 23) rfl (by decide) (by omega) ?_
        refine q_iconst rfl ?_
        refine v_iadd (v := v2) rfl (by omega) ?_
        refine q_istore_n rfl (by decide) ?_
        refine v_iinc (v := v3 + 1) rfl rfl (by decide) (by omega) ?_
        refine q_goto (t := 4) rfl (by decide) ?_
        refine Wp_ls [(0, .ref sh), (1, vi a1), (2, vi v2), (3, vi (v3 + 1))] (lsub_cons rfl (lsub_cons rfl (lsub_cons rfl (lsub_cons rfl lsub_nil)))) ?_
        exact ih v2 (v3 + 1) ⟨by omega, by omega⟩ ⟨by omega, by omega⟩ (by omega)
      · refine v_if_le_f (t := 23) rfl (by decide) (by omega) ?_
        refine q_iconst rfl ?_
        refine q_goto (t := 24) rfl (by decide) ?_
        refine v_iadd (v := v2 + 1) rfl (by omega) ?_
        refine v_nrm (fun y_4 hy_4 => ?_)
        refine q_istore_n rfl (by decide) ?_
        refine v_iinc (v := v3 + 1) rfl rfl (by decide) (by omega) ?_
        refine q_goto (t := 4) rfl (by decide) ?_
        refine Wp_ls [(0, .ref sh), (1, vi a1), (2, vi y_4), (3, vi (v3 + 1))] (lsub_cons rfl (lsub_cons rfl (lsub_cons rfl (lsub_cons rfl lsub_nil)))) ?_
        exact ih y_4 (v3 + 1) ⟨by omega, by omega⟩ ⟨by omega, by omega⟩ (by omega)
set_option maxRecDepth 100000 in
set_option maxHeartbeats 4000000 in
theorem s_67 {sc : List Int32} {e : Int} {d u P Q sh s : Nat} {c : ME} {a1 : Int} {Z : AR → Prop} (hI : Iv u e P Q c) (hs : (sh = 37 ∧ s = 38) ∨ (sh = 39 ∧ s = 40)) (ha1 : 0 ≤ a1 ∧ a1 ≤ 5) (K : ∀ (y : Int), (-2147483648) ≤ y ∧ y ≤ 2147483647 → Z (.inl (some (vi y)), Wd P Q P P c, 0, 0)) : Wp sc (d + 8) 67 0 [(0, .ref sh), (1, vi a1)] [] (Wd P Q P P c) 0 0 Z := by
  have hP := iv_P hI
  have hQ := iv_Q hI
  refine q_iconst rfl ?_
  refine q_istore_n rfl (by decide) ?_
  refine q_iconst rfl ?_
  refine q_istore_n rfl (by decide) ?_
  refine Wp_ls [(0, .ref sh), (1, vi a1), (2, vi 0), (3, vi 0)] (lsub_cons rfl (lsub_cons rfl (lsub_cons rfl (lsub_cons rfl lsub_nil)))) ?_
  exact (s_67_l (sc := sc) (d := d) hI hs ha1 K 12) 0 0 ⟨by decide, by decide⟩ ⟨by decide, by decide⟩ (by omega)

set_option maxRecDepth 100000 in
set_option maxHeartbeats 4000000 in
theorem s_68 {sc : List Int32} {e : Int} {d u P Q sh s : Nat} {c : ME} {a1 : Int} {Z : AR → Prop} (hI : Iv u e P Q c) (hs : (sh = 37 ∧ s = 38) ∨ (sh = 39 ∧ s = 40)) (ha1 : 0 ≤ a1 ∧ a1 ≤ 5) (K : ∀ (y : Int), (-2147483648) ≤ y ∧ y ≤ 2147483647 → Z (.inl (some (vi y)), Wd P Q P P c, 0, 0)) : Wp sc (d + 8) 68 0 [(0, .ref sh), (1, vi a1)] [] (Wd P Q P P c) 0 0 Z := by
  have hP := iv_P hI
  have hQ := iv_Q hI
  refine q_aload_n rfl rfl ?_
  refine q_iload_n rfl rfl ?_
  refine v_cv rfl rfl rfl (ck_sh hs) (by omega) ⟨⟨rfl, rfl⟩, by decide, rfl⟩ (Nat.le_of_ble_eq_true rfl) (Nat.le_of_ble_eq_true rfl) (s_43 (a1 := a1) hI hs (show 0 ≤ a1 ∧ a1 ≤ 5 from by omega) (fun y_1 hy_1 => ?_))
  refine bk_inl ?_
  refine q_istore_n rfl (by decide) ?_
  refine q_iload_n rfl rfl ?_
  by_cases h_2 : y_1 ≤ 0
  · refine v_if_le_t (t := 25) rfl (by decide) (by omega) ?_
    refine q_iconst rfl ?_
    refine q_iret rfl rfl ?_
    exact K 0 ⟨by decide, by decide⟩
  · refine v_if_le_f (t := 25) rfl (by decide) (by omega) ?_
    refine v_sip rfl (by decide) ?_
    refine q_aload_n rfl rfl ?_
    refine q_iload_n rfl rfl ?_
    refine q_iconst rfl ?_
    refine v_cv rfl rfl rfl (ck_sh hs) (by omega) ⟨⟨rfl, rfl⟩, by decide, rfl⟩ (Nat.le_of_ble_eq_true rfl) (Nat.le_of_ble_eq_true rfl) (s_45 (a1 := a1) (a2 := 0) hI hs (show 0 ≤ a1 ∧ a1 ≤ 5 from by omega) (show 0 ≤ 0 ∧ 0 ≤ 3 from by omega) (fun y_3 hy_3 => ?_))
    refine bk_inl ?_
    refine v_imul (v := 1000 * y_3) rfl (by omega) ?_
    refine q_iload_n rfl rfl ?_
    refine v_idivx rfl ⟨by omega, by omega, by omega⟩ (fun y_4 hy_4 => ?_)
    refine q_goto (t := 26) rfl (by decide) ?_
    refine q_iret rfl rfl ?_
    exact K y_4 ⟨by omega, by omega⟩

set_option maxRecDepth 100000 in
set_option maxHeartbeats 4000000 in
theorem s_69_l {sc : List Int32} {e : Int} {d u P Q sh s : Nat} {c : ME} {Z : AR → Prop} (hI : Iv u e P Q c) (hs : (sh = 37 ∧ s = 38) ∨ (sh = 39 ∧ s = 40)) (K : ∀ (y : Int), (-2147483648) ≤ y ∧ y ≤ 2147483647 → Z (.inl (some (vi y)), Wd P Q P P c, 0, 0)) : ∀ n : Nat, (∀ (v1 : Int) (v2 : Int), (-2147483648) ≤ v1 ∧ v1 ≤ 2147483647 → 0 ≤ v2 ∧ v2 ≤ 6 → 13 - 2 * v2 < (n : Int) → Wp sc (d + 8) 69 4 [(0, .ref sh), (1, vi v1), (2, vi v2)] [] (Wd P Q P P c) 0 0 Z)
  | 0 => by intros; exfalso; omega
  | n + 1 => by
    have hP := iv_P hI
    have hQ := iv_Q hI
    have ih := s_69_l (sc := sc) (d := d) hI hs K n
    intro v1 v2 hv1 hv2 hm9
    refine q_iload_n rfl rfl ?_
    refine q_aload_n rfl rfl ?_
    refine v_gr (t := P) rfl rfl (ck_sh hs) (by omega) rfl ?_
    have h_1 := ir_p0_0 hI hP
    refine v_gi (z := 0) (v := c P 0) rfl rfl (ck_p0 hP) (by omega) rfl rfl rfl ?_
    by_cases h_2 : v2 ≥ c P 0
    · refine v_ic_ge_t (t := 29) rfl (by decide) (by omega) ?_
      refine q_iload_n rfl rfl ?_
      refine q_iret rfl rfl ?_
      exact K v1 ⟨by omega, by omega⟩
    · refine v_ic_ge_f (t := 29) rfl (by decide) (by omega) ?_
      refine q_iload_n rfl rfl ?_
      refine q_aload_n rfl rfl ?_
      refine q_iload_n rfl rfl ?_
      refine v_cv rfl rfl rfl (ck_sh hs) (by omega) ⟨⟨rfl, rfl⟩, by decide, rfl⟩ (Nat.le_of_ble_eq_true rfl) (Nat.le_of_ble_eq_true rfl) (s_43 (a1 := v2) hI hs (show 0 ≤ v2 ∧ v2 ≤ 5 from by omega) (fun y_3 hy_3 => ?_))
      refine bk_inl ?_
      refine v_iadd (v := v1 + y_3) rfl (by omega) ?_
      refine v_nrm (fun y_4 hy_4 => ?_)
      refine q_istore_n rfl (by decide) ?_
      refine v_iinc (v := v2 + 1) rfl rfl (by decide) (by omega) ?_
      refine q_goto (t := 4) rfl (by decide) ?_
      refine Wp_ls [(0, .ref sh), (1, vi y_4), (2, vi (v2 + 1))] (lsub_cons rfl (lsub_cons rfl (lsub_cons rfl lsub_nil))) ?_
      exact ih y_4 (v2 + 1) ⟨by omega, by omega⟩ ⟨by omega, by omega⟩ (by omega)
set_option maxRecDepth 100000 in
set_option maxHeartbeats 4000000 in
theorem s_69 {sc : List Int32} {e : Int} {d u P Q sh s : Nat} {c : ME} {Z : AR → Prop} (hI : Iv u e P Q c) (hs : (sh = 37 ∧ s = 38) ∨ (sh = 39 ∧ s = 40)) (K : ∀ (y : Int), (-2147483648) ≤ y ∧ y ≤ 2147483647 → Z (.inl (some (vi y)), Wd P Q P P c, 0, 0)) : Wp sc (d + 8) 69 0 [(0, .ref sh)] [] (Wd P Q P P c) 0 0 Z := by
  have hP := iv_P hI
  have hQ := iv_Q hI
  refine q_iconst rfl ?_
  refine q_istore_n rfl (by decide) ?_
  refine q_iconst rfl ?_
  refine q_istore_n rfl (by decide) ?_
  refine Wp_ls [(0, .ref sh), (1, vi 0), (2, vi 0)] (lsub_cons rfl (lsub_cons rfl (lsub_cons rfl lsub_nil))) ?_
  exact (s_69_l (sc := sc) (d := d) hI hs K 16) 0 0 ⟨by decide, by decide⟩ ⟨by decide, by decide⟩ (by omega)

set_option maxRecDepth 100000 in
set_option maxHeartbeats 4000000 in
theorem s_70_l {sc : List Int32} {e : Int} {d u P Q sh s : Nat} {c : ME} {Z : AR → Prop} (hI : Iv u e P Q c) (hs : (sh = 37 ∧ s = 38) ∨ (sh = 39 ∧ s = 40)) (K : ∀ (y : Int), (-2147483648) ≤ y ∧ y ≤ 2147483647 → Z (.inl (some (vi y)), Wd P Q P P c, 0, 0)) : ∀ n : Nat, (∀ (v1 : Int) (v2 : Int), (-2147483648) ≤ v1 ∧ v1 ≤ 2147483647 → 0 ≤ v2 ∧ v2 ≤ 6 → 13 - 2 * v2 < (n : Int) → Wp sc (d + 8) 70 4 [(0, .ref sh), (1, vi v1), (2, vi v2)] [] (Wd P Q P P c) 0 0 Z)
  | 0 => by intros; exfalso; omega
  | n + 1 => by
    have hP := iv_P hI
    have hQ := iv_Q hI
    have ih := s_70_l (sc := sc) (d := d) hI hs K n
    intro v1 v2 hv1 hv2 hm9
    refine q_iload_n rfl rfl ?_
    refine q_aload_n rfl rfl ?_
    refine v_gr (t := P) rfl rfl (ck_sh hs) (by omega) rfl ?_
    have h_1 := ir_p0_0 hI hP
    refine v_gi (z := 0) (v := c P 0) rfl rfl (ck_p0 hP) (by omega) rfl rfl rfl ?_
    by_cases h_2 : v2 ≥ c P 0
    · refine v_ic_ge_t (t := 35) rfl (by decide) (by omega) ?_
      refine q_iload_n rfl rfl ?_
      refine q_iret rfl rfl ?_
      exact K v1 ⟨by omega, by omega⟩
    · refine v_ic_ge_f (t := 35) rfl (by decide) (by omega) ?_
      refine q_aload_n rfl rfl ?_
      refine q_iload_n rfl rfl ?_
      refine v_cv rfl rfl rfl (ck_sh hs) (by omega) ⟨⟨rfl, rfl⟩, by decide, rfl⟩ (Nat.le_of_ble_eq_true rfl) (Nat.le_of_ble_eq_true rfl) (s_43 (a1 := v2) hI hs (show 0 ≤ v2 ∧ v2 ≤ 5 from by omega) (fun y_3 hy_3 => ?_))
      refine bk_inl ?_
      by_cases h_4 : y_3 ≠ 0
      · refine v_if_ne_t (t := 29) rfl (by decide) (by omega) ?_
        refine v_iinc (v := v2 + 1) rfl rfl (by decide) (by omega) ?_
        refine q_goto (t := 4) rfl (by decide) ?_
        refine Wp_ls [(0, .ref sh), (1, vi v1), (2, vi (v2 + 1))] (lsub_cons rfl (lsub_cons rfl (lsub_cons rfl lsub_nil))) ?_
        exact ih v1 (v2 + 1) ⟨by omega, by omega⟩ ⟨by omega, by omega⟩ (by omega)
      · refine v_if_ne_f (t := 29) rfl (by decide) (by omega) ?_
        refine q_iload_n rfl rfl ?_
        refine q_iconst rfl ?_
        refine q_iload_n rfl rfl ?_
        refine v_shl1 rfl ⟨by omega, by omega⟩ (fun y_5 hy_5 => ?_)
        refine v_iorx rfl (fun y_6 hy_6 => ?_)
        refine q_istore_n rfl (by decide) ?_
        refine v_iinc (v := v2 + 1) rfl rfl (by decide) (by omega) ?_
        refine q_goto (t := 4) rfl (by decide) ?_
        refine Wp_ls [(0, .ref sh), (1, vi y_6), (2, vi (v2 + 1))] (lsub_cons rfl (lsub_cons rfl (lsub_cons rfl lsub_nil))) ?_
        exact ih y_6 (v2 + 1) ⟨by omega, by omega⟩ ⟨by omega, by omega⟩ (by omega)
set_option maxRecDepth 100000 in
set_option maxHeartbeats 4000000 in
theorem s_70 {sc : List Int32} {e : Int} {d u P Q sh s : Nat} {c : ME} {Z : AR → Prop} (hI : Iv u e P Q c) (hs : (sh = 37 ∧ s = 38) ∨ (sh = 39 ∧ s = 40)) (K : ∀ (y : Int), (-2147483648) ≤ y ∧ y ≤ 2147483647 → Z (.inl (some (vi y)), Wd P Q P P c, 0, 0)) : Wp sc (d + 8) 70 0 [(0, .ref sh)] [] (Wd P Q P P c) 0 0 Z := by
  have hP := iv_P hI
  have hQ := iv_Q hI
  refine q_iconst rfl ?_
  refine q_istore_n rfl (by decide) ?_
  refine q_iconst rfl ?_
  refine q_istore_n rfl (by decide) ?_
  refine Wp_ls [(0, .ref sh), (1, vi 0), (2, vi 0)] (lsub_cons rfl (lsub_cons rfl (lsub_cons rfl lsub_nil))) ?_
  exact (s_70_l (sc := sc) (d := d) hI hs K 16) 0 0 ⟨by decide, by decide⟩ ⟨by decide, by decide⟩ (by omega)

set_option maxRecDepth 100000 in
set_option maxHeartbeats 4000000 in
theorem s_72 {sc : List Int32} {e : Int} {d u P Q : Nat} {c : ME} {a1 : Int} {Z : AR → Prop} (hI : Iv u e P Q c) (ha1 : 0 ≤ a1 ∧ a1 ≤ 20) (K : ∀ (y : Int), 0 ≤ y ∧ y ≤ 1 → ((y = 0) ∨ (a1 + c 1 3 ≤ 600)) → Z (.inl (some (vi y)), Wd P Q P P c, 0, 0)) : Wp sc (d + 7) 72 0 [(0, .ref 1), (1, vi a1)] [] (Wd P Q P P c) 0 0 Z := by
  have hP := iv_P hI
  have hQ := iv_Q hI
  refine q_aload_n rfl rfl ?_
  have h_1 := ir_1_3 hI
  refine v_gi (z := 3) (v := c 1 3) rfl rfl rfl (by decide) rfl rfl rfl ?_
  refine q_iload_n rfl rfl ?_
  refine v_iadd (v := a1 + c 1 3) rfl (by omega) ?_
  refine q_aload_n rfl rfl ?_
  refine v_gr (t := 2) rfl rfl rfl (by decide) rfl ?_
  refine v_al rfl rfl (by decide) (by decide) ?_
  by_cases h_2 : a1 + c 1 3 > 600
  · refine v_ic_gt_t (t := 18) rfl (by decide) (by omega) ?_
    refine q_iconst rfl ?_
    refine v_zret rfl rfl (by omega) ?_
    exact K 0 ⟨by decide, by decide⟩ (by omega)
  · refine v_ic_gt_f (t := 18) rfl (by decide) (by omega) ?_
    refine q_iconst rfl ?_
    refine q_goto (t := 19) rfl (by decide) ?_
    refine v_zret rfl rfl (by omega) ?_
    exact K 1 ⟨by decide, by decide⟩ (by omega)

set_option maxRecDepth 100000 in
set_option maxHeartbeats 4000000 in
theorem s_73_l {sc : List Int32} {e : Int} {d u P Q : Nat} {c : ME} {a1 : Int} {Z : AR → Prop} (hI : Iv u e P Q c) (ha1 : (-2147483648) ≤ a1 ∧ a1 ≤ 2147483647) (K : ∀ (c2 : ME), Iv u e P Q c2 → (∀ (a : Nat) (j : Int), ¬ ((a = 1 ∧ j = 3) ∨ a = 2) → c2 a j = c a j) → Z (.inl (none), Wd P Q P P c2, 0, 0)) : ∀ n : Nat, (∀ (c2 : ME) (v2 : Int), Iv u e P Q c2 → (∀ (a : Nat) (j : Int), ¬ ((a = 1 ∧ j = 3) ∨ a = 2) → c2 a j = c a j) → (-8) ≤ v2 ∧ v2 ≤ 24 → 2 * v2 + 17 < (n : Int) → Wp sc (d + 8) 73 3 [(0, .ref 1), (1, vi a1), (2, vi v2)] [] (Wd P Q P P c2) 0 0 Z)
  | 0 => by intros; exfalso; omega
  | n + 1 => by
    have hP := iv_P hI
    have hQ := iv_Q hI
    have ih := s_73_l (sc := sc) (d := d) hI ha1 K n
    intro c2 v2 hI2 hF hv2 hm9
    refine q_iload_n rfl rfl ?_
    by_cases h_1 : v2 < 0
    · refine v_if_lt_t (t := 44) rfl (by decide) (by omega) ?_
      refine q_vret rfl rfl ?_
      exact K c2 hI2 (fun a j hm => hF a j (by omega))
    · refine v_if_lt_f (t := 44) rfl (by decide) (by omega) ?_
      refine q_aload_n rfl rfl ?_
      refine q_iconst rfl ?_
      have h_2 := ir_1_3 hI2
      refine v_cv rfl rfl rfl rfl (by decide) ⟨⟨rfl, rfl⟩, by decide, rfl⟩ (Nat.le_of_ble_eq_true rfl) (Nat.le_of_ble_eq_true rfl) (s_72 (a1 := 1) hI2 (show 0 ≤ 1 ∧ 1 ≤ 20 from by omega) (fun y_3 hy_3 h_4 => ?_))
      refine bk_inl ?_
      by_cases h_5 : y_3 = 0
      · refine v_if_eq_t (t := 44) rfl (by decide) (by omega) ?_
        refine q_vret rfl rfl ?_
        exact K c2 hI2 (fun a j hm => hF a j (by omega))
      · refine v_if_eq_f (t := 44) rfl (by decide) (by omega) ?_
        refine q_aload_n rfl rfl ?_
        refine v_gr (t := 2) rfl rfl rfl (by decide) rfl ?_
        refine q_aload_n rfl rfl ?_
        refine v_gi (z := 3) (v := c2 1 3) rfl rfl rfl (by decide) rfl rfl rfl ?_
        refine q_iload_n rfl rfl ?_
        refine q_iload_n rfl rfl ?_
        refine v_ishrx rfl (fun y_6 hy_6 => ?_)
        refine v_i2b rfl ?_
        refine v_bs rfl rfl (by decide) (by decide) (by omega) ?_
        refine q_aload_n rfl rfl ?_
        refine q_dup rfl rfl ?_
        refine v_gi (z := 3) (v := c2 1 3) rfl rfl rfl (by decide) rfl rfl (up_c (by decide)) ?_
        refine q_iconst rfl ?_
        refine v_iadd (v := c2 1 3 + 1) rfl (by omega) ?_
        refine v_pi (z := 3) rfl rfl rfl (by decide) rfl rfl rfl (by decide) ?_
        refine v_iinc (v := v2 - 8) rfl rfl (by decide) (by omega) ?_
        refine q_goto (t := 3) rfl (by decide) ?_
        have hI_7 := iw_2 (j := c2 1 3) (v := (sb (sb y_6))) hI2 ⟨by omega, by omega⟩
        have hI_8 := iw_1_3 (v := c2 1 3 + 1) hI_7 ⟨by omega, by omega⟩
        refine Wp_ls [(0, .ref 1), (1, vi a1), (2, vi (v2 - 8))] (lsub_cons rfl (lsub_cons rfl (lsub_cons rfl lsub_nil))) ?_
        exact ih (up (up c2 2 (c2 1 3) (sb (sb y_6))) 1 3 (c2 1 3 + 1)) (v2 - 8) hI_8 (fun a j hm => (up_b (by omega)).trans ((up_b (by omega)).trans (hF a j (by omega)))) ⟨by omega, by omega⟩ (by omega)
set_option maxRecDepth 100000 in
set_option maxHeartbeats 4000000 in
theorem s_73 {sc : List Int32} {e : Int} {d u P Q : Nat} {c : ME} {a1 : Int} {Z : AR → Prop} (hI : Iv u e P Q c) (ha1 : (-2147483648) ≤ a1 ∧ a1 ≤ 2147483647) (K : ∀ (c2 : ME), Iv u e P Q c2 → (∀ (a : Nat) (j : Int), ¬ ((a = 1 ∧ j = 3) ∨ a = 2) → c2 a j = c a j) → Z (.inl (none), Wd P Q P P c2, 0, 0)) : Wp sc (d + 8) 73 0 [(0, .ref 1), (1, vi a1)] [] (Wd P Q P P c) 0 0 Z := by
  have hP := iv_P hI
  have hQ := iv_Q hI
  refine v_bip rfl (by decide) ?_
  refine q_istore_n rfl (by decide) ?_
  refine Wp_ls [(0, .ref 1), (1, vi a1), (2, vi 24)] (lsub_cons rfl (lsub_cons rfl (lsub_cons rfl lsub_nil))) ?_
  exact (s_73_l (sc := sc) (d := d) hI ha1 K 68) c 24 hI (fun a j hm => rfl) ⟨by decide, by decide⟩ (by omega)

set_option maxRecDepth 100000 in
set_option maxHeartbeats 4000000 in
theorem s_74 {sc : List Int32} {e : Int} {d u P Q : Nat} {c : ME} {a1 : Int} {Z : AR → Prop} (hI : Iv u e P Q c) (ha1 : 0 ≤ a1 ∧ a1 ≤ 600) (K : ∀ (c2 : ME), Iv u e P Q c2 → (∀ (a : Nat) (j : Int), ¬ ((a = 1 ∧ j = 1) ∨ (a = 1 ∧ j = 2) ∨ (a = 1 ∧ j = 3) ∨ (a = 1 ∧ j = 4) ∨ (a = 1 ∧ j = 5)) → c2 a j = c a j) → ((c2 1 3 = 0)) → Z (.inl (none), Wd P Q P P c2, 0, 0)) : Wp sc (d + 7) 74 0 [(0, .ref 1), (1, vi a1)] [] (Wd P Q P P c) 0 0 Z := by
  have hP := iv_P hI
  have hQ := iv_Q hI
  refine q_aload_n rfl rfl ?_
  refine q_iload_n rfl rfl ?_
  refine q_aload_n rfl rfl ?_
  have h_1 := ir_1_3 hI
  refine v_gi (z := 3) (v := c 1 3) rfl rfl rfl (by decide) rfl rfl rfl ?_
  by_cases h_2 : a1 < c 1 3
  · skip
    refine v_min_l rfl rfl (by omega) (Nat.le_of_ble_eq_true rfl) (by omega) ?_
    refine v_pi (z := 1) rfl rfl rfl (by decide) rfl rfl rfl (by decide) ?_
    refine q_aload_n rfl rfl ?_
    refine q_iconst rfl ?_
    refine v_pi (z := 2) rfl rfl rfl (by decide) rfl rfl rfl (by decide) ?_
    refine q_aload_n rfl rfl ?_
    refine q_iconst rfl ?_
    refine v_pi (z := 3) rfl rfl rfl (by decide) rfl rfl rfl (by decide) ?_
    refine q_aload_n rfl rfl ?_
    refine q_iconst rfl ?_
    refine v_pi (z := 4) rfl rfl rfl (by decide) rfl rfl rfl (by decide) ?_
    refine q_aload_n rfl rfl ?_
    refine q_iconst rfl ?_
    refine v_pi (z := 5) rfl rfl rfl (by decide) rfl rfl rfl (by decide) ?_
    refine q_vret rfl rfl ?_
    have hI_3 := iw_1_1 (v := a1) hI ⟨by omega, by omega⟩
    have hI_4 := iw_1_2 (v := 0) hI_3 ⟨by decide, by decide⟩
    have hI_5 := iw_1_3 (v := 0) hI_4 ⟨by decide, by decide⟩
    have hI_6 := iw_1_4 (v := 0) hI_5 ⟨by decide, by decide⟩
    have hI_7 := iw_1_5 (v := (-1)) hI_6 ⟨by decide, by decide⟩
    have h_8 : (up (up (up (up (up c 1 1 a1) 1 2 0) 1 3 0) 1 4 0) 1 5 (-1)) 1 3 = 0 := ((up_n (by decide)).trans ((up_n (by decide)).trans (up_e rfl)))
    exact K (up (up (up (up (up c 1 1 a1) 1 2 0) 1 3 0) 1 4 0) 1 5 (-1)) hI_7 (fun a j hm => (up_b (by omega)).trans ((up_b (by omega)).trans ((up_b (by omega)).trans ((up_b (by omega)).trans (up_b (by omega)))))) (by omega)
  · skip
    refine v_min_g rfl rfl (by omega) (Nat.le_of_ble_eq_true rfl) (by omega) ?_
    refine v_pi (z := 1) rfl rfl rfl (by decide) rfl rfl rfl (by decide) ?_
    refine q_aload_n rfl rfl ?_
    refine q_iconst rfl ?_
    refine v_pi (z := 2) rfl rfl rfl (by decide) rfl rfl rfl (by decide) ?_
    refine q_aload_n rfl rfl ?_
    refine q_iconst rfl ?_
    refine v_pi (z := 3) rfl rfl rfl (by decide) rfl rfl rfl (by decide) ?_
    refine q_aload_n rfl rfl ?_
    refine q_iconst rfl ?_
    refine v_pi (z := 4) rfl rfl rfl (by decide) rfl rfl rfl (by decide) ?_
    refine q_aload_n rfl rfl ?_
    refine q_iconst rfl ?_
    refine v_pi (z := 5) rfl rfl rfl (by decide) rfl rfl rfl (by decide) ?_
    refine q_vret rfl rfl ?_
    have hI_9 := iw_1_1 (v := c 1 3) hI ⟨by omega, by omega⟩
    have hI_10 := iw_1_2 (v := 0) hI_9 ⟨by decide, by decide⟩
    have hI_11 := iw_1_3 (v := 0) hI_10 ⟨by decide, by decide⟩
    have hI_12 := iw_1_4 (v := 0) hI_11 ⟨by decide, by decide⟩
    have hI_13 := iw_1_5 (v := (-1)) hI_12 ⟨by decide, by decide⟩
    have h_14 : (up (up (up (up (up c 1 1 (c 1 3)) 1 2 0) 1 3 0) 1 4 0) 1 5 (-1)) 1 3 = 0 := ((up_n (by decide)).trans ((up_n (by decide)).trans (up_e rfl)))
    exact K (up (up (up (up (up c 1 1 (c 1 3)) 1 2 0) 1 3 0) 1 4 0) 1 5 (-1)) hI_13 (fun a j hm => (up_b (by omega)).trans ((up_b (by omega)).trans ((up_b (by omega)).trans ((up_b (by omega)).trans (up_b (by omega)))))) (by omega)

set_option maxRecDepth 100000 in
set_option maxHeartbeats 4000000 in
theorem s_76 {sc : List Int32} {e : Int} {d u P Q : Nat} {c : ME} {a1 : Int} {Z : AR → Prop} (hI : Iv u e P Q c) (ha1 : 1 ≤ a1 ∧ a1 ≤ 16) (K : ∀ (c2 : ME) (y : Int), Iv u e P Q c2 → (∀ (a : Nat) (j : Int), ¬ ((a = 9 ∧ j = 0)) → c2 a j = c a j) → 0 ≤ y ∧ y ≤ 15 → ((y < a1)) → Z (.inl (some (vi y)), Wd P Q P P c2, 0, 0)) : Wp sc (d + 7) 76 0 [(0, .ref 9), (1, vi a1)] [] (Wd P Q P P c) 0 0 Z := by
  have hP := iv_P hI
  have hQ := iv_Q hI
  refine q_aload_n rfl rfl ?_
  refine q_aload_n rfl rfl ?_
  have h_1 := ir_9_0 hI
  refine v_gi (z := 0) (v := c 9 0) rfl rfl rfl (by decide) rfl rfl rfl ?_
  refine v_ldc (n := 1103515245) rfl rfl (by decide +kernel) ?_
  refine v_imul (v := 1103515245 * c 9 0) rfl (by omega) ?_
  refine v_nrm (fun y_2 hy_2 => ?_)
  refine v_sip rfl (by decide) ?_
  refine v_iadd (v := y_2 + 12345) rfl (by omega) ?_
  refine v_nrm (fun y_3 hy_3 => ?_)
  refine v_pi (z := 0) rfl rfl rfl (by decide) rfl rfl rfl (by decide) ?_
  refine q_iload_n rfl rfl ?_
  refine v_if_le_f (t := 35) rfl (by decide) (by omega) ?_
  refine q_aload_n rfl rfl ?_
  refine v_gi (z := 0) (v := y_3) rfl rfl rfl (by decide) rfl rfl (up_e rfl) ?_
  refine v_bip rfl (by decide) ?_
  refine v_iushrx rfl (fun y_4 hy_4 => ?_)
  refine v_sip rfl (by decide) ?_
  refine v_and15 (v := (y_4 % 32768)) rfl rfl ?_
  refine q_iload_n rfl rfl ?_
  have h_5 : 0 ≤ ((y_4 % 32768) % a1) ∧ ((y_4 % 32768) % a1) < a1 := rem_bd (by omega)
  refine v_irem (v := ((y_4 % 32768) % a1)) rfl (by omega) rfl ?_
  refine q_goto (t := 36) rfl (by decide) ?_
  refine q_iret rfl rfl ?_
  have hI_6 := iw_9_0 (v := y_3) hI ⟨by omega, by omega⟩
  exact K (up c 9 0 y_3) ((y_4 % 32768) % a1) hI_6 (fun a j hm => up_b (by omega)) ⟨by omega, by omega⟩ (by omega)

set_option maxRecDepth 100000 in
set_option maxHeartbeats 4000000 in
theorem s_79 {sc : List Int32} {e : Int} {d u P Q : Nat} {c : ME} {a1 : Int} {a2 : Int} {a3 : Int} {a4 : Int} {a5 : Int} {Z : AR → Prop} (hI : Iv u e P Q c) (ha1 : (-2147483648) ≤ a1 ∧ a1 ≤ 2147483647) (ha2 : (-2147483648) ≤ a2 ∧ a2 ≤ 2147483647) (ha3 : (-2147483648) ≤ a3 ∧ a3 ≤ 2147483647) (ha4 : (-2147483648) ≤ a4 ∧ a4 ≤ 2147483647) (ha5 : (-2147483648) ≤ a5 ∧ a5 ≤ 2147483647) (K : ∀ (c2 : ME) (y : Int), Iv u e P Q c2 → (∀ (a : Nat) (j : Int), ¬ ((a = 1 ∧ j = 3) ∨ a = 2) → c2 a j = c a j) → (-1) ≤ y ∧ y ≤ 600 → Z (.inl (some (vi y)), Wd P Q P P c2, 0, 0)) : Wp sc (d + 9) 79 0 [(0, .ref 0), (1, vi a1), (2, vi a2), (3, vi a3), (4, vi a4), (5, vi a5)] [] (Wd P Q P P c) 0 0 Z := by
  have hP := iv_P hI
  have hQ := iv_Q hI
  refine q_aload_n rfl rfl ?_
  refine v_gr (t := 1) rfl rfl rfl (by decide) rfl ?_
  refine v_bip rfl (by decide) ?_
  have h_1 := ir_1_3 hI
  refine v_cv rfl rfl rfl rfl (by decide) ⟨⟨rfl, rfl⟩, by decide, rfl⟩ (Nat.le_of_ble_eq_true rfl) (Nat.le_of_ble_eq_true rfl) (s_72 (a1 := 20) hI (show 0 ≤ 20 ∧ 20 ≤ 20 from by omega) (fun y_2 hy_2 h_3 => ?_))
  refine bk_inl ?_
  by_cases h_4 : y_2 ≠ 0
  · refine v_if_ne_t (t := 14) rfl (by decide) (by omega) ?_
    refine q_aload_n rfl rfl ?_
    refine v_gr (t := 1) rfl rfl rfl (by decide) rfl ?_
    refine q_iload_n rfl rfl ?_
    refine v_cv rfl rfl rfl rfl (by decide) ⟨⟨rfl, rfl⟩, by decide, rfl⟩ (Nat.le_of_ble_eq_true rfl) (Nat.le_of_ble_eq_true rfl) (s_73 (a1 := a1) hI (show (-2147483648) ≤ a1 ∧ a1 ≤ 2147483647 from by omega) (fun c_5 hI_6 hF_7 => ?_))
    refine bk_inl ?_
    refine q_aload_n rfl rfl ?_
    refine v_gr (t := 1) rfl rfl rfl (by decide) rfl ?_
    refine q_iload_n rfl rfl ?_
    refine v_cv rfl rfl rfl rfl (by decide) ⟨⟨rfl, rfl⟩, by decide, rfl⟩ (Nat.le_of_ble_eq_true rfl) (Nat.le_of_ble_eq_true rfl) (s_73 (a1 := a2) hI_6 (show (-2147483648) ≤ a2 ∧ a2 ≤ 2147483647 from by omega) (fun c_8 hI_9 hF_10 => ?_))
    refine bk_inl ?_
    refine q_aload_n rfl rfl ?_
    refine v_gr (t := 1) rfl rfl rfl (by decide) rfl ?_
    refine q_iload_n rfl rfl ?_
    refine v_cv rfl rfl rfl rfl (by decide) ⟨⟨rfl, rfl⟩, by decide, rfl⟩ (Nat.le_of_ble_eq_true rfl) (Nat.le_of_ble_eq_true rfl) (s_73 (a1 := a3) hI_9 (show (-2147483648) ≤ a3 ∧ a3 ≤ 2147483647 from by omega) (fun c_11 hI_12 hF_13 => ?_))
    refine bk_inl ?_
    refine q_aload_n rfl rfl ?_
    refine v_gr (t := 1) rfl rfl rfl (by decide) rfl ?_
    refine q_iload rfl rfl ?_
    refine v_cv rfl rfl rfl rfl (by decide) ⟨⟨rfl, rfl⟩, by decide, rfl⟩ (Nat.le_of_ble_eq_true rfl) (Nat.le_of_ble_eq_true rfl) (s_73 (a1 := a4) hI_12 (show (-2147483648) ≤ a4 ∧ a4 ≤ 2147483647 from by omega) (fun c_14 hI_15 hF_16 => ?_))
    refine bk_inl ?_
    refine q_aload_n rfl rfl ?_
    refine v_gr (t := 1) rfl rfl rfl (by decide) rfl ?_
    refine q_iload rfl rfl ?_
    refine v_cv rfl rfl rfl rfl (by decide) ⟨⟨rfl, rfl⟩, by decide, rfl⟩ (Nat.le_of_ble_eq_true rfl) (Nat.le_of_ble_eq_true rfl) (s_73 (a1 := a5) hI_15 (show (-2147483648) ≤ a5 ∧ a5 ≤ 2147483647 from by omega) (fun c_17 hI_18 hF_19 => ?_))
    refine bk_inl ?_
    refine q_aload_n rfl rfl ?_
    refine v_gr (t := 1) rfl rfl rfl (by decide) rfl ?_
    have h_20 := ir_1_3 hI_18
    refine v_gi (z := 3) (v := c_17 1 3) rfl rfl rfl (by decide) rfl rfl rfl ?_
    refine q_iret rfl rfl ?_
    exact K c_17 (c_17 1 3) hI_18 (fun a j hm => (hF_19 a j (by omega)).trans ((hF_16 a j (by omega)).trans ((hF_13 a j (by omega)).trans ((hF_10 a j (by omega)).trans (hF_7 a j (by omega)))))) ⟨by omega, by omega⟩
  · refine v_if_ne_f (t := 14) rfl (by decide) (by omega) ?_
    refine q_iconst rfl ?_
    refine q_iret rfl rfl ?_
    exact K c (-1) hI (fun a j hm => rfl) ⟨by decide, by decide⟩

set_option maxRecDepth 100000 in
set_option maxHeartbeats 4000000 in
theorem s_85 {sc : List Int32} {e : Int} {d u P Q : Nat} {c : ME} {a1 : Int} {Z : AR → Prop} (hI : Iv u e P Q c) (ha1 : (-2147483648) ≤ a1 ∧ a1 ≤ 2147483647) (T101 : ∀ c2 : ME, Iv u e P Q c2 → (∀ (a : Nat) (j : Int), ¬ ((a = 1 ∧ j = 1) ∨ (a = 1 ∧ j = 2) ∨ (a = 1 ∧ j = 3) ∨ (a = 1 ∧ j = 4) ∨ (a = 1 ∧ j = 5) ∨ (a = 0 ∧ j = 13) ∨ (a = (P + 7) ∧ j = 5) ∨ a = (P + 9) ∨ (a = (P + 7) ∧ j = 4) ∨ a = (P + 8)) → c2 a j = c a j) → Z (.inr 101, Wd P Q P P c2, 1, 6)) (K : ∀ (c2 : ME) (y : Int), Iv u e P Q c2 → (∀ (a : Nat) (j : Int), ¬ ((a = 1 ∧ j = 1) ∨ (a = 1 ∧ j = 2) ∨ (a = 1 ∧ j = 3) ∨ (a = 1 ∧ j = 4) ∨ (a = 1 ∧ j = 5) ∨ (a = 0 ∧ j = 13) ∨ (a = (P + 7) ∧ j = 5) ∨ a = (P + 9) ∨ (a = (P + 7) ∧ j = 4) ∨ a = (P + 8)) → c2 a j = c a j) → (-2147483648) ≤ y ∧ y ≤ 2147483647 → Z (.inl (some (vi y)), Wd P Q P P c2, 0, 0)) : Wp sc (d + 34) 85 0 [(0, .ref 0), (1, vi a1)] [] (Wd P Q P P c) 0 0 Z := by
  have hP := iv_P hI
  have hQ := iv_Q hI
  refine q_aload_n rfl rfl ?_
  refine q_iload_n rfl rfl ?_
  refine v_sip rfl (by decide) ?_
  refine v_cv rfl rfl rfl rfl (by decide) ⟨⟨rfl, rfl⟩, by decide, rfl⟩ (Nat.le_of_ble_eq_true rfl) (Nat.le_of_ble_eq_true rfl) ?_
  refine q_aload_n rfl rfl ?_
  refine q_iload_n rfl rfl ?_
  refine q_iconst rfl ?_
  refine q_iload_n rfl rfl ?_
  refine q_aload_n rfl rfl ?_
  refine v_gr (t := 1) rfl rfl rfl (by decide) rfl ?_
  have h_1 := ir_1_3 hI
  refine v_gi (z := 3) (v := c 1 3) rfl rfl rfl (by decide) rfl rfl rfl ?_
  by_cases h_2 : 150 < c 1 3
  · skip
    refine v_min_l rfl rfl (by omega) (Nat.le_of_ble_eq_true rfl) (by omega) ?_
    refine q_call rfl rfl rfl rfl ?_
    refine q_iload_n rfl rfl ?_
    refine q_iload_n rfl rfl ?_
    by_cases h_3 : a1 < 0
    · refine v_ic_lt_t (t := 14) rfl (by decide) (by omega) ?_
      refine q_iconst rfl ?_
      refine v_zret rfl rfl (by omega) ?_
      refine bk_inl ?_
      refine v_cv rfl rfl rfl rfl (by decide) ⟨⟨rfl, rfl⟩, by decide, rfl⟩ (Nat.le_of_ble_eq_true rfl) (Nat.le_of_ble_eq_true rfl) ?_
      refine q_iload_n rfl rfl ?_
      refine v_if_ne_f (t := 25) rfl (by decide) (by decide) ?_
      refine q_aload_n rfl rfl ?_
      refine q_dup rfl rfl ?_
      have h_4 := ir_0_13 hI
      refine v_gi (z := 13) (v := c 0 13) rfl rfl rfl (by decide) rfl rfl rfl ?_
      refine q_iconst rfl ?_
      refine v_iadd (v := c 0 13 + 1) rfl (by omega) ?_
      refine v_nrm (fun y_5 hy_5 => ?_)
      refine v_pi (z := 13) rfl rfl rfl (by decide) rfl rfl rfl (by decide) ?_
      refine v_new rfl rfl (by decide) (by omega) (Nat.le_of_ble_eq_true rfl) (by decide) rfl ?_
      refine bk_out rfl rfl ?_
      refine bk_out rfl rfl ?_
      have hI_6 := iw_0_13 (v := y_5) hI ⟨by omega, by omega⟩
      exact T101 _ hI_6 (fun a j hm => up_b (by omega))
    · refine v_ic_lt_f (t := 14) rfl (by decide) (by omega) ?_
      refine q_iload_n rfl rfl ?_
      refine q_iload_n rfl rfl ?_
      by_cases h_7 : a1 > 150
      · refine v_ic_gt_t (t := 14) rfl (by decide) (by omega) ?_
        refine q_iconst rfl ?_
        refine v_zret rfl rfl (by omega) ?_
        refine bk_inl ?_
        refine v_cv rfl rfl rfl rfl (by decide) ⟨⟨rfl, rfl⟩, by decide, rfl⟩ (Nat.le_of_ble_eq_true rfl) (Nat.le_of_ble_eq_true rfl) ?_
        refine q_iload_n rfl rfl ?_
        refine v_if_ne_f (t := 25) rfl (by decide) (by decide) ?_
        refine q_aload_n rfl rfl ?_
        refine q_dup rfl rfl ?_
        have h_8 := ir_0_13 hI
        refine v_gi (z := 13) (v := c 0 13) rfl rfl rfl (by decide) rfl rfl rfl ?_
        refine q_iconst rfl ?_
        refine v_iadd (v := c 0 13 + 1) rfl (by omega) ?_
        refine v_nrm (fun y_9 hy_9 => ?_)
        refine v_pi (z := 13) rfl rfl rfl (by decide) rfl rfl rfl (by decide) ?_
        refine v_new rfl rfl (by decide) (by omega) (Nat.le_of_ble_eq_true rfl) (by decide) rfl ?_
        refine bk_out rfl rfl ?_
        refine bk_out rfl rfl ?_
        have hI_10 := iw_0_13 (v := y_9) hI ⟨by omega, by omega⟩
        exact T101 _ hI_10 (fun a j hm => up_b (by omega))
      · refine v_ic_gt_f (t := 14) rfl (by decide) (by omega) ?_
        refine q_iconst rfl ?_
        refine q_goto (t := 15) rfl (by decide) ?_
        refine v_zret rfl rfl (by omega) ?_
        refine bk_inl ?_
        refine v_cv rfl rfl rfl rfl (by decide) ⟨⟨rfl, rfl⟩, by decide, rfl⟩ (Nat.le_of_ble_eq_true rfl) (Nat.le_of_ble_eq_true rfl) ?_
        refine q_iload_n rfl rfl ?_
        refine v_if_ne_t (t := 25) rfl (by decide) (by decide) ?_
        refine q_vret rfl rfl ?_
        refine bk_inl ?_
        refine q_aload_n rfl rfl ?_
        refine v_gr (t := 1) rfl rfl rfl (by decide) rfl ?_
        refine q_iload_n rfl rfl ?_
        refine v_cv rfl rfl rfl rfl (by decide) ⟨⟨rfl, rfl⟩, by decide, rfl⟩ (Nat.le_of_ble_eq_true rfl) (Nat.le_of_ble_eq_true rfl) (s_74 (a1 := a1) hI (show 0 ≤ a1 ∧ a1 ≤ 600 from by omega) (fun c_11 hI_12 hF_13 h_14 => ?_))
        refine bk_inl ?_
        have h_15 := ir_1_3 hI_12
        refine q_vret rfl rfl ?_
        refine bk_inl ?_
        refine q_aload_n rfl rfl ?_
        refine v_gr (t := P) rfl rfl rfl (by decide) rfl ?_
        refine v_gr (t := (P + 7)) rfl rfl (ck_p0 hP) (by omega) rfl ?_
        refine q_aload_n rfl rfl ?_
        refine v_gr (t := 1) rfl rfl rfl (by decide) rfl ?_
        refine v_cv rfl rfl rfl (ck_p7 hP) (by omega) ⟨⟨rfl, rfl⟩, by decide, rfl⟩ (Nat.le_of_ble_eq_true rfl) (Nat.le_of_ble_eq_true rfl) (s_17 hI_12 hP (fun c_16 hI_17 hF_18 => ?_))
        refine bk_inl ?_
        refine q_aload_n rfl rfl ?_
        refine q_iconst rfl ?_
        refine v_cv rfl rfl rfl rfl (by decide) ⟨⟨rfl, rfl⟩, by decide, rfl⟩ (Nat.le_of_ble_eq_true rfl) (Nat.le_of_ble_eq_true rfl) ?_
        refine q_aload_n rfl rfl ?_
        refine v_gr (t := 1) rfl rfl rfl (by decide) rfl ?_
        refine v_cv rfl rfl rfl rfl (by decide) ⟨⟨rfl, rfl⟩, by decide, rfl⟩ (Nat.le_of_ble_eq_true rfl) (Nat.le_of_ble_eq_true rfl) ?_
        refine q_aload_n rfl rfl ?_
        have h_19 := ir_1_4 hI_17
        refine v_gi (z := 4) (v := c_16 1 4) rfl rfl rfl (by decide) rfl rfl rfl ?_
        by_cases h_20 : c_16 1 4 ≠ 0
        · refine v_if_ne_t (t := 11) rfl (by decide) (by omega) ?_
          refine q_iconst rfl ?_
          refine v_zret rfl rfl (by omega) ?_
          refine bk_inl ?_
          refine v_if_eq_t (t := 14) rfl (by decide) (by decide) ?_
          refine q_aload_n rfl rfl ?_
          refine v_gr (t := 1) rfl rfl rfl (by decide) rfl ?_
          refine v_gi (z := 4) (v := c_16 1 4) rfl rfl rfl (by decide) rfl rfl rfl ?_
          refine v_bip rfl (by decide) ?_
          refine v_isub (v := c_16 1 4 - 10) rfl (by omega) ?_
          refine q_iret rfl rfl ?_
          refine bk_inl ?_
          refine q_iret rfl rfl ?_
          exact K c_16 (c_16 1 4 - 10) hI_17 (fun a j hm => (hF_18 a j (by omega)).trans (hF_13 a j (by omega))) ⟨by omega, by omega⟩
        · refine v_if_ne_f (t := 11) rfl (by decide) (by omega) ?_
          refine q_iconst rfl ?_
          refine q_goto (t := 12) rfl (by decide) ?_
          refine v_zret rfl rfl (by omega) ?_
          refine bk_inl ?_
          refine v_if_eq_f (t := 14) rfl (by decide) (by decide) ?_
          refine q_iload_n rfl rfl ?_
          refine q_goto (t := 24) rfl (by decide) ?_
          refine q_iret rfl rfl ?_
          refine bk_inl ?_
          refine q_iret rfl rfl ?_
          exact K c_16 1 hI_17 (fun a j hm => (hF_18 a j (by omega)).trans (hF_13 a j (by omega))) ⟨by decide, by decide⟩
  · skip
    refine v_min_g rfl rfl (by omega) (Nat.le_of_ble_eq_true rfl) (by omega) ?_
    refine q_call rfl rfl rfl rfl ?_
    refine q_iload_n rfl rfl ?_
    refine q_iload_n rfl rfl ?_
    by_cases h_21 : a1 < 0
    · refine v_ic_lt_t (t := 14) rfl (by decide) (by omega) ?_
      refine q_iconst rfl ?_
      refine v_zret rfl rfl (by omega) ?_
      refine bk_inl ?_
      refine v_cv rfl rfl rfl rfl (by decide) ⟨⟨rfl, rfl⟩, by decide, rfl⟩ (Nat.le_of_ble_eq_true rfl) (Nat.le_of_ble_eq_true rfl) ?_
      refine q_iload_n rfl rfl ?_
      refine v_if_ne_f (t := 25) rfl (by decide) (by decide) ?_
      refine q_aload_n rfl rfl ?_
      refine q_dup rfl rfl ?_
      have h_22 := ir_0_13 hI
      refine v_gi (z := 13) (v := c 0 13) rfl rfl rfl (by decide) rfl rfl rfl ?_
      refine q_iconst rfl ?_
      refine v_iadd (v := c 0 13 + 1) rfl (by omega) ?_
      refine v_nrm (fun y_23 hy_23 => ?_)
      refine v_pi (z := 13) rfl rfl rfl (by decide) rfl rfl rfl (by decide) ?_
      refine v_new rfl rfl (by decide) (by omega) (Nat.le_of_ble_eq_true rfl) (by decide) rfl ?_
      refine bk_out rfl rfl ?_
      refine bk_out rfl rfl ?_
      have hI_24 := iw_0_13 (v := y_23) hI ⟨by omega, by omega⟩
      exact T101 _ hI_24 (fun a j hm => up_b (by omega))
    · refine v_ic_lt_f (t := 14) rfl (by decide) (by omega) ?_
      refine q_iload_n rfl rfl ?_
      refine q_iload_n rfl rfl ?_
      by_cases h_25 : a1 > c 1 3
      · refine v_ic_gt_t (t := 14) rfl (by decide) (by omega) ?_
        refine q_iconst rfl ?_
        refine v_zret rfl rfl (by omega) ?_
        refine bk_inl ?_
        refine v_cv rfl rfl rfl rfl (by decide) ⟨⟨rfl, rfl⟩, by decide, rfl⟩ (Nat.le_of_ble_eq_true rfl) (Nat.le_of_ble_eq_true rfl) ?_
        refine q_iload_n rfl rfl ?_
        refine v_if_ne_f (t := 25) rfl (by decide) (by decide) ?_
        refine q_aload_n rfl rfl ?_
        refine q_dup rfl rfl ?_
        have h_26 := ir_0_13 hI
        refine v_gi (z := 13) (v := c 0 13) rfl rfl rfl (by decide) rfl rfl rfl ?_
        refine q_iconst rfl ?_
        refine v_iadd (v := c 0 13 + 1) rfl (by omega) ?_
        refine v_nrm (fun y_27 hy_27 => ?_)
        refine v_pi (z := 13) rfl rfl rfl (by decide) rfl rfl rfl (by decide) ?_
        refine v_new rfl rfl (by decide) (by omega) (Nat.le_of_ble_eq_true rfl) (by decide) rfl ?_
        refine bk_out rfl rfl ?_
        refine bk_out rfl rfl ?_
        have hI_28 := iw_0_13 (v := y_27) hI ⟨by omega, by omega⟩
        exact T101 _ hI_28 (fun a j hm => up_b (by omega))
      · refine v_ic_gt_f (t := 14) rfl (by decide) (by omega) ?_
        refine q_iconst rfl ?_
        refine q_goto (t := 15) rfl (by decide) ?_
        refine v_zret rfl rfl (by omega) ?_
        refine bk_inl ?_
        refine v_cv rfl rfl rfl rfl (by decide) ⟨⟨rfl, rfl⟩, by decide, rfl⟩ (Nat.le_of_ble_eq_true rfl) (Nat.le_of_ble_eq_true rfl) ?_
        refine q_iload_n rfl rfl ?_
        refine v_if_ne_t (t := 25) rfl (by decide) (by decide) ?_
        refine q_vret rfl rfl ?_
        refine bk_inl ?_
        refine q_aload_n rfl rfl ?_
        refine v_gr (t := 1) rfl rfl rfl (by decide) rfl ?_
        refine q_iload_n rfl rfl ?_
        refine v_cv rfl rfl rfl rfl (by decide) ⟨⟨rfl, rfl⟩, by decide, rfl⟩ (Nat.le_of_ble_eq_true rfl) (Nat.le_of_ble_eq_true rfl) (s_74 (a1 := a1) hI (show 0 ≤ a1 ∧ a1 ≤ 600 from by omega) (fun c_29 hI_30 hF_31 h_32 => ?_))
        refine bk_inl ?_
        have h_33 := ir_1_3 hI_30
        refine q_vret rfl rfl ?_
        refine bk_inl ?_
        refine q_aload_n rfl rfl ?_
        refine v_gr (t := P) rfl rfl rfl (by decide) rfl ?_
        refine v_gr (t := (P + 7)) rfl rfl (ck_p0 hP) (by omega) rfl ?_
        refine q_aload_n rfl rfl ?_
        refine v_gr (t := 1) rfl rfl rfl (by decide) rfl ?_
        refine v_cv rfl rfl rfl (ck_p7 hP) (by omega) ⟨⟨rfl, rfl⟩, by decide, rfl⟩ (Nat.le_of_ble_eq_true rfl) (Nat.le_of_ble_eq_true rfl) (s_17 hI_30 hP (fun c_34 hI_35 hF_36 => ?_))
        refine bk_inl ?_
        refine q_aload_n rfl rfl ?_
        refine q_iconst rfl ?_
        refine v_cv rfl rfl rfl rfl (by decide) ⟨⟨rfl, rfl⟩, by decide, rfl⟩ (Nat.le_of_ble_eq_true rfl) (Nat.le_of_ble_eq_true rfl) ?_
        refine q_aload_n rfl rfl ?_
        refine v_gr (t := 1) rfl rfl rfl (by decide) rfl ?_
        refine v_cv rfl rfl rfl rfl (by decide) ⟨⟨rfl, rfl⟩, by decide, rfl⟩ (Nat.le_of_ble_eq_true rfl) (Nat.le_of_ble_eq_true rfl) ?_
        refine q_aload_n rfl rfl ?_
        have h_37 := ir_1_4 hI_35
        refine v_gi (z := 4) (v := c_34 1 4) rfl rfl rfl (by decide) rfl rfl rfl ?_
        by_cases h_38 : c_34 1 4 ≠ 0
        · refine v_if_ne_t (t := 11) rfl (by decide) (by omega) ?_
          refine q_iconst rfl ?_
          refine v_zret rfl rfl (by omega) ?_
          refine bk_inl ?_
          refine v_if_eq_t (t := 14) rfl (by decide) (by decide) ?_
          refine q_aload_n rfl rfl ?_
          refine v_gr (t := 1) rfl rfl rfl (by decide) rfl ?_
          refine v_gi (z := 4) (v := c_34 1 4) rfl rfl rfl (by decide) rfl rfl rfl ?_
          refine v_bip rfl (by decide) ?_
          refine v_isub (v := c_34 1 4 - 10) rfl (by omega) ?_
          refine q_iret rfl rfl ?_
          refine bk_inl ?_
          refine q_iret rfl rfl ?_
          exact K c_34 (c_34 1 4 - 10) hI_35 (fun a j hm => (hF_36 a j (by omega)).trans (hF_31 a j (by omega))) ⟨by omega, by omega⟩
        · refine v_if_ne_f (t := 11) rfl (by decide) (by omega) ?_
          refine q_iconst rfl ?_
          refine q_goto (t := 12) rfl (by decide) ?_
          refine v_zret rfl rfl (by omega) ?_
          refine bk_inl ?_
          refine v_if_eq_f (t := 14) rfl (by decide) (by decide) ?_
          refine q_iload_n rfl rfl ?_
          refine q_goto (t := 24) rfl (by decide) ?_
          refine q_iret rfl rfl ?_
          refine bk_inl ?_
          refine q_iret rfl rfl ?_
          exact K c_34 1 hI_35 (fun a j hm => (hF_36 a j (by omega)).trans (hF_31 a j (by omega))) ⟨by decide, by decide⟩

set_option maxRecDepth 100000 in
set_option maxHeartbeats 4000000 in
theorem s_87 {sc : List Int32} {e : Int} {d u P Q : Nat} {c : ME} {a1 : Int} {Z : AR → Prop} (hI : Iv u e P Q c) (ha1 : (-2147483648) ≤ a1 ∧ a1 ≤ 2147483647) (T101 : ∀ c2 : ME, Iv u e P Q c2 → (∀ (a : Nat) (j : Int), ¬ ((a = 1 ∧ j = 1) ∨ (a = 1 ∧ j = 2) ∨ (a = 1 ∧ j = 3) ∨ (a = 1 ∧ j = 4) ∨ (a = 1 ∧ j = 5) ∨ (a = 0 ∧ j = 13) ∨ (a = P ∧ j = 4) ∨ a = (P + 4) ∨ a = (P + 5)) → c2 a j = c a j) → Z (.inr 101, Wd P Q P P c2, 1, 6)) (K : ∀ (c2 : ME) (y : Int), Iv u e P Q c2 → (∀ (a : Nat) (j : Int), ¬ ((a = 1 ∧ j = 1) ∨ (a = 1 ∧ j = 2) ∨ (a = 1 ∧ j = 3) ∨ (a = 1 ∧ j = 4) ∨ (a = 1 ∧ j = 5) ∨ (a = 0 ∧ j = 13) ∨ (a = P ∧ j = 4) ∨ a = (P + 4) ∨ a = (P + 5)) → c2 a j = c a j) → (-2147483648) ≤ y ∧ y ≤ 2147483647 → Z (.inl (some (vi y)), Wd P Q P P c2, 0, 0)) : Wp sc (d + 11) 87 0 [(0, .ref 0), (1, vi a1)] [] (Wd P Q P P c) 0 0 Z := by
  have hP := iv_P hI
  have hQ := iv_Q hI
  refine q_aload_n rfl rfl ?_
  refine q_iload_n rfl rfl ?_
  refine v_bip rfl (by decide) ?_
  refine v_cv rfl rfl rfl rfl (by decide) ⟨⟨rfl, rfl⟩, by decide, rfl⟩ (Nat.le_of_ble_eq_true rfl) (Nat.le_of_ble_eq_true rfl) ?_
  refine q_aload_n rfl rfl ?_
  refine q_iload_n rfl rfl ?_
  refine q_iconst rfl ?_
  refine q_iload_n rfl rfl ?_
  refine q_aload_n rfl rfl ?_
  refine v_gr (t := 1) rfl rfl rfl (by decide) rfl ?_
  have h_1 := ir_1_3 hI
  refine v_gi (z := 3) (v := c 1 3) rfl rfl rfl (by decide) rfl rfl rfl ?_
  by_cases h_2 : 60 < c 1 3
  · skip
    refine v_min_l rfl rfl (by omega) (Nat.le_of_ble_eq_true rfl) (by omega) ?_
    refine q_call rfl rfl rfl rfl ?_
    refine q_iload_n rfl rfl ?_
    refine q_iload_n rfl rfl ?_
    by_cases h_3 : a1 < 0
    · refine v_ic_lt_t (t := 14) rfl (by decide) (by omega) ?_
      refine q_iconst rfl ?_
      refine v_zret rfl rfl (by omega) ?_
      refine bk_inl ?_
      refine v_cv rfl rfl rfl rfl (by decide) ⟨⟨rfl, rfl⟩, by decide, rfl⟩ (Nat.le_of_ble_eq_true rfl) (Nat.le_of_ble_eq_true rfl) ?_
      refine q_iload_n rfl rfl ?_
      refine v_if_ne_f (t := 25) rfl (by decide) (by decide) ?_
      refine q_aload_n rfl rfl ?_
      refine q_dup rfl rfl ?_
      have h_4 := ir_0_13 hI
      refine v_gi (z := 13) (v := c 0 13) rfl rfl rfl (by decide) rfl rfl rfl ?_
      refine q_iconst rfl ?_
      refine v_iadd (v := c 0 13 + 1) rfl (by omega) ?_
      refine v_nrm (fun y_5 hy_5 => ?_)
      refine v_pi (z := 13) rfl rfl rfl (by decide) rfl rfl rfl (by decide) ?_
      refine v_new rfl rfl (by decide) (by omega) (Nat.le_of_ble_eq_true rfl) (by decide) rfl ?_
      refine bk_out rfl rfl ?_
      refine bk_out rfl rfl ?_
      have hI_6 := iw_0_13 (v := y_5) hI ⟨by omega, by omega⟩
      exact T101 _ hI_6 (fun a j hm => up_b (by omega))
    · refine v_ic_lt_f (t := 14) rfl (by decide) (by omega) ?_
      refine q_iload_n rfl rfl ?_
      refine q_iload_n rfl rfl ?_
      by_cases h_7 : a1 > 60
      · refine v_ic_gt_t (t := 14) rfl (by decide) (by omega) ?_
        refine q_iconst rfl ?_
        refine v_zret rfl rfl (by omega) ?_
        refine bk_inl ?_
        refine v_cv rfl rfl rfl rfl (by decide) ⟨⟨rfl, rfl⟩, by decide, rfl⟩ (Nat.le_of_ble_eq_true rfl) (Nat.le_of_ble_eq_true rfl) ?_
        refine q_iload_n rfl rfl ?_
        refine v_if_ne_f (t := 25) rfl (by decide) (by decide) ?_
        refine q_aload_n rfl rfl ?_
        refine q_dup rfl rfl ?_
        have h_8 := ir_0_13 hI
        refine v_gi (z := 13) (v := c 0 13) rfl rfl rfl (by decide) rfl rfl rfl ?_
        refine q_iconst rfl ?_
        refine v_iadd (v := c 0 13 + 1) rfl (by omega) ?_
        refine v_nrm (fun y_9 hy_9 => ?_)
        refine v_pi (z := 13) rfl rfl rfl (by decide) rfl rfl rfl (by decide) ?_
        refine v_new rfl rfl (by decide) (by omega) (Nat.le_of_ble_eq_true rfl) (by decide) rfl ?_
        refine bk_out rfl rfl ?_
        refine bk_out rfl rfl ?_
        have hI_10 := iw_0_13 (v := y_9) hI ⟨by omega, by omega⟩
        exact T101 _ hI_10 (fun a j hm => up_b (by omega))
      · refine v_ic_gt_f (t := 14) rfl (by decide) (by omega) ?_
        refine q_iconst rfl ?_
        refine q_goto (t := 15) rfl (by decide) ?_
        refine v_zret rfl rfl (by omega) ?_
        refine bk_inl ?_
        refine v_cv rfl rfl rfl rfl (by decide) ⟨⟨rfl, rfl⟩, by decide, rfl⟩ (Nat.le_of_ble_eq_true rfl) (Nat.le_of_ble_eq_true rfl) ?_
        refine q_iload_n rfl rfl ?_
        refine v_if_ne_t (t := 25) rfl (by decide) (by decide) ?_
        refine q_vret rfl rfl ?_
        refine bk_inl ?_
        refine q_aload_n rfl rfl ?_
        refine v_gr (t := 1) rfl rfl rfl (by decide) rfl ?_
        refine q_iload_n rfl rfl ?_
        refine v_cv rfl rfl rfl rfl (by decide) ⟨⟨rfl, rfl⟩, by decide, rfl⟩ (Nat.le_of_ble_eq_true rfl) (Nat.le_of_ble_eq_true rfl) (s_74 (a1 := a1) hI (show 0 ≤ a1 ∧ a1 ≤ 600 from by omega) (fun c_11 hI_12 hF_13 h_14 => ?_))
        refine bk_inl ?_
        have h_15 := ir_1_3 hI_12
        refine q_vret rfl rfl ?_
        refine bk_inl ?_
        refine q_aload_n rfl rfl ?_
        refine v_gr (t := P) rfl rfl rfl (by decide) rfl ?_
        refine q_aload_n rfl rfl ?_
        refine v_gr (t := 1) rfl rfl rfl (by decide) rfl ?_
        refine v_cv rfl rfl rfl (ck_p0 hP) (by omega) ⟨⟨rfl, rfl⟩, by decide, rfl⟩ (Nat.le_of_ble_eq_true rfl) (Nat.le_of_ble_eq_true rfl) (s_35 hI_12 hP (fun c_16 hI_17 hF_18 => ?_))
        refine bk_inl ?_
        refine q_aload_n rfl rfl ?_
        refine q_aload_n rfl rfl ?_
        refine v_gr (t := P) rfl rfl rfl (by decide) rfl ?_
        have h_19 := ir_p0_4 hI_17 hP
        refine v_gi (z := 4) (v := c_16 P 4) rfl rfl (ck_p0 hP) (by omega) rfl rfl rfl ?_
        refine v_cv rfl rfl rfl rfl (by decide) ⟨⟨rfl, rfl⟩, by decide, rfl⟩ (Nat.le_of_ble_eq_true rfl) (Nat.le_of_ble_eq_true rfl) ?_
        refine q_aload_n rfl rfl ?_
        refine v_gr (t := 1) rfl rfl rfl (by decide) rfl ?_
        refine v_cv rfl rfl rfl rfl (by decide) ⟨⟨rfl, rfl⟩, by decide, rfl⟩ (Nat.le_of_ble_eq_true rfl) (Nat.le_of_ble_eq_true rfl) ?_
        refine q_aload_n rfl rfl ?_
        have h_20 := ir_1_4 hI_17
        refine v_gi (z := 4) (v := c_16 1 4) rfl rfl rfl (by decide) rfl rfl rfl ?_
        by_cases h_21 : c_16 1 4 ≠ 0
        · refine v_if_ne_t (t := 11) rfl (by decide) (by omega) ?_
          refine q_iconst rfl ?_
          refine v_zret rfl rfl (by omega) ?_
          refine bk_inl ?_
          refine v_if_eq_t (t := 14) rfl (by decide) (by decide) ?_
          refine q_aload_n rfl rfl ?_
          refine v_gr (t := 1) rfl rfl rfl (by decide) rfl ?_
          refine v_gi (z := 4) (v := c_16 1 4) rfl rfl rfl (by decide) rfl rfl rfl ?_
          refine v_bip rfl (by decide) ?_
          refine v_isub (v := c_16 1 4 - 10) rfl (by omega) ?_
          refine q_iret rfl rfl ?_
          refine bk_inl ?_
          refine q_iret rfl rfl ?_
          exact K c_16 (c_16 1 4 - 10) hI_17 (fun a j hm => (hF_18 a j (by omega)).trans (hF_13 a j (by omega))) ⟨by omega, by omega⟩
        · refine v_if_ne_f (t := 11) rfl (by decide) (by omega) ?_
          refine q_iconst rfl ?_
          refine q_goto (t := 12) rfl (by decide) ?_
          refine v_zret rfl rfl (by omega) ?_
          refine bk_inl ?_
          refine v_if_eq_f (t := 14) rfl (by decide) (by decide) ?_
          refine q_iload_n rfl rfl ?_
          refine q_goto (t := 24) rfl (by decide) ?_
          refine q_iret rfl rfl ?_
          refine bk_inl ?_
          refine q_iret rfl rfl ?_
          exact K c_16 (c_16 P 4) hI_17 (fun a j hm => (hF_18 a j (by omega)).trans (hF_13 a j (by omega))) ⟨by omega, by omega⟩
  · skip
    refine v_min_g rfl rfl (by omega) (Nat.le_of_ble_eq_true rfl) (by omega) ?_
    refine q_call rfl rfl rfl rfl ?_
    refine q_iload_n rfl rfl ?_
    refine q_iload_n rfl rfl ?_
    by_cases h_22 : a1 < 0
    · refine v_ic_lt_t (t := 14) rfl (by decide) (by omega) ?_
      refine q_iconst rfl ?_
      refine v_zret rfl rfl (by omega) ?_
      refine bk_inl ?_
      refine v_cv rfl rfl rfl rfl (by decide) ⟨⟨rfl, rfl⟩, by decide, rfl⟩ (Nat.le_of_ble_eq_true rfl) (Nat.le_of_ble_eq_true rfl) ?_
      refine q_iload_n rfl rfl ?_
      refine v_if_ne_f (t := 25) rfl (by decide) (by decide) ?_
      refine q_aload_n rfl rfl ?_
      refine q_dup rfl rfl ?_
      have h_23 := ir_0_13 hI
      refine v_gi (z := 13) (v := c 0 13) rfl rfl rfl (by decide) rfl rfl rfl ?_
      refine q_iconst rfl ?_
      refine v_iadd (v := c 0 13 + 1) rfl (by omega) ?_
      refine v_nrm (fun y_24 hy_24 => ?_)
      refine v_pi (z := 13) rfl rfl rfl (by decide) rfl rfl rfl (by decide) ?_
      refine v_new rfl rfl (by decide) (by omega) (Nat.le_of_ble_eq_true rfl) (by decide) rfl ?_
      refine bk_out rfl rfl ?_
      refine bk_out rfl rfl ?_
      have hI_25 := iw_0_13 (v := y_24) hI ⟨by omega, by omega⟩
      exact T101 _ hI_25 (fun a j hm => up_b (by omega))
    · refine v_ic_lt_f (t := 14) rfl (by decide) (by omega) ?_
      refine q_iload_n rfl rfl ?_
      refine q_iload_n rfl rfl ?_
      by_cases h_26 : a1 > c 1 3
      · refine v_ic_gt_t (t := 14) rfl (by decide) (by omega) ?_
        refine q_iconst rfl ?_
        refine v_zret rfl rfl (by omega) ?_
        refine bk_inl ?_
        refine v_cv rfl rfl rfl rfl (by decide) ⟨⟨rfl, rfl⟩, by decide, rfl⟩ (Nat.le_of_ble_eq_true rfl) (Nat.le_of_ble_eq_true rfl) ?_
        refine q_iload_n rfl rfl ?_
        refine v_if_ne_f (t := 25) rfl (by decide) (by decide) ?_
        refine q_aload_n rfl rfl ?_
        refine q_dup rfl rfl ?_
        have h_27 := ir_0_13 hI
        refine v_gi (z := 13) (v := c 0 13) rfl rfl rfl (by decide) rfl rfl rfl ?_
        refine q_iconst rfl ?_
        refine v_iadd (v := c 0 13 + 1) rfl (by omega) ?_
        refine v_nrm (fun y_28 hy_28 => ?_)
        refine v_pi (z := 13) rfl rfl rfl (by decide) rfl rfl rfl (by decide) ?_
        refine v_new rfl rfl (by decide) (by omega) (Nat.le_of_ble_eq_true rfl) (by decide) rfl ?_
        refine bk_out rfl rfl ?_
        refine bk_out rfl rfl ?_
        have hI_29 := iw_0_13 (v := y_28) hI ⟨by omega, by omega⟩
        exact T101 _ hI_29 (fun a j hm => up_b (by omega))
      · refine v_ic_gt_f (t := 14) rfl (by decide) (by omega) ?_
        refine q_iconst rfl ?_
        refine q_goto (t := 15) rfl (by decide) ?_
        refine v_zret rfl rfl (by omega) ?_
        refine bk_inl ?_
        refine v_cv rfl rfl rfl rfl (by decide) ⟨⟨rfl, rfl⟩, by decide, rfl⟩ (Nat.le_of_ble_eq_true rfl) (Nat.le_of_ble_eq_true rfl) ?_
        refine q_iload_n rfl rfl ?_
        refine v_if_ne_t (t := 25) rfl (by decide) (by decide) ?_
        refine q_vret rfl rfl ?_
        refine bk_inl ?_
        refine q_aload_n rfl rfl ?_
        refine v_gr (t := 1) rfl rfl rfl (by decide) rfl ?_
        refine q_iload_n rfl rfl ?_
        refine v_cv rfl rfl rfl rfl (by decide) ⟨⟨rfl, rfl⟩, by decide, rfl⟩ (Nat.le_of_ble_eq_true rfl) (Nat.le_of_ble_eq_true rfl) (s_74 (a1 := a1) hI (show 0 ≤ a1 ∧ a1 ≤ 600 from by omega) (fun c_30 hI_31 hF_32 h_33 => ?_))
        refine bk_inl ?_
        have h_34 := ir_1_3 hI_31
        refine q_vret rfl rfl ?_
        refine bk_inl ?_
        refine q_aload_n rfl rfl ?_
        refine v_gr (t := P) rfl rfl rfl (by decide) rfl ?_
        refine q_aload_n rfl rfl ?_
        refine v_gr (t := 1) rfl rfl rfl (by decide) rfl ?_
        refine v_cv rfl rfl rfl (ck_p0 hP) (by omega) ⟨⟨rfl, rfl⟩, by decide, rfl⟩ (Nat.le_of_ble_eq_true rfl) (Nat.le_of_ble_eq_true rfl) (s_35 hI_31 hP (fun c_35 hI_36 hF_37 => ?_))
        refine bk_inl ?_
        refine q_aload_n rfl rfl ?_
        refine q_aload_n rfl rfl ?_
        refine v_gr (t := P) rfl rfl rfl (by decide) rfl ?_
        have h_38 := ir_p0_4 hI_36 hP
        refine v_gi (z := 4) (v := c_35 P 4) rfl rfl (ck_p0 hP) (by omega) rfl rfl rfl ?_
        refine v_cv rfl rfl rfl rfl (by decide) ⟨⟨rfl, rfl⟩, by decide, rfl⟩ (Nat.le_of_ble_eq_true rfl) (Nat.le_of_ble_eq_true rfl) ?_
        refine q_aload_n rfl rfl ?_
        refine v_gr (t := 1) rfl rfl rfl (by decide) rfl ?_
        refine v_cv rfl rfl rfl rfl (by decide) ⟨⟨rfl, rfl⟩, by decide, rfl⟩ (Nat.le_of_ble_eq_true rfl) (Nat.le_of_ble_eq_true rfl) ?_
        refine q_aload_n rfl rfl ?_
        have h_39 := ir_1_4 hI_36
        refine v_gi (z := 4) (v := c_35 1 4) rfl rfl rfl (by decide) rfl rfl rfl ?_
        by_cases h_40 : c_35 1 4 ≠ 0
        · refine v_if_ne_t (t := 11) rfl (by decide) (by omega) ?_
          refine q_iconst rfl ?_
          refine v_zret rfl rfl (by omega) ?_
          refine bk_inl ?_
          refine v_if_eq_t (t := 14) rfl (by decide) (by decide) ?_
          refine q_aload_n rfl rfl ?_
          refine v_gr (t := 1) rfl rfl rfl (by decide) rfl ?_
          refine v_gi (z := 4) (v := c_35 1 4) rfl rfl rfl (by decide) rfl rfl rfl ?_
          refine v_bip rfl (by decide) ?_
          refine v_isub (v := c_35 1 4 - 10) rfl (by omega) ?_
          refine q_iret rfl rfl ?_
          refine bk_inl ?_
          refine q_iret rfl rfl ?_
          exact K c_35 (c_35 1 4 - 10) hI_36 (fun a j hm => (hF_37 a j (by omega)).trans (hF_32 a j (by omega))) ⟨by omega, by omega⟩
        · refine v_if_ne_f (t := 11) rfl (by decide) (by omega) ?_
          refine q_iconst rfl ?_
          refine q_goto (t := 12) rfl (by decide) ?_
          refine v_zret rfl rfl (by omega) ?_
          refine bk_inl ?_
          refine v_if_eq_f (t := 14) rfl (by decide) (by decide) ?_
          refine q_iload_n rfl rfl ?_
          refine q_goto (t := 24) rfl (by decide) ?_
          refine q_iret rfl rfl ?_
          refine bk_inl ?_
          refine q_iret rfl rfl ?_
          exact K c_35 (c_35 P 4) hI_36 (fun a j hm => (hF_37 a j (by omega)).trans (hF_32 a j (by omega))) ⟨by omega, by omega⟩

set_option maxRecDepth 100000 in
set_option maxHeartbeats 4000000 in
theorem s_88 {sc : List Int32} {e : Int} {d u P Q : Nat} {c : ME} {a1 : Int} {Z : AR → Prop} (hI : Iv u e P Q c) (ha1 : (-2147483648) ≤ a1 ∧ a1 ≤ 2147483647) (T101 : ∀ c2 : ME, Iv u e P Q c2 → (∀ (a : Nat) (j : Int), ¬ ((a = 1 ∧ j = 1) ∨ (a = 1 ∧ j = 2) ∨ (a = 1 ∧ j = 3) ∨ (a = 1 ∧ j = 4) ∨ (a = 1 ∧ j = 5) ∨ (a = 0 ∧ j = 13) ∨ (a = P ∧ j = 5) ∨ a = (P + 5) ∨ a = (P + 6)) → c2 a j = c a j) → Z (.inr 101, Wd P Q P P c2, 1, 6)) (K : ∀ (c2 : ME) (y : Int), Iv u e P Q c2 → (∀ (a : Nat) (j : Int), ¬ ((a = 1 ∧ j = 1) ∨ (a = 1 ∧ j = 2) ∨ (a = 1 ∧ j = 3) ∨ (a = 1 ∧ j = 4) ∨ (a = 1 ∧ j = 5) ∨ (a = 0 ∧ j = 13) ∨ (a = P ∧ j = 5) ∨ a = (P + 5) ∨ a = (P + 6)) → c2 a j = c a j) → (-2147483648) ≤ y ∧ y ≤ 2147483647 → Z (.inl (some (vi y)), Wd P Q P P c2, 0, 0)) : Wp sc (d + 11) 88 0 [(0, .ref 0), (1, vi a1)] [] (Wd P Q P P c) 0 0 Z := by
  have hP := iv_P hI
  have hQ := iv_Q hI
  refine q_aload_n rfl rfl ?_
  refine q_iload_n rfl rfl ?_
  refine v_bip rfl (by decide) ?_
  refine v_cv rfl rfl rfl rfl (by decide) ⟨⟨rfl, rfl⟩, by decide, rfl⟩ (Nat.le_of_ble_eq_true rfl) (Nat.le_of_ble_eq_true rfl) ?_
  refine q_aload_n rfl rfl ?_
  refine q_iload_n rfl rfl ?_
  refine q_iconst rfl ?_
  refine q_iload_n rfl rfl ?_
  refine q_aload_n rfl rfl ?_
  refine v_gr (t := 1) rfl rfl rfl (by decide) rfl ?_
  have h_1 := ir_1_3 hI
  refine v_gi (z := 3) (v := c 1 3) rfl rfl rfl (by decide) rfl rfl rfl ?_
  by_cases h_2 : 60 < c 1 3
  · skip
    refine v_min_l rfl rfl (by omega) (Nat.le_of_ble_eq_true rfl) (by omega) ?_
    refine q_call rfl rfl rfl rfl ?_
    refine q_iload_n rfl rfl ?_
    refine q_iload_n rfl rfl ?_
    by_cases h_3 : a1 < 0
    · refine v_ic_lt_t (t := 14) rfl (by decide) (by omega) ?_
      refine q_iconst rfl ?_
      refine v_zret rfl rfl (by omega) ?_
      refine bk_inl ?_
      refine v_cv rfl rfl rfl rfl (by decide) ⟨⟨rfl, rfl⟩, by decide, rfl⟩ (Nat.le_of_ble_eq_true rfl) (Nat.le_of_ble_eq_true rfl) ?_
      refine q_iload_n rfl rfl ?_
      refine v_if_ne_f (t := 25) rfl (by decide) (by decide) ?_
      refine q_aload_n rfl rfl ?_
      refine q_dup rfl rfl ?_
      have h_4 := ir_0_13 hI
      refine v_gi (z := 13) (v := c 0 13) rfl rfl rfl (by decide) rfl rfl rfl ?_
      refine q_iconst rfl ?_
      refine v_iadd (v := c 0 13 + 1) rfl (by omega) ?_
      refine v_nrm (fun y_5 hy_5 => ?_)
      refine v_pi (z := 13) rfl rfl rfl (by decide) rfl rfl rfl (by decide) ?_
      refine v_new rfl rfl (by decide) (by omega) (Nat.le_of_ble_eq_true rfl) (by decide) rfl ?_
      refine bk_out rfl rfl ?_
      refine bk_out rfl rfl ?_
      have hI_6 := iw_0_13 (v := y_5) hI ⟨by omega, by omega⟩
      exact T101 _ hI_6 (fun a j hm => up_b (by omega))
    · refine v_ic_lt_f (t := 14) rfl (by decide) (by omega) ?_
      refine q_iload_n rfl rfl ?_
      refine q_iload_n rfl rfl ?_
      by_cases h_7 : a1 > 60
      · refine v_ic_gt_t (t := 14) rfl (by decide) (by omega) ?_
        refine q_iconst rfl ?_
        refine v_zret rfl rfl (by omega) ?_
        refine bk_inl ?_
        refine v_cv rfl rfl rfl rfl (by decide) ⟨⟨rfl, rfl⟩, by decide, rfl⟩ (Nat.le_of_ble_eq_true rfl) (Nat.le_of_ble_eq_true rfl) ?_
        refine q_iload_n rfl rfl ?_
        refine v_if_ne_f (t := 25) rfl (by decide) (by decide) ?_
        refine q_aload_n rfl rfl ?_
        refine q_dup rfl rfl ?_
        have h_8 := ir_0_13 hI
        refine v_gi (z := 13) (v := c 0 13) rfl rfl rfl (by decide) rfl rfl rfl ?_
        refine q_iconst rfl ?_
        refine v_iadd (v := c 0 13 + 1) rfl (by omega) ?_
        refine v_nrm (fun y_9 hy_9 => ?_)
        refine v_pi (z := 13) rfl rfl rfl (by decide) rfl rfl rfl (by decide) ?_
        refine v_new rfl rfl (by decide) (by omega) (Nat.le_of_ble_eq_true rfl) (by decide) rfl ?_
        refine bk_out rfl rfl ?_
        refine bk_out rfl rfl ?_
        have hI_10 := iw_0_13 (v := y_9) hI ⟨by omega, by omega⟩
        exact T101 _ hI_10 (fun a j hm => up_b (by omega))
      · refine v_ic_gt_f (t := 14) rfl (by decide) (by omega) ?_
        refine q_iconst rfl ?_
        refine q_goto (t := 15) rfl (by decide) ?_
        refine v_zret rfl rfl (by omega) ?_
        refine bk_inl ?_
        refine v_cv rfl rfl rfl rfl (by decide) ⟨⟨rfl, rfl⟩, by decide, rfl⟩ (Nat.le_of_ble_eq_true rfl) (Nat.le_of_ble_eq_true rfl) ?_
        refine q_iload_n rfl rfl ?_
        refine v_if_ne_t (t := 25) rfl (by decide) (by decide) ?_
        refine q_vret rfl rfl ?_
        refine bk_inl ?_
        refine q_aload_n rfl rfl ?_
        refine v_gr (t := 1) rfl rfl rfl (by decide) rfl ?_
        refine q_iload_n rfl rfl ?_
        refine v_cv rfl rfl rfl rfl (by decide) ⟨⟨rfl, rfl⟩, by decide, rfl⟩ (Nat.le_of_ble_eq_true rfl) (Nat.le_of_ble_eq_true rfl) (s_74 (a1 := a1) hI (show 0 ≤ a1 ∧ a1 ≤ 600 from by omega) (fun c_11 hI_12 hF_13 h_14 => ?_))
        refine bk_inl ?_
        have h_15 := ir_1_3 hI_12
        refine q_vret rfl rfl ?_
        refine bk_inl ?_
        refine q_aload_n rfl rfl ?_
        refine v_gr (t := P) rfl rfl rfl (by decide) rfl ?_
        refine q_aload_n rfl rfl ?_
        refine v_gr (t := 1) rfl rfl rfl (by decide) rfl ?_
        refine v_cv rfl rfl rfl (ck_p0 hP) (by omega) ⟨⟨rfl, rfl⟩, by decide, rfl⟩ (Nat.le_of_ble_eq_true rfl) (Nat.le_of_ble_eq_true rfl) (s_36 hI_12 hP (fun c_16 hI_17 hF_18 => ?_))
        refine bk_inl ?_
        refine q_aload_n rfl rfl ?_
        refine q_aload_n rfl rfl ?_
        refine v_gr (t := P) rfl rfl rfl (by decide) rfl ?_
        have h_19 := ir_p0_5 hI_17 hP
        refine v_gi (z := 5) (v := c_16 P 5) rfl rfl (ck_p0 hP) (by omega) rfl rfl rfl ?_
        refine v_cv rfl rfl rfl rfl (by decide) ⟨⟨rfl, rfl⟩, by decide, rfl⟩ (Nat.le_of_ble_eq_true rfl) (Nat.le_of_ble_eq_true rfl) ?_
        refine q_aload_n rfl rfl ?_
        refine v_gr (t := 1) rfl rfl rfl (by decide) rfl ?_
        refine v_cv rfl rfl rfl rfl (by decide) ⟨⟨rfl, rfl⟩, by decide, rfl⟩ (Nat.le_of_ble_eq_true rfl) (Nat.le_of_ble_eq_true rfl) ?_
        refine q_aload_n rfl rfl ?_
        have h_20 := ir_1_4 hI_17
        refine v_gi (z := 4) (v := c_16 1 4) rfl rfl rfl (by decide) rfl rfl rfl ?_
        by_cases h_21 : c_16 1 4 ≠ 0
        · refine v_if_ne_t (t := 11) rfl (by decide) (by omega) ?_
          refine q_iconst rfl ?_
          refine v_zret rfl rfl (by omega) ?_
          refine bk_inl ?_
          refine v_if_eq_t (t := 14) rfl (by decide) (by decide) ?_
          refine q_aload_n rfl rfl ?_
          refine v_gr (t := 1) rfl rfl rfl (by decide) rfl ?_
          refine v_gi (z := 4) (v := c_16 1 4) rfl rfl rfl (by decide) rfl rfl rfl ?_
          refine v_bip rfl (by decide) ?_
          refine v_isub (v := c_16 1 4 - 10) rfl (by omega) ?_
          refine q_iret rfl rfl ?_
          refine bk_inl ?_
          refine q_iret rfl rfl ?_
          exact K c_16 (c_16 1 4 - 10) hI_17 (fun a j hm => (hF_18 a j (by omega)).trans (hF_13 a j (by omega))) ⟨by omega, by omega⟩
        · refine v_if_ne_f (t := 11) rfl (by decide) (by omega) ?_
          refine q_iconst rfl ?_
          refine q_goto (t := 12) rfl (by decide) ?_
          refine v_zret rfl rfl (by omega) ?_
          refine bk_inl ?_
          refine v_if_eq_f (t := 14) rfl (by decide) (by decide) ?_
          refine q_iload_n rfl rfl ?_
          refine q_goto (t := 24) rfl (by decide) ?_
          refine q_iret rfl rfl ?_
          refine bk_inl ?_
          refine q_iret rfl rfl ?_
          exact K c_16 (c_16 P 5) hI_17 (fun a j hm => (hF_18 a j (by omega)).trans (hF_13 a j (by omega))) ⟨by omega, by omega⟩
  · skip
    refine v_min_g rfl rfl (by omega) (Nat.le_of_ble_eq_true rfl) (by omega) ?_
    refine q_call rfl rfl rfl rfl ?_
    refine q_iload_n rfl rfl ?_
    refine q_iload_n rfl rfl ?_
    by_cases h_22 : a1 < 0
    · refine v_ic_lt_t (t := 14) rfl (by decide) (by omega) ?_
      refine q_iconst rfl ?_
      refine v_zret rfl rfl (by omega) ?_
      refine bk_inl ?_
      refine v_cv rfl rfl rfl rfl (by decide) ⟨⟨rfl, rfl⟩, by decide, rfl⟩ (Nat.le_of_ble_eq_true rfl) (Nat.le_of_ble_eq_true rfl) ?_
      refine q_iload_n rfl rfl ?_
      refine v_if_ne_f (t := 25) rfl (by decide) (by decide) ?_
      refine q_aload_n rfl rfl ?_
      refine q_dup rfl rfl ?_
      have h_23 := ir_0_13 hI
      refine v_gi (z := 13) (v := c 0 13) rfl rfl rfl (by decide) rfl rfl rfl ?_
      refine q_iconst rfl ?_
      refine v_iadd (v := c 0 13 + 1) rfl (by omega) ?_
      refine v_nrm (fun y_24 hy_24 => ?_)
      refine v_pi (z := 13) rfl rfl rfl (by decide) rfl rfl rfl (by decide) ?_
      refine v_new rfl rfl (by decide) (by omega) (Nat.le_of_ble_eq_true rfl) (by decide) rfl ?_
      refine bk_out rfl rfl ?_
      refine bk_out rfl rfl ?_
      have hI_25 := iw_0_13 (v := y_24) hI ⟨by omega, by omega⟩
      exact T101 _ hI_25 (fun a j hm => up_b (by omega))
    · refine v_ic_lt_f (t := 14) rfl (by decide) (by omega) ?_
      refine q_iload_n rfl rfl ?_
      refine q_iload_n rfl rfl ?_
      by_cases h_26 : a1 > c 1 3
      · refine v_ic_gt_t (t := 14) rfl (by decide) (by omega) ?_
        refine q_iconst rfl ?_
        refine v_zret rfl rfl (by omega) ?_
        refine bk_inl ?_
        refine v_cv rfl rfl rfl rfl (by decide) ⟨⟨rfl, rfl⟩, by decide, rfl⟩ (Nat.le_of_ble_eq_true rfl) (Nat.le_of_ble_eq_true rfl) ?_
        refine q_iload_n rfl rfl ?_
        refine v_if_ne_f (t := 25) rfl (by decide) (by decide) ?_
        refine q_aload_n rfl rfl ?_
        refine q_dup rfl rfl ?_
        have h_27 := ir_0_13 hI
        refine v_gi (z := 13) (v := c 0 13) rfl rfl rfl (by decide) rfl rfl rfl ?_
        refine q_iconst rfl ?_
        refine v_iadd (v := c 0 13 + 1) rfl (by omega) ?_
        refine v_nrm (fun y_28 hy_28 => ?_)
        refine v_pi (z := 13) rfl rfl rfl (by decide) rfl rfl rfl (by decide) ?_
        refine v_new rfl rfl (by decide) (by omega) (Nat.le_of_ble_eq_true rfl) (by decide) rfl ?_
        refine bk_out rfl rfl ?_
        refine bk_out rfl rfl ?_
        have hI_29 := iw_0_13 (v := y_28) hI ⟨by omega, by omega⟩
        exact T101 _ hI_29 (fun a j hm => up_b (by omega))
      · refine v_ic_gt_f (t := 14) rfl (by decide) (by omega) ?_
        refine q_iconst rfl ?_
        refine q_goto (t := 15) rfl (by decide) ?_
        refine v_zret rfl rfl (by omega) ?_
        refine bk_inl ?_
        refine v_cv rfl rfl rfl rfl (by decide) ⟨⟨rfl, rfl⟩, by decide, rfl⟩ (Nat.le_of_ble_eq_true rfl) (Nat.le_of_ble_eq_true rfl) ?_
        refine q_iload_n rfl rfl ?_
        refine v_if_ne_t (t := 25) rfl (by decide) (by decide) ?_
        refine q_vret rfl rfl ?_
        refine bk_inl ?_
        refine q_aload_n rfl rfl ?_
        refine v_gr (t := 1) rfl rfl rfl (by decide) rfl ?_
        refine q_iload_n rfl rfl ?_
        refine v_cv rfl rfl rfl rfl (by decide) ⟨⟨rfl, rfl⟩, by decide, rfl⟩ (Nat.le_of_ble_eq_true rfl) (Nat.le_of_ble_eq_true rfl) (s_74 (a1 := a1) hI (show 0 ≤ a1 ∧ a1 ≤ 600 from by omega) (fun c_30 hI_31 hF_32 h_33 => ?_))
        refine bk_inl ?_
        have h_34 := ir_1_3 hI_31
        refine q_vret rfl rfl ?_
        refine bk_inl ?_
        refine q_aload_n rfl rfl ?_
        refine v_gr (t := P) rfl rfl rfl (by decide) rfl ?_
        refine q_aload_n rfl rfl ?_
        refine v_gr (t := 1) rfl rfl rfl (by decide) rfl ?_
        refine v_cv rfl rfl rfl (ck_p0 hP) (by omega) ⟨⟨rfl, rfl⟩, by decide, rfl⟩ (Nat.le_of_ble_eq_true rfl) (Nat.le_of_ble_eq_true rfl) (s_36 hI_31 hP (fun c_35 hI_36 hF_37 => ?_))
        refine bk_inl ?_
        refine q_aload_n rfl rfl ?_
        refine q_aload_n rfl rfl ?_
        refine v_gr (t := P) rfl rfl rfl (by decide) rfl ?_
        have h_38 := ir_p0_5 hI_36 hP
        refine v_gi (z := 5) (v := c_35 P 5) rfl rfl (ck_p0 hP) (by omega) rfl rfl rfl ?_
        refine v_cv rfl rfl rfl rfl (by decide) ⟨⟨rfl, rfl⟩, by decide, rfl⟩ (Nat.le_of_ble_eq_true rfl) (Nat.le_of_ble_eq_true rfl) ?_
        refine q_aload_n rfl rfl ?_
        refine v_gr (t := 1) rfl rfl rfl (by decide) rfl ?_
        refine v_cv rfl rfl rfl rfl (by decide) ⟨⟨rfl, rfl⟩, by decide, rfl⟩ (Nat.le_of_ble_eq_true rfl) (Nat.le_of_ble_eq_true rfl) ?_
        refine q_aload_n rfl rfl ?_
        have h_39 := ir_1_4 hI_36
        refine v_gi (z := 4) (v := c_35 1 4) rfl rfl rfl (by decide) rfl rfl rfl ?_
        by_cases h_40 : c_35 1 4 ≠ 0
        · refine v_if_ne_t (t := 11) rfl (by decide) (by omega) ?_
          refine q_iconst rfl ?_
          refine v_zret rfl rfl (by omega) ?_
          refine bk_inl ?_
          refine v_if_eq_t (t := 14) rfl (by decide) (by decide) ?_
          refine q_aload_n rfl rfl ?_
          refine v_gr (t := 1) rfl rfl rfl (by decide) rfl ?_
          refine v_gi (z := 4) (v := c_35 1 4) rfl rfl rfl (by decide) rfl rfl rfl ?_
          refine v_bip rfl (by decide) ?_
          refine v_isub (v := c_35 1 4 - 10) rfl (by omega) ?_
          refine q_iret rfl rfl ?_
          refine bk_inl ?_
          refine q_iret rfl rfl ?_
          exact K c_35 (c_35 1 4 - 10) hI_36 (fun a j hm => (hF_37 a j (by omega)).trans (hF_32 a j (by omega))) ⟨by omega, by omega⟩
        · refine v_if_ne_f (t := 11) rfl (by decide) (by omega) ?_
          refine q_iconst rfl ?_
          refine q_goto (t := 12) rfl (by decide) ?_
          refine v_zret rfl rfl (by omega) ?_
          refine bk_inl ?_
          refine v_if_eq_f (t := 14) rfl (by decide) (by decide) ?_
          refine q_iload_n rfl rfl ?_
          refine q_goto (t := 24) rfl (by decide) ?_
          refine q_iret rfl rfl ?_
          refine bk_inl ?_
          refine q_iret rfl rfl ?_
          exact K c_35 (c_35 P 5) hI_36 (fun a j hm => (hF_37 a j (by omega)).trans (hF_32 a j (by omega))) ⟨by omega, by omega⟩

set_option maxRecDepth 100000 in
set_option maxHeartbeats 4000000 in
theorem s_89 {sc : List Int32} {e : Int} {d u P Q : Nat} {c : ME} {Z : AR → Prop} (hI : Iv u e P Q c)  (K : ∀ (y : Int), (-1) ≤ y ∧ y ≤ 600 → Z (.inl (some (vi y)), Wd P Q P P c, 0, 0)) : Wp sc (d + 7) 89 0 [(0, .ref 0)] [] (Wd P Q P P c) 0 0 Z := by
  have hP := iv_P hI
  have hQ := iv_Q hI
  refine q_aload_n rfl rfl ?_
  refine v_gr (t := 1) rfl rfl rfl (by decide) rfl ?_
  have h_1 := ir_1_5 hI
  refine v_gi (z := 5) (v := c 1 5) rfl rfl rfl (by decide) rfl rfl rfl ?_
  refine q_iret rfl rfl ?_
  exact K (c 1 5) ⟨by omega, by omega⟩

