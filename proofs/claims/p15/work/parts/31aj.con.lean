/-! ===== contracts 6 ===== -/
set_option maxRecDepth 100000 in
set_option maxHeartbeats 4000000 in
theorem s_77_l {sc : List Int32} {d P Q : Nat} {c : ME} {a2 : Int} {a3 : Int} {a4 : Int} {Z : AR → Prop} (hI : Iv 0 (-1) P Q c) (ha2 : (-2147483648) ≤ a2 ∧ a2 ≤ 2147483647) (ha3 : 0 ≤ a3 ∧ a3 ≤ 16) (ha4 : 1 ≤ a4 ∧ a4 ≤ 48) (K : ∀ (c2 : ME), Iv 0 (-1) P Q c2 → (∀ (a : Nat) (j : Int), ¬ ((a = 9 ∧ j = 0) ∨ a = 40 ∨ a = (P + 10) ∨ a = (P + 11)) → c2 a j = c a j) → Z (.inl (none), Wd P Q P P c2, 0, 0)) : ∀ n : Nat, (∀ (c2 : ME) (v5 : Int) (v6 : Int) (v7 : Int) (v8 : Int), Iv 0 (-1) P Q c2 → (∀ (a : Nat) (j : Int), ¬ ((a = 9 ∧ j = 0) ∨ a = 40 ∨ a = (P + 10) ∨ a = (P + 11)) → c2 a j = c a j) → 0 ≤ v5 ∧ v5 ≤ 6 → 0 ≤ v6 ∧ v6 ≤ 4 → 0 ≤ v7 ∧ v7 ≤ 4 → 0 ≤ v8 ∧ v8 ≤ 48 → 97 - 2 * v8 < (n : Int) → Wp sc (d + 12) 77 35 [(0, .ref 9), (1, .ref 39), (2, vi a2), (3, vi a3), (4, vi a4), (5, vi v5), (6, vi v6), (7, vi v7), (8, vi v8)] [] (Wd P Q P P c2) 0 0 Z)
  | 0 => by intro c2 v5 v6 v7 v8 hI2 hF hv5 hv6 hv7 hv8 hm9; have hP := iv_P hI; have hQ := iv_Q hI; exfalso; omega
  | n + 1 => by
    have hP := iv_P hI
    have hQ := iv_Q hI
    have ih := s_77_l (sc := sc) (d := d) hI ha2 ha3 ha4 K n
    intro c2 v5 v6 v7 v8 hI2 hF hv5 hv6 hv7 hv8 hm9
    refine q_iload rfl rfl ?_
    refine q_iload rfl rfl ?_
    by_cases h_1 : v8 ≥ a4
    · refine v_ic_ge_t (t := 159) rfl (by decide) ⟨(Int.le_trans (by decide) ha4.1), h_1, (Int.le_trans hv8.2 (by decide))⟩ ?_
      refine q_vret rfl rfl ?_
      exact K c2 hI2 (fun a j hm => hF a j (fun q => q.elim (fun h => hm (Or.inl h)) (fun q => q.elim (fun h => hm (Or.inr (Or.inl h))) (fun q => q.elim (fun h => hm (Or.inr (Or.inr (Or.inl h)))) (fun h => hm (Or.inr (Or.inr (Or.inr h))))))))
    · refine v_ic_ge_f (t := 159) rfl (by decide) ⟨(Int.le_trans (by decide) hv8.1), (Int.not_le.mp h_1), (Int.le_trans ha4.2 (by decide))⟩ ?_
      refine q_iload rfl rfl ?_
      by_cases h_2 : v5 ≤ 0
      · refine v_if_le_t (t := 73) rfl (by decide) ⟨(Int.le_trans (by decide) hv5.1), h_2, by decide⟩ ?_
        refine q_iload rfl rfl ?_
        refine q_iconst rfl ?_
        refine v_ic_lt_t (t := 133) rfl (by decide) ⟨(Int.le_trans (by decide) hv5.1), by omega, by decide⟩ ?_
        refine q_iload rfl rfl ?_
        refine v_if_le_t (t := 149) rfl (by decide) ⟨(Int.le_trans (by decide) hv5.1), by omega, by decide⟩ ?_
        refine q_aload_n rfl rfl ?_
        refine v_cv rfl rfl rfl rfl (by decide) ⟨⟨rfl, rfl⟩, by decide, rfl⟩ (Nat.le_of_ble_eq_true rfl) (Nat.le_of_ble_eq_true rfl) (s_59 hI2 (.inr ⟨rfl, rfl⟩) (fun c_3 hI_4 hF_5 => ?_))
        refine bk_inl ?_
        refine v_iinc (v := v8 + 1) rfl rfl (by decide) rfl ?_
        refine q_goto (t := 35) rfl (by decide) ?_
        refine Wp_ls [(0, .ref 9), (1, .ref 39), (2, vi a2), (3, vi a3), (4, vi a4), (5, vi v5), (6, vi v6), (7, vi v7), (8, vi (v8 + 1))] (lsub_cons rfl (lsub_cons rfl (lsub_cons rfl (lsub_cons rfl (lsub_cons rfl (lsub_cons rfl (lsub_cons rfl (lsub_cons rfl (lsub_cons rfl lsub_nil))))))))) ?_
        exact ih c_3 v5 v6 v7 (v8 + 1) hI_4 (fun a j hm => (hF_5 a j (fun h => hm (Or.inr (Or.inl h)))).trans (hF a j (fun q => q.elim (fun h => hm (Or.inl h)) (fun q => q.elim (fun h => hm (Or.inr (Or.inl h))) (fun q => q.elim (fun h => hm (Or.inr (Or.inr (Or.inl h)))) (fun h => hm (Or.inr (Or.inr (Or.inr h))))))))) hv5 hv6 hv7 ⟨by first | exact rgp_l hv8.1 (by decide) | omega, by omega⟩ (by omega)
      · refine v_if_le_f (t := 73) rfl (by decide) ⟨by decide, (Int.not_le.mp h_2), (Int.le_trans hv5.2 (by decide))⟩ ?_
        refine q_iload rfl rfl ?_
        by_cases h_6 : v6 ≤ 0
        · refine v_if_le_t (t := 73) rfl (by decide) ⟨(Int.le_trans (by decide) hv6.1), h_6, by decide⟩ ?_
          refine q_iload rfl rfl ?_
          refine q_iconst rfl ?_
          by_cases h_7 : v5 < 3
          · refine v_ic_lt_t (t := 133) rfl (by decide) ⟨(Int.le_trans (by decide) hv5.1), h_7, by decide⟩ ?_
            refine q_iload rfl rfl ?_
            refine v_if_le_f (t := 149) rfl (by decide) ⟨by decide, by omega, (Int.le_trans hv5.2 (by decide))⟩ ?_
            refine q_aload_n rfl rfl ?_
            refine q_aload_n rfl rfl ?_
            refine q_iload rfl rfl ?_
            refine v_cv rfl rfl rfl rfl (by decide) ⟨⟨rfl, rfl⟩, by decide, rfl⟩ (Nat.le_of_ble_eq_true rfl) (Nat.le_of_ble_eq_true rfl) (s_76 (a1 := v5) hI2 (show 1 ≤ v5 ∧ v5 ≤ 16 from ⟨by omega, (Int.le_trans hv5.2 (by decide))⟩) (fun c_8 y_11 hI_9 hF_10 hy_11 h_12 => ?_))
            refine bk_inl ?_
            refine v_cv rfl rfl rfl rfl (by decide) ⟨⟨rfl, rfl⟩, by decide, rfl⟩ (Nat.le_of_ble_eq_true rfl) (Nat.le_of_ble_eq_true rfl) (s_58 (a1 := y_11) hI_9 (.inr ⟨rfl, rfl⟩) (show 0 ≤ y_11 ∧ y_11 ≤ 5 from ⟨hy_11.1, by omega⟩) (fun c_13 y_16 hI_14 hF_15 hy_16 => ?_))
            refine bk_inl ?_
            refine q_pop rfl rfl ?_
            refine q_aload_n rfl rfl ?_
            refine v_cv rfl rfl rfl rfl (by decide) ⟨⟨rfl, rfl⟩, by decide, rfl⟩ (Nat.le_of_ble_eq_true rfl) (Nat.le_of_ble_eq_true rfl) (s_59 hI_14 (.inr ⟨rfl, rfl⟩) (fun c_17 hI_18 hF_19 => ?_))
            refine bk_inl ?_
            refine v_iinc (v := v8 + 1) rfl rfl (by decide) rfl ?_
            refine q_goto (t := 35) rfl (by decide) ?_
            refine Wp_ls [(0, .ref 9), (1, .ref 39), (2, vi a2), (3, vi a3), (4, vi a4), (5, vi v5), (6, vi v6), (7, vi v7), (8, vi (v8 + 1))] (lsub_cons rfl (lsub_cons rfl (lsub_cons rfl (lsub_cons rfl (lsub_cons rfl (lsub_cons rfl (lsub_cons rfl (lsub_cons rfl (lsub_cons rfl lsub_nil))))))))) ?_
            exact ih c_17 v5 v6 v7 (v8 + 1) hI_18 (fun a j hm => (hF_19 a j (fun h => hm (Or.inr (Or.inl h)))).trans ((hF_15 a j (fun q => q.elim (fun h => hm (Or.inr (Or.inl h))) (fun q => q.elim (fun h => hm (Or.inr (Or.inr (Or.inl h)))) (fun h => hm (Or.inr (Or.inr (Or.inr h))))))).trans ((hF_10 a j (fun h => hm (Or.inl h))).trans (hF a j (fun q => q.elim (fun h => hm (Or.inl h)) (fun q => q.elim (fun h => hm (Or.inr (Or.inl h))) (fun q => q.elim (fun h => hm (Or.inr (Or.inr (Or.inl h)))) (fun h => hm (Or.inr (Or.inr (Or.inr h))))))))))) hv5 hv6 hv7 ⟨by first | exact rgp_l hv8.1 (by decide) | omega, by omega⟩ (by omega)
          · refine v_ic_lt_f (t := 133) rfl (by decide) ⟨by decide, (Int.not_lt.mp h_7), (Int.le_trans hv5.2 (by decide))⟩ ?_
            refine q_iload rfl rfl ?_
            by_cases h_20 : v7 ≤ 0
            · refine v_if_le_t (t := 133) rfl (by decide) ⟨(Int.le_trans (by decide) hv7.1), h_20, by decide⟩ ?_
              refine q_iload rfl rfl ?_
              refine v_if_le_f (t := 149) rfl (by decide) ⟨by decide, by omega, (Int.le_trans hv5.2 (by decide))⟩ ?_
              refine q_aload_n rfl rfl ?_
              refine q_aload_n rfl rfl ?_
              refine q_iload rfl rfl ?_
              refine v_cv rfl rfl rfl rfl (by decide) ⟨⟨rfl, rfl⟩, by decide, rfl⟩ (Nat.le_of_ble_eq_true rfl) (Nat.le_of_ble_eq_true rfl) (s_76 (a1 := v5) hI2 (show 1 ≤ v5 ∧ v5 ≤ 16 from ⟨by omega, (Int.le_trans hv5.2 (by decide))⟩) (fun c_21 y_24 hI_22 hF_23 hy_24 h_25 => ?_))
              refine bk_inl ?_
              refine v_cv rfl rfl rfl rfl (by decide) ⟨⟨rfl, rfl⟩, by decide, rfl⟩ (Nat.le_of_ble_eq_true rfl) (Nat.le_of_ble_eq_true rfl) (s_58 (a1 := y_24) hI_22 (.inr ⟨rfl, rfl⟩) (show 0 ≤ y_24 ∧ y_24 ≤ 5 from ⟨hy_24.1, by omega⟩) (fun c_26 y_29 hI_27 hF_28 hy_29 => ?_))
              refine bk_inl ?_
              refine q_pop rfl rfl ?_
              refine q_aload_n rfl rfl ?_
              refine v_cv rfl rfl rfl rfl (by decide) ⟨⟨rfl, rfl⟩, by decide, rfl⟩ (Nat.le_of_ble_eq_true rfl) (Nat.le_of_ble_eq_true rfl) (s_59 hI_27 (.inr ⟨rfl, rfl⟩) (fun c_30 hI_31 hF_32 => ?_))
              refine bk_inl ?_
              refine v_iinc (v := v8 + 1) rfl rfl (by decide) rfl ?_
              refine q_goto (t := 35) rfl (by decide) ?_
              refine Wp_ls [(0, .ref 9), (1, .ref 39), (2, vi a2), (3, vi a3), (4, vi a4), (5, vi v5), (6, vi v6), (7, vi v7), (8, vi (v8 + 1))] (lsub_cons rfl (lsub_cons rfl (lsub_cons rfl (lsub_cons rfl (lsub_cons rfl (lsub_cons rfl (lsub_cons rfl (lsub_cons rfl (lsub_cons rfl lsub_nil))))))))) ?_
              exact ih c_30 v5 v6 v7 (v8 + 1) hI_31 (fun a j hm => (hF_32 a j (fun h => hm (Or.inr (Or.inl h)))).trans ((hF_28 a j (fun q => q.elim (fun h => hm (Or.inr (Or.inl h))) (fun q => q.elim (fun h => hm (Or.inr (Or.inr (Or.inl h)))) (fun h => hm (Or.inr (Or.inr (Or.inr h))))))).trans ((hF_23 a j (fun h => hm (Or.inl h))).trans (hF a j (fun q => q.elim (fun h => hm (Or.inl h)) (fun q => q.elim (fun h => hm (Or.inr (Or.inl h))) (fun q => q.elim (fun h => hm (Or.inr (Or.inr (Or.inl h)))) (fun h => hm (Or.inr (Or.inr (Or.inr h))))))))))) hv5 hv6 hv7 ⟨by first | exact rgp_l hv8.1 (by decide) | omega, by omega⟩ (by omega)
            · refine v_if_le_f (t := 133) rfl (by decide) ⟨by decide, (Int.not_le.mp h_20), (Int.le_trans hv7.2 (by decide))⟩ ?_
              refine q_aload_n rfl rfl ?_
              refine q_iload rfl rfl ?_
              refine v_cv rfl rfl rfl rfl (by decide) ⟨⟨rfl, rfl⟩, by decide, rfl⟩ (Nat.le_of_ble_eq_true rfl) (Nat.le_of_ble_eq_true rfl) (s_76 (a1 := v7) hI2 (show 1 ≤ v7 ∧ v7 ≤ 16 from ⟨by omega, (Int.le_trans hv7.2 (by decide))⟩) (fun c_33 y_36 hI_34 hF_35 hy_36 h_37 => ?_))
              refine bk_inl ?_
              refine q_istore rfl (by decide) ?_
              refine q_aload_n rfl rfl ?_
              refine q_iload rfl rfl ?_
              refine v_cv rfl rfl rfl rfl (by decide) ⟨⟨rfl, rfl⟩, by decide, rfl⟩ (Nat.le_of_ble_eq_true rfl) (Nat.le_of_ble_eq_true rfl) (s_76 (a1 := v5) hI_34 (show 1 ≤ v5 ∧ v5 ≤ 16 from ⟨by omega, (Int.le_trans hv5.2 (by decide))⟩) (fun c_38 y_41 hI_39 hF_40 hy_41 h_42 => ?_))
              refine bk_inl ?_
              refine q_istore rfl (by decide) ?_
              refine q_aload_n rfl rfl ?_
              refine v_bip rfl (by decide) ?_
              refine v_cv rfl rfl rfl rfl (by decide) ⟨⟨rfl, rfl⟩, by decide, rfl⟩ (Nat.le_of_ble_eq_true rfl) (Nat.le_of_ble_eq_true rfl) (s_76 (a1 := 16) hI_39 (show 1 ≤ 16 ∧ 16 ≤ 16 from ⟨by decide, by decide⟩) (fun c_43 y_46 hI_44 hF_45 hy_46 h_47 => ?_))
              refine bk_inl ?_
              refine q_iload_n rfl rfl ?_
              by_cases h_48 : y_46 ≥ a3
              · refine v_ic_ge_t (t := 133) rfl (by decide) ⟨(Int.le_trans (by decide) ha3.1), h_48, (Int.le_trans hy_46.2 (by decide))⟩ ?_
                refine q_iload rfl rfl ?_
                refine v_if_le_f (t := 149) rfl (by decide) ⟨by decide, by omega, (Int.le_trans hv5.2 (by decide))⟩ ?_
                refine q_aload_n rfl rfl ?_
                refine q_aload_n rfl rfl ?_
                refine q_iload rfl rfl ?_
                refine v_cv rfl rfl rfl rfl (by decide) ⟨⟨rfl, rfl⟩, by decide, rfl⟩ (Nat.le_of_ble_eq_true rfl) (Nat.le_of_ble_eq_true rfl) (s_76 (a1 := v5) hI_44 (show 1 ≤ v5 ∧ v5 ≤ 16 from ⟨by omega, (Int.le_trans hv5.2 (by decide))⟩) (fun c_49 y_52 hI_50 hF_51 hy_52 h_53 => ?_))
                refine bk_inl ?_
                refine v_cv rfl rfl rfl rfl (by decide) ⟨⟨rfl, rfl⟩, by decide, rfl⟩ (Nat.le_of_ble_eq_true rfl) (Nat.le_of_ble_eq_true rfl) (s_58 (a1 := y_52) hI_50 (.inr ⟨rfl, rfl⟩) (show 0 ≤ y_52 ∧ y_52 ≤ 5 from ⟨hy_52.1, by omega⟩) (fun c_54 y_57 hI_55 hF_56 hy_57 => ?_))
                refine bk_inl ?_
                refine q_pop rfl rfl ?_
                refine q_aload_n rfl rfl ?_
                refine v_cv rfl rfl rfl rfl (by decide) ⟨⟨rfl, rfl⟩, by decide, rfl⟩ (Nat.le_of_ble_eq_true rfl) (Nat.le_of_ble_eq_true rfl) (s_59 hI_55 (.inr ⟨rfl, rfl⟩) (fun c_58 hI_59 hF_60 => ?_))
                refine bk_inl ?_
                refine v_iinc (v := v8 + 1) rfl rfl (by decide) rfl ?_
                refine q_goto (t := 35) rfl (by decide) ?_
                refine Wp_ls [(0, .ref 9), (1, .ref 39), (2, vi a2), (3, vi a3), (4, vi a4), (5, vi v5), (6, vi v6), (7, vi v7), (8, vi (v8 + 1))] (lsub_cons rfl (lsub_cons rfl (lsub_cons rfl (lsub_cons rfl (lsub_cons rfl (lsub_cons rfl (lsub_cons rfl (lsub_cons rfl (lsub_cons rfl lsub_nil))))))))) ?_
                exact ih c_58 v5 v6 v7 (v8 + 1) hI_59 (fun a j hm => (hF_60 a j (fun h => hm (Or.inr (Or.inl h)))).trans ((hF_56 a j (fun q => q.elim (fun h => hm (Or.inr (Or.inl h))) (fun q => q.elim (fun h => hm (Or.inr (Or.inr (Or.inl h)))) (fun h => hm (Or.inr (Or.inr (Or.inr h))))))).trans ((hF_51 a j (fun h => hm (Or.inl h))).trans ((hF_45 a j (fun h => hm (Or.inl h))).trans ((hF_40 a j (fun h => hm (Or.inl h))).trans ((hF_35 a j (fun h => hm (Or.inl h))).trans (hF a j (fun q => q.elim (fun h => hm (Or.inl h)) (fun q => q.elim (fun h => hm (Or.inr (Or.inl h))) (fun q => q.elim (fun h => hm (Or.inr (Or.inr (Or.inl h)))) (fun h => hm (Or.inr (Or.inr (Or.inr h)))))))))))))) hv5 hv6 hv7 ⟨by first | exact rgp_l hv8.1 (by decide) | omega, by omega⟩ (by omega)
              · refine v_ic_ge_f (t := 133) rfl (by decide) ⟨(Int.le_trans (by decide) hy_46.1), (Int.not_le.mp h_48), (Int.le_trans ha3.2 (by decide))⟩ ?_
                refine q_aload_n rfl rfl ?_
                refine q_iload rfl rfl ?_
                refine q_iload rfl rfl ?_
                refine q_iload rfl rfl ?_
                refine q_iconst rfl ?_
                refine v_iadd (v := y_41 + 1) rfl rfl ?_
                refine q_iload rfl rfl ?_
                have h_61 : 0 ≤ ((y_41 + 1) % v5) ∧ ((y_41 + 1) % v5) < v5 := rem_bd (by omega)
                refine v_irem (v := ((y_41 + 1) % v5)) rfl (by omega) rfl ?_
                refine q_iload rfl rfl ?_
                refine q_iconst rfl ?_
                refine v_iadd (v := y_41 + 2) rfl rfl ?_
                refine q_iload rfl rfl ?_
                have h_62 : 0 ≤ ((y_41 + 2) % v5) ∧ ((y_41 + 2) % v5) < v5 := rem_bd (by omega)
                refine v_irem (v := ((y_41 + 2) % v5)) rfl (by omega) rfl ?_
                refine v_cv rfl rfl rfl rfl (by decide) ⟨⟨rfl, rfl⟩, by decide, rfl⟩ (Nat.le_of_ble_eq_true rfl) (Nat.le_of_ble_eq_true rfl) (s_53 (a1 := y_36) (a2 := y_41) (a3 := ((y_41 + 1) % v5)) (a4 := ((y_41 + 2) % v5)) hI_44 (.inr ⟨rfl, rfl⟩) (show 0 ≤ y_36 ∧ y_36 ≤ 3 from ⟨hy_36.1, by omega⟩) (show 0 ≤ y_41 ∧ y_41 ≤ 5 from ⟨hy_41.1, by omega⟩) (show 0 ≤ ((y_41 + 1) % v5) ∧ ((y_41 + 1) % v5) ≤ 5 from ⟨by omega, by omega⟩) (show 0 ≤ ((y_41 + 2) % v5) ∧ ((y_41 + 2) % v5) ≤ 5 from ⟨by omega, by omega⟩) (fun c_63 y_66 hI_64 hF_65 hy_66 => ?_))
                refine bk_inl ?_
                refine q_pop rfl rfl ?_
                refine q_iload rfl rfl ?_
                refine v_if_le_f (t := 149) rfl (by decide) ⟨by decide, by omega, (Int.le_trans hv5.2 (by decide))⟩ ?_
                refine q_aload_n rfl rfl ?_
                refine q_aload_n rfl rfl ?_
                refine q_iload rfl rfl ?_
                refine v_cv rfl rfl rfl rfl (by decide) ⟨⟨rfl, rfl⟩, by decide, rfl⟩ (Nat.le_of_ble_eq_true rfl) (Nat.le_of_ble_eq_true rfl) (s_76 (a1 := v5) hI_64 (show 1 ≤ v5 ∧ v5 ≤ 16 from ⟨by omega, (Int.le_trans hv5.2 (by decide))⟩) (fun c_67 y_70 hI_68 hF_69 hy_70 h_71 => ?_))
                refine bk_inl ?_
                refine v_cv rfl rfl rfl rfl (by decide) ⟨⟨rfl, rfl⟩, by decide, rfl⟩ (Nat.le_of_ble_eq_true rfl) (Nat.le_of_ble_eq_true rfl) (s_58 (a1 := y_70) hI_68 (.inr ⟨rfl, rfl⟩) (show 0 ≤ y_70 ∧ y_70 ≤ 5 from ⟨hy_70.1, by omega⟩) (fun c_72 y_75 hI_73 hF_74 hy_75 => ?_))
                refine bk_inl ?_
                refine q_pop rfl rfl ?_
                refine q_aload_n rfl rfl ?_
                refine v_cv rfl rfl rfl rfl (by decide) ⟨⟨rfl, rfl⟩, by decide, rfl⟩ (Nat.le_of_ble_eq_true rfl) (Nat.le_of_ble_eq_true rfl) (s_59 hI_73 (.inr ⟨rfl, rfl⟩) (fun c_76 hI_77 hF_78 => ?_))
                refine bk_inl ?_
                refine v_iinc (v := v8 + 1) rfl rfl (by decide) rfl ?_
                refine q_goto (t := 35) rfl (by decide) ?_
                refine Wp_ls [(0, .ref 9), (1, .ref 39), (2, vi a2), (3, vi a3), (4, vi a4), (5, vi v5), (6, vi v6), (7, vi v7), (8, vi (v8 + 1))] (lsub_cons rfl (lsub_cons rfl (lsub_cons rfl (lsub_cons rfl (lsub_cons rfl (lsub_cons rfl (lsub_cons rfl (lsub_cons rfl (lsub_cons rfl lsub_nil))))))))) ?_
                exact ih c_76 v5 v6 v7 (v8 + 1) hI_77 (fun a j hm => (hF_78 a j (fun h => hm (Or.inr (Or.inl h)))).trans ((hF_74 a j (fun q => q.elim (fun h => hm (Or.inr (Or.inl h))) (fun q => q.elim (fun h => hm (Or.inr (Or.inr (Or.inl h)))) (fun h => hm (Or.inr (Or.inr (Or.inr h))))))).trans ((hF_69 a j (fun h => hm (Or.inl h))).trans ((hF_65 a j (fun h => hm (Or.inr (Or.inl h)))).trans ((hF_45 a j (fun h => hm (Or.inl h))).trans ((hF_40 a j (fun h => hm (Or.inl h))).trans ((hF_35 a j (fun h => hm (Or.inl h))).trans (hF a j (fun q => q.elim (fun h => hm (Or.inl h)) (fun q => q.elim (fun h => hm (Or.inr (Or.inl h))) (fun q => q.elim (fun h => hm (Or.inr (Or.inr (Or.inl h)))) (fun h => hm (Or.inr (Or.inr (Or.inr h))))))))))))))) hv5 hv6 hv7 ⟨by first | exact rgp_l hv8.1 (by decide) | omega, by omega⟩ (by omega)
        · refine v_if_le_f (t := 73) rfl (by decide) ⟨by decide, (Int.not_le.mp h_6), (Int.le_trans hv6.2 (by decide))⟩ ?_
          refine q_aload_n rfl rfl ?_
          refine q_iload rfl rfl ?_
          refine v_cv rfl rfl rfl rfl (by decide) ⟨⟨rfl, rfl⟩, by decide, rfl⟩ (Nat.le_of_ble_eq_true rfl) (Nat.le_of_ble_eq_true rfl) (s_76 (a1 := v6) hI2 (show 1 ≤ v6 ∧ v6 ≤ 16 from ⟨by omega, (Int.le_trans hv6.2 (by decide))⟩) (fun c_79 y_82 hI_80 hF_81 hy_82 h_83 => ?_))
          refine bk_inl ?_
          refine q_istore rfl (by decide) ?_
          refine q_aload_n rfl rfl ?_
          refine q_iload rfl rfl ?_
          refine q_aload_n rfl rfl ?_
          refine q_iload rfl rfl ?_
          refine v_cv rfl rfl rfl rfl (by decide) ⟨⟨rfl, rfl⟩, by decide, rfl⟩ (Nat.le_of_ble_eq_true rfl) (Nat.le_of_ble_eq_true rfl) (s_76 (a1 := v5) hI_80 (show 1 ≤ v5 ∧ v5 ≤ 16 from ⟨by omega, (Int.le_trans hv5.2 (by decide))⟩) (fun c_84 y_87 hI_85 hF_86 hy_87 h_88 => ?_))
          refine bk_inl ?_
          refine v_cv rfl rfl rfl rfl (by decide) ⟨⟨rfl, rfl⟩, by decide, rfl⟩ (Nat.le_of_ble_eq_true rfl) (Nat.le_of_ble_eq_true rfl) (s_44 (a1 := y_82) (a2 := y_87) hI_85 (.inr ⟨rfl, rfl⟩) (show 0 ≤ y_82 ∧ y_82 ≤ 3 from ⟨hy_82.1, by omega⟩) (show 0 ≤ y_87 ∧ y_87 ≤ 5 from ⟨hy_87.1, by omega⟩) (fun c_89 y_92 hI_90 hF_91 hy_92 => ?_))
          refine bk_inl ?_
          refine q_pop rfl rfl ?_
          refine q_iload rfl rfl ?_
          refine q_iconst rfl ?_
          by_cases h_93 : v5 < 3
          · refine v_ic_lt_t (t := 133) rfl (by decide) ⟨(Int.le_trans (by decide) hv5.1), h_93, by decide⟩ ?_
            refine q_iload rfl rfl ?_
            refine v_if_le_f (t := 149) rfl (by decide) ⟨by decide, by omega, (Int.le_trans hv5.2 (by decide))⟩ ?_
            refine q_aload_n rfl rfl ?_
            refine q_aload_n rfl rfl ?_
            refine q_iload rfl rfl ?_
            refine v_cv rfl rfl rfl rfl (by decide) ⟨⟨rfl, rfl⟩, by decide, rfl⟩ (Nat.le_of_ble_eq_true rfl) (Nat.le_of_ble_eq_true rfl) (s_76 (a1 := v5) hI_90 (show 1 ≤ v5 ∧ v5 ≤ 16 from ⟨by omega, (Int.le_trans hv5.2 (by decide))⟩) (fun c_94 y_97 hI_95 hF_96 hy_97 h_98 => ?_))
            refine bk_inl ?_
            refine v_cv rfl rfl rfl rfl (by decide) ⟨⟨rfl, rfl⟩, by decide, rfl⟩ (Nat.le_of_ble_eq_true rfl) (Nat.le_of_ble_eq_true rfl) (s_58 (a1 := y_97) hI_95 (.inr ⟨rfl, rfl⟩) (show 0 ≤ y_97 ∧ y_97 ≤ 5 from ⟨hy_97.1, by omega⟩) (fun c_99 y_102 hI_100 hF_101 hy_102 => ?_))
            refine bk_inl ?_
            refine q_pop rfl rfl ?_
            refine q_aload_n rfl rfl ?_
            refine v_cv rfl rfl rfl rfl (by decide) ⟨⟨rfl, rfl⟩, by decide, rfl⟩ (Nat.le_of_ble_eq_true rfl) (Nat.le_of_ble_eq_true rfl) (s_59 hI_100 (.inr ⟨rfl, rfl⟩) (fun c_103 hI_104 hF_105 => ?_))
            refine bk_inl ?_
            refine v_iinc (v := v8 + 1) rfl rfl (by decide) rfl ?_
            refine q_goto (t := 35) rfl (by decide) ?_
            refine Wp_ls [(0, .ref 9), (1, .ref 39), (2, vi a2), (3, vi a3), (4, vi a4), (5, vi v5), (6, vi v6), (7, vi v7), (8, vi (v8 + 1))] (lsub_cons rfl (lsub_cons rfl (lsub_cons rfl (lsub_cons rfl (lsub_cons rfl (lsub_cons rfl (lsub_cons rfl (lsub_cons rfl (lsub_cons rfl lsub_nil))))))))) ?_
            exact ih c_103 v5 v6 v7 (v8 + 1) hI_104 (fun a j hm => (hF_105 a j (fun h => hm (Or.inr (Or.inl h)))).trans ((hF_101 a j (fun q => q.elim (fun h => hm (Or.inr (Or.inl h))) (fun q => q.elim (fun h => hm (Or.inr (Or.inr (Or.inl h)))) (fun h => hm (Or.inr (Or.inr (Or.inr h))))))).trans ((hF_96 a j (fun h => hm (Or.inl h))).trans ((hF_91 a j (fun h => hm (Or.inr (Or.inl h)))).trans ((hF_86 a j (fun h => hm (Or.inl h))).trans ((hF_81 a j (fun h => hm (Or.inl h))).trans (hF a j (fun q => q.elim (fun h => hm (Or.inl h)) (fun q => q.elim (fun h => hm (Or.inr (Or.inl h))) (fun q => q.elim (fun h => hm (Or.inr (Or.inr (Or.inl h)))) (fun h => hm (Or.inr (Or.inr (Or.inr h)))))))))))))) hv5 hv6 hv7 ⟨by first | exact rgp_l hv8.1 (by decide) | omega, by omega⟩ (by omega)
          · refine v_ic_lt_f (t := 133) rfl (by decide) ⟨by decide, (Int.not_lt.mp h_93), (Int.le_trans hv5.2 (by decide))⟩ ?_
            refine q_iload rfl rfl ?_
            by_cases h_106 : v7 ≤ 0
            · refine v_if_le_t (t := 133) rfl (by decide) ⟨(Int.le_trans (by decide) hv7.1), h_106, by decide⟩ ?_
              refine q_iload rfl rfl ?_
              refine v_if_le_f (t := 149) rfl (by decide) ⟨by decide, by omega, (Int.le_trans hv5.2 (by decide))⟩ ?_
              refine q_aload_n rfl rfl ?_
              refine q_aload_n rfl rfl ?_
              refine q_iload rfl rfl ?_
              refine v_cv rfl rfl rfl rfl (by decide) ⟨⟨rfl, rfl⟩, by decide, rfl⟩ (Nat.le_of_ble_eq_true rfl) (Nat.le_of_ble_eq_true rfl) (s_76 (a1 := v5) hI_90 (show 1 ≤ v5 ∧ v5 ≤ 16 from ⟨by omega, (Int.le_trans hv5.2 (by decide))⟩) (fun c_107 y_110 hI_108 hF_109 hy_110 h_111 => ?_))
              refine bk_inl ?_
              refine v_cv rfl rfl rfl rfl (by decide) ⟨⟨rfl, rfl⟩, by decide, rfl⟩ (Nat.le_of_ble_eq_true rfl) (Nat.le_of_ble_eq_true rfl) (s_58 (a1 := y_110) hI_108 (.inr ⟨rfl, rfl⟩) (show 0 ≤ y_110 ∧ y_110 ≤ 5 from ⟨hy_110.1, by omega⟩) (fun c_112 y_115 hI_113 hF_114 hy_115 => ?_))
              refine bk_inl ?_
              refine q_pop rfl rfl ?_
              refine q_aload_n rfl rfl ?_
              refine v_cv rfl rfl rfl rfl (by decide) ⟨⟨rfl, rfl⟩, by decide, rfl⟩ (Nat.le_of_ble_eq_true rfl) (Nat.le_of_ble_eq_true rfl) (s_59 hI_113 (.inr ⟨rfl, rfl⟩) (fun c_116 hI_117 hF_118 => ?_))
              refine bk_inl ?_
              refine v_iinc (v := v8 + 1) rfl rfl (by decide) rfl ?_
              refine q_goto (t := 35) rfl (by decide) ?_
              refine Wp_ls [(0, .ref 9), (1, .ref 39), (2, vi a2), (3, vi a3), (4, vi a4), (5, vi v5), (6, vi v6), (7, vi v7), (8, vi (v8 + 1))] (lsub_cons rfl (lsub_cons rfl (lsub_cons rfl (lsub_cons rfl (lsub_cons rfl (lsub_cons rfl (lsub_cons rfl (lsub_cons rfl (lsub_cons rfl lsub_nil))))))))) ?_
              exact ih c_116 v5 v6 v7 (v8 + 1) hI_117 (fun a j hm => (hF_118 a j (fun h => hm (Or.inr (Or.inl h)))).trans ((hF_114 a j (fun q => q.elim (fun h => hm (Or.inr (Or.inl h))) (fun q => q.elim (fun h => hm (Or.inr (Or.inr (Or.inl h)))) (fun h => hm (Or.inr (Or.inr (Or.inr h))))))).trans ((hF_109 a j (fun h => hm (Or.inl h))).trans ((hF_91 a j (fun h => hm (Or.inr (Or.inl h)))).trans ((hF_86 a j (fun h => hm (Or.inl h))).trans ((hF_81 a j (fun h => hm (Or.inl h))).trans (hF a j (fun q => q.elim (fun h => hm (Or.inl h)) (fun q => q.elim (fun h => hm (Or.inr (Or.inl h))) (fun q => q.elim (fun h => hm (Or.inr (Or.inr (Or.inl h)))) (fun h => hm (Or.inr (Or.inr (Or.inr h)))))))))))))) hv5 hv6 hv7 ⟨by first | exact rgp_l hv8.1 (by decide) | omega, by omega⟩ (by omega)
            · refine v_if_le_f (t := 133) rfl (by decide) ⟨by decide, (Int.not_le.mp h_106), (Int.le_trans hv7.2 (by decide))⟩ ?_
              refine q_aload_n rfl rfl ?_
              refine q_iload rfl rfl ?_
              refine v_cv rfl rfl rfl rfl (by decide) ⟨⟨rfl, rfl⟩, by decide, rfl⟩ (Nat.le_of_ble_eq_true rfl) (Nat.le_of_ble_eq_true rfl) (s_76 (a1 := v7) hI_90 (show 1 ≤ v7 ∧ v7 ≤ 16 from ⟨by omega, (Int.le_trans hv7.2 (by decide))⟩) (fun c_119 y_122 hI_120 hF_121 hy_122 h_123 => ?_))
              refine bk_inl ?_
              refine q_istore rfl (by decide) ?_
              refine q_aload_n rfl rfl ?_
              refine q_iload rfl rfl ?_
              refine v_cv rfl rfl rfl rfl (by decide) ⟨⟨rfl, rfl⟩, by decide, rfl⟩ (Nat.le_of_ble_eq_true rfl) (Nat.le_of_ble_eq_true rfl) (s_76 (a1 := v5) hI_120 (show 1 ≤ v5 ∧ v5 ≤ 16 from ⟨by omega, (Int.le_trans hv5.2 (by decide))⟩) (fun c_124 y_127 hI_125 hF_126 hy_127 h_128 => ?_))
              refine bk_inl ?_
              refine q_istore rfl (by decide) ?_
              refine q_aload_n rfl rfl ?_
              refine v_bip rfl (by decide) ?_
              refine v_cv rfl rfl rfl rfl (by decide) ⟨⟨rfl, rfl⟩, by decide, rfl⟩ (Nat.le_of_ble_eq_true rfl) (Nat.le_of_ble_eq_true rfl) (s_76 (a1 := 16) hI_125 (show 1 ≤ 16 ∧ 16 ≤ 16 from ⟨by decide, by decide⟩) (fun c_129 y_132 hI_130 hF_131 hy_132 h_133 => ?_))
              refine bk_inl ?_
              refine q_iload_n rfl rfl ?_
              by_cases h_134 : y_132 ≥ a3
              · refine v_ic_ge_t (t := 133) rfl (by decide) ⟨(Int.le_trans (by decide) ha3.1), h_134, (Int.le_trans hy_132.2 (by decide))⟩ ?_
                refine q_iload rfl rfl ?_
                refine v_if_le_f (t := 149) rfl (by decide) ⟨by decide, by omega, (Int.le_trans hv5.2 (by decide))⟩ ?_
                refine q_aload_n rfl rfl ?_
                refine q_aload_n rfl rfl ?_
                refine q_iload rfl rfl ?_
                refine v_cv rfl rfl rfl rfl (by decide) ⟨⟨rfl, rfl⟩, by decide, rfl⟩ (Nat.le_of_ble_eq_true rfl) (Nat.le_of_ble_eq_true rfl) (s_76 (a1 := v5) hI_130 (show 1 ≤ v5 ∧ v5 ≤ 16 from ⟨by omega, (Int.le_trans hv5.2 (by decide))⟩) (fun c_135 y_138 hI_136 hF_137 hy_138 h_139 => ?_))
                refine bk_inl ?_
                refine v_cv rfl rfl rfl rfl (by decide) ⟨⟨rfl, rfl⟩, by decide, rfl⟩ (Nat.le_of_ble_eq_true rfl) (Nat.le_of_ble_eq_true rfl) (s_58 (a1 := y_138) hI_136 (.inr ⟨rfl, rfl⟩) (show 0 ≤ y_138 ∧ y_138 ≤ 5 from ⟨hy_138.1, by omega⟩) (fun c_140 y_143 hI_141 hF_142 hy_143 => ?_))
                refine bk_inl ?_
                refine q_pop rfl rfl ?_
                refine q_aload_n rfl rfl ?_
                refine v_cv rfl rfl rfl rfl (by decide) ⟨⟨rfl, rfl⟩, by decide, rfl⟩ (Nat.le_of_ble_eq_true rfl) (Nat.le_of_ble_eq_true rfl) (s_59 hI_141 (.inr ⟨rfl, rfl⟩) (fun c_144 hI_145 hF_146 => ?_))
                refine bk_inl ?_
                refine v_iinc (v := v8 + 1) rfl rfl (by decide) rfl ?_
                refine q_goto (t := 35) rfl (by decide) ?_
                refine Wp_ls [(0, .ref 9), (1, .ref 39), (2, vi a2), (3, vi a3), (4, vi a4), (5, vi v5), (6, vi v6), (7, vi v7), (8, vi (v8 + 1))] (lsub_cons rfl (lsub_cons rfl (lsub_cons rfl (lsub_cons rfl (lsub_cons rfl (lsub_cons rfl (lsub_cons rfl (lsub_cons rfl (lsub_cons rfl lsub_nil))))))))) ?_
                exact ih c_144 v5 v6 v7 (v8 + 1) hI_145 (fun a j hm => (hF_146 a j (fun h => hm (Or.inr (Or.inl h)))).trans ((hF_142 a j (fun q => q.elim (fun h => hm (Or.inr (Or.inl h))) (fun q => q.elim (fun h => hm (Or.inr (Or.inr (Or.inl h)))) (fun h => hm (Or.inr (Or.inr (Or.inr h))))))).trans ((hF_137 a j (fun h => hm (Or.inl h))).trans ((hF_131 a j (fun h => hm (Or.inl h))).trans ((hF_126 a j (fun h => hm (Or.inl h))).trans ((hF_121 a j (fun h => hm (Or.inl h))).trans ((hF_91 a j (fun h => hm (Or.inr (Or.inl h)))).trans ((hF_86 a j (fun h => hm (Or.inl h))).trans ((hF_81 a j (fun h => hm (Or.inl h))).trans (hF a j (fun q => q.elim (fun h => hm (Or.inl h)) (fun q => q.elim (fun h => hm (Or.inr (Or.inl h))) (fun q => q.elim (fun h => hm (Or.inr (Or.inr (Or.inl h)))) (fun h => hm (Or.inr (Or.inr (Or.inr h))))))))))))))))) hv5 hv6 hv7 ⟨by first | exact rgp_l hv8.1 (by decide) | omega, by omega⟩ (by omega)
              · refine v_ic_ge_f (t := 133) rfl (by decide) ⟨(Int.le_trans (by decide) hy_132.1), (Int.not_le.mp h_134), (Int.le_trans ha3.2 (by decide))⟩ ?_
                refine q_aload_n rfl rfl ?_
                refine q_iload rfl rfl ?_
                refine q_iload rfl rfl ?_
                refine q_iload rfl rfl ?_
                refine q_iconst rfl ?_
                refine v_iadd (v := y_127 + 1) rfl rfl ?_
                refine q_iload rfl rfl ?_
                have h_147 : 0 ≤ ((y_127 + 1) % v5) ∧ ((y_127 + 1) % v5) < v5 := rem_bd (by omega)
                refine v_irem (v := ((y_127 + 1) % v5)) rfl (by omega) rfl ?_
                refine q_iload rfl rfl ?_
                refine q_iconst rfl ?_
                refine v_iadd (v := y_127 + 2) rfl rfl ?_
                refine q_iload rfl rfl ?_
                have h_148 : 0 ≤ ((y_127 + 2) % v5) ∧ ((y_127 + 2) % v5) < v5 := rem_bd (by omega)
                refine v_irem (v := ((y_127 + 2) % v5)) rfl (by omega) rfl ?_
                refine v_cv rfl rfl rfl rfl (by decide) ⟨⟨rfl, rfl⟩, by decide, rfl⟩ (Nat.le_of_ble_eq_true rfl) (Nat.le_of_ble_eq_true rfl) (s_53 (a1 := y_122) (a2 := y_127) (a3 := ((y_127 + 1) % v5)) (a4 := ((y_127 + 2) % v5)) hI_130 (.inr ⟨rfl, rfl⟩) (show 0 ≤ y_122 ∧ y_122 ≤ 3 from ⟨hy_122.1, by omega⟩) (show 0 ≤ y_127 ∧ y_127 ≤ 5 from ⟨hy_127.1, by omega⟩) (show 0 ≤ ((y_127 + 1) % v5) ∧ ((y_127 + 1) % v5) ≤ 5 from ⟨by omega, by omega⟩) (show 0 ≤ ((y_127 + 2) % v5) ∧ ((y_127 + 2) % v5) ≤ 5 from ⟨by omega, by omega⟩) (fun c_149 y_152 hI_150 hF_151 hy_152 => ?_))
                refine bk_inl ?_
                refine q_pop rfl rfl ?_
                refine q_iload rfl rfl ?_
                refine v_if_le_f (t := 149) rfl (by decide) ⟨by decide, by omega, (Int.le_trans hv5.2 (by decide))⟩ ?_
                refine q_aload_n rfl rfl ?_
                refine q_aload_n rfl rfl ?_
                refine q_iload rfl rfl ?_
                refine v_cv rfl rfl rfl rfl (by decide) ⟨⟨rfl, rfl⟩, by decide, rfl⟩ (Nat.le_of_ble_eq_true rfl) (Nat.le_of_ble_eq_true rfl) (s_76 (a1 := v5) hI_150 (show 1 ≤ v5 ∧ v5 ≤ 16 from ⟨by omega, (Int.le_trans hv5.2 (by decide))⟩) (fun c_153 y_156 hI_154 hF_155 hy_156 h_157 => ?_))
                refine bk_inl ?_
                refine v_cv rfl rfl rfl rfl (by decide) ⟨⟨rfl, rfl⟩, by decide, rfl⟩ (Nat.le_of_ble_eq_true rfl) (Nat.le_of_ble_eq_true rfl) (s_58 (a1 := y_156) hI_154 (.inr ⟨rfl, rfl⟩) (show 0 ≤ y_156 ∧ y_156 ≤ 5 from ⟨hy_156.1, by omega⟩) (fun c_158 y_161 hI_159 hF_160 hy_161 => ?_))
                refine bk_inl ?_
                refine q_pop rfl rfl ?_
                refine q_aload_n rfl rfl ?_
                refine v_cv rfl rfl rfl rfl (by decide) ⟨⟨rfl, rfl⟩, by decide, rfl⟩ (Nat.le_of_ble_eq_true rfl) (Nat.le_of_ble_eq_true rfl) (s_59 hI_159 (.inr ⟨rfl, rfl⟩) (fun c_162 hI_163 hF_164 => ?_))
                refine bk_inl ?_
                refine v_iinc (v := v8 + 1) rfl rfl (by decide) rfl ?_
                refine q_goto (t := 35) rfl (by decide) ?_
                refine Wp_ls [(0, .ref 9), (1, .ref 39), (2, vi a2), (3, vi a3), (4, vi a4), (5, vi v5), (6, vi v6), (7, vi v7), (8, vi (v8 + 1))] (lsub_cons rfl (lsub_cons rfl (lsub_cons rfl (lsub_cons rfl (lsub_cons rfl (lsub_cons rfl (lsub_cons rfl (lsub_cons rfl (lsub_cons rfl lsub_nil))))))))) ?_
                exact ih c_162 v5 v6 v7 (v8 + 1) hI_163 (fun a j hm => (hF_164 a j (fun h => hm (Or.inr (Or.inl h)))).trans ((hF_160 a j (fun q => q.elim (fun h => hm (Or.inr (Or.inl h))) (fun q => q.elim (fun h => hm (Or.inr (Or.inr (Or.inl h)))) (fun h => hm (Or.inr (Or.inr (Or.inr h))))))).trans ((hF_155 a j (fun h => hm (Or.inl h))).trans ((hF_151 a j (fun h => hm (Or.inr (Or.inl h)))).trans ((hF_131 a j (fun h => hm (Or.inl h))).trans ((hF_126 a j (fun h => hm (Or.inl h))).trans ((hF_121 a j (fun h => hm (Or.inl h))).trans ((hF_91 a j (fun h => hm (Or.inr (Or.inl h)))).trans ((hF_86 a j (fun h => hm (Or.inl h))).trans ((hF_81 a j (fun h => hm (Or.inl h))).trans (hF a j (fun q => q.elim (fun h => hm (Or.inl h)) (fun q => q.elim (fun h => hm (Or.inr (Or.inl h))) (fun q => q.elim (fun h => hm (Or.inr (Or.inr (Or.inl h)))) (fun h => hm (Or.inr (Or.inr (Or.inr h)))))))))))))))))) hv5 hv6 hv7 ⟨by first | exact rgp_l hv8.1 (by decide) | omega, by omega⟩ (by omega)
set_option maxRecDepth 100000 in
set_option maxHeartbeats 4000000 in
theorem s_77 {sc : List Int32} {d P Q : Nat} {c : ME} {a2 : Int} {a3 : Int} {a4 : Int} {Z : AR → Prop} (hI : Iv 0 (-1) P Q c) (ha2 : (-2147483648) ≤ a2 ∧ a2 ≤ 2147483647) (ha3 : 0 ≤ a3 ∧ a3 ≤ 16) (ha4 : 1 ≤ a4 ∧ a4 ≤ 48) (K : ∀ (c2 : ME), Iv 0 (-1) P Q c2 → (∀ (a : Nat) (j : Int), ¬ ((a = 9 ∧ j = 0) ∨ a = 40 ∨ a = (P + 10) ∨ a = (P + 11)) → c2 a j = c a j) → Z (.inl (none), Wd P Q P P c2, 0, 0)) : Wp sc (d + 12) 77 0 [(0, .ref 9), (1, .ref 39), (2, vi a2), (3, vi a3), (4, vi a4)] [] (Wd P Q P P c) 0 0 Z := by
  have hP := iv_P hI
  have hQ := iv_Q hI
  refine q_aload_n rfl rfl ?_
  refine q_iload_n rfl rfl ?_
  refine v_pi (z := 0) rfl rfl rfl (by decide) rfl rfl rfl (by decide) ?_
  refine q_aload_n rfl rfl ?_
  refine v_gr (t := P) rfl rfl rfl (by decide) rfl ?_
  have h_165 := ir_p0_0 hI hP
  refine v_gi (z := 0) (v := c P 0) rfl rfl (ck_p0 hP) (a68z hP) rfl rfl (up_c (np0 hP rfl)) ?_
  refine q_istore rfl (by decide) ?_
  refine q_aload_n rfl rfl ?_
  refine v_gr (t := P) rfl rfl rfl (by decide) rfl ?_
  have h_166 := ir_p0_1 hI hP
  refine v_gi (z := 1) (v := c P 1) rfl rfl (ck_p0 hP) (a68z hP) rfl rfl (up_c (np0 hP rfl)) ?_
  refine q_istore rfl (by decide) ?_
  refine q_aload_n rfl rfl ?_
  refine v_gr (t := P) rfl rfl rfl (by decide) rfl ?_
  have h_167 := ir_p0_2 hI hP
  refine v_gi (z := 2) (v := c P 2) rfl rfl (ck_p0 hP) (a68z hP) rfl rfl (up_c (np0 hP rfl)) ?_
  refine q_istore rfl (by decide) ?_
  refine q_iconst rfl ?_
  refine q_istore rfl (by decide) ?_
  have hI_168 := iw_9_0 (v := a2) hI ⟨ha2.1, ha2.2⟩
  refine Wp_ls [(0, .ref 9), (1, .ref 39), (2, vi a2), (3, vi a3), (4, vi a4), (5, vi (c P 0)), (6, vi (c P 1)), (7, vi (c P 2)), (8, vi 0)] (lsub_cons rfl (lsub_cons rfl (lsub_cons rfl (lsub_cons rfl (lsub_cons rfl (lsub_cons rfl (lsub_cons rfl (lsub_cons rfl (lsub_cons rfl lsub_nil))))))))) ?_
  exact (s_77_l (sc := sc) (d := d) hI ha2 ha3 ha4 K 100) (up c 9 0 a2) (c P 0) (c P 1) (c P 2) 0 hI_168 (fun a j hm => up_b (Decidable.or_iff_not_imp_left.mpr (fun h1 h2 => hm (Or.inl ⟨Decidable.not_not.mp h1, h2⟩)))) h_165 h_166 h_167 ⟨by decide, by decide⟩ (by omega)
