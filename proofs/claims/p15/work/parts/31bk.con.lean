/-! ===== contracts 24 ===== -/
set_option maxRecDepth 100000 in
set_option maxHeartbeats 4000000 in
theorem s_253_l {sc : List Int32} {d P Q : Nat} {c : ME} {a1 : Int} {a2 : Int} {a3 : Int} {Z : AR → Prop} (hI : Iv 0 (-1) P Q c) (ha1 : (-2147483648) ≤ a1 ∧ a1 ≤ 2147483647) (ha2 : 0 ≤ a2 ∧ a2 ≤ 16) (ha3 : 1 ≤ a3 ∧ a3 ≤ 48) (K : ∀ (c2 : ME), Iv 0 (-1) P Q c2 → (∀ (a : Nat) (j : Int), ¬ ((a = 41 ∧ j = 50) ∨ a = 59 ∨ a = 54 ∨ a = 55) → c2 a j = c a j) → Z (.inl (none), Wd P Q P P c2, 0, 0)) : ∀ n : Nat, (∀ (c2 : ME) (v4 : Int), Iv 0 (-1) P Q c2 → (∀ (a : Nat) (j : Int), ¬ ((a = 41 ∧ j = 50) ∨ a = 59 ∨ a = 54 ∨ a = 55) → c2 a j = c a j) → 0 ≤ v4 ∧ v4 ≤ 48 → 97 - 2 * v4 < (n : Int) → Wp sc (d + 14) 253 12 [(0, .ref 41), (1, vi a1), (2, vi a2), (3, vi a3), (4, vi v4)] [] (Wd P Q P P c2) 0 0 Z)
  | 0 => by intro c2 v4 hI2 hF hv4 hm9; have hP := iv_P hI; have hQ := iv_Q hI; exfalso; omega
  | n + 1 => by
    have hP := iv_P hI
    have hQ := iv_Q hI
    have ih := s_253_l (sc := sc) (d := d) hI ha1 ha2 ha3 K n
    intro c2 v4 hI2 hF hv4 hm9
    refine q_iload rfl rfl ?_
    refine q_iload_n rfl rfl ?_
    by_cases h_1 : v4 ≥ a3
    · refine v_ic_ge_t (t := 159) rfl (by decide) ⟨(Int.le_trans (by decide) ha3.1), h_1, (Int.le_trans hv4.2 (by decide))⟩ ?_
      refine q_vret rfl rfl ?_
      exact K c2 hI2 (fun a j hm => hF a j (fun q => q.elim (fun h => hm (Or.inl h)) (fun q => q.elim (fun h => hm (Or.inr (Or.inl h))) (fun q => q.elim (fun h => hm (Or.inr (Or.inr (Or.inl h)))) (fun h => hm (Or.inr (Or.inr (Or.inr h))))))))
    · refine v_ic_ge_f (t := 159) rfl (by decide) ⟨(Int.le_trans (by decide) hv4.1), (Int.not_le.mp h_1), (Int.le_trans ha3.2 (by decide))⟩ ?_
      refine q_aload_n rfl rfl ?_
      have h_2 := ir_41_20 hI
      have kn_3 : Hid (c2 41 20 = c 41 20) := hF 41 20 (fun q => q.elim (fun h => absurd h.2 (ni rfl)) (fun q => q.elim (fun h => absurd h (nn rfl)) (fun q => q.elim (fun h => absurd h (nn rfl)) (fun h => absurd h (nn rfl)))))
      refine v_gi (z := 20) (v := c 41 20) rfl rfl rfl (by decide) rfl rfl (hid kn_3) ?_
      by_cases h_4 : c 41 20 ≤ 0
      · refine v_if_le_t (t := 57) rfl (by decide) ⟨by omega, h_4, by decide⟩ ?_
        refine q_aload_n rfl rfl ?_
        refine v_gi (z := 20) (v := c 41 20) rfl rfl rfl (by decide) rfl rfl (hid kn_3) ?_
        refine q_iconst rfl ?_
        refine v_ic_le_t (t := 129) rfl (by decide) (by omega) ?_
        refine q_aload_n rfl rfl ?_
        refine v_gi (z := 20) (v := c 41 20) rfl rfl rfl (by decide) rfl rfl (hid kn_3) ?_
        refine v_if_le_t (t := 149) rfl (by decide) (by omega) ?_
        refine q_aload_n rfl rfl ?_
        refine v_cv rfl rfl rfl rfl (by decide) ⟨⟨rfl, rfl⟩, by decide, rfl⟩ (Nat.le_of_ble_eq_true rfl) (Nat.le_of_ble_eq_true rfl) (s_199 hI2 (fun c_5 hI_6 hF_7 => ?_))
        refine bk_inl ?_
        refine v_iinc (v := v4 + 1) rfl rfl (by decide) rfl ?_
        refine q_goto (t := 12) rfl (by decide) ?_
        refine Wp_ls [(0, .ref 41), (1, vi a1), (2, vi a2), (3, vi a3), (4, vi (v4 + 1))] (lsub_cons rfl (lsub_cons rfl (lsub_cons rfl (lsub_cons rfl (lsub_cons rfl lsub_nil))))) ?_
        exact ih c_5 (v4 + 1) hI_6 (fun a j hm => (hF_7 a j (fun h => hm (Or.inr (Or.inl h)))).trans (hF a j (fun q => q.elim (fun h => hm (Or.inl h)) (fun q => q.elim (fun h => hm (Or.inr (Or.inl h))) (fun q => q.elim (fun h => hm (Or.inr (Or.inr (Or.inl h)))) (fun h => hm (Or.inr (Or.inr (Or.inr h))))))))) ⟨by first | exact rgp_l hv4.1 (by decide) | omega, by omega⟩ (by omega)
      · refine v_if_le_f (t := 57) rfl (by decide) ⟨by decide, (Int.not_le.mp h_4), by omega⟩ ?_
        refine q_aload_n rfl rfl ?_
        have h_8 := ir_41_21 hI
        have kn_9 : Hid (c2 41 21 = c 41 21) := hF 41 21 (fun q => q.elim (fun h => absurd h.2 (ni rfl)) (fun q => q.elim (fun h => absurd h (nn rfl)) (fun q => q.elim (fun h => absurd h (nn rfl)) (fun h => absurd h (nn rfl)))))
        refine v_gi (z := 21) (v := c 41 21) rfl rfl rfl (by decide) rfl rfl (hid kn_9) ?_
        by_cases h_10 : c 41 21 ≤ 0
        · refine v_if_le_t (t := 57) rfl (by decide) ⟨by omega, h_10, by decide⟩ ?_
          refine q_aload_n rfl rfl ?_
          refine v_gi (z := 20) (v := c 41 20) rfl rfl rfl (by decide) rfl rfl (hid kn_3) ?_
          refine q_iconst rfl ?_
          by_cases h_11 : c 41 20 ≤ 2
          · refine v_ic_le_t (t := 129) rfl (by decide) ⟨by omega, h_11, by decide⟩ ?_
            refine q_aload_n rfl rfl ?_
            refine v_gi (z := 20) (v := c 41 20) rfl rfl rfl (by decide) rfl rfl (hid kn_3) ?_
            refine v_if_le_f (t := 149) rfl (by decide) (by omega) ?_
            refine q_aload_n rfl rfl ?_
            refine q_aload_n rfl rfl ?_
            refine q_aload_n rfl rfl ?_
            refine v_gi (z := 20) (v := c 41 20) rfl rfl rfl (by decide) rfl rfl (hid kn_3) ?_
            refine v_cv rfl rfl rfl rfl (by decide) ⟨⟨rfl, rfl⟩, by decide, rfl⟩ (Nat.le_of_ble_eq_true rfl) (Nat.le_of_ble_eq_true rfl) (s_252 (a1 := c 41 20) hI2 (show 1 ≤ c 41 20 ∧ c 41 20 ≤ 16 from ⟨by omega, by omega⟩) (fun c_12 y_15 hI_13 hF_14 hy_15 h_16 => ?_))
            refine bk_inl ?_
            refine v_cv rfl rfl rfl rfl (by decide) ⟨⟨rfl, rfl⟩, by decide, rfl⟩ (Nat.le_of_ble_eq_true rfl) (Nat.le_of_ble_eq_true rfl) (s_198 (a1 := y_15) hI_13 (show 0 ≤ y_15 ∧ y_15 ≤ 5 from ⟨hy_15.1, by omega⟩) (fun c_17 y_20 hI_18 hF_19 hy_20 => ?_))
            refine bk_inl ?_
            refine q_pop rfl rfl ?_
            refine q_aload_n rfl rfl ?_
            refine v_cv rfl rfl rfl rfl (by decide) ⟨⟨rfl, rfl⟩, by decide, rfl⟩ (Nat.le_of_ble_eq_true rfl) (Nat.le_of_ble_eq_true rfl) (s_199 hI_18 (fun c_21 hI_22 hF_23 => ?_))
            refine bk_inl ?_
            refine v_iinc (v := v4 + 1) rfl rfl (by decide) rfl ?_
            refine q_goto (t := 12) rfl (by decide) ?_
            refine Wp_ls [(0, .ref 41), (1, vi a1), (2, vi a2), (3, vi a3), (4, vi (v4 + 1))] (lsub_cons rfl (lsub_cons rfl (lsub_cons rfl (lsub_cons rfl (lsub_cons rfl lsub_nil))))) ?_
            exact ih c_21 (v4 + 1) hI_22 (fun a j hm => (hF_23 a j (fun h => hm (Or.inr (Or.inl h)))).trans ((hF_19 a j (fun q => q.elim (fun h => hm (Or.inr (Or.inl h))) (fun q => q.elim (fun h => hm (Or.inr (Or.inr (Or.inl h)))) (fun h => hm (Or.inr (Or.inr (Or.inr h))))))).trans ((hF_14 a j (fun h => hm (Or.inl h))).trans (hF a j (fun q => q.elim (fun h => hm (Or.inl h)) (fun q => q.elim (fun h => hm (Or.inr (Or.inl h))) (fun q => q.elim (fun h => hm (Or.inr (Or.inr (Or.inl h)))) (fun h => hm (Or.inr (Or.inr (Or.inr h))))))))))) ⟨by first | exact rgp_l hv4.1 (by decide) | omega, by omega⟩ (by omega)
          · refine v_ic_le_f (t := 129) rfl (by decide) ⟨by decide, (Int.not_le.mp h_11), by omega⟩ ?_
            refine q_aload_n rfl rfl ?_
            have h_24 := ir_41_22 hI
            have kn_25 : Hid (c2 41 22 = c 41 22) := hF 41 22 (fun q => q.elim (fun h => absurd h.2 (ni rfl)) (fun q => q.elim (fun h => absurd h (nn rfl)) (fun q => q.elim (fun h => absurd h (nn rfl)) (fun h => absurd h (nn rfl)))))
            refine v_gi (z := 22) (v := c 41 22) rfl rfl rfl (by decide) rfl rfl (hid kn_25) ?_
            by_cases h_26 : c 41 22 ≤ 0
            · refine v_if_le_t (t := 129) rfl (by decide) ⟨by omega, h_26, by decide⟩ ?_
              refine q_aload_n rfl rfl ?_
              refine v_gi (z := 20) (v := c 41 20) rfl rfl rfl (by decide) rfl rfl (hid kn_3) ?_
              refine v_if_le_f (t := 149) rfl (by decide) (by omega) ?_
              refine q_aload_n rfl rfl ?_
              refine q_aload_n rfl rfl ?_
              refine q_aload_n rfl rfl ?_
              refine v_gi (z := 20) (v := c 41 20) rfl rfl rfl (by decide) rfl rfl (hid kn_3) ?_
              refine v_cv rfl rfl rfl rfl (by decide) ⟨⟨rfl, rfl⟩, by decide, rfl⟩ (Nat.le_of_ble_eq_true rfl) (Nat.le_of_ble_eq_true rfl) (s_252 (a1 := c 41 20) hI2 (show 1 ≤ c 41 20 ∧ c 41 20 ≤ 16 from ⟨by omega, by omega⟩) (fun c_27 y_30 hI_28 hF_29 hy_30 h_31 => ?_))
              refine bk_inl ?_
              refine v_cv rfl rfl rfl rfl (by decide) ⟨⟨rfl, rfl⟩, by decide, rfl⟩ (Nat.le_of_ble_eq_true rfl) (Nat.le_of_ble_eq_true rfl) (s_198 (a1 := y_30) hI_28 (show 0 ≤ y_30 ∧ y_30 ≤ 5 from ⟨hy_30.1, by omega⟩) (fun c_32 y_35 hI_33 hF_34 hy_35 => ?_))
              refine bk_inl ?_
              refine q_pop rfl rfl ?_
              refine q_aload_n rfl rfl ?_
              refine v_cv rfl rfl rfl rfl (by decide) ⟨⟨rfl, rfl⟩, by decide, rfl⟩ (Nat.le_of_ble_eq_true rfl) (Nat.le_of_ble_eq_true rfl) (s_199 hI_33 (fun c_36 hI_37 hF_38 => ?_))
              refine bk_inl ?_
              refine v_iinc (v := v4 + 1) rfl rfl (by decide) rfl ?_
              refine q_goto (t := 12) rfl (by decide) ?_
              refine Wp_ls [(0, .ref 41), (1, vi a1), (2, vi a2), (3, vi a3), (4, vi (v4 + 1))] (lsub_cons rfl (lsub_cons rfl (lsub_cons rfl (lsub_cons rfl (lsub_cons rfl lsub_nil))))) ?_
              exact ih c_36 (v4 + 1) hI_37 (fun a j hm => (hF_38 a j (fun h => hm (Or.inr (Or.inl h)))).trans ((hF_34 a j (fun q => q.elim (fun h => hm (Or.inr (Or.inl h))) (fun q => q.elim (fun h => hm (Or.inr (Or.inr (Or.inl h)))) (fun h => hm (Or.inr (Or.inr (Or.inr h))))))).trans ((hF_29 a j (fun h => hm (Or.inl h))).trans (hF a j (fun q => q.elim (fun h => hm (Or.inl h)) (fun q => q.elim (fun h => hm (Or.inr (Or.inl h))) (fun q => q.elim (fun h => hm (Or.inr (Or.inr (Or.inl h)))) (fun h => hm (Or.inr (Or.inr (Or.inr h))))))))))) ⟨by first | exact rgp_l hv4.1 (by decide) | omega, by omega⟩ (by omega)
            · refine v_if_le_f (t := 129) rfl (by decide) ⟨by decide, (Int.not_le.mp h_26), by omega⟩ ?_
              refine q_aload_n rfl rfl ?_
              refine q_aload_n rfl rfl ?_
              refine v_gi (z := 22) (v := c 41 22) rfl rfl rfl (by decide) rfl rfl (hid kn_25) ?_
              refine v_cv rfl rfl rfl rfl (by decide) ⟨⟨rfl, rfl⟩, by decide, rfl⟩ (Nat.le_of_ble_eq_true rfl) (Nat.le_of_ble_eq_true rfl) (s_252 (a1 := c 41 22) hI2 (show 1 ≤ c 41 22 ∧ c 41 22 ≤ 16 from ⟨by omega, by omega⟩) (fun c_39 y_42 hI_40 hF_41 hy_42 h_43 => ?_))
              refine bk_inl ?_
              refine q_istore rfl (by decide) ?_
              refine q_aload_n rfl rfl ?_
              refine q_aload_n rfl rfl ?_
              have kn_44 : Hid (c_39 41 20 = c 41 20) := (hF_41 41 20 (fun h => absurd h.2 (ni rfl))).trans (hid kn_3)
              refine v_gi (z := 20) (v := c 41 20) rfl rfl rfl (by decide) rfl rfl (hid kn_44) ?_
              refine v_cv rfl rfl rfl rfl (by decide) ⟨⟨rfl, rfl⟩, by decide, rfl⟩ (Nat.le_of_ble_eq_true rfl) (Nat.le_of_ble_eq_true rfl) (s_252 (a1 := c 41 20) hI_40 (show 1 ≤ c 41 20 ∧ c 41 20 ≤ 16 from ⟨by omega, by omega⟩) (fun c_45 y_48 hI_46 hF_47 hy_48 h_49 => ?_))
              refine bk_inl ?_
              refine q_istore rfl (by decide) ?_
              refine q_aload_n rfl rfl ?_
              refine v_bip rfl (by decide) ?_
              refine v_cv rfl rfl rfl rfl (by decide) ⟨⟨rfl, rfl⟩, by decide, rfl⟩ (Nat.le_of_ble_eq_true rfl) (Nat.le_of_ble_eq_true rfl) (s_252 (a1 := 16) hI_46 (show 1 ≤ 16 ∧ 16 ≤ 16 from ⟨by decide, by decide⟩) (fun c_50 y_53 hI_51 hF_52 hy_53 h_54 => ?_))
              refine bk_inl ?_
              refine q_iload_n rfl rfl ?_
              by_cases h_55 : y_53 ≥ a2
              · refine v_ic_ge_t (t := 129) rfl (by decide) ⟨(Int.le_trans (by decide) ha2.1), h_55, (Int.le_trans hy_53.2 (by decide))⟩ ?_
                refine q_aload_n rfl rfl ?_
                have kn_56 : Hid (c_45 41 20 = c 41 20) := (hF_47 41 20 (fun h => absurd h.2 (ni rfl))).trans (hid kn_44)
                have kn_57 : Hid (c_50 41 20 = c 41 20) := (hF_52 41 20 (fun h => absurd h.2 (ni rfl))).trans (hid kn_56)
                refine v_gi (z := 20) (v := c 41 20) rfl rfl rfl (by decide) rfl rfl (hid kn_57) ?_
                refine v_if_le_f (t := 149) rfl (by decide) (by omega) ?_
                refine q_aload_n rfl rfl ?_
                refine q_aload_n rfl rfl ?_
                refine q_aload_n rfl rfl ?_
                refine v_gi (z := 20) (v := c 41 20) rfl rfl rfl (by decide) rfl rfl (hid kn_57) ?_
                refine v_cv rfl rfl rfl rfl (by decide) ⟨⟨rfl, rfl⟩, by decide, rfl⟩ (Nat.le_of_ble_eq_true rfl) (Nat.le_of_ble_eq_true rfl) (s_252 (a1 := c 41 20) hI_51 (show 1 ≤ c 41 20 ∧ c 41 20 ≤ 16 from ⟨by omega, by omega⟩) (fun c_58 y_61 hI_59 hF_60 hy_61 h_62 => ?_))
                refine bk_inl ?_
                refine v_cv rfl rfl rfl rfl (by decide) ⟨⟨rfl, rfl⟩, by decide, rfl⟩ (Nat.le_of_ble_eq_true rfl) (Nat.le_of_ble_eq_true rfl) (s_198 (a1 := y_61) hI_59 (show 0 ≤ y_61 ∧ y_61 ≤ 5 from ⟨hy_61.1, by omega⟩) (fun c_63 y_66 hI_64 hF_65 hy_66 => ?_))
                refine bk_inl ?_
                refine q_pop rfl rfl ?_
                refine q_aload_n rfl rfl ?_
                refine v_cv rfl rfl rfl rfl (by decide) ⟨⟨rfl, rfl⟩, by decide, rfl⟩ (Nat.le_of_ble_eq_true rfl) (Nat.le_of_ble_eq_true rfl) (s_199 hI_64 (fun c_67 hI_68 hF_69 => ?_))
                refine bk_inl ?_
                refine v_iinc (v := v4 + 1) rfl rfl (by decide) rfl ?_
                refine q_goto (t := 12) rfl (by decide) ?_
                refine Wp_ls [(0, .ref 41), (1, vi a1), (2, vi a2), (3, vi a3), (4, vi (v4 + 1))] (lsub_cons rfl (lsub_cons rfl (lsub_cons rfl (lsub_cons rfl (lsub_cons rfl lsub_nil))))) ?_
                exact ih c_67 (v4 + 1) hI_68 (fun a j hm => (hF_69 a j (fun h => hm (Or.inr (Or.inl h)))).trans ((hF_65 a j (fun q => q.elim (fun h => hm (Or.inr (Or.inl h))) (fun q => q.elim (fun h => hm (Or.inr (Or.inr (Or.inl h)))) (fun h => hm (Or.inr (Or.inr (Or.inr h))))))).trans ((hF_60 a j (fun h => hm (Or.inl h))).trans ((hF_52 a j (fun h => hm (Or.inl h))).trans ((hF_47 a j (fun h => hm (Or.inl h))).trans ((hF_41 a j (fun h => hm (Or.inl h))).trans (hF a j (fun q => q.elim (fun h => hm (Or.inl h)) (fun q => q.elim (fun h => hm (Or.inr (Or.inl h))) (fun q => q.elim (fun h => hm (Or.inr (Or.inr (Or.inl h)))) (fun h => hm (Or.inr (Or.inr (Or.inr h)))))))))))))) ⟨by first | exact rgp_l hv4.1 (by decide) | omega, by omega⟩ (by omega)
              · refine v_ic_ge_f (t := 129) rfl (by decide) ⟨(Int.le_trans (by decide) hy_53.1), (Int.not_le.mp h_55), (Int.le_trans ha2.2 (by decide))⟩ ?_
                refine q_aload_n rfl rfl ?_
                refine q_iload rfl rfl ?_
                refine q_iload rfl rfl ?_
                refine q_iload rfl rfl ?_
                refine q_iconst rfl ?_
                refine v_iadd (v := y_48 + 1) rfl rfl ?_
                refine q_aload_n rfl rfl ?_
                have kn_70 : Hid (c_45 41 20 = c 41 20) := (hF_47 41 20 (fun h => absurd h.2 (ni rfl))).trans (hid kn_44)
                have kn_71 : Hid (c_50 41 20 = c 41 20) := (hF_52 41 20 (fun h => absurd h.2 (ni rfl))).trans (hid kn_70)
                refine v_gi (z := 20) (v := c 41 20) rfl rfl rfl (by decide) rfl rfl (hid kn_71) ?_
                have h_72 : 0 ≤ ((y_48 + 1) % (c 41 20)) ∧ ((y_48 + 1) % (c 41 20)) < c 41 20 := rem_bd (by omega)
                refine v_irem (v := ((y_48 + 1) % (c 41 20))) rfl (by omega) rfl ?_
                refine q_iload rfl rfl ?_
                refine q_iconst rfl ?_
                refine v_iadd (v := y_48 + 2) rfl rfl ?_
                refine q_aload_n rfl rfl ?_
                refine v_gi (z := 20) (v := c 41 20) rfl rfl rfl (by decide) rfl rfl (hid kn_71) ?_
                have h_73 : 0 ≤ ((y_48 + 2) % (c 41 20)) ∧ ((y_48 + 2) % (c 41 20)) < c 41 20 := rem_bd (by omega)
                refine v_irem (v := ((y_48 + 2) % (c 41 20))) rfl (by omega) rfl ?_
                refine v_cv rfl rfl rfl rfl (by decide) ⟨⟨rfl, rfl⟩, by decide, rfl⟩ (Nat.le_of_ble_eq_true rfl) (Nat.le_of_ble_eq_true rfl) (s_193 (a1 := y_42) (a2 := y_48) (a3 := ((y_48 + 1) % (c 41 20))) (a4 := ((y_48 + 2) % (c 41 20))) hI_51 (show 0 ≤ y_42 ∧ y_42 ≤ 3 from ⟨hy_42.1, by omega⟩) (show 0 ≤ y_48 ∧ y_48 ≤ 5 from ⟨hy_48.1, by omega⟩) (show 0 ≤ ((y_48 + 1) % (c 41 20)) ∧ ((y_48 + 1) % (c 41 20)) ≤ 5 from ⟨by omega, by omega⟩) (show 0 ≤ ((y_48 + 2) % (c 41 20)) ∧ ((y_48 + 2) % (c 41 20)) ≤ 5 from ⟨by omega, by omega⟩) (fun c_74 y_77 hI_75 hF_76 hy_77 => ?_))
                refine bk_inl ?_
                refine q_pop rfl rfl ?_
                refine q_aload_n rfl rfl ?_
                have kn_78 : Hid (c_74 41 20 = c 41 20) := (hF_76 41 20 (fun h => absurd h (nn rfl))).trans (hid kn_71)
                refine v_gi (z := 20) (v := c 41 20) rfl rfl rfl (by decide) rfl rfl (hid kn_78) ?_
                refine v_if_le_f (t := 149) rfl (by decide) (by omega) ?_
                refine q_aload_n rfl rfl ?_
                refine q_aload_n rfl rfl ?_
                refine q_aload_n rfl rfl ?_
                refine v_gi (z := 20) (v := c 41 20) rfl rfl rfl (by decide) rfl rfl (hid kn_78) ?_
                refine v_cv rfl rfl rfl rfl (by decide) ⟨⟨rfl, rfl⟩, by decide, rfl⟩ (Nat.le_of_ble_eq_true rfl) (Nat.le_of_ble_eq_true rfl) (s_252 (a1 := c 41 20) hI_75 (show 1 ≤ c 41 20 ∧ c 41 20 ≤ 16 from ⟨by omega, by omega⟩) (fun c_79 y_82 hI_80 hF_81 hy_82 h_83 => ?_))
                refine bk_inl ?_
                refine v_cv rfl rfl rfl rfl (by decide) ⟨⟨rfl, rfl⟩, by decide, rfl⟩ (Nat.le_of_ble_eq_true rfl) (Nat.le_of_ble_eq_true rfl) (s_198 (a1 := y_82) hI_80 (show 0 ≤ y_82 ∧ y_82 ≤ 5 from ⟨hy_82.1, by first | (clear ha1 ha2 ha3 hv4 h_8 h_10 h_24 h_43 h_49 h_54 h_72 h_73; omega) | omega⟩) (fun c_84 y_87 hI_85 hF_86 hy_87 => ?_))
                refine bk_inl ?_
                refine q_pop rfl rfl ?_
                refine q_aload_n rfl rfl ?_
                refine v_cv rfl rfl rfl rfl (by decide) ⟨⟨rfl, rfl⟩, by decide, rfl⟩ (Nat.le_of_ble_eq_true rfl) (Nat.le_of_ble_eq_true rfl) (s_199 hI_85 (fun c_88 hI_89 hF_90 => ?_))
                refine bk_inl ?_
                refine v_iinc (v := v4 + 1) rfl rfl (by decide) rfl ?_
                refine q_goto (t := 12) rfl (by decide) ?_
                refine Wp_ls [(0, .ref 41), (1, vi a1), (2, vi a2), (3, vi a3), (4, vi (v4 + 1))] (lsub_cons rfl (lsub_cons rfl (lsub_cons rfl (lsub_cons rfl (lsub_cons rfl lsub_nil))))) ?_
                exact ih c_88 (v4 + 1) hI_89 (fun a j hm => (hF_90 a j (fun h => hm (Or.inr (Or.inl h)))).trans ((hF_86 a j (fun q => q.elim (fun h => hm (Or.inr (Or.inl h))) (fun q => q.elim (fun h => hm (Or.inr (Or.inr (Or.inl h)))) (fun h => hm (Or.inr (Or.inr (Or.inr h))))))).trans ((hF_81 a j (fun h => hm (Or.inl h))).trans ((hF_76 a j (fun h => hm (Or.inr (Or.inl h)))).trans ((hF_52 a j (fun h => hm (Or.inl h))).trans ((hF_47 a j (fun h => hm (Or.inl h))).trans ((hF_41 a j (fun h => hm (Or.inl h))).trans (hF a j (fun q => q.elim (fun h => hm (Or.inl h)) (fun q => q.elim (fun h => hm (Or.inr (Or.inl h))) (fun q => q.elim (fun h => hm (Or.inr (Or.inr (Or.inl h)))) (fun h => hm (Or.inr (Or.inr (Or.inr h))))))))))))))) ⟨by first | exact rgp_l hv4.1 (by decide) | omega, by first | (clear ha1 ha2 hv4 h_2 h_8 h_10 h_24 h_43 h_49 h_54 h_72 h_73 h_83; omega) | omega⟩ (by omega)
        · refine v_if_le_f (t := 57) rfl (by decide) ⟨by decide, (Int.not_le.mp h_10), by omega⟩ ?_
          refine q_aload_n rfl rfl ?_
          refine q_aload_n rfl rfl ?_
          refine v_gi (z := 21) (v := c 41 21) rfl rfl rfl (by decide) rfl rfl (hid kn_9) ?_
          refine v_cv rfl rfl rfl rfl (by decide) ⟨⟨rfl, rfl⟩, by decide, rfl⟩ (Nat.le_of_ble_eq_true rfl) (Nat.le_of_ble_eq_true rfl) (s_252 (a1 := c 41 21) hI2 (show 1 ≤ c 41 21 ∧ c 41 21 ≤ 16 from ⟨by omega, by omega⟩) (fun c_91 y_94 hI_92 hF_93 hy_94 h_95 => ?_))
          refine bk_inl ?_
          refine q_istore rfl (by decide) ?_
          refine q_aload_n rfl rfl ?_
          refine q_iload rfl rfl ?_
          refine q_aload_n rfl rfl ?_
          refine q_aload_n rfl rfl ?_
          have kn_96 : Hid (c_91 41 20 = c 41 20) := (hF_93 41 20 (fun h => absurd h.2 (ni rfl))).trans (hid kn_3)
          refine v_gi (z := 20) (v := c 41 20) rfl rfl rfl (by decide) rfl rfl (hid kn_96) ?_
          refine v_cv rfl rfl rfl rfl (by decide) ⟨⟨rfl, rfl⟩, by decide, rfl⟩ (Nat.le_of_ble_eq_true rfl) (Nat.le_of_ble_eq_true rfl) (s_252 (a1 := c 41 20) hI_92 (show 1 ≤ c 41 20 ∧ c 41 20 ≤ 16 from ⟨by omega, by omega⟩) (fun c_97 y_100 hI_98 hF_99 hy_100 h_101 => ?_))
          refine bk_inl ?_
          refine v_cv rfl rfl rfl rfl (by decide) ⟨⟨rfl, rfl⟩, by decide, rfl⟩ (Nat.le_of_ble_eq_true rfl) (Nat.le_of_ble_eq_true rfl) (s_188 (a1 := y_94) (a2 := y_100) hI_98 (show 0 ≤ y_94 ∧ y_94 ≤ 3 from ⟨hy_94.1, by omega⟩) (show 0 ≤ y_100 ∧ y_100 ≤ 5 from ⟨hy_100.1, by omega⟩) (fun c_102 y_105 hI_103 hF_104 hy_105 => ?_))
          refine bk_inl ?_
          refine q_pop rfl rfl ?_
          refine q_aload_n rfl rfl ?_
          have kn_106 : Hid (c_97 41 20 = c 41 20) := (hF_99 41 20 (fun h => absurd h.2 (ni rfl))).trans (hid kn_96)
          have kn_107 : Hid (c_102 41 20 = c 41 20) := (hF_104 41 20 (fun h => absurd h (nn rfl))).trans (hid kn_106)
          refine v_gi (z := 20) (v := c 41 20) rfl rfl rfl (by decide) rfl rfl (hid kn_107) ?_
          refine q_iconst rfl ?_
          by_cases h_108 : c 41 20 ≤ 2
          · refine v_ic_le_t (t := 129) rfl (by decide) ⟨by omega, h_108, by decide⟩ ?_
            refine q_aload_n rfl rfl ?_
            refine v_gi (z := 20) (v := c 41 20) rfl rfl rfl (by decide) rfl rfl (hid kn_107) ?_
            refine v_if_le_f (t := 149) rfl (by decide) (by omega) ?_
            refine q_aload_n rfl rfl ?_
            refine q_aload_n rfl rfl ?_
            refine q_aload_n rfl rfl ?_
            refine v_gi (z := 20) (v := c 41 20) rfl rfl rfl (by decide) rfl rfl (hid kn_107) ?_
            refine v_cv rfl rfl rfl rfl (by decide) ⟨⟨rfl, rfl⟩, by decide, rfl⟩ (Nat.le_of_ble_eq_true rfl) (Nat.le_of_ble_eq_true rfl) (s_252 (a1 := c 41 20) hI_103 (show 1 ≤ c 41 20 ∧ c 41 20 ≤ 16 from ⟨by omega, by omega⟩) (fun c_109 y_112 hI_110 hF_111 hy_112 h_113 => ?_))
            refine bk_inl ?_
            refine v_cv rfl rfl rfl rfl (by decide) ⟨⟨rfl, rfl⟩, by decide, rfl⟩ (Nat.le_of_ble_eq_true rfl) (Nat.le_of_ble_eq_true rfl) (s_198 (a1 := y_112) hI_110 (show 0 ≤ y_112 ∧ y_112 ≤ 5 from ⟨hy_112.1, by omega⟩) (fun c_114 y_117 hI_115 hF_116 hy_117 => ?_))
            refine bk_inl ?_
            refine q_pop rfl rfl ?_
            refine q_aload_n rfl rfl ?_
            refine v_cv rfl rfl rfl rfl (by decide) ⟨⟨rfl, rfl⟩, by decide, rfl⟩ (Nat.le_of_ble_eq_true rfl) (Nat.le_of_ble_eq_true rfl) (s_199 hI_115 (fun c_118 hI_119 hF_120 => ?_))
            refine bk_inl ?_
            refine v_iinc (v := v4 + 1) rfl rfl (by decide) rfl ?_
            refine q_goto (t := 12) rfl (by decide) ?_
            refine Wp_ls [(0, .ref 41), (1, vi a1), (2, vi a2), (3, vi a3), (4, vi (v4 + 1))] (lsub_cons rfl (lsub_cons rfl (lsub_cons rfl (lsub_cons rfl (lsub_cons rfl lsub_nil))))) ?_
            exact ih c_118 (v4 + 1) hI_119 (fun a j hm => (hF_120 a j (fun h => hm (Or.inr (Or.inl h)))).trans ((hF_116 a j (fun q => q.elim (fun h => hm (Or.inr (Or.inl h))) (fun q => q.elim (fun h => hm (Or.inr (Or.inr (Or.inl h)))) (fun h => hm (Or.inr (Or.inr (Or.inr h))))))).trans ((hF_111 a j (fun h => hm (Or.inl h))).trans ((hF_104 a j (fun h => hm (Or.inr (Or.inl h)))).trans ((hF_99 a j (fun h => hm (Or.inl h))).trans ((hF_93 a j (fun h => hm (Or.inl h))).trans (hF a j (fun q => q.elim (fun h => hm (Or.inl h)) (fun q => q.elim (fun h => hm (Or.inr (Or.inl h))) (fun q => q.elim (fun h => hm (Or.inr (Or.inr (Or.inl h)))) (fun h => hm (Or.inr (Or.inr (Or.inr h)))))))))))))) ⟨by first | exact rgp_l hv4.1 (by decide) | omega, by omega⟩ (by omega)
          · refine v_ic_le_f (t := 129) rfl (by decide) ⟨by decide, (Int.not_le.mp h_108), by omega⟩ ?_
            refine q_aload_n rfl rfl ?_
            have h_121 := ir_41_22 hI
            have kn_122 : Hid (c2 41 22 = c 41 22) := hF 41 22 (fun q => q.elim (fun h => absurd h.2 (ni rfl)) (fun q => q.elim (fun h => absurd h (nn rfl)) (fun q => q.elim (fun h => absurd h (nn rfl)) (fun h => absurd h (nn rfl)))))
            have kn_123 : Hid (c_91 41 22 = c 41 22) := (hF_93 41 22 (fun h => absurd h.2 (ni rfl))).trans (hid kn_122)
            have kn_124 : Hid (c_97 41 22 = c 41 22) := (hF_99 41 22 (fun h => absurd h.2 (ni rfl))).trans (hid kn_123)
            have kn_125 : Hid (c_102 41 22 = c 41 22) := (hF_104 41 22 (fun h => absurd h (nn rfl))).trans (hid kn_124)
            refine v_gi (z := 22) (v := c 41 22) rfl rfl rfl (by decide) rfl rfl (hid kn_125) ?_
            by_cases h_126 : c 41 22 ≤ 0
            · refine v_if_le_t (t := 129) rfl (by decide) ⟨by omega, h_126, by decide⟩ ?_
              refine q_aload_n rfl rfl ?_
              refine v_gi (z := 20) (v := c 41 20) rfl rfl rfl (by decide) rfl rfl (hid kn_107) ?_
              refine v_if_le_f (t := 149) rfl (by decide) (by omega) ?_
              refine q_aload_n rfl rfl ?_
              refine q_aload_n rfl rfl ?_
              refine q_aload_n rfl rfl ?_
              refine v_gi (z := 20) (v := c 41 20) rfl rfl rfl (by decide) rfl rfl (hid kn_107) ?_
              refine v_cv rfl rfl rfl rfl (by decide) ⟨⟨rfl, rfl⟩, by decide, rfl⟩ (Nat.le_of_ble_eq_true rfl) (Nat.le_of_ble_eq_true rfl) (s_252 (a1 := c 41 20) hI_103 (show 1 ≤ c 41 20 ∧ c 41 20 ≤ 16 from ⟨by omega, by omega⟩) (fun c_127 y_130 hI_128 hF_129 hy_130 h_131 => ?_))
              refine bk_inl ?_
              refine v_cv rfl rfl rfl rfl (by decide) ⟨⟨rfl, rfl⟩, by decide, rfl⟩ (Nat.le_of_ble_eq_true rfl) (Nat.le_of_ble_eq_true rfl) (s_198 (a1 := y_130) hI_128 (show 0 ≤ y_130 ∧ y_130 ≤ 5 from ⟨hy_130.1, by omega⟩) (fun c_132 y_135 hI_133 hF_134 hy_135 => ?_))
              refine bk_inl ?_
              refine q_pop rfl rfl ?_
              refine q_aload_n rfl rfl ?_
              refine v_cv rfl rfl rfl rfl (by decide) ⟨⟨rfl, rfl⟩, by decide, rfl⟩ (Nat.le_of_ble_eq_true rfl) (Nat.le_of_ble_eq_true rfl) (s_199 hI_133 (fun c_136 hI_137 hF_138 => ?_))
              refine bk_inl ?_
              refine v_iinc (v := v4 + 1) rfl rfl (by decide) rfl ?_
              refine q_goto (t := 12) rfl (by decide) ?_
              refine Wp_ls [(0, .ref 41), (1, vi a1), (2, vi a2), (3, vi a3), (4, vi (v4 + 1))] (lsub_cons rfl (lsub_cons rfl (lsub_cons rfl (lsub_cons rfl (lsub_cons rfl lsub_nil))))) ?_
              exact ih c_136 (v4 + 1) hI_137 (fun a j hm => (hF_138 a j (fun h => hm (Or.inr (Or.inl h)))).trans ((hF_134 a j (fun q => q.elim (fun h => hm (Or.inr (Or.inl h))) (fun q => q.elim (fun h => hm (Or.inr (Or.inr (Or.inl h)))) (fun h => hm (Or.inr (Or.inr (Or.inr h))))))).trans ((hF_129 a j (fun h => hm (Or.inl h))).trans ((hF_104 a j (fun h => hm (Or.inr (Or.inl h)))).trans ((hF_99 a j (fun h => hm (Or.inl h))).trans ((hF_93 a j (fun h => hm (Or.inl h))).trans (hF a j (fun q => q.elim (fun h => hm (Or.inl h)) (fun q => q.elim (fun h => hm (Or.inr (Or.inl h))) (fun q => q.elim (fun h => hm (Or.inr (Or.inr (Or.inl h)))) (fun h => hm (Or.inr (Or.inr (Or.inr h)))))))))))))) ⟨by first | exact rgp_l hv4.1 (by decide) | omega, by omega⟩ (by omega)
            · refine v_if_le_f (t := 129) rfl (by decide) ⟨by decide, (Int.not_le.mp h_126), by omega⟩ ?_
              refine q_aload_n rfl rfl ?_
              refine q_aload_n rfl rfl ?_
              refine v_gi (z := 22) (v := c 41 22) rfl rfl rfl (by decide) rfl rfl (hid kn_125) ?_
              refine v_cv rfl rfl rfl rfl (by decide) ⟨⟨rfl, rfl⟩, by decide, rfl⟩ (Nat.le_of_ble_eq_true rfl) (Nat.le_of_ble_eq_true rfl) (s_252 (a1 := c 41 22) hI_103 (show 1 ≤ c 41 22 ∧ c 41 22 ≤ 16 from ⟨by omega, by omega⟩) (fun c_139 y_142 hI_140 hF_141 hy_142 h_143 => ?_))
              refine bk_inl ?_
              refine q_istore rfl (by decide) ?_
              refine q_aload_n rfl rfl ?_
              refine q_aload_n rfl rfl ?_
              have kn_144 : Hid (c_139 41 20 = c 41 20) := (hF_141 41 20 (fun h => absurd h.2 (ni rfl))).trans (hid kn_107)
              refine v_gi (z := 20) (v := c 41 20) rfl rfl rfl (by decide) rfl rfl (hid kn_144) ?_
              refine v_cv rfl rfl rfl rfl (by decide) ⟨⟨rfl, rfl⟩, by decide, rfl⟩ (Nat.le_of_ble_eq_true rfl) (Nat.le_of_ble_eq_true rfl) (s_252 (a1 := c 41 20) hI_140 (show 1 ≤ c 41 20 ∧ c 41 20 ≤ 16 from ⟨by omega, by omega⟩) (fun c_145 y_148 hI_146 hF_147 hy_148 h_149 => ?_))
              refine bk_inl ?_
              refine q_istore rfl (by decide) ?_
              refine q_aload_n rfl rfl ?_
              refine v_bip rfl (by decide) ?_
              refine v_cv rfl rfl rfl rfl (by decide) ⟨⟨rfl, rfl⟩, by decide, rfl⟩ (Nat.le_of_ble_eq_true rfl) (Nat.le_of_ble_eq_true rfl) (s_252 (a1 := 16) hI_146 (show 1 ≤ 16 ∧ 16 ≤ 16 from ⟨by decide, by decide⟩) (fun c_150 y_153 hI_151 hF_152 hy_153 h_154 => ?_))
              refine bk_inl ?_
              refine q_iload_n rfl rfl ?_
              by_cases h_155 : y_153 ≥ a2
              · refine v_ic_ge_t (t := 129) rfl (by decide) ⟨(Int.le_trans (by decide) ha2.1), h_155, (Int.le_trans hy_153.2 (by decide))⟩ ?_
                refine q_aload_n rfl rfl ?_
                have kn_156 : Hid (c_145 41 20 = c 41 20) := (hF_147 41 20 (fun h => absurd h.2 (ni rfl))).trans (hid kn_144)
                have kn_157 : Hid (c_150 41 20 = c 41 20) := (hF_152 41 20 (fun h => absurd h.2 (ni rfl))).trans (hid kn_156)
                refine v_gi (z := 20) (v := c 41 20) rfl rfl rfl (by decide) rfl rfl (hid kn_157) ?_
                refine v_if_le_f (t := 149) rfl (by decide) (by omega) ?_
                refine q_aload_n rfl rfl ?_
                refine q_aload_n rfl rfl ?_
                refine q_aload_n rfl rfl ?_
                refine v_gi (z := 20) (v := c 41 20) rfl rfl rfl (by decide) rfl rfl (hid kn_157) ?_
                refine v_cv rfl rfl rfl rfl (by decide) ⟨⟨rfl, rfl⟩, by decide, rfl⟩ (Nat.le_of_ble_eq_true rfl) (Nat.le_of_ble_eq_true rfl) (s_252 (a1 := c 41 20) hI_151 (show 1 ≤ c 41 20 ∧ c 41 20 ≤ 16 from ⟨by omega, by omega⟩) (fun c_158 y_161 hI_159 hF_160 hy_161 h_162 => ?_))
                refine bk_inl ?_
                refine v_cv rfl rfl rfl rfl (by decide) ⟨⟨rfl, rfl⟩, by decide, rfl⟩ (Nat.le_of_ble_eq_true rfl) (Nat.le_of_ble_eq_true rfl) (s_198 (a1 := y_161) hI_159 (show 0 ≤ y_161 ∧ y_161 ≤ 5 from ⟨hy_161.1, by first | (clear ha1 ha2 ha3 hv4 h_8 h_95 h_101 h_121 h_143 h_149 h_154 h_155; omega) | omega⟩) (fun c_163 y_166 hI_164 hF_165 hy_166 => ?_))
                refine bk_inl ?_
                refine q_pop rfl rfl ?_
                refine q_aload_n rfl rfl ?_
                refine v_cv rfl rfl rfl rfl (by decide) ⟨⟨rfl, rfl⟩, by decide, rfl⟩ (Nat.le_of_ble_eq_true rfl) (Nat.le_of_ble_eq_true rfl) (s_199 hI_164 (fun c_167 hI_168 hF_169 => ?_))
                refine bk_inl ?_
                refine v_iinc (v := v4 + 1) rfl rfl (by decide) rfl ?_
                refine q_goto (t := 12) rfl (by decide) ?_
                refine Wp_ls [(0, .ref 41), (1, vi a1), (2, vi a2), (3, vi a3), (4, vi (v4 + 1))] (lsub_cons rfl (lsub_cons rfl (lsub_cons rfl (lsub_cons rfl (lsub_cons rfl lsub_nil))))) ?_
                exact ih c_167 (v4 + 1) hI_168 (fun a j hm => (hF_169 a j (fun h => hm (Or.inr (Or.inl h)))).trans ((hF_165 a j (fun q => q.elim (fun h => hm (Or.inr (Or.inl h))) (fun q => q.elim (fun h => hm (Or.inr (Or.inr (Or.inl h)))) (fun h => hm (Or.inr (Or.inr (Or.inr h))))))).trans ((hF_160 a j (fun h => hm (Or.inl h))).trans ((hF_152 a j (fun h => hm (Or.inl h))).trans ((hF_147 a j (fun h => hm (Or.inl h))).trans ((hF_141 a j (fun h => hm (Or.inl h))).trans ((hF_104 a j (fun h => hm (Or.inr (Or.inl h)))).trans ((hF_99 a j (fun h => hm (Or.inl h))).trans ((hF_93 a j (fun h => hm (Or.inl h))).trans (hF a j (fun q => q.elim (fun h => hm (Or.inl h)) (fun q => q.elim (fun h => hm (Or.inr (Or.inl h))) (fun q => q.elim (fun h => hm (Or.inr (Or.inr (Or.inl h)))) (fun h => hm (Or.inr (Or.inr (Or.inr h))))))))))))))))) ⟨by first | exact rgp_l hv4.1 (by decide) | omega, by first | (clear ha1 ha2 hv4 h_2 h_8 h_95 h_101 h_121 h_143 h_149 h_154 h_155 h_162; omega) | omega⟩ (by omega)
              · refine v_ic_ge_f (t := 129) rfl (by decide) ⟨(Int.le_trans (by decide) hy_153.1), (Int.not_le.mp h_155), (Int.le_trans ha2.2 (by decide))⟩ ?_
                refine q_aload_n rfl rfl ?_
                refine q_iload rfl rfl ?_
                refine q_iload rfl rfl ?_
                refine q_iload rfl rfl ?_
                refine q_iconst rfl ?_
                refine v_iadd (v := y_148 + 1) rfl rfl ?_
                refine q_aload_n rfl rfl ?_
                have kn_170 : Hid (c_145 41 20 = c 41 20) := (hF_147 41 20 (fun h => absurd h.2 (ni rfl))).trans (hid kn_144)
                have kn_171 : Hid (c_150 41 20 = c 41 20) := (hF_152 41 20 (fun h => absurd h.2 (ni rfl))).trans (hid kn_170)
                refine v_gi (z := 20) (v := c 41 20) rfl rfl rfl (by decide) rfl rfl (hid kn_171) ?_
                have h_172 : 0 ≤ ((y_148 + 1) % (c 41 20)) ∧ ((y_148 + 1) % (c 41 20)) < c 41 20 := rem_bd (by omega)
                refine v_irem (v := ((y_148 + 1) % (c 41 20))) rfl (by omega) rfl ?_
                refine q_iload rfl rfl ?_
                refine q_iconst rfl ?_
                refine v_iadd (v := y_148 + 2) rfl rfl ?_
                refine q_aload_n rfl rfl ?_
                refine v_gi (z := 20) (v := c 41 20) rfl rfl rfl (by decide) rfl rfl (hid kn_171) ?_
                have h_173 : 0 ≤ ((y_148 + 2) % (c 41 20)) ∧ ((y_148 + 2) % (c 41 20)) < c 41 20 := rem_bd (by omega)
                refine v_irem (v := ((y_148 + 2) % (c 41 20))) rfl (by omega) rfl ?_
                refine v_cv rfl rfl rfl rfl (by decide) ⟨⟨rfl, rfl⟩, by decide, rfl⟩ (Nat.le_of_ble_eq_true rfl) (Nat.le_of_ble_eq_true rfl) (s_193 (a1 := y_142) (a2 := y_148) (a3 := ((y_148 + 1) % (c 41 20))) (a4 := ((y_148 + 2) % (c 41 20))) hI_151 (show 0 ≤ y_142 ∧ y_142 ≤ 3 from ⟨hy_142.1, by first | (clear ha1 ha2 ha3 hv4 h_2 h_8 h_95 h_101 h_149 h_154 h_172 h_173; omega) | omega⟩) (show 0 ≤ y_148 ∧ y_148 ≤ 5 from ⟨hy_148.1, by first | (clear ha1 ha2 ha3 hv4 h_8 h_95 h_101 h_121 h_143 h_154 h_172 h_173; omega) | omega⟩) (show 0 ≤ ((y_148 + 1) % (c 41 20)) ∧ ((y_148 + 1) % (c 41 20)) ≤ 5 from ⟨by first | (clear ha1 ha2 ha3 hv4 h_2 h_8 h_95 h_101 h_121 h_143 h_149 h_154 h_173; omega) | omega, by first | (clear ha1 ha2 ha3 hv4 h_8 h_95 h_101 h_121 h_143 h_149 h_154 h_173; omega) | omega⟩) (show 0 ≤ ((y_148 + 2) % (c 41 20)) ∧ ((y_148 + 2) % (c 41 20)) ≤ 5 from ⟨by first | (clear ha1 ha2 ha3 hv4 h_2 h_8 h_95 h_101 h_121 h_143 h_149 h_154 h_172; omega) | omega, by first | (clear ha1 ha2 ha3 hv4 h_8 h_95 h_101 h_121 h_143 h_149 h_154 h_172; omega) | omega⟩) (fun c_174 y_177 hI_175 hF_176 hy_177 => ?_))
                refine bk_inl ?_
                refine q_pop rfl rfl ?_
                refine q_aload_n rfl rfl ?_
                have kn_178 : Hid (c_174 41 20 = c 41 20) := (hF_176 41 20 (fun h => absurd h (nn rfl))).trans (hid kn_171)
                refine v_gi (z := 20) (v := c 41 20) rfl rfl rfl (by decide) rfl rfl (hid kn_178) ?_
                refine v_if_le_f (t := 149) rfl (by decide) ⟨by decide, by first | (clear ha1 ha2 ha3 hv4 h_2 h_8 h_95 h_101 h_121 h_143 h_149 h_154 h_172 h_173; omega) | omega, by first | (clear ha1 ha2 ha3 hv4 h_8 h_95 h_101 h_121 h_143 h_149 h_154 h_172 h_173; omega) | omega⟩ ?_
                refine q_aload_n rfl rfl ?_
                refine q_aload_n rfl rfl ?_
                refine q_aload_n rfl rfl ?_
                refine v_gi (z := 20) (v := c 41 20) rfl rfl rfl (by decide) rfl rfl (hid kn_178) ?_
                refine v_cv rfl rfl rfl rfl (by decide) ⟨⟨rfl, rfl⟩, by decide, rfl⟩ (Nat.le_of_ble_eq_true rfl) (Nat.le_of_ble_eq_true rfl) (s_252 (a1 := c 41 20) hI_175 (show 1 ≤ c 41 20 ∧ c 41 20 ≤ 16 from ⟨by first | (clear ha1 ha2 ha3 hv4 h_2 h_8 h_95 h_101 h_121 h_143 h_149 h_154 h_172 h_173; omega) | omega, by first | (clear ha1 ha2 ha3 hv4 h_8 h_95 h_101 h_121 h_143 h_149 h_154 h_172 h_173; omega) | omega⟩) (fun c_179 y_182 hI_180 hF_181 hy_182 h_183 => ?_))
                refine bk_inl ?_
                refine v_cv rfl rfl rfl rfl (by decide) ⟨⟨rfl, rfl⟩, by decide, rfl⟩ (Nat.le_of_ble_eq_true rfl) (Nat.le_of_ble_eq_true rfl) (s_198 (a1 := y_182) hI_180 (show 0 ≤ y_182 ∧ y_182 ≤ 5 from ⟨hy_182.1, by first | (clear ha1 ha2 ha3 hv4 h_8 h_95 h_101 h_121 h_143 h_149 h_154 h_172 h_173; omega) | omega⟩) (fun c_184 y_187 hI_185 hF_186 hy_187 => ?_))
                refine bk_inl ?_
                refine q_pop rfl rfl ?_
                refine q_aload_n rfl rfl ?_
                refine v_cv rfl rfl rfl rfl (by decide) ⟨⟨rfl, rfl⟩, by decide, rfl⟩ (Nat.le_of_ble_eq_true rfl) (Nat.le_of_ble_eq_true rfl) (s_199 hI_185 (fun c_188 hI_189 hF_190 => ?_))
                refine bk_inl ?_
                refine v_iinc (v := v4 + 1) rfl rfl (by decide) rfl ?_
                refine q_goto (t := 12) rfl (by decide) ?_
                refine Wp_ls [(0, .ref 41), (1, vi a1), (2, vi a2), (3, vi a3), (4, vi (v4 + 1))] (lsub_cons rfl (lsub_cons rfl (lsub_cons rfl (lsub_cons rfl (lsub_cons rfl lsub_nil))))) ?_
                exact ih c_188 (v4 + 1) hI_189 (fun a j hm => (hF_190 a j (fun h => hm (Or.inr (Or.inl h)))).trans ((hF_186 a j (fun q => q.elim (fun h => hm (Or.inr (Or.inl h))) (fun q => q.elim (fun h => hm (Or.inr (Or.inr (Or.inl h)))) (fun h => hm (Or.inr (Or.inr (Or.inr h))))))).trans ((hF_181 a j (fun h => hm (Or.inl h))).trans ((hF_176 a j (fun h => hm (Or.inr (Or.inl h)))).trans ((hF_152 a j (fun h => hm (Or.inl h))).trans ((hF_147 a j (fun h => hm (Or.inl h))).trans ((hF_141 a j (fun h => hm (Or.inl h))).trans ((hF_104 a j (fun h => hm (Or.inr (Or.inl h)))).trans ((hF_99 a j (fun h => hm (Or.inl h))).trans ((hF_93 a j (fun h => hm (Or.inl h))).trans (hF a j (fun q => q.elim (fun h => hm (Or.inl h)) (fun q => q.elim (fun h => hm (Or.inr (Or.inl h))) (fun q => q.elim (fun h => hm (Or.inr (Or.inr (Or.inl h)))) (fun h => hm (Or.inr (Or.inr (Or.inr h)))))))))))))))))) ⟨by first | exact rgp_l hv4.1 (by decide) | omega, by first | (clear ha1 ha2 hv4 h_2 h_8 h_95 h_101 h_121 h_143 h_149 h_154 h_172 h_173 h_183; omega) | omega⟩ (by omega)
set_option maxRecDepth 100000 in
set_option maxHeartbeats 4000000 in
theorem s_253 {sc : List Int32} {d P Q : Nat} {c : ME} {a1 : Int} {a2 : Int} {a3 : Int} {Z : AR → Prop} (hI : Iv 0 (-1) P Q c) (ha1 : (-2147483648) ≤ a1 ∧ a1 ≤ 2147483647) (ha2 : 0 ≤ a2 ∧ a2 ≤ 16) (ha3 : 1 ≤ a3 ∧ a3 ≤ 48) (K : ∀ (c2 : ME), Iv 0 (-1) P Q c2 → (∀ (a : Nat) (j : Int), ¬ ((a = 41 ∧ j = 50) ∨ a = 59 ∨ a = 54 ∨ a = 55) → c2 a j = c a j) → Z (.inl (none), Wd P Q P P c2, 0, 0)) : Wp sc (d + 14) 253 0 [(0, .ref 41), (1, vi a1), (2, vi a2), (3, vi a3)] [] (Wd P Q P P c) 0 0 Z := by
  have hP := iv_P hI
  have hQ := iv_Q hI
  refine q_aload_n rfl rfl ?_
  refine v_cv rfl rfl rfl rfl (by decide) ⟨⟨rfl, rfl⟩, by decide, rfl⟩ (Nat.le_of_ble_eq_true rfl) (Nat.le_of_ble_eq_true rfl) (s_186 hI (fun c_191 hI_192 hF_193 => ?_))
  refine bk_inl ?_
  refine q_aload_n rfl rfl ?_
  refine q_iload_n rfl rfl ?_
  refine v_pi (z := 50) rfl rfl rfl (by decide) rfl rfl rfl (by decide) ?_
  refine q_iconst rfl ?_
  refine q_istore rfl (by decide) ?_
  have hI_194 := iw_41_50 (v := a1) hI_192 ⟨ha1.1, ha1.2⟩
  refine Wp_ls [(0, .ref 41), (1, vi a1), (2, vi a2), (3, vi a3), (4, vi 0)] (lsub_cons rfl (lsub_cons rfl (lsub_cons rfl (lsub_cons rfl (lsub_cons rfl lsub_nil))))) ?_
  exact (s_253_l (sc := sc) (d := d) hI ha1 ha2 ha3 K 100) (up c_191 41 50 a1) 0 hI_194 (fun a j hm => (up_b (Decidable.or_iff_not_imp_left.mpr (fun h1 h2 => hm (Or.inl ⟨Decidable.not_not.mp h1, h2⟩)))).trans (hF_193 a j (fun h => hm (Or.inr (Or.inl h))))) ⟨by decide, by decide⟩ (by omega)

set_option maxRecDepth 100000 in
set_option maxHeartbeats 4000000 in
theorem s_255 {sc : List Int32} {d P Q : Nat} {c : ME} {a1 : Int} {a2 : Int} {a3 : Int} {a4 : Int} {Z : AR → Prop} (hI : Iv 0 (-1) P Q c) (ha1 : (-2147483648) ≤ a1 ∧ a1 ≤ 2147483647) (ha2 : (-2147483648) ≤ a2 ∧ a2 ≤ 2147483647) (ha3 : (-2147483648) ≤ a3 ∧ a3 ≤ 2147483647) (ha4 : (-2147483648) ≤ a4 ∧ a4 ≤ 2147483647) (K : ∀ (c2 : ME) (y : Int), Iv 0 (-1) P Q c2 → (∀ (a : Nat) (j : Int), ¬ ((a = 41 ∧ j = 0) ∨ a = 42 ∨ (a = 41 ∧ j = 50) ∨ a = 59 ∨ a = 54 ∨ a = 55) → c2 a j = c a j) → (-2147483648) ≤ y ∧ y ≤ 2147483647 → Z (.inl (some (vi y)), Wd P Q P P c2, 0, 0)) : Wp sc (d + 15) 255 0 [(0, .ref 41), (1, vi a1), (2, vi a2), (3, vi a3), (4, vi a4)] [] (Wd P Q P P c) 0 0 Z := by
  have hP := iv_P hI
  have hQ := iv_Q hI
  refine q_aload_n rfl rfl ?_
  refine q_iconst rfl ?_
  refine v_pi (z := 0) rfl rfl rfl (by decide) rfl rfl rfl (by decide) ?_
  refine q_aload_n rfl rfl ?_
  refine q_iload_n rfl rfl ?_
  refine q_iload_n rfl rfl ?_
  refine q_call rfl rfl rfl rfl ?_
  refine q_iload_n rfl rfl ?_
  by_cases h_1 : a2 < 0
  · refine v_if_lt_t (t := 25) rfl (by decide) ⟨ha2.1, h_1, by decide⟩ ?_
    refine q_iconst rfl ?_
    refine v_zret rfl rfl (by decide) ?_
    refine bk_inl ?_
    refine v_if_eq_t (t := 28) rfl (by decide) (by decide) ?_
    refine q_iconst rfl ?_
    refine q_iconst rfl ?_
    refine q_iconst rfl ?_
    refine v_cv rfl rfl rfl rfl (by decide) ⟨⟨rfl, rfl⟩, by decide, rfl⟩ (Nat.le_of_ble_eq_true rfl) (Nat.le_of_ble_eq_true rfl) ?_
    refine q_iload_n rfl rfl ?_
    refine v_if_ne_f (t := 26) rfl (by decide) (by decide) ?_
    refine q_aload_n rfl rfl ?_
    refine v_gi (z := 0) (v := 0) rfl rfl rfl (by decide) rfl rfl (up_e rfl) ?_
    refine v_if_ne_f (t := 26) rfl (by decide) (by decide) ?_
    refine q_aload_n rfl rfl ?_
    refine q_iload_n rfl rfl ?_
    refine v_pi (z := 0) rfl rfl rfl (by decide) rfl rfl rfl (by decide) ?_
    refine q_aload_n rfl rfl ?_
    refine v_gr (t := 42) rfl rfl rfl (by decide) rfl ?_
    refine q_iload_n rfl rfl ?_
    refine q_dup2 rfl ⟨rfl, rfl⟩ ?_
    have h_2 := ir_42 hI 1
    refine v_ia (v := c 42 1) rfl rfl (by decide) (by decide) (by decide) ((up_c (nn rfl)).trans (up_c (nn rfl))) ?_
    refine q_iconst rfl ?_
    refine v_iadd (v := c 42 1 + 1) rfl rfl ?_
    refine v_nrm (fun y_3 hy_3 => ?_)
    refine v_is rfl rfl (by decide) (by decide) (by decide) ?_
    refine q_aload_n rfl rfl ?_
    refine v_gi (z := 0) (v := 1) rfl rfl rfl (by decide) rfl rfl ((up_c (nn rfl)).trans (up_e rfl)) ?_
    refine v_if_ne_t (t := 37) rfl (by decide) (by decide) ?_
    refine q_iconst rfl ?_
    refine v_zret rfl rfl (by decide) ?_
    refine bk_inl ?_
    refine v_if_ne_f (t := 39) rfl (by decide) (by decide) ?_
    refine q_iconst rfl ?_
    refine q_iret rfl rfl ?_
    have hI_4 := iw_41_0 (v := 0) hI ⟨by decide, by decide⟩
    have hI_5 := iw_41_0 (v := 1) hI_4 ⟨by decide, by decide⟩
    have hI_6 := iw_42 (j := 1) (v := y_3) hI_5 ⟨hy_3.1, hy_3.2⟩
    exact K (up (up (up c 41 0 0) 41 0 1) 42 1 y_3) 0 hI_6 (fun a j hm => (up_b (Decidable.or_iff_not_imp_left.mpr (fun h1 h2 => hm (Or.inr (Or.inl (Decidable.not_not.mp h1)))))).trans ((up_b (Decidable.or_iff_not_imp_left.mpr (fun h1 h2 => hm (Or.inl ⟨Decidable.not_not.mp h1, h2⟩)))).trans (up_b (Decidable.or_iff_not_imp_left.mpr (fun h1 h2 => hm (Or.inl ⟨Decidable.not_not.mp h1, h2⟩)))))) ⟨by decide, by decide⟩
  · refine v_if_lt_f (t := 25) rfl (by decide) ⟨by decide, (Int.not_lt.mp h_1), ha2.2⟩ ?_
    refine q_iload_n rfl rfl ?_
    refine v_bip rfl (by decide) ?_
    by_cases h_7 : a2 > 16
    · refine v_ic_gt_t (t := 25) rfl (by decide) ⟨by decide, h_7, ha2.2⟩ ?_
      refine q_iconst rfl ?_
      refine v_zret rfl rfl (by decide) ?_
      refine bk_inl ?_
      refine v_if_eq_t (t := 28) rfl (by decide) (by decide) ?_
      refine q_iconst rfl ?_
      refine q_iconst rfl ?_
      refine q_iconst rfl ?_
      refine v_cv rfl rfl rfl rfl (by decide) ⟨⟨rfl, rfl⟩, by decide, rfl⟩ (Nat.le_of_ble_eq_true rfl) (Nat.le_of_ble_eq_true rfl) ?_
      refine q_iload_n rfl rfl ?_
      refine v_if_ne_f (t := 26) rfl (by decide) (by decide) ?_
      refine q_aload_n rfl rfl ?_
      refine v_gi (z := 0) (v := 0) rfl rfl rfl (by decide) rfl rfl (up_e rfl) ?_
      refine v_if_ne_f (t := 26) rfl (by decide) (by decide) ?_
      refine q_aload_n rfl rfl ?_
      refine q_iload_n rfl rfl ?_
      refine v_pi (z := 0) rfl rfl rfl (by decide) rfl rfl rfl (by decide) ?_
      refine q_aload_n rfl rfl ?_
      refine v_gr (t := 42) rfl rfl rfl (by decide) rfl ?_
      refine q_iload_n rfl rfl ?_
      refine q_dup2 rfl ⟨rfl, rfl⟩ ?_
      have h_8 := ir_42 hI 1
      refine v_ia (v := c 42 1) rfl rfl (by decide) (by decide) (by decide) ((up_c (nn rfl)).trans (up_c (nn rfl))) ?_
      refine q_iconst rfl ?_
      refine v_iadd (v := c 42 1 + 1) rfl rfl ?_
      refine v_nrm (fun y_9 hy_9 => ?_)
      refine v_is rfl rfl (by decide) (by decide) (by decide) ?_
      refine q_aload_n rfl rfl ?_
      refine v_gi (z := 0) (v := 1) rfl rfl rfl (by decide) rfl rfl ((up_c (nn rfl)).trans (up_e rfl)) ?_
      refine v_if_ne_t (t := 37) rfl (by decide) (by decide) ?_
      refine q_iconst rfl ?_
      refine v_zret rfl rfl (by decide) ?_
      refine bk_inl ?_
      refine v_if_ne_f (t := 39) rfl (by decide) (by decide) ?_
      refine q_iconst rfl ?_
      refine q_iret rfl rfl ?_
      have hI_10 := iw_41_0 (v := 0) hI ⟨by decide, by decide⟩
      have hI_11 := iw_41_0 (v := 1) hI_10 ⟨by decide, by decide⟩
      have hI_12 := iw_42 (j := 1) (v := y_9) hI_11 ⟨hy_9.1, hy_9.2⟩
      exact K (up (up (up c 41 0 0) 41 0 1) 42 1 y_9) 0 hI_12 (fun a j hm => (up_b (Decidable.or_iff_not_imp_left.mpr (fun h1 h2 => hm (Or.inr (Or.inl (Decidable.not_not.mp h1)))))).trans ((up_b (Decidable.or_iff_not_imp_left.mpr (fun h1 h2 => hm (Or.inl ⟨Decidable.not_not.mp h1, h2⟩)))).trans (up_b (Decidable.or_iff_not_imp_left.mpr (fun h1 h2 => hm (Or.inl ⟨Decidable.not_not.mp h1, h2⟩)))))) ⟨by decide, by decide⟩
    · refine v_ic_gt_f (t := 25) rfl (by decide) ⟨ha2.1, (Int.not_lt.mp h_7), by decide⟩ ?_
      refine q_iload_n rfl rfl ?_
      refine q_iconst rfl ?_
      by_cases h_13 : a3 < 1
      · refine v_ic_lt_t (t := 25) rfl (by decide) ⟨ha3.1, h_13, by decide⟩ ?_
        refine q_iconst rfl ?_
        refine v_zret rfl rfl (by decide) ?_
        refine bk_inl ?_
        refine v_if_eq_t (t := 28) rfl (by decide) (by decide) ?_
        refine q_iconst rfl ?_
        refine q_iconst rfl ?_
        refine q_iconst rfl ?_
        refine v_cv rfl rfl rfl rfl (by decide) ⟨⟨rfl, rfl⟩, by decide, rfl⟩ (Nat.le_of_ble_eq_true rfl) (Nat.le_of_ble_eq_true rfl) ?_
        refine q_iload_n rfl rfl ?_
        refine v_if_ne_f (t := 26) rfl (by decide) (by decide) ?_
        refine q_aload_n rfl rfl ?_
        refine v_gi (z := 0) (v := 0) rfl rfl rfl (by decide) rfl rfl (up_e rfl) ?_
        refine v_if_ne_f (t := 26) rfl (by decide) (by decide) ?_
        refine q_aload_n rfl rfl ?_
        refine q_iload_n rfl rfl ?_
        refine v_pi (z := 0) rfl rfl rfl (by decide) rfl rfl rfl (by decide) ?_
        refine q_aload_n rfl rfl ?_
        refine v_gr (t := 42) rfl rfl rfl (by decide) rfl ?_
        refine q_iload_n rfl rfl ?_
        refine q_dup2 rfl ⟨rfl, rfl⟩ ?_
        have h_14 := ir_42 hI 1
        refine v_ia (v := c 42 1) rfl rfl (by decide) (by decide) (by decide) ((up_c (nn rfl)).trans (up_c (nn rfl))) ?_
        refine q_iconst rfl ?_
        refine v_iadd (v := c 42 1 + 1) rfl rfl ?_
        refine v_nrm (fun y_15 hy_15 => ?_)
        refine v_is rfl rfl (by decide) (by decide) (by decide) ?_
        refine q_aload_n rfl rfl ?_
        refine v_gi (z := 0) (v := 1) rfl rfl rfl (by decide) rfl rfl ((up_c (nn rfl)).trans (up_e rfl)) ?_
        refine v_if_ne_t (t := 37) rfl (by decide) (by decide) ?_
        refine q_iconst rfl ?_
        refine v_zret rfl rfl (by decide) ?_
        refine bk_inl ?_
        refine v_if_ne_f (t := 39) rfl (by decide) (by decide) ?_
        refine q_iconst rfl ?_
        refine q_iret rfl rfl ?_
        have hI_16 := iw_41_0 (v := 0) hI ⟨by decide, by decide⟩
        have hI_17 := iw_41_0 (v := 1) hI_16 ⟨by decide, by decide⟩
        have hI_18 := iw_42 (j := 1) (v := y_15) hI_17 ⟨hy_15.1, hy_15.2⟩
        exact K (up (up (up c 41 0 0) 41 0 1) 42 1 y_15) 0 hI_18 (fun a j hm => (up_b (Decidable.or_iff_not_imp_left.mpr (fun h1 h2 => hm (Or.inr (Or.inl (Decidable.not_not.mp h1)))))).trans ((up_b (Decidable.or_iff_not_imp_left.mpr (fun h1 h2 => hm (Or.inl ⟨Decidable.not_not.mp h1, h2⟩)))).trans (up_b (Decidable.or_iff_not_imp_left.mpr (fun h1 h2 => hm (Or.inl ⟨Decidable.not_not.mp h1, h2⟩)))))) ⟨by decide, by decide⟩
      · refine v_ic_lt_f (t := 25) rfl (by decide) ⟨by decide, (Int.not_lt.mp h_13), ha3.2⟩ ?_
        refine q_iload_n rfl rfl ?_
        refine v_bip rfl (by decide) ?_
        by_cases h_19 : a3 > 48
        · refine v_ic_gt_t (t := 25) rfl (by decide) ⟨by decide, h_19, ha3.2⟩ ?_
          refine q_iconst rfl ?_
          refine v_zret rfl rfl (by decide) ?_
          refine bk_inl ?_
          refine v_if_eq_t (t := 28) rfl (by decide) (by decide) ?_
          refine q_iconst rfl ?_
          refine q_iconst rfl ?_
          refine q_iconst rfl ?_
          refine v_cv rfl rfl rfl rfl (by decide) ⟨⟨rfl, rfl⟩, by decide, rfl⟩ (Nat.le_of_ble_eq_true rfl) (Nat.le_of_ble_eq_true rfl) ?_
          refine q_iload_n rfl rfl ?_
          refine v_if_ne_f (t := 26) rfl (by decide) (by decide) ?_
          refine q_aload_n rfl rfl ?_
          refine v_gi (z := 0) (v := 0) rfl rfl rfl (by decide) rfl rfl (up_e rfl) ?_
          refine v_if_ne_f (t := 26) rfl (by decide) (by decide) ?_
          refine q_aload_n rfl rfl ?_
          refine q_iload_n rfl rfl ?_
          refine v_pi (z := 0) rfl rfl rfl (by decide) rfl rfl rfl (by decide) ?_
          refine q_aload_n rfl rfl ?_
          refine v_gr (t := 42) rfl rfl rfl (by decide) rfl ?_
          refine q_iload_n rfl rfl ?_
          refine q_dup2 rfl ⟨rfl, rfl⟩ ?_
          have h_20 := ir_42 hI 1
          refine v_ia (v := c 42 1) rfl rfl (by decide) (by decide) (by decide) ((up_c (nn rfl)).trans (up_c (nn rfl))) ?_
          refine q_iconst rfl ?_
          refine v_iadd (v := c 42 1 + 1) rfl rfl ?_
          refine v_nrm (fun y_21 hy_21 => ?_)
          refine v_is rfl rfl (by decide) (by decide) (by decide) ?_
          refine q_aload_n rfl rfl ?_
          refine v_gi (z := 0) (v := 1) rfl rfl rfl (by decide) rfl rfl ((up_c (nn rfl)).trans (up_e rfl)) ?_
          refine v_if_ne_t (t := 37) rfl (by decide) (by decide) ?_
          refine q_iconst rfl ?_
          refine v_zret rfl rfl (by decide) ?_
          refine bk_inl ?_
          refine v_if_ne_f (t := 39) rfl (by decide) (by decide) ?_
          refine q_iconst rfl ?_
          refine q_iret rfl rfl ?_
          have hI_22 := iw_41_0 (v := 0) hI ⟨by decide, by decide⟩
          have hI_23 := iw_41_0 (v := 1) hI_22 ⟨by decide, by decide⟩
          have hI_24 := iw_42 (j := 1) (v := y_21) hI_23 ⟨hy_21.1, hy_21.2⟩
          exact K (up (up (up c 41 0 0) 41 0 1) 42 1 y_21) 0 hI_24 (fun a j hm => (up_b (Decidable.or_iff_not_imp_left.mpr (fun h1 h2 => hm (Or.inr (Or.inl (Decidable.not_not.mp h1)))))).trans ((up_b (Decidable.or_iff_not_imp_left.mpr (fun h1 h2 => hm (Or.inl ⟨Decidable.not_not.mp h1, h2⟩)))).trans (up_b (Decidable.or_iff_not_imp_left.mpr (fun h1 h2 => hm (Or.inl ⟨Decidable.not_not.mp h1, h2⟩)))))) ⟨by decide, by decide⟩
        · refine v_ic_gt_f (t := 25) rfl (by decide) ⟨ha3.1, (Int.not_lt.mp h_19), by decide⟩ ?_
          refine q_iconst rfl ?_
          refine q_goto (t := 26) rfl (by decide) ?_
          refine v_zret rfl rfl (by decide) ?_
          refine bk_inl ?_
          refine v_if_eq_f (t := 28) rfl (by decide) (by decide) ?_
          refine q_iload rfl rfl ?_
          refine q_iconst rfl ?_
          refine q_iconst rfl ?_
          refine q_call rfl rfl rfl rfl ?_
          refine q_iload_n rfl rfl ?_
          refine q_iload_n rfl rfl ?_
          by_cases h_25 : a4 < 0
          · refine v_ic_lt_t (t := 14) rfl (by decide) ⟨ha4.1, h_25, by decide⟩ ?_
            refine q_iconst rfl ?_
            refine v_zret rfl rfl (by decide) ?_
            refine bk_inl ?_
            refine v_if_eq_t (t := 28) rfl (by decide) (by decide) ?_
            refine q_iconst rfl ?_
            refine q_iconst rfl ?_
            refine q_iconst rfl ?_
            refine v_cv rfl rfl rfl rfl (by decide) ⟨⟨rfl, rfl⟩, by decide, rfl⟩ (Nat.le_of_ble_eq_true rfl) (Nat.le_of_ble_eq_true rfl) ?_
            refine q_iload_n rfl rfl ?_
            refine v_if_ne_f (t := 26) rfl (by decide) (by decide) ?_
            refine q_aload_n rfl rfl ?_
            refine v_gi (z := 0) (v := 0) rfl rfl rfl (by decide) rfl rfl (up_e rfl) ?_
            refine v_if_ne_f (t := 26) rfl (by decide) (by decide) ?_
            refine q_aload_n rfl rfl ?_
            refine q_iload_n rfl rfl ?_
            refine v_pi (z := 0) rfl rfl rfl (by decide) rfl rfl rfl (by decide) ?_
            refine q_aload_n rfl rfl ?_
            refine v_gr (t := 42) rfl rfl rfl (by decide) rfl ?_
            refine q_iload_n rfl rfl ?_
            refine q_dup2 rfl ⟨rfl, rfl⟩ ?_
            have h_26 := ir_42 hI 1
            refine v_ia (v := c 42 1) rfl rfl (by decide) (by decide) (by decide) ((up_c (nn rfl)).trans (up_c (nn rfl))) ?_
            refine q_iconst rfl ?_
            refine v_iadd (v := c 42 1 + 1) rfl rfl ?_
            refine v_nrm (fun y_27 hy_27 => ?_)
            refine v_is rfl rfl (by decide) (by decide) (by decide) ?_
            refine q_aload_n rfl rfl ?_
            refine v_gi (z := 0) (v := 1) rfl rfl rfl (by decide) rfl rfl ((up_c (nn rfl)).trans (up_e rfl)) ?_
            refine v_if_ne_t (t := 37) rfl (by decide) (by decide) ?_
            refine q_iconst rfl ?_
            refine v_zret rfl rfl (by decide) ?_
            refine bk_inl ?_
            refine v_if_ne_f (t := 39) rfl (by decide) (by decide) ?_
            refine q_iconst rfl ?_
            refine q_iret rfl rfl ?_
            have hI_28 := iw_41_0 (v := 0) hI ⟨by decide, by decide⟩
            have hI_29 := iw_41_0 (v := 1) hI_28 ⟨by decide, by decide⟩
            have hI_30 := iw_42 (j := 1) (v := y_27) hI_29 ⟨hy_27.1, hy_27.2⟩
            exact K (up (up (up c 41 0 0) 41 0 1) 42 1 y_27) 0 hI_30 (fun a j hm => (up_b (Decidable.or_iff_not_imp_left.mpr (fun h1 h2 => hm (Or.inr (Or.inl (Decidable.not_not.mp h1)))))).trans ((up_b (Decidable.or_iff_not_imp_left.mpr (fun h1 h2 => hm (Or.inl ⟨Decidable.not_not.mp h1, h2⟩)))).trans (up_b (Decidable.or_iff_not_imp_left.mpr (fun h1 h2 => hm (Or.inl ⟨Decidable.not_not.mp h1, h2⟩)))))) ⟨by decide, by decide⟩
          · refine v_ic_lt_f (t := 14) rfl (by decide) ⟨by decide, (Int.not_lt.mp h_25), ha4.2⟩ ?_
            refine q_iload_n rfl rfl ?_
            refine q_iload_n rfl rfl ?_
            by_cases h_31 : a4 > 3
            · refine v_ic_gt_t (t := 14) rfl (by decide) ⟨by decide, h_31, ha4.2⟩ ?_
              refine q_iconst rfl ?_
              refine v_zret rfl rfl (by decide) ?_
              refine bk_inl ?_
              refine v_if_eq_t (t := 28) rfl (by decide) (by decide) ?_
              refine q_iconst rfl ?_
              refine q_iconst rfl ?_
              refine q_iconst rfl ?_
              refine v_cv rfl rfl rfl rfl (by decide) ⟨⟨rfl, rfl⟩, by decide, rfl⟩ (Nat.le_of_ble_eq_true rfl) (Nat.le_of_ble_eq_true rfl) ?_
              refine q_iload_n rfl rfl ?_
              refine v_if_ne_f (t := 26) rfl (by decide) (by decide) ?_
              refine q_aload_n rfl rfl ?_
              refine v_gi (z := 0) (v := 0) rfl rfl rfl (by decide) rfl rfl (up_e rfl) ?_
              refine v_if_ne_f (t := 26) rfl (by decide) (by decide) ?_
              refine q_aload_n rfl rfl ?_
              refine q_iload_n rfl rfl ?_
              refine v_pi (z := 0) rfl rfl rfl (by decide) rfl rfl rfl (by decide) ?_
              refine q_aload_n rfl rfl ?_
              refine v_gr (t := 42) rfl rfl rfl (by decide) rfl ?_
              refine q_iload_n rfl rfl ?_
              refine q_dup2 rfl ⟨rfl, rfl⟩ ?_
              have h_32 := ir_42 hI 1
              refine v_ia (v := c 42 1) rfl rfl (by decide) (by decide) (by decide) ((up_c (nn rfl)).trans (up_c (nn rfl))) ?_
              refine q_iconst rfl ?_
              refine v_iadd (v := c 42 1 + 1) rfl rfl ?_
              refine v_nrm (fun y_33 hy_33 => ?_)
              refine v_is rfl rfl (by decide) (by decide) (by decide) ?_
              refine q_aload_n rfl rfl ?_
              refine v_gi (z := 0) (v := 1) rfl rfl rfl (by decide) rfl rfl ((up_c (nn rfl)).trans (up_e rfl)) ?_
              refine v_if_ne_t (t := 37) rfl (by decide) (by decide) ?_
              refine q_iconst rfl ?_
              refine v_zret rfl rfl (by decide) ?_
              refine bk_inl ?_
              refine v_if_ne_f (t := 39) rfl (by decide) (by decide) ?_
              refine q_iconst rfl ?_
              refine q_iret rfl rfl ?_
              have hI_34 := iw_41_0 (v := 0) hI ⟨by decide, by decide⟩
              have hI_35 := iw_41_0 (v := 1) hI_34 ⟨by decide, by decide⟩
              have hI_36 := iw_42 (j := 1) (v := y_33) hI_35 ⟨hy_33.1, hy_33.2⟩
              exact K (up (up (up c 41 0 0) 41 0 1) 42 1 y_33) 0 hI_36 (fun a j hm => (up_b (Decidable.or_iff_not_imp_left.mpr (fun h1 h2 => hm (Or.inr (Or.inl (Decidable.not_not.mp h1)))))).trans ((up_b (Decidable.or_iff_not_imp_left.mpr (fun h1 h2 => hm (Or.inl ⟨Decidable.not_not.mp h1, h2⟩)))).trans (up_b (Decidable.or_iff_not_imp_left.mpr (fun h1 h2 => hm (Or.inl ⟨Decidable.not_not.mp h1, h2⟩)))))) ⟨by decide, by decide⟩
            · refine v_ic_gt_f (t := 14) rfl (by decide) ⟨ha4.1, (Int.not_lt.mp h_31), by decide⟩ ?_
              refine q_iconst rfl ?_
              refine q_goto (t := 15) rfl (by decide) ?_
              refine v_zret rfl rfl (by decide) ?_
              refine bk_inl ?_
              refine v_if_eq_f (t := 28) rfl (by decide) (by decide) ?_
              refine q_iconst rfl ?_
              refine q_goto (t := 29) rfl (by decide) ?_
              refine q_iconst rfl ?_
              refine q_iconst rfl ?_
              refine v_cv rfl rfl rfl rfl (by decide) ⟨⟨rfl, rfl⟩, by decide, rfl⟩ (Nat.le_of_ble_eq_true rfl) (Nat.le_of_ble_eq_true rfl) ?_
              refine q_iload_n rfl rfl ?_
              refine v_if_ne_t (t := 26) rfl (by decide) (by decide) ?_
              refine q_aload_n rfl rfl ?_
              refine v_gi (z := 0) (v := 0) rfl rfl rfl (by decide) rfl rfl (up_e rfl) ?_
              refine v_if_ne_f (t := 37) rfl (by decide) (by decide) ?_
              refine q_iconst rfl ?_
              refine q_goto (t := 38) rfl (by decide) ?_
              refine v_zret rfl rfl (by decide) ?_
              refine bk_inl ?_
              refine v_if_ne_t (t := 39) rfl (by decide) (by decide) ?_
              refine q_aload_n rfl rfl ?_
              refine q_iload_n rfl rfl ?_
              refine q_iload_n rfl rfl ?_
              refine q_iload_n rfl rfl ?_
              have hI_37 := iw_41_0 (v := 0) hI ⟨by decide, by decide⟩
              refine v_cv rfl rfl rfl rfl (by decide) ⟨⟨rfl, rfl⟩, by decide, rfl⟩ (Nat.le_of_ble_eq_true rfl) (Nat.le_of_ble_eq_true rfl) (s_253 (a1 := a1) (a2 := a2) (a3 := a3) hI_37 (show (-2147483648) ≤ a1 ∧ a1 ≤ 2147483647 from ha1) (show 0 ≤ a2 ∧ a2 ≤ 16 from ⟨by omega, by omega⟩) (show 1 ≤ a3 ∧ a3 ≤ 48 from ⟨by omega, by omega⟩) (fun c_38 hI_39 hF_40 => ?_))
              refine bk_inl ?_
              refine q_iload rfl rfl ?_
              by_cases h_41 : a4 ≠ 0
              · refine v_if_ne_t (t := 69) rfl (by decide) ⟨h_41, ⟨ha4.1, ha4.2⟩, by decide, by decide⟩ ?_
                refine q_iload rfl rfl ?_
                refine q_iconst rfl ?_
                by_cases h_42 : a4 ≠ 1
                · refine v_ic_ne_t (t := 82) rfl (by decide) ⟨h_42, ⟨ha4.1, ha4.2⟩, by decide, by decide⟩ ?_
                  refine q_iload rfl rfl ?_
                  refine q_iconst rfl ?_
                  by_cases h_43 : a4 ≠ 2
                  · refine v_ic_ne_t (t := 106) rfl (by decide) ⟨h_43, ⟨ha4.1, ha4.2⟩, by decide, by decide⟩ ?_
                    refine q_aload_n rfl rfl ?_
                    refine v_cv rfl rfl rfl rfl (by decide) ⟨⟨rfl, rfl⟩, by decide, rfl⟩ (Nat.le_of_ble_eq_true rfl) (Nat.le_of_ble_eq_true rfl) (s_209 hI_39 (fun y_44 hy_44 => ?_))
                    refine bk_inl ?_
                    refine q_iret rfl rfl ?_
                    exact K c_38 y_44 hI_39 (fun a j hm => (hF_40 a j (fun q => q.elim (fun h => hm (Or.inr (Or.inr (Or.inl h)))) (fun q => q.elim (fun h => hm (Or.inr (Or.inr (Or.inr (Or.inl h))))) (fun q => q.elim (fun h => hm (Or.inr (Or.inr (Or.inr (Or.inr (Or.inl h)))))) (fun h => hm (Or.inr (Or.inr (Or.inr (Or.inr (Or.inr h)))))))))).trans (up_b (Decidable.or_iff_not_imp_left.mpr (fun h1 h2 => hm (Or.inl ⟨Decidable.not_not.mp h1, h2⟩))))) hy_44
                  · refine v_ic_ne_f (t := 106) rfl (by decide) (Decidable.not_not.mp h_43) ?_
                    refine q_aload_n rfl rfl ?_
                    refine v_gr (t := 59) rfl rfl rfl (by decide) rfl ?_
                    refine v_bip rfl (by decide) ?_
                    have h_45 := ir_59 hI_39 35
                    refine v_ia (v := c_38 59 35) rfl rfl (by decide) (by decide) (by decide) rfl ?_
                    refine q_aload_n rfl rfl ?_
                    refine v_gr (t := 58) rfl rfl rfl (by decide) rfl ?_
                    refine v_bip rfl (by decide) ?_
                    have h_46 := ir_58 hI 35
                    have kn_47 : Hid (c_38 58 35 = c 58 35) := (hF_40 58 35 (fun q => q.elim (fun h => absurd h.1 (nn rfl)) (fun q => q.elim (fun h => absurd h (nn rfl)) (fun q => q.elim (fun h => absurd h (nn rfl)) (fun h => absurd h (nn rfl)))))).trans (up_c (nn rfl))
                    refine v_ia (v := c 58 35) rfl rfl (by decide) (by decide) (by decide) (hid kn_47) ?_
                    refine v_isub (v := c_38 59 35 - c 58 35) rfl (by first | (clear ha1 ha2 ha3 ha4 h_45 h_46 h_41 h_42; omega) | omega) ?_
                    refine v_nrm (fun y_48 hy_48 => ?_)
                    refine q_goto (t := 110) rfl (by decide) ?_
                    refine q_iret rfl rfl ?_
                    exact K c_38 y_48 hI_39 (fun a j hm => (hF_40 a j (fun q => q.elim (fun h => hm (Or.inr (Or.inr (Or.inl h)))) (fun q => q.elim (fun h => hm (Or.inr (Or.inr (Or.inr (Or.inl h))))) (fun q => q.elim (fun h => hm (Or.inr (Or.inr (Or.inr (Or.inr (Or.inl h)))))) (fun h => hm (Or.inr (Or.inr (Or.inr (Or.inr (Or.inr h)))))))))).trans (up_b (Decidable.or_iff_not_imp_left.mpr (fun h1 h2 => hm (Or.inl ⟨Decidable.not_not.mp h1, h2⟩))))) hy_48
                · refine v_ic_ne_f (t := 82) rfl (by decide) (Decidable.not_not.mp h_42) ?_
                  refine q_aload_n rfl rfl ?_
                  refine v_cv rfl rfl rfl rfl (by decide) ⟨⟨rfl, rfl⟩, by decide, rfl⟩ (Nat.le_of_ble_eq_true rfl) (Nat.le_of_ble_eq_true rfl) (s_203 hI_39 (fun y_49 hy_49 => ?_))
                  refine bk_inl ?_
                  refine q_goto (t := 110) rfl (by decide) ?_
                  refine q_iret rfl rfl ?_
                  exact K c_38 y_49 hI_39 (fun a j hm => (hF_40 a j (fun q => q.elim (fun h => hm (Or.inr (Or.inr (Or.inl h)))) (fun q => q.elim (fun h => hm (Or.inr (Or.inr (Or.inr (Or.inl h))))) (fun q => q.elim (fun h => hm (Or.inr (Or.inr (Or.inr (Or.inr (Or.inl h)))))) (fun h => hm (Or.inr (Or.inr (Or.inr (Or.inr (Or.inr h)))))))))).trans (up_b (Decidable.or_iff_not_imp_left.mpr (fun h1 h2 => hm (Or.inl ⟨Decidable.not_not.mp h1, h2⟩))))) hy_49
              · refine v_if_ne_f (t := 69) rfl (by decide) (Decidable.not_not.mp h_41) ?_
                refine q_aload_n rfl rfl ?_
                refine v_gr (t := 59) rfl rfl rfl (by decide) rfl ?_
                refine v_bip rfl (by decide) ?_
                have h_50 := ir_59 hI_39 36
                refine v_ia (v := c_38 59 36) rfl rfl (by decide) (by decide) (by decide) rfl ?_
                refine q_aload_n rfl rfl ?_
                refine v_gr (t := 58) rfl rfl rfl (by decide) rfl ?_
                refine v_bip rfl (by decide) ?_
                have h_51 := ir_58 hI 36
                have kn_52 : Hid (c_38 58 36 = c 58 36) := (hF_40 58 36 (fun q => q.elim (fun h => absurd h.1 (nn rfl)) (fun q => q.elim (fun h => absurd h (nn rfl)) (fun q => q.elim (fun h => absurd h (nn rfl)) (fun h => absurd h (nn rfl)))))).trans (up_c (nn rfl))
                refine v_ia (v := c 58 36) rfl rfl (by decide) (by decide) (by decide) (hid kn_52) ?_
                refine v_isub (v := c_38 59 36 - c 58 36) rfl (by omega) ?_
                refine v_nrm (fun y_53 hy_53 => ?_)
                refine q_goto (t := 110) rfl (by decide) ?_
                refine q_iret rfl rfl ?_
                exact K c_38 y_53 hI_39 (fun a j hm => (hF_40 a j (fun q => q.elim (fun h => hm (Or.inr (Or.inr (Or.inl h)))) (fun q => q.elim (fun h => hm (Or.inr (Or.inr (Or.inr (Or.inl h))))) (fun q => q.elim (fun h => hm (Or.inr (Or.inr (Or.inr (Or.inr (Or.inl h)))))) (fun h => hm (Or.inr (Or.inr (Or.inr (Or.inr (Or.inr h)))))))))).trans (up_b (Decidable.or_iff_not_imp_left.mpr (fun h1 h2 => hm (Or.inl ⟨Decidable.not_not.mp h1, h2⟩))))) hy_53

set_option maxRecDepth 100000 in
set_option maxHeartbeats 4000000 in
theorem s_256_l {sc : List Int32} {d P Q : Nat} {c : ME} {a1 : Int} {a2 : Int} {a3 : Int} {a4 : Int} {a5 : Int} {a6 : Int} {Z : AR → Prop} (hI : Iv 0 (-1) P Q c) (ha1 : (-2147483648) ≤ a1 ∧ a1 ≤ 2147483647) (ha2 : (-2147483648) ≤ a2 ∧ a2 ≤ 2147483647) (ha3 : (-2147483648) ≤ a3 ∧ a3 ≤ 2147483647) (ha4 : (-2147483648) ≤ a4 ∧ a4 ≤ 2147483647) (ha5 : (-2147483648) ≤ a5 ∧ a5 ≤ 2147483647) (ha6 : (-2147483648) ≤ a6 ∧ a6 ≤ 2147483647) (K : ∀ (c2 : ME) (y : Int), Iv 0 (-1) P Q c2 → (∀ (a : Nat) (j : Int), ¬ ((a = 41 ∧ j = 0) ∨ a = 42 ∨ (a = 41 ∧ j = 50) ∨ a = 59 ∨ a = 54 ∨ a = 55) → c2 a j = c a j) → (-2147483648) ≤ y ∧ y ≤ 2147483647 → Z (.inl (some (vi y)), Wd P Q P P c2, 0, 0)) : ∀ n : Nat, (∀ (c2 : ME) (v7 : Int) (v8 : Int) (v9 : Int) (v10 : Int), Iv 0 (-1) P Q c2 → (∀ (a : Nat) (j : Int), ¬ ((a = 41 ∧ j = 0) ∨ a = 42 ∨ (a = 41 ∧ j = 50) ∨ a = 59 ∨ a = 54 ∨ a = 55) → c2 a j = c a j) → (-2147483648) ≤ v7 ∧ v7 ≤ 2147483647 → 0 ≤ v8 ∧ v8 ≤ 2147483647 → (-2147483648) ≤ v9 ∧ v9 ≤ 2147483647 → 0 ≤ v10 ∧ v10 ≤ 10 → ((a2 ≥ 1 ∧ a2 ≤ 10)) → ((a6 ≥ 0 ∧ a6 ≤ 5)) → ((a3 ≥ 0 ∧ a3 ≤ 16)) → ((a4 ≥ 1 ∧ a4 ≤ 48)) → 21 - 2 * v10 < (n : Int) → Wp sc (d + 15) 256 77 [(0, .ref 41), (1, vi a1), (2, vi a2), (3, vi a3), (4, vi a4), (5, vi a5), (6, vi a6), (7, vi v7), (8, vi v8), (9, vi v9), (10, vi v10)] [] (Wd P Q P P c2) 0 0 Z)
  | 0 => by intro c2 v7 v8 v9 v10 hI2 hF hv7 hv8 hv9 hv10 hx0 hx1 hx2 hx3 hm9; have hP := iv_P hI; have hQ := iv_Q hI; exfalso; omega
  | n + 1 => by
    have hP := iv_P hI
    have hQ := iv_Q hI
    have ih := s_256_l (sc := sc) (d := d) hI ha1 ha2 ha3 ha4 ha5 ha6 K n
    intro c2 v7 v8 v9 v10 hI2 hF hv7 hv8 hv9 hv10 hx0 hx1 hx2 hx3 hm9
    refine q_iload rfl rfl ?_
    refine q_iload_n rfl rfl ?_
    by_cases h_1 : v10 ≥ a2
    · refine v_ic_ge_t (t := 174) rfl (by decide) ⟨ha2.1, h_1, (Int.le_trans hv10.2 (by decide))⟩ ?_
      refine q_iload rfl rfl ?_
      by_cases h_2 : a5 ≠ 0
      · refine v_if_ne_t (t := 184) rfl (by decide) ⟨h_2, ⟨ha5.1, ha5.2⟩, by decide, by decide⟩ ?_
        refine q_iload rfl rfl ?_
        refine q_iconst rfl ?_
        by_cases h_3 : a5 ≠ 1
        · refine v_ic_ne_t (t := 195) rfl (by decide) ⟨h_3, ⟨ha5.1, ha5.2⟩, by decide, by decide⟩ ?_
          refine q_iload rfl rfl ?_
          refine q_iret rfl rfl ?_
          exact K c2 v9 hI2 (fun a j hm => hF a j (fun q => q.elim (fun h => hm (Or.inl h)) (fun q => q.elim (fun h => hm (Or.inr (Or.inl h))) (fun q => q.elim (fun h => hm (Or.inr (Or.inr (Or.inl h)))) (fun q => q.elim (fun h => hm (Or.inr (Or.inr (Or.inr (Or.inl h))))) (fun q => q.elim (fun h => hm (Or.inr (Or.inr (Or.inr (Or.inr (Or.inl h)))))) (fun h => hm (Or.inr (Or.inr (Or.inr (Or.inr (Or.inr h)))))))))))) hv9
        · refine v_ic_ne_f (t := 195) rfl (by decide) (Decidable.not_not.mp h_3) ?_
          refine q_iload rfl rfl ?_
          refine q_goto (t := 197) rfl (by decide) ?_
          refine q_iret rfl rfl ?_
          exact K c2 v8 hI2 (fun a j hm => hF a j (fun q => q.elim (fun h => hm (Or.inl h)) (fun q => q.elim (fun h => hm (Or.inr (Or.inl h))) (fun q => q.elim (fun h => hm (Or.inr (Or.inr (Or.inl h)))) (fun q => q.elim (fun h => hm (Or.inr (Or.inr (Or.inr (Or.inl h))))) (fun q => q.elim (fun h => hm (Or.inr (Or.inr (Or.inr (Or.inr (Or.inl h)))))) (fun h => hm (Or.inr (Or.inr (Or.inr (Or.inr (Or.inr h)))))))))))) ⟨(Int.le_trans (by decide) hv8.1), hv8.2⟩
      · refine v_if_ne_f (t := 184) rfl (by decide) (Decidable.not_not.mp h_2) ?_
        refine q_iload rfl rfl ?_
        refine q_goto (t := 197) rfl (by decide) ?_
        refine q_iret rfl rfl ?_
        exact K c2 v7 hI2 (fun a j hm => hF a j (fun q => q.elim (fun h => hm (Or.inl h)) (fun q => q.elim (fun h => hm (Or.inr (Or.inl h))) (fun q => q.elim (fun h => hm (Or.inr (Or.inr (Or.inl h)))) (fun q => q.elim (fun h => hm (Or.inr (Or.inr (Or.inr (Or.inl h))))) (fun q => q.elim (fun h => hm (Or.inr (Or.inr (Or.inr (Or.inr (Or.inl h)))))) (fun h => hm (Or.inr (Or.inr (Or.inr (Or.inr (Or.inr h)))))))))))) hv7
    · refine v_ic_ge_f (t := 174) rfl (by decide) ⟨(Int.le_trans (by decide) hv10.1), (Int.not_le.mp h_1), ha2.2⟩ ?_
      refine q_aload_n rfl rfl ?_
      refine q_iload_n rfl rfl ?_
      refine q_iload rfl rfl ?_
      refine v_iadd (v := a1 + v10) rfl rfl ?_
      refine v_nrm (fun y_4 hy_4 => ?_)
      refine q_iload_n rfl rfl ?_
      refine q_iload rfl rfl ?_
      refine v_cv rfl rfl rfl rfl (by decide) ⟨⟨rfl, rfl⟩, by decide, rfl⟩ (Nat.le_of_ble_eq_true rfl) (Nat.le_of_ble_eq_true rfl) (s_253 (a1 := y_4) (a2 := a3) (a3 := a4) hI2 (show (-2147483648) ≤ y_4 ∧ y_4 ≤ 2147483647 from hy_4) (show 0 ≤ a3 ∧ a3 ≤ 16 from ⟨by first | (clear ha1 ha2 ha3 ha4 ha5 ha6 hv7 hv8 hv9 hv10 hx0 hx1 hx3; omega) | omega, by first | (clear ha1 ha2 ha3 ha4 ha5 ha6 hv7 hv8 hv9 hv10 hx0 hx1 hx3; omega) | omega⟩) (show 1 ≤ a4 ∧ a4 ≤ 48 from ⟨by first | (clear ha1 ha2 ha3 ha4 ha5 ha6 hv7 hv8 hv9 hv10 hx0 hx1 hx2; omega) | omega, by first | (clear ha1 ha2 ha3 ha4 ha5 ha6 hv7 hv8 hv9 hv10 hx0 hx1 hx2; omega) | omega⟩) (fun c_5 hI_6 hF_7 => ?_))
      refine bk_inl ?_
      refine q_aload_n rfl rfl ?_
      refine v_gr (t := 59) rfl rfl rfl (by decide) rfl ?_
      refine v_bip rfl (by decide) ?_
      have h_8 := ir_59 hI_6 36
      refine v_ia (v := c_5 59 36) rfl rfl (by decide) (by decide) (by decide) rfl ?_
      refine q_aload_n rfl rfl ?_
      refine v_gr (t := 58) rfl rfl rfl (by decide) rfl ?_
      refine v_bip rfl (by decide) ?_
      have h_9 := ir_58 hI 36
      have kn_10 : Hid (c2 58 36 = c 58 36) := hF 58 36 (fun q => q.elim (fun h => absurd h.1 (nn rfl)) (fun q => q.elim (fun h => absurd h (nn rfl)) (fun q => q.elim (fun h => absurd h.1 (nn rfl)) (fun q => q.elim (fun h => absurd h (nn rfl)) (fun q => q.elim (fun h => absurd h (nn rfl)) (fun h => absurd h (nn rfl)))))))
      have kn_11 : Hid (c_5 58 36 = c 58 36) := (hF_7 58 36 (fun q => q.elim (fun h => absurd h.1 (nn rfl)) (fun q => q.elim (fun h => absurd h (nn rfl)) (fun q => q.elim (fun h => absurd h (nn rfl)) (fun h => absurd h (nn rfl)))))).trans (hid kn_10)
      refine v_ia (v := c 58 36) rfl rfl (by decide) (by decide) (by decide) (hid kn_11) ?_
      refine v_isub (v := c_5 59 36 - c 58 36) rfl (by first | (clear ha1 ha2 ha3 ha4 ha5 ha6 hv7 hv8 hv9 hv10 hx0 hx1 hx2 hx3 h_8 h_9; omega) | omega) ?_
      refine v_nrm (fun y_12 hy_12 => ?_)
      refine q_istore rfl (by decide) ?_
      refine q_iload rfl rfl ?_
      refine q_iconst rfl ?_
      by_cases h_13 : v7 = (-1)
      · refine v_ic_eq_t (t := 124) rfl (by decide) h_13 ?_
        refine q_iload rfl rfl ?_
        refine q_goto (t := 131) rfl (by decide) ?_
        refine q_istore rfl (by decide) ?_
        refine q_iload rfl rfl ?_
        refine q_iload rfl rfl ?_
        by_cases h_14 : y_12 ≤ v8
        · refine v_ic_le_t (t := 145) rfl (by decide) ⟨hy_12.1, h_14, hv8.2⟩ ?_
          refine q_iload rfl rfl ?_
          refine q_istore rfl (by decide) ?_
          refine q_iload rfl rfl ?_
          refine q_aload_n rfl rfl ?_
          refine q_iload rfl rfl ?_
          have h_15 := ir_59_g hI_6 (j := 4 * a6) (by first | (clear ha1 ha2 ha3 ha4 ha5 ha6 hv7 hv8 hv9 hv10 hx0 hx2 hx3 h_8 h_9 h_13 h_14; omega) | omega)
          have h_16 := ir_59_g hI_6 (j := 4 * a6 + 1) (by first | (clear ha1 ha2 ha3 ha4 ha5 ha6 hv7 hv8 hv9 hv10 hx0 hx2 hx3 h_8 h_9 h_13 h_14 h_15; omega) | omega)
          have h_17 := ir_59_g hI_6 (j := 4 * a6 + 2) (by first | (clear ha1 ha2 ha3 ha4 ha5 ha6 hv7 hv8 hv9 hv10 hx0 hx2 hx3 h_8 h_9 h_13 h_14 h_15 h_16; omega) | omega)
          have h_18 := ir_59_g hI_6 (j := 4 * a6 + 3) (by first | (clear ha1 ha2 ha3 ha4 ha5 ha6 hv7 hv8 hv9 hv10 hx0 hx2 hx3 h_8 h_9 h_13 h_14 h_15 h_16 h_17; omega) | omega)
          refine v_cv rfl rfl rfl rfl (by decide) ⟨⟨rfl, rfl⟩, by decide, rfl⟩ (Nat.le_of_ble_eq_true rfl) (Nat.le_of_ble_eq_true rfl) (s_187 (v1 := c_5 59 (4 * a6)) (v2 := c_5 59 (4 * a6 + 1)) (v3 := c_5 59 (4 * a6 + 2)) (v4 := c_5 59 (4 * a6 + 3)) (r := c_5 59 (4 * a6 + 1) + c_5 59 (4 * a6 + 2) + c_5 59 (4 * a6 + 3) + c_5 59 (4 * a6)) (a1 := a6) hI_6 (show 0 ≤ a6 ∧ a6 ≤ 5 from ⟨by first | (clear ha1 ha2 ha3 ha4 ha5 ha6 hv7 hv8 hv9 hv10 hx0 hx2 hx3 h_8 h_9 h_13 h_14; omega) | omega, by first | (clear ha1 ha2 ha3 ha4 ha5 ha6 hv7 hv8 hv9 hv10 hx0 hx2 hx3 h_8 h_9 h_13 h_14; omega) | omega⟩) (rfl) (rfl) (rfl) (rfl) (by omega) ?_)
          refine bk_inl ?_
          by_cases h_19 : c_5 59 (4 * a6 + 1) + c_5 59 (4 * a6 + 2) + c_5 59 (4 * a6 + 3) + c_5 59 (4 * a6) ≠ 0
          · refine v_if_ne_t (t := 164) rfl (by decide) ⟨h_19, ⟨by first | (clear ha1 ha2 ha3 ha4 ha5 ha6 hv7 hv8 hv9 hv10 hx0 hx1 hx2 hx3 h_8 h_9 h_13 h_14; omega) | omega, by first | (clear ha1 ha2 ha3 ha4 ha5 ha6 hv7 hv8 hv9 hv10 hx0 hx1 hx2 hx3 h_8 h_9 h_13 h_14; omega) | omega⟩, by decide, by decide⟩ ?_
            refine q_iconst rfl ?_
            refine v_iadd (v := v9) rfl (by first | (clear ha1 ha2 ha3 ha4 ha5 ha6 hv7 hv8 hv9 hv10 hx0 hx1 hx2 hx3 h_8 h_9 h_13 h_14 h_15 h_16 h_17 h_18 h_19; omega) | omega) ?_
            refine q_istore rfl (by decide) ?_
            refine v_iinc (v := v10 + 1) rfl rfl (by decide) rfl ?_
            refine Wp_ls [(10, vi (v10 + 1)), (9, vi v9), (8, vi v8), (7, vi y_12), (11, vi y_12), (0, .ref 41), (1, vi a1), (2, vi a2), (3, vi a3), (4, vi a4), (5, vi a5), (6, vi a6)] (lsub_cons rfl (lsub_cons rfl (lsub_cons rfl (lsub_cons rfl (lsub_cons rfl (lsub_cons rfl (lsub_cons rfl (lsub_cons rfl (lsub_cons rfl (lsub_cons rfl (lsub_cons rfl (lsub_cons rfl lsub_nil)))))))))))) ?_
            refine q_goto (t := 77) rfl (by decide) ?_
            refine Wp_ls [(0, .ref 41), (1, vi a1), (2, vi a2), (3, vi a3), (4, vi a4), (5, vi a5), (6, vi a6), (7, vi y_12), (8, vi v8), (9, vi v9), (10, vi (v10 + 1))] (lsub_cons rfl (lsub_cons rfl (lsub_cons rfl (lsub_cons rfl (lsub_cons rfl (lsub_cons rfl (lsub_cons rfl (lsub_cons rfl (lsub_cons rfl (lsub_cons rfl (lsub_cons rfl lsub_nil))))))))))) ?_
            exact ih c_5 y_12 v8 v9 (v10 + 1) hI_6 (fun a j hm => (hF_7 a j (fun q => q.elim (fun h => hm (Or.inr (Or.inr (Or.inl h)))) (fun q => q.elim (fun h => hm (Or.inr (Or.inr (Or.inr (Or.inl h))))) (fun q => q.elim (fun h => hm (Or.inr (Or.inr (Or.inr (Or.inr (Or.inl h)))))) (fun h => hm (Or.inr (Or.inr (Or.inr (Or.inr (Or.inr h)))))))))).trans (hF a j (fun q => q.elim (fun h => hm (Or.inl h)) (fun q => q.elim (fun h => hm (Or.inr (Or.inl h))) (fun q => q.elim (fun h => hm (Or.inr (Or.inr (Or.inl h)))) (fun q => q.elim (fun h => hm (Or.inr (Or.inr (Or.inr (Or.inl h))))) (fun q => q.elim (fun h => hm (Or.inr (Or.inr (Or.inr (Or.inr (Or.inl h)))))) (fun h => hm (Or.inr (Or.inr (Or.inr (Or.inr (Or.inr h))))))))))))) hy_12 hv8 hv9 ⟨by first | exact rgp_l hv10.1 (by decide) | omega, by first | (clear ha1 ha2 ha3 ha4 ha5 ha6 hv7 hv8 hv9 hv10 hx1 hx2 hx3 h_8 h_9 h_13 h_14 h_15 h_16 h_17 h_18 h_19; omega) | omega⟩ ⟨by first | (clear ha1 ha2 ha3 ha4 ha5 ha6 hv7 hv8 hv9 hv10 hx1 hx2 hx3 h_8 h_9 h_13 h_14 h_15 h_16 h_17 h_18 h_19; omega) | omega, by first | (clear ha1 ha2 ha3 ha4 ha5 ha6 hv7 hv8 hv9 hv10 hx1 hx2 hx3 h_8 h_9 h_13 h_14 h_15 h_16 h_17 h_18 h_19; omega) | omega⟩ ⟨by first | (clear ha1 ha2 ha3 ha4 ha5 ha6 hv7 hv8 hv9 hv10 hx0 hx2 hx3 h_8 h_9 h_13 h_14 h_15 h_16 h_17 h_18 h_19; omega) | omega, by first | (clear ha1 ha2 ha3 ha4 ha5 ha6 hv7 hv8 hv9 hv10 hx0 hx2 hx3 h_8 h_9 h_13 h_14 h_15 h_16 h_17 h_18 h_19; omega) | omega⟩ ⟨by first | (clear ha1 ha2 ha3 ha4 ha5 ha6 hv7 hv8 hv9 hv10 hx0 hx1 hx3 h_8 h_9 h_13 h_14 h_15 h_16 h_17 h_18 h_19; omega) | omega, by first | (clear ha1 ha2 ha3 ha4 ha5 ha6 hv7 hv8 hv9 hv10 hx0 hx1 hx3 h_8 h_9 h_13 h_14 h_15 h_16 h_17 h_18 h_19; omega) | omega⟩ ⟨by first | (clear ha1 ha2 ha3 ha4 ha5 ha6 hv7 hv8 hv9 hv10 hx0 hx1 hx2 h_8 h_9 h_13 h_14 h_15 h_16 h_17 h_18 h_19; omega) | omega, by first | (clear ha1 ha2 ha3 ha4 ha5 ha6 hv7 hv8 hv9 hv10 hx0 hx1 hx2 h_8 h_9 h_13 h_14 h_15 h_16 h_17 h_18 h_19; omega) | omega⟩ (by omega)
          · refine v_if_ne_f (t := 164) rfl (by decide) (Decidable.not_not.mp h_19) ?_
            refine q_iconst rfl ?_
            refine q_goto (t := 165) rfl (by decide) ?_
            refine v_iadd (v := v9 + 1) rfl rfl ?_
            refine v_nrm (fun y_20 hy_20 => ?_)
            refine q_istore rfl (by decide) ?_
            refine v_iinc (v := v10 + 1) rfl rfl (by decide) rfl ?_
            refine Wp_ls [(10, vi (v10 + 1)), (9, vi y_20), (8, vi v8), (7, vi y_12), (11, vi y_12), (0, .ref 41), (1, vi a1), (2, vi a2), (3, vi a3), (4, vi a4), (5, vi a5), (6, vi a6)] (lsub_cons rfl (lsub_cons rfl (lsub_cons rfl (lsub_cons rfl (lsub_cons rfl (lsub_cons rfl (lsub_cons rfl (lsub_cons rfl (lsub_cons rfl (lsub_cons rfl (lsub_cons rfl (lsub_cons rfl lsub_nil)))))))))))) ?_
            refine q_goto (t := 77) rfl (by decide) ?_
            refine Wp_ls [(0, .ref 41), (1, vi a1), (2, vi a2), (3, vi a3), (4, vi a4), (5, vi a5), (6, vi a6), (7, vi y_12), (8, vi v8), (9, vi y_20), (10, vi (v10 + 1))] (lsub_cons rfl (lsub_cons rfl (lsub_cons rfl (lsub_cons rfl (lsub_cons rfl (lsub_cons rfl (lsub_cons rfl (lsub_cons rfl (lsub_cons rfl (lsub_cons rfl (lsub_cons rfl lsub_nil))))))))))) ?_
            exact ih c_5 y_12 v8 y_20 (v10 + 1) hI_6 (fun a j hm => (hF_7 a j (fun q => q.elim (fun h => hm (Or.inr (Or.inr (Or.inl h)))) (fun q => q.elim (fun h => hm (Or.inr (Or.inr (Or.inr (Or.inl h))))) (fun q => q.elim (fun h => hm (Or.inr (Or.inr (Or.inr (Or.inr (Or.inl h)))))) (fun h => hm (Or.inr (Or.inr (Or.inr (Or.inr (Or.inr h)))))))))).trans (hF a j (fun q => q.elim (fun h => hm (Or.inl h)) (fun q => q.elim (fun h => hm (Or.inr (Or.inl h))) (fun q => q.elim (fun h => hm (Or.inr (Or.inr (Or.inl h)))) (fun q => q.elim (fun h => hm (Or.inr (Or.inr (Or.inr (Or.inl h))))) (fun q => q.elim (fun h => hm (Or.inr (Or.inr (Or.inr (Or.inr (Or.inl h)))))) (fun h => hm (Or.inr (Or.inr (Or.inr (Or.inr (Or.inr h))))))))))))) hy_12 hv8 hy_20 ⟨by first | exact rgp_l hv10.1 (by decide) | omega, by first | (clear ha1 ha2 ha3 ha4 ha5 ha6 hv7 hv8 hv9 hv10 hx1 hx2 hx3 h_8 h_9 h_13 h_14 h_15 h_16 h_17 h_18; omega) | omega⟩ ⟨by first | (clear ha1 ha2 ha3 ha4 ha5 ha6 hv7 hv8 hv9 hv10 hx1 hx2 hx3 h_8 h_9 h_13 h_14 h_15 h_16 h_17 h_18; omega) | omega, by first | (clear ha1 ha2 ha3 ha4 ha5 ha6 hv7 hv8 hv9 hv10 hx1 hx2 hx3 h_8 h_9 h_13 h_14 h_15 h_16 h_17 h_18; omega) | omega⟩ ⟨by first | (clear ha1 ha2 ha3 ha4 ha5 ha6 hv7 hv8 hv9 hv10 hx0 hx2 hx3 h_8 h_9 h_13 h_14 h_15 h_16 h_17 h_18; omega) | omega, by first | (clear ha1 ha2 ha3 ha4 ha5 ha6 hv7 hv8 hv9 hv10 hx0 hx2 hx3 h_8 h_9 h_13 h_14 h_15 h_16 h_17 h_18; omega) | omega⟩ ⟨by first | (clear ha1 ha2 ha3 ha4 ha5 ha6 hv7 hv8 hv9 hv10 hx0 hx1 hx3 h_8 h_9 h_13 h_14 h_15 h_16 h_17 h_18; omega) | omega, by first | (clear ha1 ha2 ha3 ha4 ha5 ha6 hv7 hv8 hv9 hv10 hx0 hx1 hx3 h_8 h_9 h_13 h_14 h_15 h_16 h_17 h_18; omega) | omega⟩ ⟨by first | (clear ha1 ha2 ha3 ha4 ha5 ha6 hv7 hv8 hv9 hv10 hx0 hx1 hx2 h_8 h_9 h_13 h_14 h_15 h_16 h_17 h_18; omega) | omega, by first | (clear ha1 ha2 ha3 ha4 ha5 ha6 hv7 hv8 hv9 hv10 hx0 hx1 hx2 h_8 h_9 h_13 h_14 h_15 h_16 h_17 h_18; omega) | omega⟩ (by omega)
        · refine v_ic_le_f (t := 145) rfl (by decide) ⟨(Int.le_trans (by decide) hv8.1), (Int.not_le.mp h_14), hy_12.2⟩ ?_
          refine q_iload rfl rfl ?_
          refine q_goto (t := 147) rfl (by decide) ?_
          refine q_istore rfl (by decide) ?_
          refine q_iload rfl rfl ?_
          refine q_aload_n rfl rfl ?_
          refine q_iload rfl rfl ?_
          have h_21 := ir_59_g hI_6 (j := 4 * a6) (by first | (clear ha1 ha2 ha3 ha4 ha5 ha6 hv7 hv8 hv9 hv10 hx0 hx2 hx3 h_8 h_9 h_13; omega) | omega)
          have h_22 := ir_59_g hI_6 (j := 4 * a6 + 1) (by first | (clear ha1 ha2 ha3 ha4 ha5 ha6 hv7 hv8 hv9 hv10 hx0 hx2 hx3 h_8 h_9 h_13 h_21; omega) | omega)
          have h_23 := ir_59_g hI_6 (j := 4 * a6 + 2) (by first | (clear ha1 ha2 ha3 ha4 ha5 ha6 hv7 hv8 hv9 hv10 hx0 hx2 hx3 h_8 h_9 h_13 h_21 h_22; omega) | omega)
          have h_24 := ir_59_g hI_6 (j := 4 * a6 + 3) (by first | (clear ha1 ha2 ha3 ha4 ha5 ha6 hv7 hv8 hv9 hv10 hx0 hx2 hx3 h_8 h_9 h_13 h_21 h_22 h_23; omega) | omega)
          refine v_cv rfl rfl rfl rfl (by decide) ⟨⟨rfl, rfl⟩, by decide, rfl⟩ (Nat.le_of_ble_eq_true rfl) (Nat.le_of_ble_eq_true rfl) (s_187 (v1 := c_5 59 (4 * a6)) (v2 := c_5 59 (4 * a6 + 1)) (v3 := c_5 59 (4 * a6 + 2)) (v4 := c_5 59 (4 * a6 + 3)) (r := c_5 59 (4 * a6 + 1) + c_5 59 (4 * a6 + 2) + c_5 59 (4 * a6 + 3) + c_5 59 (4 * a6)) (a1 := a6) hI_6 (show 0 ≤ a6 ∧ a6 ≤ 5 from ⟨by first | (clear ha1 ha2 ha3 ha4 ha5 ha6 hv7 hv8 hv9 hv10 hx0 hx2 hx3 h_8 h_9 h_13; omega) | omega, by first | (clear ha1 ha2 ha3 ha4 ha5 ha6 hv7 hv8 hv9 hv10 hx0 hx2 hx3 h_8 h_9 h_13; omega) | omega⟩) (rfl) (rfl) (rfl) (rfl) (by omega) ?_)
          refine bk_inl ?_
          by_cases h_25 : c_5 59 (4 * a6 + 1) + c_5 59 (4 * a6 + 2) + c_5 59 (4 * a6 + 3) + c_5 59 (4 * a6) ≠ 0
          · refine v_if_ne_t (t := 164) rfl (by decide) ⟨h_25, ⟨by first | (clear ha1 ha2 ha3 ha4 ha5 ha6 hv7 hv8 hv9 hv10 hx0 hx1 hx2 hx3 h_8 h_9 h_13; omega) | omega, by first | (clear ha1 ha2 ha3 ha4 ha5 ha6 hv7 hv8 hv9 hv10 hx0 hx1 hx2 hx3 h_8 h_9 h_13; omega) | omega⟩, by decide, by decide⟩ ?_
            refine q_iconst rfl ?_
            refine v_iadd (v := v9) rfl (by first | (clear ha1 ha2 ha3 ha4 ha5 ha6 hv7 hv8 hv9 hv10 hx0 hx1 hx2 hx3 h_8 h_9 h_13 h_21 h_22 h_23 h_24 h_25; omega) | omega) ?_
            refine q_istore rfl (by decide) ?_
            refine v_iinc (v := v10 + 1) rfl rfl (by decide) rfl ?_
            refine Wp_ls [(10, vi (v10 + 1)), (9, vi v9), (8, vi y_12), (7, vi y_12), (11, vi y_12), (0, .ref 41), (1, vi a1), (2, vi a2), (3, vi a3), (4, vi a4), (5, vi a5), (6, vi a6)] (lsub_cons rfl (lsub_cons rfl (lsub_cons rfl (lsub_cons rfl (lsub_cons rfl (lsub_cons rfl (lsub_cons rfl (lsub_cons rfl (lsub_cons rfl (lsub_cons rfl (lsub_cons rfl (lsub_cons rfl lsub_nil)))))))))))) ?_
            refine q_goto (t := 77) rfl (by decide) ?_
            refine Wp_ls [(0, .ref 41), (1, vi a1), (2, vi a2), (3, vi a3), (4, vi a4), (5, vi a5), (6, vi a6), (7, vi y_12), (8, vi y_12), (9, vi v9), (10, vi (v10 + 1))] (lsub_cons rfl (lsub_cons rfl (lsub_cons rfl (lsub_cons rfl (lsub_cons rfl (lsub_cons rfl (lsub_cons rfl (lsub_cons rfl (lsub_cons rfl (lsub_cons rfl (lsub_cons rfl lsub_nil))))))))))) ?_
            exact ih c_5 y_12 y_12 v9 (v10 + 1) hI_6 (fun a j hm => (hF_7 a j (fun q => q.elim (fun h => hm (Or.inr (Or.inr (Or.inl h)))) (fun q => q.elim (fun h => hm (Or.inr (Or.inr (Or.inr (Or.inl h))))) (fun q => q.elim (fun h => hm (Or.inr (Or.inr (Or.inr (Or.inr (Or.inl h)))))) (fun h => hm (Or.inr (Or.inr (Or.inr (Or.inr (Or.inr h)))))))))).trans (hF a j (fun q => q.elim (fun h => hm (Or.inl h)) (fun q => q.elim (fun h => hm (Or.inr (Or.inl h))) (fun q => q.elim (fun h => hm (Or.inr (Or.inr (Or.inl h)))) (fun q => q.elim (fun h => hm (Or.inr (Or.inr (Or.inr (Or.inl h))))) (fun q => q.elim (fun h => hm (Or.inr (Or.inr (Or.inr (Or.inr (Or.inl h)))))) (fun h => hm (Or.inr (Or.inr (Or.inr (Or.inr (Or.inr h))))))))))))) hy_12 ⟨by first | (clear ha1 ha2 ha3 ha4 ha5 ha6 hv7 hv9 hv10 hx0 hx1 hx2 hx3 h_8 h_9 h_13 h_21 h_22 h_23 h_24 h_25; omega) | omega, hy_12.2⟩ hv9 ⟨by first | exact rgp_l hv10.1 (by decide) | omega, by first | (clear ha1 ha2 ha3 ha4 ha5 ha6 hv7 hv8 hv9 hv10 hx1 hx2 hx3 h_8 h_9 h_13 h_21 h_22 h_23 h_24 h_25; omega) | omega⟩ ⟨by first | (clear ha1 ha2 ha3 ha4 ha5 ha6 hv7 hv8 hv9 hv10 hx1 hx2 hx3 h_8 h_9 h_13 h_21 h_22 h_23 h_24 h_25; omega) | omega, by first | (clear ha1 ha2 ha3 ha4 ha5 ha6 hv7 hv8 hv9 hv10 hx1 hx2 hx3 h_8 h_9 h_13 h_21 h_22 h_23 h_24 h_25; omega) | omega⟩ ⟨by first | (clear ha1 ha2 ha3 ha4 ha5 ha6 hv7 hv8 hv9 hv10 hx0 hx2 hx3 h_8 h_9 h_13 h_21 h_22 h_23 h_24 h_25; omega) | omega, by first | (clear ha1 ha2 ha3 ha4 ha5 ha6 hv7 hv8 hv9 hv10 hx0 hx2 hx3 h_8 h_9 h_13 h_21 h_22 h_23 h_24 h_25; omega) | omega⟩ ⟨by first | (clear ha1 ha2 ha3 ha4 ha5 ha6 hv7 hv8 hv9 hv10 hx0 hx1 hx3 h_8 h_9 h_13 h_21 h_22 h_23 h_24 h_25; omega) | omega, by first | (clear ha1 ha2 ha3 ha4 ha5 ha6 hv7 hv8 hv9 hv10 hx0 hx1 hx3 h_8 h_9 h_13 h_21 h_22 h_23 h_24 h_25; omega) | omega⟩ ⟨by first | (clear ha1 ha2 ha3 ha4 ha5 ha6 hv7 hv8 hv9 hv10 hx0 hx1 hx2 h_8 h_9 h_13 h_21 h_22 h_23 h_24 h_25; omega) | omega, by first | (clear ha1 ha2 ha3 ha4 ha5 ha6 hv7 hv8 hv9 hv10 hx0 hx1 hx2 h_8 h_9 h_13 h_21 h_22 h_23 h_24 h_25; omega) | omega⟩ (by omega)
          · refine v_if_ne_f (t := 164) rfl (by decide) (Decidable.not_not.mp h_25) ?_
            refine q_iconst rfl ?_
            refine q_goto (t := 165) rfl (by decide) ?_
            refine v_iadd (v := v9 + 1) rfl rfl ?_
            refine v_nrm (fun y_26 hy_26 => ?_)
            refine q_istore rfl (by decide) ?_
            refine v_iinc (v := v10 + 1) rfl rfl (by decide) rfl ?_
            refine Wp_ls [(10, vi (v10 + 1)), (9, vi y_26), (8, vi y_12), (7, vi y_12), (11, vi y_12), (0, .ref 41), (1, vi a1), (2, vi a2), (3, vi a3), (4, vi a4), (5, vi a5), (6, vi a6)] (lsub_cons rfl (lsub_cons rfl (lsub_cons rfl (lsub_cons rfl (lsub_cons rfl (lsub_cons rfl (lsub_cons rfl (lsub_cons rfl (lsub_cons rfl (lsub_cons rfl (lsub_cons rfl (lsub_cons rfl lsub_nil)))))))))))) ?_
            refine q_goto (t := 77) rfl (by decide) ?_
            refine Wp_ls [(0, .ref 41), (1, vi a1), (2, vi a2), (3, vi a3), (4, vi a4), (5, vi a5), (6, vi a6), (7, vi y_12), (8, vi y_12), (9, vi y_26), (10, vi (v10 + 1))] (lsub_cons rfl (lsub_cons rfl (lsub_cons rfl (lsub_cons rfl (lsub_cons rfl (lsub_cons rfl (lsub_cons rfl (lsub_cons rfl (lsub_cons rfl (lsub_cons rfl (lsub_cons rfl lsub_nil))))))))))) ?_
            exact ih c_5 y_12 y_12 y_26 (v10 + 1) hI_6 (fun a j hm => (hF_7 a j (fun q => q.elim (fun h => hm (Or.inr (Or.inr (Or.inl h)))) (fun q => q.elim (fun h => hm (Or.inr (Or.inr (Or.inr (Or.inl h))))) (fun q => q.elim (fun h => hm (Or.inr (Or.inr (Or.inr (Or.inr (Or.inl h)))))) (fun h => hm (Or.inr (Or.inr (Or.inr (Or.inr (Or.inr h)))))))))).trans (hF a j (fun q => q.elim (fun h => hm (Or.inl h)) (fun q => q.elim (fun h => hm (Or.inr (Or.inl h))) (fun q => q.elim (fun h => hm (Or.inr (Or.inr (Or.inl h)))) (fun q => q.elim (fun h => hm (Or.inr (Or.inr (Or.inr (Or.inl h))))) (fun q => q.elim (fun h => hm (Or.inr (Or.inr (Or.inr (Or.inr (Or.inl h)))))) (fun h => hm (Or.inr (Or.inr (Or.inr (Or.inr (Or.inr h))))))))))))) hy_12 ⟨by first | (clear ha1 ha2 ha3 ha4 ha5 ha6 hv7 hv9 hv10 hx0 hx1 hx2 hx3 h_8 h_9 h_13 h_21 h_22 h_23 h_24; omega) | omega, hy_12.2⟩ hy_26 ⟨by first | exact rgp_l hv10.1 (by decide) | omega, by first | (clear ha1 ha2 ha3 ha4 ha5 ha6 hv7 hv8 hv9 hv10 hx1 hx2 hx3 h_8 h_9 h_13 h_21 h_22 h_23 h_24; omega) | omega⟩ ⟨by first | (clear ha1 ha2 ha3 ha4 ha5 ha6 hv7 hv8 hv9 hv10 hx1 hx2 hx3 h_8 h_9 h_13 h_21 h_22 h_23 h_24; omega) | omega, by first | (clear ha1 ha2 ha3 ha4 ha5 ha6 hv7 hv8 hv9 hv10 hx1 hx2 hx3 h_8 h_9 h_13 h_21 h_22 h_23 h_24; omega) | omega⟩ ⟨by first | (clear ha1 ha2 ha3 ha4 ha5 ha6 hv7 hv8 hv9 hv10 hx0 hx2 hx3 h_8 h_9 h_13 h_21 h_22 h_23 h_24; omega) | omega, by first | (clear ha1 ha2 ha3 ha4 ha5 ha6 hv7 hv8 hv9 hv10 hx0 hx2 hx3 h_8 h_9 h_13 h_21 h_22 h_23 h_24; omega) | omega⟩ ⟨by first | (clear ha1 ha2 ha3 ha4 ha5 ha6 hv7 hv8 hv9 hv10 hx0 hx1 hx3 h_8 h_9 h_13 h_21 h_22 h_23 h_24; omega) | omega, by first | (clear ha1 ha2 ha3 ha4 ha5 ha6 hv7 hv8 hv9 hv10 hx0 hx1 hx3 h_8 h_9 h_13 h_21 h_22 h_23 h_24; omega) | omega⟩ ⟨by first | (clear ha1 ha2 ha3 ha4 ha5 ha6 hv7 hv8 hv9 hv10 hx0 hx1 hx2 h_8 h_9 h_13 h_21 h_22 h_23 h_24; omega) | omega, by first | (clear ha1 ha2 ha3 ha4 ha5 ha6 hv7 hv8 hv9 hv10 hx0 hx1 hx2 h_8 h_9 h_13 h_21 h_22 h_23 h_24; omega) | omega⟩ (by omega)
      · refine v_ic_eq_f (t := 124) rfl (by decide) ⟨h_13, ⟨hv7.1, hv7.2⟩, by decide, by decide⟩ ?_
        refine q_iload rfl rfl ?_
        refine q_iload rfl rfl ?_
        by_cases h_27 : y_12 ≥ v7
        · refine v_ic_ge_t (t := 129) rfl (by decide) ⟨hv7.1, h_27, hy_12.2⟩ ?_
          refine q_iload rfl rfl ?_
          refine q_istore rfl (by decide) ?_
          refine q_iload rfl rfl ?_
          refine q_iload rfl rfl ?_
          by_cases h_28 : y_12 ≤ v8
          · refine v_ic_le_t (t := 145) rfl (by decide) ⟨hy_12.1, h_28, hv8.2⟩ ?_
            refine q_iload rfl rfl ?_
            refine q_istore rfl (by decide) ?_
            refine q_iload rfl rfl ?_
            refine q_aload_n rfl rfl ?_
            refine q_iload rfl rfl ?_
            have h_29 := ir_59_g hI_6 (j := 4 * a6) (by first | (clear ha1 ha2 ha3 ha4 ha5 ha6 hv7 hv8 hv9 hv10 hx0 hx2 hx3 h_8 h_9 h_27 h_28; omega) | omega)
            have h_30 := ir_59_g hI_6 (j := 4 * a6 + 1) (by first | (clear ha1 ha2 ha3 ha4 ha5 ha6 hv7 hv8 hv9 hv10 hx0 hx2 hx3 h_8 h_9 h_27 h_28 h_29; omega) | omega)
            have h_31 := ir_59_g hI_6 (j := 4 * a6 + 2) (by first | (clear ha1 ha2 ha3 ha4 ha5 ha6 hv7 hv8 hv9 hv10 hx0 hx2 hx3 h_8 h_9 h_27 h_28 h_29 h_30; omega) | omega)
            have h_32 := ir_59_g hI_6 (j := 4 * a6 + 3) (by first | (clear ha1 ha2 ha3 ha4 ha5 ha6 hv7 hv8 hv9 hv10 hx0 hx2 hx3 h_8 h_9 h_27 h_28 h_29 h_30 h_31; omega) | omega)
            refine v_cv rfl rfl rfl rfl (by decide) ⟨⟨rfl, rfl⟩, by decide, rfl⟩ (Nat.le_of_ble_eq_true rfl) (Nat.le_of_ble_eq_true rfl) (s_187 (v1 := c_5 59 (4 * a6)) (v2 := c_5 59 (4 * a6 + 1)) (v3 := c_5 59 (4 * a6 + 2)) (v4 := c_5 59 (4 * a6 + 3)) (r := c_5 59 (4 * a6 + 1) + c_5 59 (4 * a6 + 2) + c_5 59 (4 * a6 + 3) + c_5 59 (4 * a6)) (a1 := a6) hI_6 (show 0 ≤ a6 ∧ a6 ≤ 5 from ⟨by first | (clear ha1 ha2 ha3 ha4 ha5 ha6 hv7 hv8 hv9 hv10 hx0 hx2 hx3 h_8 h_9 h_27 h_28; omega) | omega, by first | (clear ha1 ha2 ha3 ha4 ha5 ha6 hv7 hv8 hv9 hv10 hx0 hx2 hx3 h_8 h_9 h_27 h_28; omega) | omega⟩) (rfl) (rfl) (rfl) (rfl) (by omega) ?_)
            refine bk_inl ?_
            by_cases h_33 : c_5 59 (4 * a6 + 1) + c_5 59 (4 * a6 + 2) + c_5 59 (4 * a6 + 3) + c_5 59 (4 * a6) ≠ 0
            · refine v_if_ne_t (t := 164) rfl (by decide) ⟨h_33, ⟨by first | (clear ha1 ha2 ha3 ha4 ha5 ha6 hv7 hv8 hv9 hv10 hx0 hx1 hx2 hx3 h_8 h_9 h_27 h_28; omega) | omega, by first | (clear ha1 ha2 ha3 ha4 ha5 ha6 hv7 hv8 hv9 hv10 hx0 hx1 hx2 hx3 h_8 h_9 h_27 h_28; omega) | omega⟩, by decide, by decide⟩ ?_
              refine q_iconst rfl ?_
              refine v_iadd (v := v9) rfl (by first | (clear ha1 ha2 ha3 ha4 ha5 ha6 hv7 hv8 hv9 hv10 hx0 hx1 hx2 hx3 h_8 h_9 h_27 h_28 h_29 h_30 h_31 h_32 h_33; omega) | omega) ?_
              refine q_istore rfl (by decide) ?_
              refine v_iinc (v := v10 + 1) rfl rfl (by decide) rfl ?_
              refine Wp_ls [(10, vi (v10 + 1)), (9, vi v9), (8, vi v8), (7, vi v7), (11, vi y_12), (0, .ref 41), (1, vi a1), (2, vi a2), (3, vi a3), (4, vi a4), (5, vi a5), (6, vi a6)] (lsub_cons rfl (lsub_cons rfl (lsub_cons rfl (lsub_cons rfl (lsub_cons rfl (lsub_cons rfl (lsub_cons rfl (lsub_cons rfl (lsub_cons rfl (lsub_cons rfl (lsub_cons rfl (lsub_cons rfl lsub_nil)))))))))))) ?_
              refine q_goto (t := 77) rfl (by decide) ?_
              refine Wp_ls [(0, .ref 41), (1, vi a1), (2, vi a2), (3, vi a3), (4, vi a4), (5, vi a5), (6, vi a6), (7, vi v7), (8, vi v8), (9, vi v9), (10, vi (v10 + 1))] (lsub_cons rfl (lsub_cons rfl (lsub_cons rfl (lsub_cons rfl (lsub_cons rfl (lsub_cons rfl (lsub_cons rfl (lsub_cons rfl (lsub_cons rfl (lsub_cons rfl (lsub_cons rfl lsub_nil))))))))))) ?_
              exact ih c_5 v7 v8 v9 (v10 + 1) hI_6 (fun a j hm => (hF_7 a j (fun q => q.elim (fun h => hm (Or.inr (Or.inr (Or.inl h)))) (fun q => q.elim (fun h => hm (Or.inr (Or.inr (Or.inr (Or.inl h))))) (fun q => q.elim (fun h => hm (Or.inr (Or.inr (Or.inr (Or.inr (Or.inl h)))))) (fun h => hm (Or.inr (Or.inr (Or.inr (Or.inr (Or.inr h)))))))))).trans (hF a j (fun q => q.elim (fun h => hm (Or.inl h)) (fun q => q.elim (fun h => hm (Or.inr (Or.inl h))) (fun q => q.elim (fun h => hm (Or.inr (Or.inr (Or.inl h)))) (fun q => q.elim (fun h => hm (Or.inr (Or.inr (Or.inr (Or.inl h))))) (fun q => q.elim (fun h => hm (Or.inr (Or.inr (Or.inr (Or.inr (Or.inl h)))))) (fun h => hm (Or.inr (Or.inr (Or.inr (Or.inr (Or.inr h))))))))))))) hv7 hv8 hv9 ⟨by first | exact rgp_l hv10.1 (by decide) | omega, by first | (clear ha1 ha2 ha3 ha4 ha5 ha6 hv7 hv8 hv9 hv10 hx1 hx2 hx3 h_8 h_9 h_27 h_28 h_29 h_30 h_31 h_32 h_33; omega) | omega⟩ ⟨by first | (clear ha1 ha2 ha3 ha4 ha5 ha6 hv7 hv8 hv9 hv10 hx1 hx2 hx3 h_8 h_9 h_27 h_28 h_29 h_30 h_31 h_32 h_33; omega) | omega, by first | (clear ha1 ha2 ha3 ha4 ha5 ha6 hv7 hv8 hv9 hv10 hx1 hx2 hx3 h_8 h_9 h_27 h_28 h_29 h_30 h_31 h_32 h_33; omega) | omega⟩ ⟨by first | (clear ha1 ha2 ha3 ha4 ha5 ha6 hv7 hv8 hv9 hv10 hx0 hx2 hx3 h_8 h_9 h_27 h_28 h_29 h_30 h_31 h_32 h_33; omega) | omega, by first | (clear ha1 ha2 ha3 ha4 ha5 ha6 hv7 hv8 hv9 hv10 hx0 hx2 hx3 h_8 h_9 h_27 h_28 h_29 h_30 h_31 h_32 h_33; omega) | omega⟩ ⟨by first | (clear ha1 ha2 ha3 ha4 ha5 ha6 hv7 hv8 hv9 hv10 hx0 hx1 hx3 h_8 h_9 h_27 h_28 h_29 h_30 h_31 h_32 h_33; omega) | omega, by first | (clear ha1 ha2 ha3 ha4 ha5 ha6 hv7 hv8 hv9 hv10 hx0 hx1 hx3 h_8 h_9 h_27 h_28 h_29 h_30 h_31 h_32 h_33; omega) | omega⟩ ⟨by first | (clear ha1 ha2 ha3 ha4 ha5 ha6 hv7 hv8 hv9 hv10 hx0 hx1 hx2 h_8 h_9 h_27 h_28 h_29 h_30 h_31 h_32 h_33; omega) | omega, by first | (clear ha1 ha2 ha3 ha4 ha5 ha6 hv7 hv8 hv9 hv10 hx0 hx1 hx2 h_8 h_9 h_27 h_28 h_29 h_30 h_31 h_32 h_33; omega) | omega⟩ (by omega)
            · refine v_if_ne_f (t := 164) rfl (by decide) (Decidable.not_not.mp h_33) ?_
              refine q_iconst rfl ?_
              refine q_goto (t := 165) rfl (by decide) ?_
              refine v_iadd (v := v9 + 1) rfl rfl ?_
              refine v_nrm (fun y_34 hy_34 => ?_)
              refine q_istore rfl (by decide) ?_
              refine v_iinc (v := v10 + 1) rfl rfl (by decide) rfl ?_
              refine Wp_ls [(10, vi (v10 + 1)), (9, vi y_34), (8, vi v8), (7, vi v7), (11, vi y_12), (0, .ref 41), (1, vi a1), (2, vi a2), (3, vi a3), (4, vi a4), (5, vi a5), (6, vi a6)] (lsub_cons rfl (lsub_cons rfl (lsub_cons rfl (lsub_cons rfl (lsub_cons rfl (lsub_cons rfl (lsub_cons rfl (lsub_cons rfl (lsub_cons rfl (lsub_cons rfl (lsub_cons rfl (lsub_cons rfl lsub_nil)))))))))))) ?_
              refine q_goto (t := 77) rfl (by decide) ?_
              refine Wp_ls [(0, .ref 41), (1, vi a1), (2, vi a2), (3, vi a3), (4, vi a4), (5, vi a5), (6, vi a6), (7, vi v7), (8, vi v8), (9, vi y_34), (10, vi (v10 + 1))] (lsub_cons rfl (lsub_cons rfl (lsub_cons rfl (lsub_cons rfl (lsub_cons rfl (lsub_cons rfl (lsub_cons rfl (lsub_cons rfl (lsub_cons rfl (lsub_cons rfl (lsub_cons rfl lsub_nil))))))))))) ?_
              exact ih c_5 v7 v8 y_34 (v10 + 1) hI_6 (fun a j hm => (hF_7 a j (fun q => q.elim (fun h => hm (Or.inr (Or.inr (Or.inl h)))) (fun q => q.elim (fun h => hm (Or.inr (Or.inr (Or.inr (Or.inl h))))) (fun q => q.elim (fun h => hm (Or.inr (Or.inr (Or.inr (Or.inr (Or.inl h)))))) (fun h => hm (Or.inr (Or.inr (Or.inr (Or.inr (Or.inr h)))))))))).trans (hF a j (fun q => q.elim (fun h => hm (Or.inl h)) (fun q => q.elim (fun h => hm (Or.inr (Or.inl h))) (fun q => q.elim (fun h => hm (Or.inr (Or.inr (Or.inl h)))) (fun q => q.elim (fun h => hm (Or.inr (Or.inr (Or.inr (Or.inl h))))) (fun q => q.elim (fun h => hm (Or.inr (Or.inr (Or.inr (Or.inr (Or.inl h)))))) (fun h => hm (Or.inr (Or.inr (Or.inr (Or.inr (Or.inr h))))))))))))) hv7 hv8 hy_34 ⟨by first | exact rgp_l hv10.1 (by decide) | omega, by first | (clear ha1 ha2 ha3 ha4 ha5 ha6 hv7 hv8 hv9 hv10 hx1 hx2 hx3 h_8 h_9 h_27 h_28 h_29 h_30 h_31 h_32; omega) | omega⟩ ⟨by first | (clear ha1 ha2 ha3 ha4 ha5 ha6 hv7 hv8 hv9 hv10 hx1 hx2 hx3 h_8 h_9 h_27 h_28 h_29 h_30 h_31 h_32; omega) | omega, by first | (clear ha1 ha2 ha3 ha4 ha5 ha6 hv7 hv8 hv9 hv10 hx1 hx2 hx3 h_8 h_9 h_27 h_28 h_29 h_30 h_31 h_32; omega) | omega⟩ ⟨by first | (clear ha1 ha2 ha3 ha4 ha5 ha6 hv7 hv8 hv9 hv10 hx0 hx2 hx3 h_8 h_9 h_27 h_28 h_29 h_30 h_31 h_32; omega) | omega, by first | (clear ha1 ha2 ha3 ha4 ha5 ha6 hv7 hv8 hv9 hv10 hx0 hx2 hx3 h_8 h_9 h_27 h_28 h_29 h_30 h_31 h_32; omega) | omega⟩ ⟨by first | (clear ha1 ha2 ha3 ha4 ha5 ha6 hv7 hv8 hv9 hv10 hx0 hx1 hx3 h_8 h_9 h_27 h_28 h_29 h_30 h_31 h_32; omega) | omega, by first | (clear ha1 ha2 ha3 ha4 ha5 ha6 hv7 hv8 hv9 hv10 hx0 hx1 hx3 h_8 h_9 h_27 h_28 h_29 h_30 h_31 h_32; omega) | omega⟩ ⟨by first | (clear ha1 ha2 ha3 ha4 ha5 ha6 hv7 hv8 hv9 hv10 hx0 hx1 hx2 h_8 h_9 h_27 h_28 h_29 h_30 h_31 h_32; omega) | omega, by first | (clear ha1 ha2 ha3 ha4 ha5 ha6 hv7 hv8 hv9 hv10 hx0 hx1 hx2 h_8 h_9 h_27 h_28 h_29 h_30 h_31 h_32; omega) | omega⟩ (by omega)
          · refine v_ic_le_f (t := 145) rfl (by decide) ⟨(Int.le_trans (by decide) hv8.1), (Int.not_le.mp h_28), hy_12.2⟩ ?_
            refine q_iload rfl rfl ?_
            refine q_goto (t := 147) rfl (by decide) ?_
            refine q_istore rfl (by decide) ?_
            refine q_iload rfl rfl ?_
            refine q_aload_n rfl rfl ?_
            refine q_iload rfl rfl ?_
            have h_35 := ir_59_g hI_6 (j := 4 * a6) (by first | (clear ha1 ha2 ha3 ha4 ha5 ha6 hv7 hv8 hv9 hv10 hx0 hx2 hx3 h_8 h_9 h_27; omega) | omega)
            have h_36 := ir_59_g hI_6 (j := 4 * a6 + 1) (by first | (clear ha1 ha2 ha3 ha4 ha5 ha6 hv7 hv8 hv9 hv10 hx0 hx2 hx3 h_8 h_9 h_27 h_35; omega) | omega)
            have h_37 := ir_59_g hI_6 (j := 4 * a6 + 2) (by first | (clear ha1 ha2 ha3 ha4 ha5 ha6 hv7 hv8 hv9 hv10 hx0 hx2 hx3 h_8 h_9 h_27 h_35 h_36; omega) | omega)
            have h_38 := ir_59_g hI_6 (j := 4 * a6 + 3) (by first | (clear ha1 ha2 ha3 ha4 ha5 ha6 hv7 hv8 hv9 hv10 hx0 hx2 hx3 h_8 h_9 h_27 h_35 h_36 h_37; omega) | omega)
            refine v_cv rfl rfl rfl rfl (by decide) ⟨⟨rfl, rfl⟩, by decide, rfl⟩ (Nat.le_of_ble_eq_true rfl) (Nat.le_of_ble_eq_true rfl) (s_187 (v1 := c_5 59 (4 * a6)) (v2 := c_5 59 (4 * a6 + 1)) (v3 := c_5 59 (4 * a6 + 2)) (v4 := c_5 59 (4 * a6 + 3)) (r := c_5 59 (4 * a6 + 1) + c_5 59 (4 * a6 + 2) + c_5 59 (4 * a6 + 3) + c_5 59 (4 * a6)) (a1 := a6) hI_6 (show 0 ≤ a6 ∧ a6 ≤ 5 from ⟨by first | (clear ha1 ha2 ha3 ha4 ha5 ha6 hv7 hv8 hv9 hv10 hx0 hx2 hx3 h_8 h_9 h_27; omega) | omega, by first | (clear ha1 ha2 ha3 ha4 ha5 ha6 hv7 hv8 hv9 hv10 hx0 hx2 hx3 h_8 h_9 h_27; omega) | omega⟩) (rfl) (rfl) (rfl) (rfl) (by omega) ?_)
            refine bk_inl ?_
            by_cases h_39 : c_5 59 (4 * a6 + 1) + c_5 59 (4 * a6 + 2) + c_5 59 (4 * a6 + 3) + c_5 59 (4 * a6) ≠ 0
            · refine v_if_ne_t (t := 164) rfl (by decide) ⟨h_39, ⟨by first | (clear ha1 ha2 ha3 ha4 ha5 ha6 hv7 hv8 hv9 hv10 hx0 hx1 hx2 hx3 h_8 h_9 h_27; omega) | omega, by first | (clear ha1 ha2 ha3 ha4 ha5 ha6 hv7 hv8 hv9 hv10 hx0 hx1 hx2 hx3 h_8 h_9 h_27; omega) | omega⟩, by decide, by decide⟩ ?_
              refine q_iconst rfl ?_
              refine v_iadd (v := v9) rfl (by first | (clear ha1 ha2 ha3 ha4 ha5 ha6 hv7 hv8 hv9 hv10 hx0 hx1 hx2 hx3 h_8 h_9 h_27 h_35 h_36 h_37 h_38 h_39; omega) | omega) ?_
              refine q_istore rfl (by decide) ?_
              refine v_iinc (v := v10 + 1) rfl rfl (by decide) rfl ?_
              refine Wp_ls [(10, vi (v10 + 1)), (9, vi v9), (8, vi y_12), (7, vi v7), (11, vi y_12), (0, .ref 41), (1, vi a1), (2, vi a2), (3, vi a3), (4, vi a4), (5, vi a5), (6, vi a6)] (lsub_cons rfl (lsub_cons rfl (lsub_cons rfl (lsub_cons rfl (lsub_cons rfl (lsub_cons rfl (lsub_cons rfl (lsub_cons rfl (lsub_cons rfl (lsub_cons rfl (lsub_cons rfl (lsub_cons rfl lsub_nil)))))))))))) ?_
              refine q_goto (t := 77) rfl (by decide) ?_
              refine Wp_ls [(0, .ref 41), (1, vi a1), (2, vi a2), (3, vi a3), (4, vi a4), (5, vi a5), (6, vi a6), (7, vi v7), (8, vi y_12), (9, vi v9), (10, vi (v10 + 1))] (lsub_cons rfl (lsub_cons rfl (lsub_cons rfl (lsub_cons rfl (lsub_cons rfl (lsub_cons rfl (lsub_cons rfl (lsub_cons rfl (lsub_cons rfl (lsub_cons rfl (lsub_cons rfl lsub_nil))))))))))) ?_
              exact ih c_5 v7 y_12 v9 (v10 + 1) hI_6 (fun a j hm => (hF_7 a j (fun q => q.elim (fun h => hm (Or.inr (Or.inr (Or.inl h)))) (fun q => q.elim (fun h => hm (Or.inr (Or.inr (Or.inr (Or.inl h))))) (fun q => q.elim (fun h => hm (Or.inr (Or.inr (Or.inr (Or.inr (Or.inl h)))))) (fun h => hm (Or.inr (Or.inr (Or.inr (Or.inr (Or.inr h)))))))))).trans (hF a j (fun q => q.elim (fun h => hm (Or.inl h)) (fun q => q.elim (fun h => hm (Or.inr (Or.inl h))) (fun q => q.elim (fun h => hm (Or.inr (Or.inr (Or.inl h)))) (fun q => q.elim (fun h => hm (Or.inr (Or.inr (Or.inr (Or.inl h))))) (fun q => q.elim (fun h => hm (Or.inr (Or.inr (Or.inr (Or.inr (Or.inl h)))))) (fun h => hm (Or.inr (Or.inr (Or.inr (Or.inr (Or.inr h))))))))))))) hv7 ⟨by first | (clear ha1 ha2 ha3 ha4 ha5 ha6 hv7 hv9 hv10 hx0 hx1 hx2 hx3 h_8 h_9 h_27 h_35 h_36 h_37 h_38 h_39; omega) | omega, hy_12.2⟩ hv9 ⟨by first | exact rgp_l hv10.1 (by decide) | omega, by first | (clear ha1 ha2 ha3 ha4 ha5 ha6 hv7 hv8 hv9 hv10 hx1 hx2 hx3 h_8 h_9 h_27 h_35 h_36 h_37 h_38 h_39; omega) | omega⟩ ⟨by first | (clear ha1 ha2 ha3 ha4 ha5 ha6 hv7 hv8 hv9 hv10 hx1 hx2 hx3 h_8 h_9 h_27 h_35 h_36 h_37 h_38 h_39; omega) | omega, by first | (clear ha1 ha2 ha3 ha4 ha5 ha6 hv7 hv8 hv9 hv10 hx1 hx2 hx3 h_8 h_9 h_27 h_35 h_36 h_37 h_38 h_39; omega) | omega⟩ ⟨by first | (clear ha1 ha2 ha3 ha4 ha5 ha6 hv7 hv8 hv9 hv10 hx0 hx2 hx3 h_8 h_9 h_27 h_35 h_36 h_37 h_38 h_39; omega) | omega, by first | (clear ha1 ha2 ha3 ha4 ha5 ha6 hv7 hv8 hv9 hv10 hx0 hx2 hx3 h_8 h_9 h_27 h_35 h_36 h_37 h_38 h_39; omega) | omega⟩ ⟨by first | (clear ha1 ha2 ha3 ha4 ha5 ha6 hv7 hv8 hv9 hv10 hx0 hx1 hx3 h_8 h_9 h_27 h_35 h_36 h_37 h_38 h_39; omega) | omega, by first | (clear ha1 ha2 ha3 ha4 ha5 ha6 hv7 hv8 hv9 hv10 hx0 hx1 hx3 h_8 h_9 h_27 h_35 h_36 h_37 h_38 h_39; omega) | omega⟩ ⟨by first | (clear ha1 ha2 ha3 ha4 ha5 ha6 hv7 hv8 hv9 hv10 hx0 hx1 hx2 h_8 h_9 h_27 h_35 h_36 h_37 h_38 h_39; omega) | omega, by first | (clear ha1 ha2 ha3 ha4 ha5 ha6 hv7 hv8 hv9 hv10 hx0 hx1 hx2 h_8 h_9 h_27 h_35 h_36 h_37 h_38 h_39; omega) | omega⟩ (by omega)
            · refine v_if_ne_f (t := 164) rfl (by decide) (Decidable.not_not.mp h_39) ?_
              refine q_iconst rfl ?_
              refine q_goto (t := 165) rfl (by decide) ?_
              refine v_iadd (v := v9 + 1) rfl rfl ?_
              refine v_nrm (fun y_40 hy_40 => ?_)
              refine q_istore rfl (by decide) ?_
              refine v_iinc (v := v10 + 1) rfl rfl (by decide) rfl ?_
              refine Wp_ls [(10, vi (v10 + 1)), (9, vi y_40), (8, vi y_12), (7, vi v7), (11, vi y_12), (0, .ref 41), (1, vi a1), (2, vi a2), (3, vi a3), (4, vi a4), (5, vi a5), (6, vi a6)] (lsub_cons rfl (lsub_cons rfl (lsub_cons rfl (lsub_cons rfl (lsub_cons rfl (lsub_cons rfl (lsub_cons rfl (lsub_cons rfl (lsub_cons rfl (lsub_cons rfl (lsub_cons rfl (lsub_cons rfl lsub_nil)))))))))))) ?_
              refine q_goto (t := 77) rfl (by decide) ?_
              refine Wp_ls [(0, .ref 41), (1, vi a1), (2, vi a2), (3, vi a3), (4, vi a4), (5, vi a5), (6, vi a6), (7, vi v7), (8, vi y_12), (9, vi y_40), (10, vi (v10 + 1))] (lsub_cons rfl (lsub_cons rfl (lsub_cons rfl (lsub_cons rfl (lsub_cons rfl (lsub_cons rfl (lsub_cons rfl (lsub_cons rfl (lsub_cons rfl (lsub_cons rfl (lsub_cons rfl lsub_nil))))))))))) ?_
              exact ih c_5 v7 y_12 y_40 (v10 + 1) hI_6 (fun a j hm => (hF_7 a j (fun q => q.elim (fun h => hm (Or.inr (Or.inr (Or.inl h)))) (fun q => q.elim (fun h => hm (Or.inr (Or.inr (Or.inr (Or.inl h))))) (fun q => q.elim (fun h => hm (Or.inr (Or.inr (Or.inr (Or.inr (Or.inl h)))))) (fun h => hm (Or.inr (Or.inr (Or.inr (Or.inr (Or.inr h)))))))))).trans (hF a j (fun q => q.elim (fun h => hm (Or.inl h)) (fun q => q.elim (fun h => hm (Or.inr (Or.inl h))) (fun q => q.elim (fun h => hm (Or.inr (Or.inr (Or.inl h)))) (fun q => q.elim (fun h => hm (Or.inr (Or.inr (Or.inr (Or.inl h))))) (fun q => q.elim (fun h => hm (Or.inr (Or.inr (Or.inr (Or.inr (Or.inl h)))))) (fun h => hm (Or.inr (Or.inr (Or.inr (Or.inr (Or.inr h))))))))))))) hv7 ⟨by first | (clear ha1 ha2 ha3 ha4 ha5 ha6 hv7 hv9 hv10 hx0 hx1 hx2 hx3 h_8 h_9 h_27 h_35 h_36 h_37 h_38; omega) | omega, hy_12.2⟩ hy_40 ⟨by first | exact rgp_l hv10.1 (by decide) | omega, by first | (clear ha1 ha2 ha3 ha4 ha5 ha6 hv7 hv8 hv9 hv10 hx1 hx2 hx3 h_8 h_9 h_27 h_35 h_36 h_37 h_38; omega) | omega⟩ ⟨by first | (clear ha1 ha2 ha3 ha4 ha5 ha6 hv7 hv8 hv9 hv10 hx1 hx2 hx3 h_8 h_9 h_27 h_35 h_36 h_37 h_38; omega) | omega, by first | (clear ha1 ha2 ha3 ha4 ha5 ha6 hv7 hv8 hv9 hv10 hx1 hx2 hx3 h_8 h_9 h_27 h_35 h_36 h_37 h_38; omega) | omega⟩ ⟨by first | (clear ha1 ha2 ha3 ha4 ha5 ha6 hv7 hv8 hv9 hv10 hx0 hx2 hx3 h_8 h_9 h_27 h_35 h_36 h_37 h_38; omega) | omega, by first | (clear ha1 ha2 ha3 ha4 ha5 ha6 hv7 hv8 hv9 hv10 hx0 hx2 hx3 h_8 h_9 h_27 h_35 h_36 h_37 h_38; omega) | omega⟩ ⟨by first | (clear ha1 ha2 ha3 ha4 ha5 ha6 hv7 hv8 hv9 hv10 hx0 hx1 hx3 h_8 h_9 h_27 h_35 h_36 h_37 h_38; omega) | omega, by first | (clear ha1 ha2 ha3 ha4 ha5 ha6 hv7 hv8 hv9 hv10 hx0 hx1 hx3 h_8 h_9 h_27 h_35 h_36 h_37 h_38; omega) | omega⟩ ⟨by first | (clear ha1 ha2 ha3 ha4 ha5 ha6 hv7 hv8 hv9 hv10 hx0 hx1 hx2 h_8 h_9 h_27 h_35 h_36 h_37 h_38; omega) | omega, by first | (clear ha1 ha2 ha3 ha4 ha5 ha6 hv7 hv8 hv9 hv10 hx0 hx1 hx2 h_8 h_9 h_27 h_35 h_36 h_37 h_38; omega) | omega⟩ (by omega)
        · refine v_ic_ge_f (t := 129) rfl (by decide) ⟨hy_12.1, (Int.not_le.mp h_27), hv7.2⟩ ?_
          refine q_iload rfl rfl ?_
          refine q_goto (t := 131) rfl (by decide) ?_
          refine q_istore rfl (by decide) ?_
          refine q_iload rfl rfl ?_
          refine q_iload rfl rfl ?_
          by_cases h_41 : y_12 ≤ v8
          · refine v_ic_le_t (t := 145) rfl (by decide) ⟨hy_12.1, h_41, hv8.2⟩ ?_
            refine q_iload rfl rfl ?_
            refine q_istore rfl (by decide) ?_
            refine q_iload rfl rfl ?_
            refine q_aload_n rfl rfl ?_
            refine q_iload rfl rfl ?_
            have h_42 := ir_59_g hI_6 (j := 4 * a6) (by first | (clear ha1 ha2 ha3 ha4 ha5 ha6 hv7 hv8 hv9 hv10 hx0 hx2 hx3 h_8 h_9 h_41; omega) | omega)
            have h_43 := ir_59_g hI_6 (j := 4 * a6 + 1) (by first | (clear ha1 ha2 ha3 ha4 ha5 ha6 hv7 hv8 hv9 hv10 hx0 hx2 hx3 h_8 h_9 h_41 h_42; omega) | omega)
            have h_44 := ir_59_g hI_6 (j := 4 * a6 + 2) (by first | (clear ha1 ha2 ha3 ha4 ha5 ha6 hv7 hv8 hv9 hv10 hx0 hx2 hx3 h_8 h_9 h_41 h_42 h_43; omega) | omega)
            have h_45 := ir_59_g hI_6 (j := 4 * a6 + 3) (by first | (clear ha1 ha2 ha3 ha4 ha5 ha6 hv7 hv8 hv9 hv10 hx0 hx2 hx3 h_8 h_9 h_41 h_42 h_43 h_44; omega) | omega)
            refine v_cv rfl rfl rfl rfl (by decide) ⟨⟨rfl, rfl⟩, by decide, rfl⟩ (Nat.le_of_ble_eq_true rfl) (Nat.le_of_ble_eq_true rfl) (s_187 (v1 := c_5 59 (4 * a6)) (v2 := c_5 59 (4 * a6 + 1)) (v3 := c_5 59 (4 * a6 + 2)) (v4 := c_5 59 (4 * a6 + 3)) (r := c_5 59 (4 * a6 + 1) + c_5 59 (4 * a6 + 2) + c_5 59 (4 * a6 + 3) + c_5 59 (4 * a6)) (a1 := a6) hI_6 (show 0 ≤ a6 ∧ a6 ≤ 5 from ⟨by first | (clear ha1 ha2 ha3 ha4 ha5 ha6 hv7 hv8 hv9 hv10 hx0 hx2 hx3 h_8 h_9 h_41; omega) | omega, by first | (clear ha1 ha2 ha3 ha4 ha5 ha6 hv7 hv8 hv9 hv10 hx0 hx2 hx3 h_8 h_9 h_41; omega) | omega⟩) (rfl) (rfl) (rfl) (rfl) (by omega) ?_)
            refine bk_inl ?_
            by_cases h_46 : c_5 59 (4 * a6 + 1) + c_5 59 (4 * a6 + 2) + c_5 59 (4 * a6 + 3) + c_5 59 (4 * a6) ≠ 0
            · refine v_if_ne_t (t := 164) rfl (by decide) ⟨h_46, ⟨by first | (clear ha1 ha2 ha3 ha4 ha5 ha6 hv7 hv8 hv9 hv10 hx0 hx1 hx2 hx3 h_8 h_9 h_41; omega) | omega, by first | (clear ha1 ha2 ha3 ha4 ha5 ha6 hv7 hv8 hv9 hv10 hx0 hx1 hx2 hx3 h_8 h_9 h_41; omega) | omega⟩, by decide, by decide⟩ ?_
              refine q_iconst rfl ?_
              refine v_iadd (v := v9) rfl (by first | (clear ha1 ha2 ha3 ha4 ha5 ha6 hv7 hv8 hv9 hv10 hx0 hx1 hx2 hx3 h_8 h_9 h_41 h_42 h_43 h_44 h_45 h_46; omega) | omega) ?_
              refine q_istore rfl (by decide) ?_
              refine v_iinc (v := v10 + 1) rfl rfl (by decide) rfl ?_
              refine Wp_ls [(10, vi (v10 + 1)), (9, vi v9), (8, vi v8), (7, vi y_12), (11, vi y_12), (0, .ref 41), (1, vi a1), (2, vi a2), (3, vi a3), (4, vi a4), (5, vi a5), (6, vi a6)] (lsub_cons rfl (lsub_cons rfl (lsub_cons rfl (lsub_cons rfl (lsub_cons rfl (lsub_cons rfl (lsub_cons rfl (lsub_cons rfl (lsub_cons rfl (lsub_cons rfl (lsub_cons rfl (lsub_cons rfl lsub_nil)))))))))))) ?_
              refine q_goto (t := 77) rfl (by decide) ?_
              refine Wp_ls [(0, .ref 41), (1, vi a1), (2, vi a2), (3, vi a3), (4, vi a4), (5, vi a5), (6, vi a6), (7, vi y_12), (8, vi v8), (9, vi v9), (10, vi (v10 + 1))] (lsub_cons rfl (lsub_cons rfl (lsub_cons rfl (lsub_cons rfl (lsub_cons rfl (lsub_cons rfl (lsub_cons rfl (lsub_cons rfl (lsub_cons rfl (lsub_cons rfl (lsub_cons rfl lsub_nil))))))))))) ?_
              exact ih c_5 y_12 v8 v9 (v10 + 1) hI_6 (fun a j hm => (hF_7 a j (fun q => q.elim (fun h => hm (Or.inr (Or.inr (Or.inl h)))) (fun q => q.elim (fun h => hm (Or.inr (Or.inr (Or.inr (Or.inl h))))) (fun q => q.elim (fun h => hm (Or.inr (Or.inr (Or.inr (Or.inr (Or.inl h)))))) (fun h => hm (Or.inr (Or.inr (Or.inr (Or.inr (Or.inr h)))))))))).trans (hF a j (fun q => q.elim (fun h => hm (Or.inl h)) (fun q => q.elim (fun h => hm (Or.inr (Or.inl h))) (fun q => q.elim (fun h => hm (Or.inr (Or.inr (Or.inl h)))) (fun q => q.elim (fun h => hm (Or.inr (Or.inr (Or.inr (Or.inl h))))) (fun q => q.elim (fun h => hm (Or.inr (Or.inr (Or.inr (Or.inr (Or.inl h)))))) (fun h => hm (Or.inr (Or.inr (Or.inr (Or.inr (Or.inr h))))))))))))) hy_12 hv8 hv9 ⟨by first | exact rgp_l hv10.1 (by decide) | omega, by first | (clear ha1 ha2 ha3 ha4 ha5 ha6 hv7 hv8 hv9 hv10 hx1 hx2 hx3 h_8 h_9 h_41 h_42 h_43 h_44 h_45 h_46; omega) | omega⟩ ⟨by first | (clear ha1 ha2 ha3 ha4 ha5 ha6 hv7 hv8 hv9 hv10 hx1 hx2 hx3 h_8 h_9 h_41 h_42 h_43 h_44 h_45 h_46; omega) | omega, by first | (clear ha1 ha2 ha3 ha4 ha5 ha6 hv7 hv8 hv9 hv10 hx1 hx2 hx3 h_8 h_9 h_41 h_42 h_43 h_44 h_45 h_46; omega) | omega⟩ ⟨by first | (clear ha1 ha2 ha3 ha4 ha5 ha6 hv7 hv8 hv9 hv10 hx0 hx2 hx3 h_8 h_9 h_41 h_42 h_43 h_44 h_45 h_46; omega) | omega, by first | (clear ha1 ha2 ha3 ha4 ha5 ha6 hv7 hv8 hv9 hv10 hx0 hx2 hx3 h_8 h_9 h_41 h_42 h_43 h_44 h_45 h_46; omega) | omega⟩ ⟨by first | (clear ha1 ha2 ha3 ha4 ha5 ha6 hv7 hv8 hv9 hv10 hx0 hx1 hx3 h_8 h_9 h_41 h_42 h_43 h_44 h_45 h_46; omega) | omega, by first | (clear ha1 ha2 ha3 ha4 ha5 ha6 hv7 hv8 hv9 hv10 hx0 hx1 hx3 h_8 h_9 h_41 h_42 h_43 h_44 h_45 h_46; omega) | omega⟩ ⟨by first | (clear ha1 ha2 ha3 ha4 ha5 ha6 hv7 hv8 hv9 hv10 hx0 hx1 hx2 h_8 h_9 h_41 h_42 h_43 h_44 h_45 h_46; omega) | omega, by first | (clear ha1 ha2 ha3 ha4 ha5 ha6 hv7 hv8 hv9 hv10 hx0 hx1 hx2 h_8 h_9 h_41 h_42 h_43 h_44 h_45 h_46; omega) | omega⟩ (by omega)
            · refine v_if_ne_f (t := 164) rfl (by decide) (Decidable.not_not.mp h_46) ?_
              refine q_iconst rfl ?_
              refine q_goto (t := 165) rfl (by decide) ?_
              refine v_iadd (v := v9 + 1) rfl rfl ?_
              refine v_nrm (fun y_47 hy_47 => ?_)
              refine q_istore rfl (by decide) ?_
              refine v_iinc (v := v10 + 1) rfl rfl (by decide) rfl ?_
              refine Wp_ls [(10, vi (v10 + 1)), (9, vi y_47), (8, vi v8), (7, vi y_12), (11, vi y_12), (0, .ref 41), (1, vi a1), (2, vi a2), (3, vi a3), (4, vi a4), (5, vi a5), (6, vi a6)] (lsub_cons rfl (lsub_cons rfl (lsub_cons rfl (lsub_cons rfl (lsub_cons rfl (lsub_cons rfl (lsub_cons rfl (lsub_cons rfl (lsub_cons rfl (lsub_cons rfl (lsub_cons rfl (lsub_cons rfl lsub_nil)))))))))))) ?_
              refine q_goto (t := 77) rfl (by decide) ?_
              refine Wp_ls [(0, .ref 41), (1, vi a1), (2, vi a2), (3, vi a3), (4, vi a4), (5, vi a5), (6, vi a6), (7, vi y_12), (8, vi v8), (9, vi y_47), (10, vi (v10 + 1))] (lsub_cons rfl (lsub_cons rfl (lsub_cons rfl (lsub_cons rfl (lsub_cons rfl (lsub_cons rfl (lsub_cons rfl (lsub_cons rfl (lsub_cons rfl (lsub_cons rfl (lsub_cons rfl lsub_nil))))))))))) ?_
              exact ih c_5 y_12 v8 y_47 (v10 + 1) hI_6 (fun a j hm => (hF_7 a j (fun q => q.elim (fun h => hm (Or.inr (Or.inr (Or.inl h)))) (fun q => q.elim (fun h => hm (Or.inr (Or.inr (Or.inr (Or.inl h))))) (fun q => q.elim (fun h => hm (Or.inr (Or.inr (Or.inr (Or.inr (Or.inl h)))))) (fun h => hm (Or.inr (Or.inr (Or.inr (Or.inr (Or.inr h)))))))))).trans (hF a j (fun q => q.elim (fun h => hm (Or.inl h)) (fun q => q.elim (fun h => hm (Or.inr (Or.inl h))) (fun q => q.elim (fun h => hm (Or.inr (Or.inr (Or.inl h)))) (fun q => q.elim (fun h => hm (Or.inr (Or.inr (Or.inr (Or.inl h))))) (fun q => q.elim (fun h => hm (Or.inr (Or.inr (Or.inr (Or.inr (Or.inl h)))))) (fun h => hm (Or.inr (Or.inr (Or.inr (Or.inr (Or.inr h))))))))))))) hy_12 hv8 hy_47 ⟨by first | exact rgp_l hv10.1 (by decide) | omega, by first | (clear ha1 ha2 ha3 ha4 ha5 ha6 hv7 hv8 hv9 hv10 hx1 hx2 hx3 h_8 h_9 h_41 h_42 h_43 h_44 h_45; omega) | omega⟩ ⟨by first | (clear ha1 ha2 ha3 ha4 ha5 ha6 hv7 hv8 hv9 hv10 hx1 hx2 hx3 h_8 h_9 h_41 h_42 h_43 h_44 h_45; omega) | omega, by first | (clear ha1 ha2 ha3 ha4 ha5 ha6 hv7 hv8 hv9 hv10 hx1 hx2 hx3 h_8 h_9 h_41 h_42 h_43 h_44 h_45; omega) | omega⟩ ⟨by first | (clear ha1 ha2 ha3 ha4 ha5 ha6 hv7 hv8 hv9 hv10 hx0 hx2 hx3 h_8 h_9 h_41 h_42 h_43 h_44 h_45; omega) | omega, by first | (clear ha1 ha2 ha3 ha4 ha5 ha6 hv7 hv8 hv9 hv10 hx0 hx2 hx3 h_8 h_9 h_41 h_42 h_43 h_44 h_45; omega) | omega⟩ ⟨by first | (clear ha1 ha2 ha3 ha4 ha5 ha6 hv7 hv8 hv9 hv10 hx0 hx1 hx3 h_8 h_9 h_41 h_42 h_43 h_44 h_45; omega) | omega, by first | (clear ha1 ha2 ha3 ha4 ha5 ha6 hv7 hv8 hv9 hv10 hx0 hx1 hx3 h_8 h_9 h_41 h_42 h_43 h_44 h_45; omega) | omega⟩ ⟨by first | (clear ha1 ha2 ha3 ha4 ha5 ha6 hv7 hv8 hv9 hv10 hx0 hx1 hx2 h_8 h_9 h_41 h_42 h_43 h_44 h_45; omega) | omega, by first | (clear ha1 ha2 ha3 ha4 ha5 ha6 hv7 hv8 hv9 hv10 hx0 hx1 hx2 h_8 h_9 h_41 h_42 h_43 h_44 h_45; omega) | omega⟩ (by omega)
          · refine v_ic_le_f (t := 145) rfl (by decide) ⟨(Int.le_trans (by decide) hv8.1), (Int.not_le.mp h_41), hy_12.2⟩ ?_
            refine q_iload rfl rfl ?_
            refine q_goto (t := 147) rfl (by decide) ?_
            refine q_istore rfl (by decide) ?_
            refine q_iload rfl rfl ?_
            refine q_aload_n rfl rfl ?_
            refine q_iload rfl rfl ?_
            have h_48 := ir_59_g hI_6 (j := 4 * a6) (by first | (clear ha1 ha2 ha3 ha4 ha5 ha6 hv7 hv8 hv9 hv10 hx0 hx2 hx3 h_8 h_9; omega) | omega)
            have h_49 := ir_59_g hI_6 (j := 4 * a6 + 1) (by first | (clear ha1 ha2 ha3 ha4 ha5 ha6 hv7 hv8 hv9 hv10 hx0 hx2 hx3 h_8 h_9 h_48; omega) | omega)
            have h_50 := ir_59_g hI_6 (j := 4 * a6 + 2) (by first | (clear ha1 ha2 ha3 ha4 ha5 ha6 hv7 hv8 hv9 hv10 hx0 hx2 hx3 h_8 h_9 h_48 h_49; omega) | omega)
            have h_51 := ir_59_g hI_6 (j := 4 * a6 + 3) (by first | (clear ha1 ha2 ha3 ha4 ha5 ha6 hv7 hv8 hv9 hv10 hx0 hx2 hx3 h_8 h_9 h_48 h_49 h_50; omega) | omega)
            refine v_cv rfl rfl rfl rfl (by decide) ⟨⟨rfl, rfl⟩, by decide, rfl⟩ (Nat.le_of_ble_eq_true rfl) (Nat.le_of_ble_eq_true rfl) (s_187 (v1 := c_5 59 (4 * a6)) (v2 := c_5 59 (4 * a6 + 1)) (v3 := c_5 59 (4 * a6 + 2)) (v4 := c_5 59 (4 * a6 + 3)) (r := c_5 59 (4 * a6 + 1) + c_5 59 (4 * a6 + 2) + c_5 59 (4 * a6 + 3) + c_5 59 (4 * a6)) (a1 := a6) hI_6 (show 0 ≤ a6 ∧ a6 ≤ 5 from ⟨by first | (clear ha1 ha2 ha3 ha4 ha5 ha6 hv7 hv8 hv9 hv10 hx0 hx2 hx3 h_8 h_9; omega) | omega, by first | (clear ha1 ha2 ha3 ha4 ha5 ha6 hv7 hv8 hv9 hv10 hx0 hx2 hx3 h_8 h_9; omega) | omega⟩) (rfl) (rfl) (rfl) (rfl) (by omega) ?_)
            refine bk_inl ?_
            by_cases h_52 : c_5 59 (4 * a6 + 1) + c_5 59 (4 * a6 + 2) + c_5 59 (4 * a6 + 3) + c_5 59 (4 * a6) ≠ 0
            · refine v_if_ne_t (t := 164) rfl (by decide) ⟨h_52, ⟨by first | (clear ha1 ha2 ha3 ha4 ha5 ha6 hv7 hv8 hv9 hv10 hx0 hx1 hx2 hx3 h_8 h_9; omega) | omega, by first | (clear ha1 ha2 ha3 ha4 ha5 ha6 hv7 hv8 hv9 hv10 hx0 hx1 hx2 hx3 h_8 h_9; omega) | omega⟩, by decide, by decide⟩ ?_
              refine q_iconst rfl ?_
              refine v_iadd (v := v9) rfl (by first | (clear ha1 ha2 ha3 ha4 ha5 ha6 hv7 hv8 hv9 hv10 hx0 hx1 hx2 hx3 h_8 h_9 h_48 h_49 h_50 h_51 h_52; omega) | omega) ?_
              refine q_istore rfl (by decide) ?_
              refine v_iinc (v := v10 + 1) rfl rfl (by decide) rfl ?_
              refine Wp_ls [(10, vi (v10 + 1)), (9, vi v9), (8, vi y_12), (7, vi y_12), (11, vi y_12), (0, .ref 41), (1, vi a1), (2, vi a2), (3, vi a3), (4, vi a4), (5, vi a5), (6, vi a6)] (lsub_cons rfl (lsub_cons rfl (lsub_cons rfl (lsub_cons rfl (lsub_cons rfl (lsub_cons rfl (lsub_cons rfl (lsub_cons rfl (lsub_cons rfl (lsub_cons rfl (lsub_cons rfl (lsub_cons rfl lsub_nil)))))))))))) ?_
              refine q_goto (t := 77) rfl (by decide) ?_
              refine Wp_ls [(0, .ref 41), (1, vi a1), (2, vi a2), (3, vi a3), (4, vi a4), (5, vi a5), (6, vi a6), (7, vi y_12), (8, vi y_12), (9, vi v9), (10, vi (v10 + 1))] (lsub_cons rfl (lsub_cons rfl (lsub_cons rfl (lsub_cons rfl (lsub_cons rfl (lsub_cons rfl (lsub_cons rfl (lsub_cons rfl (lsub_cons rfl (lsub_cons rfl (lsub_cons rfl lsub_nil))))))))))) ?_
              exact ih c_5 y_12 y_12 v9 (v10 + 1) hI_6 (fun a j hm => (hF_7 a j (fun q => q.elim (fun h => hm (Or.inr (Or.inr (Or.inl h)))) (fun q => q.elim (fun h => hm (Or.inr (Or.inr (Or.inr (Or.inl h))))) (fun q => q.elim (fun h => hm (Or.inr (Or.inr (Or.inr (Or.inr (Or.inl h)))))) (fun h => hm (Or.inr (Or.inr (Or.inr (Or.inr (Or.inr h)))))))))).trans (hF a j (fun q => q.elim (fun h => hm (Or.inl h)) (fun q => q.elim (fun h => hm (Or.inr (Or.inl h))) (fun q => q.elim (fun h => hm (Or.inr (Or.inr (Or.inl h)))) (fun q => q.elim (fun h => hm (Or.inr (Or.inr (Or.inr (Or.inl h))))) (fun q => q.elim (fun h => hm (Or.inr (Or.inr (Or.inr (Or.inr (Or.inl h)))))) (fun h => hm (Or.inr (Or.inr (Or.inr (Or.inr (Or.inr h))))))))))))) hy_12 ⟨by first | (clear ha1 ha2 ha3 ha4 ha5 ha6 hv7 hv9 hv10 hx0 hx1 hx2 hx3 h_8 h_9 h_48 h_49 h_50 h_51 h_52; omega) | omega, hy_12.2⟩ hv9 ⟨by first | exact rgp_l hv10.1 (by decide) | omega, by first | (clear ha1 ha2 ha3 ha4 ha5 ha6 hv7 hv8 hv9 hv10 hx1 hx2 hx3 h_8 h_9 h_48 h_49 h_50 h_51 h_52; omega) | omega⟩ ⟨by first | (clear ha1 ha2 ha3 ha4 ha5 ha6 hv7 hv8 hv9 hv10 hx1 hx2 hx3 h_8 h_9 h_48 h_49 h_50 h_51 h_52; omega) | omega, by first | (clear ha1 ha2 ha3 ha4 ha5 ha6 hv7 hv8 hv9 hv10 hx1 hx2 hx3 h_8 h_9 h_48 h_49 h_50 h_51 h_52; omega) | omega⟩ ⟨by first | (clear ha1 ha2 ha3 ha4 ha5 ha6 hv7 hv8 hv9 hv10 hx0 hx2 hx3 h_8 h_9 h_48 h_49 h_50 h_51 h_52; omega) | omega, by first | (clear ha1 ha2 ha3 ha4 ha5 ha6 hv7 hv8 hv9 hv10 hx0 hx2 hx3 h_8 h_9 h_48 h_49 h_50 h_51 h_52; omega) | omega⟩ ⟨by first | (clear ha1 ha2 ha3 ha4 ha5 ha6 hv7 hv8 hv9 hv10 hx0 hx1 hx3 h_8 h_9 h_48 h_49 h_50 h_51 h_52; omega) | omega, by first | (clear ha1 ha2 ha3 ha4 ha5 ha6 hv7 hv8 hv9 hv10 hx0 hx1 hx3 h_8 h_9 h_48 h_49 h_50 h_51 h_52; omega) | omega⟩ ⟨by first | (clear ha1 ha2 ha3 ha4 ha5 ha6 hv7 hv8 hv9 hv10 hx0 hx1 hx2 h_8 h_9 h_48 h_49 h_50 h_51 h_52; omega) | omega, by first | (clear ha1 ha2 ha3 ha4 ha5 ha6 hv7 hv8 hv9 hv10 hx0 hx1 hx2 h_8 h_9 h_48 h_49 h_50 h_51 h_52; omega) | omega⟩ (by omega)
            · refine v_if_ne_f (t := 164) rfl (by decide) (Decidable.not_not.mp h_52) ?_
              refine q_iconst rfl ?_
              refine q_goto (t := 165) rfl (by decide) ?_
              refine v_iadd (v := v9 + 1) rfl rfl ?_
              refine v_nrm (fun y_53 hy_53 => ?_)
              refine q_istore rfl (by decide) ?_
              refine v_iinc (v := v10 + 1) rfl rfl (by decide) rfl ?_
              refine Wp_ls [(10, vi (v10 + 1)), (9, vi y_53), (8, vi y_12), (7, vi y_12), (11, vi y_12), (0, .ref 41), (1, vi a1), (2, vi a2), (3, vi a3), (4, vi a4), (5, vi a5), (6, vi a6)] (lsub_cons rfl (lsub_cons rfl (lsub_cons rfl (lsub_cons rfl (lsub_cons rfl (lsub_cons rfl (lsub_cons rfl (lsub_cons rfl (lsub_cons rfl (lsub_cons rfl (lsub_cons rfl (lsub_cons rfl lsub_nil)))))))))))) ?_
              refine q_goto (t := 77) rfl (by decide) ?_
              refine Wp_ls [(0, .ref 41), (1, vi a1), (2, vi a2), (3, vi a3), (4, vi a4), (5, vi a5), (6, vi a6), (7, vi y_12), (8, vi y_12), (9, vi y_53), (10, vi (v10 + 1))] (lsub_cons rfl (lsub_cons rfl (lsub_cons rfl (lsub_cons rfl (lsub_cons rfl (lsub_cons rfl (lsub_cons rfl (lsub_cons rfl (lsub_cons rfl (lsub_cons rfl (lsub_cons rfl lsub_nil))))))))))) ?_
              exact ih c_5 y_12 y_12 y_53 (v10 + 1) hI_6 (fun a j hm => (hF_7 a j (fun q => q.elim (fun h => hm (Or.inr (Or.inr (Or.inl h)))) (fun q => q.elim (fun h => hm (Or.inr (Or.inr (Or.inr (Or.inl h))))) (fun q => q.elim (fun h => hm (Or.inr (Or.inr (Or.inr (Or.inr (Or.inl h)))))) (fun h => hm (Or.inr (Or.inr (Or.inr (Or.inr (Or.inr h)))))))))).trans (hF a j (fun q => q.elim (fun h => hm (Or.inl h)) (fun q => q.elim (fun h => hm (Or.inr (Or.inl h))) (fun q => q.elim (fun h => hm (Or.inr (Or.inr (Or.inl h)))) (fun q => q.elim (fun h => hm (Or.inr (Or.inr (Or.inr (Or.inl h))))) (fun q => q.elim (fun h => hm (Or.inr (Or.inr (Or.inr (Or.inr (Or.inl h)))))) (fun h => hm (Or.inr (Or.inr (Or.inr (Or.inr (Or.inr h))))))))))))) hy_12 ⟨by first | (clear ha1 ha2 ha3 ha4 ha5 ha6 hv7 hv9 hv10 hx0 hx1 hx2 hx3 h_8 h_9 h_48 h_49 h_50 h_51; omega) | omega, hy_12.2⟩ hy_53 ⟨by first | exact rgp_l hv10.1 (by decide) | omega, by first | (clear ha1 ha2 ha3 ha4 ha5 ha6 hv7 hv8 hv9 hv10 hx1 hx2 hx3 h_8 h_9 h_48 h_49 h_50 h_51; omega) | omega⟩ ⟨by first | (clear ha1 ha2 ha3 ha4 ha5 ha6 hv7 hv8 hv9 hv10 hx1 hx2 hx3 h_8 h_9 h_48 h_49 h_50 h_51; omega) | omega, by first | (clear ha1 ha2 ha3 ha4 ha5 ha6 hv7 hv8 hv9 hv10 hx1 hx2 hx3 h_8 h_9 h_48 h_49 h_50 h_51; omega) | omega⟩ ⟨by first | (clear ha1 ha2 ha3 ha4 ha5 ha6 hv7 hv8 hv9 hv10 hx0 hx2 hx3 h_8 h_9 h_48 h_49 h_50 h_51; omega) | omega, by first | (clear ha1 ha2 ha3 ha4 ha5 ha6 hv7 hv8 hv9 hv10 hx0 hx2 hx3 h_8 h_9 h_48 h_49 h_50 h_51; omega) | omega⟩ ⟨by first | (clear ha1 ha2 ha3 ha4 ha5 ha6 hv7 hv8 hv9 hv10 hx0 hx1 hx3 h_8 h_9 h_48 h_49 h_50 h_51; omega) | omega, by first | (clear ha1 ha2 ha3 ha4 ha5 ha6 hv7 hv8 hv9 hv10 hx0 hx1 hx3 h_8 h_9 h_48 h_49 h_50 h_51; omega) | omega⟩ ⟨by first | (clear ha1 ha2 ha3 ha4 ha5 ha6 hv7 hv8 hv9 hv10 hx0 hx1 hx2 h_8 h_9 h_48 h_49 h_50 h_51; omega) | omega, by first | (clear ha1 ha2 ha3 ha4 ha5 ha6 hv7 hv8 hv9 hv10 hx0 hx1 hx2 h_8 h_9 h_48 h_49 h_50 h_51; omega) | omega⟩ (by omega)
set_option maxRecDepth 100000 in
set_option maxHeartbeats 4000000 in
theorem s_256 {sc : List Int32} {d P Q : Nat} {c : ME} {a1 : Int} {a2 : Int} {a3 : Int} {a4 : Int} {a5 : Int} {a6 : Int} {Z : AR → Prop} (hI : Iv 0 (-1) P Q c) (ha1 : (-2147483648) ≤ a1 ∧ a1 ≤ 2147483647) (ha2 : (-2147483648) ≤ a2 ∧ a2 ≤ 2147483647) (ha3 : (-2147483648) ≤ a3 ∧ a3 ≤ 2147483647) (ha4 : (-2147483648) ≤ a4 ∧ a4 ≤ 2147483647) (ha5 : (-2147483648) ≤ a5 ∧ a5 ≤ 2147483647) (ha6 : (-2147483648) ≤ a6 ∧ a6 ≤ 2147483647) (K : ∀ (c2 : ME) (y : Int), Iv 0 (-1) P Q c2 → (∀ (a : Nat) (j : Int), ¬ ((a = 41 ∧ j = 0) ∨ a = 42 ∨ (a = 41 ∧ j = 50) ∨ a = 59 ∨ a = 54 ∨ a = 55) → c2 a j = c a j) → (-2147483648) ≤ y ∧ y ≤ 2147483647 → Z (.inl (some (vi y)), Wd P Q P P c2, 0, 0)) : Wp sc (d + 15) 256 0 [(0, .ref 41), (1, vi a1), (2, vi a2), (3, vi a3), (4, vi a4), (5, vi a5), (6, vi a6)] [] (Wd P Q P P c) 0 0 Z := by
  have hP := iv_P hI
  have hQ := iv_Q hI
  refine q_aload_n rfl rfl ?_
  refine q_iconst rfl ?_
  refine v_pi (z := 0) rfl rfl rfl (by decide) rfl rfl rfl (by decide) ?_
  refine q_aload_n rfl rfl ?_
  refine q_iload_n rfl rfl ?_
  refine q_iconst rfl ?_
  refine v_bip rfl (by decide) ?_
  refine q_call rfl rfl rfl rfl ?_
  refine q_iload_n rfl rfl ?_
  refine q_iload_n rfl rfl ?_
  by_cases h_54 : a2 < 1
  · refine v_ic_lt_t (t := 14) rfl (by decide) ⟨ha2.1, h_54, by decide⟩ ?_
    refine q_iconst rfl ?_
    refine v_zret rfl rfl (by decide) ?_
    refine bk_inl ?_
    refine v_if_eq_t (t := 54) rfl (by decide) (by decide) ?_
    refine q_iconst rfl ?_
    refine q_iconst rfl ?_
    refine q_iconst rfl ?_
    refine v_cv rfl rfl rfl rfl (by decide) ⟨⟨rfl, rfl⟩, by decide, rfl⟩ (Nat.le_of_ble_eq_true rfl) (Nat.le_of_ble_eq_true rfl) ?_
    refine q_iload_n rfl rfl ?_
    refine v_if_ne_f (t := 26) rfl (by decide) (by decide) ?_
    refine q_aload_n rfl rfl ?_
    refine v_gi (z := 0) (v := 0) rfl rfl rfl (by decide) rfl rfl (up_e rfl) ?_
    refine v_if_ne_f (t := 26) rfl (by decide) (by decide) ?_
    refine q_aload_n rfl rfl ?_
    refine q_iload_n rfl rfl ?_
    refine v_pi (z := 0) rfl rfl rfl (by decide) rfl rfl rfl (by decide) ?_
    refine q_aload_n rfl rfl ?_
    refine v_gr (t := 42) rfl rfl rfl (by decide) rfl ?_
    refine q_iload_n rfl rfl ?_
    refine q_dup2 rfl ⟨rfl, rfl⟩ ?_
    have h_55 := ir_42 hI 1
    refine v_ia (v := c 42 1) rfl rfl (by decide) (by decide) (by decide) ((up_c (nn rfl)).trans (up_c (nn rfl))) ?_
    refine q_iconst rfl ?_
    refine v_iadd (v := c 42 1 + 1) rfl rfl ?_
    refine v_nrm (fun y_56 hy_56 => ?_)
    refine v_is rfl rfl (by decide) (by decide) (by decide) ?_
    refine q_aload_n rfl rfl ?_
    refine v_gi (z := 0) (v := 1) rfl rfl rfl (by decide) rfl rfl ((up_c (nn rfl)).trans (up_e rfl)) ?_
    refine v_if_ne_t (t := 37) rfl (by decide) (by decide) ?_
    refine q_iconst rfl ?_
    refine v_zret rfl rfl (by decide) ?_
    refine bk_inl ?_
    refine v_if_ne_f (t := 65) rfl (by decide) (by decide) ?_
    refine q_iconst rfl ?_
    refine q_iret rfl rfl ?_
    have hI_57 := iw_41_0 (v := 0) hI ⟨by decide, by decide⟩
    have hI_58 := iw_41_0 (v := 1) hI_57 ⟨by decide, by decide⟩
    have hI_59 := iw_42 (j := 1) (v := y_56) hI_58 ⟨hy_56.1, hy_56.2⟩
    exact K (up (up (up c 41 0 0) 41 0 1) 42 1 y_56) 0 hI_59 (fun a j hm => (up_b (Decidable.or_iff_not_imp_left.mpr (fun h1 h2 => hm (Or.inr (Or.inl (Decidable.not_not.mp h1)))))).trans ((up_b (Decidable.or_iff_not_imp_left.mpr (fun h1 h2 => hm (Or.inl ⟨Decidable.not_not.mp h1, h2⟩)))).trans (up_b (Decidable.or_iff_not_imp_left.mpr (fun h1 h2 => hm (Or.inl ⟨Decidable.not_not.mp h1, h2⟩)))))) ⟨by decide, by decide⟩
  · refine v_ic_lt_f (t := 14) rfl (by decide) ⟨by decide, (Int.not_lt.mp h_54), ha2.2⟩ ?_
    refine q_iload_n rfl rfl ?_
    refine q_iload_n rfl rfl ?_
    by_cases h_60 : a2 > 10
    · refine v_ic_gt_t (t := 14) rfl (by decide) ⟨by decide, h_60, ha2.2⟩ ?_
      refine q_iconst rfl ?_
      refine v_zret rfl rfl (by decide) ?_
      refine bk_inl ?_
      refine v_if_eq_t (t := 54) rfl (by decide) (by decide) ?_
      refine q_iconst rfl ?_
      refine q_iconst rfl ?_
      refine q_iconst rfl ?_
      refine v_cv rfl rfl rfl rfl (by decide) ⟨⟨rfl, rfl⟩, by decide, rfl⟩ (Nat.le_of_ble_eq_true rfl) (Nat.le_of_ble_eq_true rfl) ?_
      refine q_iload_n rfl rfl ?_
      refine v_if_ne_f (t := 26) rfl (by decide) (by decide) ?_
      refine q_aload_n rfl rfl ?_
      refine v_gi (z := 0) (v := 0) rfl rfl rfl (by decide) rfl rfl (up_e rfl) ?_
      refine v_if_ne_f (t := 26) rfl (by decide) (by decide) ?_
      refine q_aload_n rfl rfl ?_
      refine q_iload_n rfl rfl ?_
      refine v_pi (z := 0) rfl rfl rfl (by decide) rfl rfl rfl (by decide) ?_
      refine q_aload_n rfl rfl ?_
      refine v_gr (t := 42) rfl rfl rfl (by decide) rfl ?_
      refine q_iload_n rfl rfl ?_
      refine q_dup2 rfl ⟨rfl, rfl⟩ ?_
      have h_61 := ir_42 hI 1
      refine v_ia (v := c 42 1) rfl rfl (by decide) (by decide) (by decide) ((up_c (nn rfl)).trans (up_c (nn rfl))) ?_
      refine q_iconst rfl ?_
      refine v_iadd (v := c 42 1 + 1) rfl rfl ?_
      refine v_nrm (fun y_62 hy_62 => ?_)
      refine v_is rfl rfl (by decide) (by decide) (by decide) ?_
      refine q_aload_n rfl rfl ?_
      refine v_gi (z := 0) (v := 1) rfl rfl rfl (by decide) rfl rfl ((up_c (nn rfl)).trans (up_e rfl)) ?_
      refine v_if_ne_t (t := 37) rfl (by decide) (by decide) ?_
      refine q_iconst rfl ?_
      refine v_zret rfl rfl (by decide) ?_
      refine bk_inl ?_
      refine v_if_ne_f (t := 65) rfl (by decide) (by decide) ?_
      refine q_iconst rfl ?_
      refine q_iret rfl rfl ?_
      have hI_63 := iw_41_0 (v := 0) hI ⟨by decide, by decide⟩
      have hI_64 := iw_41_0 (v := 1) hI_63 ⟨by decide, by decide⟩
      have hI_65 := iw_42 (j := 1) (v := y_62) hI_64 ⟨hy_62.1, hy_62.2⟩
      exact K (up (up (up c 41 0 0) 41 0 1) 42 1 y_62) 0 hI_65 (fun a j hm => (up_b (Decidable.or_iff_not_imp_left.mpr (fun h1 h2 => hm (Or.inr (Or.inl (Decidable.not_not.mp h1)))))).trans ((up_b (Decidable.or_iff_not_imp_left.mpr (fun h1 h2 => hm (Or.inl ⟨Decidable.not_not.mp h1, h2⟩)))).trans (up_b (Decidable.or_iff_not_imp_left.mpr (fun h1 h2 => hm (Or.inl ⟨Decidable.not_not.mp h1, h2⟩)))))) ⟨by decide, by decide⟩
    · refine v_ic_gt_f (t := 14) rfl (by decide) ⟨ha2.1, (Int.not_lt.mp h_60), by decide⟩ ?_
      refine q_iconst rfl ?_
      refine q_goto (t := 15) rfl (by decide) ?_
      refine v_zret rfl rfl (by decide) ?_
      refine bk_inl ?_
      refine v_if_eq_f (t := 54) rfl (by decide) (by decide) ?_
      refine q_iload_n rfl rfl ?_
      refine q_iload rfl rfl ?_
      refine q_call rfl rfl rfl rfl ?_
      refine q_iload_n rfl rfl ?_
      by_cases h_66 : a3 < 0
      · refine v_if_lt_t (t := 25) rfl (by decide) ⟨ha3.1, h_66, by decide⟩ ?_
        refine q_iconst rfl ?_
        refine v_zret rfl rfl (by decide) ?_
        refine bk_inl ?_
        refine v_if_eq_t (t := 54) rfl (by decide) (by decide) ?_
        refine q_iconst rfl ?_
        refine q_iconst rfl ?_
        refine q_iconst rfl ?_
        refine v_cv rfl rfl rfl rfl (by decide) ⟨⟨rfl, rfl⟩, by decide, rfl⟩ (Nat.le_of_ble_eq_true rfl) (Nat.le_of_ble_eq_true rfl) ?_
        refine q_iload_n rfl rfl ?_
        refine v_if_ne_f (t := 26) rfl (by decide) (by decide) ?_
        refine q_aload_n rfl rfl ?_
        refine v_gi (z := 0) (v := 0) rfl rfl rfl (by decide) rfl rfl (up_e rfl) ?_
        refine v_if_ne_f (t := 26) rfl (by decide) (by decide) ?_
        refine q_aload_n rfl rfl ?_
        refine q_iload_n rfl rfl ?_
        refine v_pi (z := 0) rfl rfl rfl (by decide) rfl rfl rfl (by decide) ?_
        refine q_aload_n rfl rfl ?_
        refine v_gr (t := 42) rfl rfl rfl (by decide) rfl ?_
        refine q_iload_n rfl rfl ?_
        refine q_dup2 rfl ⟨rfl, rfl⟩ ?_
        have h_67 := ir_42 hI 1
        refine v_ia (v := c 42 1) rfl rfl (by decide) (by decide) (by decide) ((up_c (nn rfl)).trans (up_c (nn rfl))) ?_
        refine q_iconst rfl ?_
        refine v_iadd (v := c 42 1 + 1) rfl rfl ?_
        refine v_nrm (fun y_68 hy_68 => ?_)
        refine v_is rfl rfl (by decide) (by decide) (by decide) ?_
        refine q_aload_n rfl rfl ?_
        refine v_gi (z := 0) (v := 1) rfl rfl rfl (by decide) rfl rfl ((up_c (nn rfl)).trans (up_e rfl)) ?_
        refine v_if_ne_t (t := 37) rfl (by decide) (by decide) ?_
        refine q_iconst rfl ?_
        refine v_zret rfl rfl (by decide) ?_
        refine bk_inl ?_
        refine v_if_ne_f (t := 65) rfl (by decide) (by decide) ?_
        refine q_iconst rfl ?_
        refine q_iret rfl rfl ?_
        have hI_69 := iw_41_0 (v := 0) hI ⟨by decide, by decide⟩
        have hI_70 := iw_41_0 (v := 1) hI_69 ⟨by decide, by decide⟩
        have hI_71 := iw_42 (j := 1) (v := y_68) hI_70 ⟨hy_68.1, hy_68.2⟩
        exact K (up (up (up c 41 0 0) 41 0 1) 42 1 y_68) 0 hI_71 (fun a j hm => (up_b (Decidable.or_iff_not_imp_left.mpr (fun h1 h2 => hm (Or.inr (Or.inl (Decidable.not_not.mp h1)))))).trans ((up_b (Decidable.or_iff_not_imp_left.mpr (fun h1 h2 => hm (Or.inl ⟨Decidable.not_not.mp h1, h2⟩)))).trans (up_b (Decidable.or_iff_not_imp_left.mpr (fun h1 h2 => hm (Or.inl ⟨Decidable.not_not.mp h1, h2⟩)))))) ⟨by decide, by decide⟩
      · refine v_if_lt_f (t := 25) rfl (by decide) ⟨by decide, (Int.not_lt.mp h_66), ha3.2⟩ ?_
        refine q_iload_n rfl rfl ?_
        refine v_bip rfl (by decide) ?_
        by_cases h_72 : a3 > 16
        · refine v_ic_gt_t (t := 25) rfl (by decide) ⟨by decide, h_72, ha3.2⟩ ?_
          refine q_iconst rfl ?_
          refine v_zret rfl rfl (by decide) ?_
          refine bk_inl ?_
          refine v_if_eq_t (t := 54) rfl (by decide) (by decide) ?_
          refine q_iconst rfl ?_
          refine q_iconst rfl ?_
          refine q_iconst rfl ?_
          refine v_cv rfl rfl rfl rfl (by decide) ⟨⟨rfl, rfl⟩, by decide, rfl⟩ (Nat.le_of_ble_eq_true rfl) (Nat.le_of_ble_eq_true rfl) ?_
          refine q_iload_n rfl rfl ?_
          refine v_if_ne_f (t := 26) rfl (by decide) (by decide) ?_
          refine q_aload_n rfl rfl ?_
          refine v_gi (z := 0) (v := 0) rfl rfl rfl (by decide) rfl rfl (up_e rfl) ?_
          refine v_if_ne_f (t := 26) rfl (by decide) (by decide) ?_
          refine q_aload_n rfl rfl ?_
          refine q_iload_n rfl rfl ?_
          refine v_pi (z := 0) rfl rfl rfl (by decide) rfl rfl rfl (by decide) ?_
          refine q_aload_n rfl rfl ?_
          refine v_gr (t := 42) rfl rfl rfl (by decide) rfl ?_
          refine q_iload_n rfl rfl ?_
          refine q_dup2 rfl ⟨rfl, rfl⟩ ?_
          have h_73 := ir_42 hI 1
          refine v_ia (v := c 42 1) rfl rfl (by decide) (by decide) (by decide) ((up_c (nn rfl)).trans (up_c (nn rfl))) ?_
          refine q_iconst rfl ?_
          refine v_iadd (v := c 42 1 + 1) rfl rfl ?_
          refine v_nrm (fun y_74 hy_74 => ?_)
          refine v_is rfl rfl (by decide) (by decide) (by decide) ?_
          refine q_aload_n rfl rfl ?_
          refine v_gi (z := 0) (v := 1) rfl rfl rfl (by decide) rfl rfl ((up_c (nn rfl)).trans (up_e rfl)) ?_
          refine v_if_ne_t (t := 37) rfl (by decide) (by decide) ?_
          refine q_iconst rfl ?_
          refine v_zret rfl rfl (by decide) ?_
          refine bk_inl ?_
          refine v_if_ne_f (t := 65) rfl (by decide) (by decide) ?_
          refine q_iconst rfl ?_
          refine q_iret rfl rfl ?_
          have hI_75 := iw_41_0 (v := 0) hI ⟨by decide, by decide⟩
          have hI_76 := iw_41_0 (v := 1) hI_75 ⟨by decide, by decide⟩
          have hI_77 := iw_42 (j := 1) (v := y_74) hI_76 ⟨hy_74.1, hy_74.2⟩
          exact K (up (up (up c 41 0 0) 41 0 1) 42 1 y_74) 0 hI_77 (fun a j hm => (up_b (Decidable.or_iff_not_imp_left.mpr (fun h1 h2 => hm (Or.inr (Or.inl (Decidable.not_not.mp h1)))))).trans ((up_b (Decidable.or_iff_not_imp_left.mpr (fun h1 h2 => hm (Or.inl ⟨Decidable.not_not.mp h1, h2⟩)))).trans (up_b (Decidable.or_iff_not_imp_left.mpr (fun h1 h2 => hm (Or.inl ⟨Decidable.not_not.mp h1, h2⟩)))))) ⟨by decide, by decide⟩
        · refine v_ic_gt_f (t := 25) rfl (by decide) ⟨ha3.1, (Int.not_lt.mp h_72), by decide⟩ ?_
          refine q_iload_n rfl rfl ?_
          refine q_iconst rfl ?_
          by_cases h_78 : a4 < 1
          · refine v_ic_lt_t (t := 25) rfl (by decide) ⟨ha4.1, h_78, by decide⟩ ?_
            refine q_iconst rfl ?_
            refine v_zret rfl rfl (by decide) ?_
            refine bk_inl ?_
            refine v_if_eq_t (t := 54) rfl (by decide) (by decide) ?_
            refine q_iconst rfl ?_
            refine q_iconst rfl ?_
            refine q_iconst rfl ?_
            refine v_cv rfl rfl rfl rfl (by decide) ⟨⟨rfl, rfl⟩, by decide, rfl⟩ (Nat.le_of_ble_eq_true rfl) (Nat.le_of_ble_eq_true rfl) ?_
            refine q_iload_n rfl rfl ?_
            refine v_if_ne_f (t := 26) rfl (by decide) (by decide) ?_
            refine q_aload_n rfl rfl ?_
            refine v_gi (z := 0) (v := 0) rfl rfl rfl (by decide) rfl rfl (up_e rfl) ?_
            refine v_if_ne_f (t := 26) rfl (by decide) (by decide) ?_
            refine q_aload_n rfl rfl ?_
            refine q_iload_n rfl rfl ?_
            refine v_pi (z := 0) rfl rfl rfl (by decide) rfl rfl rfl (by decide) ?_
            refine q_aload_n rfl rfl ?_
            refine v_gr (t := 42) rfl rfl rfl (by decide) rfl ?_
            refine q_iload_n rfl rfl ?_
            refine q_dup2 rfl ⟨rfl, rfl⟩ ?_
            have h_79 := ir_42 hI 1
            refine v_ia (v := c 42 1) rfl rfl (by decide) (by decide) (by decide) ((up_c (nn rfl)).trans (up_c (nn rfl))) ?_
            refine q_iconst rfl ?_
            refine v_iadd (v := c 42 1 + 1) rfl rfl ?_
            refine v_nrm (fun y_80 hy_80 => ?_)
            refine v_is rfl rfl (by decide) (by decide) (by decide) ?_
            refine q_aload_n rfl rfl ?_
            refine v_gi (z := 0) (v := 1) rfl rfl rfl (by decide) rfl rfl ((up_c (nn rfl)).trans (up_e rfl)) ?_
            refine v_if_ne_t (t := 37) rfl (by decide) (by decide) ?_
            refine q_iconst rfl ?_
            refine v_zret rfl rfl (by decide) ?_
            refine bk_inl ?_
            refine v_if_ne_f (t := 65) rfl (by decide) (by decide) ?_
            refine q_iconst rfl ?_
            refine q_iret rfl rfl ?_
            have hI_81 := iw_41_0 (v := 0) hI ⟨by decide, by decide⟩
            have hI_82 := iw_41_0 (v := 1) hI_81 ⟨by decide, by decide⟩
            have hI_83 := iw_42 (j := 1) (v := y_80) hI_82 ⟨hy_80.1, hy_80.2⟩
            exact K (up (up (up c 41 0 0) 41 0 1) 42 1 y_80) 0 hI_83 (fun a j hm => (up_b (Decidable.or_iff_not_imp_left.mpr (fun h1 h2 => hm (Or.inr (Or.inl (Decidable.not_not.mp h1)))))).trans ((up_b (Decidable.or_iff_not_imp_left.mpr (fun h1 h2 => hm (Or.inl ⟨Decidable.not_not.mp h1, h2⟩)))).trans (up_b (Decidable.or_iff_not_imp_left.mpr (fun h1 h2 => hm (Or.inl ⟨Decidable.not_not.mp h1, h2⟩)))))) ⟨by decide, by decide⟩
          · refine v_ic_lt_f (t := 25) rfl (by decide) ⟨by decide, (Int.not_lt.mp h_78), ha4.2⟩ ?_
            refine q_iload_n rfl rfl ?_
            refine v_bip rfl (by decide) ?_
            by_cases h_84 : a4 > 48
            · refine v_ic_gt_t (t := 25) rfl (by decide) ⟨by decide, h_84, ha4.2⟩ ?_
              refine q_iconst rfl ?_
              refine v_zret rfl rfl (by decide) ?_
              refine bk_inl ?_
              refine v_if_eq_t (t := 54) rfl (by decide) (by decide) ?_
              refine q_iconst rfl ?_
              refine q_iconst rfl ?_
              refine q_iconst rfl ?_
              refine v_cv rfl rfl rfl rfl (by decide) ⟨⟨rfl, rfl⟩, by decide, rfl⟩ (Nat.le_of_ble_eq_true rfl) (Nat.le_of_ble_eq_true rfl) ?_
              refine q_iload_n rfl rfl ?_
              refine v_if_ne_f (t := 26) rfl (by decide) (by decide) ?_
              refine q_aload_n rfl rfl ?_
              refine v_gi (z := 0) (v := 0) rfl rfl rfl (by decide) rfl rfl (up_e rfl) ?_
              refine v_if_ne_f (t := 26) rfl (by decide) (by decide) ?_
              refine q_aload_n rfl rfl ?_
              refine q_iload_n rfl rfl ?_
              refine v_pi (z := 0) rfl rfl rfl (by decide) rfl rfl rfl (by decide) ?_
              refine q_aload_n rfl rfl ?_
              refine v_gr (t := 42) rfl rfl rfl (by decide) rfl ?_
              refine q_iload_n rfl rfl ?_
              refine q_dup2 rfl ⟨rfl, rfl⟩ ?_
              have h_85 := ir_42 hI 1
              refine v_ia (v := c 42 1) rfl rfl (by decide) (by decide) (by decide) ((up_c (nn rfl)).trans (up_c (nn rfl))) ?_
              refine q_iconst rfl ?_
              refine v_iadd (v := c 42 1 + 1) rfl rfl ?_
              refine v_nrm (fun y_86 hy_86 => ?_)
              refine v_is rfl rfl (by decide) (by decide) (by decide) ?_
              refine q_aload_n rfl rfl ?_
              refine v_gi (z := 0) (v := 1) rfl rfl rfl (by decide) rfl rfl ((up_c (nn rfl)).trans (up_e rfl)) ?_
              refine v_if_ne_t (t := 37) rfl (by decide) (by decide) ?_
              refine q_iconst rfl ?_
              refine v_zret rfl rfl (by decide) ?_
              refine bk_inl ?_
              refine v_if_ne_f (t := 65) rfl (by decide) (by decide) ?_
              refine q_iconst rfl ?_
              refine q_iret rfl rfl ?_
              have hI_87 := iw_41_0 (v := 0) hI ⟨by decide, by decide⟩
              have hI_88 := iw_41_0 (v := 1) hI_87 ⟨by decide, by decide⟩
              have hI_89 := iw_42 (j := 1) (v := y_86) hI_88 ⟨hy_86.1, hy_86.2⟩
              exact K (up (up (up c 41 0 0) 41 0 1) 42 1 y_86) 0 hI_89 (fun a j hm => (up_b (Decidable.or_iff_not_imp_left.mpr (fun h1 h2 => hm (Or.inr (Or.inl (Decidable.not_not.mp h1)))))).trans ((up_b (Decidable.or_iff_not_imp_left.mpr (fun h1 h2 => hm (Or.inl ⟨Decidable.not_not.mp h1, h2⟩)))).trans (up_b (Decidable.or_iff_not_imp_left.mpr (fun h1 h2 => hm (Or.inl ⟨Decidable.not_not.mp h1, h2⟩)))))) ⟨by decide, by decide⟩
            · refine v_ic_gt_f (t := 25) rfl (by decide) ⟨ha4.1, (Int.not_lt.mp h_84), by decide⟩ ?_
              refine q_iconst rfl ?_
              refine q_goto (t := 26) rfl (by decide) ?_
              refine v_zret rfl rfl (by decide) ?_
              refine bk_inl ?_
              refine v_if_eq_f (t := 54) rfl (by decide) (by decide) ?_
              refine q_iload rfl rfl ?_
              refine q_iconst rfl ?_
              refine q_iconst rfl ?_
              refine q_call rfl rfl rfl rfl ?_
              refine q_iload_n rfl rfl ?_
              refine q_iload_n rfl rfl ?_
              by_cases h_90 : a5 < 0
              · refine v_ic_lt_t (t := 14) rfl (by decide) ⟨ha5.1, h_90, by decide⟩ ?_
                refine q_iconst rfl ?_
                refine v_zret rfl rfl (by decide) ?_
                refine bk_inl ?_
                refine v_if_eq_t (t := 54) rfl (by decide) (by decide) ?_
                refine q_iconst rfl ?_
                refine q_iconst rfl ?_
                refine q_iconst rfl ?_
                refine v_cv rfl rfl rfl rfl (by decide) ⟨⟨rfl, rfl⟩, by decide, rfl⟩ (Nat.le_of_ble_eq_true rfl) (Nat.le_of_ble_eq_true rfl) ?_
                refine q_iload_n rfl rfl ?_
                refine v_if_ne_f (t := 26) rfl (by decide) (by decide) ?_
                refine q_aload_n rfl rfl ?_
                refine v_gi (z := 0) (v := 0) rfl rfl rfl (by decide) rfl rfl (up_e rfl) ?_
                refine v_if_ne_f (t := 26) rfl (by decide) (by decide) ?_
                refine q_aload_n rfl rfl ?_
                refine q_iload_n rfl rfl ?_
                refine v_pi (z := 0) rfl rfl rfl (by decide) rfl rfl rfl (by decide) ?_
                refine q_aload_n rfl rfl ?_
                refine v_gr (t := 42) rfl rfl rfl (by decide) rfl ?_
                refine q_iload_n rfl rfl ?_
                refine q_dup2 rfl ⟨rfl, rfl⟩ ?_
                have h_91 := ir_42 hI 1
                refine v_ia (v := c 42 1) rfl rfl (by decide) (by decide) (by decide) ((up_c (nn rfl)).trans (up_c (nn rfl))) ?_
                refine q_iconst rfl ?_
                refine v_iadd (v := c 42 1 + 1) rfl rfl ?_
                refine v_nrm (fun y_92 hy_92 => ?_)
                refine v_is rfl rfl (by decide) (by decide) (by decide) ?_
                refine q_aload_n rfl rfl ?_
                refine v_gi (z := 0) (v := 1) rfl rfl rfl (by decide) rfl rfl ((up_c (nn rfl)).trans (up_e rfl)) ?_
                refine v_if_ne_t (t := 37) rfl (by decide) (by decide) ?_
                refine q_iconst rfl ?_
                refine v_zret rfl rfl (by decide) ?_
                refine bk_inl ?_
                refine v_if_ne_f (t := 65) rfl (by decide) (by decide) ?_
                refine q_iconst rfl ?_
                refine q_iret rfl rfl ?_
                have hI_93 := iw_41_0 (v := 0) hI ⟨by decide, by decide⟩
                have hI_94 := iw_41_0 (v := 1) hI_93 ⟨by decide, by decide⟩
                have hI_95 := iw_42 (j := 1) (v := y_92) hI_94 ⟨hy_92.1, hy_92.2⟩
                exact K (up (up (up c 41 0 0) 41 0 1) 42 1 y_92) 0 hI_95 (fun a j hm => (up_b (Decidable.or_iff_not_imp_left.mpr (fun h1 h2 => hm (Or.inr (Or.inl (Decidable.not_not.mp h1)))))).trans ((up_b (Decidable.or_iff_not_imp_left.mpr (fun h1 h2 => hm (Or.inl ⟨Decidable.not_not.mp h1, h2⟩)))).trans (up_b (Decidable.or_iff_not_imp_left.mpr (fun h1 h2 => hm (Or.inl ⟨Decidable.not_not.mp h1, h2⟩)))))) ⟨by decide, by decide⟩
              · refine v_ic_lt_f (t := 14) rfl (by decide) ⟨by decide, (Int.not_lt.mp h_90), ha5.2⟩ ?_
                refine q_iload_n rfl rfl ?_
                refine q_iload_n rfl rfl ?_
                by_cases h_96 : a5 > 2
                · refine v_ic_gt_t (t := 14) rfl (by decide) ⟨by decide, h_96, ha5.2⟩ ?_
                  refine q_iconst rfl ?_
                  refine v_zret rfl rfl (by decide) ?_
                  refine bk_inl ?_
                  refine v_if_eq_t (t := 54) rfl (by decide) (by decide) ?_
                  refine q_iconst rfl ?_
                  refine q_iconst rfl ?_
                  refine q_iconst rfl ?_
                  refine v_cv rfl rfl rfl rfl (by decide) ⟨⟨rfl, rfl⟩, by decide, rfl⟩ (Nat.le_of_ble_eq_true rfl) (Nat.le_of_ble_eq_true rfl) ?_
                  refine q_iload_n rfl rfl ?_
                  refine v_if_ne_f (t := 26) rfl (by decide) (by decide) ?_
                  refine q_aload_n rfl rfl ?_
                  refine v_gi (z := 0) (v := 0) rfl rfl rfl (by decide) rfl rfl (up_e rfl) ?_
                  refine v_if_ne_f (t := 26) rfl (by decide) (by decide) ?_
                  refine q_aload_n rfl rfl ?_
                  refine q_iload_n rfl rfl ?_
                  refine v_pi (z := 0) rfl rfl rfl (by decide) rfl rfl rfl (by decide) ?_
                  refine q_aload_n rfl rfl ?_
                  refine v_gr (t := 42) rfl rfl rfl (by decide) rfl ?_
                  refine q_iload_n rfl rfl ?_
                  refine q_dup2 rfl ⟨rfl, rfl⟩ ?_
                  have h_97 := ir_42 hI 1
                  refine v_ia (v := c 42 1) rfl rfl (by decide) (by decide) (by decide) ((up_c (nn rfl)).trans (up_c (nn rfl))) ?_
                  refine q_iconst rfl ?_
                  refine v_iadd (v := c 42 1 + 1) rfl rfl ?_
                  refine v_nrm (fun y_98 hy_98 => ?_)
                  refine v_is rfl rfl (by decide) (by decide) (by decide) ?_
                  refine q_aload_n rfl rfl ?_
                  refine v_gi (z := 0) (v := 1) rfl rfl rfl (by decide) rfl rfl ((up_c (nn rfl)).trans (up_e rfl)) ?_
                  refine v_if_ne_t (t := 37) rfl (by decide) (by decide) ?_
                  refine q_iconst rfl ?_
                  refine v_zret rfl rfl (by decide) ?_
                  refine bk_inl ?_
                  refine v_if_ne_f (t := 65) rfl (by decide) (by decide) ?_
                  refine q_iconst rfl ?_
                  refine q_iret rfl rfl ?_
                  have hI_99 := iw_41_0 (v := 0) hI ⟨by decide, by decide⟩
                  have hI_100 := iw_41_0 (v := 1) hI_99 ⟨by decide, by decide⟩
                  have hI_101 := iw_42 (j := 1) (v := y_98) hI_100 ⟨hy_98.1, hy_98.2⟩
                  exact K (up (up (up c 41 0 0) 41 0 1) 42 1 y_98) 0 hI_101 (fun a j hm => (up_b (Decidable.or_iff_not_imp_left.mpr (fun h1 h2 => hm (Or.inr (Or.inl (Decidable.not_not.mp h1)))))).trans ((up_b (Decidable.or_iff_not_imp_left.mpr (fun h1 h2 => hm (Or.inl ⟨Decidable.not_not.mp h1, h2⟩)))).trans (up_b (Decidable.or_iff_not_imp_left.mpr (fun h1 h2 => hm (Or.inl ⟨Decidable.not_not.mp h1, h2⟩)))))) ⟨by decide, by decide⟩
                · refine v_ic_gt_f (t := 14) rfl (by decide) ⟨ha5.1, (Int.not_lt.mp h_96), by decide⟩ ?_
                  refine q_iconst rfl ?_
                  refine q_goto (t := 15) rfl (by decide) ?_
                  refine v_zret rfl rfl (by decide) ?_
                  refine bk_inl ?_
                  refine v_if_eq_f (t := 54) rfl (by decide) (by decide) ?_
                  refine q_iload rfl rfl ?_
                  refine q_iconst rfl ?_
                  refine q_aload_n rfl rfl ?_
                  have h_102 := ir_41_20 hI
                  refine v_gi (z := 20) (v := c 41 20) rfl rfl rfl (by decide) rfl rfl (up_n (by decide)) ?_
                  refine q_iconst rfl ?_
                  refine v_isub (v := c 41 20 - 1) rfl rfl ?_
                  refine q_call rfl rfl rfl rfl ?_
                  refine q_iload_n rfl rfl ?_
                  refine q_iload_n rfl rfl ?_
                  by_cases h_103 : a6 < 0
                  · refine v_ic_lt_t (t := 14) rfl (by decide) ⟨ha6.1, h_103, by decide⟩ ?_
                    refine q_iconst rfl ?_
                    refine v_zret rfl rfl (by decide) ?_
                    refine bk_inl ?_
                    refine v_if_eq_t (t := 54) rfl (by decide) (by decide) ?_
                    refine q_iconst rfl ?_
                    refine q_iconst rfl ?_
                    refine q_iconst rfl ?_
                    refine v_cv rfl rfl rfl rfl (by decide) ⟨⟨rfl, rfl⟩, by decide, rfl⟩ (Nat.le_of_ble_eq_true rfl) (Nat.le_of_ble_eq_true rfl) ?_
                    refine q_iload_n rfl rfl ?_
                    refine v_if_ne_f (t := 26) rfl (by decide) (by decide) ?_
                    refine q_aload_n rfl rfl ?_
                    refine v_gi (z := 0) (v := 0) rfl rfl rfl (by decide) rfl rfl (up_e rfl) ?_
                    refine v_if_ne_f (t := 26) rfl (by decide) (by decide) ?_
                    refine q_aload_n rfl rfl ?_
                    refine q_iload_n rfl rfl ?_
                    refine v_pi (z := 0) rfl rfl rfl (by decide) rfl rfl rfl (by decide) ?_
                    refine q_aload_n rfl rfl ?_
                    refine v_gr (t := 42) rfl rfl rfl (by decide) rfl ?_
                    refine q_iload_n rfl rfl ?_
                    refine q_dup2 rfl ⟨rfl, rfl⟩ ?_
                    have h_104 := ir_42 hI 1
                    refine v_ia (v := c 42 1) rfl rfl (by decide) (by decide) (by decide) ((up_c (nn rfl)).trans (up_c (nn rfl))) ?_
                    refine q_iconst rfl ?_
                    refine v_iadd (v := c 42 1 + 1) rfl rfl ?_
                    refine v_nrm (fun y_105 hy_105 => ?_)
                    refine v_is rfl rfl (by decide) (by decide) (by decide) ?_
                    refine q_aload_n rfl rfl ?_
                    refine v_gi (z := 0) (v := 1) rfl rfl rfl (by decide) rfl rfl ((up_c (nn rfl)).trans (up_e rfl)) ?_
                    refine v_if_ne_t (t := 37) rfl (by decide) (by decide) ?_
                    refine q_iconst rfl ?_
                    refine v_zret rfl rfl (by decide) ?_
                    refine bk_inl ?_
                    refine v_if_ne_f (t := 65) rfl (by decide) (by decide) ?_
                    refine q_iconst rfl ?_
                    refine q_iret rfl rfl ?_
                    have hI_106 := iw_41_0 (v := 0) hI ⟨by decide, by decide⟩
                    have hI_107 := iw_41_0 (v := 1) hI_106 ⟨by decide, by decide⟩
                    have hI_108 := iw_42 (j := 1) (v := y_105) hI_107 ⟨hy_105.1, hy_105.2⟩
                    exact K (up (up (up c 41 0 0) 41 0 1) 42 1 y_105) 0 hI_108 (fun a j hm => (up_b (Decidable.or_iff_not_imp_left.mpr (fun h1 h2 => hm (Or.inr (Or.inl (Decidable.not_not.mp h1)))))).trans ((up_b (Decidable.or_iff_not_imp_left.mpr (fun h1 h2 => hm (Or.inl ⟨Decidable.not_not.mp h1, h2⟩)))).trans (up_b (Decidable.or_iff_not_imp_left.mpr (fun h1 h2 => hm (Or.inl ⟨Decidable.not_not.mp h1, h2⟩)))))) ⟨by decide, by decide⟩
                  · refine v_ic_lt_f (t := 14) rfl (by decide) ⟨by decide, (Int.not_lt.mp h_103), ha6.2⟩ ?_
                    refine q_iload_n rfl rfl ?_
                    refine q_iload_n rfl rfl ?_
                    by_cases h_109 : a6 > c 41 20 - 1
                    · refine v_ic_gt_t (t := 14) rfl (by decide) ⟨by first | exact rgm_l h_102.1 (by decide) | omega, h_109, ha6.2⟩ ?_
                      refine q_iconst rfl ?_
                      refine v_zret rfl rfl (by decide) ?_
                      refine bk_inl ?_
                      refine v_if_eq_t (t := 54) rfl (by decide) (by decide) ?_
                      refine q_iconst rfl ?_
                      refine q_iconst rfl ?_
                      refine q_iconst rfl ?_
                      refine v_cv rfl rfl rfl rfl (by decide) ⟨⟨rfl, rfl⟩, by decide, rfl⟩ (Nat.le_of_ble_eq_true rfl) (Nat.le_of_ble_eq_true rfl) ?_
                      refine q_iload_n rfl rfl ?_
                      refine v_if_ne_f (t := 26) rfl (by decide) (by decide) ?_
                      refine q_aload_n rfl rfl ?_
                      refine v_gi (z := 0) (v := 0) rfl rfl rfl (by decide) rfl rfl (up_e rfl) ?_
                      refine v_if_ne_f (t := 26) rfl (by decide) (by decide) ?_
                      refine q_aload_n rfl rfl ?_
                      refine q_iload_n rfl rfl ?_
                      refine v_pi (z := 0) rfl rfl rfl (by decide) rfl rfl rfl (by decide) ?_
                      refine q_aload_n rfl rfl ?_
                      refine v_gr (t := 42) rfl rfl rfl (by decide) rfl ?_
                      refine q_iload_n rfl rfl ?_
                      refine q_dup2 rfl ⟨rfl, rfl⟩ ?_
                      have h_110 := ir_42 hI 1
                      refine v_ia (v := c 42 1) rfl rfl (by decide) (by decide) (by decide) ((up_c (nn rfl)).trans (up_c (nn rfl))) ?_
                      refine q_iconst rfl ?_
                      refine v_iadd (v := c 42 1 + 1) rfl rfl ?_
                      refine v_nrm (fun y_111 hy_111 => ?_)
                      refine v_is rfl rfl (by decide) (by decide) (by decide) ?_
                      refine q_aload_n rfl rfl ?_
                      refine v_gi (z := 0) (v := 1) rfl rfl rfl (by decide) rfl rfl ((up_c (nn rfl)).trans (up_e rfl)) ?_
                      refine v_if_ne_t (t := 37) rfl (by decide) (by decide) ?_
                      refine q_iconst rfl ?_
                      refine v_zret rfl rfl (by decide) ?_
                      refine bk_inl ?_
                      refine v_if_ne_f (t := 65) rfl (by decide) (by decide) ?_
                      refine q_iconst rfl ?_
                      refine q_iret rfl rfl ?_
                      have hI_112 := iw_41_0 (v := 0) hI ⟨by decide, by decide⟩
                      have hI_113 := iw_41_0 (v := 1) hI_112 ⟨by decide, by decide⟩
                      have hI_114 := iw_42 (j := 1) (v := y_111) hI_113 ⟨hy_111.1, hy_111.2⟩
                      exact K (up (up (up c 41 0 0) 41 0 1) 42 1 y_111) 0 hI_114 (fun a j hm => (up_b (Decidable.or_iff_not_imp_left.mpr (fun h1 h2 => hm (Or.inr (Or.inl (Decidable.not_not.mp h1)))))).trans ((up_b (Decidable.or_iff_not_imp_left.mpr (fun h1 h2 => hm (Or.inl ⟨Decidable.not_not.mp h1, h2⟩)))).trans (up_b (Decidable.or_iff_not_imp_left.mpr (fun h1 h2 => hm (Or.inl ⟨Decidable.not_not.mp h1, h2⟩)))))) ⟨by decide, by decide⟩
                    · refine v_ic_gt_f (t := 14) rfl (by decide) ⟨ha6.1, (Int.not_lt.mp h_109), by first | exact rgm_h h_102.2 (by decide) | omega⟩ ?_
                      refine q_iconst rfl ?_
                      refine q_goto (t := 15) rfl (by decide) ?_
                      refine v_zret rfl rfl (by decide) ?_
                      refine bk_inl ?_
                      refine v_if_eq_f (t := 54) rfl (by decide) (by decide) ?_
                      refine q_iconst rfl ?_
                      refine q_goto (t := 55) rfl (by decide) ?_
                      refine q_iconst rfl ?_
                      refine q_iconst rfl ?_
                      refine v_cv rfl rfl rfl rfl (by decide) ⟨⟨rfl, rfl⟩, by decide, rfl⟩ (Nat.le_of_ble_eq_true rfl) (Nat.le_of_ble_eq_true rfl) ?_
                      refine q_iload_n rfl rfl ?_
                      refine v_if_ne_t (t := 26) rfl (by decide) (by decide) ?_
                      refine q_aload_n rfl rfl ?_
                      refine v_gi (z := 0) (v := 0) rfl rfl rfl (by decide) rfl rfl (up_e rfl) ?_
                      refine v_if_ne_f (t := 37) rfl (by decide) (by decide) ?_
                      refine q_iconst rfl ?_
                      refine q_goto (t := 38) rfl (by decide) ?_
                      refine v_zret rfl rfl (by decide) ?_
                      refine bk_inl ?_
                      refine v_if_ne_t (t := 65) rfl (by decide) (by decide) ?_
                      refine q_iconst rfl ?_
                      refine q_istore rfl (by decide) ?_
                      refine q_iconst rfl ?_
                      refine q_istore rfl (by decide) ?_
                      refine q_iconst rfl ?_
                      refine q_istore rfl (by decide) ?_
                      refine q_iconst rfl ?_
                      refine q_istore rfl (by decide) ?_
                      have hI_115 := iw_41_0 (v := 0) hI ⟨by decide, by decide⟩
                      refine Wp_ls [(0, .ref 41), (1, vi a1), (2, vi a2), (3, vi a3), (4, vi a4), (5, vi a5), (6, vi a6), (7, vi (-1)), (8, vi 0), (9, vi 0), (10, vi 0)] (lsub_cons rfl (lsub_cons rfl (lsub_cons rfl (lsub_cons rfl (lsub_cons rfl (lsub_cons rfl (lsub_cons rfl (lsub_cons rfl (lsub_cons rfl (lsub_cons rfl (lsub_cons rfl lsub_nil))))))))))) ?_
                      exact (s_256_l (sc := sc) (d := d) hI ha1 ha2 ha3 ha4 ha5 ha6 K 24) (up c 41 0 0) (-1) 0 0 0 hI_115 (fun a j hm => up_b (Decidable.or_iff_not_imp_left.mpr (fun h1 h2 => hm (Or.inl ⟨Decidable.not_not.mp h1, h2⟩)))) ⟨by decide, by decide⟩ ⟨by decide, by decide⟩ ⟨by decide, by decide⟩ ⟨by decide, by decide⟩ ⟨by omega, by omega⟩ ⟨by omega, by omega⟩ ⟨by omega, by omega⟩ ⟨by omega, by omega⟩ (by omega)


set_option maxRecDepth 100000 in
set_option maxHeartbeats 4000000 in
theorem s_259 {sc : List Int32} {d P Q : Nat} {c : ME} {Z : AR → Prop} (hI : Iv 0 (-1) P Q c)  (K : ∀ (c2 : ME) (y : Int), Iv 0 (-1) P Q c2 → (∀ (a : Nat) (j : Int), ¬ ((a = 41 ∧ j = 0) ∨ (a = 41 ∧ j = 52) ∨ a = 66) → c2 a j = c a j) → (-1) ≤ y ∧ y ≤ 3 → ((c 41 52 = 3 ∧ c2 41 52 = 3 ∧ y = (-1)) ∨ (c 41 52 ≤ 2 ∧ c2 41 52 = c 41 52 + 1 ∧ y = c2 41 52)) → Z (.inl (some (vi y)), Wd P Q P P c2, 0, 0)) : Wp sc (d + 8) 259 0 [(0, .ref 41)] [] (Wd P Q P P c) 0 0 Z := by
  have hP := iv_P hI
  have hQ := iv_Q hI
  refine q_aload_n rfl rfl ?_
  refine q_iconst rfl ?_
  refine v_pi (z := 0) rfl rfl rfl (by decide) rfl rfl rfl (by decide) ?_
  refine q_aload_n rfl rfl ?_
  have h_1 := ir_41_52 hI
  refine v_gi (z := 52) (v := c 41 52) rfl rfl rfl (by decide) rfl rfl (up_n (by decide)) ?_
  refine q_iconst rfl ?_
  by_cases h_2 : c 41 52 ≠ 3
  · refine v_ic_ne_t (t := 15) rfl (by decide) ⟨h_2, ⟨(Int.le_trans (by decide) h_1.1), (Int.le_trans h_1.2 (by decide))⟩, by decide, by decide⟩ ?_
    refine q_aload_n rfl rfl ?_
    refine q_aload_n rfl rfl ?_
    refine v_gi (z := 52) (v := c 41 52) rfl rfl rfl (by decide) rfl rfl (up_n (by decide)) ?_
    refine q_iconst rfl ?_
    refine v_cv rfl rfl rfl rfl (by decide) ⟨⟨rfl, rfl⟩, by decide, rfl⟩ (Nat.le_of_ble_eq_true rfl) (Nat.le_of_ble_eq_true rfl) ?_
    refine q_aload_n rfl rfl ?_
    refine v_sip rfl (by decide) ?_
    refine q_iload_n rfl rfl ?_
    refine v_imul (v := 630 * c 41 52) rfl (by first | (clear h_1 h_2; omega) | omega) ?_
    refine q_aload_n rfl rfl ?_
    refine v_gr (t := 58) rfl rfl rfl (by decide) rfl ?_
    refine v_bip rfl (by decide) ?_
    refine q_iload_n rfl rfl ?_
    refine v_cv rfl rfl rfl rfl (by decide) ⟨⟨rfl, rfl⟩, by decide, rfl⟩ (Nat.le_of_ble_eq_true rfl) (Nat.le_of_ble_eq_true rfl) (s_257k (t := 58) (nt := 37) (q := 630 * c 41 52) (n := 37) (v := 630 * c 41 52 + 37) rfl (by decide) (by decide) (by decide) (by omega) (by omega) (by omega) ?_)
    refine bk_inl ?_
    refine q_istore_n rfl (by decide) ?_
    refine q_aload_n rfl rfl ?_
    refine q_iload_n rfl rfl ?_
    refine q_aload_n rfl rfl ?_
    refine v_gr (t := 60) rfl rfl rfl (by decide) rfl ?_
    refine v_sip rfl (by decide) ?_
    refine q_iload_n rfl rfl ?_
    refine v_cv rfl rfl rfl rfl (by decide) ⟨⟨rfl, rfl⟩, by decide, rfl⟩ (Nat.le_of_ble_eq_true rfl) (Nat.le_of_ble_eq_true rfl) (s_257k (t := 60) (nt := 592) (q := 630 * c 41 52 + 37) (n := 592) (v := 630 * c 41 52 + 629) rfl (by decide) (by decide) (by decide) (by omega) (by omega) (by omega) ?_)
    refine bk_inl ?_
    refine q_istore_n rfl (by decide) ?_
    refine q_iload_n rfl rfl ?_
    refine v_if_eq_f (t := 48) rfl (by decide) (by decide) ?_
    refine q_aload_n rfl rfl ?_
    refine v_gr (t := 66) rfl rfl rfl (by decide) rfl ?_
    refine q_iload_n rfl rfl ?_
    refine q_aload_n rfl rfl ?_
    have h_3 := ir_41_35 hI
    refine v_gi (z := 35) (v := c 41 35) rfl rfl rfl (by decide) rfl rfl ((upc_c (by omega)).trans ((upc_c (by omega)).trans (up_n (by decide)))) ?_
    refine v_is rfl rfl (by decide) (by decide) (by omega) ?_
    refine q_goto (t := 58) rfl (by decide) ?_
    refine q_vret rfl rfl ?_
    refine bk_inl ?_
    refine q_aload_n rfl rfl ?_
    refine q_dup rfl rfl ?_
    refine v_gi (z := 52) (v := c 41 52) rfl rfl rfl (by decide) rfl rfl ((up_c (nn rfl)).trans ((upc_c (by omega)).trans ((upc_c (by omega)).trans (up_n (by decide))))) ?_
    refine q_iconst rfl ?_
    refine v_iadd (v := c 41 52 + 1) rfl rfl ?_
    refine v_pi (z := 52) rfl rfl rfl (by decide) rfl rfl rfl (by decide) ?_
    refine q_aload_n rfl rfl ?_
    refine v_gi (z := 52) (v := c 41 52 + 1) rfl rfl rfl (by decide) rfl rfl (up_e rfl) ?_
    refine q_iret rfl rfl ?_
    have hI_4 := iw_41_0 (v := 0) hI ⟨by decide, by decide⟩
    have hI_5 := cp_58_66 (w := 630 * c 41 52) (i := c 41 52) hI_4 (by omega) (by omega)
    have hI_6 := cp_60_66 (w := 630 * c 41 52 + 37) (i := c 41 52) hI_5 (by omega) (by omega)
    have hI_7 := iw_66 (j := 630 * c 41 52 + 629) (v := c 41 35) hI_6 (by omega) (by omega)
    have hI_8 := iw_41_52 (v := c 41 52 + 1) hI_7 ⟨by first | exact rgp_l h_1.1 (by decide) | omega, by omega⟩
    have h_9 : (up (up (upc (upc (up c 41 0 0) 58 0 66 (630 * c 41 52) 37) 60 0 66 (630 * c 41 52 + 37) 592) 66 (630 * c 41 52 + 629) (c 41 35)) 41 52 (c 41 52 + 1)) 41 52 = c 41 52 + 1 := (up_e rfl)
    exact K (up (up (upc (upc (up c 41 0 0) 58 0 66 (630 * c 41 52) 37) 60 0 66 (630 * c 41 52 + 37) 592) 66 (630 * c 41 52 + 629) (c 41 35)) 41 52 (c 41 52 + 1)) (c 41 52 + 1) hI_8 (fun a j hm => (up_b (Decidable.or_iff_not_imp_left.mpr (fun h1 h2 => hm (Or.inr (Or.inl ⟨Decidable.not_not.mp h1, h2⟩))))).trans ((up_b (Decidable.or_iff_not_imp_left.mpr (fun h1 h2 => hm (Or.inr (Or.inr (Decidable.not_not.mp h1)))))).trans ((upc_c (fun h => hm (Or.inr (Or.inr h)))).trans ((upc_c (fun h => hm (Or.inr (Or.inr h)))).trans (up_b (Decidable.or_iff_not_imp_left.mpr (fun h1 h2 => hm (Or.inl ⟨Decidable.not_not.mp h1, h2⟩)))))))) ⟨by first | exact rgp_l h_1.1 (by decide) | omega, by omega⟩ (Or.inr ⟨by omega, by first | (clear h_1 h_3 h_2; omega) | omega, by first | (clear h_1 h_3 h_2; omega) | omega⟩)
  · refine v_ic_ne_f (t := 15) rfl (by decide) (Decidable.not_not.mp h_2) ?_
    refine q_iconst rfl ?_
    refine q_iret rfl rfl ?_
    have hI_10 := iw_41_0 (v := 0) hI ⟨by decide, by decide⟩
    have h_11 : (up c 41 0 0) 41 52 = c 41 52 := (up_n (by decide))
    exact K (up c 41 0 0) (-1) hI_10 (fun a j hm => up_b (Decidable.or_iff_not_imp_left.mpr (fun h1 h2 => hm (Or.inl ⟨Decidable.not_not.mp h1, h2⟩)))) ⟨by decide, by decide⟩ (Or.inl ⟨by omega, by omega, by omega⟩)

set_option maxRecDepth 100000 in
set_option maxHeartbeats 4000000 in
theorem s_260 {sc : List Int32} {d P Q : Nat} {c : ME} {Z : AR → Prop} (hI : Iv 0 (-1) P Q c)  (K : ∀ (c2 : ME) (y : Int), Iv 0 (-1) P Q c2 → (∀ (a : Nat) (j : Int), ¬ ((a = 41 ∧ j = 0) ∨ (a = 41 ∧ j = 52) ∨ (a = 41 ∧ j = 35) ∨ (a = 41 ∧ j = 36) ∨ a = 58 ∨ a = 60) → c2 a j = c a j) → (-1) ≤ y ∧ y ≤ 3 → ((c 41 52 = 0 ∧ c2 41 52 = 0 ∧ y = (-1)) ∨ (c 41 52 > 0 ∧ c2 41 52 = c 41 52 - 1 ∧ y = c2 41 52)) → Z (.inl (some (vi y)), Wd P Q P P c2, 0, 0)) : Wp sc (d + 8) 260 0 [(0, .ref 41)] [] (Wd P Q P P c) 0 0 Z := by
  have hP := iv_P hI
  have hQ := iv_Q hI
  refine q_aload_n rfl rfl ?_
  refine q_iconst rfl ?_
  refine v_pi (z := 0) rfl rfl rfl (by decide) rfl rfl rfl (by decide) ?_
  refine q_aload_n rfl rfl ?_
  have h_1 := ir_41_52 hI
  refine v_gi (z := 52) (v := c 41 52) rfl rfl rfl (by decide) rfl rfl (up_n (by decide)) ?_
  by_cases h_2 : c 41 52 ≠ 0
  · refine v_if_ne_t (t := 14) rfl (by decide) ⟨h_2, ⟨(Int.le_trans (by decide) h_1.1), (Int.le_trans h_1.2 (by decide))⟩, by decide, by decide⟩ ?_
    refine q_aload_n rfl rfl ?_
    refine q_dup rfl rfl ?_
    refine v_gi (z := 52) (v := c 41 52) rfl rfl rfl (by decide) rfl rfl (up_n (by decide)) ?_
    refine q_iconst rfl ?_
    refine v_isub (v := c 41 52 - 1) rfl rfl ?_
    refine v_pi (z := 52) rfl rfl rfl (by decide) rfl rfl rfl (by decide) ?_
    refine q_aload_n rfl rfl ?_
    refine q_aload_n rfl rfl ?_
    refine v_gi (z := 52) (v := c 41 52 - 1) rfl rfl rfl (by decide) rfl rfl (up_e rfl) ?_
    refine q_iconst rfl ?_
    refine v_cv rfl rfl rfl rfl (by decide) ⟨⟨rfl, rfl⟩, by decide, rfl⟩ (Nat.le_of_ble_eq_true rfl) (Nat.le_of_ble_eq_true rfl) ?_
    refine q_aload_n rfl rfl ?_
    refine v_sip rfl (by decide) ?_
    refine q_iload_n rfl rfl ?_
    refine v_imul (v := 630 * c 41 52 - 630) rfl (by first | (clear h_1 h_2; omega) | omega) ?_
    refine q_aload_n rfl rfl ?_
    refine v_gr (t := 58) rfl rfl rfl (by decide) rfl ?_
    refine v_bip rfl (by decide) ?_
    refine q_iload_n rfl rfl ?_
    refine v_cv rfl rfl rfl rfl (by decide) ⟨⟨rfl, rfl⟩, by decide, rfl⟩ (Nat.le_of_ble_eq_true rfl) (Nat.le_of_ble_eq_true rfl) (s_257r (t := 58) (nt := 37) (q := 630 * c 41 52 - 630) (n := 37) (v := 630 * c 41 52 - 593) rfl (by decide) (by decide) (by decide) (by omega) (by omega) (by omega) ?_)
    refine bk_inl ?_
    refine q_istore_n rfl (by decide) ?_
    refine q_aload_n rfl rfl ?_
    refine q_iload_n rfl rfl ?_
    refine q_aload_n rfl rfl ?_
    refine v_gr (t := 60) rfl rfl rfl (by decide) rfl ?_
    refine v_sip rfl (by decide) ?_
    refine q_iload_n rfl rfl ?_
    refine v_cv rfl rfl rfl rfl (by decide) ⟨⟨rfl, rfl⟩, by decide, rfl⟩ (Nat.le_of_ble_eq_true rfl) (Nat.le_of_ble_eq_true rfl) (s_257r (t := 60) (nt := 592) (q := 630 * c 41 52 - 593) (n := 592) (v := 630 * c 41 52 - 1) rfl (by decide) (by decide) (by decide) (by omega) (by omega) (by omega) ?_)
    refine bk_inl ?_
    refine q_istore_n rfl (by decide) ?_
    refine q_iload_n rfl rfl ?_
    refine v_if_eq_t (t := 48) rfl (by decide) (by decide) ?_
    refine q_aload_n rfl rfl ?_
    refine q_aload_n rfl rfl ?_
    refine v_gr (t := 66) rfl rfl rfl (by decide) rfl ?_
    refine q_iload_n rfl rfl ?_
    have h_3 := ir_66 hI (630 * c 41 52 - 1)
    have h_4 := ir_66_9 hI (j := 630 * c 41 52 - 1) (by omega)
    refine v_ia (v := c 66 (630 * c 41 52 - 1)) rfl rfl (by decide) (by decide) (by omega) ((upc_c (by omega)).trans ((upc_c (by omega)).trans ((up_c (nn rfl)).trans (up_c (nn rfl))))) ?_
    refine v_pi (z := 35) rfl rfl rfl (by decide) rfl rfl rfl (by decide) ?_
    refine q_vret rfl rfl ?_
    refine bk_inl ?_
    refine q_aload_n rfl rfl ?_
    refine q_iconst rfl ?_
    refine v_pi (z := 36) rfl rfl rfl (by decide) rfl rfl rfl (by decide) ?_
    refine q_aload_n rfl rfl ?_
    refine v_gi (z := 52) (v := c 41 52 - 1) rfl rfl rfl (by decide) rfl rfl ((up_n (by decide)).trans ((up_n (by decide)).trans ((upc_c (by omega)).trans ((upc_c (by omega)).trans (up_e rfl))))) ?_
    refine q_iret rfl rfl ?_
    have hI_5 := iw_41_0 (v := 0) hI ⟨by decide, by decide⟩
    have hI_6 := iw_41_52 (v := c 41 52 - 1) hI_5 ⟨by omega, by first | exact rgm_h h_1.2 (by decide) | omega⟩
    have hI_7 := cp_66_58 (w := 630 * c 41 52 - 630) (i := c 41 52 - 1) hI_6 (by omega) (by omega)
    have hI_8 := cp_66_60 (w := 630 * c 41 52 - 593) (i := c 41 52 - 1) hI_7 (by omega) (by omega)
    have hI_9 := iw_41_35 (v := c 66 (630 * c 41 52 - 1)) hI_8 ⟨by first | (clear h_1 h_3 h_2; omega) | omega, by first | (clear h_1 h_3 h_2; omega) | omega⟩
    have hI_10 := iw_41_36 (v := 0) hI_9 ⟨by decide, by decide⟩
    have h_11 : (up (up (upc (upc (up (up c 41 0 0) 41 52 (c 41 52 - 1)) 66 (630 * c 41 52 - 630) 58 0 37) 66 (630 * c 41 52 - 593) 60 0 592) 41 35 (c 66 (630 * c 41 52 - 1))) 41 36 0) 41 52 = c 41 52 - 1 := ((up_n (by decide)).trans ((up_n (by decide)).trans ((upc_c (by omega)).trans ((upc_c (by omega)).trans (up_e rfl)))))
    exact K (up (up (upc (upc (up (up c 41 0 0) 41 52 (c 41 52 - 1)) 66 (630 * c 41 52 - 630) 58 0 37) 66 (630 * c 41 52 - 593) 60 0 592) 41 35 (c 66 (630 * c 41 52 - 1))) 41 36 0) (c 41 52 - 1) hI_10 (fun a j hm => (up_b (Decidable.or_iff_not_imp_left.mpr (fun h1 h2 => hm (Or.inr (Or.inr (Or.inr (Or.inl ⟨Decidable.not_not.mp h1, h2⟩))))))).trans ((up_b (Decidable.or_iff_not_imp_left.mpr (fun h1 h2 => hm (Or.inr (Or.inr (Or.inl ⟨Decidable.not_not.mp h1, h2⟩)))))).trans ((upc_c (fun h => hm (Or.inr (Or.inr (Or.inr (Or.inr (Or.inr h))))))).trans ((upc_c (fun h => hm (Or.inr (Or.inr (Or.inr (Or.inr (Or.inl h))))))).trans ((up_b (Decidable.or_iff_not_imp_left.mpr (fun h1 h2 => hm (Or.inr (Or.inl ⟨Decidable.not_not.mp h1, h2⟩))))).trans (up_b (Decidable.or_iff_not_imp_left.mpr (fun h1 h2 => hm (Or.inl ⟨Decidable.not_not.mp h1, h2⟩))))))))) ⟨by first | exact rgm_l h_1.1 (by decide) | omega, by first | exact rgm_h h_1.2 (by decide) | omega⟩ (Or.inr ⟨by omega, by first | (clear h_1 h_3 h_4 h_2; omega) | omega, by first | (clear h_1 h_3 h_4 h_2; omega) | omega⟩)
  · refine v_if_ne_f (t := 14) rfl (by decide) (Decidable.not_not.mp h_2) ?_
    refine q_iconst rfl ?_
    refine q_iret rfl rfl ?_
    have hI_12 := iw_41_0 (v := 0) hI ⟨by decide, by decide⟩
    have h_13 : (up c 41 0 0) 41 52 = c 41 52 := (up_n (by decide))
    exact K (up c 41 0 0) (-1) hI_12 (fun a j hm => up_b (Decidable.or_iff_not_imp_left.mpr (fun h1 h2 => hm (Or.inl ⟨Decidable.not_not.mp h1, h2⟩)))) ⟨by decide, by decide⟩ (Or.inl ⟨by omega, by omega, by omega⟩)

set_option maxRecDepth 100000 in
set_option maxHeartbeats 4000000 in
theorem s_261 {sc : List Int32} {e : Int} {d u P Q : Nat} {c : ME} {a1 : Int} {Z : AR → Prop} (hI : Iv u e P Q c) (ha1 : (-2147483648) ≤ a1 ∧ a1 ≤ 2147483647) (K : ∀ (c2 : ME) (y : Int), Iv u e P Q c2 → (∀ (a : Nat) (j : Int), ¬ ((a = 41 ∧ j = 0)) → c2 a j = c a j) → (-2147483648) ≤ y ∧ y ≤ 2147483647 → Z (.inl (some (vi y)), Wd P Q P P c2, 0, 0)) : Wp sc (d + 8) 261 0 [(0, .ref 41), (1, vi a1)] [] (Wd P Q P P c) 0 0 Z := by
  have hP := iv_P hI
  have hQ := iv_Q hI
  refine q_aload_n rfl rfl ?_
  refine q_iconst rfl ?_
  refine v_pi (z := 0) rfl rfl rfl (by decide) rfl rfl rfl (by decide) ?_
  refine q_iload_n rfl rfl ?_
  refine q_iconst rfl ?_
  refine q_iconst rfl ?_
  refine q_call rfl rfl rfl rfl ?_
  refine q_iload_n rfl rfl ?_
  refine q_iload_n rfl rfl ?_
  by_cases h_1 : a1 < 0
  · refine v_ic_lt_t (t := 14) rfl (by decide) ⟨ha1.1, h_1, by decide⟩ ?_
    refine q_iconst rfl ?_
    refine v_zret rfl rfl (by decide) ?_
    refine bk_inl ?_
    refine v_if_eq_t (t := 23) rfl (by decide) (by decide) ?_
    refine q_iconst rfl ?_
    refine q_iret rfl rfl ?_
    have hI_2 := iw_41_0 (v := 0) hI ⟨by decide, by decide⟩
    exact K (up c 41 0 0) (-1) hI_2 (fun a j hm => up_b (Decidable.or_iff_not_imp_left.mpr (fun h1 h2 => hm ⟨Decidable.not_not.mp h1, h2⟩))) ⟨by decide, by decide⟩
  · refine v_ic_lt_f (t := 14) rfl (by decide) ⟨by decide, (Int.not_lt.mp h_1), ha1.2⟩ ?_
    refine q_iload_n rfl rfl ?_
    refine q_iload_n rfl rfl ?_
    by_cases h_3 : a1 > 1
    · refine v_ic_gt_t (t := 14) rfl (by decide) ⟨by decide, h_3, ha1.2⟩ ?_
      refine q_iconst rfl ?_
      refine v_zret rfl rfl (by decide) ?_
      refine bk_inl ?_
      refine v_if_eq_t (t := 23) rfl (by decide) (by decide) ?_
      refine q_iconst rfl ?_
      refine q_iret rfl rfl ?_
      have hI_4 := iw_41_0 (v := 0) hI ⟨by decide, by decide⟩
      exact K (up c 41 0 0) (-1) hI_4 (fun a j hm => up_b (Decidable.or_iff_not_imp_left.mpr (fun h1 h2 => hm ⟨Decidable.not_not.mp h1, h2⟩))) ⟨by decide, by decide⟩
    · refine v_ic_gt_f (t := 14) rfl (by decide) ⟨ha1.1, (Int.not_lt.mp h_3), by decide⟩ ?_
      refine q_iconst rfl ?_
      refine q_goto (t := 15) rfl (by decide) ?_
      refine v_zret rfl rfl (by decide) ?_
      refine bk_inl ?_
      refine v_if_eq_f (t := 23) rfl (by decide) (by decide) ?_
      refine q_aload_n rfl rfl ?_
      refine v_gr (t := 42) rfl rfl rfl (by decide) rfl ?_
      refine q_iload_n rfl rfl ?_
      have h_5 := ir_42 hI a1
      refine v_ia (v := c 42 a1) rfl rfl (by decide) (by decide) (by omega) (up_c (nn rfl)) ?_
      refine q_goto (t := 24) rfl (by decide) ?_
      refine q_iret rfl rfl ?_
      have hI_6 := iw_41_0 (v := 0) hI ⟨by decide, by decide⟩
      exact K (up c 41 0 0) (c 42 a1) hI_6 (fun a j hm => up_b (Decidable.or_iff_not_imp_left.mpr (fun h1 h2 => hm ⟨Decidable.not_not.mp h1, h2⟩))) h_5

set_option maxRecDepth 100000 in
set_option maxHeartbeats 4000000 in
theorem s_262 {sc : List Int32} {e : Int} {d u P Q : Nat} {c : ME} {a1 : Int} {Z : AR → Prop} (hI : Iv u e P Q c) (ha1 : (-2147483648) ≤ a1 ∧ a1 ≤ 2147483647) (K : ∀ (c2 : ME) (y : Int), Iv u e P Q c2 → (∀ (a : Nat) (j : Int), ¬ ((a = 41 ∧ j = 0)) → c2 a j = c a j) → (-2147483648) ≤ y ∧ y ≤ 2147483647 → Z (.inl (some (vi y)), Wd P Q P P c2, 0, 0)) : Wp sc (d + 7) 262 0 [(0, .ref 41), (1, vi a1)] [] (Wd P Q P P c) 0 0 Z := by
  have hP := iv_P hI
  have hQ := iv_Q hI
  refine q_aload_n rfl rfl ?_
  refine q_iconst rfl ?_
  refine v_pi (z := 0) rfl rfl rfl (by decide) rfl rfl rfl (by decide) ?_
  refine q_iload_n rfl rfl ?_
  by_cases h_1 : a1 ≠ 0
  · refine v_if_ne_t (t := 16) rfl (by decide) ⟨h_1, ⟨ha1.1, ha1.2⟩, by decide, by decide⟩ ?_
    refine q_iload_n rfl rfl ?_
    refine q_iconst rfl ?_
    by_cases h_2 : a1 ≠ 1
    · refine v_ic_ne_t (t := 28) rfl (by decide) ⟨h_2, ⟨ha1.1, ha1.2⟩, by decide, by decide⟩ ?_
      refine q_iload_n rfl rfl ?_
      refine q_iconst rfl ?_
      by_cases h_3 : a1 ≠ 2
      · refine v_ic_ne_t (t := 40) rfl (by decide) ⟨h_3, ⟨ha1.1, ha1.2⟩, by decide, by decide⟩ ?_
        refine q_iconst rfl ?_
        refine q_iret rfl rfl ?_
        have hI_4 := iw_41_0 (v := 0) hI ⟨by decide, by decide⟩
        exact K (up c 41 0 0) (-1) hI_4 (fun a j hm => up_b (Decidable.or_iff_not_imp_left.mpr (fun h1 h2 => hm ⟨Decidable.not_not.mp h1, h2⟩))) ⟨by decide, by decide⟩
      · refine v_ic_ne_f (t := 40) rfl (by decide) (Decidable.not_not.mp h_3) ?_
        refine q_aload_n rfl rfl ?_
        have h_5 := ir_41_35 hI
        refine v_gi (z := 35) (v := c 41 35) rfl rfl rfl (by decide) rfl rfl (up_n (by decide)) ?_
        refine q_goto (t := 41) rfl (by decide) ?_
        refine q_iret rfl rfl ?_
        have hI_6 := iw_41_0 (v := 0) hI ⟨by decide, by decide⟩
        exact K (up c 41 0 0) (c 41 35) hI_6 (fun a j hm => up_b (Decidable.or_iff_not_imp_left.mpr (fun h1 h2 => hm ⟨Decidable.not_not.mp h1, h2⟩))) ⟨(Int.le_trans (by decide) h_5.1), (Int.le_trans h_5.2 (by decide))⟩
    · refine v_ic_ne_f (t := 28) rfl (by decide) (Decidable.not_not.mp h_2) ?_
      refine q_aload_n rfl rfl ?_
      have h_7 := ir_41_2 hI
      refine v_gi (z := 2) (v := c 41 2) rfl rfl rfl (by decide) rfl rfl (up_n (by decide)) ?_
      refine q_goto (t := 41) rfl (by decide) ?_
      refine q_iret rfl rfl ?_
      have hI_8 := iw_41_0 (v := 0) hI ⟨by decide, by decide⟩
      exact K (up c 41 0 0) (c 41 2) hI_8 (fun a j hm => up_b (Decidable.or_iff_not_imp_left.mpr (fun h1 h2 => hm ⟨Decidable.not_not.mp h1, h2⟩))) ⟨(Int.le_trans (by decide) h_7.1), (Int.le_trans h_7.2 (by decide))⟩
  · refine v_if_ne_f (t := 16) rfl (by decide) (Decidable.not_not.mp h_1) ?_
    refine q_aload_n rfl rfl ?_
    have h_9 := ir_41_52 hI
    refine v_gi (z := 52) (v := c 41 52) rfl rfl rfl (by decide) rfl rfl (up_n (by decide)) ?_
    refine q_goto (t := 41) rfl (by decide) ?_
    refine q_iret rfl rfl ?_
    have hI_10 := iw_41_0 (v := 0) hI ⟨by decide, by decide⟩
    exact K (up c 41 0 0) (c 41 52) hI_10 (fun a j hm => up_b (Decidable.or_iff_not_imp_left.mpr (fun h1 h2 => hm ⟨Decidable.not_not.mp h1, h2⟩))) ⟨(Int.le_trans (by decide) h_9.1), (Int.le_trans h_9.2 (by decide))⟩

