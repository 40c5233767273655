/-! ===== contracts 23 ===== -/
set_option maxRecDepth 100000 in
set_option maxHeartbeats 4000000 in
theorem s_253_l {sc : List Int32} {d P Q : Nat} {c : ME} {a1 : Int} {a2 : Int} {a3 : Int} {Z : AR → Prop} (hI : Iv 0 (-1) P Q c) (ha1 : (-2147483648) ≤ a1 ∧ a1 ≤ 2147483647) (ha2 : 0 ≤ a2 ∧ a2 ≤ 16) (ha3 : 1 ≤ a3 ∧ a3 ≤ 48) (K : ∀ (c2 : ME), Iv 0 (-1) P Q c2 → (∀ (a : Nat) (j : Int), ¬ ((a = 41 ∧ j = 50) ∨ a = 59 ∨ a = 54 ∨ a = 55) → c2 a j = c a j) → Z (.inl (none), Wd P Q P P c2, 0, 0)) : ∀ n : Nat, (∀ (c2 : ME) (v4 : Int), Iv 0 (-1) P Q c2 → (∀ (a : Nat) (j : Int), ¬ ((a = 41 ∧ j = 50) ∨ a = 59 ∨ a = 54 ∨ a = 55) → c2 a j = c a j) → 0 ≤ v4 ∧ v4 ≤ 48 → 97 - 2 * v4 < (n : Int) → Wp sc (d + 14) 253 12 [(0, .ref 41), (1, vi a1), (2, vi a2), (3, vi a3), (4, vi v4)] [] (Wd P Q P P c2) 0 0 Z)
  | 0 => by intro c2 v4 hI2 hF hv4 hm9; have hP := iv_P hI; have hQ := iv_Q hI; exfalso; omega
  | n + 1 => by
    have hP := iv_P hI
    have hQ := iv_Q hI
    have ih := s_253_l (sc := sc) (d := d) hI ha1 ha2 ha3 K n
    intro c2 v4 hI2 hF hv4 hm9
    refine q_iload rfl rfl ?_
    refine q_iload_n rfl rfl ?_
    by_cases h_1 : v4 ≥ a3
    · refine v_ic_ge_t (t := 159) rfl (by decide) (by omega) ?_
      refine q_vret rfl rfl ?_
      exact K c2 hI2 (fun a j hm => hF a j (by omega))
    · refine v_ic_ge_f (t := 159) rfl (by decide) (by omega) ?_
      refine q_aload_n rfl rfl ?_
      have h_2 := ir_41_20 hI
      refine v_gi (z := 20) (v := c 41 20) rfl rfl rfl (by decide) rfl rfl (hF 41 20 (by omega)) ?_
      by_cases h_3 : c 41 20 ≤ 0
      · refine v_if_le_t (t := 57) rfl (by decide) (by omega) ?_
        refine q_aload_n rfl rfl ?_
        refine v_gi (z := 20) (v := c 41 20) rfl rfl rfl (by decide) rfl rfl (hF 41 20 (by omega)) ?_
        refine q_iconst rfl ?_
        refine v_ic_le_t (t := 129) rfl (by decide) (by omega) ?_
        refine q_aload_n rfl rfl ?_
        refine v_gi (z := 20) (v := c 41 20) rfl rfl rfl (by decide) rfl rfl (hF 41 20 (by omega)) ?_
        refine v_if_le_t (t := 149) rfl (by decide) (by omega) ?_
        refine q_aload_n rfl rfl ?_
        refine v_cv rfl rfl rfl rfl (by decide) ⟨⟨rfl, rfl⟩, by decide, rfl⟩ (Nat.le_of_ble_eq_true rfl) (Nat.le_of_ble_eq_true rfl) (s_199 hI2 (fun c_4 hI_5 hF_6 => ?_))
        refine bk_inl ?_
        refine v_iinc (v := v4 + 1) rfl rfl (by decide) (by omega) ?_
        refine q_goto (t := 12) rfl (by decide) ?_
        refine Wp_ls [(0, .ref 41), (1, vi a1), (2, vi a2), (3, vi a3), (4, vi (v4 + 1))] (lsub_cons rfl (lsub_cons rfl (lsub_cons rfl (lsub_cons rfl (lsub_cons rfl lsub_nil))))) ?_
        exact ih c_4 (v4 + 1) hI_5 (fun a j hm => (hF_6 a j (by omega)).trans (hF a j (by omega))) ⟨by omega, by omega⟩ (by omega)
      · refine v_if_le_f (t := 57) rfl (by decide) (by omega) ?_
        refine q_aload_n rfl rfl ?_
        have h_7 := ir_41_21 hI
        refine v_gi (z := 21) (v := c 41 21) rfl rfl rfl (by decide) rfl rfl (hF 41 21 (by omega)) ?_
        by_cases h_8 : c 41 21 ≤ 0
        · refine v_if_le_t (t := 57) rfl (by decide) (by omega) ?_
          refine q_aload_n rfl rfl ?_
          refine v_gi (z := 20) (v := c 41 20) rfl rfl rfl (by decide) rfl rfl (hF 41 20 (by omega)) ?_
          refine q_iconst rfl ?_
          by_cases h_9 : c 41 20 ≤ 2
          · refine v_ic_le_t (t := 129) rfl (by decide) (by omega) ?_
            refine q_aload_n rfl rfl ?_
            refine v_gi (z := 20) (v := c 41 20) rfl rfl rfl (by decide) rfl rfl (hF 41 20 (by omega)) ?_
            refine v_if_le_f (t := 149) rfl (by decide) (by omega) ?_
            refine q_aload_n rfl rfl ?_
            refine q_aload_n rfl rfl ?_
            refine q_aload_n rfl rfl ?_
            refine v_gi (z := 20) (v := c 41 20) rfl rfl rfl (by decide) rfl rfl (hF 41 20 (by omega)) ?_
            refine v_cv rfl rfl rfl rfl (by decide) ⟨⟨rfl, rfl⟩, by decide, rfl⟩ (Nat.le_of_ble_eq_true rfl) (Nat.le_of_ble_eq_true rfl) (s_252 (a1 := c 41 20) hI2 (show 1 ≤ c 41 20 ∧ c 41 20 ≤ 16 from by omega) (fun c_10 y_13 hI_11 hF_12 hy_13 h_14 => ?_))
            refine bk_inl ?_
            refine v_cv rfl rfl rfl rfl (by decide) ⟨⟨rfl, rfl⟩, by decide, rfl⟩ (Nat.le_of_ble_eq_true rfl) (Nat.le_of_ble_eq_true rfl) (s_198 (a1 := y_13) hI_11 (show 0 ≤ y_13 ∧ y_13 ≤ 5 from by omega) (fun c_15 y_18 hI_16 hF_17 hy_18 => ?_))
            refine bk_inl ?_
            refine q_pop rfl rfl ?_
            refine q_aload_n rfl rfl ?_
            refine v_cv rfl rfl rfl rfl (by decide) ⟨⟨rfl, rfl⟩, by decide, rfl⟩ (Nat.le_of_ble_eq_true rfl) (Nat.le_of_ble_eq_true rfl) (s_199 hI_16 (fun c_19 hI_20 hF_21 => ?_))
            refine bk_inl ?_
            refine v_iinc (v := v4 + 1) rfl rfl (by decide) (by omega) ?_
            refine q_goto (t := 12) rfl (by decide) ?_
            refine Wp_ls [(0, .ref 41), (1, vi a1), (2, vi a2), (3, vi a3), (4, vi (v4 + 1))] (lsub_cons rfl (lsub_cons rfl (lsub_cons rfl (lsub_cons rfl (lsub_cons rfl lsub_nil))))) ?_
            exact ih c_19 (v4 + 1) hI_20 (fun a j hm => (hF_21 a j (by omega)).trans ((hF_17 a j (by omega)).trans ((hF_12 a j (by omega)).trans (hF a j (by omega))))) ⟨by omega, by omega⟩ (by omega)
          · refine v_ic_le_f (t := 129) rfl (by decide) (by omega) ?_
            refine q_aload_n rfl rfl ?_
            have h_22 := ir_41_22 hI
            refine v_gi (z := 22) (v := c 41 22) rfl rfl rfl (by decide) rfl rfl (hF 41 22 (by omega)) ?_
            by_cases h_23 : c 41 22 ≤ 0
            · refine v_if_le_t (t := 129) rfl (by decide) (by omega) ?_
              refine q_aload_n rfl rfl ?_
              refine v_gi (z := 20) (v := c 41 20) rfl rfl rfl (by decide) rfl rfl (hF 41 20 (by omega)) ?_
              refine v_if_le_f (t := 149) rfl (by decide) (by omega) ?_
              refine q_aload_n rfl rfl ?_
              refine q_aload_n rfl rfl ?_
              refine q_aload_n rfl rfl ?_
              refine v_gi (z := 20) (v := c 41 20) rfl rfl rfl (by decide) rfl rfl (hF 41 20 (by omega)) ?_
              refine v_cv rfl rfl rfl rfl (by decide) ⟨⟨rfl, rfl⟩, by decide, rfl⟩ (Nat.le_of_ble_eq_true rfl) (Nat.le_of_ble_eq_true rfl) (s_252 (a1 := c 41 20) hI2 (show 1 ≤ c 41 20 ∧ c 41 20 ≤ 16 from by omega) (fun c_24 y_27 hI_25 hF_26 hy_27 h_28 => ?_))
              refine bk_inl ?_
              refine v_cv rfl rfl rfl rfl (by decide) ⟨⟨rfl, rfl⟩, by decide, rfl⟩ (Nat.le_of_ble_eq_true rfl) (Nat.le_of_ble_eq_true rfl) (s_198 (a1 := y_27) hI_25 (show 0 ≤ y_27 ∧ y_27 ≤ 5 from by omega) (fun c_29 y_32 hI_30 hF_31 hy_32 => ?_))
              refine bk_inl ?_
              refine q_pop rfl rfl ?_
              refine q_aload_n rfl rfl ?_
              refine v_cv rfl rfl rfl rfl (by decide) ⟨⟨rfl, rfl⟩, by decide, rfl⟩ (Nat.le_of_ble_eq_true rfl) (Nat.le_of_ble_eq_true rfl) (s_199 hI_30 (fun c_33 hI_34 hF_35 => ?_))
              refine bk_inl ?_
              refine v_iinc (v := v4 + 1) rfl rfl (by decide) (by omega) ?_
              refine q_goto (t := 12) rfl (by decide) ?_
              refine Wp_ls [(0, .ref 41), (1, vi a1), (2, vi a2), (3, vi a3), (4, vi (v4 + 1))] (lsub_cons rfl (lsub_cons rfl (lsub_cons rfl (lsub_cons rfl (lsub_cons rfl lsub_nil))))) ?_
              exact ih c_33 (v4 + 1) hI_34 (fun a j hm => (hF_35 a j (by omega)).trans ((hF_31 a j (by omega)).trans ((hF_26 a j (by omega)).trans (hF a j (by omega))))) ⟨by omega, by omega⟩ (by omega)
            · refine v_if_le_f (t := 129) rfl (by decide) (by omega) ?_
              refine q_aload_n rfl rfl ?_
              refine q_aload_n rfl rfl ?_
              refine v_gi (z := 22) (v := c 41 22) rfl rfl rfl (by decide) rfl rfl (hF 41 22 (by omega)) ?_
              refine v_cv rfl rfl rfl rfl (by decide) ⟨⟨rfl, rfl⟩, by decide, rfl⟩ (Nat.le_of_ble_eq_true rfl) (Nat.le_of_ble_eq_true rfl) (s_252 (a1 := c 41 22) hI2 (show 1 ≤ c 41 22 ∧ c 41 22 ≤ 16 from by omega) (fun c_36 y_39 hI_37 hF_38 hy_39 h_40 => ?_))
              refine bk_inl ?_
              refine q_istore rfl (by decide) ?_
              refine q_aload_n rfl rfl ?_
              refine q_aload_n rfl rfl ?_
              refine v_gi (z := 20) (v := c 41 20) rfl rfl rfl (by decide) rfl rfl ((hF_38 41 20 (by omega)).trans (hF 41 20 (by omega))) ?_
              refine v_cv rfl rfl rfl rfl (by decide) ⟨⟨rfl, rfl⟩, by decide, rfl⟩ (Nat.le_of_ble_eq_true rfl) (Nat.le_of_ble_eq_true rfl) (s_252 (a1 := c 41 20) hI_37 (show 1 ≤ c 41 20 ∧ c 41 20 ≤ 16 from by omega) (fun c_41 y_44 hI_42 hF_43 hy_44 h_45 => ?_))
              refine bk_inl ?_
              refine q_istore rfl (by decide) ?_
              refine q_aload_n rfl rfl ?_
              refine v_bip rfl (by decide) ?_
              refine v_cv rfl rfl rfl rfl (by decide) ⟨⟨rfl, rfl⟩, by decide, rfl⟩ (Nat.le_of_ble_eq_true rfl) (Nat.le_of_ble_eq_true rfl) (s_252 (a1 := 16) hI_42 (show 1 ≤ 16 ∧ 16 ≤ 16 from by omega) (fun c_46 y_49 hI_47 hF_48 hy_49 h_50 => ?_))
              refine bk_inl ?_
              refine q_iload_n rfl rfl ?_
              by_cases h_51 : y_49 ≥ a2
              · refine v_ic_ge_t (t := 129) rfl (by decide) (by omega) ?_
                refine q_aload_n rfl rfl ?_
                refine v_gi (z := 20) (v := c 41 20) rfl rfl rfl (by decide) rfl rfl ((hF_48 41 20 (by omega)).trans ((hF_43 41 20 (by omega)).trans ((hF_38 41 20 (by omega)).trans (hF 41 20 (by omega))))) ?_
                refine v_if_le_f (t := 149) rfl (by decide) (by omega) ?_
                refine q_aload_n rfl rfl ?_
                refine q_aload_n rfl rfl ?_
                refine q_aload_n rfl rfl ?_
                refine v_gi (z := 20) (v := c 41 20) rfl rfl rfl (by decide) rfl rfl ((hF_48 41 20 (by omega)).trans ((hF_43 41 20 (by omega)).trans ((hF_38 41 20 (by omega)).trans (hF 41 20 (by omega))))) ?_
                refine v_cv rfl rfl rfl rfl (by decide) ⟨⟨rfl, rfl⟩, by decide, rfl⟩ (Nat.le_of_ble_eq_true rfl) (Nat.le_of_ble_eq_true rfl) (s_252 (a1 := c 41 20) hI_47 (show 1 ≤ c 41 20 ∧ c 41 20 ≤ 16 from by omega) (fun c_52 y_55 hI_53 hF_54 hy_55 h_56 => ?_))
                refine bk_inl ?_
                refine v_cv rfl rfl rfl rfl (by decide) ⟨⟨rfl, rfl⟩, by decide, rfl⟩ (Nat.le_of_ble_eq_true rfl) (Nat.le_of_ble_eq_true rfl) (s_198 (a1 := y_55) hI_53 (show 0 ≤ y_55 ∧ y_55 ≤ 5 from by omega) (fun c_57 y_60 hI_58 hF_59 hy_60 => ?_))
                refine bk_inl ?_
                refine q_pop rfl rfl ?_
                refine q_aload_n rfl rfl ?_
                refine v_cv rfl rfl rfl rfl (by decide) ⟨⟨rfl, rfl⟩, by decide, rfl⟩ (Nat.le_of_ble_eq_true rfl) (Nat.le_of_ble_eq_true rfl) (s_199 hI_58 (fun c_61 hI_62 hF_63 => ?_))
                refine bk_inl ?_
                refine v_iinc (v := v4 + 1) rfl rfl (by decide) (by omega) ?_
                refine q_goto (t := 12) rfl (by decide) ?_
                refine Wp_ls [(0, .ref 41), (1, vi a1), (2, vi a2), (3, vi a3), (4, vi (v4 + 1))] (lsub_cons rfl (lsub_cons rfl (lsub_cons rfl (lsub_cons rfl (lsub_cons rfl lsub_nil))))) ?_
                exact ih c_61 (v4 + 1) hI_62 (fun a j hm => (hF_63 a j (by omega)).trans ((hF_59 a j (by omega)).trans ((hF_54 a j (by omega)).trans ((hF_48 a j (by omega)).trans ((hF_43 a j (by omega)).trans ((hF_38 a j (by omega)).trans (hF a j (by omega)))))))) ⟨by omega, by omega⟩ (by omega)
              · refine v_ic_ge_f (t := 129) rfl (by decide) (by omega) ?_
                refine q_aload_n rfl rfl ?_
                refine q_iload rfl rfl ?_
                refine q_iload rfl rfl ?_
                refine q_iload rfl rfl ?_
                refine q_iconst rfl ?_
                refine v_iadd (v := y_44 + 1) rfl (by omega) ?_
                refine q_aload_n rfl rfl ?_
                refine v_gi (z := 20) (v := c 41 20) rfl rfl rfl (by decide) rfl rfl ((hF_48 41 20 (by omega)).trans ((hF_43 41 20 (by omega)).trans ((hF_38 41 20 (by omega)).trans (hF 41 20 (by omega))))) ?_
                have h_64 : 0 ≤ ((y_44 + 1) % (c 41 20)) ∧ ((y_44 + 1) % (c 41 20)) < c 41 20 := rem_bd (by omega)
                refine v_irem (v := ((y_44 + 1) % (c 41 20))) rfl (by omega) rfl ?_
                refine q_iload rfl rfl ?_
                refine q_iconst rfl ?_
                refine v_iadd (v := y_44 + 2) rfl (by omega) ?_
                refine q_aload_n rfl rfl ?_
                refine v_gi (z := 20) (v := c 41 20) rfl rfl rfl (by decide) rfl rfl ((hF_48 41 20 (by omega)).trans ((hF_43 41 20 (by omega)).trans ((hF_38 41 20 (by omega)).trans (hF 41 20 (by omega))))) ?_
                have h_65 : 0 ≤ ((y_44 + 2) % (c 41 20)) ∧ ((y_44 + 2) % (c 41 20)) < c 41 20 := rem_bd (by omega)
                refine v_irem (v := ((y_44 + 2) % (c 41 20))) rfl (by omega) rfl ?_
                refine v_cv rfl rfl rfl rfl (by decide) ⟨⟨rfl, rfl⟩, by decide, rfl⟩ (Nat.le_of_ble_eq_true rfl) (Nat.le_of_ble_eq_true rfl) (s_193 (a1 := y_39) (a2 := y_44) (a3 := ((y_44 + 1) % (c 41 20))) (a4 := ((y_44 + 2) % (c 41 20))) hI_47 (show 0 ≤ y_39 ∧ y_39 ≤ 3 from by omega) (show 0 ≤ y_44 ∧ y_44 ≤ 5 from by omega) (show 0 ≤ ((y_44 + 1) % (c 41 20)) ∧ ((y_44 + 1) % (c 41 20)) ≤ 5 from by omega) (show 0 ≤ ((y_44 + 2) % (c 41 20)) ∧ ((y_44 + 2) % (c 41 20)) ≤ 5 from by omega) (fun c_66 y_69 hI_67 hF_68 hy_69 => ?_))
                refine bk_inl ?_
                refine q_pop rfl rfl ?_
                refine q_aload_n rfl rfl ?_
                refine v_gi (z := 20) (v := c 41 20) rfl rfl rfl (by decide) rfl rfl ((hF_68 41 20 (by omega)).trans ((hF_48 41 20 (by omega)).trans ((hF_43 41 20 (by omega)).trans ((hF_38 41 20 (by omega)).trans (hF 41 20 (by omega)))))) ?_
                refine v_if_le_f (t := 149) rfl (by decide) (by omega) ?_
                refine q_aload_n rfl rfl ?_
                refine q_aload_n rfl rfl ?_
                refine q_aload_n rfl rfl ?_
                refine v_gi (z := 20) (v := c 41 20) rfl rfl rfl (by decide) rfl rfl ((hF_68 41 20 (by omega)).trans ((hF_48 41 20 (by omega)).trans ((hF_43 41 20 (by omega)).trans ((hF_38 41 20 (by omega)).trans (hF 41 20 (by omega)))))) ?_
                refine v_cv rfl rfl rfl rfl (by decide) ⟨⟨rfl, rfl⟩, by decide, rfl⟩ (Nat.le_of_ble_eq_true rfl) (Nat.le_of_ble_eq_true rfl) (s_252 (a1 := c 41 20) hI_67 (show 1 ≤ c 41 20 ∧ c 41 20 ≤ 16 from by omega) (fun c_70 y_73 hI_71 hF_72 hy_73 h_74 => ?_))
                refine bk_inl ?_
                refine v_cv rfl rfl rfl rfl (by decide) ⟨⟨rfl, rfl⟩, by decide, rfl⟩ (Nat.le_of_ble_eq_true rfl) (Nat.le_of_ble_eq_true rfl) (s_198 (a1 := y_73) hI_71 (show 0 ≤ y_73 ∧ y_73 ≤ 5 from by omega) (fun c_75 y_78 hI_76 hF_77 hy_78 => ?_))
                refine bk_inl ?_
                refine q_pop rfl rfl ?_
                refine q_aload_n rfl rfl ?_
                refine v_cv rfl rfl rfl rfl (by decide) ⟨⟨rfl, rfl⟩, by decide, rfl⟩ (Nat.le_of_ble_eq_true rfl) (Nat.le_of_ble_eq_true rfl) (s_199 hI_76 (fun c_79 hI_80 hF_81 => ?_))
                refine bk_inl ?_
                refine v_iinc (v := v4 + 1) rfl rfl (by decide) (by omega) ?_
                refine q_goto (t := 12) rfl (by decide) ?_
                refine Wp_ls [(0, .ref 41), (1, vi a1), (2, vi a2), (3, vi a3), (4, vi (v4 + 1))] (lsub_cons rfl (lsub_cons rfl (lsub_cons rfl (lsub_cons rfl (lsub_cons rfl lsub_nil))))) ?_
                exact ih c_79 (v4 + 1) hI_80 (fun a j hm => (hF_81 a j (by omega)).trans ((hF_77 a j (by omega)).trans ((hF_72 a j (by omega)).trans ((hF_68 a j (by omega)).trans ((hF_48 a j (by omega)).trans ((hF_43 a j (by omega)).trans ((hF_38 a j (by omega)).trans (hF a j (by omega))))))))) ⟨by omega, by omega⟩ (by omega)
        · refine v_if_le_f (t := 57) rfl (by decide) (by omega) ?_
          refine q_aload_n rfl rfl ?_
          refine q_aload_n rfl rfl ?_
          refine v_gi (z := 21) (v := c 41 21) rfl rfl rfl (by decide) rfl rfl (hF 41 21 (by omega)) ?_
          refine v_cv rfl rfl rfl rfl (by decide) ⟨⟨rfl, rfl⟩, by decide, rfl⟩ (Nat.le_of_ble_eq_true rfl) (Nat.le_of_ble_eq_true rfl) (s_252 (a1 := c 41 21) hI2 (show 1 ≤ c 41 21 ∧ c 41 21 ≤ 16 from by omega) (fun c_82 y_85 hI_83 hF_84 hy_85 h_86 => ?_))
          refine bk_inl ?_
          refine q_istore rfl (by decide) ?_
          refine q_aload_n rfl rfl ?_
          refine q_iload rfl rfl ?_
          refine q_aload_n rfl rfl ?_
          refine q_aload_n rfl rfl ?_
          refine v_gi (z := 20) (v := c 41 20) rfl rfl rfl (by decide) rfl rfl ((hF_84 41 20 (by omega)).trans (hF 41 20 (by omega))) ?_
          refine v_cv rfl rfl rfl rfl (by decide) ⟨⟨rfl, rfl⟩, by decide, rfl⟩ (Nat.le_of_ble_eq_true rfl) (Nat.le_of_ble_eq_true rfl) (s_252 (a1 := c 41 20) hI_83 (show 1 ≤ c 41 20 ∧ c 41 20 ≤ 16 from by omega) (fun c_87 y_90 hI_88 hF_89 hy_90 h_91 => ?_))
          refine bk_inl ?_
          refine v_cv rfl rfl rfl rfl (by decide) ⟨⟨rfl, rfl⟩, by decide, rfl⟩ (Nat.le_of_ble_eq_true rfl) (Nat.le_of_ble_eq_true rfl) (s_188 (a1 := y_85) (a2 := y_90) hI_88 (show 0 ≤ y_85 ∧ y_85 ≤ 3 from by omega) (show 0 ≤ y_90 ∧ y_90 ≤ 5 from by omega) (fun c_92 y_95 hI_93 hF_94 hy_95 => ?_))
          refine bk_inl ?_
          refine q_pop rfl rfl ?_
          refine q_aload_n rfl rfl ?_
          refine v_gi (z := 20) (v := c 41 20) rfl rfl rfl (by decide) rfl rfl ((hF_94 41 20 (by omega)).trans ((hF_89 41 20 (by omega)).trans ((hF_84 41 20 (by omega)).trans (hF 41 20 (by omega))))) ?_
          refine q_iconst rfl ?_
          by_cases h_96 : c 41 20 ≤ 2
          · refine v_ic_le_t (t := 129) rfl (by decide) (by omega) ?_
            refine q_aload_n rfl rfl ?_
            refine v_gi (z := 20) (v := c 41 20) rfl rfl rfl (by decide) rfl rfl ((hF_94 41 20 (by omega)).trans ((hF_89 41 20 (by omega)).trans ((hF_84 41 20 (by omega)).trans (hF 41 20 (by omega))))) ?_
            refine v_if_le_f (t := 149) rfl (by decide) (by omega) ?_
            refine q_aload_n rfl rfl ?_
            refine q_aload_n rfl rfl ?_
            refine q_aload_n rfl rfl ?_
            refine v_gi (z := 20) (v := c 41 20) rfl rfl rfl (by decide) rfl rfl ((hF_94 41 20 (by omega)).trans ((hF_89 41 20 (by omega)).trans ((hF_84 41 20 (by omega)).trans (hF 41 20 (by omega))))) ?_
            refine v_cv rfl rfl rfl rfl (by decide) ⟨⟨rfl, rfl⟩, by decide, rfl⟩ (Nat.le_of_ble_eq_true rfl) (Nat.le_of_ble_eq_true rfl) (s_252 (a1 := c 41 20) hI_93 (show 1 ≤ c 41 20 ∧ c 41 20 ≤ 16 from by omega) (fun c_97 y_100 hI_98 hF_99 hy_100 h_101 => ?_))
            refine bk_inl ?_
            refine v_cv rfl rfl rfl rfl (by decide) ⟨⟨rfl, rfl⟩, by decide, rfl⟩ (Nat.le_of_ble_eq_true rfl) (Nat.le_of_ble_eq_true rfl) (s_198 (a1 := y_100) hI_98 (show 0 ≤ y_100 ∧ y_100 ≤ 5 from by omega) (fun c_102 y_105 hI_103 hF_104 hy_105 => ?_))
            refine bk_inl ?_
            refine q_pop rfl rfl ?_
            refine q_aload_n rfl rfl ?_
            refine v_cv rfl rfl rfl rfl (by decide) ⟨⟨rfl, rfl⟩, by decide, rfl⟩ (Nat.le_of_ble_eq_true rfl) (Nat.le_of_ble_eq_true rfl) (s_199 hI_103 (fun c_106 hI_107 hF_108 => ?_))
            refine bk_inl ?_
            refine v_iinc (v := v4 + 1) rfl rfl (by decide) (by omega) ?_
            refine q_goto (t := 12) rfl (by decide) ?_
            refine Wp_ls [(0, .ref 41), (1, vi a1), (2, vi a2), (3, vi a3), (4, vi (v4 + 1))] (lsub_cons rfl (lsub_cons rfl (lsub_cons rfl (lsub_cons rfl (lsub_cons rfl lsub_nil))))) ?_
            exact ih c_106 (v4 + 1) hI_107 (fun a j hm => (hF_108 a j (by omega)).trans ((hF_104 a j (by omega)).trans ((hF_99 a j (by omega)).trans ((hF_94 a j (by omega)).trans ((hF_89 a j (by omega)).trans ((hF_84 a j (by omega)).trans (hF a j (by omega)))))))) ⟨by omega, by omega⟩ (by omega)
          · refine v_ic_le_f (t := 129) rfl (by decide) (by omega) ?_
            refine q_aload_n rfl rfl ?_
            have h_109 := ir_41_22 hI
            refine v_gi (z := 22) (v := c 41 22) rfl rfl rfl (by decide) rfl rfl ((hF_94 41 22 (by omega)).trans ((hF_89 41 22 (by omega)).trans ((hF_84 41 22 (by omega)).trans (hF 41 22 (by omega))))) ?_
            by_cases h_110 : c 41 22 ≤ 0
            · refine v_if_le_t (t := 129) rfl (by decide) (by omega) ?_
              refine q_aload_n rfl rfl ?_
              refine v_gi (z := 20) (v := c 41 20) rfl rfl rfl (by decide) rfl rfl ((hF_94 41 20 (by omega)).trans ((hF_89 41 20 (by omega)).trans ((hF_84 41 20 (by omega)).trans (hF 41 20 (by omega))))) ?_
              refine v_if_le_f (t := 149) rfl (by decide) (by omega) ?_
              refine q_aload_n rfl rfl ?_
              refine q_aload_n rfl rfl ?_
              refine q_aload_n rfl rfl ?_
              refine v_gi (z := 20) (v := c 41 20) rfl rfl rfl (by decide) rfl rfl ((hF_94 41 20 (by omega)).trans ((hF_89 41 20 (by omega)).trans ((hF_84 41 20 (by omega)).trans (hF 41 20 (by omega))))) ?_
              refine v_cv rfl rfl rfl rfl (by decide) ⟨⟨rfl, rfl⟩, by decide, rfl⟩ (Nat.le_of_ble_eq_true rfl) (Nat.le_of_ble_eq_true rfl) (s_252 (a1 := c 41 20) hI_93 (show 1 ≤ c 41 20 ∧ c 41 20 ≤ 16 from by omega) (fun c_111 y_114 hI_112 hF_113 hy_114 h_115 => ?_))
              refine bk_inl ?_
              refine v_cv rfl rfl rfl rfl (by decide) ⟨⟨rfl, rfl⟩, by decide, rfl⟩ (Nat.le_of_ble_eq_true rfl) (Nat.le_of_ble_eq_true rfl) (s_198 (a1 := y_114) hI_112 (show 0 ≤ y_114 ∧ y_114 ≤ 5 from by omega) (fun c_116 y_119 hI_117 hF_118 hy_119 => ?_))
              refine bk_inl ?_
              refine q_pop rfl rfl ?_
              refine q_aload_n rfl rfl ?_
              refine v_cv rfl rfl rfl rfl (by decide) ⟨⟨rfl, rfl⟩, by decide, rfl⟩ (Nat.le_of_ble_eq_true rfl) (Nat.le_of_ble_eq_true rfl) (s_199 hI_117 (fun c_120 hI_121 hF_122 => ?_))
              refine bk_inl ?_
              refine v_iinc (v := v4 + 1) rfl rfl (by decide) (by omega) ?_
              refine q_goto (t := 12) rfl (by decide) ?_
              refine Wp_ls [(0, .ref 41), (1, vi a1), (2, vi a2), (3, vi a3), (4, vi (v4 + 1))] (lsub_cons rfl (lsub_cons rfl (lsub_cons rfl (lsub_cons rfl (lsub_cons rfl lsub_nil))))) ?_
              exact ih c_120 (v4 + 1) hI_121 (fun a j hm => (hF_122 a j (by omega)).trans ((hF_118 a j (by omega)).trans ((hF_113 a j (by omega)).trans ((hF_94 a j (by omega)).trans ((hF_89 a j (by omega)).trans ((hF_84 a j (by omega)).trans (hF a j (by omega)))))))) ⟨by omega, by omega⟩ (by omega)
            · refine v_if_le_f (t := 129) rfl (by decide) (by omega) ?_
              refine q_aload_n rfl rfl ?_
              refine q_aload_n rfl rfl ?_
              refine v_gi (z := 22) (v := c 41 22) rfl rfl rfl (by decide) rfl rfl ((hF_94 41 22 (by omega)).trans ((hF_89 41 22 (by omega)).trans ((hF_84 41 22 (by omega)).trans (hF 41 22 (by omega))))) ?_
              refine v_cv rfl rfl rfl rfl (by decide) ⟨⟨rfl, rfl⟩, by decide, rfl⟩ (Nat.le_of_ble_eq_true rfl) (Nat.le_of_ble_eq_true rfl) (s_252 (a1 := c 41 22) hI_93 (show 1 ≤ c 41 22 ∧ c 41 22 ≤ 16 from by omega) (fun c_123 y_126 hI_124 hF_125 hy_126 h_127 => ?_))
              refine bk_inl ?_
              refine q_istore rfl (by decide) ?_
              refine q_aload_n rfl rfl ?_
              refine q_aload_n rfl rfl ?_
              refine v_gi (z := 20) (v := c 41 20) rfl rfl rfl (by decide) rfl rfl ((hF_125 41 20 (by omega)).trans ((hF_94 41 20 (by omega)).trans ((hF_89 41 20 (by omega)).trans ((hF_84 41 20 (by omega)).trans (hF 41 20 (by omega)))))) ?_
              refine v_cv rfl rfl rfl rfl (by decide) ⟨⟨rfl, rfl⟩, by decide, rfl⟩ (Nat.le_of_ble_eq_true rfl) (Nat.le_of_ble_eq_true rfl) (s_252 (a1 := c 41 20) hI_124 (show 1 ≤ c 41 20 ∧ c 41 20 ≤ 16 from by omega) (fun c_128 y_131 hI_129 hF_130 hy_131 h_132 => ?_))
              refine bk_inl ?_
              refine q_istore rfl (by decide) ?_
              refine q_aload_n rfl rfl ?_
              refine v_bip rfl (by decide) ?_
              refine v_cv rfl rfl rfl rfl (by decide) ⟨⟨rfl, rfl⟩, by decide, rfl⟩ (Nat.le_of_ble_eq_true rfl) (Nat.le_of_ble_eq_true rfl) (s_252 (a1 := 16) hI_129 (show 1 ≤ 16 ∧ 16 ≤ 16 from by omega) (fun c_133 y_136 hI_134 hF_135 hy_136 h_137 => ?_))
              refine bk_inl ?_
              refine q_iload_n rfl rfl ?_
              by_cases h_138 : y_136 ≥ a2
              · refine v_ic_ge_t (t := 129) rfl (by decide) (by omega) ?_
                refine q_aload_n rfl rfl ?_
                refine v_gi (z := 20) (v := c 41 20) rfl rfl rfl (by decide) rfl rfl ((hF_135 41 20 (by omega)).trans ((hF_130 41 20 (by omega)).trans ((hF_125 41 20 (by omega)).trans ((hF_94 41 20 (by omega)).trans ((hF_89 41 20 (by omega)).trans ((hF_84 41 20 (by omega)).trans (hF 41 20 (by omega)))))))) ?_
                refine v_if_le_f (t := 149) rfl (by decide) (by omega) ?_
                refine q_aload_n rfl rfl ?_
                refine q_aload_n rfl rfl ?_
                refine q_aload_n rfl rfl ?_
                refine v_gi (z := 20) (v := c 41 20) rfl rfl rfl (by decide) rfl rfl ((hF_135 41 20 (by omega)).trans ((hF_130 41 20 (by omega)).trans ((hF_125 41 20 (by omega)).trans ((hF_94 41 20 (by omega)).trans ((hF_89 41 20 (by omega)).trans ((hF_84 41 20 (by omega)).trans (hF 41 20 (by omega)))))))) ?_
                refine v_cv rfl rfl rfl rfl (by decide) ⟨⟨rfl, rfl⟩, by decide, rfl⟩ (Nat.le_of_ble_eq_true rfl) (Nat.le_of_ble_eq_true rfl) (s_252 (a1 := c 41 20) hI_134 (show 1 ≤ c 41 20 ∧ c 41 20 ≤ 16 from by omega) (fun c_139 y_142 hI_140 hF_141 hy_142 h_143 => ?_))
                refine bk_inl ?_
                refine v_cv rfl rfl rfl rfl (by decide) ⟨⟨rfl, rfl⟩, by decide, rfl⟩ (Nat.le_of_ble_eq_true rfl) (Nat.le_of_ble_eq_true rfl) (s_198 (a1 := y_142) hI_140 (show 0 ≤ y_142 ∧ y_142 ≤ 5 from by omega) (fun c_144 y_147 hI_145 hF_146 hy_147 => ?_))
                refine bk_inl ?_
                refine q_pop rfl rfl ?_
                refine q_aload_n rfl rfl ?_
                refine v_cv rfl rfl rfl rfl (by decide) ⟨⟨rfl, rfl⟩, by decide, rfl⟩ (Nat.le_of_ble_eq_true rfl) (Nat.le_of_ble_eq_true rfl) (s_199 hI_145 (fun c_148 hI_149 hF_150 => ?_))
                refine bk_inl ?_
                refine v_iinc (v := v4 + 1) rfl rfl (by decide) (by omega) ?_
                refine q_goto (t := 12) rfl (by decide) ?_
                refine Wp_ls [(0, .ref 41), (1, vi a1), (2, vi a2), (3, vi a3), (4, vi (v4 + 1))] (lsub_cons rfl (lsub_cons rfl (lsub_cons rfl (lsub_cons rfl (lsub_cons rfl lsub_nil))))) ?_
                exact ih c_148 (v4 + 1) hI_149 (fun a j hm => (hF_150 a j (by omega)).trans ((hF_146 a j (by omega)).trans ((hF_141 a j (by omega)).trans ((hF_135 a j (by omega)).trans ((hF_130 a j (by omega)).trans ((hF_125 a j (by omega)).trans ((hF_94 a j (by omega)).trans ((hF_89 a j (by omega)).trans ((hF_84 a j (by omega)).trans (hF a j (by omega))))))))))) ⟨by omega, by omega⟩ (by omega)
              · refine v_ic_ge_f (t := 129) rfl (by decide) (by omega) ?_
                refine q_aload_n rfl rfl ?_
                refine q_iload rfl rfl ?_
                refine q_iload rfl rfl ?_
                refine q_iload rfl rfl ?_
                refine q_iconst rfl ?_
                refine v_iadd (v := y_131 + 1) rfl (by omega) ?_
                refine q_aload_n rfl rfl ?_
                refine v_gi (z := 20) (v := c 41 20) rfl rfl rfl (by decide) rfl rfl ((hF_135 41 20 (by omega)).trans ((hF_130 41 20 (by omega)).trans ((hF_125 41 20 (by omega)).trans ((hF_94 41 20 (by omega)).trans ((hF_89 41 20 (by omega)).trans ((hF_84 41 20 (by omega)).trans (hF 41 20 (by omega)))))))) ?_
                have h_151 : 0 ≤ ((y_131 + 1) % (c 41 20)) ∧ ((y_131 + 1) % (c 41 20)) < c 41 20 := rem_bd (by omega)
                refine v_irem (v := ((y_131 + 1) % (c 41 20))) rfl (by omega) rfl ?_
                refine q_iload rfl rfl ?_
                refine q_iconst rfl ?_
                refine v_iadd (v := y_131 + 2) rfl (by omega) ?_
                refine q_aload_n rfl rfl ?_
                refine v_gi (z := 20) (v := c 41 20) rfl rfl rfl (by decide) rfl rfl ((hF_135 41 20 (by omega)).trans ((hF_130 41 20 (by omega)).trans ((hF_125 41 20 (by omega)).trans ((hF_94 41 20 (by omega)).trans ((hF_89 41 20 (by omega)).trans ((hF_84 41 20 (by omega)).trans (hF 41 20 (by omega)))))))) ?_
                have h_152 : 0 ≤ ((y_131 + 2) % (c 41 20)) ∧ ((y_131 + 2) % (c 41 20)) < c 41 20 := rem_bd (by omega)
                refine v_irem (v := ((y_131 + 2) % (c 41 20))) rfl (by omega) rfl ?_
                refine v_cv rfl rfl rfl rfl (by decide) ⟨⟨rfl, rfl⟩, by decide, rfl⟩ (Nat.le_of_ble_eq_true rfl) (Nat.le_of_ble_eq_true rfl) (s_193 (a1 := y_126) (a2 := y_131) (a3 := ((y_131 + 1) % (c 41 20))) (a4 := ((y_131 + 2) % (c 41 20))) hI_134 (show 0 ≤ y_126 ∧ y_126 ≤ 3 from by omega) (show 0 ≤ y_131 ∧ y_131 ≤ 5 from by omega) (show 0 ≤ ((y_131 + 1) % (c 41 20)) ∧ ((y_131 + 1) % (c 41 20)) ≤ 5 from by omega) (show 0 ≤ ((y_131 + 2) % (c 41 20)) ∧ ((y_131 + 2) % (c 41 20)) ≤ 5 from by omega) (fun c_153 y_156 hI_154 hF_155 hy_156 => ?_))
                refine bk_inl ?_
                refine q_pop rfl rfl ?_
                refine q_aload_n rfl rfl ?_
                refine v_gi (z := 20) (v := c 41 20) rfl rfl rfl (by decide) rfl rfl ((hF_155 41 20 (by omega)).trans ((hF_135 41 20 (by omega)).trans ((hF_130 41 20 (by omega)).trans ((hF_125 41 20 (by omega)).trans ((hF_94 41 20 (by omega)).trans ((hF_89 41 20 (by omega)).trans ((hF_84 41 20 (by omega)).trans (hF 41 20 (by omega))))))))) ?_
                refine v_if_le_f (t := 149) rfl (by decide) (by omega) ?_
                refine q_aload_n rfl rfl ?_
                refine q_aload_n rfl rfl ?_
                refine q_aload_n rfl rfl ?_
                refine v_gi (z := 20) (v := c 41 20) rfl rfl rfl (by decide) rfl rfl ((hF_155 41 20 (by omega)).trans ((hF_135 41 20 (by omega)).trans ((hF_130 41 20 (by omega)).trans ((hF_125 41 20 (by omega)).trans ((hF_94 41 20 (by omega)).trans ((hF_89 41 20 (by omega)).trans ((hF_84 41 20 (by omega)).trans (hF 41 20 (by omega))))))))) ?_
                refine v_cv rfl rfl rfl rfl (by decide) ⟨⟨rfl, rfl⟩, by decide, rfl⟩ (Nat.le_of_ble_eq_true rfl) (Nat.le_of_ble_eq_true rfl) (s_252 (a1 := c 41 20) hI_154 (show 1 ≤ c 41 20 ∧ c 41 20 ≤ 16 from by omega) (fun c_157 y_160 hI_158 hF_159 hy_160 h_161 => ?_))
                refine bk_inl ?_
                refine v_cv rfl rfl rfl rfl (by decide) ⟨⟨rfl, rfl⟩, by decide, rfl⟩ (Nat.le_of_ble_eq_true rfl) (Nat.le_of_ble_eq_true rfl) (s_198 (a1 := y_160) hI_158 (show 0 ≤ y_160 ∧ y_160 ≤ 5 from by omega) (fun c_162 y_165 hI_163 hF_164 hy_165 => ?_))
                refine bk_inl ?_
                refine q_pop rfl rfl ?_
                refine q_aload_n rfl rfl ?_
                refine v_cv rfl rfl rfl rfl (by decide) ⟨⟨rfl, rfl⟩, by decide, rfl⟩ (Nat.le_of_ble_eq_true rfl) (Nat.le_of_ble_eq_true rfl) (s_199 hI_163 (fun c_166 hI_167 hF_168 => ?_))
                refine bk_inl ?_
                refine v_iinc (v := v4 + 1) rfl rfl (by decide) (by omega) ?_
                refine q_goto (t := 12) rfl (by decide) ?_
                refine Wp_ls [(0, .ref 41), (1, vi a1), (2, vi a2), (3, vi a3), (4, vi (v4 + 1))] (lsub_cons rfl (lsub_cons rfl (lsub_cons rfl (lsub_cons rfl (lsub_cons rfl lsub_nil))))) ?_
                exact ih c_166 (v4 + 1) hI_167 (fun a j hm => (hF_168 a j (by omega)).trans ((hF_164 a j (by omega)).trans ((hF_159 a j (by omega)).trans ((hF_155 a j (by omega)).trans ((hF_135 a j (by omega)).trans ((hF_130 a j (by omega)).trans ((hF_125 a j (by omega)).trans ((hF_94 a j (by omega)).trans ((hF_89 a j (by omega)).trans ((hF_84 a j (by omega)).trans (hF a j (by omega)))))))))))) ⟨by omega, by omega⟩ (by omega)
set_option maxRecDepth 100000 in
set_option maxHeartbeats 4000000 in
theorem s_253 {sc : List Int32} {d P Q : Nat} {c : ME} {a1 : Int} {a2 : Int} {a3 : Int} {Z : AR → Prop} (hI : Iv 0 (-1) P Q c) (ha1 : (-2147483648) ≤ a1 ∧ a1 ≤ 2147483647) (ha2 : 0 ≤ a2 ∧ a2 ≤ 16) (ha3 : 1 ≤ a3 ∧ a3 ≤ 48) (K : ∀ (c2 : ME), Iv 0 (-1) P Q c2 → (∀ (a : Nat) (j : Int), ¬ ((a = 41 ∧ j = 50) ∨ a = 59 ∨ a = 54 ∨ a = 55) → c2 a j = c a j) → Z (.inl (none), Wd P Q P P c2, 0, 0)) : Wp sc (d + 14) 253 0 [(0, .ref 41), (1, vi a1), (2, vi a2), (3, vi a3)] [] (Wd P Q P P c) 0 0 Z := by
  have hP := iv_P hI
  have hQ := iv_Q hI
  refine q_aload_n rfl rfl ?_
  refine v_cv rfl rfl rfl rfl (by decide) ⟨⟨rfl, rfl⟩, by decide, rfl⟩ (Nat.le_of_ble_eq_true rfl) (Nat.le_of_ble_eq_true rfl) (s_186 hI (fun c_169 hI_170 hF_171 => ?_))
  refine bk_inl ?_
  refine q_aload_n rfl rfl ?_
  refine q_iload_n rfl rfl ?_
  refine v_pi (z := 50) rfl rfl rfl (by decide) rfl rfl rfl (by decide) ?_
  refine q_iconst rfl ?_
  refine q_istore rfl (by decide) ?_
  have hI_172 := iw_41_50 (v := a1) hI_170 ⟨by omega, by omega⟩
  refine Wp_ls [(0, .ref 41), (1, vi a1), (2, vi a2), (3, vi a3), (4, vi 0)] (lsub_cons rfl (lsub_cons rfl (lsub_cons rfl (lsub_cons rfl (lsub_cons rfl lsub_nil))))) ?_
  exact (s_253_l (sc := sc) (d := d) hI ha1 ha2 ha3 K 100) (up c_169 41 50 a1) 0 hI_172 (fun a j hm => (up_b (by omega)).trans (hF_171 a j (by omega))) ⟨by decide, by decide⟩ (by omega)

set_option maxRecDepth 100000 in
set_option maxHeartbeats 4000000 in
theorem s_255 {sc : List Int32} {d P Q : Nat} {c : ME} {a1 : Int} {a2 : Int} {a3 : Int} {a4 : Int} {Z : AR → Prop} (hI : Iv 0 (-1) P Q c) (ha1 : (-2147483648) ≤ a1 ∧ a1 ≤ 2147483647) (ha2 : (-2147483648) ≤ a2 ∧ a2 ≤ 2147483647) (ha3 : (-2147483648) ≤ a3 ∧ a3 ≤ 2147483647) (ha4 : (-2147483648) ≤ a4 ∧ a4 ≤ 2147483647) (K : ∀ (c2 : ME) (y : Int), Iv 0 (-1) P Q c2 → (∀ (a : Nat) (j : Int), ¬ ((a = 41 ∧ j = 0) ∨ a = 42 ∨ (a = 41 ∧ j = 50) ∨ a = 59 ∨ a = 54 ∨ a = 55) → c2 a j = c a j) → (-2147483648) ≤ y ∧ y ≤ 2147483647 → Z (.inl (some (vi y)), Wd P Q P P c2, 0, 0)) : Wp sc (d + 15) 255 0 [(0, .ref 41), (1, vi a1), (2, vi a2), (3, vi a3), (4, vi a4)] [] (Wd P Q P P c) 0 0 Z := by
  have hP := iv_P hI
  have hQ := iv_Q hI
  refine q_aload_n rfl rfl ?_
  refine q_iconst rfl ?_
  refine v_pi (z := 0) rfl rfl rfl (by decide) rfl rfl rfl (by decide) ?_
  refine q_aload_n rfl rfl ?_
  refine q_iload_n rfl rfl ?_
  refine q_iload_n rfl rfl ?_
  refine q_call rfl rfl rfl rfl ?_
  refine q_iload_n rfl rfl ?_
  by_cases h_1 : a2 < 0
  · refine v_if_lt_t (t := 25) rfl (by decide) (by omega) ?_
    refine q_iconst rfl ?_
    refine v_zret rfl rfl (by omega) ?_
    refine bk_inl ?_
    refine v_if_eq_t (t := 28) rfl (by decide) (by decide) ?_
    refine q_iconst rfl ?_
    refine q_iconst rfl ?_
    refine q_iconst rfl ?_
    refine v_cv rfl rfl rfl rfl (by decide) ⟨⟨rfl, rfl⟩, by decide, rfl⟩ (Nat.le_of_ble_eq_true rfl) (Nat.le_of_ble_eq_true rfl) ?_
    refine q_iload_n rfl rfl ?_
    refine v_if_ne_f (t := 26) rfl (by decide) (by decide) ?_
    refine q_aload_n rfl rfl ?_
    refine v_gi (z := 0) (v := 0) rfl rfl rfl (by decide) rfl rfl (up_e rfl) ?_
    refine v_if_ne_f (t := 26) rfl (by decide) (by decide) ?_
    refine q_aload_n rfl rfl ?_
    refine q_iload_n rfl rfl ?_
    refine v_pi (z := 0) rfl rfl rfl (by decide) rfl rfl rfl (by decide) ?_
    refine q_aload_n rfl rfl ?_
    refine v_gr (t := 42) rfl rfl rfl (by decide) rfl ?_
    refine q_iload_n rfl rfl ?_
    refine q_dup2 rfl ⟨rfl, rfl⟩ ?_
    have h_2 := ir_42 hI 1
    refine v_ia (v := c 42 1) rfl rfl (by decide) (by decide) (by decide) ((up_c (by decide)).trans (up_c (by decide))) ?_
    refine q_iconst rfl ?_
    refine v_iadd (v := c 42 1 + 1) rfl (by omega) ?_
    refine v_nrm (fun y_3 hy_3 => ?_)
    refine v_is rfl rfl (by decide) (by decide) (by decide) ?_
    refine q_aload_n rfl rfl ?_
    refine v_gi (z := 0) (v := 1) rfl rfl rfl (by decide) rfl rfl ((up_c (by decide)).trans (up_e rfl)) ?_
    refine v_if_ne_t (t := 37) rfl (by decide) (by decide) ?_
    refine q_iconst rfl ?_
    refine v_zret rfl rfl (by omega) ?_
    refine bk_inl ?_
    refine v_if_ne_f (t := 39) rfl (by decide) (by decide) ?_
    refine q_iconst rfl ?_
    refine q_iret rfl rfl ?_
    have hI_4 := iw_41_0 (v := 0) hI ⟨by decide, by decide⟩
    have hI_5 := iw_41_0 (v := 1) hI_4 ⟨by decide, by decide⟩
    have hI_6 := iw_42 (j := 1) (v := y_3) hI_5 ⟨by omega, by omega⟩
    exact K (up (up (up c 41 0 0) 41 0 1) 42 1 y_3) 0 hI_6 (fun a j hm => (up_b (by omega)).trans ((up_b (by omega)).trans (up_b (by omega)))) ⟨by decide, by decide⟩
  · refine v_if_lt_f (t := 25) rfl (by decide) (by omega) ?_
    refine q_iload_n rfl rfl ?_
    refine v_bip rfl (by decide) ?_
    by_cases h_7 : a2 > 16
    · refine v_ic_gt_t (t := 25) rfl (by decide) (by omega) ?_
      refine q_iconst rfl ?_
      refine v_zret rfl rfl (by omega) ?_
      refine bk_inl ?_
      refine v_if_eq_t (t := 28) rfl (by decide) (by decide) ?_
      refine q_iconst rfl ?_
      refine q_iconst rfl ?_
      refine q_iconst rfl ?_
      refine v_cv rfl rfl rfl rfl (by decide) ⟨⟨rfl, rfl⟩, by decide, rfl⟩ (Nat.le_of_ble_eq_true rfl) (Nat.le_of_ble_eq_true rfl) ?_
      refine q_iload_n rfl rfl ?_
      refine v_if_ne_f (t := 26) rfl (by decide) (by decide) ?_
      refine q_aload_n rfl rfl ?_
      refine v_gi (z := 0) (v := 0) rfl rfl rfl (by decide) rfl rfl (up_e rfl) ?_
      refine v_if_ne_f (t := 26) rfl (by decide) (by decide) ?_
      refine q_aload_n rfl rfl ?_
      refine q_iload_n rfl rfl ?_
      refine v_pi (z := 0) rfl rfl rfl (by decide) rfl rfl rfl (by decide) ?_
      refine q_aload_n rfl rfl ?_
      refine v_gr (t := 42) rfl rfl rfl (by decide) rfl ?_
      refine q_iload_n rfl rfl ?_
      refine q_dup2 rfl ⟨rfl, rfl⟩ ?_
      have h_8 := ir_42 hI 1
      refine v_ia (v := c 42 1) rfl rfl (by decide) (by decide) (by decide) ((up_c (by decide)).trans (up_c (by decide))) ?_
      refine q_iconst rfl ?_
      refine v_iadd (v := c 42 1 + 1) rfl (by omega) ?_
      refine v_nrm (fun y_9 hy_9 => ?_)
      refine v_is rfl rfl (by decide) (by decide) (by decide) ?_
      refine q_aload_n rfl rfl ?_
      refine v_gi (z := 0) (v := 1) rfl rfl rfl (by decide) rfl rfl ((up_c (by decide)).trans (up_e rfl)) ?_
      refine v_if_ne_t (t := 37) rfl (by decide) (by decide) ?_
      refine q_iconst rfl ?_
      refine v_zret rfl rfl (by omega) ?_
      refine bk_inl ?_
      refine v_if_ne_f (t := 39) rfl (by decide) (by decide) ?_
      refine q_iconst rfl ?_
      refine q_iret rfl rfl ?_
      have hI_10 := iw_41_0 (v := 0) hI ⟨by decide, by decide⟩
      have hI_11 := iw_41_0 (v := 1) hI_10 ⟨by decide, by decide⟩
      have hI_12 := iw_42 (j := 1) (v := y_9) hI_11 ⟨by omega, by omega⟩
      exact K (up (up (up c 41 0 0) 41 0 1) 42 1 y_9) 0 hI_12 (fun a j hm => (up_b (by omega)).trans ((up_b (by omega)).trans (up_b (by omega)))) ⟨by decide, by decide⟩
    · refine v_ic_gt_f (t := 25) rfl (by decide) (by omega) ?_
      refine q_iload_n rfl rfl ?_
      refine q_iconst rfl ?_
      by_cases h_13 : a3 < 1
      · refine v_ic_lt_t (t := 25) rfl (by decide) (by omega) ?_
        refine q_iconst rfl ?_
        refine v_zret rfl rfl (by omega) ?_
        refine bk_inl ?_
        refine v_if_eq_t (t := 28) rfl (by decide) (by decide) ?_
        refine q_iconst rfl ?_
        refine q_iconst rfl ?_
        refine q_iconst rfl ?_
        refine v_cv rfl rfl rfl rfl (by decide) ⟨⟨rfl, rfl⟩, by decide, rfl⟩ (Nat.le_of_ble_eq_true rfl) (Nat.le_of_ble_eq_true rfl) ?_
        refine q_iload_n rfl rfl ?_
        refine v_if_ne_f (t := 26) rfl (by decide) (by decide) ?_
        refine q_aload_n rfl rfl ?_
        refine v_gi (z := 0) (v := 0) rfl rfl rfl (by decide) rfl rfl (up_e rfl) ?_
        refine v_if_ne_f (t := 26) rfl (by decide) (by decide) ?_
        refine q_aload_n rfl rfl ?_
        refine q_iload_n rfl rfl ?_
        refine v_pi (z := 0) rfl rfl rfl (by decide) rfl rfl rfl (by decide) ?_
        refine q_aload_n rfl rfl ?_
        refine v_gr (t := 42) rfl rfl rfl (by decide) rfl ?_
        refine q_iload_n rfl rfl ?_
        refine q_dup2 rfl ⟨rfl, rfl⟩ ?_
        have h_14 := ir_42 hI 1
        refine v_ia (v := c 42 1) rfl rfl (by decide) (by decide) (by decide) ((up_c (by decide)).trans (up_c (by decide))) ?_
        refine q_iconst rfl ?_
        refine v_iadd (v := c 42 1 + 1) rfl (by omega) ?_
        refine v_nrm (fun y_15 hy_15 => ?_)
        refine v_is rfl rfl (by decide) (by decide) (by decide) ?_
        refine q_aload_n rfl rfl ?_
        refine v_gi (z := 0) (v := 1) rfl rfl rfl (by decide) rfl rfl ((up_c (by decide)).trans (up_e rfl)) ?_
        refine v_if_ne_t (t := 37) rfl (by decide) (by decide) ?_
        refine q_iconst rfl ?_
        refine v_zret rfl rfl (by omega) ?_
        refine bk_inl ?_
        refine v_if_ne_f (t := 39) rfl (by decide) (by decide) ?_
        refine q_iconst rfl ?_
        refine q_iret rfl rfl ?_
        have hI_16 := iw_41_0 (v := 0) hI ⟨by decide, by decide⟩
        have hI_17 := iw_41_0 (v := 1) hI_16 ⟨by decide, by decide⟩
        have hI_18 := iw_42 (j := 1) (v := y_15) hI_17 ⟨by omega, by omega⟩
        exact K (up (up (up c 41 0 0) 41 0 1) 42 1 y_15) 0 hI_18 (fun a j hm => (up_b (by omega)).trans ((up_b (by omega)).trans (up_b (by omega)))) ⟨by decide, by decide⟩
      · refine v_ic_lt_f (t := 25) rfl (by decide) (by omega) ?_
        refine q_iload_n rfl rfl ?_
        refine v_bip rfl (by decide) ?_
        by_cases h_19 : a3 > 48
        · refine v_ic_gt_t (t := 25) rfl (by decide) (by omega) ?_
          refine q_iconst rfl ?_
          refine v_zret rfl rfl (by omega) ?_
          refine bk_inl ?_
          refine v_if_eq_t (t := 28) rfl (by decide) (by decide) ?_
          refine q_iconst rfl ?_
          refine q_iconst rfl ?_
          refine q_iconst rfl ?_
          refine v_cv rfl rfl rfl rfl (by decide) ⟨⟨rfl, rfl⟩, by decide, rfl⟩ (Nat.le_of_ble_eq_true rfl) (Nat.le_of_ble_eq_true rfl) ?_
          refine q_iload_n rfl rfl ?_
          refine v_if_ne_f (t := 26) rfl (by decide) (by decide) ?_
          refine q_aload_n rfl rfl ?_
          refine v_gi (z := 0) (v := 0) rfl rfl rfl (by decide) rfl rfl (up_e rfl) ?_
          refine v_if_ne_f (t := 26) rfl (by decide) (by decide) ?_
          refine q_aload_n rfl rfl ?_
          refine q_iload_n rfl rfl ?_
          refine v_pi (z := 0) rfl rfl rfl (by decide) rfl rfl rfl (by decide) ?_
          refine q_aload_n rfl rfl ?_
          refine v_gr (t := 42) rfl rfl rfl (by decide) rfl ?_
          refine q_iload_n rfl rfl ?_
          refine q_dup2 rfl ⟨rfl, rfl⟩ ?_
          have h_20 := ir_42 hI 1
          refine v_ia (v := c 42 1) rfl rfl (by decide) (by decide) (by decide) ((up_c (by decide)).trans (up_c (by decide))) ?_
          refine q_iconst rfl ?_
          refine v_iadd (v := c 42 1 + 1) rfl (by omega) ?_
          refine v_nrm (fun y_21 hy_21 => ?_)
          refine v_is rfl rfl (by decide) (by decide) (by decide) ?_
          refine q_aload_n rfl rfl ?_
          refine v_gi (z := 0) (v := 1) rfl rfl rfl (by decide) rfl rfl ((up_c (by decide)).trans (up_e rfl)) ?_
          refine v_if_ne_t (t := 37) rfl (by decide) (by decide) ?_
          refine q_iconst rfl ?_
          refine v_zret rfl rfl (by omega) ?_
          refine bk_inl ?_
          refine v_if_ne_f (t := 39) rfl (by decide) (by decide) ?_
          refine q_iconst rfl ?_
          refine q_iret rfl rfl ?_
          have hI_22 := iw_41_0 (v := 0) hI ⟨by decide, by decide⟩
          have hI_23 := iw_41_0 (v := 1) hI_22 ⟨by decide, by decide⟩
          have hI_24 := iw_42 (j := 1) (v := y_21) hI_23 ⟨by omega, by omega⟩
          exact K (up (up (up c 41 0 0) 41 0 1) 42 1 y_21) 0 hI_24 (fun a j hm => (up_b (by omega)).trans ((up_b (by omega)).trans (up_b (by omega)))) ⟨by decide, by decide⟩
        · refine v_ic_gt_f (t := 25) rfl (by decide) (by omega) ?_
          refine q_iconst rfl ?_
          refine q_goto (t := 26) rfl (by decide) ?_
          refine v_zret rfl rfl (by omega) ?_
          refine bk_inl ?_
          refine v_if_eq_f (t := 28) rfl (by decide) (by decide) ?_
          refine q_iload rfl rfl ?_
          refine q_iconst rfl ?_
          refine q_iconst rfl ?_
          refine q_call rfl rfl rfl rfl ?_
          refine q_iload_n rfl rfl ?_
          refine q_iload_n rfl rfl ?_
          by_cases h_25 : a4 < 0
          · refine v_ic_lt_t (t := 14) rfl (by decide) (by omega) ?_
            refine q_iconst rfl ?_
            refine v_zret rfl rfl (by omega) ?_
            refine bk_inl ?_
            refine v_if_eq_t (t := 28) rfl (by decide) (by decide) ?_
            refine q_iconst rfl ?_
            refine q_iconst rfl ?_
            refine q_iconst rfl ?_
            refine v_cv rfl rfl rfl rfl (by decide) ⟨⟨rfl, rfl⟩, by decide, rfl⟩ (Nat.le_of_ble_eq_true rfl) (Nat.le_of_ble_eq_true rfl) ?_
            refine q_iload_n rfl rfl ?_
            refine v_if_ne_f (t := 26) rfl (by decide) (by decide) ?_
            refine q_aload_n rfl rfl ?_
            refine v_gi (z := 0) (v := 0) rfl rfl rfl (by decide) rfl rfl (up_e rfl) ?_
            refine v_if_ne_f (t := 26) rfl (by decide) (by decide) ?_
            refine q_aload_n rfl rfl ?_
            refine q_iload_n rfl rfl ?_
            refine v_pi (z := 0) rfl rfl rfl (by decide) rfl rfl rfl (by decide) ?_
            refine q_aload_n rfl rfl ?_
            refine v_gr (t := 42) rfl rfl rfl (by decide) rfl ?_
            refine q_iload_n rfl rfl ?_
            refine q_dup2 rfl ⟨rfl, rfl⟩ ?_
            have h_26 := ir_42 hI 1
            refine v_ia (v := c 42 1) rfl rfl (by decide) (by decide) (by decide) ((up_c (by decide)).trans (up_c (by decide))) ?_
            refine q_iconst rfl ?_
            refine v_iadd (v := c 42 1 + 1) rfl (by omega) ?_
            refine v_nrm (fun y_27 hy_27 => ?_)
            refine v_is rfl rfl (by decide) (by decide) (by decide) ?_
            refine q_aload_n rfl rfl ?_
            refine v_gi (z := 0) (v := 1) rfl rfl rfl (by decide) rfl rfl ((up_c (by decide)).trans (up_e rfl)) ?_
            refine v_if_ne_t (t := 37) rfl (by decide) (by decide) ?_
            refine q_iconst rfl ?_
            refine v_zret rfl rfl (by omega) ?_
            refine bk_inl ?_
            refine v_if_ne_f (t := 39) rfl (by decide) (by decide) ?_
            refine q_iconst rfl ?_
            refine q_iret rfl rfl ?_
            have hI_28 := iw_41_0 (v := 0) hI ⟨by decide, by decide⟩
            have hI_29 := iw_41_0 (v := 1) hI_28 ⟨by decide, by decide⟩
            have hI_30 := iw_42 (j := 1) (v := y_27) hI_29 ⟨by omega, by omega⟩
            exact K (up (up (up c 41 0 0) 41 0 1) 42 1 y_27) 0 hI_30 (fun a j hm => (up_b (by omega)).trans ((up_b (by omega)).trans (up_b (by omega)))) ⟨by decide, by decide⟩
          · refine v_ic_lt_f (t := 14) rfl (by decide) (by omega) ?_
            refine q_iload_n rfl rfl ?_
            refine q_iload_n rfl rfl ?_
            by_cases h_31 : a4 > 3
            · refine v_ic_gt_t (t := 14) rfl (by decide) (by omega) ?_
              refine q_iconst rfl ?_
              refine v_zret rfl rfl (by omega) ?_
              refine bk_inl ?_
              refine v_if_eq_t (t := 28) rfl (by decide) (by decide) ?_
              refine q_iconst rfl ?_
              refine q_iconst rfl ?_
              refine q_iconst rfl ?_
              refine v_cv rfl rfl rfl rfl (by decide) ⟨⟨rfl, rfl⟩, by decide, rfl⟩ (Nat.le_of_ble_eq_true rfl) (Nat.le_of_ble_eq_true rfl) ?_
              refine q_iload_n rfl rfl ?_
              refine v_if_ne_f (t := 26) rfl (by decide) (by decide) ?_
              refine q_aload_n rfl rfl ?_
              refine v_gi (z := 0) (v := 0) rfl rfl rfl (by decide) rfl rfl (up_e rfl) ?_
              refine v_if_ne_f (t := 26) rfl (by decide) (by decide) ?_
              refine q_aload_n rfl rfl ?_
              refine q_iload_n rfl rfl ?_
              refine v_pi (z := 0) rfl rfl rfl (by decide) rfl rfl rfl (by decide) ?_
              refine q_aload_n rfl rfl ?_
              refine v_gr (t := 42) rfl rfl rfl (by decide) rfl ?_
              refine q_iload_n rfl rfl ?_
              refine q_dup2 rfl ⟨rfl, rfl⟩ ?_
              have h_32 := ir_42 hI 1
              refine v_ia (v := c 42 1) rfl rfl (by decide) (by decide) (by decide) ((up_c (by decide)).trans (up_c (by decide))) ?_
              refine q_iconst rfl ?_
              refine v_iadd (v := c 42 1 + 1) rfl (by omega) ?_
              refine v_nrm (fun y_33 hy_33 => ?_)
              refine v_is rfl rfl (by decide) (by decide) (by decide) ?_
              refine q_aload_n rfl rfl ?_
              refine v_gi (z := 0) (v := 1) rfl rfl rfl (by decide) rfl rfl ((up_c (by decide)).trans (up_e rfl)) ?_
              refine v_if_ne_t (t := 37) rfl (by decide) (by decide) ?_
              refine q_iconst rfl ?_
              refine v_zret rfl rfl (by omega) ?_
              refine bk_inl ?_
              refine v_if_ne_f (t := 39) rfl (by decide) (by decide) ?_
              refine q_iconst rfl ?_
              refine q_iret rfl rfl ?_
              have hI_34 := iw_41_0 (v := 0) hI ⟨by decide, by decide⟩
              have hI_35 := iw_41_0 (v := 1) hI_34 ⟨by decide, by decide⟩
              have hI_36 := iw_42 (j := 1) (v := y_33) hI_35 ⟨by omega, by omega⟩
              exact K (up (up (up c 41 0 0) 41 0 1) 42 1 y_33) 0 hI_36 (fun a j hm => (up_b (by omega)).trans ((up_b (by omega)).trans (up_b (by omega)))) ⟨by decide, by decide⟩
            · refine v_ic_gt_f (t := 14) rfl (by decide) (by omega) ?_
              refine q_iconst rfl ?_
              refine q_goto (t := 15) rfl (by decide) ?_
              refine v_zret rfl rfl (by omega) ?_
              refine bk_inl ?_
              refine v_if_eq_f (t := 28) rfl (by decide) (by decide) ?_
              refine q_iconst rfl ?_
              refine q_goto (t := 29) rfl (by decide) ?_
              refine q_iconst rfl ?_
              refine q_iconst rfl ?_
              refine v_cv rfl rfl rfl rfl (by decide) ⟨⟨rfl, rfl⟩, by decide, rfl⟩ (Nat.le_of_ble_eq_true rfl) (Nat.le_of_ble_eq_true rfl) ?_
              refine q_iload_n rfl rfl ?_
              refine v_if_ne_t (t := 26) rfl (by decide) (by decide) ?_
              refine q_aload_n rfl rfl ?_
              refine v_gi (z := 0) (v := 0) rfl rfl rfl (by decide) rfl rfl (up_e rfl) ?_
              refine v_if_ne_f (t := 37) rfl (by decide) (by decide) ?_
              refine q_iconst rfl ?_
              refine q_goto (t := 38) rfl (by decide) ?_
              refine v_zret rfl rfl (by omega) ?_
              refine bk_inl ?_
              refine v_if_ne_t (t := 39) rfl (by decide) (by decide) ?_
              refine q_aload_n rfl rfl ?_
              refine q_iload_n rfl rfl ?_
              refine q_iload_n rfl rfl ?_
              refine q_iload_n rfl rfl ?_
              have hI_37 := iw_41_0 (v := 0) hI ⟨by decide, by decide⟩
              refine v_cv rfl rfl rfl rfl (by decide) ⟨⟨rfl, rfl⟩, by decide, rfl⟩ (Nat.le_of_ble_eq_true rfl) (Nat.le_of_ble_eq_true rfl) (s_253 (a1 := a1) (a2 := a2) (a3 := a3) hI_37 (show (-2147483648) ≤ a1 ∧ a1 ≤ 2147483647 from by omega) (show 0 ≤ a2 ∧ a2 ≤ 16 from by omega) (show 1 ≤ a3 ∧ a3 ≤ 48 from by omega) (fun c_38 hI_39 hF_40 => ?_))
              refine bk_inl ?_
              refine q_iload rfl rfl ?_
              by_cases h_41 : a4 ≠ 0
              · refine v_if_ne_t (t := 69) rfl (by decide) (by omega) ?_
                refine q_iload rfl rfl ?_
                refine q_iconst rfl ?_
                by_cases h_42 : a4 ≠ 1
                · refine v_ic_ne_t (t := 82) rfl (by decide) (by omega) ?_
                  refine q_iload rfl rfl ?_
                  refine q_iconst rfl ?_
                  by_cases h_43 : a4 ≠ 2
                  · refine v_ic_ne_t (t := 106) rfl (by decide) (by omega) ?_
                    refine q_aload_n rfl rfl ?_
                    refine v_cv rfl rfl rfl rfl (by decide) ⟨⟨rfl, rfl⟩, by decide, rfl⟩ (Nat.le_of_ble_eq_true rfl) (Nat.le_of_ble_eq_true rfl) (s_209 hI_39 (fun y_44 hy_44 => ?_))
                    refine bk_inl ?_
                    refine q_iret rfl rfl ?_
                    exact K c_38 y_44 hI_39 (fun a j hm => (hF_40 a j (by omega)).trans (up_b (by omega))) ⟨by omega, by omega⟩
                  · refine v_ic_ne_f (t := 106) rfl (by decide) (by omega) ?_
                    refine q_aload_n rfl rfl ?_
                    refine v_gr (t := 59) rfl rfl rfl (by decide) rfl ?_
                    refine v_bip rfl (by decide) ?_
                    have h_45 := ir_59 hI_39 35
                    refine v_ia (v := c_38 59 35) rfl rfl (by decide) (by decide) (by decide) rfl ?_
                    refine q_aload_n rfl rfl ?_
                    refine v_gr (t := 58) rfl rfl rfl (by decide) rfl ?_
                    refine v_bip rfl (by decide) ?_
                    have h_46 := ir_58 hI 35
                    refine v_ia (v := c 58 35) rfl rfl (by decide) (by decide) (by decide) ((hF_40 58 35 (by omega)).trans (up_c (by decide))) ?_
                    refine v_isub (v := c_38 59 35 - c 58 35) rfl (by omega) ?_
                    refine v_nrm (fun y_47 hy_47 => ?_)
                    refine q_goto (t := 110) rfl (by decide) ?_
                    refine q_iret rfl rfl ?_
                    exact K c_38 y_47 hI_39 (fun a j hm => (hF_40 a j (by omega)).trans (up_b (by omega))) ⟨by omega, by omega⟩
                · refine v_ic_ne_f (t := 82) rfl (by decide) (by omega) ?_
                  refine q_aload_n rfl rfl ?_
                  refine v_cv rfl rfl rfl rfl (by decide) ⟨⟨rfl, rfl⟩, by decide, rfl⟩ (Nat.le_of_ble_eq_true rfl) (Nat.le_of_ble_eq_true rfl) (s_203 hI_39 (fun y_48 hy_48 => ?_))
                  refine bk_inl ?_
                  refine q_goto (t := 110) rfl (by decide) ?_
                  refine q_iret rfl rfl ?_
                  exact K c_38 y_48 hI_39 (fun a j hm => (hF_40 a j (by omega)).trans (up_b (by omega))) ⟨by omega, by omega⟩
              · refine v_if_ne_f (t := 69) rfl (by decide) (by omega) ?_
                refine q_aload_n rfl rfl ?_
                refine v_gr (t := 59) rfl rfl rfl (by decide) rfl ?_
                refine v_bip rfl (by decide) ?_
                have h_49 := ir_59 hI_39 36
                refine v_ia (v := c_38 59 36) rfl rfl (by decide) (by decide) (by decide) rfl ?_
                refine q_aload_n rfl rfl ?_
                refine v_gr (t := 58) rfl rfl rfl (by decide) rfl ?_
                refine v_bip rfl (by decide) ?_
                have h_50 := ir_58 hI 36
                refine v_ia (v := c 58 36) rfl rfl (by decide) (by decide) (by decide) ((hF_40 58 36 (by omega)).trans (up_c (by decide))) ?_
                refine v_isub (v := c_38 59 36 - c 58 36) rfl (by omega) ?_
                refine v_nrm (fun y_51 hy_51 => ?_)
                refine q_goto (t := 110) rfl (by decide) ?_
                refine q_iret rfl rfl ?_
                exact K c_38 y_51 hI_39 (fun a j hm => (hF_40 a j (by omega)).trans (up_b (by omega))) ⟨by omega, by omega⟩

set_option maxRecDepth 100000 in
set_option maxHeartbeats 4000000 in
theorem s_256_l {sc : List Int32} {d P Q : Nat} {c : ME} {a1 : Int} {a2 : Int} {a3 : Int} {a4 : Int} {a5 : Int} {a6 : Int} {Z : AR → Prop} (hI : Iv 0 (-1) P Q c) (ha1 : (-2147483648) ≤ a1 ∧ a1 ≤ 2147483647) (ha2 : (-2147483648) ≤ a2 ∧ a2 ≤ 2147483647) (ha3 : (-2147483648) ≤ a3 ∧ a3 ≤ 2147483647) (ha4 : (-2147483648) ≤ a4 ∧ a4 ≤ 2147483647) (ha5 : (-2147483648) ≤ a5 ∧ a5 ≤ 2147483647) (ha6 : (-2147483648) ≤ a6 ∧ a6 ≤ 2147483647) (K : ∀ (c2 : ME) (y : Int), Iv 0 (-1) P Q c2 → (∀ (a : Nat) (j : Int), ¬ ((a = 41 ∧ j = 0) ∨ a = 42 ∨ (a = 41 ∧ j = 50) ∨ a = 59 ∨ a = 54 ∨ a = 55) → c2 a j = c a j) → (-2147483648) ≤ y ∧ y ≤ 2147483647 → Z (.inl (some (vi y)), Wd P Q P P c2, 0, 0)) : ∀ n : Nat, (∀ (c2 : ME) (v7 : Int) (v8 : Int) (v9 : Int) (v10 : Int), Iv 0 (-1) P Q c2 → (∀ (a : Nat) (j : Int), ¬ ((a = 41 ∧ j = 0) ∨ a = 42 ∨ (a = 41 ∧ j = 50) ∨ a = 59 ∨ a = 54 ∨ a = 55) → c2 a j = c a j) → (-2147483648) ≤ v7 ∧ v7 ≤ 2147483647 → 0 ≤ v8 ∧ v8 ≤ 2147483647 → (-2147483648) ≤ v9 ∧ v9 ≤ 2147483647 → 0 ≤ v10 ∧ v10 ≤ 10 → ((a2 ≥ 1 ∧ a2 ≤ 10)) → ((a6 ≥ 0 ∧ a6 ≤ 5)) → ((a3 ≥ 0 ∧ a3 ≤ 16)) → ((a4 ≥ 1 ∧ a4 ≤ 48)) → 21 - 2 * v10 < (n : Int) → Wp sc (d + 15) 256 77 [(0, .ref 41), (1, vi a1), (2, vi a2), (3, vi a3), (4, vi a4), (5, vi a5), (6, vi a6), (7, vi v7), (8, vi v8), (9, vi v9), (10, vi v10)] [] (Wd P Q P P c2) 0 0 Z)
  | 0 => by intro c2 v7 v8 v9 v10 hI2 hF hv7 hv8 hv9 hv10 hx0 hx1 hx2 hx3 hm9; have hP := iv_P hI; have hQ := iv_Q hI; exfalso; omega
  | n + 1 => by
    have hP := iv_P hI
    have hQ := iv_Q hI
    have ih := s_256_l (sc := sc) (d := d) hI ha1 ha2 ha3 ha4 ha5 ha6 K n
    intro c2 v7 v8 v9 v10 hI2 hF hv7 hv8 hv9 hv10 hx0 hx1 hx2 hx3 hm9
    refine q_iload rfl rfl ?_
    refine q_iload_n rfl rfl ?_
    by_cases h_1 : v10 ≥ a2
    · refine v_ic_ge_t (t := 174) rfl (by decide) (by omega) ?_
      refine q_iload rfl rfl ?_
      by_cases h_2 : a5 ≠ 0
      · refine v_if_ne_t (t := 184) rfl (by decide) (by omega) ?_
        refine q_iload rfl rfl ?_
        refine q_iconst rfl ?_
        by_cases h_3 : a5 ≠ 1
        · refine v_ic_ne_t (t := 195) rfl (by decide) (by omega) ?_
          refine q_iload rfl rfl ?_
          refine q_iret rfl rfl ?_
          exact K c2 v9 hI2 (fun a j hm => hF a j (by omega)) ⟨by omega, by omega⟩
        · refine v_ic_ne_f (t := 195) rfl (by decide) (by omega) ?_
          refine q_iload rfl rfl ?_
          refine q_goto (t := 197) rfl (by decide) ?_
          refine q_iret rfl rfl ?_
          exact K c2 v8 hI2 (fun a j hm => hF a j (by omega)) ⟨by omega, by omega⟩
      · refine v_if_ne_f (t := 184) rfl (by decide) (by omega) ?_
        refine q_iload rfl rfl ?_
        refine q_goto (t := 197) rfl (by decide) ?_
        refine q_iret rfl rfl ?_
        exact K c2 v7 hI2 (fun a j hm => hF a j (by omega)) ⟨by omega, by omega⟩
    · refine v_ic_ge_f (t := 174) rfl (by decide) (by omega) ?_
      refine q_aload_n rfl rfl ?_
      refine q_iload_n rfl rfl ?_
      refine q_iload rfl rfl ?_
      refine v_iadd (v := a1 + v10) rfl (by omega) ?_
      refine v_nrm (fun y_4 hy_4 => ?_)
      refine q_iload_n rfl rfl ?_
      refine q_iload rfl rfl ?_
      refine v_cv rfl rfl rfl rfl (by decide) ⟨⟨rfl, rfl⟩, by decide, rfl⟩ (Nat.le_of_ble_eq_true rfl) (Nat.le_of_ble_eq_true rfl) (s_253 (a1 := y_4) (a2 := a3) (a3 := a4) hI2 (show (-2147483648) ≤ y_4 ∧ y_4 ≤ 2147483647 from by omega) (show 0 ≤ a3 ∧ a3 ≤ 16 from by omega) (show 1 ≤ a4 ∧ a4 ≤ 48 from by omega) (fun c_5 hI_6 hF_7 => ?_))
      refine bk_inl ?_
      refine q_aload_n rfl rfl ?_
      refine v_gr (t := 59) rfl rfl rfl (by decide) rfl ?_
      refine v_bip rfl (by decide) ?_
      have h_8 := ir_59 hI_6 36
      refine v_ia (v := c_5 59 36) rfl rfl (by decide) (by decide) (by decide) rfl ?_
      refine q_aload_n rfl rfl ?_
      refine v_gr (t := 58) rfl rfl rfl (by decide) rfl ?_
      refine v_bip rfl (by decide) ?_
      have h_9 := ir_58 hI 36
      refine v_ia (v := c 58 36) rfl rfl (by decide) (by decide) (by decide) ((hF_7 58 36 (by omega)).trans (hF 58 36 (by omega))) ?_
      refine v_isub (v := c_5 59 36 - c 58 36) rfl (by omega) ?_
      refine v_nrm (fun y_10 hy_10 => ?_)
      refine q_istore rfl (by decide) ?_
      refine q_iload rfl rfl ?_
      refine q_iconst rfl ?_
      by_cases h_11 : v7 = (-1)
      · refine v_ic_eq_t (t := 124) rfl (by decide) (by omega) ?_
        refine q_iload rfl rfl ?_
        refine q_goto (t := 131) rfl (by decide) ?_
        refine q_istore rfl (by decide) ?_
        refine q_iload rfl rfl ?_
        refine q_iload rfl rfl ?_
        by_cases h_12 : y_10 ≤ v8
        · refine v_ic_le_t (t := 145) rfl (by decide) (by omega) ?_
          refine q_iload rfl rfl ?_
          refine q_istore rfl (by decide) ?_
          refine q_iload rfl rfl ?_
          refine q_aload_n rfl rfl ?_
          refine q_iload rfl rfl ?_
          have h_13 := ir_59_g hI_6 (j := 4 * a6) (by omega)
          have h_14 := ir_59_g hI_6 (j := 4 * a6 + 1) (by omega)
          have h_15 := ir_59_g hI_6 (j := 4 * a6 + 2) (by omega)
          have h_16 := ir_59_g hI_6 (j := 4 * a6 + 3) (by omega)
          refine v_cv rfl rfl rfl rfl (by decide) ⟨⟨rfl, rfl⟩, by decide, rfl⟩ (Nat.le_of_ble_eq_true rfl) (Nat.le_of_ble_eq_true rfl) (s_187 (v1 := c_5 59 (4 * a6)) (v2 := c_5 59 (4 * a6 + 1)) (v3 := c_5 59 (4 * a6 + 2)) (v4 := c_5 59 (4 * a6 + 3)) (r := c_5 59 (4 * a6 + 1) + c_5 59 (4 * a6 + 2) + c_5 59 (4 * a6 + 3) + c_5 59 (4 * a6)) (a1 := a6) hI_6 (show 0 ≤ a6 ∧ a6 ≤ 5 from by omega) (rfl) (rfl) (rfl) (rfl) (by omega) ?_)
          refine bk_inl ?_
          by_cases h_17 : c_5 59 (4 * a6 + 1) + c_5 59 (4 * a6 + 2) + c_5 59 (4 * a6 + 3) + c_5 59 (4 * a6) ≠ 0
          · refine v_if_ne_t (t := 164) rfl (by decide) (by omega) ?_
            refine q_iconst rfl ?_
            refine v_iadd (v := v9) rfl (by omega) ?_
            refine q_istore rfl (by decide) ?_
            refine v_iinc (v := v10 + 1) rfl rfl (by decide) (by omega) ?_
            refine Wp_ls [(10, vi (v10 + 1)), (9, vi v9), (8, vi v8), (7, vi y_10), (11, vi y_10), (0, .ref 41), (1, vi a1), (2, vi a2), (3, vi a3), (4, vi a4), (5, vi a5), (6, vi a6)] (lsub_cons rfl (lsub_cons rfl (lsub_cons rfl (lsub_cons rfl (lsub_cons rfl (lsub_cons rfl (lsub_cons rfl (lsub_cons rfl (lsub_cons rfl (lsub_cons rfl (lsub_cons rfl (lsub_cons rfl lsub_nil)))))))))))) ?_
            refine q_goto (t := 77) rfl (by decide) ?_
            refine Wp_ls [(0, .ref 41), (1, vi a1), (2, vi a2), (3, vi a3), (4, vi a4), (5, vi a5), (6, vi a6), (7, vi y_10), (8, vi v8), (9, vi v9), (10, vi (v10 + 1))] (lsub_cons rfl (lsub_cons rfl (lsub_cons rfl (lsub_cons rfl (lsub_cons rfl (lsub_cons rfl (lsub_cons rfl (lsub_cons rfl (lsub_cons rfl (lsub_cons rfl (lsub_cons rfl lsub_nil))))))))))) ?_
            exact ih c_5 y_10 v8 v9 (v10 + 1) hI_6 (fun a j hm => (hF_7 a j (by omega)).trans (hF a j (by omega))) ⟨by omega, by omega⟩ ⟨by omega, by omega⟩ ⟨by omega, by omega⟩ ⟨by omega, by omega⟩ (by omega) (by omega) (by omega) (by omega) (by omega)
          · refine v_if_ne_f (t := 164) rfl (by decide) (by omega) ?_
            refine q_iconst rfl ?_
            refine q_goto (t := 165) rfl (by decide) ?_
            refine v_iadd (v := v9 + 1) rfl (by omega) ?_
            refine v_nrm (fun y_18 hy_18 => ?_)
            refine q_istore rfl (by decide) ?_
            refine v_iinc (v := v10 + 1) rfl rfl (by decide) (by omega) ?_
            refine Wp_ls [(10, vi (v10 + 1)), (9, vi y_18), (8, vi v8), (7, vi y_10), (11, vi y_10), (0, .ref 41), (1, vi a1), (2, vi a2), (3, vi a3), (4, vi a4), (5, vi a5), (6, vi a6)] (lsub_cons rfl (lsub_cons rfl (lsub_cons rfl (lsub_cons rfl (lsub_cons rfl (lsub_cons rfl (lsub_cons rfl (lsub_cons rfl (lsub_cons rfl (lsub_cons rfl (lsub_cons rfl (lsub_cons rfl lsub_nil)))))))))))) ?_
            refine q_goto (t := 77) rfl (by decide) ?_
            refine Wp_ls [(0, .ref 41), (1, vi a1), (2, vi a2), (3, vi a3), (4, vi a4), (5, vi a5), (6, vi a6), (7, vi y_10), (8, vi v8), (9, vi y_18), (10, vi (v10 + 1))] (lsub_cons rfl (lsub_cons rfl (lsub_cons rfl (lsub_cons rfl (lsub_cons rfl (lsub_cons rfl (lsub_cons rfl (lsub_cons rfl (lsub_cons rfl (lsub_cons rfl (lsub_cons rfl lsub_nil))))))))))) ?_
            exact ih c_5 y_10 v8 y_18 (v10 + 1) hI_6 (fun a j hm => (hF_7 a j (by omega)).trans (hF a j (by omega))) ⟨by omega, by omega⟩ ⟨by omega, by omega⟩ ⟨by omega, by omega⟩ ⟨by omega, by omega⟩ (by omega) (by omega) (by omega) (by omega) (by omega)
        · refine v_ic_le_f (t := 145) rfl (by decide) (by omega) ?_
          refine q_iload rfl rfl ?_
          refine q_goto (t := 147) rfl (by decide) ?_
          refine q_istore rfl (by decide) ?_
          refine q_iload rfl rfl ?_
          refine q_aload_n rfl rfl ?_
          refine q_iload rfl rfl ?_
          have h_19 := ir_59_g hI_6 (j := 4 * a6) (by omega)
          have h_20 := ir_59_g hI_6 (j := 4 * a6 + 1) (by omega)
          have h_21 := ir_59_g hI_6 (j := 4 * a6 + 2) (by omega)
          have h_22 := ir_59_g hI_6 (j := 4 * a6 + 3) (by omega)
          refine v_cv rfl rfl rfl rfl (by decide) ⟨⟨rfl, rfl⟩, by decide, rfl⟩ (Nat.le_of_ble_eq_true rfl) (Nat.le_of_ble_eq_true rfl) (s_187 (v1 := c_5 59 (4 * a6)) (v2 := c_5 59 (4 * a6 + 1)) (v3 := c_5 59 (4 * a6 + 2)) (v4 := c_5 59 (4 * a6 + 3)) (r := c_5 59 (4 * a6 + 1) + c_5 59 (4 * a6 + 2) + c_5 59 (4 * a6 + 3) + c_5 59 (4 * a6)) (a1 := a6) hI_6 (show 0 ≤ a6 ∧ a6 ≤ 5 from by omega) (rfl) (rfl) (rfl) (rfl) (by omega) ?_)
          refine bk_inl ?_
          by_cases h_23 : c_5 59 (4 * a6 + 1) + c_5 59 (4 * a6 + 2) + c_5 59 (4 * a6 + 3) + c_5 59 (4 * a6) ≠ 0
          · refine v_if_ne_t (t := 164) rfl (by decide) (by omega) ?_
            refine q_iconst rfl ?_
            refine v_iadd (v := v9) rfl (by omega) ?_
            refine q_istore rfl (by decide) ?_
            refine v_iinc (v := v10 + 1) rfl rfl (by decide) (by omega) ?_
            refine Wp_ls [(10, vi (v10 + 1)), (9, vi v9), (8, vi y_10), (7, vi y_10), (11, vi y_10), (0, .ref 41), (1, vi a1), (2, vi a2), (3, vi a3), (4, vi a4), (5, vi a5), (6, vi a6)] (lsub_cons rfl (lsub_cons rfl (lsub_cons rfl (lsub_cons rfl (lsub_cons rfl (lsub_cons rfl (lsub_cons rfl (lsub_cons rfl (lsub_cons rfl (lsub_cons rfl (lsub_cons rfl (lsub_cons rfl lsub_nil)))))))))))) ?_
            refine q_goto (t := 77) rfl (by decide) ?_
            refine Wp_ls [(0, .ref 41), (1, vi a1), (2, vi a2), (3, vi a3), (4, vi a4), (5, vi a5), (6, vi a6), (7, vi y_10), (8, vi y_10), (9, vi v9), (10, vi (v10 + 1))] (lsub_cons rfl (lsub_cons rfl (lsub_cons rfl (lsub_cons rfl (lsub_cons rfl (lsub_cons rfl (lsub_cons rfl (lsub_cons rfl (lsub_cons rfl (lsub_cons rfl (lsub_cons rfl lsub_nil))))))))))) ?_
            exact ih c_5 y_10 y_10 v9 (v10 + 1) hI_6 (fun a j hm => (hF_7 a j (by omega)).trans (hF a j (by omega))) ⟨by omega, by omega⟩ ⟨by omega, by omega⟩ ⟨by omega, by omega⟩ ⟨by omega, by omega⟩ (by omega) (by omega) (by omega) (by omega) (by omega)
          · refine v_if_ne_f (t := 164) rfl (by decide) (by omega) ?_
            refine q_iconst rfl ?_
            refine q_goto (t := 165) rfl (by decide) ?_
            refine v_iadd (v := v9 + 1) rfl (by omega) ?_
            refine v_nrm (fun y_24 hy_24 => ?_)
            refine q_istore rfl (by decide) ?_
            refine v_iinc (v := v10 + 1) rfl rfl (by decide) (by omega) ?_
            refine Wp_ls [(10, vi (v10 + 1)), (9, vi y_24), (8, vi y_10), (7, vi y_10), (11, vi y_10), (0, .ref 41), (1, vi a1), (2, vi a2), (3, vi a3), (4, vi a4), (5, vi a5), (6, vi a6)] (lsub_cons rfl (lsub_cons rfl (lsub_cons rfl (lsub_cons rfl (lsub_cons rfl (lsub_cons rfl (lsub_cons rfl (lsub_cons rfl (lsub_cons rfl (lsub_cons rfl (lsub_cons rfl (lsub_cons rfl lsub_nil)))))))))))) ?_
            refine q_goto (t := 77) rfl (by decide) ?_
            refine Wp_ls [(0, .ref 41), (1, vi a1), (2, vi a2), (3, vi a3), (4, vi a4), (5, vi a5), (6, vi a6), (7, vi y_10), (8, vi y_10), (9, vi y_24), (10, vi (v10 + 1))] (lsub_cons rfl (lsub_cons rfl (lsub_cons rfl (lsub_cons rfl (lsub_cons rfl (lsub_cons rfl (lsub_cons rfl (lsub_cons rfl (lsub_cons rfl (lsub_cons rfl (lsub_cons rfl lsub_nil))))))))))) ?_
            exact ih c_5 y_10 y_10 y_24 (v10 + 1) hI_6 (fun a j hm => (hF_7 a j (by omega)).trans (hF a j (by omega))) ⟨by omega, by omega⟩ ⟨by omega, by omega⟩ ⟨by omega, by omega⟩ ⟨by omega, by omega⟩ (by omega) (by omega) (by omega) (by omega) (by omega)
      · refine v_ic_eq_f (t := 124) rfl (by decide) (by omega) ?_
        refine q_iload rfl rfl ?_
        refine q_iload rfl rfl ?_
        by_cases h_25 : y_10 ≥ v7
        · refine v_ic_ge_t (t := 129) rfl (by decide) (by omega) ?_
          refine q_iload rfl rfl ?_
          refine q_istore rfl (by decide) ?_
          refine q_iload rfl rfl ?_
          refine q_iload rfl rfl ?_
          by_cases h_26 : y_10 ≤ v8
          · refine v_ic_le_t (t := 145) rfl (by decide) (by omega) ?_
            refine q_iload rfl rfl ?_
            refine q_istore rfl (by decide) ?_
            refine q_iload rfl rfl ?_
            refine q_aload_n rfl rfl ?_
            refine q_iload rfl rfl ?_
            have h_27 := ir_59_g hI_6 (j := 4 * a6) (by omega)
            have h_28 := ir_59_g hI_6 (j := 4 * a6 + 1) (by omega)
            have h_29 := ir_59_g hI_6 (j := 4 * a6 + 2) (by omega)
            have h_30 := ir_59_g hI_6 (j := 4 * a6 + 3) (by omega)
            refine v_cv rfl rfl rfl rfl (by decide) ⟨⟨rfl, rfl⟩, by decide, rfl⟩ (Nat.le_of_ble_eq_true rfl) (Nat.le_of_ble_eq_true rfl) (s_187 (v1 := c_5 59 (4 * a6)) (v2 := c_5 59 (4 * a6 + 1)) (v3 := c_5 59 (4 * a6 + 2)) (v4 := c_5 59 (4 * a6 + 3)) (r := c_5 59 (4 * a6 + 1) + c_5 59 (4 * a6 + 2) + c_5 59 (4 * a6 + 3) + c_5 59 (4 * a6)) (a1 := a6) hI_6 (show 0 ≤ a6 ∧ a6 ≤ 5 from by omega) (rfl) (rfl) (rfl) (rfl) (by omega) ?_)
            refine bk_inl ?_
            by_cases h_31 : c_5 59 (4 * a6 + 1) + c_5 59 (4 * a6 + 2) + c_5 59 (4 * a6 + 3) + c_5 59 (4 * a6) ≠ 0
            · refine v_if_ne_t (t := 164) rfl (by decide) (by omega) ?_
              refine q_iconst rfl ?_
              refine v_iadd (v := v9) rfl (by omega) ?_
              refine q_istore rfl (by decide) ?_
              refine v_iinc (v := v10 + 1) rfl rfl (by decide) (by omega) ?_
              refine Wp_ls [(10, vi (v10 + 1)), (9, vi v9), (8, vi v8), (7, vi v7), (11, vi y_10), (0, .ref 41), (1, vi a1), (2, vi a2), (3, vi a3), (4, vi a4), (5, vi a5), (6, vi a6)] (lsub_cons rfl (lsub_cons rfl (lsub_cons rfl (lsub_cons rfl (lsub_cons rfl (lsub_cons rfl (lsub_cons rfl (lsub_cons rfl (lsub_cons rfl (lsub_cons rfl (lsub_cons rfl (lsub_cons rfl lsub_nil)))))))))))) ?_
              refine q_goto (t := 77) rfl (by decide) ?_
              refine Wp_ls [(0, .ref 41), (1, vi a1), (2, vi a2), (3, vi a3), (4, vi a4), (5, vi a5), (6, vi a6), (7, vi v7), (8, vi v8), (9, vi v9), (10, vi (v10 + 1))] (lsub_cons rfl (lsub_cons rfl (lsub_cons rfl (lsub_cons rfl (lsub_cons rfl (lsub_cons rfl (lsub_cons rfl (lsub_cons rfl (lsub_cons rfl (lsub_cons rfl (lsub_cons rfl lsub_nil))))))))))) ?_
              exact ih c_5 v7 v8 v9 (v10 + 1) hI_6 (fun a j hm => (hF_7 a j (by omega)).trans (hF a j (by omega))) ⟨by omega, by omega⟩ ⟨by omega, by omega⟩ ⟨by omega, by omega⟩ ⟨by omega, by omega⟩ (by omega) (by omega) (by omega) (by omega) (by omega)
            · refine v_if_ne_f (t := 164) rfl (by decide) (by omega) ?_
              refine q_iconst rfl ?_
              refine q_goto (t := 165) rfl (by decide) ?_
              refine v_iadd (v := v9 + 1) rfl (by omega) ?_
              refine v_nrm (fun y_32 hy_32 => ?_)
              refine q_istore rfl (by decide) ?_
              refine v_iinc (v := v10 + 1) rfl rfl (by decide) (by omega) ?_
              refine Wp_ls [(10, vi (v10 + 1)), (9, vi y_32), (8, vi v8), (7, vi v7), (11, vi y_10), (0, .ref 41), (1, vi a1), (2, vi a2), (3, vi a3), (4, vi a4), (5, vi a5), (6, vi a6)] (lsub_cons rfl (lsub_cons rfl (lsub_cons rfl (lsub_cons rfl (lsub_cons rfl (lsub_cons rfl (lsub_cons rfl (lsub_cons rfl (lsub_cons rfl (lsub_cons rfl (lsub_cons rfl (lsub_cons rfl lsub_nil)))))))))))) ?_
              refine q_goto (t := 77) rfl (by decide) ?_
              refine Wp_ls [(0, .ref 41), (1, vi a1), (2, vi a2), (3, vi a3), (4, vi a4), (5, vi a5), (6, vi a6), (7, vi v7), (8, vi v8), (9, vi y_32), (10, vi (v10 + 1))] (lsub_cons rfl (lsub_cons rfl (lsub_cons rfl (lsub_cons rfl (lsub_cons rfl (lsub_cons rfl (lsub_cons rfl (lsub_cons rfl (lsub_cons rfl (lsub_cons rfl (lsub_cons rfl lsub_nil))))))))))) ?_
              exact ih c_5 v7 v8 y_32 (v10 + 1) hI_6 (fun a j hm => (hF_7 a j (by omega)).trans (hF a j (by omega))) ⟨by omega, by omega⟩ ⟨by omega, by omega⟩ ⟨by omega, by omega⟩ ⟨by omega, by omega⟩ (by omega) (by omega) (by omega) (by omega) (by omega)
          · refine v_ic_le_f (t := 145) rfl (by decide) (by omega) ?_
            refine q_iload rfl rfl ?_
            refine q_goto (t := 147) rfl (by decide) ?_
            refine q_istore rfl (by decide) ?_
            refine q_iload rfl rfl ?_
            refine q_aload_n rfl rfl ?_
            refine q_iload rfl rfl ?_
            have h_33 := ir_59_g hI_6 (j := 4 * a6) (by omega)
            have h_34 := ir_59_g hI_6 (j := 4 * a6 + 1) (by omega)
            have h_35 := ir_59_g hI_6 (j := 4 * a6 + 2) (by omega)
            have h_36 := ir_59_g hI_6 (j := 4 * a6 + 3) (by omega)
            refine v_cv rfl rfl rfl rfl (by decide) ⟨⟨rfl, rfl⟩, by decide, rfl⟩ (Nat.le_of_ble_eq_true rfl) (Nat.le_of_ble_eq_true rfl) (s_187 (v1 := c_5 59 (4 * a6)) (v2 := c_5 59 (4 * a6 + 1)) (v3 := c_5 59 (4 * a6 + 2)) (v4 := c_5 59 (4 * a6 + 3)) (r := c_5 59 (4 * a6 + 1) + c_5 59 (4 * a6 + 2) + c_5 59 (4 * a6 + 3) + c_5 59 (4 * a6)) (a1 := a6) hI_6 (show 0 ≤ a6 ∧ a6 ≤ 5 from by omega) (rfl) (rfl) (rfl) (rfl) (by omega) ?_)
            refine bk_inl ?_
            by_cases h_37 : c_5 59 (4 * a6 + 1) + c_5 59 (4 * a6 + 2) + c_5 59 (4 * a6 + 3) + c_5 59 (4 * a6) ≠ 0
            · refine v_if_ne_t (t := 164) rfl (by decide) (by omega) ?_
              refine q_iconst rfl ?_
              refine v_iadd (v := v9) rfl (by omega) ?_
              refine q_istore rfl (by decide) ?_
              refine v_iinc (v := v10 + 1) rfl rfl (by decide) (by omega) ?_
              refine Wp_ls [(10, vi (v10 + 1)), (9, vi v9), (8, vi y_10), (7, vi v7), (11, vi y_10), (0, .ref 41), (1, vi a1), (2, vi a2), (3, vi a3), (4, vi a4), (5, vi a5), (6, vi a6)] (lsub_cons rfl (lsub_cons rfl (lsub_cons rfl (lsub_cons rfl (lsub_cons rfl (lsub_cons rfl (lsub_cons rfl (lsub_cons rfl (lsub_cons rfl (lsub_cons rfl (lsub_cons rfl (lsub_cons rfl lsub_nil)))))))))))) ?_
              refine q_goto (t := 77) rfl (by decide) ?_
              refine Wp_ls [(0, .ref 41), (1, vi a1), (2, vi a2), (3, vi a3), (4, vi a4), (5, vi a5), (6, vi a6), (7, vi v7), (8, vi y_10), (9, vi v9), (10, vi (v10 + 1))] (lsub_cons rfl (lsub_cons rfl (lsub_cons rfl (lsub_cons rfl (lsub_cons rfl (lsub_cons rfl (lsub_cons rfl (lsub_cons rfl (lsub_cons rfl (lsub_cons rfl (lsub_cons rfl lsub_nil))))))))))) ?_
              exact ih c_5 v7 y_10 v9 (v10 + 1) hI_6 (fun a j hm => (hF_7 a j (by omega)).trans (hF a j (by omega))) ⟨by omega, by omega⟩ ⟨by omega, by omega⟩ ⟨by omega, by omega⟩ ⟨by omega, by omega⟩ (by omega) (by omega) (by omega) (by omega) (by omega)
            · refine v_if_ne_f (t := 164) rfl (by decide) (by omega) ?_
              refine q_iconst rfl ?_
              refine q_goto (t := 165) rfl (by decide) ?_
              refine v_iadd (v := v9 + 1) rfl (by omega) ?_
              refine v_nrm (fun y_38 hy_38 => ?_)
              refine q_istore rfl (by decide) ?_
              refine v_iinc (v := v10 + 1) rfl rfl (by decide) (by omega) ?_
              refine Wp_ls [(10, vi (v10 + 1)), (9, vi y_38), (8, vi y_10), (7, vi v7), (11, vi y_10), (0, .ref 41), (1, vi a1), (2, vi a2), (3, vi a3), (4, vi a4), (5, vi a5), (6, vi a6)] (lsub_cons rfl (lsub_cons rfl (lsub_cons rfl (lsub_cons rfl (lsub_cons rfl (lsub_cons rfl (lsub_cons rfl (lsub_cons rfl (lsub_cons rfl (lsub_cons rfl (lsub_cons rfl (lsub_cons rfl lsub_nil)))))))))))) ?_
              refine q_goto (t := 77) rfl (by decide) ?_
              refine Wp_ls [(0, .ref 41), (1, vi a1), (2, vi a2), (3, vi a3), (4, vi a4), (5, vi a5), (6, vi a6), (7, vi v7), (8, vi y_10), (9, vi y_38), (10, vi (v10 + 1))] (lsub_cons rfl (lsub_cons rfl (lsub_cons rfl (lsub_cons rfl (lsub_cons rfl (lsub_cons rfl (lsub_cons rfl (lsub_cons rfl (lsub_cons rfl (lsub_cons rfl (lsub_cons rfl lsub_nil))))))))))) ?_
              exact ih c_5 v7 y_10 y_38 (v10 + 1) hI_6 (fun a j hm => (hF_7 a j (by omega)).trans (hF a j (by omega))) ⟨by omega, by omega⟩ ⟨by omega, by omega⟩ ⟨by omega, by omega⟩ ⟨by omega, by omega⟩ (by omega) (by omega) (by omega) (by omega) (by omega)
        · refine v_ic_ge_f (t := 129) rfl (by decide) (by omega) ?_
          refine q_iload rfl rfl ?_
          refine q_goto (t := 131) rfl (by decide) ?_
          refine q_istore rfl (by decide) ?_
          refine q_iload rfl rfl ?_
          refine q_iload rfl rfl ?_
          by_cases h_39 : y_10 ≤ v8
          · refine v_ic_le_t (t := 145) rfl (by decide) (by omega) ?_
            refine q_iload rfl rfl ?_
            refine q_istore rfl (by decide) ?_
            refine q_iload rfl rfl ?_
            refine q_aload_n rfl rfl ?_
            refine q_iload rfl rfl ?_
            have h_40 := ir_59_g hI_6 (j := 4 * a6) (by omega)
            have h_41 := ir_59_g hI_6 (j := 4 * a6 + 1) (by omega)
            have h_42 := ir_59_g hI_6 (j := 4 * a6 + 2) (by omega)
            have h_43 := ir_59_g hI_6 (j := 4 * a6 + 3) (by omega)
            refine v_cv rfl rfl rfl rfl (by decide) ⟨⟨rfl, rfl⟩, by decide, rfl⟩ (Nat.le_of_ble_eq_true rfl) (Nat.le_of_ble_eq_true rfl) (s_187 (v1 := c_5 59 (4 * a6)) (v2 := c_5 59 (4 * a6 + 1)) (v3 := c_5 59 (4 * a6 + 2)) (v4 := c_5 59 (4 * a6 + 3)) (r := c_5 59 (4 * a6 + 1) + c_5 59 (4 * a6 + 2) + c_5 59 (4 * a6 + 3) + c_5 59 (4 * a6)) (a1 := a6) hI_6 (show 0 ≤ a6 ∧ a6 ≤ 5 from by omega) (rfl) (rfl) (rfl) (rfl) (by omega) ?_)
            refine bk_inl ?_
            by_cases h_44 : c_5 59 (4 * a6 + 1) + c_5 59 (4 * a6 + 2) + c_5 59 (4 * a6 + 3) + c_5 59 (4 * a6) ≠ 0
            · refine v_if_ne_t (t := 164) rfl (by decide) (by omega) ?_
              refine q_iconst rfl ?_
              refine v_iadd (v := v9) rfl (by omega) ?_
              refine q_istore rfl (by decide) ?_
              refine v_iinc (v := v10 + 1) rfl rfl (by decide) (by omega) ?_
              refine Wp_ls [(10, vi (v10 + 1)), (9, vi v9), (8, vi v8), (7, vi y_10), (11, vi y_10), (0, .ref 41), (1, vi a1), (2, vi a2), (3, vi a3), (4, vi a4), (5, vi a5), (6, vi a6)] (lsub_cons rfl (lsub_cons rfl (lsub_cons rfl (lsub_cons rfl (lsub_cons rfl (lsub_cons rfl (lsub_cons rfl (lsub_cons rfl (lsub_cons rfl (lsub_cons rfl (lsub_cons rfl (lsub_cons rfl lsub_nil)))))))))))) ?_
              refine q_goto (t := 77) rfl (by decide) ?_
              refine Wp_ls [(0, .ref 41), (1, vi a1), (2, vi a2), (3, vi a3), (4, vi a4), (5, vi a5), (6, vi a6), (7, vi y_10), (8, vi v8), (9, vi v9), (10, vi (v10 + 1))] (lsub_cons rfl (lsub_cons rfl (lsub_cons rfl (lsub_cons rfl (lsub_cons rfl (lsub_cons rfl (lsub_cons rfl (lsub_cons rfl (lsub_cons rfl (lsub_cons rfl (lsub_cons rfl lsub_nil))))))))))) ?_
              exact ih c_5 y_10 v8 v9 (v10 + 1) hI_6 (fun a j hm => (hF_7 a j (by omega)).trans (hF a j (by omega))) ⟨by omega, by omega⟩ ⟨by omega, by omega⟩ ⟨by omega, by omega⟩ ⟨by omega, by omega⟩ (by omega) (by omega) (by omega) (by omega) (by omega)
            · refine v_if_ne_f (t := 164) rfl (by decide) (by omega) ?_
              refine q_iconst rfl ?_
              refine q_goto (t := 165) rfl (by decide) ?_
              refine v_iadd (v := v9 + 1) rfl (by omega) ?_
              refine v_nrm (fun y_45 hy_45 => ?_)
              refine q_istore rfl (by decide) ?_
              refine v_iinc (v := v10 + 1) rfl rfl (by decide) (by omega) ?_
              refine Wp_ls [(10, vi (v10 + 1)), (9, vi y_45), (8, vi v8), (7, vi y_10), (11, vi y_10), (0, .ref 41), (1, vi a1), (2, vi a2), (3, vi a3), (4, vi a4), (5, vi a5), (6, vi a6)] (lsub_cons rfl (lsub_cons rfl (lsub_cons rfl (lsub_cons rfl (lsub_cons rfl (lsub_cons rfl (lsub_cons rfl (lsub_cons rfl (lsub_cons rfl (lsub_cons rfl (lsub_cons rfl (lsub_cons rfl lsub_nil)))))))))))) ?_
              refine q_goto (t := 77) rfl (by decide) ?_
              refine Wp_ls [(0, .ref 41), (1, vi a1), (2, vi a2), (3, vi a3), (4, vi a4), (5, vi a5), (6, vi a6), (7, vi y_10), (8, vi v8), (9, vi y_45), (10, vi (v10 + 1))] (lsub_cons rfl (lsub_cons rfl (lsub_cons rfl (lsub_cons rfl (lsub_cons rfl (lsub_cons rfl (lsub_cons rfl (lsub_cons rfl (lsub_cons rfl (lsub_cons rfl (lsub_cons rfl lsub_nil))))))))))) ?_
              exact ih c_5 y_10 v8 y_45 (v10 + 1) hI_6 (fun a j hm => (hF_7 a j (by omega)).trans (hF a j (by omega))) ⟨by omega, by omega⟩ ⟨by omega, by omega⟩ ⟨by omega, by omega⟩ ⟨by omega, by omega⟩ (by omega) (by omega) (by omega) (by omega) (by omega)
          · refine v_ic_le_f (t := 145) rfl (by decide) (by omega) ?_
            refine q_iload rfl rfl ?_
            refine q_goto (t := 147) rfl (by decide) ?_
            refine q_istore rfl (by decide) ?_
            refine q_iload rfl rfl ?_
            refine q_aload_n rfl rfl ?_
            refine q_iload rfl rfl ?_
            have h_46 := ir_59_g hI_6 (j := 4 * a6) (by omega)
            have h_47 := ir_59_g hI_6 (j := 4 * a6 + 1) (by omega)
            have h_48 := ir_59_g hI_6 (j := 4 * a6 + 2) (by omega)
            have h_49 := ir_59_g hI_6 (j := 4 * a6 + 3) (by omega)
            refine v_cv rfl rfl rfl rfl (by decide) ⟨⟨rfl, rfl⟩, by decide, rfl⟩ (Nat.le_of_ble_eq_true rfl) (Nat.le_of_ble_eq_true rfl) (s_187 (v1 := c_5 59 (4 * a6)) (v2 := c_5 59 (4 * a6 + 1)) (v3 := c_5 59 (4 * a6 + 2)) (v4 := c_5 59 (4 * a6 + 3)) (r := c_5 59 (4 * a6 + 1) + c_5 59 (4 * a6 + 2) + c_5 59 (4 * a6 + 3) + c_5 59 (4 * a6)) (a1 := a6) hI_6 (show 0 ≤ a6 ∧ a6 ≤ 5 from by omega) (rfl) (rfl) (rfl) (rfl) (by omega) ?_)
            refine bk_inl ?_
            by_cases h_50 : c_5 59 (4 * a6 + 1) + c_5 59 (4 * a6 + 2) + c_5 59 (4 * a6 + 3) + c_5 59 (4 * a6) ≠ 0
            · refine v_if_ne_t (t := 164) rfl (by decide) (by omega) ?_
              refine q_iconst rfl ?_
              refine v_iadd (v := v9) rfl (by omega) ?_
              refine q_istore rfl (by decide) ?_
              refine v_iinc (v := v10 + 1) rfl rfl (by decide) (by omega) ?_
              refine Wp_ls [(10, vi (v10 + 1)), (9, vi v9), (8, vi y_10), (7, vi y_10), (11, vi y_10), (0, .ref 41), (1, vi a1), (2, vi a2), (3, vi a3), (4, vi a4), (5, vi a5), (6, vi a6)] (lsub_cons rfl (lsub_cons rfl (lsub_cons rfl (lsub_cons rfl (lsub_cons rfl (lsub_cons rfl (lsub_cons rfl (lsub_cons rfl (lsub_cons rfl (lsub_cons rfl (lsub_cons rfl (lsub_cons rfl lsub_nil)))))))))))) ?_
              refine q_goto (t := 77) rfl (by decide) ?_
              refine Wp_ls [(0, .ref 41), (1, vi a1), (2, vi a2), (3, vi a3), (4, vi a4), (5, vi a5), (6, vi a6), (7, vi y_10), (8, vi y_10), (9, vi v9), (10, vi (v10 + 1))] (lsub_cons rfl (lsub_cons rfl (lsub_cons rfl (lsub_cons rfl (lsub_cons rfl (lsub_cons rfl (lsub_cons rfl (lsub_cons rfl (lsub_cons rfl (lsub_cons rfl (lsub_cons rfl lsub_nil))))))))))) ?_
              exact ih c_5 y_10 y_10 v9 (v10 + 1) hI_6 (fun a j hm => (hF_7 a j (by omega)).trans (hF a j (by omega))) ⟨by omega, by omega⟩ ⟨by omega, by omega⟩ ⟨by omega, by omega⟩ ⟨by omega, by omega⟩ (by omega) (by omega) (by omega) (by omega) (by omega)
            · refine v_if_ne_f (t := 164) rfl (by decide) (by omega) ?_
              refine q_iconst rfl ?_
              refine q_goto (t := 165) rfl (by decide) ?_
              refine v_iadd (v := v9 + 1) rfl (by omega) ?_
              refine v_nrm (fun y_51 hy_51 => ?_)
              refine q_istore rfl (by decide) ?_
              refine v_iinc (v := v10 + 1) rfl rfl (by decide) (by omega) ?_
              refine Wp_ls [(10, vi (v10 + 1)), (9, vi y_51), (8, vi y_10), (7, vi y_10), (11, vi y_10), (0, .ref 41), (1, vi a1), (2, vi a2), (3, vi a3), (4, vi a4), (5, vi a5), (6, vi a6)] (lsub_cons rfl (lsub_cons rfl (lsub_cons rfl (lsub_cons rfl (lsub_cons rfl (lsub_cons rfl (lsub_cons rfl (lsub_cons rfl (lsub_cons rfl (lsub_cons rfl (lsub_cons rfl (lsub_cons rfl lsub_nil)))))))))))) ?_
              refine q_goto (t := 77) rfl (by decide) ?_
              refine Wp_ls [(0, .ref 41), (1, vi a1), (2, vi a2), (3, vi a3), (4, vi a4), (5, vi a5), (6, vi a6), (7, vi y_10), (8, vi y_10), (9, vi y_51), (10, vi (v10 + 1))] (lsub_cons rfl (lsub_cons rfl (lsub_cons rfl (lsub_cons rfl (lsub_cons rfl (lsub_cons rfl (lsub_cons rfl (lsub_cons rfl (lsub_cons rfl (lsub_cons rfl (lsub_cons rfl lsub_nil))))))))))) ?_
              exact ih c_5 y_10 y_10 y_51 (v10 + 1) hI_6 (fun a j hm => (hF_7 a j (by omega)).trans (hF a j (by omega))) ⟨by omega, by omega⟩ ⟨by omega, by omega⟩ ⟨by omega, by omega⟩ ⟨by omega, by omega⟩ (by omega) (by omega) (by omega) (by omega) (by omega)
set_option maxRecDepth 100000 in
set_option maxHeartbeats 4000000 in
theorem s_256 {sc : List Int32} {d P Q : Nat} {c : ME} {a1 : Int} {a2 : Int} {a3 : Int} {a4 : Int} {a5 : Int} {a6 : Int} {Z : AR → Prop} (hI : Iv 0 (-1) P Q c) (ha1 : (-2147483648) ≤ a1 ∧ a1 ≤ 2147483647) (ha2 : (-2147483648) ≤ a2 ∧ a2 ≤ 2147483647) (ha3 : (-2147483648) ≤ a3 ∧ a3 ≤ 2147483647) (ha4 : (-2147483648) ≤ a4 ∧ a4 ≤ 2147483647) (ha5 : (-2147483648) ≤ a5 ∧ a5 ≤ 2147483647) (ha6 : (-2147483648) ≤ a6 ∧ a6 ≤ 2147483647) (K : ∀ (c2 : ME) (y : Int), Iv 0 (-1) P Q c2 → (∀ (a : Nat) (j : Int), ¬ ((a = 41 ∧ j = 0) ∨ a = 42 ∨ (a = 41 ∧ j = 50) ∨ a = 59 ∨ a = 54 ∨ a = 55) → c2 a j = c a j) → (-2147483648) ≤ y ∧ y ≤ 2147483647 → Z (.inl (some (vi y)), Wd P Q P P c2, 0, 0)) : Wp sc (d + 15) 256 0 [(0, .ref 41), (1, vi a1), (2, vi a2), (3, vi a3), (4, vi a4), (5, vi a5), (6, vi a6)] [] (Wd P Q P P c) 0 0 Z := by
  have hP := iv_P hI
  have hQ := iv_Q hI
  refine q_aload_n rfl rfl ?_
  refine q_iconst rfl ?_
  refine v_pi (z := 0) rfl rfl rfl (by decide) rfl rfl rfl (by decide) ?_
  refine q_aload_n rfl rfl ?_
  refine q_iload_n rfl rfl ?_
  refine q_iconst rfl ?_
  refine v_bip rfl (by decide) ?_
  refine q_call rfl rfl rfl rfl ?_
  refine q_iload_n rfl rfl ?_
  refine q_iload_n rfl rfl ?_
  by_cases h_52 : a2 < 1
  · refine v_ic_lt_t (t := 14) rfl (by decide) (by omega) ?_
    refine q_iconst rfl ?_
    refine v_zret rfl rfl (by omega) ?_
    refine bk_inl ?_
    refine v_if_eq_t (t := 54) rfl (by decide) (by decide) ?_
    refine q_iconst rfl ?_
    refine q_iconst rfl ?_
    refine q_iconst rfl ?_
    refine v_cv rfl rfl rfl rfl (by decide) ⟨⟨rfl, rfl⟩, by decide, rfl⟩ (Nat.le_of_ble_eq_true rfl) (Nat.le_of_ble_eq_true rfl) ?_
    refine q_iload_n rfl rfl ?_
    refine v_if_ne_f (t := 26) rfl (by decide) (by decide) ?_
    refine q_aload_n rfl rfl ?_
    refine v_gi (z := 0) (v := 0) rfl rfl rfl (by decide) rfl rfl (up_e rfl) ?_
    refine v_if_ne_f (t := 26) rfl (by decide) (by decide) ?_
    refine q_aload_n rfl rfl ?_
    refine q_iload_n rfl rfl ?_
    refine v_pi (z := 0) rfl rfl rfl (by decide) rfl rfl rfl (by decide) ?_
    refine q_aload_n rfl rfl ?_
    refine v_gr (t := 42) rfl rfl rfl (by decide) rfl ?_
    refine q_iload_n rfl rfl ?_
    refine q_dup2 rfl ⟨rfl, rfl⟩ ?_
    have h_53 := ir_42 hI 1
    refine v_ia (v := c 42 1) rfl rfl (by decide) (by decide) (by decide) ((up_c (by decide)).trans (up_c (by decide))) ?_
    refine q_iconst rfl ?_
    refine v_iadd (v := c 42 1 + 1) rfl (by omega) ?_
    refine v_nrm (fun y_54 hy_54 => ?_)
    refine v_is rfl rfl (by decide) (by decide) (by decide) ?_
    refine q_aload_n rfl rfl ?_
    refine v_gi (z := 0) (v := 1) rfl rfl rfl (by decide) rfl rfl ((up_c (by decide)).trans (up_e rfl)) ?_
    refine v_if_ne_t (t := 37) rfl (by decide) (by decide) ?_
    refine q_iconst rfl ?_
    refine v_zret rfl rfl (by omega) ?_
    refine bk_inl ?_
    refine v_if_ne_f (t := 65) rfl (by decide) (by decide) ?_
    refine q_iconst rfl ?_
    refine q_iret rfl rfl ?_
    have hI_55 := iw_41_0 (v := 0) hI ⟨by decide, by decide⟩
    have hI_56 := iw_41_0 (v := 1) hI_55 ⟨by decide, by decide⟩
    have hI_57 := iw_42 (j := 1) (v := y_54) hI_56 ⟨by omega, by omega⟩
    exact K (up (up (up c 41 0 0) 41 0 1) 42 1 y_54) 0 hI_57 (fun a j hm => (up_b (by omega)).trans ((up_b (by omega)).trans (up_b (by omega)))) ⟨by decide, by decide⟩
  · refine v_ic_lt_f (t := 14) rfl (by decide) (by omega) ?_
    refine q_iload_n rfl rfl ?_
    refine q_iload_n rfl rfl ?_
    by_cases h_58 : a2 > 10
    · refine v_ic_gt_t (t := 14) rfl (by decide) (by omega) ?_
      refine q_iconst rfl ?_
      refine v_zret rfl rfl (by omega) ?_
      refine bk_inl ?_
      refine v_if_eq_t (t := 54) rfl (by decide) (by decide) ?_
      refine q_iconst rfl ?_
      refine q_iconst rfl ?_
      refine q_iconst rfl ?_
      refine v_cv rfl rfl rfl rfl (by decide) ⟨⟨rfl, rfl⟩, by decide, rfl⟩ (Nat.le_of_ble_eq_true rfl) (Nat.le_of_ble_eq_true rfl) ?_
      refine q_iload_n rfl rfl ?_
      refine v_if_ne_f (t := 26) rfl (by decide) (by decide) ?_
      refine q_aload_n rfl rfl ?_
      refine v_gi (z := 0) (v := 0) rfl rfl rfl (by decide) rfl rfl (up_e rfl) ?_
      refine v_if_ne_f (t := 26) rfl (by decide) (by decide) ?_
      refine q_aload_n rfl rfl ?_
      refine q_iload_n rfl rfl ?_
      refine v_pi (z := 0) rfl rfl rfl (by decide) rfl rfl rfl (by decide) ?_
      refine q_aload_n rfl rfl ?_
      refine v_gr (t := 42) rfl rfl rfl (by decide) rfl ?_
      refine q_iload_n rfl rfl ?_
      refine q_dup2 rfl ⟨rfl, rfl⟩ ?_
      have h_59 := ir_42 hI 1
      refine v_ia (v := c 42 1) rfl rfl (by decide) (by decide) (by decide) ((up_c (by decide)).trans (up_c (by decide))) ?_
      refine q_iconst rfl ?_
      refine v_iadd (v := c 42 1 + 1) rfl (by omega) ?_
      refine v_nrm (fun y_60 hy_60 => ?_)
      refine v_is rfl rfl (by decide) (by decide) (by decide) ?_
      refine q_aload_n rfl rfl ?_
      refine v_gi (z := 0) (v := 1) rfl rfl rfl (by decide) rfl rfl ((up_c (by decide)).trans (up_e rfl)) ?_
      refine v_if_ne_t (t := 37) rfl (by decide) (by decide) ?_
      refine q_iconst rfl ?_
      refine v_zret rfl rfl (by omega) ?_
      refine bk_inl ?_
      refine v_if_ne_f (t := 65) rfl (by decide) (by decide) ?_
      refine q_iconst rfl ?_
      refine q_iret rfl rfl ?_
      have hI_61 := iw_41_0 (v := 0) hI ⟨by decide, by decide⟩
      have hI_62 := iw_41_0 (v := 1) hI_61 ⟨by decide, by decide⟩
      have hI_63 := iw_42 (j := 1) (v := y_60) hI_62 ⟨by omega, by omega⟩
      exact K (up (up (up c 41 0 0) 41 0 1) 42 1 y_60) 0 hI_63 (fun a j hm => (up_b (by omega)).trans ((up_b (by omega)).trans (up_b (by omega)))) ⟨by decide, by decide⟩
    · refine v_ic_gt_f (t := 14) rfl (by decide) (by omega) ?_
      refine q_iconst rfl ?_
      refine q_goto (t := 15) rfl (by decide) ?_
      refine v_zret rfl rfl (by omega) ?_
      refine bk_inl ?_
      refine v_if_eq_f (t := 54) rfl (by decide) (by decide) ?_
      refine q_iload_n rfl rfl ?_
      refine q_iload rfl rfl ?_
      refine q_call rfl rfl rfl rfl ?_
      refine q_iload_n rfl rfl ?_
      by_cases h_64 : a3 < 0
      · refine v_if_lt_t (t := 25) rfl (by decide) (by omega) ?_
        refine q_iconst rfl ?_
        refine v_zret rfl rfl (by omega) ?_
        refine bk_inl ?_
        refine v_if_eq_t (t := 54) rfl (by decide) (by decide) ?_
        refine q_iconst rfl ?_
        refine q_iconst rfl ?_
        refine q_iconst rfl ?_
        refine v_cv rfl rfl rfl rfl (by decide) ⟨⟨rfl, rfl⟩, by decide, rfl⟩ (Nat.le_of_ble_eq_true rfl) (Nat.le_of_ble_eq_true rfl) ?_
        refine q_iload_n rfl rfl ?_
        refine v_if_ne_f (t := 26) rfl (by decide) (by decide) ?_
        refine q_aload_n rfl rfl ?_
        refine v_gi (z := 0) (v := 0) rfl rfl rfl (by decide) rfl rfl (up_e rfl) ?_
        refine v_if_ne_f (t := 26) rfl (by decide) (by decide) ?_
        refine q_aload_n rfl rfl ?_
        refine q_iload_n rfl rfl ?_
        refine v_pi (z := 0) rfl rfl rfl (by decide) rfl rfl rfl (by decide) ?_
        refine q_aload_n rfl rfl ?_
        refine v_gr (t := 42) rfl rfl rfl (by decide) rfl ?_
        refine q_iload_n rfl rfl ?_
        refine q_dup2 rfl ⟨rfl, rfl⟩ ?_
        have h_65 := ir_42 hI 1
        refine v_ia (v := c 42 1) rfl rfl (by decide) (by decide) (by decide) ((up_c (by decide)).trans (up_c (by decide))) ?_
        refine q_iconst rfl ?_
        refine v_iadd (v := c 42 1 + 1) rfl (by omega) ?_
        refine v_nrm (fun y_66 hy_66 => ?_)
        refine v_is rfl rfl (by decide) (by decide) (by decide) ?_
        refine q_aload_n rfl rfl ?_
        refine v_gi (z := 0) (v := 1) rfl rfl rfl (by decide) rfl rfl ((up_c (by decide)).trans (up_e rfl)) ?_
        refine v_if_ne_t (t := 37) rfl (by decide) (by decide) ?_
        refine q_iconst rfl ?_
        refine v_zret rfl rfl (by omega) ?_
        refine bk_inl ?_
        refine v_if_ne_f (t := 65) rfl (by decide) (by decide) ?_
        refine q_iconst rfl ?_
        refine q_iret rfl rfl ?_
        have hI_67 := iw_41_0 (v := 0) hI ⟨by decide, by decide⟩
        have hI_68 := iw_41_0 (v := 1) hI_67 ⟨by decide, by decide⟩
        have hI_69 := iw_42 (j := 1) (v := y_66) hI_68 ⟨by omega, by omega⟩
        exact K (up (up (up c 41 0 0) 41 0 1) 42 1 y_66) 0 hI_69 (fun a j hm => (up_b (by omega)).trans ((up_b (by omega)).trans (up_b (by omega)))) ⟨by decide, by decide⟩
      · refine v_if_lt_f (t := 25) rfl (by decide) (by omega) ?_
        refine q_iload_n rfl rfl ?_
        refine v_bip rfl (by decide) ?_
        by_cases h_70 : a3 > 16
        · refine v_ic_gt_t (t := 25) rfl (by decide) (by omega) ?_
          refine q_iconst rfl ?_
          refine v_zret rfl rfl (by omega) ?_
          refine bk_inl ?_
          refine v_if_eq_t (t := 54) rfl (by decide) (by decide) ?_
          refine q_iconst rfl ?_
          refine q_iconst rfl ?_
          refine q_iconst rfl ?_
          refine v_cv rfl rfl rfl rfl (by decide) ⟨⟨rfl, rfl⟩, by decide, rfl⟩ (Nat.le_of_ble_eq_true rfl) (Nat.le_of_ble_eq_true rfl) ?_
          refine q_iload_n rfl rfl ?_
          refine v_if_ne_f (t := 26) rfl (by decide) (by decide) ?_
          refine q_aload_n rfl rfl ?_
          refine v_gi (z := 0) (v := 0) rfl rfl rfl (by decide) rfl rfl (up_e rfl) ?_
          refine v_if_ne_f (t := 26) rfl (by decide) (by decide) ?_
          refine q_aload_n rfl rfl ?_
          refine q_iload_n rfl rfl ?_
          refine v_pi (z := 0) rfl rfl rfl (by decide) rfl rfl rfl (by decide) ?_
          refine q_aload_n rfl rfl ?_
          refine v_gr (t := 42) rfl rfl rfl (by decide) rfl ?_
          refine q_iload_n rfl rfl ?_
          refine q_dup2 rfl ⟨rfl, rfl⟩ ?_
          have h_71 := ir_42 hI 1
          refine v_ia (v := c 42 1) rfl rfl (by decide) (by decide) (by decide) ((up_c (by decide)).trans (up_c (by decide))) ?_
          refine q_iconst rfl ?_
          refine v_iadd (v := c 42 1 + 1) rfl (by omega) ?_
          refine v_nrm (fun y_72 hy_72 => ?_)
          refine v_is rfl rfl (by decide) (by decide) (by decide) ?_
          refine q_aload_n rfl rfl ?_
          refine v_gi (z := 0) (v := 1) rfl rfl rfl (by decide) rfl rfl ((up_c (by decide)).trans (up_e rfl)) ?_
          refine v_if_ne_t (t := 37) rfl (by decide) (by decide) ?_
          refine q_iconst rfl ?_
          refine v_zret rfl rfl (by omega) ?_
          refine bk_inl ?_
          refine v_if_ne_f (t := 65) rfl (by decide) (by decide) ?_
          refine q_iconst rfl ?_
          refine q_iret rfl rfl ?_
          have hI_73 := iw_41_0 (v := 0) hI ⟨by decide, by decide⟩
          have hI_74 := iw_41_0 (v := 1) hI_73 ⟨by decide, by decide⟩
          have hI_75 := iw_42 (j := 1) (v := y_72) hI_74 ⟨by omega, by omega⟩
          exact K (up (up (up c 41 0 0) 41 0 1) 42 1 y_72) 0 hI_75 (fun a j hm => (up_b (by omega)).trans ((up_b (by omega)).trans (up_b (by omega)))) ⟨by decide, by decide⟩
        · refine v_ic_gt_f (t := 25) rfl (by decide) (by omega) ?_
          refine q_iload_n rfl rfl ?_
          refine q_iconst rfl ?_
          by_cases h_76 : a4 < 1
          · refine v_ic_lt_t (t := 25) rfl (by decide) (by omega) ?_
            refine q_iconst rfl ?_
            refine v_zret rfl rfl (by omega) ?_
            refine bk_inl ?_
            refine v_if_eq_t (t := 54) rfl (by decide) (by decide) ?_
            refine q_iconst rfl ?_
            refine q_iconst rfl ?_
            refine q_iconst rfl ?_
            refine v_cv rfl rfl rfl rfl (by decide) ⟨⟨rfl, rfl⟩, by decide, rfl⟩ (Nat.le_of_ble_eq_true rfl) (Nat.le_of_ble_eq_true rfl) ?_
            refine q_iload_n rfl rfl ?_
            refine v_if_ne_f (t := 26) rfl (by decide) (by decide) ?_
            refine q_aload_n rfl rfl ?_
            refine v_gi (z := 0) (v := 0) rfl rfl rfl (by decide) rfl rfl (up_e rfl) ?_
            refine v_if_ne_f (t := 26) rfl (by decide) (by decide) ?_
            refine q_aload_n rfl rfl ?_
            refine q_iload_n rfl rfl ?_
            refine v_pi (z := 0) rfl rfl rfl (by decide) rfl rfl rfl (by decide) ?_
            refine q_aload_n rfl rfl ?_
            refine v_gr (t := 42) rfl rfl rfl (by decide) rfl ?_
            refine q_iload_n rfl rfl ?_
            refine q_dup2 rfl ⟨rfl, rfl⟩ ?_
            have h_77 := ir_42 hI 1
            refine v_ia (v := c 42 1) rfl rfl (by decide) (by decide) (by decide) ((up_c (by decide)).trans (up_c (by decide))) ?_
            refine q_iconst rfl ?_
            refine v_iadd (v := c 42 1 + 1) rfl (by omega) ?_
            refine v_nrm (fun y_78 hy_78 => ?_)
            refine v_is rfl rfl (by decide) (by decide) (by decide) ?_
            refine q_aload_n rfl rfl ?_
            refine v_gi (z := 0) (v := 1) rfl rfl rfl (by decide) rfl rfl ((up_c (by decide)).trans (up_e rfl)) ?_
            refine v_if_ne_t (t := 37) rfl (by decide) (by decide) ?_
            refine q_iconst rfl ?_
            refine v_zret rfl rfl (by omega) ?_
            refine bk_inl ?_
            refine v_if_ne_f (t := 65) rfl (by decide) (by decide) ?_
            refine q_iconst rfl ?_
            refine q_iret rfl rfl ?_
            have hI_79 := iw_41_0 (v := 0) hI ⟨by decide, by decide⟩
            have hI_80 := iw_41_0 (v := 1) hI_79 ⟨by decide, by decide⟩
            have hI_81 := iw_42 (j := 1) (v := y_78) hI_80 ⟨by omega, by omega⟩
            exact K (up (up (up c 41 0 0) 41 0 1) 42 1 y_78) 0 hI_81 (fun a j hm => (up_b (by omega)).trans ((up_b (by omega)).trans (up_b (by omega)))) ⟨by decide, by decide⟩
          · refine v_ic_lt_f (t := 25) rfl (by decide) (by omega) ?_
            refine q_iload_n rfl rfl ?_
            refine v_bip rfl (by decide) ?_
            by_cases h_82 : a4 > 48
            · refine v_ic_gt_t (t := 25) rfl (by decide) (by omega) ?_
              refine q_iconst rfl ?_
              refine v_zret rfl rfl (by omega) ?_
              refine bk_inl ?_
              refine v_if_eq_t (t := 54) rfl (by decide) (by decide) ?_
              refine q_iconst rfl ?_
              refine q_iconst rfl ?_
              refine q_iconst rfl ?_
              refine v_cv rfl rfl rfl rfl (by decide) ⟨⟨rfl, rfl⟩, by decide, rfl⟩ (Nat.le_of_ble_eq_true rfl) (Nat.le_of_ble_eq_true rfl) ?_
              refine q_iload_n rfl rfl ?_
              refine v_if_ne_f (t := 26) rfl (by decide) (by decide) ?_
              refine q_aload_n rfl rfl ?_
              refine v_gi (z := 0) (v := 0) rfl rfl rfl (by decide) rfl rfl (up_e rfl) ?_
              refine v_if_ne_f (t := 26) rfl (by decide) (by decide) ?_
              refine q_aload_n rfl rfl ?_
              refine q_iload_n rfl rfl ?_
              refine v_pi (z := 0) rfl rfl rfl (by decide) rfl rfl rfl (by decide) ?_
              refine q_aload_n rfl rfl ?_
              refine v_gr (t := 42) rfl rfl rfl (by decide) rfl ?_
              refine q_iload_n rfl rfl ?_
              refine q_dup2 rfl ⟨rfl, rfl⟩ ?_
              have h_83 := ir_42 hI 1
              refine v_ia (v := c 42 1) rfl rfl (by decide) (by decide) (by decide) ((up_c (by decide)).trans (up_c (by decide))) ?_
              refine q_iconst rfl ?_
              refine v_iadd (v := c 42 1 + 1) rfl (by omega) ?_
              refine v_nrm (fun y_84 hy_84 => ?_)
              refine v_is rfl rfl (by decide) (by decide) (by decide) ?_
              refine q_aload_n rfl rfl ?_
              refine v_gi (z := 0) (v := 1) rfl rfl rfl (by decide) rfl rfl ((up_c (by decide)).trans (up_e rfl)) ?_
              refine v_if_ne_t (t := 37) rfl (by decide) (by decide) ?_
              refine q_iconst rfl ?_
              refine v_zret rfl rfl (by omega) ?_
              refine bk_inl ?_
              refine v_if_ne_f (t := 65) rfl (by decide) (by decide) ?_
              refine q_iconst rfl ?_
              refine q_iret rfl rfl ?_
              have hI_85 := iw_41_0 (v := 0) hI ⟨by decide, by decide⟩
              have hI_86 := iw_41_0 (v := 1) hI_85 ⟨by decide, by decide⟩
              have hI_87 := iw_42 (j := 1) (v := y_84) hI_86 ⟨by omega, by omega⟩
              exact K (up (up (up c 41 0 0) 41 0 1) 42 1 y_84) 0 hI_87 (fun a j hm => (up_b (by omega)).trans ((up_b (by omega)).trans (up_b (by omega)))) ⟨by decide, by decide⟩
            · refine v_ic_gt_f (t := 25) rfl (by decide) (by omega) ?_
              refine q_iconst rfl ?_
              refine q_goto (t := 26) rfl (by decide) ?_
              refine v_zret rfl rfl (by omega) ?_
              refine bk_inl ?_
              refine v_if_eq_f (t := 54) rfl (by decide) (by decide) ?_
              refine q_iload rfl rfl ?_
              refine q_iconst rfl ?_
              refine q_iconst rfl ?_
              refine q_call rfl rfl rfl rfl ?_
              refine q_iload_n rfl rfl ?_
              refine q_iload_n rfl rfl ?_
              by_cases h_88 : a5 < 0
              · refine v_ic_lt_t (t := 14) rfl (by decide) (by omega) ?_
                refine q_iconst rfl ?_
                refine v_zret rfl rfl (by omega) ?_
                refine bk_inl ?_
                refine v_if_eq_t (t := 54) rfl (by decide) (by decide) ?_
                refine q_iconst rfl ?_
                refine q_iconst rfl ?_
                refine q_iconst rfl ?_
                refine v_cv rfl rfl rfl rfl (by decide) ⟨⟨rfl, rfl⟩, by decide, rfl⟩ (Nat.le_of_ble_eq_true rfl) (Nat.le_of_ble_eq_true rfl) ?_
                refine q_iload_n rfl rfl ?_
                refine v_if_ne_f (t := 26) rfl (by decide) (by decide) ?_
                refine q_aload_n rfl rfl ?_
                refine v_gi (z := 0) (v := 0) rfl rfl rfl (by decide) rfl rfl (up_e rfl) ?_
                refine v_if_ne_f (t := 26) rfl (by decide) (by decide) ?_
                refine q_aload_n rfl rfl ?_
                refine q_iload_n rfl rfl ?_
                refine v_pi (z := 0) rfl rfl rfl (by decide) rfl rfl rfl (by decide) ?_
                refine q_aload_n rfl rfl ?_
                refine v_gr (t := 42) rfl rfl rfl (by decide) rfl ?_
                refine q_iload_n rfl rfl ?_
                refine q_dup2 rfl ⟨rfl, rfl⟩ ?_
                have h_89 := ir_42 hI 1
                refine v_ia (v := c 42 1) rfl rfl (by decide) (by decide) (by decide) ((up_c (by decide)).trans (up_c (by decide))) ?_
                refine q_iconst rfl ?_
                refine v_iadd (v := c 42 1 + 1) rfl (by omega) ?_
                refine v_nrm (fun y_90 hy_90 => ?_)
                refine v_is rfl rfl (by decide) (by decide) (by decide) ?_
                refine q_aload_n rfl rfl ?_
                refine v_gi (z := 0) (v := 1) rfl rfl rfl (by decide) rfl rfl ((up_c (by decide)).trans (up_e rfl)) ?_
                refine v_if_ne_t (t := 37) rfl (by decide) (by decide) ?_
                refine q_iconst rfl ?_
                refine v_zret rfl rfl (by omega) ?_
                refine bk_inl ?_
                refine v_if_ne_f (t := 65) rfl (by decide) (by decide) ?_
                refine q_iconst rfl ?_
                refine q_iret rfl rfl ?_
                have hI_91 := iw_41_0 (v := 0) hI ⟨by decide, by decide⟩
                have hI_92 := iw_41_0 (v := 1) hI_91 ⟨by decide, by decide⟩
                have hI_93 := iw_42 (j := 1) (v := y_90) hI_92 ⟨by omega, by omega⟩
                exact K (up (up (up c 41 0 0) 41 0 1) 42 1 y_90) 0 hI_93 (fun a j hm => (up_b (by omega)).trans ((up_b (by omega)).trans (up_b (by omega)))) ⟨by decide, by decide⟩
              · refine v_ic_lt_f (t := 14) rfl (by decide) (by omega) ?_
                refine q_iload_n rfl rfl ?_
                refine q_iload_n rfl rfl ?_
                by_cases h_94 : a5 > 2
                · refine v_ic_gt_t (t := 14) rfl (by decide) (by omega) ?_
                  refine q_iconst rfl ?_
                  refine v_zret rfl rfl (by omega) ?_
                  refine bk_inl ?_
                  refine v_if_eq_t (t := 54) rfl (by decide) (by decide) ?_
                  refine q_iconst rfl ?_
                  refine q_iconst rfl ?_
                  refine q_iconst rfl ?_
                  refine v_cv rfl rfl rfl rfl (by decide) ⟨⟨rfl, rfl⟩, by decide, rfl⟩ (Nat.le_of_ble_eq_true rfl) (Nat.le_of_ble_eq_true rfl) ?_
                  refine q_iload_n rfl rfl ?_
                  refine v_if_ne_f (t := 26) rfl (by decide) (by decide) ?_
                  refine q_aload_n rfl rfl ?_
                  refine v_gi (z := 0) (v := 0) rfl rfl rfl (by decide) rfl rfl (up_e rfl) ?_
                  refine v_if_ne_f (t := 26) rfl (by decide) (by decide) ?_
                  refine q_aload_n rfl rfl ?_
                  refine q_iload_n rfl rfl ?_
                  refine v_pi (z := 0) rfl rfl rfl (by decide) rfl rfl rfl (by decide) ?_
                  refine q_aload_n rfl rfl ?_
                  refine v_gr (t := 42) rfl rfl rfl (by decide) rfl ?_
                  refine q_iload_n rfl rfl ?_
                  refine q_dup2 rfl ⟨rfl, rfl⟩ ?_
                  have h_95 := ir_42 hI 1
                  refine v_ia (v := c 42 1) rfl rfl (by decide) (by decide) (by decide) ((up_c (by decide)).trans (up_c (by decide))) ?_
                  refine q_iconst rfl ?_
                  refine v_iadd (v := c 42 1 + 1) rfl (by omega) ?_
                  refine v_nrm (fun y_96 hy_96 => ?_)
                  refine v_is rfl rfl (by decide) (by decide) (by decide) ?_
                  refine q_aload_n rfl rfl ?_
                  refine v_gi (z := 0) (v := 1) rfl rfl rfl (by decide) rfl rfl ((up_c (by decide)).trans (up_e rfl)) ?_
                  refine v_if_ne_t (t := 37) rfl (by decide) (by decide) ?_
                  refine q_iconst rfl ?_
                  refine v_zret rfl rfl (by omega) ?_
                  refine bk_inl ?_
                  refine v_if_ne_f (t := 65) rfl (by decide) (by decide) ?_
                  refine q_iconst rfl ?_
                  refine q_iret rfl rfl ?_
                  have hI_97 := iw_41_0 (v := 0) hI ⟨by decide, by decide⟩
                  have hI_98 := iw_41_0 (v := 1) hI_97 ⟨by decide, by decide⟩
                  have hI_99 := iw_42 (j := 1) (v := y_96) hI_98 ⟨by omega, by omega⟩
                  exact K (up (up (up c 41 0 0) 41 0 1) 42 1 y_96) 0 hI_99 (fun a j hm => (up_b (by omega)).trans ((up_b (by omega)).trans (up_b (by omega)))) ⟨by decide, by decide⟩
                · refine v_ic_gt_f (t := 14) rfl (by decide) (by omega) ?_
                  refine q_iconst rfl ?_
                  refine q_goto (t := 15) rfl (by decide) ?_
                  refine v_zret rfl rfl (by omega) ?_
                  refine bk_inl ?_
                  refine v_if_eq_f (t := 54) rfl (by decide) (by decide) ?_
                  refine q_iload rfl rfl ?_
                  refine q_iconst rfl ?_
                  refine q_aload_n rfl rfl ?_
                  have h_100 := ir_41_20 hI
                  refine v_gi (z := 20) (v := c 41 20) rfl rfl rfl (by decide) rfl rfl (up_n (by decide)) ?_
                  refine q_iconst rfl ?_
                  refine v_isub (v := c 41 20 - 1) rfl (by omega) ?_
                  refine q_call rfl rfl rfl rfl ?_
                  refine q_iload_n rfl rfl ?_
                  refine q_iload_n rfl rfl ?_
                  by_cases h_101 : a6 < 0
                  · refine v_ic_lt_t (t := 14) rfl (by decide) (by omega) ?_
                    refine q_iconst rfl ?_
                    refine v_zret rfl rfl (by omega) ?_
                    refine bk_inl ?_
                    refine v_if_eq_t (t := 54) rfl (by decide) (by decide) ?_
                    refine q_iconst rfl ?_
                    refine q_iconst rfl ?_
                    refine q_iconst rfl ?_
                    refine v_cv rfl rfl rfl rfl (by decide) ⟨⟨rfl, rfl⟩, by decide, rfl⟩ (Nat.le_of_ble_eq_true rfl) (Nat.le_of_ble_eq_true rfl) ?_
                    refine q_iload_n rfl rfl ?_
                    refine v_if_ne_f (t := 26) rfl (by decide) (by decide) ?_
                    refine q_aload_n rfl rfl ?_
                    refine v_gi (z := 0) (v := 0) rfl rfl rfl (by decide) rfl rfl (up_e rfl) ?_
                    refine v_if_ne_f (t := 26) rfl (by decide) (by decide) ?_
                    refine q_aload_n rfl rfl ?_
                    refine q_iload_n rfl rfl ?_
                    refine v_pi (z := 0) rfl rfl rfl (by decide) rfl rfl rfl (by decide) ?_
                    refine q_aload_n rfl rfl ?_
                    refine v_gr (t := 42) rfl rfl rfl (by decide) rfl ?_
                    refine q_iload_n rfl rfl ?_
                    refine q_dup2 rfl ⟨rfl, rfl⟩ ?_
                    have h_102 := ir_42 hI 1
                    refine v_ia (v := c 42 1) rfl rfl (by decide) (by decide) (by decide) ((up_c (by decide)).trans (up_c (by decide))) ?_
                    refine q_iconst rfl ?_
                    refine v_iadd (v := c 42 1 + 1) rfl (by omega) ?_
                    refine v_nrm (fun y_103 hy_103 => ?_)
                    refine v_is rfl rfl (by decide) (by decide) (by decide) ?_
                    refine q_aload_n rfl rfl ?_
                    refine v_gi (z := 0) (v := 1) rfl rfl rfl (by decide) rfl rfl ((up_c (by decide)).trans (up_e rfl)) ?_
                    refine v_if_ne_t (t := 37) rfl (by decide) (by decide) ?_
                    refine q_iconst rfl ?_
                    refine v_zret rfl rfl (by omega) ?_
                    refine bk_inl ?_
                    refine v_if_ne_f (t := 65) rfl (by decide) (by decide) ?_
                    refine q_iconst rfl ?_
                    refine q_iret rfl rfl ?_
                    have hI_104 := iw_41_0 (v := 0) hI ⟨by decide, by decide⟩
                    have hI_105 := iw_41_0 (v := 1) hI_104 ⟨by decide, by decide⟩
                    have hI_106 := iw_42 (j := 1) (v := y_103) hI_105 ⟨by omega, by omega⟩
                    exact K (up (up (up c 41 0 0) 41 0 1) 42 1 y_103) 0 hI_106 (fun a j hm => (up_b (by omega)).trans ((up_b (by omega)).trans (up_b (by omega)))) ⟨by decide, by decide⟩
                  · refine v_ic_lt_f (t := 14) rfl (by decide) (by omega) ?_
                    refine q_iload_n rfl rfl ?_
                    refine q_iload_n rfl rfl ?_
                    by_cases h_107 : a6 > c 41 20 - 1
                    · refine v_ic_gt_t (t := 14) rfl (by decide) (by omega) ?_
                      refine q_iconst rfl ?_
                      refine v_zret rfl rfl (by omega) ?_
                      refine bk_inl ?_
                      refine v_if_eq_t (t := 54) rfl (by decide) (by decide) ?_
                      refine q_iconst rfl ?_
                      refine q_iconst rfl ?_
                      refine q_iconst rfl ?_
                      refine v_cv rfl rfl rfl rfl (by decide) ⟨⟨rfl, rfl⟩, by decide, rfl⟩ (Nat.le_of_ble_eq_true rfl) (Nat.le_of_ble_eq_true rfl) ?_
                      refine q_iload_n rfl rfl ?_
                      refine v_if_ne_f (t := 26) rfl (by decide) (by decide) ?_
                      refine q_aload_n rfl rfl ?_
                      refine v_gi (z := 0) (v := 0) rfl rfl rfl (by decide) rfl rfl (up_e rfl) ?_
                      refine v_if_ne_f (t := 26) rfl (by decide) (by decide) ?_
                      refine q_aload_n rfl rfl ?_
                      refine q_iload_n rfl rfl ?_
                      refine v_pi (z := 0) rfl rfl rfl (by decide) rfl rfl rfl (by decide) ?_
                      refine q_aload_n rfl rfl ?_
                      refine v_gr (t := 42) rfl rfl rfl (by decide) rfl ?_
                      refine q_iload_n rfl rfl ?_
                      refine q_dup2 rfl ⟨rfl, rfl⟩ ?_
                      have h_108 := ir_42 hI 1
                      refine v_ia (v := c 42 1) rfl rfl (by decide) (by decide) (by decide) ((up_c (by decide)).trans (up_c (by decide))) ?_
                      refine q_iconst rfl ?_
                      refine v_iadd (v := c 42 1 + 1) rfl (by omega) ?_
                      refine v_nrm (fun y_109 hy_109 => ?_)
                      refine v_is rfl rfl (by decide) (by decide) (by decide) ?_
                      refine q_aload_n rfl rfl ?_
                      refine v_gi (z := 0) (v := 1) rfl rfl rfl (by decide) rfl rfl ((up_c (by decide)).trans (up_e rfl)) ?_
                      refine v_if_ne_t (t := 37) rfl (by decide) (by decide) ?_
                      refine q_iconst rfl ?_
                      refine v_zret rfl rfl (by omega) ?_
                      refine bk_inl ?_
                      refine v_if_ne_f (t := 65) rfl (by decide) (by decide) ?_
                      refine q_iconst rfl ?_
                      refine q_iret rfl rfl ?_
                      have hI_110 := iw_41_0 (v := 0) hI ⟨by decide, by decide⟩
                      have hI_111 := iw_41_0 (v := 1) hI_110 ⟨by decide, by decide⟩
                      have hI_112 := iw_42 (j := 1) (v := y_109) hI_111 ⟨by omega, by omega⟩
                      exact K (up (up (up c 41 0 0) 41 0 1) 42 1 y_109) 0 hI_112 (fun a j hm => (up_b (by omega)).trans ((up_b (by omega)).trans (up_b (by omega)))) ⟨by decide, by decide⟩
                    · refine v_ic_gt_f (t := 14) rfl (by decide) (by omega) ?_
                      refine q_iconst rfl ?_
                      refine q_goto (t := 15) rfl (by decide) ?_
                      refine v_zret rfl rfl (by omega) ?_
                      refine bk_inl ?_
                      refine v_if_eq_f (t := 54) rfl (by decide) (by decide) ?_
                      refine q_iconst rfl ?_
                      refine q_goto (t := 55) rfl (by decide) ?_
                      refine q_iconst rfl ?_
                      refine q_iconst rfl ?_
                      refine v_cv rfl rfl rfl rfl (by decide) ⟨⟨rfl, rfl⟩, by decide, rfl⟩ (Nat.le_of_ble_eq_true rfl) (Nat.le_of_ble_eq_true rfl) ?_
                      refine q_iload_n rfl rfl ?_
                      refine v_if_ne_t (t := 26) rfl (by decide) (by decide) ?_
                      refine q_aload_n rfl rfl ?_
                      refine v_gi (z := 0) (v := 0) rfl rfl rfl (by decide) rfl rfl (up_e rfl) ?_
                      refine v_if_ne_f (t := 37) rfl (by decide) (by decide) ?_
                      refine q_iconst rfl ?_
                      refine q_goto (t := 38) rfl (by decide) ?_
                      refine v_zret rfl rfl (by omega) ?_
                      refine bk_inl ?_
                      refine v_if_ne_t (t := 65) rfl (by decide) (by decide) ?_
                      refine q_iconst rfl ?_
                      refine q_istore rfl (by decide) ?_
                      refine q_iconst rfl ?_
                      refine q_istore rfl (by decide) ?_
                      refine q_iconst rfl ?_
                      refine q_istore rfl (by decide) ?_
                      refine q_iconst rfl ?_
                      refine q_istore rfl (by decide) ?_
                      have hI_113 := iw_41_0 (v := 0) hI ⟨by decide, by decide⟩
                      refine Wp_ls [(0, .ref 41), (1, vi a1), (2, vi a2), (3, vi a3), (4, vi a4), (5, vi a5), (6, vi a6), (7, vi (-1)), (8, vi 0), (9, vi 0), (10, vi 0)] (lsub_cons rfl (lsub_cons rfl (lsub_cons rfl (lsub_cons rfl (lsub_cons rfl (lsub_cons rfl (lsub_cons rfl (lsub_cons rfl (lsub_cons rfl (lsub_cons rfl (lsub_cons rfl lsub_nil))))))))))) ?_
                      exact (s_256_l (sc := sc) (d := d) hI ha1 ha2 ha3 ha4 ha5 ha6 K 24) (up c 41 0 0) (-1) 0 0 0 hI_113 (fun a j hm => up_b (by omega)) ⟨by decide, by decide⟩ ⟨by decide, by decide⟩ ⟨by decide, by decide⟩ ⟨by decide, by decide⟩ (by omega) (by omega) (by omega) (by omega) (by omega)


set_option maxRecDepth 100000 in
set_option maxHeartbeats 4000000 in
theorem s_259 {sc : List Int32} {d P Q : Nat} {c : ME} {Z : AR → Prop} (hI : Iv 0 (-1) P Q c)  (K : ∀ (c2 : ME) (y : Int), Iv 0 (-1) P Q c2 → (∀ (a : Nat) (j : Int), ¬ ((a = 41 ∧ j = 0) ∨ (a = 41 ∧ j = 52) ∨ a = 66) → c2 a j = c a j) → (-1) ≤ y ∧ y ≤ 3 → Z (.inl (some (vi y)), Wd P Q P P c2, 0, 0)) : Wp sc (d + 8) 259 0 [(0, .ref 41)] [] (Wd P Q P P c) 0 0 Z := by
  have hP := iv_P hI
  have hQ := iv_Q hI
  refine q_aload_n rfl rfl ?_
  refine q_iconst rfl ?_
  refine v_pi (z := 0) rfl rfl rfl (by decide) rfl rfl rfl (by decide) ?_
  refine q_aload_n rfl rfl ?_
  have h_1 := ir_41_52 hI
  refine v_gi (z := 52) (v := c 41 52) rfl rfl rfl (by decide) rfl rfl (up_n (by decide)) ?_
  refine q_iconst rfl ?_
  by_cases h_2 : c 41 52 ≠ 3
  · refine v_ic_ne_t (t := 15) rfl (by decide) (by omega) ?_
    refine q_aload_n rfl rfl ?_
    refine q_aload_n rfl rfl ?_
    refine v_gi (z := 52) (v := c 41 52) rfl rfl rfl (by decide) rfl rfl (up_n (by decide)) ?_
    refine q_iconst rfl ?_
    refine v_cv rfl rfl rfl rfl (by decide) ⟨⟨rfl, rfl⟩, by decide, rfl⟩ (Nat.le_of_ble_eq_true rfl) (Nat.le_of_ble_eq_true rfl) ?_
    refine q_aload_n rfl rfl ?_
    refine v_sip rfl (by decide) ?_
    refine q_iload_n rfl rfl ?_
    refine v_imul (v := 630 * c 41 52) rfl (by omega) ?_
    refine q_aload_n rfl rfl ?_
    refine v_gr (t := 58) rfl rfl rfl (by decide) rfl ?_
    refine v_bip rfl (by decide) ?_
    refine q_iload_n rfl rfl ?_
    refine v_cv rfl rfl rfl rfl (by decide) ⟨⟨rfl, rfl⟩, by decide, rfl⟩ (Nat.le_of_ble_eq_true rfl) (Nat.le_of_ble_eq_true rfl) (s_257k (t := 58) (nt := 37) (q := 630 * c 41 52) (n := 37) (v := 630 * c 41 52 + 37) rfl (by decide) (by decide) (by decide) (by omega) (by omega) (by omega) ?_)
    refine bk_inl ?_
    refine q_istore_n rfl (by decide) ?_
    refine q_aload_n rfl rfl ?_
    refine q_iload_n rfl rfl ?_
    refine q_aload_n rfl rfl ?_
    refine v_gr (t := 60) rfl rfl rfl (by decide) rfl ?_
    refine v_sip rfl (by decide) ?_
    refine q_iload_n rfl rfl ?_
    refine v_cv rfl rfl rfl rfl (by decide) ⟨⟨rfl, rfl⟩, by decide, rfl⟩ (Nat.le_of_ble_eq_true rfl) (Nat.le_of_ble_eq_true rfl) (s_257k (t := 60) (nt := 592) (q := 630 * c 41 52 + 37) (n := 592) (v := 630 * c 41 52 + 629) rfl (by decide) (by decide) (by decide) (by omega) (by omega) (by omega) ?_)
    refine bk_inl ?_
    refine q_istore_n rfl (by decide) ?_
    refine q_iload_n rfl rfl ?_
    refine v_if_eq_f (t := 48) rfl (by decide) (by decide) ?_
    refine q_aload_n rfl rfl ?_
    refine v_gr (t := 66) rfl rfl rfl (by decide) rfl ?_
    refine q_iload_n rfl rfl ?_
    refine q_aload_n rfl rfl ?_
    have h_3 := ir_41_35 hI
    refine v_gi (z := 35) (v := c 41 35) rfl rfl rfl (by decide) rfl rfl ((upc_c (by omega)).trans ((upc_c (by omega)).trans (up_n (by decide)))) ?_
    refine v_is rfl rfl (by decide) (by decide) (by omega) ?_
    refine q_goto (t := 58) rfl (by decide) ?_
    refine q_vret rfl rfl ?_
    refine bk_inl ?_
    refine q_aload_n rfl rfl ?_
    refine q_dup rfl rfl ?_
    refine v_gi (z := 52) (v := c 41 52) rfl rfl rfl (by decide) rfl rfl ((up_c (by decide)).trans ((upc_c (by omega)).trans ((upc_c (by omega)).trans (up_n (by decide))))) ?_
    refine q_iconst rfl ?_
    refine v_iadd (v := c 41 52 + 1) rfl (by omega) ?_
    refine v_pi (z := 52) rfl rfl rfl (by decide) rfl rfl rfl (by decide) ?_
    refine q_aload_n rfl rfl ?_
    refine v_gi (z := 52) (v := c 41 52 + 1) rfl rfl rfl (by decide) rfl rfl (up_e rfl) ?_
    refine q_iret rfl rfl ?_
    have hI_4 := iw_41_0 (v := 0) hI ⟨by decide, by decide⟩
    have hI_5 := cp_58_66 (w := 630 * c 41 52) (i := c 41 52) hI_4 (by omega) (by omega)
    have hI_6 := cp_60_66 (w := 630 * c 41 52 + 37) (i := c 41 52) hI_5 (by omega) (by omega)
    have hI_7 := iw_66 (j := 630 * c 41 52 + 629) (v := c 41 35) hI_6 (by omega) (by omega)
    have hI_8 := iw_41_52 (v := c 41 52 + 1) hI_7 ⟨by omega, by omega⟩
    exact K (up (up (upc (upc (up c 41 0 0) 58 0 66 (630 * c 41 52) 37) 60 0 66 (630 * c 41 52 + 37) 592) 66 (630 * c 41 52 + 629) (c 41 35)) 41 52 (c 41 52 + 1)) (c 41 52 + 1) hI_8 (fun a j hm => (up_b (by omega)).trans ((up_b (by omega)).trans ((upc_c (by omega)).trans ((upc_c (by omega)).trans (up_b (by omega)))))) ⟨by omega, by omega⟩
  · refine v_ic_ne_f (t := 15) rfl (by decide) (by omega) ?_
    refine q_iconst rfl ?_
    refine q_iret rfl rfl ?_
    have hI_9 := iw_41_0 (v := 0) hI ⟨by decide, by decide⟩
    exact K (up c 41 0 0) (-1) hI_9 (fun a j hm => up_b (by omega)) ⟨by decide, by decide⟩

set_option maxRecDepth 100000 in
set_option maxHeartbeats 4000000 in
theorem s_260 {sc : List Int32} {d P Q : Nat} {c : ME} {Z : AR → Prop} (hI : Iv 0 (-1) P Q c)  (K : ∀ (c2 : ME) (y : Int), Iv 0 (-1) P Q c2 → (∀ (a : Nat) (j : Int), ¬ ((a = 41 ∧ j = 0) ∨ (a = 41 ∧ j = 52) ∨ (a = 41 ∧ j = 35) ∨ (a = 41 ∧ j = 36) ∨ a = 58 ∨ a = 60) → c2 a j = c a j) → (-1) ≤ y ∧ y ≤ 3 → Z (.inl (some (vi y)), Wd P Q P P c2, 0, 0)) : Wp sc (d + 8) 260 0 [(0, .ref 41)] [] (Wd P Q P P c) 0 0 Z := by
  have hP := iv_P hI
  have hQ := iv_Q hI
  refine q_aload_n rfl rfl ?_
  refine q_iconst rfl ?_
  refine v_pi (z := 0) rfl rfl rfl (by decide) rfl rfl rfl (by decide) ?_
  refine q_aload_n rfl rfl ?_
  have h_1 := ir_41_52 hI
  refine v_gi (z := 52) (v := c 41 52) rfl rfl rfl (by decide) rfl rfl (up_n (by decide)) ?_
  by_cases h_2 : c 41 52 ≠ 0
  · refine v_if_ne_t (t := 14) rfl (by decide) (by omega) ?_
    refine q_aload_n rfl rfl ?_
    refine q_dup rfl rfl ?_
    refine v_gi (z := 52) (v := c 41 52) rfl rfl rfl (by decide) rfl rfl (up_n (by decide)) ?_
    refine q_iconst rfl ?_
    refine v_isub (v := c 41 52 - 1) rfl (by omega) ?_
    refine v_pi (z := 52) rfl rfl rfl (by decide) rfl rfl rfl (by decide) ?_
    refine q_aload_n rfl rfl ?_
    refine q_aload_n rfl rfl ?_
    refine v_gi (z := 52) (v := c 41 52 - 1) rfl rfl rfl (by decide) rfl rfl (up_e rfl) ?_
    refine q_iconst rfl ?_
    refine v_cv rfl rfl rfl rfl (by decide) ⟨⟨rfl, rfl⟩, by decide, rfl⟩ (Nat.le_of_ble_eq_true rfl) (Nat.le_of_ble_eq_true rfl) ?_
    refine q_aload_n rfl rfl ?_
    refine v_sip rfl (by decide) ?_
    refine q_iload_n rfl rfl ?_
    refine v_imul (v := 630 * c 41 52 - 630) rfl (by omega) ?_
    refine q_aload_n rfl rfl ?_
    refine v_gr (t := 58) rfl rfl rfl (by decide) rfl ?_
    refine v_bip rfl (by decide) ?_
    refine q_iload_n rfl rfl ?_
    refine v_cv rfl rfl rfl rfl (by decide) ⟨⟨rfl, rfl⟩, by decide, rfl⟩ (Nat.le_of_ble_eq_true rfl) (Nat.le_of_ble_eq_true rfl) (s_257r (t := 58) (nt := 37) (q := 630 * c 41 52 - 630) (n := 37) (v := 630 * c 41 52 - 593) rfl (by decide) (by decide) (by decide) (by omega) (by omega) (by omega) ?_)
    refine bk_inl ?_
    refine q_istore_n rfl (by decide) ?_
    refine q_aload_n rfl rfl ?_
    refine q_iload_n rfl rfl ?_
    refine q_aload_n rfl rfl ?_
    refine v_gr (t := 60) rfl rfl rfl (by decide) rfl ?_
    refine v_sip rfl (by decide) ?_
    refine q_iload_n rfl rfl ?_
    refine v_cv rfl rfl rfl rfl (by decide) ⟨⟨rfl, rfl⟩, by decide, rfl⟩ (Nat.le_of_ble_eq_true rfl) (Nat.le_of_ble_eq_true rfl) (s_257r (t := 60) (nt := 592) (q := 630 * c 41 52 - 593) (n := 592) (v := 630 * c 41 52 - 1) rfl (by decide) (by decide) (by decide) (by omega) (by omega) (by omega) ?_)
    refine bk_inl ?_
    refine q_istore_n rfl (by decide) ?_
    refine q_iload_n rfl rfl ?_
    refine v_if_eq_t (t := 48) rfl (by decide) (by decide) ?_
    refine q_aload_n rfl rfl ?_
    refine q_aload_n rfl rfl ?_
    refine v_gr (t := 66) rfl rfl rfl (by decide) rfl ?_
    refine q_iload_n rfl rfl ?_
    have h_3 := ir_66 hI (630 * c 41 52 - 1)
    have h_4 := ir_66_9 hI (j := 630 * c 41 52 - 1) (by omega)
    refine v_ia (v := c 66 (630 * c 41 52 - 1)) rfl rfl (by decide) (by decide) (by omega) ((upc_c (by omega)).trans ((upc_c (by omega)).trans ((up_c (by decide)).trans (up_c (by decide))))) ?_
    refine v_pi (z := 35) rfl rfl rfl (by decide) rfl rfl rfl (by decide) ?_
    refine q_vret rfl rfl ?_
    refine bk_inl ?_
    refine q_aload_n rfl rfl ?_
    refine q_iconst rfl ?_
    refine v_pi (z := 36) rfl rfl rfl (by decide) rfl rfl rfl (by decide) ?_
    refine q_aload_n rfl rfl ?_
    refine v_gi (z := 52) (v := c 41 52 - 1) rfl rfl rfl (by decide) rfl rfl ((up_n (by decide)).trans ((up_n (by decide)).trans ((upc_c (by omega)).trans ((upc_c (by omega)).trans (up_e rfl))))) ?_
    refine q_iret rfl rfl ?_
    have hI_5 := iw_41_0 (v := 0) hI ⟨by decide, by decide⟩
    have hI_6 := iw_41_52 (v := c 41 52 - 1) hI_5 ⟨by omega, by omega⟩
    have hI_7 := cp_66_58 (w := 630 * c 41 52 - 630) (i := c 41 52 - 1) hI_6 (by omega) (by omega)
    have hI_8 := cp_66_60 (w := 630 * c 41 52 - 593) (i := c 41 52 - 1) hI_7 (by omega) (by omega)
    have hI_9 := iw_41_35 (v := c 66 (630 * c 41 52 - 1)) hI_8 ⟨by omega, by omega⟩
    have hI_10 := iw_41_36 (v := 0) hI_9 ⟨by decide, by decide⟩
    exact K (up (up (upc (upc (up (up c 41 0 0) 41 52 (c 41 52 - 1)) 66 (630 * c 41 52 - 630) 58 0 37) 66 (630 * c 41 52 - 593) 60 0 592) 41 35 (c 66 (630 * c 41 52 - 1))) 41 36 0) (c 41 52 - 1) hI_10 (fun a j hm => (up_b (by omega)).trans ((up_b (by omega)).trans ((upc_c (by omega)).trans ((upc_c (by omega)).trans ((up_b (by omega)).trans (up_b (by omega))))))) ⟨by omega, by omega⟩
  · refine v_if_ne_f (t := 14) rfl (by decide) (by omega) ?_
    refine q_iconst rfl ?_
    refine q_iret rfl rfl ?_
    have hI_11 := iw_41_0 (v := 0) hI ⟨by decide, by decide⟩
    exact K (up c 41 0 0) (-1) hI_11 (fun a j hm => up_b (by omega)) ⟨by decide, by decide⟩

set_option maxRecDepth 100000 in
set_option maxHeartbeats 4000000 in
theorem s_261 {sc : List Int32} {e : Int} {d u P Q : Nat} {c : ME} {a1 : Int} {Z : AR → Prop} (hI : Iv u e P Q c) (ha1 : (-2147483648) ≤ a1 ∧ a1 ≤ 2147483647) (K : ∀ (c2 : ME) (y : Int), Iv u e P Q c2 → (∀ (a : Nat) (j : Int), ¬ ((a = 41 ∧ j = 0)) → c2 a j = c a j) → (-2147483648) ≤ y ∧ y ≤ 2147483647 → Z (.inl (some (vi y)), Wd P Q P P c2, 0, 0)) : Wp sc (d + 8) 261 0 [(0, .ref 41), (1, vi a1)] [] (Wd P Q P P c) 0 0 Z := by
  have hP := iv_P hI
  have hQ := iv_Q hI
  refine q_aload_n rfl rfl ?_
  refine q_iconst rfl ?_
  refine v_pi (z := 0) rfl rfl rfl (by decide) rfl rfl rfl (by decide) ?_
  refine q_iload_n rfl rfl ?_
  refine q_iconst rfl ?_
  refine q_iconst rfl ?_
  refine q_call rfl rfl rfl rfl ?_
  refine q_iload_n rfl rfl ?_
  refine q_iload_n rfl rfl ?_
  by_cases h_1 : a1 < 0
  · refine v_ic_lt_t (t := 14) rfl (by decide) (by omega) ?_
    refine q_iconst rfl ?_
    refine v_zret rfl rfl (by omega) ?_
    refine bk_inl ?_
    refine v_if_eq_t (t := 23) rfl (by decide) (by decide) ?_
    refine q_iconst rfl ?_
    refine q_iret rfl rfl ?_
    have hI_2 := iw_41_0 (v := 0) hI ⟨by decide, by decide⟩
    exact K (up c 41 0 0) (-1) hI_2 (fun a j hm => up_b (by omega)) ⟨by decide, by decide⟩
  · refine v_ic_lt_f (t := 14) rfl (by decide) (by omega) ?_
    refine q_iload_n rfl rfl ?_
    refine q_iload_n rfl rfl ?_
    by_cases h_3 : a1 > 1
    · refine v_ic_gt_t (t := 14) rfl (by decide) (by omega) ?_
      refine q_iconst rfl ?_
      refine v_zret rfl rfl (by omega) ?_
      refine bk_inl ?_
      refine v_if_eq_t (t := 23) rfl (by decide) (by decide) ?_
      refine q_iconst rfl ?_
      refine q_iret rfl rfl ?_
      have hI_4 := iw_41_0 (v := 0) hI ⟨by decide, by decide⟩
      exact K (up c 41 0 0) (-1) hI_4 (fun a j hm => up_b (by omega)) ⟨by decide, by decide⟩
    · refine v_ic_gt_f (t := 14) rfl (by decide) (by omega) ?_
      refine q_iconst rfl ?_
      refine q_goto (t := 15) rfl (by decide) ?_
      refine v_zret rfl rfl (by omega) ?_
      refine bk_inl ?_
      refine v_if_eq_f (t := 23) rfl (by decide) (by decide) ?_
      refine q_aload_n rfl rfl ?_
      refine v_gr (t := 42) rfl rfl rfl (by decide) rfl ?_
      refine q_iload_n rfl rfl ?_
      have h_5 := ir_42 hI a1
      refine v_ia (v := c 42 a1) rfl rfl (by decide) (by decide) (by omega) (up_c (by decide)) ?_
      refine q_goto (t := 24) rfl (by decide) ?_
      refine q_iret rfl rfl ?_
      have hI_6 := iw_41_0 (v := 0) hI ⟨by decide, by decide⟩
      exact K (up c 41 0 0) (c 42 a1) hI_6 (fun a j hm => up_b (by omega)) ⟨by omega, by omega⟩

set_option maxRecDepth 100000 in
set_option maxHeartbeats 4000000 in
theorem s_262 {sc : List Int32} {e : Int} {d u P Q : Nat} {c : ME} {a1 : Int} {Z : AR → Prop} (hI : Iv u e P Q c) (ha1 : (-2147483648) ≤ a1 ∧ a1 ≤ 2147483647) (K : ∀ (c2 : ME) (y : Int), Iv u e P Q c2 → (∀ (a : Nat) (j : Int), ¬ ((a = 41 ∧ j = 0)) → c2 a j = c a j) → (-2147483648) ≤ y ∧ y ≤ 2147483647 → Z (.inl (some (vi y)), Wd P Q P P c2, 0, 0)) : Wp sc (d + 7) 262 0 [(0, .ref 41), (1, vi a1)] [] (Wd P Q P P c) 0 0 Z := by
  have hP := iv_P hI
  have hQ := iv_Q hI
  refine q_aload_n rfl rfl ?_
  refine q_iconst rfl ?_
  refine v_pi (z := 0) rfl rfl rfl (by decide) rfl rfl rfl (by decide) ?_
  refine q_iload_n rfl rfl ?_
  by_cases h_1 : a1 ≠ 0
  · refine v_if_ne_t (t := 16) rfl (by decide) (by omega) ?_
    refine q_iload_n rfl rfl ?_
    refine q_iconst rfl ?_
    by_cases h_2 : a1 ≠ 1
    · refine v_ic_ne_t (t := 28) rfl (by decide) (by omega) ?_
      refine q_iload_n rfl rfl ?_
      refine q_iconst rfl ?_
      by_cases h_3 : a1 ≠ 2
      · refine v_ic_ne_t (t := 40) rfl (by decide) (by omega) ?_
        refine q_iconst rfl ?_
        refine q_iret rfl rfl ?_
        have hI_4 := iw_41_0 (v := 0) hI ⟨by decide, by decide⟩
        exact K (up c 41 0 0) (-1) hI_4 (fun a j hm => up_b (by omega)) ⟨by decide, by decide⟩
      · refine v_ic_ne_f (t := 40) rfl (by decide) (by omega) ?_
        refine q_aload_n rfl rfl ?_
        have h_5 := ir_41_35 hI
        refine v_gi (z := 35) (v := c 41 35) rfl rfl rfl (by decide) rfl rfl (up_n (by decide)) ?_
        refine q_goto (t := 41) rfl (by decide) ?_
        refine q_iret rfl rfl ?_
        have hI_6 := iw_41_0 (v := 0) hI ⟨by decide, by decide⟩
        exact K (up c 41 0 0) (c 41 35) hI_6 (fun a j hm => up_b (by omega)) ⟨by omega, by omega⟩
    · refine v_ic_ne_f (t := 28) rfl (by decide) (by omega) ?_
      refine q_aload_n rfl rfl ?_
      have h_7 := ir_41_2 hI
      refine v_gi (z := 2) (v := c 41 2) rfl rfl rfl (by decide) rfl rfl (up_n (by decide)) ?_
      refine q_goto (t := 41) rfl (by decide) ?_
      refine q_iret rfl rfl ?_
      have hI_8 := iw_41_0 (v := 0) hI ⟨by decide, by decide⟩
      exact K (up c 41 0 0) (c 41 2) hI_8 (fun a j hm => up_b (by omega)) ⟨by omega, by omega⟩
  · refine v_if_ne_f (t := 16) rfl (by decide) (by omega) ?_
    refine q_aload_n rfl rfl ?_
    have h_9 := ir_41_52 hI
    refine v_gi (z := 52) (v := c 41 52) rfl rfl rfl (by decide) rfl rfl (up_n (by decide)) ?_
    refine q_goto (t := 41) rfl (by decide) ?_
    refine q_iret rfl rfl ?_
    have hI_10 := iw_41_0 (v := 0) hI ⟨by decide, by decide⟩
    exact K (up c 41 0 0) (c 41 52) hI_10 (fun a j hm => up_b (by omega)) ⟨by omega, by omega⟩

