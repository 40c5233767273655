/-! ===== contracts 14 ===== -/
set_option maxRecDepth 100000 in
set_option maxHeartbeats 4000000 in
theorem s_184_l {sc : List Int32} {e : Int} {d u P Q : Nat} {c : ME} {o : Int} {Z : AR → Prop} (hI : Iv u e P Q c) (ho : 0 ≤ o ∧ o ≤ 6) (hq0 : (c 41 5 = (-1))) (hq1 : (c 41 4 ≤ c 41 3)) (hq2 : (c 41 3 ≤ 150)) (hq3 : (3 * c 41 34 ≤ 5 * c 41 4)) (hq4 : (((c 41 34) % 5) = 0)) (hq5 : (c 41 7 = o)) (hq6 : (c 41 4 ≤ c 41 3 - 1)) (H185 : ∀ (d9 : Nat) (c : ME) (Z : AR → Prop), d ≤ d9 → o + 1 ≤ 6 → Iv u e P Q c → ((c 41 5 = (-1))) → ((c 41 4 ≤ c 41 3)) → ((c 41 3 ≤ 150)) → ((3 * c 41 34 ≤ 5 * c 41 4)) → ((((c 41 34) % 5) = 0)) → (c 41 7 = o + 1) → (∀ c2 : ME, Iv u e P Q c2 → (∀ (a : Nat) (j : Int), ¬ ((a = 41 ∧ j = 4) ∨ (a = 41 ∧ j = 5) ∨ (a = 41 ∧ j = 6) ∨ (a = 41 ∧ j = 7) ∨ (a = 41 ∧ j = 34) ∨ (a = 56 ∧ j ≥ c 41 34)) → c2 a j = c a j) → ((c2 41 4 ≥ c 41 4)) → ((c2 41 7 = c 41 7)) → ((5 * c 41 4 + 3 * c2 41 34 ≤ 3 * c 41 34 + 5 * c2 41 4)) → ((c2 41 5 < (-1)) ∨ (c2 41 5 > (-1)) ∨ (c2 41 4 ≤ c 41 3 ∧ c2 41 4 > c 41 4)) → ((((c2 41 34) % 5) = 0)) → ((c2 41 34 ≥ c 41 34)) → (c2 41 5 = -1 → Ap c2 56 (c 41 34) (c2 41 34)) → Z (.inl none, Wd P Q P P c2, 0, 0)) → Wp sc (d9 + 12) 185 0 [(0, .ref 41)] [] (Wd P Q P P c) 0 0 Z) (K : ∀ (c2 : ME), Iv u e P Q c2 → (∀ (a : Nat) (j : Int), ¬ ((a = 41 ∧ j = 4) ∨ (a = 41 ∧ j = 5) ∨ (a = 41 ∧ j = 6) ∨ (a = 41 ∧ j = 7) ∨ (a = 41 ∧ j = 34) ∨ (a = 56 ∧ j ≥ c 41 34)) → c2 a j = c a j) → ((c2 41 4 ≥ c 41 4)) → ((c2 41 7 = c 41 7)) → ((5 * c 41 4 + 3 * c2 41 34 ≤ 3 * c 41 34 + 5 * c2 41 4)) → ((c2 41 5 < (-1)) ∨ (c2 41 5 > (-1)) ∨ (c2 41 4 ≤ c 41 3 ∧ c2 41 4 > c 41 4)) → ((((c2 41 34) % 5) = 0)) → ((c2 41 34 ≥ c 41 34)) → (c2 41 5 = -1 → Ap c2 56 (c 41 34) (c2 41 34)) → Z (.inl (none), Wd P Q P P c2, 0, 0)) : ∀ n : Nat, (∀ (c2 : ME) (v1 : Int) (v2 : Int), Iv u e P Q c2 → (∀ (a : Nat) (j : Int), ¬ ((a = 41 ∧ j = 4) ∨ (a = 41 ∧ j = 5) ∨ (a = 41 ∧ j = 6) ∨ (a = 41 ∧ j = 7) ∨ (a = 41 ∧ j = 34) ∨ (a = 56 ∧ j ≥ c 41 34)) → c2 a j = c a j) → 0 ≤ v1 ∧ v1 ≤ 9999 → 0 ≤ v2 ∧ v2 ≤ 245 → ((c2 41 5 = (-1))) → ((c2 41 4 ≤ c 41 3)) → ((c2 41 4 ≥ c 41 4)) → ((c2 41 7 = c 41 7 + 1 ∧ c2 41 7 ≤ 6)) → ((5 * c 41 4 + 3 * c2 41 34 ≤ 3 * c 41 34 + 5 * c2 41 4)) → ((((c2 41 34) % 5) = 0)) → ((c2 41 34 ≥ v2 + 5)) → ((v2 = c 41 34)) → ((c2 56 v2 = 7)) → ((c2 41 4 > c 41 4)) → (Ap c2 56 (v2 + 5) (c2 41 34)) → 1211 - 2 * c2 41 4 < (n : Int) → Wp sc (d + 13) 184 41 [(0, .ref 41), (1, vi v1), (2, vi v2)] [] (Wd P Q P P c2) 0 0 Z)
  | 0 => by intro c2 v1 v2 hI2 hF hv1 hv2 hx0 hx1 hx2 hx3 hx4 hx5 hx6 hx7 hx8 hx9 hx10 hm9; have hP := iv_P hI; have hQ := iv_Q hI; have h_87 := ir_41_4 hI2; exfalso; omega
  | n + 1 => by
    have hP := iv_P hI
    have hQ := iv_Q hI
    have ih := s_184_l (sc := sc) (d := d) hI ho hq0 hq1 hq2 hq3 hq4 hq5 hq6 H185 K n
    intro c2 v1 v2 hI2 hF hv1 hv2 hx0 hx1 hx2 hx3 hx4 hx5 hx6 hx7 hx8 hx9 hx10 hm9
    have h_1 := ir_41_5 hI2
    have h_2 := ir_41_3 hI
    have h_3 := ir_41_4 hI2
    have h_4 := ir_41_4 hI
    have h_5 := ir_41_7 hI
    have h_6 := ir_41_7 hI2
    have h_7 := ir_41_34 hI
    have h_8 := ir_41_34 hI2
    have h_9 := ir_56 hI2 v2
    refine q_aload_n rfl rfl ?_
    have h_10 : c2 41 3 = c 41 3 := (hF 41 3 (by omega))
    refine v_cv rfl rfl rfl rfl (by decide) ⟨⟨rfl, rfl⟩, by decide, rfl⟩ (Nat.le_of_ble_eq_true rfl) (Nat.le_of_ble_eq_true rfl) (s_154 hI2 (fun c_11 y_14 hI_12 hF_13 hy_14 h_15 h_16 h_17 h_18 => ?_))
    refine bk_inl ?_
    have h_19 := ir_41_4 hI_12
    have h_20 := ir_43 hI (c_11 41 4)
    have h_21 : c2 43 (c_11 41 4) = c 43 (c_11 41 4) := (hF 43 (c_11 41 4) (by omega))
    refine v_bip rfl (by decide) ?_
    by_cases h_22 : y_14 = 93
    · refine v_ic_eq_t (t := 57) rfl (by decide) (by omega) ?_
      refine q_aload_n rfl rfl ?_
      refine v_bip rfl (by decide) ?_
      have h_23 : c_11 41 3 = c 41 3 := ((hF_13 41 3 (by omega)).trans (hF 41 3 (by omega)))
      have h_24 : c_11 41 5 = c2 41 5 := (hF_13 41 5 (by omega))
      refine v_cv rfl rfl rfl rfl (by decide) ⟨⟨rfl, rfl⟩, by decide, rfl⟩ (Nat.le_of_ble_eq_true rfl) (Nat.le_of_ble_eq_true rfl) (s_161 (a1 := 93) hI_12 (show 1 ≤ 93 ∧ 93 ≤ 255 from by omega) (fun c_25 hI_26 hF_27 h_28 h_29 h_30 h_31 => ?_))
      refine bk_inl ?_
      have h_32 := ir_41_4 hI_26
      have h_33 := ir_41_5 hI_26
      refine q_aload_n rfl rfl ?_
      refine q_dup rfl rfl ?_
      refine v_gi (z := 7) (v := c2 41 7) rfl rfl rfl (by decide) rfl rfl ((hF_27 41 7 (by omega)).trans (hF_13 41 7 (by omega))) ?_
      refine q_iconst rfl ?_
      refine v_isub (v := c2 41 7 - 1) rfl (by omega) ?_
      refine v_pi (z := 7) rfl rfl rfl (by decide) rfl rfl rfl (by decide) ?_
      refine q_aload_n rfl rfl ?_
      refine v_cv rfl rfl rfl rfl (by decide) ⟨⟨rfl, rfl⟩, by decide, rfl⟩ (Nat.le_of_ble_eq_true rfl) (Nat.le_of_ble_eq_true rfl) ?_
      refine q_aload_n rfl rfl ?_
      refine v_gi (z := 5) (v := c_25 41 5) rfl rfl rfl (by decide) rfl rfl (up_n (by decide)) ?_
      refine q_iconst rfl ?_
      by_cases h_34 : c_25 41 5 ≠ (-1)
      · refine v_ic_ne_t (t := 12) rfl (by decide) (by omega) ?_
        refine q_iconst rfl ?_
        refine v_zret rfl rfl (by omega) ?_
        refine bk_inl ?_
        refine v_if_eq_t (t := 92) rfl (by decide) (by decide) ?_
        refine q_vret rfl rfl ?_
        have hI_35 := iw_41_7 (v := c2 41 7 - 1) hI_26 ⟨by omega, by omega⟩
        have h_36 : (up c_25 41 7 (c2 41 7 - 1)) 41 34 = c2 41 34 := ((up_n (by decide)).trans ((hF_27 41 34 (by omega)).trans (hF_13 41 34 (by omega))))
        have h_37 : (up c_25 41 7 (c2 41 7 - 1)) 41 34 = c2 41 34 := ((up_n (by decide)).trans ((hF_27 41 34 (by omega)).trans (hF_13 41 34 (by omega))))
        have h_38 : (up c_25 41 7 (c2 41 7 - 1)) 41 4 = c_25 41 4 := (up_n (by decide))
        have h_39 : (up c_25 41 7 (c2 41 7 - 1)) 41 5 = c_25 41 5 := (up_n (by decide))
        have h_40 : (up c_25 41 7 (c2 41 7 - 1)) 41 7 = c2 41 7 - 1 := (up_e rfl)
        have hb9 : (up c_25 41 7 (c2 41 7 - 1)) 41 5 = c_25 41 5 := (up_n (by decide))
        exact K (up c_25 41 7 (c2 41 7 - 1)) hI_35 (fun a j hm => (up_b (by omega)).trans ((hF_27 a j (by omega)).trans ((hF_13 a j (by omega)).trans (hF a j (by omega))))) (by omega) (by omega) (by omega) (by omega) (by omega) (by omega) (fun h9 => absurd h9 (by omega))
      · refine v_ic_ne_f (t := 12) rfl (by decide) (by omega) ?_
        refine q_iconst rfl ?_
        refine q_goto (t := 13) rfl (by decide) ?_
        refine v_zret rfl rfl (by omega) ?_
        refine bk_inl ?_
        refine v_if_eq_f (t := 92) rfl (by decide) (by decide) ?_
        refine q_aload_n rfl rfl ?_
        refine v_gr (t := 56) rfl rfl rfl (by decide) rfl ?_
        refine q_iload_n rfl rfl ?_
        refine q_iconst rfl ?_
        refine v_iadd (v := v2 + 2) rfl (by omega) ?_
        refine q_aload_n rfl rfl ?_
        refine v_gi (z := 34) (v := c2 41 34) rfl rfl rfl (by decide) rfl rfl ((up_n (by decide)).trans ((hF_27 41 34 (by omega)).trans (hF_13 41 34 (by omega)))) ?_
        refine v_is rfl rfl (by decide) (by decide) (by omega) ?_
        refine q_vret rfl rfl ?_
        have hI_41 := iw_41_7 (v := c2 41 7 - 1) hI_26 ⟨by omega, by omega⟩
        have hI_42 := iw_again (n := v2) (v := c2 41 34) hI_41 (by omega) (by omega) (show (up c_25 41 7 (c2 41 7 - 1)) 56 v2 = 7 from (((up_c (by decide)).trans ((hF_27 56 v2 (by omega)).trans (hF_13 56 v2 (by omega))))).trans (by omega)) (by omega)
        have h_43 : (up (up c_25 41 7 (c2 41 7 - 1)) 56 (v2 + 2) (c2 41 34)) 41 34 = c2 41 34 := ((up_c (by decide)).trans ((up_n (by decide)).trans ((hF_27 41 34 (by omega)).trans (hF_13 41 34 (by omega)))))
        have h_44 : (up (up c_25 41 7 (c2 41 7 - 1)) 56 (v2 + 2) (c2 41 34)) 41 34 = c2 41 34 := ((up_c (by decide)).trans ((up_n (by decide)).trans ((hF_27 41 34 (by omega)).trans (hF_13 41 34 (by omega)))))
        have h_45 : (up (up c_25 41 7 (c2 41 7 - 1)) 56 (v2 + 2) (c2 41 34)) 41 4 = c_25 41 4 := ((up_c (by decide)).trans (up_n (by decide)))
        have h_46 : (up (up c_25 41 7 (c2 41 7 - 1)) 56 (v2 + 2) (c2 41 34)) 41 5 = c_25 41 5 := ((up_c (by decide)).trans (up_n (by decide)))
        have h_47 : (up (up c_25 41 7 (c2 41 7 - 1)) 56 (v2 + 2) (c2 41 34)) 41 7 = c2 41 7 - 1 := ((up_c (by decide)).trans (up_e rfl))
        have hb9 : (up (up c_25 41 7 (c2 41 7 - 1)) 56 (v2 + 2) (c2 41 34)) 41 5 = c_25 41 5 := ((up_c (by decide)).trans (up_n (by decide)))
        have hn9 : (up (up c_25 41 7 (c2 41 7 - 1)) 56 (v2 + 2) (c2 41 34)) 41 34 = c2 41 34 := ((up_c (by decide)).trans ((up_n (by decide)).trans ((hF_27 41 34 (by omega)).trans (hF_13 41 34 (by omega)))))
        exact K (up (up c_25 41 7 (c2 41 7 - 1)) 56 (v2 + 2) (c2 41 34)) hI_42 (fun a j hm => (up_b (by omega)).trans ((up_b (by omega)).trans ((hF_27 a j (by omega)).trans ((hF_13 a j (by omega)).trans (hF a j (by omega)))))) (by omega) (by omega) (by omega) (by omega) (by omega) (by omega) (fun h9 => ap_end (lo := v2) (c := c2) (hi := c2 41 34) hx10 (by omega) (by omega) (by omega) (by rw [show (up (up c_25 41 7 (c2 41 7 - 1)) 56 (v2 + 2) (c2 41 34)) 56 (v2 + 2) = c2 41 34 from up_e rfl]; omega) (fun j h1 h2 => (up_n (by omega)).trans ((up_c (by omega)).trans ((hF_27 56 j (by omega)).trans (hF_13 56 j (by omega))))))
    · refine v_ic_eq_f (t := 57) rfl (by decide) (by omega) ?_
      refine q_aload_n rfl rfl ?_
      have h_48 : c_11 41 5 = c2 41 5 := (hF_13 41 5 (by omega))
      have h_49 : c_11 41 3 = c 41 3 := ((hF_13 41 3 (by omega)).trans (hF 41 3 (by omega)))
      have h_50 : c_11 41 34 = c2 41 34 := (hF_13 41 34 (by omega))
      have h_51 : c_11 41 7 = c2 41 7 := (hF_13 41 7 (by omega))
      have h_52 : c_11 41 34 = c2 41 34 := (hF_13 41 34 (by omega))
      refine v_cv rfl rfl rfl rfl (by decide) ⟨⟨rfl, rfl⟩, by decide, rfl⟩ (Nat.le_of_ble_eq_true rfl) (Nat.le_of_ble_eq_true rfl) (H185 _ _ _ (by omega) (by omega) hI_12 (fun c_53 hI_54 hF_55 h_56 h_57 h_58 h_59 h_60 h_61 hA_62 => ?_))
      refine bk_inl ?_
      have h_63 := ir_41_4 hI_54
      have h_64 := ir_41_7 hI_54
      have h_65 := ir_41_34 hI_54
      have h_66 := ir_41_5 hI_54
      refine q_goto (t := 34) rfl (by decide) ?_
      refine q_aload_n rfl rfl ?_
      refine v_cv rfl rfl rfl rfl (by decide) ⟨⟨rfl, rfl⟩, by decide, rfl⟩ (Nat.le_of_ble_eq_true rfl) (Nat.le_of_ble_eq_true rfl) ?_
      refine q_aload_n rfl rfl ?_
      refine v_gi (z := 5) (v := c_53 41 5) rfl rfl rfl (by decide) rfl rfl rfl ?_
      refine q_iconst rfl ?_
      by_cases h_67 : c_53 41 5 ≠ (-1)
      · refine v_ic_ne_t (t := 12) rfl (by decide) (by omega) ?_
        refine q_iconst rfl ?_
        refine v_zret rfl rfl (by omega) ?_
        refine bk_inl ?_
        refine v_if_eq_t (t := 57) rfl (by decide) (by decide) ?_
        refine q_aload_n rfl rfl ?_
        refine v_bip rfl (by decide) ?_
        have h_68 : c_53 41 3 = c 41 3 := ((hF_55 41 3 (by omega)).trans ((hF_13 41 3 (by omega)).trans (hF 41 3 (by omega))))
        refine v_cv rfl rfl rfl rfl (by decide) ⟨⟨rfl, rfl⟩, by decide, rfl⟩ (Nat.le_of_ble_eq_true rfl) (Nat.le_of_ble_eq_true rfl) (s_161 (a1 := 93) hI_54 (show 1 ≤ 93 ∧ 93 ≤ 255 from by omega) (fun c_69 hI_70 hF_71 h_72 h_73 h_74 h_75 => ?_))
        refine bk_inl ?_
        have h_76 := ir_41_4 hI_70
        have h_77 := ir_41_5 hI_70
        refine q_aload_n rfl rfl ?_
        refine q_dup rfl rfl ?_
        refine v_gi (z := 7) (v := c_53 41 7) rfl rfl rfl (by decide) rfl rfl (hF_71 41 7 (by omega)) ?_
        refine q_iconst rfl ?_
        refine v_isub (v := c_53 41 7 - 1) rfl (by omega) ?_
        refine v_pi (z := 7) rfl rfl rfl (by decide) rfl rfl rfl (by decide) ?_
        refine q_aload_n rfl rfl ?_
        refine v_cv rfl rfl rfl rfl (by decide) ⟨⟨rfl, rfl⟩, by decide, rfl⟩ (Nat.le_of_ble_eq_true rfl) (Nat.le_of_ble_eq_true rfl) ?_
        refine q_aload_n rfl rfl ?_
        refine v_gi (z := 5) (v := c_69 41 5) rfl rfl rfl (by decide) rfl rfl (up_n (by decide)) ?_
        refine q_iconst rfl ?_
        refine v_ic_ne_t (t := 12) rfl (by decide) (by omega) ?_
        refine q_iconst rfl ?_
        refine v_zret rfl rfl (by omega) ?_
        refine bk_inl ?_
        refine v_if_eq_t (t := 92) rfl (by decide) (by decide) ?_
        refine q_vret rfl rfl ?_
        have hI_78 := iw_41_7 (v := c_53 41 7 - 1) hI_70 ⟨by omega, by omega⟩
        have h_79 : (up c_69 41 7 (c_53 41 7 - 1)) 41 34 = c_53 41 34 := ((up_n (by decide)).trans (hF_71 41 34 (by omega)))
        have h_80 : (up c_69 41 7 (c_53 41 7 - 1)) 41 34 = c_53 41 34 := ((up_n (by decide)).trans (hF_71 41 34 (by omega)))
        have h_81 : (up c_69 41 7 (c_53 41 7 - 1)) 41 4 = c_69 41 4 := (up_n (by decide))
        have h_82 : (up c_69 41 7 (c_53 41 7 - 1)) 41 5 = c_69 41 5 := (up_n (by decide))
        have h_83 : (up c_69 41 7 (c_53 41 7 - 1)) 41 7 = c_53 41 7 - 1 := (up_e rfl)
        have hb9 : (up c_69 41 7 (c_53 41 7 - 1)) 41 5 = c_69 41 5 := (up_n (by decide))
        exact K (up c_69 41 7 (c_53 41 7 - 1)) hI_78 (fun a j hm => (up_b (by omega)).trans ((hF_71 a j (by omega)).trans ((hF_55 a j (by omega)).trans ((hF_13 a j (by omega)).trans (hF a j (by omega)))))) (by omega) (by omega) (by omega) (by omega) (by omega) (by omega) (fun h9 => absurd h9 (by omega))
      · refine v_ic_ne_f (t := 12) rfl (by decide) (by omega) ?_
        refine q_iconst rfl ?_
        refine q_goto (t := 13) rfl (by decide) ?_
        refine v_zret rfl rfl (by omega) ?_
        refine bk_inl ?_
        refine v_if_eq_f (t := 57) rfl (by decide) (by decide) ?_
        refine Wp_ls [(0, .ref 41), (1, vi v1), (2, vi v2)] (lsub_cons rfl (lsub_cons rfl (lsub_cons rfl lsub_nil))) ?_
        have h_84 : c_53 56 v2 = c2 56 v2 := ((hF_55 56 v2 (by omega)).trans (hF_13 56 v2 (by omega)))
        have h_85 : c_53 41 34 = c_53 41 34 := rfl
        have h_86 : c_11 41 34 = c2 41 34 := (hF_13 41 34 (by omega))
        exact ih c_53 v1 v2 hI_54 (fun a j hm => (hF_55 a j (by omega)).trans ((hF_13 a j (by omega)).trans (hF a j (by omega)))) ⟨by omega, by omega⟩ ⟨by omega, by omega⟩ (by omega) (by omega) (by omega) (by omega) (by omega) (by omega) (by omega) (by omega) (by omega) (by omega) (ap_join (ap_fr (c2 := c_53) hx10 (by omega) rfl rfl (fun j h1 h2 => (hF_55 56 j (by omega)).trans (hF_13 56 j (by omega)))) (show c_11 41 34 = c2 41 34 from by omega) (hA_62 (by omega))) (by omega)
set_option maxRecDepth 100000 in
set_option maxHeartbeats 4000000 in
theorem s_184 {sc : List Int32} {e : Int} {d u P Q : Nat} {c : ME} {o : Int} {Z : AR → Prop} (hI : Iv u e P Q c) (ho : 0 ≤ o ∧ o ≤ 6) (hq0 : (c 41 5 = (-1))) (hq1 : (c 41 4 ≤ c 41 3)) (hq2 : (c 41 3 ≤ 150)) (hq3 : (3 * c 41 34 ≤ 5 * c 41 4)) (hq4 : (((c 41 34) % 5) = 0)) (hq5 : (c 41 7 = o)) (hq6 : (c 41 4 ≤ c 41 3 - 1)) (H185 : ∀ (d9 : Nat) (c : ME) (Z : AR → Prop), d ≤ d9 → o + 1 ≤ 6 → Iv u e P Q c → ((c 41 5 = (-1))) → ((c 41 4 ≤ c 41 3)) → ((c 41 3 ≤ 150)) → ((3 * c 41 34 ≤ 5 * c 41 4)) → ((((c 41 34) % 5) = 0)) → (c 41 7 = o + 1) → (∀ c2 : ME, Iv u e P Q c2 → (∀ (a : Nat) (j : Int), ¬ ((a = 41 ∧ j = 4) ∨ (a = 41 ∧ j = 5) ∨ (a = 41 ∧ j = 6) ∨ (a = 41 ∧ j = 7) ∨ (a = 41 ∧ j = 34) ∨ (a = 56 ∧ j ≥ c 41 34)) → c2 a j = c a j) → ((c2 41 4 ≥ c 41 4)) → ((c2 41 7 = c 41 7)) → ((5 * c 41 4 + 3 * c2 41 34 ≤ 3 * c 41 34 + 5 * c2 41 4)) → ((c2 41 5 < (-1)) ∨ (c2 41 5 > (-1)) ∨ (c2 41 4 ≤ c 41 3 ∧ c2 41 4 > c 41 4)) → ((((c2 41 34) % 5) = 0)) → ((c2 41 34 ≥ c 41 34)) → (c2 41 5 = -1 → Ap c2 56 (c 41 34) (c2 41 34)) → Z (.inl none, Wd P Q P P c2, 0, 0)) → Wp sc (d9 + 12) 185 0 [(0, .ref 41)] [] (Wd P Q P P c) 0 0 Z) (K : ∀ (c2 : ME), Iv u e P Q c2 → (∀ (a : Nat) (j : Int), ¬ ((a = 41 ∧ j = 4) ∨ (a = 41 ∧ j = 5) ∨ (a = 41 ∧ j = 6) ∨ (a = 41 ∧ j = 7) ∨ (a = 41 ∧ j = 34) ∨ (a = 56 ∧ j ≥ c 41 34)) → c2 a j = c a j) → ((c2 41 4 ≥ c 41 4)) → ((c2 41 7 = c 41 7)) → ((5 * c 41 4 + 3 * c2 41 34 ≤ 3 * c 41 34 + 5 * c2 41 4)) → ((c2 41 5 < (-1)) ∨ (c2 41 5 > (-1)) ∨ (c2 41 4 ≤ c 41 3 ∧ c2 41 4 > c 41 4)) → ((((c2 41 34) % 5) = 0)) → ((c2 41 34 ≥ c 41 34)) → (c2 41 5 = -1 → Ap c2 56 (c 41 34) (c2 41 34)) → Z (.inl (none), Wd P Q P P c2, 0, 0)) : Wp sc (d + 13) 184 0 [(0, .ref 41)] [] (Wd P Q P P c) 0 0 Z := by
  have hP := iv_P hI
  have hQ := iv_Q hI
  have h_88 := ir_41_5 hI
  have h_89 := ir_41_3 hI
  have h_90 := ir_41_4 hI
  have h_91 := ir_41_34 hI
  have h_92 := ir_41_7 hI
  refine q_aload_n rfl rfl ?_
  refine q_iconst rfl ?_
  refine v_cv rfl rfl rfl rfl (by decide) ⟨⟨rfl, rfl⟩, by decide, rfl⟩ (Nat.le_of_ble_eq_true rfl) (Nat.le_of_ble_eq_true rfl) (s_171 (a1 := 5) hI (show 1 ≤ 5 ∧ 5 ≤ 5 from by omega) (by omega) (by omega) (fun c_93 hI_94 hF_95 h_96 h_97 h_98 h_99 => ?_))
  refine bk_inl ?_
  have h_100 := ir_41_4 hI_94
  have h_101 := ir_41_7 hI_94
  have h_102 := ir_41_5 hI_94
  refine q_aload_n rfl rfl ?_
  refine q_iconst rfl ?_
  refine v_bip rfl (by decide) ?_
  have h_103 : c_93 41 3 = c 41 3 := (hF_95 41 3 (by omega))
  refine v_cv rfl rfl rfl rfl (by decide) ⟨⟨rfl, rfl⟩, by decide, rfl⟩ (Nat.le_of_ble_eq_true rfl) (Nat.le_of_ble_eq_true rfl) (s_160 (a1 := 0) (a2 := 40) hI_94 (show 0 ≤ 0 ∧ 0 ≤ 1 from by omega) (show (-1) ≤ 40 ∧ 40 ≤ 9999 from by omega) (fun c_104 y_107 hI_105 hF_106 hy_107 h_108 h_109 h_110 h_111 h_112 => ?_))
  refine bk_inl ?_
  have h_113 := ir_41_4 hI_105
  have h_114 := ir_41_5 hI_105
  refine q_istore_n rfl (by decide) ?_
  refine q_aload_n rfl rfl ?_
  refine v_bip rfl (by decide) ?_
  have h_115 : c_104 41 3 = c 41 3 := ((hF_106 41 3 (by omega)).trans (hF_95 41 3 (by omega)))
  refine v_cv rfl rfl rfl rfl (by decide) ⟨⟨rfl, rfl⟩, by decide, rfl⟩ (Nat.le_of_ble_eq_true rfl) (Nat.le_of_ble_eq_true rfl) (s_161 (a1 := 91) hI_105 (show 1 ≤ 91 ∧ 91 ≤ 255 from by omega) (fun c_116 hI_117 hF_118 h_119 h_120 h_121 h_122 => ?_))
  refine bk_inl ?_
  have h_123 := ir_41_4 hI_117
  have h_124 := ir_41_5 hI_117
  refine q_aload_n rfl rfl ?_
  refine v_gi (z := 34) (v := c 41 34) rfl rfl rfl (by decide) rfl rfl ((hF_118 41 34 (by omega)).trans ((hF_106 41 34 (by omega)).trans (hF_95 41 34 (by omega)))) ?_
  refine q_istore_n rfl (by decide) ?_
  refine q_aload_n rfl rfl ?_
  refine v_bip rfl (by decide) ?_
  refine q_iload_n rfl rfl ?_
  refine q_iconst rfl ?_
  refine q_iconst rfl ?_
  refine q_iconst rfl ?_
  have h_125 : c_116 41 34 = c 41 34 := ((hF_118 41 34 (by omega)).trans ((hF_106 41 34 (by omega)).trans (hF_95 41 34 (by omega))))
  have h_126 : c_116 41 34 = c 41 34 := ((hF_118 41 34 (by omega)).trans ((hF_106 41 34 (by omega)).trans (hF_95 41 34 (by omega))))
  refine v_cv rfl rfl rfl rfl (by decide) ⟨⟨rfl, rfl⟩, by decide, rfl⟩ (Nat.le_of_ble_eq_true rfl) (Nat.le_of_ble_eq_true rfl) (s_181 (a1 := 7) (a2 := y_107) (a3 := 0) (a4 := 0) (a5 := 0) hI_117 (show 0 ≤ 7 ∧ 7 ≤ 7 from by omega) (show 0 ≤ y_107 ∧ y_107 ≤ 40 from by omega) (show 0 ≤ 0 ∧ 0 ≤ 5 from by omega) (show 0 ≤ 0 ∧ 0 ≤ 999 from by omega) (show 0 ≤ 0 ∧ 0 ≤ 5 from by omega) (by omega) (by omega) (by omega) (by omega) (by omega) (by omega) (by omega) (by omega) (by omega) (fun c_127 hI_128 hF_129 h_130 h_131 h_132 => ?_))
  refine bk_inl ?_
  have h_133 := ir_41_34 hI_128
  have h_134 : c_127 56 ((c_116 41 34)) = c_127 56 (c 41 34) := congrArg (c_127 56) (by omega)
  have h_135 := ir_56 hI_128 (c 41 34)
  refine q_aload_n rfl rfl ?_
  refine v_cv rfl rfl rfl rfl (by decide) ⟨⟨rfl, rfl⟩, by decide, rfl⟩ (Nat.le_of_ble_eq_true rfl) (Nat.le_of_ble_eq_true rfl) ?_
  refine q_aload_n rfl rfl ?_
  refine v_gi (z := 5) (v := c_116 41 5) rfl rfl rfl (by decide) rfl rfl (hF_129 41 5 (by omega)) ?_
  refine q_iconst rfl ?_
  by_cases h_136 : c_116 41 5 ≠ (-1)
  · refine v_ic_ne_t (t := 12) rfl (by decide) (by omega) ?_
    refine q_iconst rfl ?_
    refine v_zret rfl rfl (by omega) ?_
    refine bk_inl ?_
    refine v_if_eq_t (t := 57) rfl (by decide) (by decide) ?_
    refine q_aload_n rfl rfl ?_
    refine v_bip rfl (by decide) ?_
    have h_137 : c_127 41 4 = c_116 41 4 := (hF_129 41 4 (by omega))
    have h_138 : c_127 41 3 = c 41 3 := ((hF_129 41 3 (by omega)).trans ((hF_118 41 3 (by omega)).trans ((hF_106 41 3 (by omega)).trans (hF_95 41 3 (by omega)))))
    have h_139 : c_127 41 5 = c_116 41 5 := (hF_129 41 5 (by omega))
    refine v_cv rfl rfl rfl rfl (by decide) ⟨⟨rfl, rfl⟩, by decide, rfl⟩ (Nat.le_of_ble_eq_true rfl) (Nat.le_of_ble_eq_true rfl) (s_161 (a1 := 93) hI_128 (show 1 ≤ 93 ∧ 93 ≤ 255 from by omega) (fun c_140 hI_141 hF_142 h_143 h_144 h_145 h_146 => ?_))
    refine bk_inl ?_
    have h_147 := ir_41_4 hI_141
    have h_148 := ir_41_5 hI_141
    refine q_aload_n rfl rfl ?_
    refine q_dup rfl rfl ?_
    refine v_gi (z := 7) (v := c_93 41 7) rfl rfl rfl (by decide) rfl rfl ((hF_142 41 7 (by omega)).trans ((hF_129 41 7 (by omega)).trans ((hF_118 41 7 (by omega)).trans (hF_106 41 7 (by omega))))) ?_
    refine q_iconst rfl ?_
    refine v_isub (v := c_93 41 7 - 1) rfl (by omega) ?_
    refine v_pi (z := 7) rfl rfl rfl (by decide) rfl rfl rfl (by decide) ?_
    refine q_aload_n rfl rfl ?_
    refine v_cv rfl rfl rfl rfl (by decide) ⟨⟨rfl, rfl⟩, by decide, rfl⟩ (Nat.le_of_ble_eq_true rfl) (Nat.le_of_ble_eq_true rfl) ?_
    refine q_aload_n rfl rfl ?_
    refine v_gi (z := 5) (v := c_140 41 5) rfl rfl rfl (by decide) rfl rfl (up_n (by decide)) ?_
    refine q_iconst rfl ?_
    refine v_ic_ne_t (t := 12) rfl (by decide) (by omega) ?_
    refine q_iconst rfl ?_
    refine v_zret rfl rfl (by omega) ?_
    refine bk_inl ?_
    refine v_if_eq_t (t := 92) rfl (by decide) (by decide) ?_
    refine q_vret rfl rfl ?_
    have hI_149 := iw_41_7 (v := c_93 41 7 - 1) hI_141 ⟨by omega, by omega⟩
    have h_150 : (up c_140 41 7 (c_93 41 7 - 1)) 41 34 = c_127 41 34 := ((up_n (by decide)).trans (hF_142 41 34 (by omega)))
    have h_151 : (up c_140 41 7 (c_93 41 7 - 1)) 41 34 = c_127 41 34 := ((up_n (by decide)).trans (hF_142 41 34 (by omega)))
    have h_152 : (up c_140 41 7 (c_93 41 7 - 1)) 41 4 = c_140 41 4 := (up_n (by decide))
    have h_153 : (up c_140 41 7 (c_93 41 7 - 1)) 41 5 = c_140 41 5 := (up_n (by decide))
    have h_154 : (up c_140 41 7 (c_93 41 7 - 1)) 41 7 = c_93 41 7 - 1 := (up_e rfl)
    have hb9 : (up c_140 41 7 (c_93 41 7 - 1)) 41 5 = c_140 41 5 := (up_n (by decide))
    exact K (up c_140 41 7 (c_93 41 7 - 1)) hI_149 (fun a j hm => (up_b (by omega)).trans ((hF_142 a j (by omega)).trans ((hF_129 a j (by omega)).trans ((hF_118 a j (by omega)).trans ((hF_106 a j (by omega)).trans (hF_95 a j (by omega))))))) (by omega) (by omega) (by omega) (by omega) (by omega) (by omega) (fun h9 => absurd h9 (by omega))
  · refine v_ic_ne_f (t := 12) rfl (by decide) (by omega) ?_
    refine q_iconst rfl ?_
    refine q_goto (t := 13) rfl (by decide) ?_
    refine v_zret rfl rfl (by omega) ?_
    refine bk_inl ?_
    refine v_if_eq_f (t := 57) rfl (by decide) (by decide) ?_
    refine Wp_ls [(0, .ref 41), (1, vi y_107), (2, vi (c 41 34))] (lsub_cons rfl (lsub_cons rfl (lsub_cons rfl lsub_nil))) ?_
    have h_155 : c_127 41 4 = c_116 41 4 := (hF_129 41 4 (by omega))
    have h_156 : c_127 41 5 = c_116 41 5 := (hF_129 41 5 (by omega))
    have h_157 : c_127 41 7 = c_93 41 7 := ((hF_129 41 7 (by omega)).trans ((hF_118 41 7 (by omega)).trans (hF_106 41 7 (by omega))))
    have h_158 : c_127 41 34 = c_127 41 34 := rfl
    exact (s_184_l (sc := sc) (d := d) hI ho hq0 hq1 hq2 hq3 hq4 hq5 hq6 H185 K 1214) c_127 y_107 (c 41 34) hI_128 (fun a j hm => (hF_129 a j (by omega)).trans ((hF_118 a j (by omega)).trans ((hF_106 a j (by omega)).trans (hF_95 a j (by omega))))) ⟨by omega, by omega⟩ ⟨by omega, by omega⟩ (by omega) (by omega) (by omega) (by omega) (by omega) (by omega) (by omega) (by omega) (by omega) (by omega) (ap_nil (by omega)) (by omega)

set_option maxRecDepth 100000 in
set_option maxHeartbeats 4000000 in
theorem s_185 {sc : List Int32} {e : Int} {d u P Q : Nat} {c : ME} {o : Int} {Z : AR → Prop} (hI : Iv u e P Q c) (ho : 0 ≤ o ∧ o ≤ 6) (hq0 : (c 41 5 = (-1))) (hq1 : (c 41 4 ≤ c 41 3)) (hq2 : (c 41 3 ≤ 150)) (hq3 : (3 * c 41 34 ≤ 5 * c 41 4)) (hq4 : (((c 41 34) % 5) = 0)) (hq5 : (c 41 7 = o)) (H185 : ∀ (d9 : Nat) (c : ME) (Z : AR → Prop), d ≤ d9 → o + 1 ≤ 6 → Iv u e P Q c → ((c 41 5 = (-1))) → ((c 41 4 ≤ c 41 3)) → ((c 41 3 ≤ 150)) → ((3 * c 41 34 ≤ 5 * c 41 4)) → ((((c 41 34) % 5) = 0)) → (c 41 7 = o + 1) → (∀ c2 : ME, Iv u e P Q c2 → (∀ (a : Nat) (j : Int), ¬ ((a = 41 ∧ j = 4) ∨ (a = 41 ∧ j = 5) ∨ (a = 41 ∧ j = 6) ∨ (a = 41 ∧ j = 7) ∨ (a = 41 ∧ j = 34) ∨ (a = 56 ∧ j ≥ c 41 34)) → c2 a j = c a j) → ((c2 41 4 ≥ c 41 4)) → ((c2 41 7 = c 41 7)) → ((5 * c 41 4 + 3 * c2 41 34 ≤ 3 * c 41 34 + 5 * c2 41 4)) → ((c2 41 5 < (-1)) ∨ (c2 41 5 > (-1)) ∨ (c2 41 4 ≤ c 41 3 ∧ c2 41 4 > c 41 4)) → ((((c2 41 34) % 5) = 0)) → ((c2 41 34 ≥ c 41 34)) → (c2 41 5 = -1 → Ap c2 56 (c 41 34) (c2 41 34)) → Z (.inl none, Wd P Q P P c2, 0, 0)) → Wp sc (d9 + 12) 185 0 [(0, .ref 41)] [] (Wd P Q P P c) 0 0 Z) (K : ∀ (c2 : ME), Iv u e P Q c2 → (∀ (a : Nat) (j : Int), ¬ ((a = 41 ∧ j = 4) ∨ (a = 41 ∧ j = 5) ∨ (a = 41 ∧ j = 6) ∨ (a = 41 ∧ j = 7) ∨ (a = 41 ∧ j = 34) ∨ (a = 56 ∧ j ≥ c 41 34)) → c2 a j = c a j) → ((c2 41 4 ≥ c 41 4)) → ((c2 41 7 = c 41 7)) → ((5 * c 41 4 + 3 * c2 41 34 ≤ 3 * c 41 34 + 5 * c2 41 4)) → ((c2 41 5 < (-1)) ∨ (c2 41 5 > (-1)) ∨ (c2 41 4 ≤ c 41 3 ∧ c2 41 4 > c 41 4)) → ((((c2 41 34) % 5) = 0)) → ((c2 41 34 ≥ c 41 34)) → (c2 41 5 = -1 → Ap c2 56 (c 41 34) (c2 41 34)) → Z (.inl (none), Wd P Q P P c2, 0, 0)) : Wp sc (d + 14) 185 0 [(0, .ref 41)] [] (Wd P Q P P c) 0 0 Z := by
  have hP := iv_P hI
  have hQ := iv_Q hI
  have h_1 := ir_41_5 hI
  have h_2 := ir_41_3 hI
  have h_3 := ir_41_4 hI
  have h_4 := ir_41_34 hI
  have h_5 := ir_41_7 hI
  refine q_aload_n rfl rfl ?_
  refine v_cv rfl rfl rfl rfl (by decide) ⟨⟨rfl, rfl⟩, by decide, rfl⟩ (Nat.le_of_ble_eq_true rfl) (Nat.le_of_ble_eq_true rfl) (s_157 hI (fun c_6 y_9 hI_7 hF_8 hy_9 h_10 h_11 h_12 h_13 h_14 => ?_))
  refine bk_inl ?_
  have h_15 := ir_41_4 hI_7
  have h_16 := ir_43 hI (c_6 41 4)
  have h_17 := ir_43 hI (c_6 41 4 + 1)
  have h_18 := ir_43 hI (c_6 41 4 + 2)
  refine q_call rfl rfl rfl rfl (s_182 (a0 := y_9) hI_7 (show (-2147483648) ≤ y_9 ∧ y_9 ≤ 2147483647 from by omega) (fun y_19 hy_19 h_20 => ?_))
  refine bk_inl ?_
  refine q_istore_n rfl (by decide) ?_
  refine q_iload_n rfl rfl ?_
  refine q_iconst rfl ?_
  by_cases h_21 : y_19 ≠ (-1)
  · refine v_ic_ne_t (t := 25) rfl (by decide) (by omega) ?_
    refine q_iload_n rfl rfl ?_
    refine v_bip rfl (by decide) ?_
    by_cases h_22 : y_19 ≠ 7
    · refine v_ic_ne_t (t := 38) rfl (by decide) (by omega) ?_
      refine q_aload_n rfl rfl ?_
      have h_23 : c_6 41 3 = c 41 3 := (hF_8 41 3 (by omega))
      have h_24 : c_6 43 (c_6 41 4) = c 43 (c_6 41 4) := (hF_8 43 (c_6 41 4) (by omega))
      have h_25 : c_6 43 (c_6 41 4 + 1) = c 43 (c_6 41 4 + 1) := (hF_8 43 (c_6 41 4 + 1) (by omega))
      have h_26 : c_6 43 (c_6 41 4 + 2) = c 43 (c_6 41 4 + 2) := (hF_8 43 (c_6 41 4 + 2) (by omega))
      refine v_cv rfl rfl rfl rfl (by decide) ⟨⟨rfl, rfl⟩, by decide, rfl⟩ (Nat.le_of_ble_eq_true rfl) (Nat.le_of_ble_eq_true rfl) (s_159 hI_7 (fun c_27 hI_28 hF_29 h_30 h_31 h_32 h_33 => ?_))
      refine bk_inl ?_
      have h_34 := ir_41_4 hI_28
      refine q_iload_n rfl rfl ?_
      refine v_bip rfl (by decide) ?_
      by_cases h_35 : y_19 ≠ 6
      · refine v_ic_ne_t (t := 52) rfl (by decide) (by omega) ?_
        refine q_iload_n rfl rfl ?_
        by_cases h_36 : y_19 ≠ 0
        · refine v_if_ne_t (t := 70) rfl (by decide) (by omega) ?_
          refine q_iload_n rfl rfl ?_
          refine q_iconst rfl ?_
          by_cases h_37 : y_19 = 1
          · refine v_ic_eq_t (t := 80) rfl (by decide) (by omega) ?_
            refine q_aload_n rfl rfl ?_
            refine q_iconst rfl ?_
            refine q_aload_n rfl rfl ?_
            have h_38 := ir_41_22 hI
            refine v_gi (z := 22) (v := c 41 22) rfl rfl rfl (by decide) rfl rfl ((hF_29 41 22 (by omega)).trans (hF_8 41 22 (by omega))) ?_
            refine q_iconst rfl ?_
            refine v_isub (v := c 41 22 - 1) rfl (by omega) ?_
            have h_39 : c_27 41 3 = c 41 3 := ((hF_29 41 3 (by omega)).trans (hF_8 41 3 (by omega)))
            have h_40 : c_27 41 5 = c 41 5 := ((hF_29 41 5 (by omega)).trans (hF_8 41 5 (by omega)))
            refine v_cv rfl rfl rfl rfl (by decide) ⟨⟨rfl, rfl⟩, by decide, rfl⟩ (Nat.le_of_ble_eq_true rfl) (Nat.le_of_ble_eq_true rfl) (s_160 (a1 := 0) (a2 := c 41 22 - 1) hI_28 (show 0 ≤ 0 ∧ 0 ≤ 1 from by omega) (show (-1) ≤ c 41 22 - 1 ∧ c 41 22 - 1 ≤ 9999 from by omega) (fun c_41 y_44 hI_42 hF_43 hy_44 h_45 h_46 h_47 h_48 h_49 => ?_))
            refine bk_inl ?_
            have h_50 := ir_41_4 hI_42
            have h_51 := ir_41_5 hI_42
            refine q_goto (t := 98) rfl (by decide) ?_
            refine q_istore_n rfl (by decide) ?_
            refine q_iload_n rfl rfl ?_
            refine q_iconst rfl ?_
            refine v_ic_ge_f (t := 111) rfl (by decide) (by omega) ?_
            refine q_aload_n rfl rfl ?_
            have h_52 : c_41 41 3 = c 41 3 := ((hF_43 41 3 (by omega)).trans ((hF_29 41 3 (by omega)).trans (hF_8 41 3 (by omega))))
            refine v_cv rfl rfl rfl rfl (by decide) ⟨⟨rfl, rfl⟩, by decide, rfl⟩ (Nat.le_of_ble_eq_true rfl) (Nat.le_of_ble_eq_true rfl) (s_183 hI_42 (fun c_53 y_56 hI_54 hF_55 hy_56 h_57 h_58 h_59 h_60 => ?_))
            refine bk_inl ?_
            have h_61 := ir_41_4 hI_54
            have h_62 := ir_41_5 hI_54
            refine q_goto (t := 112) rfl (by decide) ?_
            refine q_istore_n rfl (by decide) ?_
            refine q_iload_n rfl rfl ?_
            refine q_iconst rfl ?_
            refine v_ic_ne_f (t := 125) rfl (by decide) (by omega) ?_
            refine q_aload_n rfl rfl ?_
            have h_63 : c_53 41 3 = c 41 3 := ((hF_55 41 3 (by omega)).trans ((hF_43 41 3 (by omega)).trans ((hF_29 41 3 (by omega)).trans (hF_8 41 3 (by omega)))))
            refine v_cv rfl rfl rfl rfl (by decide) ⟨⟨rfl, rfl⟩, by decide, rfl⟩ (Nat.le_of_ble_eq_true rfl) (Nat.le_of_ble_eq_true rfl) (s_183 hI_54 (fun c_64 y_67 hI_65 hF_66 hy_67 h_68 h_69 h_70 h_71 => ?_))
            refine bk_inl ?_
            have h_72 := ir_41_4 hI_65
            have h_73 := ir_41_5 hI_65
            refine q_goto (t := 142) rfl (by decide) ?_
            refine q_istore rfl (by decide) ?_
            refine q_aload_n rfl rfl ?_
            refine q_iload_n rfl rfl ?_
            refine q_iload_n rfl rfl ?_
            refine q_iload_n rfl rfl ?_
            refine q_iload rfl rfl ?_
            refine q_iload_n rfl rfl ?_
            refine q_iconst rfl ?_
            refine v_ic_ne_f (t := 162) rfl (by decide) (by omega) ?_
            refine q_aload_n rfl rfl ?_
            have h_74 : c_64 41 3 = c 41 3 := ((hF_66 41 3 (by omega)).trans ((hF_55 41 3 (by omega)).trans ((hF_43 41 3 (by omega)).trans ((hF_29 41 3 (by omega)).trans (hF_8 41 3 (by omega))))))
            refine v_cv rfl rfl rfl rfl (by decide) ⟨⟨rfl, rfl⟩, by decide, rfl⟩ (Nat.le_of_ble_eq_true rfl) (Nat.le_of_ble_eq_true rfl) (s_183 hI_65 (fun c_75 y_78 hI_76 hF_77 hy_78 h_79 h_80 h_81 h_82 => ?_))
            refine bk_inl ?_
            have h_83 := ir_41_4 hI_76
            have h_84 := ir_41_5 hI_76
            refine q_goto (t := 163) rfl (by decide) ?_
            have h_85 : c_75 41 34 = c 41 34 := ((hF_77 41 34 (by omega)).trans ((hF_66 41 34 (by omega)).trans ((hF_55 41 34 (by omega)).trans ((hF_43 41 34 (by omega)).trans ((hF_29 41 34 (by omega)).trans (hF_8 41 34 (by omega)))))))
            have h_86 : c_75 41 34 = c 41 34 := ((hF_77 41 34 (by omega)).trans ((hF_66 41 34 (by omega)).trans ((hF_55 41 34 (by omega)).trans ((hF_43 41 34 (by omega)).trans ((hF_29 41 34 (by omega)).trans (hF_8 41 34 (by omega)))))))
            refine v_cv rfl rfl rfl rfl (by decide) ⟨⟨rfl, rfl⟩, by decide, rfl⟩ (Nat.le_of_ble_eq_true rfl) (Nat.le_of_ble_eq_true rfl) (s_181 (a1 := y_19) (a2 := y_44) (a3 := y_56) (a4 := y_67) (a5 := y_78) hI_76 (show 0 ≤ y_19 ∧ y_19 ≤ 7 from by omega) (show 0 ≤ y_44 ∧ y_44 ≤ 40 from by omega) (show 0 ≤ y_56 ∧ y_56 ≤ 5 from by omega) (show 0 ≤ y_67 ∧ y_67 ≤ 999 from by omega) (show 0 ≤ y_78 ∧ y_78 ≤ 5 from by omega) (by omega) (by omega) (by omega) (by omega) (by omega) (by omega) (by omega) (by omega) (by omega) (fun c_87 hI_88 hF_89 h_90 h_91 h_92 => ?_))
            refine bk_inl ?_
            have h_93 := ir_41_34 hI_88
            have h_94 : c_87 56 ((c_75 41 34)) = c_87 56 (c 41 34) := congrArg (c_87 56) (by omega)
            have h_95 := ir_56 hI_88 (c 41 34)
            refine q_aload_n rfl rfl ?_
            refine v_bip rfl (by decide) ?_
            have h_96 : c_87 41 4 = c_75 41 4 := (hF_89 41 4 (by omega))
            have h_97 : c_87 41 3 = c 41 3 := ((hF_89 41 3 (by omega)).trans ((hF_77 41 3 (by omega)).trans ((hF_66 41 3 (by omega)).trans ((hF_55 41 3 (by omega)).trans ((hF_43 41 3 (by omega)).trans ((hF_29 41 3 (by omega)).trans (hF_8 41 3 (by omega))))))))
            have h_98 : c_87 41 5 = c_75 41 5 := (hF_89 41 5 (by omega))
            refine v_cv rfl rfl rfl rfl (by decide) ⟨⟨rfl, rfl⟩, by decide, rfl⟩ (Nat.le_of_ble_eq_true rfl) (Nat.le_of_ble_eq_true rfl) (s_161 (a1 := 59) hI_88 (show 1 ≤ 59 ∧ 59 ≤ 255 from by omega) (fun c_99 hI_100 hF_101 h_102 h_103 h_104 h_105 => ?_))
            refine bk_inl ?_
            have h_106 := ir_41_4 hI_100
            have h_107 := ir_41_5 hI_100
            refine q_vret rfl rfl ?_
            have h_108 : c_99 41 34 = c_87 41 34 := (hF_101 41 34 (by omega))
            have h_109 : c_99 41 34 = c_87 41 34 := (hF_101 41 34 (by omega))
            have h_110 : c_99 41 7 = c 41 7 := ((hF_101 41 7 (by omega)).trans ((hF_89 41 7 (by omega)).trans ((hF_77 41 7 (by omega)).trans ((hF_66 41 7 (by omega)).trans ((hF_55 41 7 (by omega)).trans ((hF_43 41 7 (by omega)).trans ((hF_29 41 7 (by omega)).trans (hF_8 41 7 (by omega)))))))))
            have hb9 : c_99 41 5 = c_99 41 5 := rfl
            have hn9 : c_99 41 34 = c_87 41 34 := (hF_101 41 34 (by omega))
            have hq9 : c_99 56 (c 41 34) = c_87 56 (c 41 34) := (hF_101 56 (c 41 34) (by omega))
            exact K c_99 hI_100 (fun a j hm => (hF_101 a j (by omega)).trans ((hF_89 a j (by omega)).trans ((hF_77 a j (by omega)).trans ((hF_66 a j (by omega)).trans ((hF_55 a j (by omega)).trans ((hF_43 a j (by omega)).trans ((hF_29 a j (by omega)).trans (hF_8 a j (by omega))))))))) (by omega) (by omega) (by omega) (by omega) (by omega) (by omega) (fun h9 => ap_one (by omega) (by omega) (by omega))
          · refine v_ic_eq_f (t := 80) rfl (by decide) (by omega) ?_
            refine q_iload_n rfl rfl ?_
            refine q_iconst rfl ?_
            by_cases h_111 : y_19 ≠ 4
            · refine v_ic_ne_t (t := 94) rfl (by decide) (by omega) ?_
              refine q_aload_n rfl rfl ?_
              have h_112 : c_27 41 3 = c 41 3 := ((hF_29 41 3 (by omega)).trans (hF_8 41 3 (by omega)))
              have h_113 : c_27 41 5 = c 41 5 := ((hF_29 41 5 (by omega)).trans (hF_8 41 5 (by omega)))
              refine v_cv rfl rfl rfl rfl (by decide) ⟨⟨rfl, rfl⟩, by decide, rfl⟩ (Nat.le_of_ble_eq_true rfl) (Nat.le_of_ble_eq_true rfl) (s_183 hI_28 (fun c_114 y_117 hI_115 hF_116 hy_117 h_118 h_119 h_120 h_121 => ?_))
              refine bk_inl ?_
              have h_122 := ir_41_4 hI_115
              have h_123 := ir_41_5 hI_115
              refine q_istore_n rfl (by decide) ?_
              refine q_iload_n rfl rfl ?_
              refine q_iconst rfl ?_
              by_cases h_124 : y_19 ≥ 4
              · refine v_ic_ge_t (t := 111) rfl (by decide) (by omega) ?_
                refine q_iconst rfl ?_
                refine q_istore_n rfl (by decide) ?_
                refine q_iload_n rfl rfl ?_
                refine q_iconst rfl ?_
                refine v_ic_ne_t (t := 125) rfl (by decide) (by omega) ?_
                refine q_iload_n rfl rfl ?_
                refine q_iconst rfl ?_
                refine v_ic_ne_t (t := 141) rfl (by decide) (by omega) ?_
                refine q_iconst rfl ?_
                refine q_istore rfl (by decide) ?_
                refine q_aload_n rfl rfl ?_
                refine q_iload_n rfl rfl ?_
                refine q_iload_n rfl rfl ?_
                refine q_iload_n rfl rfl ?_
                refine q_iload rfl rfl ?_
                refine q_iload_n rfl rfl ?_
                refine q_iconst rfl ?_
                refine v_ic_ne_t (t := 162) rfl (by decide) (by omega) ?_
                refine q_iconst rfl ?_
                have h_125 : c_114 41 34 = c 41 34 := ((hF_116 41 34 (by omega)).trans ((hF_29 41 34 (by omega)).trans (hF_8 41 34 (by omega))))
                have h_126 : c_114 41 34 = c 41 34 := ((hF_116 41 34 (by omega)).trans ((hF_29 41 34 (by omega)).trans (hF_8 41 34 (by omega))))
                refine v_cv rfl rfl rfl rfl (by decide) ⟨⟨rfl, rfl⟩, by decide, rfl⟩ (Nat.le_of_ble_eq_true rfl) (Nat.le_of_ble_eq_true rfl) (s_181 (a1 := y_19) (a2 := y_117) (a3 := 0) (a4 := 0) (a5 := 0) hI_115 (show 0 ≤ y_19 ∧ y_19 ≤ 7 from by omega) (show 0 ≤ y_117 ∧ y_117 ≤ 40 from by omega) (show 0 ≤ 0 ∧ 0 ≤ 5 from by omega) (show 0 ≤ 0 ∧ 0 ≤ 999 from by omega) (show 0 ≤ 0 ∧ 0 ≤ 5 from by omega) (by omega) (by omega) (by omega) (by omega) (by omega) (by omega) (by omega) (by omega) (by omega) (fun c_127 hI_128 hF_129 h_130 h_131 h_132 => ?_))
                refine bk_inl ?_
                have h_133 := ir_41_34 hI_128
                have h_134 : c_127 56 ((c_114 41 34)) = c_127 56 (c 41 34) := congrArg (c_127 56) (by omega)
                have h_135 := ir_56 hI_128 (c 41 34)
                refine q_aload_n rfl rfl ?_
                refine v_bip rfl (by decide) ?_
                have h_136 : c_127 41 4 = c_114 41 4 := (hF_129 41 4 (by omega))
                have h_137 : c_127 41 3 = c 41 3 := ((hF_129 41 3 (by omega)).trans ((hF_116 41 3 (by omega)).trans ((hF_29 41 3 (by omega)).trans (hF_8 41 3 (by omega)))))
                have h_138 : c_127 41 5 = c_114 41 5 := (hF_129 41 5 (by omega))
                refine v_cv rfl rfl rfl rfl (by decide) ⟨⟨rfl, rfl⟩, by decide, rfl⟩ (Nat.le_of_ble_eq_true rfl) (Nat.le_of_ble_eq_true rfl) (s_161 (a1 := 59) hI_128 (show 1 ≤ 59 ∧ 59 ≤ 255 from by omega) (fun c_139 hI_140 hF_141 h_142 h_143 h_144 h_145 => ?_))
                refine bk_inl ?_
                have h_146 := ir_41_4 hI_140
                have h_147 := ir_41_5 hI_140
                refine q_vret rfl rfl ?_
                have h_148 : c_139 41 34 = c_127 41 34 := (hF_141 41 34 (by omega))
                have h_149 : c_139 41 34 = c_127 41 34 := (hF_141 41 34 (by omega))
                have h_150 : c_139 41 7 = c 41 7 := ((hF_141 41 7 (by omega)).trans ((hF_129 41 7 (by omega)).trans ((hF_116 41 7 (by omega)).trans ((hF_29 41 7 (by omega)).trans (hF_8 41 7 (by omega))))))
                have hb9 : c_139 41 5 = c_139 41 5 := rfl
                have hn9 : c_139 41 34 = c_127 41 34 := (hF_141 41 34 (by omega))
                have hq9 : c_139 56 (c 41 34) = c_127 56 (c 41 34) := (hF_141 56 (c 41 34) (by omega))
                exact K c_139 hI_140 (fun a j hm => (hF_141 a j (by omega)).trans ((hF_129 a j (by omega)).trans ((hF_116 a j (by omega)).trans ((hF_29 a j (by omega)).trans (hF_8 a j (by omega)))))) (by omega) (by omega) (by omega) (by omega) (by omega) (by omega) (fun h9 => ap_one (by omega) (by omega) (by omega))
              · refine v_ic_ge_f (t := 111) rfl (by decide) (by omega) ?_
                refine q_aload_n rfl rfl ?_
                have h_151 : c_114 41 3 = c 41 3 := ((hF_116 41 3 (by omega)).trans ((hF_29 41 3 (by omega)).trans (hF_8 41 3 (by omega))))
                refine v_cv rfl rfl rfl rfl (by decide) ⟨⟨rfl, rfl⟩, by decide, rfl⟩ (Nat.le_of_ble_eq_true rfl) (Nat.le_of_ble_eq_true rfl) (s_183 hI_115 (fun c_152 y_155 hI_153 hF_154 hy_155 h_156 h_157 h_158 h_159 => ?_))
                refine bk_inl ?_
                have h_160 := ir_41_4 hI_153
                have h_161 := ir_41_5 hI_153
                refine q_goto (t := 112) rfl (by decide) ?_
                refine q_istore_n rfl (by decide) ?_
                refine q_iload_n rfl rfl ?_
                refine q_iconst rfl ?_
                refine v_ic_ne_t (t := 125) rfl (by decide) (by omega) ?_
                refine q_iload_n rfl rfl ?_
                refine q_iconst rfl ?_
                by_cases h_162 : y_19 ≠ 3
                · refine v_ic_ne_t (t := 141) rfl (by decide) (by omega) ?_
                  refine q_iconst rfl ?_
                  refine q_istore rfl (by decide) ?_
                  refine q_aload_n rfl rfl ?_
                  refine q_iload_n rfl rfl ?_
                  refine q_iload_n rfl rfl ?_
                  refine q_iload_n rfl rfl ?_
                  refine q_iload rfl rfl ?_
                  refine q_iload_n rfl rfl ?_
                  refine q_iconst rfl ?_
                  refine v_ic_ne_t (t := 162) rfl (by decide) (by omega) ?_
                  refine q_iconst rfl ?_
                  have h_163 : c_152 41 34 = c 41 34 := ((hF_154 41 34 (by omega)).trans ((hF_116 41 34 (by omega)).trans ((hF_29 41 34 (by omega)).trans (hF_8 41 34 (by omega)))))
                  have h_164 : c_152 41 34 = c 41 34 := ((hF_154 41 34 (by omega)).trans ((hF_116 41 34 (by omega)).trans ((hF_29 41 34 (by omega)).trans (hF_8 41 34 (by omega)))))
                  refine v_cv rfl rfl rfl rfl (by decide) ⟨⟨rfl, rfl⟩, by decide, rfl⟩ (Nat.le_of_ble_eq_true rfl) (Nat.le_of_ble_eq_true rfl) (s_181 (a1 := y_19) (a2 := y_117) (a3 := y_155) (a4 := 0) (a5 := 0) hI_153 (show 0 ≤ y_19 ∧ y_19 ≤ 7 from by omega) (show 0 ≤ y_117 ∧ y_117 ≤ 40 from by omega) (show 0 ≤ y_155 ∧ y_155 ≤ 5 from by omega) (show 0 ≤ 0 ∧ 0 ≤ 999 from by omega) (show 0 ≤ 0 ∧ 0 ≤ 5 from by omega) (by omega) (by omega) (by omega) (by omega) (by omega) (by omega) (by omega) (by omega) (by omega) (fun c_165 hI_166 hF_167 h_168 h_169 h_170 => ?_))
                  refine bk_inl ?_
                  have h_171 := ir_41_34 hI_166
                  have h_172 : c_165 56 ((c_152 41 34)) = c_165 56 (c 41 34) := congrArg (c_165 56) (by omega)
                  have h_173 := ir_56 hI_166 (c 41 34)
                  refine q_aload_n rfl rfl ?_
                  refine v_bip rfl (by decide) ?_
                  have h_174 : c_165 41 4 = c_152 41 4 := (hF_167 41 4 (by omega))
                  have h_175 : c_165 41 3 = c 41 3 := ((hF_167 41 3 (by omega)).trans ((hF_154 41 3 (by omega)).trans ((hF_116 41 3 (by omega)).trans ((hF_29 41 3 (by omega)).trans (hF_8 41 3 (by omega))))))
                  have h_176 : c_165 41 5 = c_152 41 5 := (hF_167 41 5 (by omega))
                  refine v_cv rfl rfl rfl rfl (by decide) ⟨⟨rfl, rfl⟩, by decide, rfl⟩ (Nat.le_of_ble_eq_true rfl) (Nat.le_of_ble_eq_true rfl) (s_161 (a1 := 59) hI_166 (show 1 ≤ 59 ∧ 59 ≤ 255 from by omega) (fun c_177 hI_178 hF_179 h_180 h_181 h_182 h_183 => ?_))
                  refine bk_inl ?_
                  have h_184 := ir_41_4 hI_178
                  have h_185 := ir_41_5 hI_178
                  refine q_vret rfl rfl ?_
                  have h_186 : c_177 41 34 = c_165 41 34 := (hF_179 41 34 (by omega))
                  have h_187 : c_177 41 34 = c_165 41 34 := (hF_179 41 34 (by omega))
                  have h_188 : c_177 41 7 = c 41 7 := ((hF_179 41 7 (by omega)).trans ((hF_167 41 7 (by omega)).trans ((hF_154 41 7 (by omega)).trans ((hF_116 41 7 (by omega)).trans ((hF_29 41 7 (by omega)).trans (hF_8 41 7 (by omega)))))))
                  have hb9 : c_177 41 5 = c_177 41 5 := rfl
                  have hn9 : c_177 41 34 = c_165 41 34 := (hF_179 41 34 (by omega))
                  have hq9 : c_177 56 (c 41 34) = c_165 56 (c 41 34) := (hF_179 56 (c 41 34) (by omega))
                  exact K c_177 hI_178 (fun a j hm => (hF_179 a j (by omega)).trans ((hF_167 a j (by omega)).trans ((hF_154 a j (by omega)).trans ((hF_116 a j (by omega)).trans ((hF_29 a j (by omega)).trans (hF_8 a j (by omega))))))) (by omega) (by omega) (by omega) (by omega) (by omega) (by omega) (fun h9 => ap_one (by omega) (by omega) (by omega))
                · refine v_ic_ne_f (t := 141) rfl (by decide) (by omega) ?_
                  refine q_aload_n rfl rfl ?_
                  refine q_iconst rfl ?_
                  refine v_sip rfl (by decide) ?_
                  have h_189 : c_152 41 3 = c 41 3 := ((hF_154 41 3 (by omega)).trans ((hF_116 41 3 (by omega)).trans ((hF_29 41 3 (by omega)).trans (hF_8 41 3 (by omega)))))
                  refine v_cv rfl rfl rfl rfl (by decide) ⟨⟨rfl, rfl⟩, by decide, rfl⟩ (Nat.le_of_ble_eq_true rfl) (Nat.le_of_ble_eq_true rfl) (s_160 (a1 := 1) (a2 := 999) hI_153 (show 0 ≤ 1 ∧ 1 ≤ 1 from by omega) (show (-1) ≤ 999 ∧ 999 ≤ 9999 from by omega) (fun c_190 y_193 hI_191 hF_192 hy_193 h_194 h_195 h_196 h_197 h_198 => ?_))
                  refine bk_inl ?_
                  have h_199 := ir_41_4 hI_191
                  have h_200 := ir_41_5 hI_191
                  refine q_goto (t := 142) rfl (by decide) ?_
                  refine q_istore rfl (by decide) ?_
                  refine q_aload_n rfl rfl ?_
                  refine q_iload_n rfl rfl ?_
                  refine q_iload_n rfl rfl ?_
                  refine q_iload_n rfl rfl ?_
                  refine q_iload rfl rfl ?_
                  refine q_iload_n rfl rfl ?_
                  refine q_iconst rfl ?_
                  refine v_ic_ne_t (t := 162) rfl (by decide) (by omega) ?_
                  refine q_iconst rfl ?_
                  have h_201 : c_190 41 34 = c 41 34 := ((hF_192 41 34 (by omega)).trans ((hF_154 41 34 (by omega)).trans ((hF_116 41 34 (by omega)).trans ((hF_29 41 34 (by omega)).trans (hF_8 41 34 (by omega))))))
                  have h_202 : c_190 41 34 = c 41 34 := ((hF_192 41 34 (by omega)).trans ((hF_154 41 34 (by omega)).trans ((hF_116 41 34 (by omega)).trans ((hF_29 41 34 (by omega)).trans (hF_8 41 34 (by omega))))))
                  refine v_cv rfl rfl rfl rfl (by decide) ⟨⟨rfl, rfl⟩, by decide, rfl⟩ (Nat.le_of_ble_eq_true rfl) (Nat.le_of_ble_eq_true rfl) (s_181 (a1 := y_19) (a2 := y_117) (a3 := y_155) (a4 := y_193) (a5 := 0) hI_191 (show 0 ≤ y_19 ∧ y_19 ≤ 7 from by omega) (show 0 ≤ y_117 ∧ y_117 ≤ 40 from by omega) (show 0 ≤ y_155 ∧ y_155 ≤ 5 from by omega) (show 0 ≤ y_193 ∧ y_193 ≤ 999 from by omega) (show 0 ≤ 0 ∧ 0 ≤ 5 from by omega) (by omega) (by omega) (by omega) (by omega) (by omega) (by omega) (by omega) (by omega) (by omega) (fun c_203 hI_204 hF_205 h_206 h_207 h_208 => ?_))
                  refine bk_inl ?_
                  have h_209 := ir_41_34 hI_204
                  have h_210 : c_203 56 ((c_190 41 34)) = c_203 56 (c 41 34) := congrArg (c_203 56) (by omega)
                  have h_211 := ir_56 hI_204 (c 41 34)
                  refine q_aload_n rfl rfl ?_
                  refine v_bip rfl (by decide) ?_
                  have h_212 : c_203 41 4 = c_190 41 4 := (hF_205 41 4 (by omega))
                  have h_213 : c_203 41 3 = c 41 3 := ((hF_205 41 3 (by omega)).trans ((hF_192 41 3 (by omega)).trans ((hF_154 41 3 (by omega)).trans ((hF_116 41 3 (by omega)).trans ((hF_29 41 3 (by omega)).trans (hF_8 41 3 (by omega)))))))
                  have h_214 : c_203 41 5 = c_190 41 5 := (hF_205 41 5 (by omega))
                  refine v_cv rfl rfl rfl rfl (by decide) ⟨⟨rfl, rfl⟩, by decide, rfl⟩ (Nat.le_of_ble_eq_true rfl) (Nat.le_of_ble_eq_true rfl) (s_161 (a1 := 59) hI_204 (show 1 ≤ 59 ∧ 59 ≤ 255 from by omega) (fun c_215 hI_216 hF_217 h_218 h_219 h_220 h_221 => ?_))
                  refine bk_inl ?_
                  have h_222 := ir_41_4 hI_216
                  have h_223 := ir_41_5 hI_216
                  refine q_vret rfl rfl ?_
                  have h_224 : c_215 41 34 = c_203 41 34 := (hF_217 41 34 (by omega))
                  have h_225 : c_215 41 34 = c_203 41 34 := (hF_217 41 34 (by omega))
                  have h_226 : c_215 41 7 = c 41 7 := ((hF_217 41 7 (by omega)).trans ((hF_205 41 7 (by omega)).trans ((hF_192 41 7 (by omega)).trans ((hF_154 41 7 (by omega)).trans ((hF_116 41 7 (by omega)).trans ((hF_29 41 7 (by omega)).trans (hF_8 41 7 (by omega))))))))
                  have hb9 : c_215 41 5 = c_215 41 5 := rfl
                  have hn9 : c_215 41 34 = c_203 41 34 := (hF_217 41 34 (by omega))
                  have hq9 : c_215 56 (c 41 34) = c_203 56 (c 41 34) := (hF_217 56 (c 41 34) (by omega))
                  exact K c_215 hI_216 (fun a j hm => (hF_217 a j (by omega)).trans ((hF_205 a j (by omega)).trans ((hF_192 a j (by omega)).trans ((hF_154 a j (by omega)).trans ((hF_116 a j (by omega)).trans ((hF_29 a j (by omega)).trans (hF_8 a j (by omega)))))))) (by omega) (by omega) (by omega) (by omega) (by omega) (by omega) (fun h9 => ap_one (by omega) (by omega) (by omega))
            · refine v_ic_ne_f (t := 94) rfl (by decide) (by omega) ?_
              refine q_aload_n rfl rfl ?_
              refine q_iconst rfl ?_
              refine q_aload_n rfl rfl ?_
              have h_227 := ir_41_22 hI
              refine v_gi (z := 22) (v := c 41 22) rfl rfl rfl (by decide) rfl rfl ((hF_29 41 22 (by omega)).trans (hF_8 41 22 (by omega))) ?_
              refine q_iconst rfl ?_
              refine v_isub (v := c 41 22 - 1) rfl (by omega) ?_
              have h_228 : c_27 41 3 = c 41 3 := ((hF_29 41 3 (by omega)).trans (hF_8 41 3 (by omega)))
              have h_229 : c_27 41 5 = c 41 5 := ((hF_29 41 5 (by omega)).trans (hF_8 41 5 (by omega)))
              refine v_cv rfl rfl rfl rfl (by decide) ⟨⟨rfl, rfl⟩, by decide, rfl⟩ (Nat.le_of_ble_eq_true rfl) (Nat.le_of_ble_eq_true rfl) (s_160 (a1 := 0) (a2 := c 41 22 - 1) hI_28 (show 0 ≤ 0 ∧ 0 ≤ 1 from by omega) (show (-1) ≤ c 41 22 - 1 ∧ c 41 22 - 1 ≤ 9999 from by omega) (fun c_230 y_233 hI_231 hF_232 hy_233 h_234 h_235 h_236 h_237 h_238 => ?_))
              refine bk_inl ?_
              have h_239 := ir_41_4 hI_231
              have h_240 := ir_41_5 hI_231
              refine q_goto (t := 98) rfl (by decide) ?_
              refine q_istore_n rfl (by decide) ?_
              refine q_iload_n rfl rfl ?_
              refine q_iconst rfl ?_
              refine v_ic_ge_t (t := 111) rfl (by decide) (by omega) ?_
              refine q_iconst rfl ?_
              refine q_istore_n rfl (by decide) ?_
              refine q_iload_n rfl rfl ?_
              refine q_iconst rfl ?_
              refine v_ic_ne_t (t := 125) rfl (by decide) (by omega) ?_
              refine q_iload_n rfl rfl ?_
              refine q_iconst rfl ?_
              refine v_ic_ne_t (t := 141) rfl (by decide) (by omega) ?_
              refine q_iconst rfl ?_
              refine q_istore rfl (by decide) ?_
              refine q_aload_n rfl rfl ?_
              refine q_iload_n rfl rfl ?_
              refine q_iload_n rfl rfl ?_
              refine q_iload_n rfl rfl ?_
              refine q_iload rfl rfl ?_
              refine q_iload_n rfl rfl ?_
              refine q_iconst rfl ?_
              refine v_ic_ne_t (t := 162) rfl (by decide) (by omega) ?_
              refine q_iconst rfl ?_
              have h_241 : c_230 41 34 = c 41 34 := ((hF_232 41 34 (by omega)).trans ((hF_29 41 34 (by omega)).trans (hF_8 41 34 (by omega))))
              have h_242 : c_230 41 34 = c 41 34 := ((hF_232 41 34 (by omega)).trans ((hF_29 41 34 (by omega)).trans (hF_8 41 34 (by omega))))
              refine v_cv rfl rfl rfl rfl (by decide) ⟨⟨rfl, rfl⟩, by decide, rfl⟩ (Nat.le_of_ble_eq_true rfl) (Nat.le_of_ble_eq_true rfl) (s_181 (a1 := y_19) (a2 := y_233) (a3 := 0) (a4 := 0) (a5 := 0) hI_231 (show 0 ≤ y_19 ∧ y_19 ≤ 7 from by omega) (show 0 ≤ y_233 ∧ y_233 ≤ 40 from by omega) (show 0 ≤ 0 ∧ 0 ≤ 5 from by omega) (show 0 ≤ 0 ∧ 0 ≤ 999 from by omega) (show 0 ≤ 0 ∧ 0 ≤ 5 from by omega) (by omega) (by omega) (by omega) (by omega) (by omega) (by omega) (by omega) (by omega) (by omega) (fun c_243 hI_244 hF_245 h_246 h_247 h_248 => ?_))
              refine bk_inl ?_
              have h_249 := ir_41_34 hI_244
              have h_250 : c_243 56 ((c_230 41 34)) = c_243 56 (c 41 34) := congrArg (c_243 56) (by omega)
              have h_251 := ir_56 hI_244 (c 41 34)
              refine q_aload_n rfl rfl ?_
              refine v_bip rfl (by decide) ?_
              have h_252 : c_243 41 4 = c_230 41 4 := (hF_245 41 4 (by omega))
              have h_253 : c_243 41 3 = c 41 3 := ((hF_245 41 3 (by omega)).trans ((hF_232 41 3 (by omega)).trans ((hF_29 41 3 (by omega)).trans (hF_8 41 3 (by omega)))))
              have h_254 : c_243 41 5 = c_230 41 5 := (hF_245 41 5 (by omega))
              refine v_cv rfl rfl rfl rfl (by decide) ⟨⟨rfl, rfl⟩, by decide, rfl⟩ (Nat.le_of_ble_eq_true rfl) (Nat.le_of_ble_eq_true rfl) (s_161 (a1 := 59) hI_244 (show 1 ≤ 59 ∧ 59 ≤ 255 from by omega) (fun c_255 hI_256 hF_257 h_258 h_259 h_260 h_261 => ?_))
              refine bk_inl ?_
              have h_262 := ir_41_4 hI_256
              have h_263 := ir_41_5 hI_256
              refine q_vret rfl rfl ?_
              have h_264 : c_255 41 34 = c_243 41 34 := (hF_257 41 34 (by omega))
              have h_265 : c_255 41 34 = c_243 41 34 := (hF_257 41 34 (by omega))
              have h_266 : c_255 41 7 = c 41 7 := ((hF_257 41 7 (by omega)).trans ((hF_245 41 7 (by omega)).trans ((hF_232 41 7 (by omega)).trans ((hF_29 41 7 (by omega)).trans (hF_8 41 7 (by omega))))))
              have hb9 : c_255 41 5 = c_255 41 5 := rfl
              have hn9 : c_255 41 34 = c_243 41 34 := (hF_257 41 34 (by omega))
              have hq9 : c_255 56 (c 41 34) = c_243 56 (c 41 34) := (hF_257 56 (c 41 34) (by omega))
              exact K c_255 hI_256 (fun a j hm => (hF_257 a j (by omega)).trans ((hF_245 a j (by omega)).trans ((hF_232 a j (by omega)).trans ((hF_29 a j (by omega)).trans (hF_8 a j (by omega)))))) (by omega) (by omega) (by omega) (by omega) (by omega) (by omega) (fun h9 => ap_one (by omega) (by omega) (by omega))
        · refine v_if_ne_f (t := 70) rfl (by decide) (by omega) ?_
          refine q_aload_n rfl rfl ?_
          refine q_iconst rfl ?_
          refine q_aload_n rfl rfl ?_
          have h_267 := ir_41_21 hI
          refine v_gi (z := 21) (v := c 41 21) rfl rfl rfl (by decide) rfl rfl ((hF_29 41 21 (by omega)).trans (hF_8 41 21 (by omega))) ?_
          refine q_iconst rfl ?_
          refine v_isub (v := c 41 21 - 1) rfl (by omega) ?_
          have h_268 : c_27 41 3 = c 41 3 := ((hF_29 41 3 (by omega)).trans (hF_8 41 3 (by omega)))
          have h_269 : c_27 41 5 = c 41 5 := ((hF_29 41 5 (by omega)).trans (hF_8 41 5 (by omega)))
          refine v_cv rfl rfl rfl rfl (by decide) ⟨⟨rfl, rfl⟩, by decide, rfl⟩ (Nat.le_of_ble_eq_true rfl) (Nat.le_of_ble_eq_true rfl) (s_160 (a1 := 0) (a2 := c 41 21 - 1) hI_28 (show 0 ≤ 0 ∧ 0 ≤ 1 from by omega) (show (-1) ≤ c 41 21 - 1 ∧ c 41 21 - 1 ≤ 9999 from by omega) (fun c_270 y_273 hI_271 hF_272 hy_273 h_274 h_275 h_276 h_277 h_278 => ?_))
          refine bk_inl ?_
          have h_279 := ir_41_4 hI_271
          have h_280 := ir_41_5 hI_271
          refine q_goto (t := 98) rfl (by decide) ?_
          refine q_istore_n rfl (by decide) ?_
          refine q_iload_n rfl rfl ?_
          refine q_iconst rfl ?_
          refine v_ic_ge_f (t := 111) rfl (by decide) (by omega) ?_
          refine q_aload_n rfl rfl ?_
          have h_281 : c_270 41 3 = c 41 3 := ((hF_272 41 3 (by omega)).trans ((hF_29 41 3 (by omega)).trans (hF_8 41 3 (by omega))))
          refine v_cv rfl rfl rfl rfl (by decide) ⟨⟨rfl, rfl⟩, by decide, rfl⟩ (Nat.le_of_ble_eq_true rfl) (Nat.le_of_ble_eq_true rfl) (s_183 hI_271 (fun c_282 y_285 hI_283 hF_284 hy_285 h_286 h_287 h_288 h_289 => ?_))
          refine bk_inl ?_
          have h_290 := ir_41_4 hI_283
          have h_291 := ir_41_5 hI_283
          refine q_goto (t := 112) rfl (by decide) ?_
          refine q_istore_n rfl (by decide) ?_
          refine q_iload_n rfl rfl ?_
          refine q_iconst rfl ?_
          refine v_ic_ne_t (t := 125) rfl (by decide) (by omega) ?_
          refine q_iload_n rfl rfl ?_
          refine q_iconst rfl ?_
          refine v_ic_ne_t (t := 141) rfl (by decide) (by omega) ?_
          refine q_iconst rfl ?_
          refine q_istore rfl (by decide) ?_
          refine q_aload_n rfl rfl ?_
          refine q_iload_n rfl rfl ?_
          refine q_iload_n rfl rfl ?_
          refine q_iload_n rfl rfl ?_
          refine q_iload rfl rfl ?_
          refine q_iload_n rfl rfl ?_
          refine q_iconst rfl ?_
          refine v_ic_ne_t (t := 162) rfl (by decide) (by omega) ?_
          refine q_iconst rfl ?_
          have h_292 : c_282 41 34 = c 41 34 := ((hF_284 41 34 (by omega)).trans ((hF_272 41 34 (by omega)).trans ((hF_29 41 34 (by omega)).trans (hF_8 41 34 (by omega)))))
          have h_293 : c_282 41 34 = c 41 34 := ((hF_284 41 34 (by omega)).trans ((hF_272 41 34 (by omega)).trans ((hF_29 41 34 (by omega)).trans (hF_8 41 34 (by omega)))))
          refine v_cv rfl rfl rfl rfl (by decide) ⟨⟨rfl, rfl⟩, by decide, rfl⟩ (Nat.le_of_ble_eq_true rfl) (Nat.le_of_ble_eq_true rfl) (s_181 (a1 := y_19) (a2 := y_273) (a3 := y_285) (a4 := 0) (a5 := 0) hI_283 (show 0 ≤ y_19 ∧ y_19 ≤ 7 from by omega) (show 0 ≤ y_273 ∧ y_273 ≤ 40 from by omega) (show 0 ≤ y_285 ∧ y_285 ≤ 5 from by omega) (show 0 ≤ 0 ∧ 0 ≤ 999 from by omega) (show 0 ≤ 0 ∧ 0 ≤ 5 from by omega) (by omega) (by omega) (by omega) (by omega) (by omega) (by omega) (by omega) (by omega) (by omega) (fun c_294 hI_295 hF_296 h_297 h_298 h_299 => ?_))
          refine bk_inl ?_
          have h_300 := ir_41_34 hI_295
          have h_301 : c_294 56 ((c_282 41 34)) = c_294 56 (c 41 34) := congrArg (c_294 56) (by omega)
          have h_302 := ir_56 hI_295 (c 41 34)
          refine q_aload_n rfl rfl ?_
          refine v_bip rfl (by decide) ?_
          have h_303 : c_294 41 4 = c_282 41 4 := (hF_296 41 4 (by omega))
          have h_304 : c_294 41 3 = c 41 3 := ((hF_296 41 3 (by omega)).trans ((hF_284 41 3 (by omega)).trans ((hF_272 41 3 (by omega)).trans ((hF_29 41 3 (by omega)).trans (hF_8 41 3 (by omega))))))
          have h_305 : c_294 41 5 = c_282 41 5 := (hF_296 41 5 (by omega))
          refine v_cv rfl rfl rfl rfl (by decide) ⟨⟨rfl, rfl⟩, by decide, rfl⟩ (Nat.le_of_ble_eq_true rfl) (Nat.le_of_ble_eq_true rfl) (s_161 (a1 := 59) hI_295 (show 1 ≤ 59 ∧ 59 ≤ 255 from by omega) (fun c_306 hI_307 hF_308 h_309 h_310 h_311 h_312 => ?_))
          refine bk_inl ?_
          have h_313 := ir_41_4 hI_307
          have h_314 := ir_41_5 hI_307
          refine q_vret rfl rfl ?_
          have h_315 : c_306 41 34 = c_294 41 34 := (hF_308 41 34 (by omega))
          have h_316 : c_306 41 34 = c_294 41 34 := (hF_308 41 34 (by omega))
          have h_317 : c_306 41 7 = c 41 7 := ((hF_308 41 7 (by omega)).trans ((hF_296 41 7 (by omega)).trans ((hF_284 41 7 (by omega)).trans ((hF_272 41 7 (by omega)).trans ((hF_29 41 7 (by omega)).trans (hF_8 41 7 (by omega)))))))
          have hb9 : c_306 41 5 = c_306 41 5 := rfl
          have hn9 : c_306 41 34 = c_294 41 34 := (hF_308 41 34 (by omega))
          have hq9 : c_306 56 (c 41 34) = c_294 56 (c 41 34) := (hF_308 56 (c 41 34) (by omega))
          exact K c_306 hI_307 (fun a j hm => (hF_308 a j (by omega)).trans ((hF_296 a j (by omega)).trans ((hF_284 a j (by omega)).trans ((hF_272 a j (by omega)).trans ((hF_29 a j (by omega)).trans (hF_8 a j (by omega))))))) (by omega) (by omega) (by omega) (by omega) (by omega) (by omega) (fun h9 => ap_one (by omega) (by omega) (by omega))
      · refine v_ic_ne_f (t := 52) rfl (by decide) (by omega) ?_
        refine q_iconst rfl ?_
        refine q_goto (t := 98) rfl (by decide) ?_
        refine q_istore_n rfl (by decide) ?_
        refine q_iload_n rfl rfl ?_
        refine q_iconst rfl ?_
        refine v_ic_ge_t (t := 111) rfl (by decide) (by omega) ?_
        refine q_iconst rfl ?_
        refine q_istore_n rfl (by decide) ?_
        refine q_iload_n rfl rfl ?_
        refine q_iconst rfl ?_
        refine v_ic_ne_t (t := 125) rfl (by decide) (by omega) ?_
        refine q_iload_n rfl rfl ?_
        refine q_iconst rfl ?_
        refine v_ic_ne_t (t := 141) rfl (by decide) (by omega) ?_
        refine q_iconst rfl ?_
        refine q_istore rfl (by decide) ?_
        refine q_aload_n rfl rfl ?_
        refine q_iload_n rfl rfl ?_
        refine q_iload_n rfl rfl ?_
        refine q_iload_n rfl rfl ?_
        refine q_iload rfl rfl ?_
        refine q_iload_n rfl rfl ?_
        refine q_iconst rfl ?_
        refine v_ic_ne_t (t := 162) rfl (by decide) (by omega) ?_
        refine q_iconst rfl ?_
        have h_318 : c_27 41 34 = c 41 34 := ((hF_29 41 34 (by omega)).trans (hF_8 41 34 (by omega)))
        have h_319 : c_27 41 5 = c 41 5 := ((hF_29 41 5 (by omega)).trans (hF_8 41 5 (by omega)))
        have h_320 : c_27 41 34 = c 41 34 := ((hF_29 41 34 (by omega)).trans (hF_8 41 34 (by omega)))
        refine v_cv rfl rfl rfl rfl (by decide) ⟨⟨rfl, rfl⟩, by decide, rfl⟩ (Nat.le_of_ble_eq_true rfl) (Nat.le_of_ble_eq_true rfl) (s_181 (a1 := y_19) (a2 := 0) (a3 := 0) (a4 := 0) (a5 := 0) hI_28 (show 0 ≤ y_19 ∧ y_19 ≤ 7 from by omega) (show 0 ≤ 0 ∧ 0 ≤ 40 from by omega) (show 0 ≤ 0 ∧ 0 ≤ 5 from by omega) (show 0 ≤ 0 ∧ 0 ≤ 999 from by omega) (show 0 ≤ 0 ∧ 0 ≤ 5 from by omega) (by omega) (by omega) (by omega) (by omega) (by omega) (by omega) (by omega) (by omega) (by omega) (fun c_321 hI_322 hF_323 h_324 h_325 h_326 => ?_))
        refine bk_inl ?_
        have h_327 := ir_41_34 hI_322
        have h_328 : c_321 56 ((c_27 41 34)) = c_321 56 (c 41 34) := congrArg (c_321 56) (by omega)
        have h_329 := ir_56 hI_322 (c 41 34)
        refine q_aload_n rfl rfl ?_
        refine v_bip rfl (by decide) ?_
        have h_330 : c_321 41 4 = c_27 41 4 := (hF_323 41 4 (by omega))
        have h_331 : c_321 41 3 = c 41 3 := ((hF_323 41 3 (by omega)).trans ((hF_29 41 3 (by omega)).trans (hF_8 41 3 (by omega))))
        have h_332 : c_321 41 5 = c 41 5 := ((hF_323 41 5 (by omega)).trans ((hF_29 41 5 (by omega)).trans (hF_8 41 5 (by omega))))
        refine v_cv rfl rfl rfl rfl (by decide) ⟨⟨rfl, rfl⟩, by decide, rfl⟩ (Nat.le_of_ble_eq_true rfl) (Nat.le_of_ble_eq_true rfl) (s_161 (a1 := 59) hI_322 (show 1 ≤ 59 ∧ 59 ≤ 255 from by omega) (fun c_333 hI_334 hF_335 h_336 h_337 h_338 h_339 => ?_))
        refine bk_inl ?_
        have h_340 := ir_41_4 hI_334
        have h_341 := ir_41_5 hI_334
        refine q_vret rfl rfl ?_
        have h_342 : c_333 41 34 = c_321 41 34 := (hF_335 41 34 (by omega))
        have h_343 : c_333 41 34 = c_321 41 34 := (hF_335 41 34 (by omega))
        have h_344 : c_333 41 7 = c 41 7 := ((hF_335 41 7 (by omega)).trans ((hF_323 41 7 (by omega)).trans ((hF_29 41 7 (by omega)).trans (hF_8 41 7 (by omega)))))
        have hb9 : c_333 41 5 = c_333 41 5 := rfl
        have hn9 : c_333 41 34 = c_321 41 34 := (hF_335 41 34 (by omega))
        have hq9 : c_333 56 (c 41 34) = c_321 56 (c 41 34) := (hF_335 56 (c 41 34) (by omega))
        exact K c_333 hI_334 (fun a j hm => (hF_335 a j (by omega)).trans ((hF_323 a j (by omega)).trans ((hF_29 a j (by omega)).trans (hF_8 a j (by omega))))) (by omega) (by omega) (by omega) (by omega) (by omega) (by omega) (fun h9 => ap_one (by omega) (by omega) (by omega))
    · refine v_ic_ne_f (t := 38) rfl (by decide) (by omega) ?_
      refine q_aload_n rfl rfl ?_
      have h_345 : c_6 41 5 = c 41 5 := (hF_8 41 5 (by omega))
      have h_346 : c_6 41 3 = c 41 3 := (hF_8 41 3 (by omega))
      have h_347 : c_6 41 34 = c 41 34 := (hF_8 41 34 (by omega))
      have h_348 : c_6 41 7 = c 41 7 := (hF_8 41 7 (by omega))
      have h_349 : c_6 41 34 = c 41 34 := (hF_8 41 34 (by omega))
      refine v_cv rfl rfl rfl rfl (by decide) ⟨⟨rfl, rfl⟩, by decide, rfl⟩ (Nat.le_of_ble_eq_true rfl) (Nat.le_of_ble_eq_true rfl) (s_184 (o := o) hI_7 (show 0 ≤ o ∧ o ≤ 6 from by omega) (by omega) (by omega) (by omega) (by omega) (by omega) (by omega) (by omega) H185 (fun c_350 hI_351 hF_352 h_353 h_354 h_355 h_356 h_357 h_358 hA_359 => ?_))
      refine bk_inl ?_
      have h_360 := ir_41_4 hI_351
      have h_361 := ir_41_7 hI_351
      have h_362 := ir_41_34 hI_351
      have h_363 := ir_41_5 hI_351
      refine q_goto (t := 166) rfl (by decide) ?_
      refine q_aload_n rfl rfl ?_
      refine v_bip rfl (by decide) ?_
      have h_364 : c_350 41 3 = c 41 3 := ((hF_352 41 3 (by omega)).trans (hF_8 41 3 (by omega)))
      refine v_cv rfl rfl rfl rfl (by decide) ⟨⟨rfl, rfl⟩, by decide, rfl⟩ (Nat.le_of_ble_eq_true rfl) (Nat.le_of_ble_eq_true rfl) (s_161 (a1 := 59) hI_351 (show 1 ≤ 59 ∧ 59 ≤ 255 from by omega) (fun c_365 hI_366 hF_367 h_368 h_369 h_370 h_371 => ?_))
      refine bk_inl ?_
      have h_372 := ir_41_4 hI_366
      have h_373 := ir_41_5 hI_366
      refine q_vret rfl rfl ?_
      have h_374 : c_365 41 34 = c_350 41 34 := (hF_367 41 34 (by omega))
      have h_375 : c_365 41 34 = c_350 41 34 := (hF_367 41 34 (by omega))
      have h_376 : c_365 41 7 = c_350 41 7 := (hF_367 41 7 (by omega))
      have hb9 : c_365 41 5 = c_365 41 5 := rfl
      have hn9 : c_365 41 34 = c_350 41 34 := (hF_367 41 34 (by omega))
      exact K c_365 hI_366 (fun a j hm => (hF_367 a j (by omega)).trans ((hF_352 a j (by omega)).trans (hF_8 a j (by omega)))) (by omega) (by omega) (by omega) (by omega) (by omega) (by omega) (fun h9 => ap_fr (hA_359 (by omega)) (by omega) (show c 41 34 = c_6 41 34 from by rw [show c_6 41 34 = c 41 34 from (hF_8 41 34 (by omega))]) (show c_365 41 34 = c_350 41 34 from by omega) (fun j h1 h2 => hF_367 56 j (by omega)))
  · refine v_ic_ne_f (t := 25) rfl (by decide) (by omega) ?_
    refine q_aload_n rfl rfl ?_
    refine q_iconst rfl ?_
    refine q_aload_n rfl rfl ?_
    refine v_gi (z := 4) (v := c_6 41 4) rfl rfl rfl (by decide) rfl rfl rfl ?_
    refine v_cv rfl rfl rfl rfl (by decide) ⟨⟨rfl, rfl⟩, by decide, rfl⟩ (Nat.le_of_ble_eq_true rfl) (Nat.le_of_ble_eq_true rfl) (s_153 (a1 := 1) (a2 := c_6 41 4) hI_7 (show 1 ≤ 1 ∧ 1 ≤ 3 from by omega) (show 0 ≤ c_6 41 4 ∧ c_6 41 4 ≤ 605 from by omega) (fun c_377 hI_378 hF_379 h_380 => ?_))
    refine bk_inl ?_
    have h_381 := ir_41_5 hI_378
    refine q_goto (t := 166) rfl (by decide) ?_
    refine q_aload_n rfl rfl ?_
    refine v_bip rfl (by decide) ?_
    have h_382 : c_377 41 4 = c_6 41 4 := (hF_379 41 4 (by omega))
    have h_383 : c_377 41 3 = c 41 3 := ((hF_379 41 3 (by omega)).trans (hF_8 41 3 (by omega)))
    refine v_cv rfl rfl rfl rfl (by decide) ⟨⟨rfl, rfl⟩, by decide, rfl⟩ (Nat.le_of_ble_eq_true rfl) (Nat.le_of_ble_eq_true rfl) (s_161 (a1 := 59) hI_378 (show 1 ≤ 59 ∧ 59 ≤ 255 from by omega) (fun c_384 hI_385 hF_386 h_387 h_388 h_389 h_390 => ?_))
    refine bk_inl ?_
    have h_391 := ir_41_4 hI_385
    have h_392 := ir_41_5 hI_385
    refine q_vret rfl rfl ?_
    have h_393 : c_384 41 34 = c 41 34 := ((hF_386 41 34 (by omega)).trans ((hF_379 41 34 (by omega)).trans (hF_8 41 34 (by omega))))
    have h_394 : c_384 41 34 = c 41 34 := ((hF_386 41 34 (by omega)).trans ((hF_379 41 34 (by omega)).trans (hF_8 41 34 (by omega))))
    have h_395 : c_384 41 7 = c 41 7 := ((hF_386 41 7 (by omega)).trans ((hF_379 41 7 (by omega)).trans (hF_8 41 7 (by omega))))
    have hb9 : c_384 41 5 = c_384 41 5 := rfl
    exact K c_384 hI_385 (fun a j hm => (hF_386 a j (by omega)).trans ((hF_379 a j (by omega)).trans (hF_8 a j (by omega)))) (by omega) (by omega) (by omega) (by omega) (by omega) (by omega) (fun h9 => absurd h9 (by omega))
set_option maxRecDepth 100000 in
set_option maxHeartbeats 4000000 in
theorem r_185_n {sc : List Int32} {e : Int} {u P Q : Nat} : ∀ (m : Nat) (d : Nat) (c : ME) (o : Int) (Z : AR → Prop), o + (m : Int) = 6 → 0 ≤ o → Iv u e P Q c → ((c 41 5 = (-1))) → ((c 41 4 ≤ c 41 3)) → ((c 41 3 ≤ 150)) → ((3 * c 41 34 ≤ 5 * c 41 4)) → ((((c 41 34) % 5) = 0)) → (c 41 7 = o) → (∀ c2 : ME, Iv u e P Q c2 → (∀ (a : Nat) (j : Int), ¬ ((a = 41 ∧ j = 4) ∨ (a = 41 ∧ j = 5) ∨ (a = 41 ∧ j = 6) ∨ (a = 41 ∧ j = 7) ∨ (a = 41 ∧ j = 34) ∨ (a = 56 ∧ j ≥ c 41 34)) → c2 a j = c a j) → ((c2 41 4 ≥ c 41 4)) → ((c2 41 7 = c 41 7)) → ((5 * c 41 4 + 3 * c2 41 34 ≤ 3 * c 41 34 + 5 * c2 41 4)) → ((c2 41 5 < (-1)) ∨ (c2 41 5 > (-1)) ∨ (c2 41 4 ≤ c 41 3 ∧ c2 41 4 > c 41 4)) → ((((c2 41 34) % 5) = 0)) → ((c2 41 34 ≥ c 41 34)) → (c2 41 5 = -1 → Ap c2 56 (c 41 34) (c2 41 34)) → Z (.inl none, Wd P Q P P c2, 0, 0)) → Wp sc (d + 2 * m + 14) 185 0 [(0, .ref 41)] [] (Wd P Q P P c) 0 0 Z
  | 0, d, c, o, Z, hm, h0, hI, p0, p1, p2, p3, p4, p5, K => s_185 (d := d) (o := o) hI ⟨by omega, by omega⟩ p0 p1 p2 p3 p4 p5 (fun d9 c9 Z9 hd hc => absurd hc (by omega)) K
  | m + 1, d, c, o, Z, hm, h0, hI, p0, p1, p2, p3, p4, p5, K => by
    rw [show d + 2 * (m + 1) + 14 = (d + 2 * m + 2) + 14 by omega]
    refine s_185 (d := d + 2 * m + 2) (o := o) hI ⟨by omega, by omega⟩ p0 p1 p2 p3 p4 p5 (fun d9 c9 Z9 hd hc hI9 q0 q1 q2 q3 q4 q5 K9 => ?_) K
    have r := r_185_n (sc := sc) m (d9 - 2 * m - 2) c9 (o + 1) Z9 (by omega) (by omega) hI9 q0 q1 q2 q3 q4 q5 K9
    rw [show d9 - 2 * m - 2 + 2 * m + 14 = d9 + 12 by omega] at r
    exact r
set_option maxRecDepth 100000 in
set_option maxHeartbeats 4000000 in
theorem r_185 {sc : List Int32} {e : Int} {d u P Q : Nat} {c : ME} {o : Int} {Z : AR → Prop} (hI : Iv u e P Q c) (ho : 0 ≤ o ∧ o ≤ 6) (p0 : ((c 41 5 = (-1)))) (p1 : ((c 41 4 ≤ c 41 3))) (p2 : ((c 41 3 ≤ 150))) (p3 : ((3 * c 41 34 ≤ 5 * c 41 4))) (p4 : ((((c 41 34) % 5) = 0))) (p5 : c 41 7 = o) (K : (∀ c2 : ME, Iv u e P Q c2 → (∀ (a : Nat) (j : Int), ¬ ((a = 41 ∧ j = 4) ∨ (a = 41 ∧ j = 5) ∨ (a = 41 ∧ j = 6) ∨ (a = 41 ∧ j = 7) ∨ (a = 41 ∧ j = 34) ∨ (a = 56 ∧ j ≥ c 41 34)) → c2 a j = c a j) → ((c2 41 4 ≥ c 41 4)) → ((c2 41 7 = c 41 7)) → ((5 * c 41 4 + 3 * c2 41 34 ≤ 3 * c 41 34 + 5 * c2 41 4)) → ((c2 41 5 < (-1)) ∨ (c2 41 5 > (-1)) ∨ (c2 41 4 ≤ c 41 3 ∧ c2 41 4 > c 41 4)) → ((((c2 41 34) % 5) = 0)) → ((c2 41 34 ≥ c 41 34)) → (c2 41 5 = -1 → Ap c2 56 (c 41 34) (c2 41 34)) → Z (.inl none, Wd P Q P P c2, 0, 0))) : Wp sc (d + 26) 185 0 [(0, .ref 41)] [] (Wd P Q P P c) 0 0 Z := by
  obtain ⟨m, hm⟩ : ∃ m : Nat, (m : Int) = 6 - o := ⟨(6 - o).toNat, by omega⟩
  rw [show d + 26 = (d + 12 - 2 * m) + 2 * m + 14 by omega]
  exact r_185_n m _ c o Z (by omega) (by omega) hI p0 p1 p2 p3 p4 p5 K

set_option maxRecDepth 100000 in
set_option maxHeartbeats 4000000 in
theorem s_186 {sc : List Int32} {d P Q : Nat} {c : ME} {Z : AR → Prop} (hI : Iv 0 (-1) P Q c)  (K : ∀ (c2 : ME), Iv 0 (-1) P Q c2 → (∀ (a : Nat) (j : Int), ¬ (a = 59) → c2 a j = c a j) → Z (.inl (none), Wd P Q P P c2, 0, 0)) : Wp sc (d + 7) 186 0 [(0, .ref 41)] [] (Wd P Q P P c) 0 0 Z := by
  have hP := iv_P hI
  have hQ := iv_Q hI
  refine q_aload_n rfl rfl ?_
  refine q_aload_n rfl rfl ?_
  refine v_gr (t := 58) rfl rfl rfl (by decide) rfl ?_
  refine q_aload_n rfl rfl ?_
  refine v_gr (t := 59) rfl rfl rfl (by decide) rfl ?_
  refine v_bip rfl (by decide) ?_
  refine v_cv rfl rfl rfl rfl (by decide) ⟨⟨rfl, rfl⟩, by decide, rfl⟩ (Nat.le_of_ble_eq_true rfl) (Nat.le_of_ble_eq_true rfl) (s_148 (f := 58) (t := 59) (nf := 37) (nt := 37) (n := 37) rfl rfl (by decide) (by decide) (by decide) (by decide) (by decide) (by omega) ?_)
  refine bk_inl ?_
  refine q_vret rfl rfl ?_
  have hI_1 := cp_58_59 hI
  exact K (upc c 58 0 59 0 37) hI_1 (fun a j hm => upc_c (by omega))

set_option maxRecDepth 100000 in
set_option maxHeartbeats 4000000 in
theorem s_187 {sc : List Int32} {e : Int} {d u P Q : Nat} {c : ME} {v1 v2 v3 v4 r : Int} {a1 : Int} {Z : AR → Prop} (hI : Iv u e P Q c) (ha1 : 0 ≤ a1 ∧ a1 ≤ 5) (hv0 : c 59 (4 * a1) = v1) (hv1 : c 59 (4 * a1 + 1) = v2) (hv2 : c 59 (4 * a1 + 2) = v3) (hv3 : c 59 (4 * a1 + 3) = v4) (hr9 : v1 + v2 + v3 + v4 = r) (K : Z (.inl (some (vi r)), Wd P Q P P c, 0, 0)) : Wp sc (d + 7) 187 0 [(0, .ref 41), (1, vi a1)] [] (Wd P Q P P c) 0 0 Z := by
  have hP := iv_P hI
  have hQ := iv_Q hI
  have h_1 := ir_59_g hI (j := 4 * a1) (by omega)
  have h_2 := ir_59_g hI (j := 4 * a1 + 1) (by omega)
  have h_3 := ir_59_g hI (j := 4 * a1 + 2) (by omega)
  have h_4 := ir_59_g hI (j := 4 * a1 + 3) (by omega)
  refine q_iconst rfl ?_
  refine q_istore_n rfl (by decide) ?_
  refine q_iconst rfl ?_
  refine q_istore_n rfl (by decide) ?_
  refine q_iload_n rfl rfl ?_
  refine q_iconst rfl ?_
  refine v_ic_ge_f (t := 28) rfl (by decide) (by decide) ?_
  refine q_iload_n rfl rfl ?_
  refine q_aload_n rfl rfl ?_
  refine v_gr (t := 59) rfl rfl rfl (by decide) rfl ?_
  refine q_iconst rfl ?_
  refine q_iload_n rfl rfl ?_
  refine v_imul (v := 4 * a1) rfl (by omega) ?_
  refine q_iload_n rfl rfl ?_
  refine v_iadd (v := 4 * a1) rfl (by omega) ?_
  refine v_ia (v := v1) rfl rfl (by decide) (by decide) (by omega) (hv0) ?_
  refine v_iadd (v := v1) rfl (by omega) ?_
  refine q_istore_n rfl (by decide) ?_
  refine v_iinc (v := 1) rfl rfl (by decide) (by decide) ?_
  refine q_goto (t := 4) rfl (by decide) ?_
  refine q_iload_n rfl rfl ?_
  refine q_iconst rfl ?_
  refine v_ic_ge_f (t := 28) rfl (by decide) (by decide) ?_
  refine q_iload_n rfl rfl ?_
  refine q_aload_n rfl rfl ?_
  refine v_gr (t := 59) rfl rfl rfl (by decide) rfl ?_
  refine q_iconst rfl ?_
  refine q_iload_n rfl rfl ?_
  refine v_imul (v := 4 * a1) rfl (by omega) ?_
  refine q_iload_n rfl rfl ?_
  refine v_iadd (v := 4 * a1 + 1) rfl (by omega) ?_
  refine v_ia (v := v2) rfl rfl (by decide) (by decide) (by omega) (hv1) ?_
  refine v_iadd (v := v1 + v2) rfl (by omega) ?_
  refine q_istore_n rfl (by decide) ?_
  refine Wp_ls [(2, vi (v1 + v2)), (3, vi 1), (0, .ref 41), (1, vi a1)] (lsub_cons rfl (lsub_cons rfl (lsub_cons rfl (lsub_cons rfl lsub_nil)))) ?_
  refine v_iinc (v := 2) rfl rfl (by decide) (by decide) ?_
  refine q_goto (t := 4) rfl (by decide) ?_
  refine q_iload_n rfl rfl ?_
  refine q_iconst rfl ?_
  refine v_ic_ge_f (t := 28) rfl (by decide) (by decide) ?_
  refine q_iload_n rfl rfl ?_
  refine q_aload_n rfl rfl ?_
  refine v_gr (t := 59) rfl rfl rfl (by decide) rfl ?_
  refine q_iconst rfl ?_
  refine q_iload_n rfl rfl ?_
  refine v_imul (v := 4 * a1) rfl (by omega) ?_
  refine q_iload_n rfl rfl ?_
  refine v_iadd (v := 4 * a1 + 2) rfl (by omega) ?_
  refine v_ia (v := v3) rfl rfl (by decide) (by decide) (by omega) (hv2) ?_
  refine v_iadd (v := v1 + v2 + v3) rfl (by omega) ?_
  refine q_istore_n rfl (by decide) ?_
  refine v_iinc (v := 3) rfl rfl (by decide) (by decide) ?_
  refine q_goto (t := 4) rfl (by decide) ?_
  refine q_iload_n rfl rfl ?_
  refine q_iconst rfl ?_
  refine v_ic_ge_f (t := 28) rfl (by decide) (by decide) ?_
  refine q_iload_n rfl rfl ?_
  refine q_aload_n rfl rfl ?_
  refine v_gr (t := 59) rfl rfl rfl (by decide) rfl ?_
  refine q_iconst rfl ?_
  refine q_iload_n rfl rfl ?_
  refine v_imul (v := 4 * a1) rfl (by omega) ?_
  refine q_iload_n rfl rfl ?_
  refine v_iadd (v := 4 * a1 + 3) rfl (by omega) ?_
  refine v_ia (v := v4) rfl rfl (by decide) (by decide) (by omega) (hv3) ?_
  refine v_iadd (v := v1 + v2 + v3 + v4) rfl (by omega) ?_
  refine q_istore_n rfl (by decide) ?_
  refine v_iinc (v := 4) rfl rfl (by decide) (by decide) ?_
  refine Wp_ls [(3, vi 4), (2, vi (v1 + v2 + v3 + v4)), (0, .ref 41), (1, vi a1)] (lsub_cons rfl (lsub_cons rfl (lsub_cons rfl (lsub_cons rfl lsub_nil)))) ?_
  refine q_goto (t := 4) rfl (by decide) ?_
  refine q_iload_n rfl rfl ?_
  refine q_iconst rfl ?_
  refine v_ic_ge_t (t := 28) rfl (by decide) (by decide) ?_
  refine q_iload_n rfl rfl ?_
  refine q_iret rfl rfl ?_
  exact zv (by omega) (K)

set_option maxRecDepth 100000 in
set_option maxHeartbeats 4000000 in
theorem s_188 {sc : List Int32} {d P Q : Nat} {c : ME} {a1 : Int} {a2 : Int} {Z : AR → Prop} (hI : Iv 0 (-1) P Q c) (ha1 : 0 ≤ a1 ∧ a1 ≤ 3) (ha2 : 0 ≤ a2 ∧ a2 ≤ 5) (K : ∀ (c2 : ME) (y : Int), Iv 0 (-1) P Q c2 → (∀ (a : Nat) (j : Int), ¬ (a = 59) → c2 a j = c a j) → 0 ≤ y ∧ y ≤ 1 → Z (.inl (some (vi y)), Wd P Q P P c2, 0, 0)) : Wp sc (d + 8) 188 0 [(0, .ref 41), (1, vi a1), (2, vi a2)] [] (Wd P Q P P c) 0 0 Z := by
  have hP := iv_P hI
  have hQ := iv_Q hI
  have hIo : Iv 59 (-1) P Q c := iv_open hI
  have hsum_1 := ir_59_r hI (by decide) (j := a2) (by omega)
  have h_2 := ir_59_g hI (j := 4 * a2) (by omega)
  have h_3 := ir_59_g hI (j := 4 * a2 + 1) (by omega)
  have h_4 := ir_59_g hI (j := 4 * a2 + 2) (by omega)
  have h_5 := ir_59_g hI (j := 4 * a2 + 3) (by omega)
  refine q_aload_n rfl rfl ?_
  refine q_iload_n rfl rfl ?_
  refine v_cv rfl rfl rfl rfl (by decide) ⟨⟨rfl, rfl⟩, by decide, rfl⟩ (Nat.le_of_ble_eq_true rfl) (Nat.le_of_ble_eq_true rfl) (s_187 (v1 := c 59 (4 * a2)) (v2 := c 59 (4 * a2 + 1)) (v3 := c 59 (4 * a2 + 2)) (v4 := c 59 (4 * a2 + 3)) (r := c 59 (4 * a2 + 1) + c 59 (4 * a2 + 2) + c 59 (4 * a2 + 3) + c 59 (4 * a2)) (a1 := a2) hIo (show 0 ≤ a2 ∧ a2 ≤ 5 from by omega) (rfl) (rfl) (rfl) (rfl) (by omega) ?_)
  refine bk_inl ?_
  by_cases h_6 : c 59 (4 * a2 + 1) + c 59 (4 * a2 + 2) + c 59 (4 * a2 + 3) + c 59 (4 * a2) ≠ 0
  · refine v_if_ne_t (t := 10) rfl (by decide) (by omega) ?_
    refine q_iconst rfl ?_
    refine q_istore_n rfl (by decide) ?_
    refine q_iload_n rfl rfl ?_
    refine q_iconst rfl ?_
    refine v_ic_ge_f (t := 83) rfl (by decide) (by decide) ?_
    refine q_aload_n rfl rfl ?_
    refine v_gr (t := 59) rfl rfl rfl (by decide) rfl ?_
    refine q_iconst rfl ?_
    refine q_iload_n rfl rfl ?_
    refine v_imul (v := 4 * a2) rfl (by omega) ?_
    refine q_iload_n rfl rfl ?_
    refine v_iadd (v := 4 * a2 + 1) rfl (by omega) ?_
    refine v_ia (v := c 59 (4 * a2 + 1)) rfl rfl (by decide) (by decide) (by omega) rfl ?_
    refine q_aload_n rfl rfl ?_
    refine v_gr (t := 48) rfl rfl rfl (by decide) rfl ?_
    refine q_iconst rfl ?_
    refine q_iload_n rfl rfl ?_
    refine v_imul (v := 3 * a1) rfl (by omega) ?_
    refine q_iload_n rfl rfl ?_
    refine v_iadd (v := 3 * a1 + 1) rfl (by omega) ?_
    refine q_iconst rfl ?_
    refine v_isub (v := 3 * a1) rfl (by omega) ?_
    have h_7 := ir_48 hI (3 * a1)
    refine v_ia (v := c 48 (3 * a1)) rfl rfl (by decide) (by decide) (by omega) rfl ?_
    have h_8 : 0 ≤ (c 59 (4 * a2 + 1)) * (c 48 (3 * a1)) ∧ (c 59 (4 * a2 + 1)) * (c 48 (3 * a1)) ≤ 10 * (c 59 (4 * a2 + 1)) := mul_bd (by omega) (by omega) (by omega)
    have h_9 : 0 ≤ (c 59 (4 * a2 + 1)) * (c 48 (3 * a1)) ∧ (c 59 (4 * a2 + 1)) * (c 48 (3 * a1)) ≤ 9999 * (c 48 (3 * a1)) := mul_bd2 (by omega) (by omega) (by omega)
    refine v_imul (v := ((c 59 (4 * a2 + 1)) * (c 48 (3 * a1)))) rfl rfl ?_
    refine v_bip rfl (by decide) ?_
    refine v_idiv (v := (((c 59 (4 * a2 + 1)) * (c 48 (3 * a1))) / 10)) rfl (by omega) rfl ?_
    refine q_istore rfl (by decide) ?_
    refine q_aload_n rfl rfl ?_
    refine v_gr (t := 59) rfl rfl rfl (by decide) rfl ?_
    refine q_iconst rfl ?_
    refine q_iload_n rfl rfl ?_
    refine v_imul (v := 4 * a2) rfl (by omega) ?_
    refine q_iload_n rfl rfl ?_
    refine v_iadd (v := 4 * a2 + 1) rfl (by omega) ?_
    refine q_dup2 rfl ⟨rfl, rfl⟩ ?_
    refine v_ia (v := c 59 (4 * a2 + 1)) rfl rfl (by decide) (by decide) (by omega) rfl ?_
    refine q_iload rfl rfl ?_
    refine v_isub (v := c 59 (4 * a2 + 1) - (((c 59 (4 * a2 + 1)) * (c 48 (3 * a1))) / 10)) rfl (by omega) ?_
    refine v_is rfl rfl (by decide) (by decide) (by omega) ?_
    refine q_aload_n rfl rfl ?_
    refine v_gr (t := 59) rfl rfl rfl (by decide) rfl ?_
    refine q_iconst rfl ?_
    refine q_iload_n rfl rfl ?_
    refine v_imul (v := 4 * a2) rfl (by omega) ?_
    refine q_iload_n rfl rfl ?_
    refine v_iadd (v := 4 * a2 + 1) rfl (by omega) ?_
    refine q_iconst rfl ?_
    refine v_isub (v := 4 * a2) rfl (by omega) ?_
    refine q_dup2 rfl ⟨rfl, rfl⟩ ?_
    refine v_ia (v := c 59 (4 * a2)) rfl rfl (by decide) (by decide) (by omega) (up_n (by omega)) ?_
    refine q_iload rfl rfl ?_
    refine v_iadd (v := (((c 59 (4 * a2 + 1)) * (c 48 (3 * a1))) / 10) + c 59 (4 * a2)) rfl (by omega) ?_
    refine v_is rfl rfl (by decide) (by decide) (by omega) ?_
    refine v_iinc (v := 2) rfl rfl (by decide) (by decide) ?_
    refine q_goto (t := 12) rfl (by decide) ?_
    refine q_iload_n rfl rfl ?_
    refine q_iconst rfl ?_
    refine v_ic_ge_f (t := 83) rfl (by decide) (by decide) ?_
    refine q_aload_n rfl rfl ?_
    refine v_gr (t := 59) rfl rfl rfl (by decide) rfl ?_
    refine q_iconst rfl ?_
    refine q_iload_n rfl rfl ?_
    refine v_imul (v := 4 * a2) rfl (by omega) ?_
    refine q_iload_n rfl rfl ?_
    refine v_iadd (v := 4 * a2 + 2) rfl (by omega) ?_
    refine v_ia (v := c 59 (4 * a2 + 2)) rfl rfl (by decide) (by decide) (by omega) ((up_n (by omega)).trans (up_n (by omega))) ?_
    refine q_aload_n rfl rfl ?_
    refine v_gr (t := 48) rfl rfl rfl (by decide) rfl ?_
    refine q_iconst rfl ?_
    refine q_iload_n rfl rfl ?_
    refine v_imul (v := 3 * a1) rfl (by omega) ?_
    refine q_iload_n rfl rfl ?_
    refine v_iadd (v := 3 * a1 + 2) rfl (by omega) ?_
    refine q_iconst rfl ?_
    refine v_isub (v := 3 * a1 + 1) rfl (by omega) ?_
    have h_10 := ir_48 hI (3 * a1 + 1)
    refine v_ia (v := c 48 (3 * a1 + 1)) rfl rfl (by decide) (by decide) (by omega) ((up_c (by decide)).trans (up_c (by decide))) ?_
    have h_11 : 0 ≤ (c 59 (4 * a2 + 2)) * (c 48 (3 * a1 + 1)) ∧ (c 59 (4 * a2 + 2)) * (c 48 (3 * a1 + 1)) ≤ 10 * (c 59 (4 * a2 + 2)) := mul_bd (by omega) (by omega) (by omega)
    have h_12 : 0 ≤ (c 59 (4 * a2 + 2)) * (c 48 (3 * a1 + 1)) ∧ (c 59 (4 * a2 + 2)) * (c 48 (3 * a1 + 1)) ≤ 9999 * (c 48 (3 * a1 + 1)) := mul_bd2 (by omega) (by omega) (by omega)
    refine v_imul (v := ((c 59 (4 * a2 + 2)) * (c 48 (3 * a1 + 1)))) rfl rfl ?_
    refine v_bip rfl (by decide) ?_
    refine v_idiv (v := (((c 59 (4 * a2 + 2)) * (c 48 (3 * a1 + 1))) / 10)) rfl (by omega) rfl ?_
    refine q_istore rfl (by decide) ?_
    refine q_aload_n rfl rfl ?_
    refine v_gr (t := 59) rfl rfl rfl (by decide) rfl ?_
    refine q_iconst rfl ?_
    refine q_iload_n rfl rfl ?_
    refine v_imul (v := 4 * a2) rfl (by omega) ?_
    refine q_iload_n rfl rfl ?_
    refine v_iadd (v := 4 * a2 + 2) rfl (by omega) ?_
    refine q_dup2 rfl ⟨rfl, rfl⟩ ?_
    refine v_ia (v := c 59 (4 * a2 + 2)) rfl rfl (by decide) (by decide) (by omega) ((up_n (by omega)).trans (up_n (by omega))) ?_
    refine q_iload rfl rfl ?_
    refine v_isub (v := c 59 (4 * a2 + 2) - (((c 59 (4 * a2 + 2)) * (c 48 (3 * a1 + 1))) / 10)) rfl (by omega) ?_
    refine v_is rfl rfl (by decide) (by decide) (by omega) ?_
    refine q_aload_n rfl rfl ?_
    refine v_gr (t := 59) rfl rfl rfl (by decide) rfl ?_
    refine q_iconst rfl ?_
    refine q_iload_n rfl rfl ?_
    refine v_imul (v := 4 * a2) rfl (by omega) ?_
    refine q_iload_n rfl rfl ?_
    refine v_iadd (v := 4 * a2 + 2) rfl (by omega) ?_
    refine q_iconst rfl ?_
    refine v_isub (v := 4 * a2 + 1) rfl (by omega) ?_
    refine q_dup2 rfl ⟨rfl, rfl⟩ ?_
    refine v_ia (v := c 59 (4 * a2 + 1) - (((c 59 (4 * a2 + 1)) * (c 48 (3 * a1))) / 10)) rfl rfl (by decide) (by decide) (by omega) ((up_n (by omega)).trans ((up_n (by omega)).trans (up_e rfl))) ?_
    refine q_iload rfl rfl ?_
    refine v_iadd (v := (((c 59 (4 * a2 + 2)) * (c 48 (3 * a1 + 1))) / 10) + c 59 (4 * a2 + 1) - (((c 59 (4 * a2 + 1)) * (c 48 (3 * a1))) / 10)) rfl (by omega) ?_
    refine v_is rfl rfl (by decide) (by decide) (by omega) ?_
    refine v_iinc (v := 3) rfl rfl (by decide) (by decide) ?_
    refine Wp_ls [(3, vi 3), (4, vi (((c 59 (4 * a2 + 2)) * (c 48 (3 * a1 + 1))) / 10)), (0, .ref 41), (1, vi a1), (2, vi a2)] (lsub_cons rfl (lsub_cons rfl (lsub_cons rfl (lsub_cons rfl (lsub_cons rfl lsub_nil))))) ?_
    refine q_goto (t := 12) rfl (by decide) ?_
    refine q_iload_n rfl rfl ?_
    refine q_iconst rfl ?_
    refine v_ic_ge_f (t := 83) rfl (by decide) (by decide) ?_
    refine q_aload_n rfl rfl ?_
    refine v_gr (t := 59) rfl rfl rfl (by decide) rfl ?_
    refine q_iconst rfl ?_
    refine q_iload_n rfl rfl ?_
    refine v_imul (v := 4 * a2) rfl (by omega) ?_
    refine q_iload_n rfl rfl ?_
    refine v_iadd (v := 4 * a2 + 3) rfl (by omega) ?_
    refine v_ia (v := c 59 (4 * a2 + 3)) rfl rfl (by decide) (by decide) (by omega) ((up_n (by omega)).trans ((up_n (by omega)).trans ((up_n (by omega)).trans (up_n (by omega))))) ?_
    refine q_aload_n rfl rfl ?_
    refine v_gr (t := 48) rfl rfl rfl (by decide) rfl ?_
    refine q_iconst rfl ?_
    refine q_iload_n rfl rfl ?_
    refine v_imul (v := 3 * a1) rfl (by omega) ?_
    refine q_iload_n rfl rfl ?_
    refine v_iadd (v := 3 * a1 + 3) rfl (by omega) ?_
    refine q_iconst rfl ?_
    refine v_isub (v := 3 * a1 + 2) rfl (by omega) ?_
    have h_13 := ir_48 hI (3 * a1 + 2)
    refine v_ia (v := c 48 (3 * a1 + 2)) rfl rfl (by decide) (by decide) (by omega) ((up_c (by decide)).trans ((up_c (by decide)).trans ((up_c (by decide)).trans (up_c (by decide))))) ?_
    have h_14 : 0 ≤ (c 59 (4 * a2 + 3)) * (c 48 (3 * a1 + 2)) ∧ (c 59 (4 * a2 + 3)) * (c 48 (3 * a1 + 2)) ≤ 10 * (c 59 (4 * a2 + 3)) := mul_bd (by omega) (by omega) (by omega)
    have h_15 : 0 ≤ (c 59 (4 * a2 + 3)) * (c 48 (3 * a1 + 2)) ∧ (c 59 (4 * a2 + 3)) * (c 48 (3 * a1 + 2)) ≤ 9999 * (c 48 (3 * a1 + 2)) := mul_bd2 (by omega) (by omega) (by omega)
    refine v_imul (v := ((c 59 (4 * a2 + 3)) * (c 48 (3 * a1 + 2)))) rfl rfl ?_
    refine v_bip rfl (by decide) ?_
    refine v_idiv (v := (((c 59 (4 * a2 + 3)) * (c 48 (3 * a1 + 2))) / 10)) rfl (by omega) rfl ?_
    refine q_istore rfl (by decide) ?_
    refine q_aload_n rfl rfl ?_
    refine v_gr (t := 59) rfl rfl rfl (by decide) rfl ?_
    refine q_iconst rfl ?_
    refine q_iload_n rfl rfl ?_
    refine v_imul (v := 4 * a2) rfl (by omega) ?_
    refine q_iload_n rfl rfl ?_
    refine v_iadd (v := 4 * a2 + 3) rfl (by omega) ?_
    refine q_dup2 rfl ⟨rfl, rfl⟩ ?_
    refine v_ia (v := c 59 (4 * a2 + 3)) rfl rfl (by decide) (by decide) (by omega) ((up_n (by omega)).trans ((up_n (by omega)).trans ((up_n (by omega)).trans (up_n (by omega))))) ?_
    refine q_iload rfl rfl ?_
    refine v_isub (v := c 59 (4 * a2 + 3) - (((c 59 (4 * a2 + 3)) * (c 48 (3 * a1 + 2))) / 10)) rfl (by omega) ?_
    refine v_is rfl rfl (by decide) (by decide) (by omega) ?_
    refine q_aload_n rfl rfl ?_
    refine v_gr (t := 59) rfl rfl rfl (by decide) rfl ?_
    refine q_iconst rfl ?_
    refine q_iload_n rfl rfl ?_
    refine v_imul (v := 4 * a2) rfl (by omega) ?_
    refine q_iload_n rfl rfl ?_
    refine v_iadd (v := 4 * a2 + 3) rfl (by omega) ?_
    refine q_iconst rfl ?_
    refine v_isub (v := 4 * a2 + 2) rfl (by omega) ?_
    refine q_dup2 rfl ⟨rfl, rfl⟩ ?_
    refine v_ia (v := c 59 (4 * a2 + 2) - (((c 59 (4 * a2 + 2)) * (c 48 (3 * a1 + 1))) / 10)) rfl rfl (by decide) (by decide) (by omega) ((up_n (by omega)).trans ((up_n (by omega)).trans (up_e rfl))) ?_
    refine q_iload rfl rfl ?_
    refine v_iadd (v := (((c 59 (4 * a2 + 3)) * (c 48 (3 * a1 + 2))) / 10) + c 59 (4 * a2 + 2) - (((c 59 (4 * a2 + 2)) * (c 48 (3 * a1 + 1))) / 10)) rfl (by omega) ?_
    refine v_is rfl rfl (by decide) (by decide) (by omega) ?_
    refine v_iinc (v := 4) rfl rfl (by decide) (by decide) ?_
    refine q_goto (t := 12) rfl (by decide) ?_
    refine q_iload_n rfl rfl ?_
    refine q_iconst rfl ?_
    refine v_ic_ge_t (t := 83) rfl (by decide) (by decide) ?_
    refine q_aload_n rfl rfl ?_
    refine v_gr (t := 59) rfl rfl rfl (by decide) rfl ?_
    refine q_iconst rfl ?_
    refine q_iload_n rfl rfl ?_
    refine v_imul (v := 4 * a2) rfl (by omega) ?_
    refine v_ia (v := (((c 59 (4 * a2 + 1)) * (c 48 (3 * a1))) / 10) + c 59 (4 * a2)) rfl rfl (by decide) (by decide) (by omega) ((up_n (by omega)).trans ((up_n (by omega)).trans ((up_n (by omega)).trans ((up_n (by omega)).trans (up_e rfl))))) ?_
    refine q_aload_n rfl rfl ?_
    have h_16 := ir_41_23 hI
    refine v_gi (z := 23) (v := c 41 23) rfl rfl rfl (by decide) rfl rfl ((up_c (by decide)).trans ((up_c (by decide)).trans ((up_c (by decide)).trans ((up_c (by decide)).trans ((up_c (by decide)).trans (up_c (by decide))))))) ?_
    have h_17 : 0 ≤ ((((c 59 (4 * a2 + 1)) * (c 48 (3 * a1))) / 10) + c 59 (4 * a2)) * (c 41 23) ∧ ((((c 59 (4 * a2 + 1)) * (c 48 (3 * a1))) / 10) + c 59 (4 * a2)) * (c 41 23) ≤ 50 * ((((c 59 (4 * a2 + 1)) * (c 48 (3 * a1))) / 10) + c 59 (4 * a2)) := mul_bd (by omega) (by omega) (by omega)
    have h_18 : 0 ≤ ((((c 59 (4 * a2 + 1)) * (c 48 (3 * a1))) / 10) + c 59 (4 * a2)) * (c 41 23) ∧ ((((c 59 (4 * a2 + 1)) * (c 48 (3 * a1))) / 10) + c 59 (4 * a2)) * (c 41 23) ≤ 9999 * (c 41 23) := mul_bd2 (by omega) (by omega) (by omega)
    refine v_imul (v := (((((c 59 (4 * a2 + 1)) * (c 48 (3 * a1))) / 10) + c 59 (4 * a2)) * (c 41 23))) rfl rfl ?_
    refine v_bip rfl (by decide) ?_
    refine v_idiv (v := ((((((c 59 (4 * a2 + 1)) * (c 48 (3 * a1))) / 10) + c 59 (4 * a2)) * (c 41 23)) / 100)) rfl (by omega) rfl ?_
    refine q_istore_n rfl (by decide) ?_
    refine q_aload_n rfl rfl ?_
    refine v_gr (t := 59) rfl rfl rfl (by decide) rfl ?_
    refine q_iconst rfl ?_
    refine q_iload_n rfl rfl ?_
    refine v_imul (v := 4 * a2) rfl (by omega) ?_
    refine q_dup2 rfl ⟨rfl, rfl⟩ ?_
    refine v_ia (v := (((c 59 (4 * a2 + 1)) * (c 48 (3 * a1))) / 10) + c 59 (4 * a2)) rfl rfl (by decide) (by decide) (by omega) ((up_n (by omega)).trans ((up_n (by omega)).trans ((up_n (by omega)).trans ((up_n (by omega)).trans (up_e rfl))))) ?_
    refine q_iload_n rfl rfl ?_
    refine v_isub (v := (((c 59 (4 * a2 + 1)) * (c 48 (3 * a1))) / 10) + c 59 (4 * a2) - ((((((c 59 (4 * a2 + 1)) * (c 48 (3 * a1))) / 10) + c 59 (4 * a2)) * (c 41 23)) / 100)) rfl (by omega) ?_
    refine v_is rfl rfl (by decide) (by decide) (by omega) ?_
    refine q_aload_n rfl rfl ?_
    refine v_gr (t := 59) rfl rfl rfl (by decide) rfl ?_
    refine v_bip rfl (by decide) ?_
    refine q_dup2 rfl ⟨rfl, rfl⟩ ?_
    have h_19 := ir_59 hI 35
    refine v_ia (v := c 59 35) rfl rfl (by decide) (by decide) (by decide) ((up_n (by omega)).trans ((up_n (by omega)).trans ((up_n (by omega)).trans ((up_n (by omega)).trans ((up_n (by omega)).trans ((up_n (by omega)).trans (up_n (by omega)))))))) ?_
    refine q_iload_n rfl rfl ?_
    refine v_iadd (v := ((((((c 59 (4 * a2 + 1)) * (c 48 (3 * a1))) / 10) + c 59 (4 * a2)) * (c 41 23)) / 100) + c 59 35) rfl (by omega) ?_
    refine v_nrm (fun y_20 hy_20 => ?_)
    refine v_is rfl rfl (by decide) (by decide) (by decide) ?_
    refine q_iconst rfl ?_
    refine v_zret rfl rfl (by omega) ?_
    have hI_21 := iw_row (a := 59) (j := 4 * a2 + 1) (v := c 59 (4 * a2 + 1) - (((c 59 (4 * a2 + 1)) * (c 48 (3 * a1))) / 10)) hIo (by omega) (Or.inl rfl) ⟨by omega, by omega, by omega⟩
    have hI_22 := iw_row (a := 59) (j := 4 * a2) (v := (((c 59 (4 * a2 + 1)) * (c 48 (3 * a1))) / 10) + c 59 (4 * a2)) hI_21 (by omega) (Or.inl rfl) ⟨by omega, by omega, by omega⟩
    have hI_23 := iw_row (a := 59) (j := 4 * a2 + 2) (v := c 59 (4 * a2 + 2) - (((c 59 (4 * a2 + 2)) * (c 48 (3 * a1 + 1))) / 10)) hI_22 (by omega) (Or.inl rfl) ⟨by omega, by omega, by omega⟩
    have hI_24 := iw_row (a := 59) (j := 4 * a2 + 1) (v := (((c 59 (4 * a2 + 2)) * (c 48 (3 * a1 + 1))) / 10) + c 59 (4 * a2 + 1) - (((c 59 (4 * a2 + 1)) * (c 48 (3 * a1))) / 10)) hI_23 (by omega) (Or.inl rfl) ⟨by omega, by omega, by omega⟩
    have hI_25 := iw_row (a := 59) (j := 4 * a2 + 3) (v := c 59 (4 * a2 + 3) - (((c 59 (4 * a2 + 3)) * (c 48 (3 * a1 + 2))) / 10)) hI_24 (by omega) (Or.inl rfl) ⟨by omega, by omega, by omega⟩
    have hI_26 := iw_row (a := 59) (j := 4 * a2 + 2) (v := (((c 59 (4 * a2 + 3)) * (c 48 (3 * a1 + 2))) / 10) + c 59 (4 * a2 + 2) - (((c 59 (4 * a2 + 2)) * (c 48 (3 * a1 + 1))) / 10)) hI_25 (by omega) (Or.inl rfl) ⟨by omega, by omega, by omega⟩
    have hI_27 := iw_row (a := 59) (j := 4 * a2) (v := (((c 59 (4 * a2 + 1)) * (c 48 (3 * a1))) / 10) + c 59 (4 * a2) - ((((((c 59 (4 * a2 + 1)) * (c 48 (3 * a1))) / 10) + c 59 (4 * a2)) * (c 41 23)) / 100)) hI_26 (by omega) (Or.inl rfl) ⟨by omega, by omega, by omega⟩
    have hI_28 := iw_row (a := 59) (j := 35) (v := y_20) hI_27 (by omega) (Or.inr (by omega)) ⟨by omega, by omega, by omega⟩
    have hr_29 : ∀ j : Int, rs 59 j → (up (up (up (up (up (up (up (up c 59 (4 * a2 + 1) (c 59 (4 * a2 + 1) - (((c 59 (4 * a2 + 1)) * (c 48 (3 * a1))) / 10))) 59 (4 * a2) ((((c 59 (4 * a2 + 1)) * (c 48 (3 * a1))) / 10) + c 59 (4 * a2))) 59 (4 * a2 + 2) (c 59 (4 * a2 + 2) - (((c 59 (4 * a2 + 2)) * (c 48 (3 * a1 + 1))) / 10))) 59 (4 * a2 + 1) ((((c 59 (4 * a2 + 2)) * (c 48 (3 * a1 + 1))) / 10) + c 59 (4 * a2 + 1) - (((c 59 (4 * a2 + 1)) * (c 48 (3 * a1))) / 10))) 59 (4 * a2 + 3) (c 59 (4 * a2 + 3) - (((c 59 (4 * a2 + 3)) * (c 48 (3 * a1 + 2))) / 10))) 59 (4 * a2 + 2) ((((c 59 (4 * a2 + 3)) * (c 48 (3 * a1 + 2))) / 10) + c 59 (4 * a2 + 2) - (((c 59 (4 * a2 + 2)) * (c 48 (3 * a1 + 1))) / 10))) 59 (4 * a2) ((((c 59 (4 * a2 + 1)) * (c 48 (3 * a1))) / 10) + c 59 (4 * a2) - ((((((c 59 (4 * a2 + 1)) * (c 48 (3 * a1))) / 10) + c 59 (4 * a2)) * (c 41 23)) / 100))) 59 35 y_20) 59 j + (up (up (up (up (up (up (up (up c 59 (4 * a2 + 1) (c 59 (4 * a2 + 1) - (((c 59 (4 * a2 + 1)) * (c 48 (3 * a1))) / 10))) 59 (4 * a2) ((((c 59 (4 * a2 + 1)) * (c 48 (3 * a1))) / 10) + c 59 (4 * a2))) 59 (4 * a2 + 2) (c 59 (4 * a2 + 2) - (((c 59 (4 * a2 + 2)) * (c 48 (3 * a1 + 1))) / 10))) 59 (4 * a2 + 1) ((((c 59 (4 * a2 + 2)) * (c 48 (3 * a1 + 1))) / 10) + c 59 (4 * a2 + 1) - (((c 59 (4 * a2 + 1)) * (c 48 (3 * a1))) / 10))) 59 (4 * a2 + 3) (c 59 (4 * a2 + 3) - (((c 59 (4 * a2 + 3)) * (c 48 (3 * a1 + 2))) / 10))) 59 (4 * a2 + 2) ((((c 59 (4 * a2 + 3)) * (c 48 (3 * a1 + 2))) / 10) + c 59 (4 * a2 + 2) - (((c 59 (4 * a2 + 2)) * (c 48 (3 * a1 + 1))) / 10))) 59 (4 * a2) ((((c 59 (4 * a2 + 1)) * (c 48 (3 * a1))) / 10) + c 59 (4 * a2) - ((((((c 59 (4 * a2 + 1)) * (c 48 (3 * a1))) / 10) + c 59 (4 * a2)) * (c 41 23)) / 100))) 59 35 y_20) 59 (j + 1) + (up (up (up (up (up (up (up (up c 59 (4 * a2 + 1) (c 59 (4 * a2 + 1) - (((c 59 (4 * a2 + 1)) * (c 48 (3 * a1))) / 10))) 59 (4 * a2) ((((c 59 (4 * a2 + 1)) * (c 48 (3 * a1))) / 10) + c 59 (4 * a2))) 59 (4 * a2 + 2) (c 59 (4 * a2 + 2) - (((c 59 (4 * a2 + 2)) * (c 48 (3 * a1 + 1))) / 10))) 59 (4 * a2 + 1) ((((c 59 (4 * a2 + 2)) * (c 48 (3 * a1 + 1))) / 10) + c 59 (4 * a2 + 1) - (((c 59 (4 * a2 + 1)) * (c 48 (3 * a1))) / 10))) 59 (4 * a2 + 3) (c 59 (4 * a2 + 3) - (((c 59 (4 * a2 + 3)) * (c 48 (3 * a1 + 2))) / 10))) 59 (4 * a2 + 2) ((((c 59 (4 * a2 + 3)) * (c 48 (3 * a1 + 2))) / 10) + c 59 (4 * a2 + 2) - (((c 59 (4 * a2 + 2)) * (c 48 (3 * a1 + 1))) / 10))) 59 (4 * a2) ((((c 59 (4 * a2 + 1)) * (c 48 (3 * a1))) / 10) + c 59 (4 * a2) - ((((((c 59 (4 * a2 + 1)) * (c 48 (3 * a1))) / 10) + c 59 (4 * a2)) * (c 41 23)) / 100))) 59 35 y_20) 59 (j + 2) + (up (up (up (up (up (up (up (up c 59 (4 * a2 + 1) (c 59 (4 * a2 + 1) - (((c 59 (4 * a2 + 1)) * (c 48 (3 * a1))) / 10))) 59 (4 * a2) ((((c 59 (4 * a2 + 1)) * (c 48 (3 * a1))) / 10) + c 59 (4 * a2))) 59 (4 * a2 + 2) (c 59 (4 * a2 + 2) - (((c 59 (4 * a2 + 2)) * (c 48 (3 * a1 + 1))) / 10))) 59 (4 * a2 + 1) ((((c 59 (4 * a2 + 2)) * (c 48 (3 * a1 + 1))) / 10) + c 59 (4 * a2 + 1) - (((c 59 (4 * a2 + 1)) * (c 48 (3 * a1))) / 10))) 59 (4 * a2 + 3) (c 59 (4 * a2 + 3) - (((c 59 (4 * a2 + 3)) * (c 48 (3 * a1 + 2))) / 10))) 59 (4 * a2 + 2) ((((c 59 (4 * a2 + 3)) * (c 48 (3 * a1 + 2))) / 10) + c 59 (4 * a2 + 2) - (((c 59 (4 * a2 + 2)) * (c 48 (3 * a1 + 1))) / 10))) 59 (4 * a2) ((((c 59 (4 * a2 + 1)) * (c 48 (3 * a1))) / 10) + c 59 (4 * a2) - ((((((c 59 (4 * a2 + 1)) * (c 48 (3 * a1))) / 10) + c 59 (4 * a2)) * (c 41 23)) / 100))) 59 35 y_20) 59 (j + 3) ≤ 9999 := by
      intro j9 hj9
      obtain ⟨k9, rfl, hk9⟩ := rs_59 hj9
      by_cases e_30 : k9 = a2
      · skip
        have h_31 : (up (up (up (up (up (up (up (up c 59 (4 * a2 + 1) (c 59 (4 * a2 + 1) - (((c 59 (4 * a2 + 1)) * (c 48 (3 * a1))) / 10))) 59 (4 * a2) ((((c 59 (4 * a2 + 1)) * (c 48 (3 * a1))) / 10) + c 59 (4 * a2))) 59 (4 * a2 + 2) (c 59 (4 * a2 + 2) - (((c 59 (4 * a2 + 2)) * (c 48 (3 * a1 + 1))) / 10))) 59 (4 * a2 + 1) ((((c 59 (4 * a2 + 2)) * (c 48 (3 * a1 + 1))) / 10) + c 59 (4 * a2 + 1) - (((c 59 (4 * a2 + 1)) * (c 48 (3 * a1))) / 10))) 59 (4 * a2 + 3) (c 59 (4 * a2 + 3) - (((c 59 (4 * a2 + 3)) * (c 48 (3 * a1 + 2))) / 10))) 59 (4 * a2 + 2) ((((c 59 (4 * a2 + 3)) * (c 48 (3 * a1 + 2))) / 10) + c 59 (4 * a2 + 2) - (((c 59 (4 * a2 + 2)) * (c 48 (3 * a1 + 1))) / 10))) 59 (4 * a2) ((((c 59 (4 * a2 + 1)) * (c 48 (3 * a1))) / 10) + c 59 (4 * a2) - ((((((c 59 (4 * a2 + 1)) * (c 48 (3 * a1))) / 10) + c 59 (4 * a2)) * (c 41 23)) / 100))) 59 35 y_20) 59 (4 * k9) = (((c 59 (4 * a2 + 1)) * (c 48 (3 * a1))) / 10) + c 59 (4 * a2) - ((((((c 59 (4 * a2 + 1)) * (c 48 (3 * a1))) / 10) + c 59 (4 * a2)) * (c 41 23)) / 100) := (congrArg ((up (up (up (up (up (up (up (up c 59 (4 * a2 + 1) (c 59 (4 * a2 + 1) - (((c 59 (4 * a2 + 1)) * (c 48 (3 * a1))) / 10))) 59 (4 * a2) ((((c 59 (4 * a2 + 1)) * (c 48 (3 * a1))) / 10) + c 59 (4 * a2))) 59 (4 * a2 + 2) (c 59 (4 * a2 + 2) - (((c 59 (4 * a2 + 2)) * (c 48 (3 * a1 + 1))) / 10))) 59 (4 * a2 + 1) ((((c 59 (4 * a2 + 2)) * (c 48 (3 * a1 + 1))) / 10) + c 59 (4 * a2 + 1) - (((c 59 (4 * a2 + 1)) * (c 48 (3 * a1))) / 10))) 59 (4 * a2 + 3) (c 59 (4 * a2 + 3) - (((c 59 (4 * a2 + 3)) * (c 48 (3 * a1 + 2))) / 10))) 59 (4 * a2 + 2) ((((c 59 (4 * a2 + 3)) * (c 48 (3 * a1 + 2))) / 10) + c 59 (4 * a2 + 2) - (((c 59 (4 * a2 + 2)) * (c 48 (3 * a1 + 1))) / 10))) 59 (4 * a2) ((((c 59 (4 * a2 + 1)) * (c 48 (3 * a1))) / 10) + c 59 (4 * a2) - ((((((c 59 (4 * a2 + 1)) * (c 48 (3 * a1))) / 10) + c 59 (4 * a2)) * (c 41 23)) / 100))) 59 35 y_20) 59) (show 4 * k9 = 4 * a2 from by omega)).trans ((up_n (by omega)).trans (up_e rfl))
        have h_32 : (up (up (up (up (up (up (up (up c 59 (4 * a2 + 1) (c 59 (4 * a2 + 1) - (((c 59 (4 * a2 + 1)) * (c 48 (3 * a1))) / 10))) 59 (4 * a2) ((((c 59 (4 * a2 + 1)) * (c 48 (3 * a1))) / 10) + c 59 (4 * a2))) 59 (4 * a2 + 2) (c 59 (4 * a2 + 2) - (((c 59 (4 * a2 + 2)) * (c 48 (3 * a1 + 1))) / 10))) 59 (4 * a2 + 1) ((((c 59 (4 * a2 + 2)) * (c 48 (3 * a1 + 1))) / 10) + c 59 (4 * a2 + 1) - (((c 59 (4 * a2 + 1)) * (c 48 (3 * a1))) / 10))) 59 (4 * a2 + 3) (c 59 (4 * a2 + 3) - (((c 59 (4 * a2 + 3)) * (c 48 (3 * a1 + 2))) / 10))) 59 (4 * a2 + 2) ((((c 59 (4 * a2 + 3)) * (c 48 (3 * a1 + 2))) / 10) + c 59 (4 * a2 + 2) - (((c 59 (4 * a2 + 2)) * (c 48 (3 * a1 + 1))) / 10))) 59 (4 * a2) ((((c 59 (4 * a2 + 1)) * (c 48 (3 * a1))) / 10) + c 59 (4 * a2) - ((((((c 59 (4 * a2 + 1)) * (c 48 (3 * a1))) / 10) + c 59 (4 * a2)) * (c 41 23)) / 100))) 59 35 y_20) 59 (4 * k9 + 1) = (((c 59 (4 * a2 + 2)) * (c 48 (3 * a1 + 1))) / 10) + c 59 (4 * a2 + 1) - (((c 59 (4 * a2 + 1)) * (c 48 (3 * a1))) / 10) := (congrArg ((up (up (up (up (up (up (up (up c 59 (4 * a2 + 1) (c 59 (4 * a2 + 1) - (((c 59 (4 * a2 + 1)) * (c 48 (3 * a1))) / 10))) 59 (4 * a2) ((((c 59 (4 * a2 + 1)) * (c 48 (3 * a1))) / 10) + c 59 (4 * a2))) 59 (4 * a2 + 2) (c 59 (4 * a2 + 2) - (((c 59 (4 * a2 + 2)) * (c 48 (3 * a1 + 1))) / 10))) 59 (4 * a2 + 1) ((((c 59 (4 * a2 + 2)) * (c 48 (3 * a1 + 1))) / 10) + c 59 (4 * a2 + 1) - (((c 59 (4 * a2 + 1)) * (c 48 (3 * a1))) / 10))) 59 (4 * a2 + 3) (c 59 (4 * a2 + 3) - (((c 59 (4 * a2 + 3)) * (c 48 (3 * a1 + 2))) / 10))) 59 (4 * a2 + 2) ((((c 59 (4 * a2 + 3)) * (c 48 (3 * a1 + 2))) / 10) + c 59 (4 * a2 + 2) - (((c 59 (4 * a2 + 2)) * (c 48 (3 * a1 + 1))) / 10))) 59 (4 * a2) ((((c 59 (4 * a2 + 1)) * (c 48 (3 * a1))) / 10) + c 59 (4 * a2) - ((((((c 59 (4 * a2 + 1)) * (c 48 (3 * a1))) / 10) + c 59 (4 * a2)) * (c 41 23)) / 100))) 59 35 y_20) 59) (show 4 * k9 + 1 = 4 * a2 + 1 from by omega)).trans ((up_n (by omega)).trans ((up_n (by omega)).trans ((up_n (by omega)).trans ((up_n (by omega)).trans (up_e rfl)))))
        have h_33 : (up (up (up (up (up (up (up (up c 59 (4 * a2 + 1) (c 59 (4 * a2 + 1) - (((c 59 (4 * a2 + 1)) * (c 48 (3 * a1))) / 10))) 59 (4 * a2) ((((c 59 (4 * a2 + 1)) * (c 48 (3 * a1))) / 10) + c 59 (4 * a2))) 59 (4 * a2 + 2) (c 59 (4 * a2 + 2) - (((c 59 (4 * a2 + 2)) * (c 48 (3 * a1 + 1))) / 10))) 59 (4 * a2 + 1) ((((c 59 (4 * a2 + 2)) * (c 48 (3 * a1 + 1))) / 10) + c 59 (4 * a2 + 1) - (((c 59 (4 * a2 + 1)) * (c 48 (3 * a1))) / 10))) 59 (4 * a2 + 3) (c 59 (4 * a2 + 3) - (((c 59 (4 * a2 + 3)) * (c 48 (3 * a1 + 2))) / 10))) 59 (4 * a2 + 2) ((((c 59 (4 * a2 + 3)) * (c 48 (3 * a1 + 2))) / 10) + c 59 (4 * a2 + 2) - (((c 59 (4 * a2 + 2)) * (c 48 (3 * a1 + 1))) / 10))) 59 (4 * a2) ((((c 59 (4 * a2 + 1)) * (c 48 (3 * a1))) / 10) + c 59 (4 * a2) - ((((((c 59 (4 * a2 + 1)) * (c 48 (3 * a1))) / 10) + c 59 (4 * a2)) * (c 41 23)) / 100))) 59 35 y_20) 59 (4 * k9 + 2) = (((c 59 (4 * a2 + 3)) * (c 48 (3 * a1 + 2))) / 10) + c 59 (4 * a2 + 2) - (((c 59 (4 * a2 + 2)) * (c 48 (3 * a1 + 1))) / 10) := (congrArg ((up (up (up (up (up (up (up (up c 59 (4 * a2 + 1) (c 59 (4 * a2 + 1) - (((c 59 (4 * a2 + 1)) * (c 48 (3 * a1))) / 10))) 59 (4 * a2) ((((c 59 (4 * a2 + 1)) * (c 48 (3 * a1))) / 10) + c 59 (4 * a2))) 59 (4 * a2 + 2) (c 59 (4 * a2 + 2) - (((c 59 (4 * a2 + 2)) * (c 48 (3 * a1 + 1))) / 10))) 59 (4 * a2 + 1) ((((c 59 (4 * a2 + 2)) * (c 48 (3 * a1 + 1))) / 10) + c 59 (4 * a2 + 1) - (((c 59 (4 * a2 + 1)) * (c 48 (3 * a1))) / 10))) 59 (4 * a2 + 3) (c 59 (4 * a2 + 3) - (((c 59 (4 * a2 + 3)) * (c 48 (3 * a1 + 2))) / 10))) 59 (4 * a2 + 2) ((((c 59 (4 * a2 + 3)) * (c 48 (3 * a1 + 2))) / 10) + c 59 (4 * a2 + 2) - (((c 59 (4 * a2 + 2)) * (c 48 (3 * a1 + 1))) / 10))) 59 (4 * a2) ((((c 59 (4 * a2 + 1)) * (c 48 (3 * a1))) / 10) + c 59 (4 * a2) - ((((((c 59 (4 * a2 + 1)) * (c 48 (3 * a1))) / 10) + c 59 (4 * a2)) * (c 41 23)) / 100))) 59 35 y_20) 59) (show 4 * k9 + 2 = 4 * a2 + 2 from by omega)).trans ((up_n (by omega)).trans ((up_n (by omega)).trans (up_e rfl)))
        have h_34 : (up (up (up (up (up (up (up (up c 59 (4 * a2 + 1) (c 59 (4 * a2 + 1) - (((c 59 (4 * a2 + 1)) * (c 48 (3 * a1))) / 10))) 59 (4 * a2) ((((c 59 (4 * a2 + 1)) * (c 48 (3 * a1))) / 10) + c 59 (4 * a2))) 59 (4 * a2 + 2) (c 59 (4 * a2 + 2) - (((c 59 (4 * a2 + 2)) * (c 48 (3 * a1 + 1))) / 10))) 59 (4 * a2 + 1) ((((c 59 (4 * a2 + 2)) * (c 48 (3 * a1 + 1))) / 10) + c 59 (4 * a2 + 1) - (((c 59 (4 * a2 + 1)) * (c 48 (3 * a1))) / 10))) 59 (4 * a2 + 3) (c 59 (4 * a2 + 3) - (((c 59 (4 * a2 + 3)) * (c 48 (3 * a1 + 2))) / 10))) 59 (4 * a2 + 2) ((((c 59 (4 * a2 + 3)) * (c 48 (3 * a1 + 2))) / 10) + c 59 (4 * a2 + 2) - (((c 59 (4 * a2 + 2)) * (c 48 (3 * a1 + 1))) / 10))) 59 (4 * a2) ((((c 59 (4 * a2 + 1)) * (c 48 (3 * a1))) / 10) + c 59 (4 * a2) - ((((((c 59 (4 * a2 + 1)) * (c 48 (3 * a1))) / 10) + c 59 (4 * a2)) * (c 41 23)) / 100))) 59 35 y_20) 59 (4 * k9 + 3) = c 59 (4 * a2 + 3) - (((c 59 (4 * a2 + 3)) * (c 48 (3 * a1 + 2))) / 10) := (congrArg ((up (up (up (up (up (up (up (up c 59 (4 * a2 + 1) (c 59 (4 * a2 + 1) - (((c 59 (4 * a2 + 1)) * (c 48 (3 * a1))) / 10))) 59 (4 * a2) ((((c 59 (4 * a2 + 1)) * (c 48 (3 * a1))) / 10) + c 59 (4 * a2))) 59 (4 * a2 + 2) (c 59 (4 * a2 + 2) - (((c 59 (4 * a2 + 2)) * (c 48 (3 * a1 + 1))) / 10))) 59 (4 * a2 + 1) ((((c 59 (4 * a2 + 2)) * (c 48 (3 * a1 + 1))) / 10) + c 59 (4 * a2 + 1) - (((c 59 (4 * a2 + 1)) * (c 48 (3 * a1))) / 10))) 59 (4 * a2 + 3) (c 59 (4 * a2 + 3) - (((c 59 (4 * a2 + 3)) * (c 48 (3 * a1 + 2))) / 10))) 59 (4 * a2 + 2) ((((c 59 (4 * a2 + 3)) * (c 48 (3 * a1 + 2))) / 10) + c 59 (4 * a2 + 2) - (((c 59 (4 * a2 + 2)) * (c 48 (3 * a1 + 1))) / 10))) 59 (4 * a2) ((((c 59 (4 * a2 + 1)) * (c 48 (3 * a1))) / 10) + c 59 (4 * a2) - ((((((c 59 (4 * a2 + 1)) * (c 48 (3 * a1))) / 10) + c 59 (4 * a2)) * (c 41 23)) / 100))) 59 35 y_20) 59) (show 4 * k9 + 3 = 4 * a2 + 3 from by omega)).trans ((up_n (by omega)).trans ((up_n (by omega)).trans ((up_n (by omega)).trans (up_e rfl))))
        omega
      have h_35 := iv_r hI 59 (4 * k9) hj9 (by omega)
      have h_36 := ir_59_g hI (j := 4 * k9) (by omega)
      have h_37 : (up (up (up (up (up (up (up (up c 59 (4 * a2 + 1) (c 59 (4 * a2 + 1) - (((c 59 (4 * a2 + 1)) * (c 48 (3 * a1))) / 10))) 59 (4 * a2) ((((c 59 (4 * a2 + 1)) * (c 48 (3 * a1))) / 10) + c 59 (4 * a2))) 59 (4 * a2 + 2) (c 59 (4 * a2 + 2) - (((c 59 (4 * a2 + 2)) * (c 48 (3 * a1 + 1))) / 10))) 59 (4 * a2 + 1) ((((c 59 (4 * a2 + 2)) * (c 48 (3 * a1 + 1))) / 10) + c 59 (4 * a2 + 1) - (((c 59 (4 * a2 + 1)) * (c 48 (3 * a1))) / 10))) 59 (4 * a2 + 3) (c 59 (4 * a2 + 3) - (((c 59 (4 * a2 + 3)) * (c 48 (3 * a1 + 2))) / 10))) 59 (4 * a2 + 2) ((((c 59 (4 * a2 + 3)) * (c 48 (3 * a1 + 2))) / 10) + c 59 (4 * a2 + 2) - (((c 59 (4 * a2 + 2)) * (c 48 (3 * a1 + 1))) / 10))) 59 (4 * a2) ((((c 59 (4 * a2 + 1)) * (c 48 (3 * a1))) / 10) + c 59 (4 * a2) - ((((((c 59 (4 * a2 + 1)) * (c 48 (3 * a1))) / 10) + c 59 (4 * a2)) * (c 41 23)) / 100))) 59 35 y_20) 59 (4 * k9) = c 59 (4 * k9) := ((up_n (by omega)).trans ((up_n (by omega)).trans ((up_n (by omega)).trans ((up_n (by omega)).trans ((up_n (by omega)).trans ((up_n (by omega)).trans ((up_n (by omega)).trans (up_n (by omega)))))))))
      have h_38 := ir_59_g hI (j := 4 * k9 + 1) (by omega)
      have h_39 : (up (up (up (up (up (up (up (up c 59 (4 * a2 + 1) (c 59 (4 * a2 + 1) - (((c 59 (4 * a2 + 1)) * (c 48 (3 * a1))) / 10))) 59 (4 * a2) ((((c 59 (4 * a2 + 1)) * (c 48 (3 * a1))) / 10) + c 59 (4 * a2))) 59 (4 * a2 + 2) (c 59 (4 * a2 + 2) - (((c 59 (4 * a2 + 2)) * (c 48 (3 * a1 + 1))) / 10))) 59 (4 * a2 + 1) ((((c 59 (4 * a2 + 2)) * (c 48 (3 * a1 + 1))) / 10) + c 59 (4 * a2 + 1) - (((c 59 (4 * a2 + 1)) * (c 48 (3 * a1))) / 10))) 59 (4 * a2 + 3) (c 59 (4 * a2 + 3) - (((c 59 (4 * a2 + 3)) * (c 48 (3 * a1 + 2))) / 10))) 59 (4 * a2 + 2) ((((c 59 (4 * a2 + 3)) * (c 48 (3 * a1 + 2))) / 10) + c 59 (4 * a2 + 2) - (((c 59 (4 * a2 + 2)) * (c 48 (3 * a1 + 1))) / 10))) 59 (4 * a2) ((((c 59 (4 * a2 + 1)) * (c 48 (3 * a1))) / 10) + c 59 (4 * a2) - ((((((c 59 (4 * a2 + 1)) * (c 48 (3 * a1))) / 10) + c 59 (4 * a2)) * (c 41 23)) / 100))) 59 35 y_20) 59 (4 * k9 + 1) = c 59 (4 * k9 + 1) := ((up_n (by omega)).trans ((up_n (by omega)).trans ((up_n (by omega)).trans ((up_n (by omega)).trans ((up_n (by omega)).trans ((up_n (by omega)).trans ((up_n (by omega)).trans (up_n (by omega)))))))))
      have h_40 := ir_59_g hI (j := 4 * k9 + 2) (by omega)
      have h_41 : (up (up (up (up (up (up (up (up c 59 (4 * a2 + 1) (c 59 (4 * a2 + 1) - (((c 59 (4 * a2 + 1)) * (c 48 (3 * a1))) / 10))) 59 (4 * a2) ((((c 59 (4 * a2 + 1)) * (c 48 (3 * a1))) / 10) + c 59 (4 * a2))) 59 (4 * a2 + 2) (c 59 (4 * a2 + 2) - (((c 59 (4 * a2 + 2)) * (c 48 (3 * a1 + 1))) / 10))) 59 (4 * a2 + 1) ((((c 59 (4 * a2 + 2)) * (c 48 (3 * a1 + 1))) / 10) + c 59 (4 * a2 + 1) - (((c 59 (4 * a2 + 1)) * (c 48 (3 * a1))) / 10))) 59 (4 * a2 + 3) (c 59 (4 * a2 + 3) - (((c 59 (4 * a2 + 3)) * (c 48 (3 * a1 + 2))) / 10))) 59 (4 * a2 + 2) ((((c 59 (4 * a2 + 3)) * (c 48 (3 * a1 + 2))) / 10) + c 59 (4 * a2 + 2) - (((c 59 (4 * a2 + 2)) * (c 48 (3 * a1 + 1))) / 10))) 59 (4 * a2) ((((c 59 (4 * a2 + 1)) * (c 48 (3 * a1))) / 10) + c 59 (4 * a2) - ((((((c 59 (4 * a2 + 1)) * (c 48 (3 * a1))) / 10) + c 59 (4 * a2)) * (c 41 23)) / 100))) 59 35 y_20) 59 (4 * k9 + 2) = c 59 (4 * k9 + 2) := ((up_n (by omega)).trans ((up_n (by omega)).trans ((up_n (by omega)).trans ((up_n (by omega)).trans ((up_n (by omega)).trans ((up_n (by omega)).trans ((up_n (by omega)).trans (up_n (by omega)))))))))
      have h_42 := ir_59_g hI (j := 4 * k9 + 3) (by omega)
      have h_43 : (up (up (up (up (up (up (up (up c 59 (4 * a2 + 1) (c 59 (4 * a2 + 1) - (((c 59 (4 * a2 + 1)) * (c 48 (3 * a1))) / 10))) 59 (4 * a2) ((((c 59 (4 * a2 + 1)) * (c 48 (3 * a1))) / 10) + c 59 (4 * a2))) 59 (4 * a2 + 2) (c 59 (4 * a2 + 2) - (((c 59 (4 * a2 + 2)) * (c 48 (3 * a1 + 1))) / 10))) 59 (4 * a2 + 1) ((((c 59 (4 * a2 + 2)) * (c 48 (3 * a1 + 1))) / 10) + c 59 (4 * a2 + 1) - (((c 59 (4 * a2 + 1)) * (c 48 (3 * a1))) / 10))) 59 (4 * a2 + 3) (c 59 (4 * a2 + 3) - (((c 59 (4 * a2 + 3)) * (c 48 (3 * a1 + 2))) / 10))) 59 (4 * a2 + 2) ((((c 59 (4 * a2 + 3)) * (c 48 (3 * a1 + 2))) / 10) + c 59 (4 * a2 + 2) - (((c 59 (4 * a2 + 2)) * (c 48 (3 * a1 + 1))) / 10))) 59 (4 * a2) ((((c 59 (4 * a2 + 1)) * (c 48 (3 * a1))) / 10) + c 59 (4 * a2) - ((((((c 59 (4 * a2 + 1)) * (c 48 (3 * a1))) / 10) + c 59 (4 * a2)) * (c 41 23)) / 100))) 59 35 y_20) 59 (4 * k9 + 3) = c 59 (4 * k9 + 3) := ((up_n (by omega)).trans ((up_n (by omega)).trans ((up_n (by omega)).trans ((up_n (by omega)).trans ((up_n (by omega)).trans ((up_n (by omega)).trans ((up_n (by omega)).trans (up_n (by omega)))))))))
      omega
    have hI_44 := iv_close hI_28 hr_29
    exact K (up (up (up (up (up (up (up (up c 59 (4 * a2 + 1) (c 59 (4 * a2 + 1) - (((c 59 (4 * a2 + 1)) * (c 48 (3 * a1))) / 10))) 59 (4 * a2) ((((c 59 (4 * a2 + 1)) * (c 48 (3 * a1))) / 10) + c 59 (4 * a2))) 59 (4 * a2 + 2) (c 59 (4 * a2 + 2) - (((c 59 (4 * a2 + 2)) * (c 48 (3 * a1 + 1))) / 10))) 59 (4 * a2 + 1) ((((c 59 (4 * a2 + 2)) * (c 48 (3 * a1 + 1))) / 10) + c 59 (4 * a2 + 1) - (((c 59 (4 * a2 + 1)) * (c 48 (3 * a1))) / 10))) 59 (4 * a2 + 3) (c 59 (4 * a2 + 3) - (((c 59 (4 * a2 + 3)) * (c 48 (3 * a1 + 2))) / 10))) 59 (4 * a2 + 2) ((((c 59 (4 * a2 + 3)) * (c 48 (3 * a1 + 2))) / 10) + c 59 (4 * a2 + 2) - (((c 59 (4 * a2 + 2)) * (c 48 (3 * a1 + 1))) / 10))) 59 (4 * a2) ((((c 59 (4 * a2 + 1)) * (c 48 (3 * a1))) / 10) + c 59 (4 * a2) - ((((((c 59 (4 * a2 + 1)) * (c 48 (3 * a1))) / 10) + c 59 (4 * a2)) * (c 41 23)) / 100))) 59 35 y_20) 1 hI_44 (fun a j hm => (up_b (by omega)).trans ((up_b (by omega)).trans ((up_b (by omega)).trans ((up_b (by omega)).trans ((up_b (by omega)).trans ((up_b (by omega)).trans ((up_b (by omega)).trans (up_b (by omega))))))))) ⟨by decide, by decide⟩
  · refine v_if_ne_f (t := 10) rfl (by decide) (by omega) ?_
    refine q_iconst rfl ?_
    refine v_zret rfl rfl (by omega) ?_
    have hr_45 : ∀ j : Int, rs 59 j → c 59 j + c 59 (j + 1) + c 59 (j + 2) + c 59 (j + 3) ≤ 9999 := by
      intro j9 hj9
      obtain ⟨k9, rfl, hk9⟩ := rs_59 hj9
      by_cases e_46 : k9 = a2
      · skip
        have h_47 : c 59 (4 * k9) = c 59 (4 * a2) := (congrArg (c 59) (show 4 * k9 = 4 * a2 from by omega))
        have h_48 : c 59 (4 * k9 + 1) = c 59 (4 * a2 + 1) := (congrArg (c 59) (show 4 * k9 + 1 = 4 * a2 + 1 from by omega))
        have h_49 : c 59 (4 * k9 + 2) = c 59 (4 * a2 + 2) := (congrArg (c 59) (show 4 * k9 + 2 = 4 * a2 + 2 from by omega))
        have h_50 : c 59 (4 * k9 + 3) = c 59 (4 * a2 + 3) := (congrArg (c 59) (show 4 * k9 + 3 = 4 * a2 + 3 from by omega))
        omega
      have h_51 := iv_r hI 59 (4 * k9) hj9 (by omega)
      have h_52 := ir_59_g hI (j := 4 * k9) (by omega)
      have h_53 : c 59 (4 * k9) = c 59 (4 * k9) := rfl
      have h_54 := ir_59_g hI (j := 4 * k9 + 1) (by omega)
      have h_55 : c 59 (4 * k9 + 1) = c 59 (4 * k9 + 1) := rfl
      have h_56 := ir_59_g hI (j := 4 * k9 + 2) (by omega)
      have h_57 : c 59 (4 * k9 + 2) = c 59 (4 * k9 + 2) := rfl
      have h_58 := ir_59_g hI (j := 4 * k9 + 3) (by omega)
      have h_59 : c 59 (4 * k9 + 3) = c 59 (4 * k9 + 3) := rfl
      omega
    have hI_60 := iv_close hIo hr_45
    exact K c 0 hI_60 (fun a j hm => rfl) ⟨by decide, by decide⟩

set_option maxRecDepth 100000 in
set_option maxHeartbeats 4000000 in
theorem s_189 {sc : List Int32} {e : Int} {d u P Q : Nat} {c : ME} {v1 v2 v3 r : Int} {a1 : Int} {a2 : Int} {a3 : Int} {Z : AR → Prop} (hI : Iv u e P Q c) (ha1 : 0 ≤ a1 ∧ a1 ≤ 3) (ha2 : 0 ≤ a2 ∧ a2 ≤ 5) (ha3 : 0 ≤ a3 ∧ a3 ≤ 3) (hv0 : c 49 a1 = v1) (hv1 : c 59 (a1 + 30) = v2) (hv2 : c 59 (4 * a2 + a3) = v3) (hr9 : fal v1 (v2) a3 v3 = r) (K : Z (.inl (some (vi r)), Wd P Q P P c, 0, 0)) : Wp sc (d + 7) 189 0 [(0, .ref 41), (1, vi a1), (2, vi a2), (3, vi a3)] [] (Wd P Q P P c) 0 0 Z := by
  have hP := iv_P hI
  have hQ := iv_Q hI
  have h_1 := ir_49 hI a1
  have h_2 := ir_59 hI (a1 + 30)
  have h_3 := ir_59_g hI (j := 4 * a2 + a3) (by omega)
  refine q_iload_n rfl rfl ?_
  refine q_aload_n rfl rfl ?_
  refine v_gr (t := 49) rfl rfl rfl (by decide) rfl ?_
  refine q_iload_n rfl rfl ?_
  refine v_ia (v := v1) rfl rfl (by decide) (by decide) (by omega) (hv0) ?_
  by_cases h_4 : a3 > v1
  · refine v_ic_gt_t (t := 23) rfl (by decide) (by omega) ?_
    refine q_iload_n rfl rfl ?_
    refine q_aload_n rfl rfl ?_
    refine v_gr (t := 49) rfl rfl rfl (by decide) rfl ?_
    refine q_iload_n rfl rfl ?_
    refine v_ia (v := v1) rfl rfl (by decide) (by decide) (by omega) (hv0) ?_
    refine q_iconst rfl ?_
    refine v_iadd (v := v1 + 1) rfl (by omega) ?_
    by_cases h_5 : a3 ≠ v1 + 1
    · refine v_ic_ne_t (t := 63) rfl (by decide) (by omega) ?_
      refine q_iconst rfl ?_
      refine q_iret rfl rfl ?_
      exact zv (by rw [← hr9]; unfold fal; split <;> first | omega | (split <;> omega)) (K)
    · refine v_ic_ne_f (t := 63) rfl (by decide) (by omega) ?_
      refine q_aload_n rfl rfl ?_
      refine v_gr (t := 59) rfl rfl rfl (by decide) rfl ?_
      refine v_bip rfl (by decide) ?_
      refine q_iload_n rfl rfl ?_
      refine v_iadd (v := a1 + 30) rfl (by omega) ?_
      refine v_ia (v := v2) rfl rfl (by decide) (by decide) (by omega) (hv1) ?_
      refine q_iconst rfl ?_
      by_cases h_6 : v2 ≠ 1
      · refine v_ic_ne_t (t := 63) rfl (by decide) (by omega) ?_
        refine q_iconst rfl ?_
        refine q_iret rfl rfl ?_
        exact zv (by rw [← hr9]; unfold fal; split <;> first | omega | (split <;> omega)) (K)
      · refine v_ic_ne_f (t := 63) rfl (by decide) (by omega) ?_
        refine q_aload_n rfl rfl ?_
        refine v_gr (t := 59) rfl rfl rfl (by decide) rfl ?_
        refine q_iconst rfl ?_
        refine q_iload_n rfl rfl ?_
        refine v_imul (v := 4 * a2) rfl (by omega) ?_
        refine q_iload_n rfl rfl ?_
        refine v_iadd (v := 4 * a2 + a3) rfl (by omega) ?_
        refine v_ia (v := v3) rfl rfl (by decide) (by decide) (by omega) (hv2) ?_
        refine q_iconst rfl ?_
        refine v_idiv (v := (v3 / 2)) rfl (by omega) rfl ?_
        refine q_goto (t := 64) rfl (by decide) ?_
        refine q_iret rfl rfl ?_
        exact zv (by rw [← hr9]; unfold fal; split <;> first | omega | (split <;> omega)) (K)
  · refine v_ic_gt_f (t := 23) rfl (by decide) (by omega) ?_
    refine q_aload_n rfl rfl ?_
    refine v_gr (t := 59) rfl rfl rfl (by decide) rfl ?_
    refine q_iconst rfl ?_
    refine q_iload_n rfl rfl ?_
    refine v_imul (v := 4 * a2) rfl (by omega) ?_
    refine q_iload_n rfl rfl ?_
    refine v_iadd (v := 4 * a2 + a3) rfl (by omega) ?_
    refine v_ia (v := v3) rfl rfl (by decide) (by decide) (by omega) (hv2) ?_
    refine q_goto (t := 64) rfl (by decide) ?_
    refine q_iret rfl rfl ?_
    exact zv (by rw [← hr9]; unfold fal; split <;> first | omega | (split <;> omega)) (K)

set_option maxRecDepth 100000 in
set_option maxHeartbeats 4000000 in
theorem s_190 {sc : List Int32} {e : Int} {d u P Q : Nat} {c : ME} {v1 v2 v3 v4 v5 v6 r : Int} {a1 : Int} {a2 : Int} {Z : AR → Prop} (hI : Iv u e P Q c) (ha1 : 0 ≤ a1 ∧ a1 ≤ 3) (ha2 : 0 ≤ a2 ∧ a2 ≤ 5) (hv0 : c 49 a1 = v1) (hv1 : c 59 (a1 + 30) = v2) (hv2 : c 59 (4 * a2) = v3) (hv3 : c 59 (4 * a2 + 1) = v4) (hv4 : c 59 (4 * a2 + 2) = v5) (hv5 : c 59 (4 * a2 + 3) = v6) (hr9 : fal v1 (v2) 0 v3 + fal v1 (v2) 1 v4 + fal v1 (v2) 2 v5 + fal v1 (v2) 3 v6 = r) (K : Z (.inl (some (vi r)), Wd P Q P P c, 0, 0)) : Wp sc (d + 8) 190 0 [(0, .ref 41), (1, vi a1), (2, vi a2)] [] (Wd P Q P P c) 0 0 Z := by
  have hP := iv_P hI
  have hQ := iv_Q hI
  have h_1 := ir_49 hI a1
  have h_2 := ir_59 hI (a1 + 30)
  have h_3 := ir_59_g hI (j := 4 * a2) (by omega)
  have h_4 := ir_59_g hI (j := 4 * a2 + 1) (by omega)
  have h_5 := ir_59_g hI (j := 4 * a2 + 2) (by omega)
  have h_6 := ir_59_g hI (j := 4 * a2 + 3) (by omega)
  refine q_iconst rfl ?_
  refine q_istore_n rfl (by decide) ?_
  refine q_iconst rfl ?_
  refine q_istore rfl (by decide) ?_
  refine q_iload rfl rfl ?_
  refine q_iconst rfl ?_
  refine v_ic_ge_f (t := 28) rfl (by decide) (by decide) ?_
  refine q_iload_n rfl rfl ?_
  refine q_aload_n rfl rfl ?_
  refine q_iload_n rfl rfl ?_
  refine q_iload_n rfl rfl ?_
  refine q_iload rfl rfl ?_
  have h_7 := fal_rng (m := v1) (t := v2) (g := 0) (x := v3) (by omega)
  refine v_cv rfl rfl rfl rfl (by decide) ⟨⟨rfl, rfl⟩, by decide, rfl⟩ (Nat.le_of_ble_eq_true rfl) (Nat.le_of_ble_eq_true rfl) (s_189 (v1 := v1) (v2 := v2) (v3 := v3) (r := (fal v1 (v2) 0 v3)) (a1 := a1) (a2 := a2) (a3 := 0) hI (show 0 ≤ a1 ∧ a1 ≤ 3 from by omega) (show 0 ≤ a2 ∧ a2 ≤ 5 from by omega) (show 0 ≤ 0 ∧ 0 ≤ 3 from by omega) ((hv0)) ((hv1)) ((congrArg (c 59) (show 4 * a2 + 0 = 4 * a2 from by omega)).trans (hv2)) rfl ?_)
  refine bk_inl ?_
  refine v_iadd (v := (fal v1 (v2) 0 v3)) rfl (by omega) ?_
  refine q_istore_n rfl (by decide) ?_
  refine v_iinc (v := 1) rfl rfl (by decide) (by decide) ?_
  refine q_goto (t := 5) rfl (by decide) ?_
  refine q_iload rfl rfl ?_
  refine q_iconst rfl ?_
  refine v_ic_ge_f (t := 28) rfl (by decide) (by decide) ?_
  refine q_iload_n rfl rfl ?_
  refine q_aload_n rfl rfl ?_
  refine q_iload_n rfl rfl ?_
  refine q_iload_n rfl rfl ?_
  refine q_iload rfl rfl ?_
  have h_8 := fal_rng (m := v1) (t := v2) (g := 1) (x := v4) (by omega)
  refine v_cv rfl rfl rfl rfl (by decide) ⟨⟨rfl, rfl⟩, by decide, rfl⟩ (Nat.le_of_ble_eq_true rfl) (Nat.le_of_ble_eq_true rfl) (s_189 (v1 := v1) (v2 := v2) (v3 := v4) (r := (fal v1 (v2) 1 v4)) (a1 := a1) (a2 := a2) (a3 := 1) hI (show 0 ≤ a1 ∧ a1 ≤ 3 from by omega) (show 0 ≤ a2 ∧ a2 ≤ 5 from by omega) (show 0 ≤ 1 ∧ 1 ≤ 3 from by omega) ((hv0)) ((hv1)) ((hv3)) rfl ?_)
  refine bk_inl ?_
  refine v_iadd (v := (fal v1 (v2) 0 v3) + (fal v1 (v2) 1 v4)) rfl (by omega) ?_
  refine q_istore_n rfl (by decide) ?_
  refine Wp_ls [(3, vi ((fal v1 (v2) 0 v3) + (fal v1 (v2) 1 v4))), (4, vi 1), (0, .ref 41), (1, vi a1), (2, vi a2)] (lsub_cons rfl (lsub_cons rfl (lsub_cons rfl (lsub_cons rfl (lsub_cons rfl lsub_nil))))) ?_
  refine v_iinc (v := 2) rfl rfl (by decide) (by decide) ?_
  refine q_goto (t := 5) rfl (by decide) ?_
  refine q_iload rfl rfl ?_
  refine q_iconst rfl ?_
  refine v_ic_ge_f (t := 28) rfl (by decide) (by decide) ?_
  refine q_iload_n rfl rfl ?_
  refine q_aload_n rfl rfl ?_
  refine q_iload_n rfl rfl ?_
  refine q_iload_n rfl rfl ?_
  refine q_iload rfl rfl ?_
  have h_9 := fal_rng (m := v1) (t := v2) (g := 2) (x := v5) (by omega)
  refine v_cv rfl rfl rfl rfl (by decide) ⟨⟨rfl, rfl⟩, by decide, rfl⟩ (Nat.le_of_ble_eq_true rfl) (Nat.le_of_ble_eq_true rfl) (s_189 (v1 := v1) (v2 := v2) (v3 := v5) (r := (fal v1 (v2) 2 v5)) (a1 := a1) (a2 := a2) (a3 := 2) hI (show 0 ≤ a1 ∧ a1 ≤ 3 from by omega) (show 0 ≤ a2 ∧ a2 ≤ 5 from by omega) (show 0 ≤ 2 ∧ 2 ≤ 3 from by omega) ((hv0)) ((hv1)) ((hv4)) rfl ?_)
  refine bk_inl ?_
  refine v_iadd (v := (fal v1 (v2) 0 v3) + (fal v1 (v2) 1 v4) + (fal v1 (v2) 2 v5)) rfl (by omega) ?_
  refine q_istore_n rfl (by decide) ?_
  refine v_iinc (v := 3) rfl rfl (by decide) (by decide) ?_
  refine q_goto (t := 5) rfl (by decide) ?_
  refine q_iload rfl rfl ?_
  refine q_iconst rfl ?_
  refine v_ic_ge_f (t := 28) rfl (by decide) (by decide) ?_
  refine q_iload_n rfl rfl ?_
  refine q_aload_n rfl rfl ?_
  refine q_iload_n rfl rfl ?_
  refine q_iload_n rfl rfl ?_
  refine q_iload rfl rfl ?_
  have h_10 := fal_rng (m := v1) (t := v2) (g := 3) (x := v6) (by omega)
  refine v_cv rfl rfl rfl rfl (by decide) ⟨⟨rfl, rfl⟩, by decide, rfl⟩ (Nat.le_of_ble_eq_true rfl) (Nat.le_of_ble_eq_true rfl) (s_189 (v1 := v1) (v2 := v2) (v3 := v6) (r := (fal v1 (v2) 3 v6)) (a1 := a1) (a2 := a2) (a3 := 3) hI (show 0 ≤ a1 ∧ a1 ≤ 3 from by omega) (show 0 ≤ a2 ∧ a2 ≤ 5 from by omega) (show 0 ≤ 3 ∧ 3 ≤ 3 from by omega) ((hv0)) ((hv1)) ((hv5)) rfl ?_)
  refine bk_inl ?_
  refine v_iadd (v := (fal v1 (v2) 0 v3) + (fal v1 (v2) 1 v4) + (fal v1 (v2) 2 v5) + (fal v1 (v2) 3 v6)) rfl (by omega) ?_
  refine q_istore_n rfl (by decide) ?_
  refine v_iinc (v := 4) rfl rfl (by decide) (by decide) ?_
  refine Wp_ls [(4, vi 4), (3, vi ((fal v1 (v2) 0 v3) + (fal v1 (v2) 1 v4) + (fal v1 (v2) 2 v5) + (fal v1 (v2) 3 v6))), (0, .ref 41), (1, vi a1), (2, vi a2)] (lsub_cons rfl (lsub_cons rfl (lsub_cons rfl (lsub_cons rfl (lsub_cons rfl lsub_nil))))) ?_
  refine q_goto (t := 5) rfl (by decide) ?_
  refine q_iload rfl rfl ?_
  refine q_iconst rfl ?_
  refine v_ic_ge_t (t := 28) rfl (by decide) (by decide) ?_
  refine q_iload_n rfl rfl ?_
  refine q_iret rfl rfl ?_
  exact zv (by omega) (K)

set_option maxRecDepth 100000 in
set_option maxHeartbeats 4000000 in
theorem s_191 {sc : List Int32} {e : Int} {d u P Q : Nat} {c : ME} {a1 : Int} {a2 : Int} {Z : AR → Prop} (hI : Iv u e P Q c) (ha1 : 0 ≤ a1 ∧ a1 ≤ 5) (ha2 : (-2147483648) ≤ a2 ∧ a2 ≤ 2147483647) (K : ∀ (c2 : ME), Iv u e P Q c2 → (∀ (a : Nat) (j : Int), ¬ ((a = 59 ∧ j = a1 + 24)) → c2 a j = c a j) → Z (.inl (none), Wd P Q P P c2, 0, 0)) : Wp sc (d + 7) 191 0 [(0, .ref 41), (1, vi a1), (2, vi a2)] [] (Wd P Q P P c) 0 0 Z := by
  have hP := iv_P hI
  have hQ := iv_Q hI
  refine q_aload_n rfl rfl ?_
  refine v_gr (t := 59) rfl rfl rfl (by decide) rfl ?_
  refine v_bip rfl (by decide) ?_
  refine q_iload_n rfl rfl ?_
  refine v_iadd (v := a1 + 24) rfl (by omega) ?_
  refine q_iload_n rfl rfl ?_
  refine q_aload_n rfl rfl ?_
  refine v_gr (t := 59) rfl rfl rfl (by decide) rfl ?_
  refine v_bip rfl (by decide) ?_
  refine q_iload_n rfl rfl ?_
  refine v_iadd (v := a1 + 24) rfl (by omega) ?_
  have h_1 := ir_59 hI (a1 + 24)
  refine v_ia (v := c 59 (a1 + 24)) rfl rfl (by decide) (by decide) (by omega) rfl ?_
  by_cases h_2 : a2 ≤ c 59 (a1 + 24)
  · refine v_ic_le_t (t := 25) rfl (by decide) (by omega) ?_
    refine q_aload_n rfl rfl ?_
    refine v_gr (t := 59) rfl rfl rfl (by decide) rfl ?_
    refine v_bip rfl (by decide) ?_
    refine q_iload_n rfl rfl ?_
    refine v_iadd (v := a1 + 24) rfl (by omega) ?_
    refine v_ia (v := c 59 (a1 + 24)) rfl rfl (by decide) (by decide) (by omega) rfl ?_
    refine v_is rfl rfl (by decide) (by decide) (by omega) ?_
    refine q_vret rfl rfl ?_
    have hI_3 := iw_row (a := 59) (j := a1 + 24) (v := c 59 (a1 + 24)) hI (by omega) (Or.inr (by omega)) ⟨by omega, by omega, by omega⟩
    exact K (up c 59 (a1 + 24) (c 59 (a1 + 24))) hI_3 (fun a j hm => up_b (by omega))
  · refine v_ic_le_f (t := 25) rfl (by decide) (by omega) ?_
    refine q_iload_n rfl rfl ?_
    refine q_goto (t := 34) rfl (by decide) ?_
    refine v_is rfl rfl (by decide) (by decide) (by omega) ?_
    refine q_vret rfl rfl ?_
    have hI_4 := iw_row (a := 59) (j := a1 + 24) (v := a2) hI (by omega) (Or.inr (by omega)) ⟨by omega, by omega, by omega⟩
    exact K (up c 59 (a1 + 24) a2) hI_4 (fun a j hm => up_b (by omega))

set_option maxRecDepth 100000 in
set_option maxHeartbeats 4000000 in
theorem s_192 {sc : List Int32} {d P Q : Nat} {c : ME} {a1 : Int} {Z : AR → Prop} (hI : Iv 59 (-1) P Q c) (ha1 : 0 ≤ a1 ∧ a1 ≤ 5) (K : ∀ (c2 : ME), Iv 59 (-1) P Q c2 → (∀ (a : Nat) (j : Int), ¬ ((a = 59 ∧ j = 4 * a1) ∨ (a = 59 ∧ j = 4 * a1 + 1) ∨ (a = 59 ∧ j = 4 * a1 + 2) ∨ (a = 59 ∧ j = 4 * a1 + 3) ∨ (a = 59 ∧ j = a1 + 24)) → c2 a j = c a j) → ((c2 59 (4 * a1) = 0 ∧ c2 59 (4 * a1 + 1) = 0 ∧ c2 59 (4 * a1 + 2) = 0 ∧ c2 59 (4 * a1 + 3) = 0)) → Z (.inl (none), Wd P Q P P c2, 0, 0)) : Wp sc (d + 7) 192 0 [(0, .ref 41), (1, vi a1)] [] (Wd P Q P P c) 0 0 Z := by
  have hP := iv_P hI
  have hQ := iv_Q hI
  refine q_iconst rfl ?_
  refine q_istore_n rfl (by decide) ?_
  refine q_iload_n rfl rfl ?_
  refine q_iconst rfl ?_
  refine v_ic_ge_f (t := 24) rfl (by decide) (by decide) ?_
  refine q_aload_n rfl rfl ?_
  refine v_gr (t := 59) rfl rfl rfl (by decide) rfl ?_
  refine q_iconst rfl ?_
  refine q_iload_n rfl rfl ?_
  refine v_imul (v := 4 * a1) rfl (by omega) ?_
  refine q_iload_n rfl rfl ?_
  refine v_iadd (v := 4 * a1) rfl (by omega) ?_
  refine q_iconst rfl ?_
  refine v_is rfl rfl (by decide) (by decide) (by omega) ?_
  refine v_iinc (v := 1) rfl rfl (by decide) (by decide) ?_
  refine q_goto (t := 2) rfl (by decide) ?_
  refine q_iload_n rfl rfl ?_
  refine q_iconst rfl ?_
  refine v_ic_ge_f (t := 24) rfl (by decide) (by decide) ?_
  refine q_aload_n rfl rfl ?_
  refine v_gr (t := 59) rfl rfl rfl (by decide) rfl ?_
  refine q_iconst rfl ?_
  refine q_iload_n rfl rfl ?_
  refine v_imul (v := 4 * a1) rfl (by omega) ?_
  refine q_iload_n rfl rfl ?_
  refine v_iadd (v := 4 * a1 + 1) rfl (by omega) ?_
  refine q_iconst rfl ?_
  refine v_is rfl rfl (by decide) (by decide) (by omega) ?_
  refine v_iinc (v := 2) rfl rfl (by decide) (by decide) ?_
  refine q_goto (t := 2) rfl (by decide) ?_
  refine q_iload_n rfl rfl ?_
  refine q_iconst rfl ?_
  refine v_ic_ge_f (t := 24) rfl (by decide) (by decide) ?_
  refine q_aload_n rfl rfl ?_
  refine v_gr (t := 59) rfl rfl rfl (by decide) rfl ?_
  refine q_iconst rfl ?_
  refine q_iload_n rfl rfl ?_
  refine v_imul (v := 4 * a1) rfl (by omega) ?_
  refine q_iload_n rfl rfl ?_
  refine v_iadd (v := 4 * a1 + 2) rfl (by omega) ?_
  refine q_iconst rfl ?_
  refine v_is rfl rfl (by decide) (by decide) (by omega) ?_
  refine v_iinc (v := 3) rfl rfl (by decide) (by decide) ?_
  refine q_goto (t := 2) rfl (by decide) ?_
  refine q_iload_n rfl rfl ?_
  refine q_iconst rfl ?_
  refine v_ic_ge_f (t := 24) rfl (by decide) (by decide) ?_
  refine q_aload_n rfl rfl ?_
  refine v_gr (t := 59) rfl rfl rfl (by decide) rfl ?_
  refine q_iconst rfl ?_
  refine q_iload_n rfl rfl ?_
  refine v_imul (v := 4 * a1) rfl (by omega) ?_
  refine q_iload_n rfl rfl ?_
  refine v_iadd (v := 4 * a1 + 3) rfl (by omega) ?_
  refine q_iconst rfl ?_
  refine v_is rfl rfl (by decide) (by decide) (by omega) ?_
  refine v_iinc (v := 4) rfl rfl (by decide) (by decide) ?_
  refine Wp_ls [(2, vi 4), (0, .ref 41), (1, vi a1)] (lsub_cons rfl (lsub_cons rfl (lsub_cons rfl lsub_nil))) ?_
  refine q_goto (t := 2) rfl (by decide) ?_
  refine q_iload_n rfl rfl ?_
  refine q_iconst rfl ?_
  refine v_ic_ge_t (t := 24) rfl (by decide) (by decide) ?_
  refine q_aload_n rfl rfl ?_
  refine v_gr (t := 59) rfl rfl rfl (by decide) rfl ?_
  refine v_bip rfl (by decide) ?_
  refine q_iload_n rfl rfl ?_
  refine v_iadd (v := a1 + 24) rfl (by omega) ?_
  refine q_iconst rfl ?_
  refine v_is rfl rfl (by decide) (by decide) (by omega) ?_
  refine q_vret rfl rfl ?_
  have hI_1 := iw_row (a := 59) (j := 4 * a1) (v := 0) hI (by omega) (Or.inl rfl) ⟨by omega, by omega, by omega⟩
  have hI_2 := iw_row (a := 59) (j := 4 * a1 + 1) (v := 0) hI_1 (by omega) (Or.inl rfl) ⟨by omega, by omega, by omega⟩
  have hI_3 := iw_row (a := 59) (j := 4 * a1 + 2) (v := 0) hI_2 (by omega) (Or.inl rfl) ⟨by omega, by omega, by omega⟩
  have hI_4 := iw_row (a := 59) (j := 4 * a1 + 3) (v := 0) hI_3 (by omega) (Or.inl rfl) ⟨by omega, by omega, by omega⟩
  have hI_5 := iw_row (a := 59) (j := a1 + 24) (v := 0) hI_4 (by omega) (Or.inl rfl) ⟨by omega, by omega, by omega⟩
  have h_6 : (up (up (up (up (up c 59 (4 * a1) 0) 59 (4 * a1 + 1) 0) 59 (4 * a1 + 2) 0) 59 (4 * a1 + 3) 0) 59 (a1 + 24) 0) 59 (4 * a1 + 1) = 0 := ((up_n (by omega)).trans ((up_n (by omega)).trans ((up_n (by omega)).trans (up_e rfl))))
  have h_7 : (up (up (up (up (up c 59 (4 * a1) 0) 59 (4 * a1 + 1) 0) 59 (4 * a1 + 2) 0) 59 (4 * a1 + 3) 0) 59 (a1 + 24) 0) 59 (4 * a1 + 2) = 0 := ((up_n (by omega)).trans ((up_n (by omega)).trans (up_e rfl)))
  have h_8 : (up (up (up (up (up c 59 (4 * a1) 0) 59 (4 * a1 + 1) 0) 59 (4 * a1 + 2) 0) 59 (4 * a1 + 3) 0) 59 (a1 + 24) 0) 59 (4 * a1 + 3) = 0 := ((up_n (by omega)).trans (up_e rfl))
  have h_9 : (up (up (up (up (up c 59 (4 * a1) 0) 59 (4 * a1 + 1) 0) 59 (4 * a1 + 2) 0) 59 (4 * a1 + 3) 0) 59 (a1 + 24) 0) 59 (4 * a1) = 0 := ((up_n (by omega)).trans ((up_n (by omega)).trans ((up_n (by omega)).trans ((up_n (by omega)).trans (up_e rfl)))))
  exact K (up (up (up (up (up c 59 (4 * a1) 0) 59 (4 * a1 + 1) 0) 59 (4 * a1 + 2) 0) 59 (4 * a1 + 3) 0) 59 (a1 + 24) 0) hI_5 (fun a j hm => (up_b (by omega)).trans ((up_b (by omega)).trans ((up_b (by omega)).trans ((up_b (by omega)).trans (up_b (by omega)))))) (by omega)

