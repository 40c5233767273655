/-! ===== contracts 5 ===== -/
set_option maxRecDepth 100000 in
set_option maxHeartbeats 4000000 in
theorem s_54 {sc : List Int32} {d P Q sh s : Nat} {c : ME} {a1 : Int} {a2 : Int} {a3 : Int} {Z : AR → Prop} (hI : Iv 0 (-1) P Q c) (hs : (sh = 37 ∧ s = 38) ∨ (sh = 39 ∧ s = 40)) (ha1 : 0 ≤ a1 ∧ a1 ≤ 5) (ha2 : 0 ≤ a2 ∧ a2 ≤ 5) (ha3 : 0 ≤ a3 ∧ a3 ≤ 99999) (K : ∀ (c2 : ME) (y : Int), Iv 0 (-1) P Q c2 → (∀ (a : Nat) (j : Int), ¬ (a = s) → c2 a j = c a j) → 0 ≤ y ∧ y ≤ 1 → Z (.inl (some (vi y)), Wd P Q P P c2, 0, 0)) : Wp sc (d + 9) 54 0 [(0, .ref sh), (1, vi a1), (2, vi a2), (3, vi a3)] [] (Wd P Q P P c) 0 0 Z := by
  have hP := iv_P hI
  have hQ := iv_Q hI
  have hIo : Iv s (-1) P Q c := iv_open hI
  have hsum_1 := ir_s_r hI hs (by omega) (j := a1) (by omega)
  have h_2 := ir_s_g hI hs (j := 4 * a1) (by omega)
  have h_3 := ir_s_g hI hs (j := 4 * a1 + 1) (by omega)
  have h_4 := ir_s_g hI hs (j := 4 * a1 + 2) (by omega)
  have h_5 := ir_s_g hI hs (j := 4 * a1 + 3) (by omega)
  have hsum_6 := ir_s_r hI hs (by omega) (j := a2) (by omega)
  have h_7 := ir_s_g hI hs (j := 4 * a2) (by omega)
  have h_8 := ir_s_g hI hs (j := 4 * a2 + 1) (by omega)
  have h_9 := ir_s_g hI hs (j := 4 * a2 + 2) (by omega)
  have h_10 := ir_s_g hI hs (j := 4 * a2 + 3) (by omega)
  refine q_iload_n rfl rfl ?_
  refine q_iload_n rfl rfl ?_
  by_cases h_11 : a1 = a2
  · refine v_ic_eq_t (t := 23) rfl (by decide) (by omega) ?_
    refine q_iconst rfl ?_
    refine v_zret rfl rfl (by omega) ?_
    have hr_12 : ∀ j : Int, rs s j → c s j + c s (j + 1) + c s (j + 2) + c s (j + 3) ≤ 9999 := by
      intro j9 hj9
      obtain ⟨k9, rfl, hk9⟩ := rs_s hs hj9
      by_cases e_13 : k9 = a1
      · skip
        have h_14 : c s (4 * k9) = c s (4 * a1) := (congrArg (c s) (show 4 * k9 = 4 * a1 from by omega))
        have h_15 : c s (4 * k9 + 1) = c s (4 * a1 + 1) := (congrArg (c s) (show 4 * k9 + 1 = 4 * a1 + 1 from by omega))
        have h_16 : c s (4 * k9 + 2) = c s (4 * a1 + 2) := (congrArg (c s) (show 4 * k9 + 2 = 4 * a1 + 2 from by omega))
        have h_17 : c s (4 * k9 + 3) = c s (4 * a1 + 3) := (congrArg (c s) (show 4 * k9 + 3 = 4 * a1 + 3 from by omega))
        omega
      by_cases e_18 : k9 = a2
      · skip
        have h_19 : c s (4 * k9) = c s (4 * a2) := (congrArg (c s) (show 4 * k9 = 4 * a2 from by omega))
        have h_20 : c s (4 * k9 + 1) = c s (4 * a2 + 1) := (congrArg (c s) (show 4 * k9 + 1 = 4 * a2 + 1 from by omega))
        have h_21 : c s (4 * k9 + 2) = c s (4 * a2 + 2) := (congrArg (c s) (show 4 * k9 + 2 = 4 * a2 + 2 from by omega))
        have h_22 : c s (4 * k9 + 3) = c s (4 * a2 + 3) := (congrArg (c s) (show 4 * k9 + 3 = 4 * a2 + 3 from by omega))
        omega
      have h_23 := iv_r hI s (4 * k9) hj9 (by omega)
      have h_24 := ir_s_g hI hs (j := 4 * k9) (by omega)
      have h_25 : c s (4 * k9) = c s (4 * k9) := rfl
      have h_26 := ir_s_g hI hs (j := 4 * k9 + 1) (by omega)
      have h_27 : c s (4 * k9 + 1) = c s (4 * k9 + 1) := rfl
      have h_28 := ir_s_g hI hs (j := 4 * k9 + 2) (by omega)
      have h_29 : c s (4 * k9 + 2) = c s (4 * k9 + 2) := rfl
      have h_30 := ir_s_g hI hs (j := 4 * k9 + 3) (by omega)
      have h_31 : c s (4 * k9 + 3) = c s (4 * k9 + 3) := rfl
      omega
    have hI_32 := iv_close hIo hr_12
    exact K c 0 hI_32 (fun a j hm => rfl) ⟨by decide, by decide⟩
  · refine v_ic_eq_f (t := 23) rfl (by decide) (by omega) ?_
    refine q_aload_n rfl rfl ?_
    refine q_iload_n rfl rfl ?_
    refine v_cv rfl rfl rfl (ck_sh hs) (by omega) ⟨⟨rfl, rfl⟩, by decide, rfl⟩ (Nat.le_of_ble_eq_true rfl) (Nat.le_of_ble_eq_true rfl) (s_43 (v1 := c s (4 * a1)) (v2 := c s (4 * a1 + 1)) (v3 := c s (4 * a1 + 2)) (v4 := c s (4 * a1 + 3)) (r := c s (4 * a1 + 1) + c s (4 * a1 + 2) + c s (4 * a1 + 3) + c s (4 * a1)) (a1 := a1) hIo hs (show 0 ≤ a1 ∧ a1 ≤ 5 from by omega) (rfl) (rfl) (rfl) (rfl) (by omega) ?_)
    refine bk_inl ?_
    refine q_iload_n rfl rfl ?_
    by_cases h_33 : c s (4 * a1 + 1) + c s (4 * a1 + 2) + c s (4 * a1 + 3) + c s (4 * a1) < a3
    · refine v_ic_lt_t (t := 23) rfl (by decide) (by omega) ?_
      refine q_iconst rfl ?_
      refine v_zret rfl rfl (by omega) ?_
      have hr_34 : ∀ j : Int, rs s j → c s j + c s (j + 1) + c s (j + 2) + c s (j + 3) ≤ 9999 := by
        intro j9 hj9
        obtain ⟨k9, rfl, hk9⟩ := rs_s hs hj9
        by_cases e_35 : k9 = a1
        · skip
          have h_36 : c s (4 * k9) = c s (4 * a1) := (congrArg (c s) (show 4 * k9 = 4 * a1 from by omega))
          have h_37 : c s (4 * k9 + 1) = c s (4 * a1 + 1) := (congrArg (c s) (show 4 * k9 + 1 = 4 * a1 + 1 from by omega))
          have h_38 : c s (4 * k9 + 2) = c s (4 * a1 + 2) := (congrArg (c s) (show 4 * k9 + 2 = 4 * a1 + 2 from by omega))
          have h_39 : c s (4 * k9 + 3) = c s (4 * a1 + 3) := (congrArg (c s) (show 4 * k9 + 3 = 4 * a1 + 3 from by omega))
          omega
        by_cases e_40 : k9 = a2
        · skip
          have h_41 : c s (4 * k9) = c s (4 * a2) := (congrArg (c s) (show 4 * k9 = 4 * a2 from by omega))
          have h_42 : c s (4 * k9 + 1) = c s (4 * a2 + 1) := (congrArg (c s) (show 4 * k9 + 1 = 4 * a2 + 1 from by omega))
          have h_43 : c s (4 * k9 + 2) = c s (4 * a2 + 2) := (congrArg (c s) (show 4 * k9 + 2 = 4 * a2 + 2 from by omega))
          have h_44 : c s (4 * k9 + 3) = c s (4 * a2 + 3) := (congrArg (c s) (show 4 * k9 + 3 = 4 * a2 + 3 from by omega))
          omega
        have h_45 := iv_r hI s (4 * k9) hj9 (by omega)
        have h_46 := ir_s_g hI hs (j := 4 * k9) (by omega)
        have h_47 : c s (4 * k9) = c s (4 * k9) := rfl
        have h_48 := ir_s_g hI hs (j := 4 * k9 + 1) (by omega)
        have h_49 : c s (4 * k9 + 1) = c s (4 * k9 + 1) := rfl
        have h_50 := ir_s_g hI hs (j := 4 * k9 + 2) (by omega)
        have h_51 : c s (4 * k9 + 2) = c s (4 * k9 + 2) := rfl
        have h_52 := ir_s_g hI hs (j := 4 * k9 + 3) (by omega)
        have h_53 : c s (4 * k9 + 3) = c s (4 * k9 + 3) := rfl
        omega
      have hI_54 := iv_close hIo hr_34
      exact K c 0 hI_54 (fun a j hm => rfl) ⟨by decide, by decide⟩
    · refine v_ic_lt_f (t := 23) rfl (by decide) (by omega) ?_
      refine q_aload_n rfl rfl ?_
      refine q_iload_n rfl rfl ?_
      refine q_iload_n rfl rfl ?_
      refine v_cv rfl rfl rfl (ck_sh hs) (by omega) ⟨⟨rfl, rfl⟩, by decide, rfl⟩ (Nat.le_of_ble_eq_true rfl) (Nat.le_of_ble_eq_true rfl) ?_
      refine q_aload_n rfl rfl ?_
      refine q_iload_n rfl rfl ?_
      refine v_cv rfl rfl rfl (ck_sh hs) (by omega) ⟨⟨rfl, rfl⟩, by decide, rfl⟩ (Nat.le_of_ble_eq_true rfl) (Nat.le_of_ble_eq_true rfl) (s_43 (v1 := c s (4 * a2)) (v2 := c s (4 * a2 + 1)) (v3 := c s (4 * a2 + 2)) (v4 := c s (4 * a2 + 3)) (r := c s (4 * a2 + 1) + c s (4 * a2 + 2) + c s (4 * a2 + 3) + c s (4 * a2)) (a1 := a2) hIo hs (show 0 ≤ a2 ∧ a2 ≤ 5 from by omega) (rfl) (rfl) (rfl) (rfl) (by omega) ?_)
      refine bk_inl ?_
      refine q_iload_n rfl rfl ?_
      refine v_iadd (v := a3 + c s (4 * a2 + 1) + c s (4 * a2 + 2) + c s (4 * a2 + 3) + c s (4 * a2)) rfl (by omega) ?_
      refine v_sip rfl (by decide) ?_
      by_cases h_55 : a3 + c s (4 * a2 + 1) + c s (4 * a2 + 2) + c s (4 * a2 + 3) + c s (4 * a2) > 9999
      · refine v_ic_gt_t (t := 17) rfl (by decide) (by omega) ?_
        refine q_iconst rfl ?_
        refine v_zret rfl rfl (by omega) ?_
        refine bk_inl ?_
        refine v_if_ne_f (t := 25) rfl (by decide) (by decide) ?_
        refine q_iconst rfl ?_
        refine v_zret rfl rfl (by omega) ?_
        have hr_56 : ∀ j : Int, rs s j → c s j + c s (j + 1) + c s (j + 2) + c s (j + 3) ≤ 9999 := by
          intro j9 hj9
          obtain ⟨k9, rfl, hk9⟩ := rs_s hs hj9
          by_cases e_57 : k9 = a1
          · skip
            have h_58 : c s (4 * k9) = c s (4 * a1) := (congrArg (c s) (show 4 * k9 = 4 * a1 from by omega))
            have h_59 : c s (4 * k9 + 1) = c s (4 * a1 + 1) := (congrArg (c s) (show 4 * k9 + 1 = 4 * a1 + 1 from by omega))
            have h_60 : c s (4 * k9 + 2) = c s (4 * a1 + 2) := (congrArg (c s) (show 4 * k9 + 2 = 4 * a1 + 2 from by omega))
            have h_61 : c s (4 * k9 + 3) = c s (4 * a1 + 3) := (congrArg (c s) (show 4 * k9 + 3 = 4 * a1 + 3 from by omega))
            omega
          by_cases e_62 : k9 = a2
          · skip
            have h_63 : c s (4 * k9) = c s (4 * a2) := (congrArg (c s) (show 4 * k9 = 4 * a2 from by omega))
            have h_64 : c s (4 * k9 + 1) = c s (4 * a2 + 1) := (congrArg (c s) (show 4 * k9 + 1 = 4 * a2 + 1 from by omega))
            have h_65 : c s (4 * k9 + 2) = c s (4 * a2 + 2) := (congrArg (c s) (show 4 * k9 + 2 = 4 * a2 + 2 from by omega))
            have h_66 : c s (4 * k9 + 3) = c s (4 * a2 + 3) := (congrArg (c s) (show 4 * k9 + 3 = 4 * a2 + 3 from by omega))
            omega
          have h_67 := iv_r hI s (4 * k9) hj9 (by omega)
          have h_68 := ir_s_g hI hs (j := 4 * k9) (by omega)
          have h_69 : c s (4 * k9) = c s (4 * k9) := rfl
          have h_70 := ir_s_g hI hs (j := 4 * k9 + 1) (by omega)
          have h_71 : c s (4 * k9 + 1) = c s (4 * k9 + 1) := rfl
          have h_72 := ir_s_g hI hs (j := 4 * k9 + 2) (by omega)
          have h_73 : c s (4 * k9 + 2) = c s (4 * k9 + 2) := rfl
          have h_74 := ir_s_g hI hs (j := 4 * k9 + 3) (by omega)
          have h_75 : c s (4 * k9 + 3) = c s (4 * k9 + 3) := rfl
          omega
        have hI_76 := iv_close hIo hr_56
        exact K c 0 hI_76 (fun a j hm => rfl) ⟨by decide, by decide⟩
      · refine v_ic_gt_f (t := 17) rfl (by decide) (by omega) ?_
        refine q_iconst rfl ?_
        refine q_goto (t := 18) rfl (by decide) ?_
        refine v_zret rfl rfl (by omega) ?_
        refine bk_inl ?_
        refine v_if_ne_t (t := 25) rfl (by decide) (by decide) ?_
        refine q_iload_n rfl rfl ?_
        refine q_istore rfl (by decide) ?_
        refine q_iconst rfl ?_
        refine q_istore rfl (by decide) ?_
        refine q_iload rfl rfl ?_
        refine q_iconst rfl ?_
        refine v_ic_ge_f (t := 74) rfl (by decide) (by decide) ?_
        refine q_iload rfl rfl ?_
        refine q_aload_n rfl rfl ?_
        refine q_iload_n rfl rfl ?_
        refine q_iload rfl rfl ?_
        refine v_cv rfl rfl rfl (ck_sh hs) (by omega) ⟨⟨rfl, rfl⟩, by decide, rfl⟩ (Nat.le_of_ble_eq_true rfl) (Nat.le_of_ble_eq_true rfl) (s_45 (v1 := c s (4 * a1)) (r := c s (4 * a1)) (a1 := a1) (a2 := 0) hIo hs (show 0 ≤ a1 ∧ a1 ≤ 5 from by omega) (show 0 ≤ 0 ∧ 0 ≤ 3 from by omega) ((congrArg (c s) (show 4 * a1 + 0 = 4 * a1 from by omega))) (by omega) ?_)
        refine bk_inl ?_
        refine v_minp rfl rfl (by omega) (Nat.le_of_ble_eq_true rfl) ⟨by omega, by omega, by omega, by omega⟩ (fun y_77 hy_77 => ?_)
        refine q_istore rfl (by decide) ?_
        refine q_aload_n rfl rfl ?_
        refine q_iload_n rfl rfl ?_
        refine q_iload_n rfl rfl ?_
        refine q_iload rfl rfl ?_
        refine q_iload rfl rfl ?_
        have h_78 : c s (4 * a1 + 0) = c s (4 * a1) := (congrArg (c s) (by omega)).trans rfl
        have h_79 : c s (4 * a2 + 0) = c s (4 * a2) := (congrArg (c s) (by omega)).trans rfl
        refine v_cv rfl rfl rfl (ck_sh hs) (by omega) ⟨⟨rfl, rfl⟩, by decide, rfl⟩ (Nat.le_of_ble_eq_true rfl) (Nat.le_of_ble_eq_true rfl) (s_52 (a1 := a1) (a2 := a2) (a3 := 0) (a4 := y_77) hIo hs (show 0 ≤ a1 ∧ a1 ≤ 5 from by omega) (show 0 ≤ a2 ∧ a2 ≤ 5 from by omega) (show 0 ≤ 0 ∧ 0 ≤ 3 from by omega) (show 0 ≤ y_77 ∧ y_77 ≤ 9999 from by omega) (by omega) (by omega) (by omega) (fun c_80 hI_81 hF_82 h_83 => ?_))
        refine bk_inl ?_
        have h_84 : c_80 s (4 * a1 + 0) = c_80 s (4 * a1) := congrArg (c_80 s) (by omega)
        have h_85 := ir_s_g hI_81 hs (j := 4 * a1) (by omega)
        have h_86 : c_80 s (4 * a2 + 0) = c_80 s (4 * a2) := congrArg (c_80 s) (by omega)
        have h_87 := ir_s_g hI_81 hs (j := 4 * a2) (by omega)
        refine q_iload rfl rfl ?_
        refine q_iload rfl rfl ?_
        refine v_isub (v := a3 - y_77) rfl (by omega) ?_
        refine q_istore rfl (by decide) ?_
        refine v_iinc (v := 1) rfl rfl (by decide) (by decide) ?_
        refine Wp_ls [(5, vi 1), (4, vi (a3 - y_77)), (6, vi y_77), (0, .ref sh), (1, vi a1), (2, vi a2), (3, vi a3)] (lsub_cons rfl (lsub_cons rfl (lsub_cons rfl (lsub_cons rfl (lsub_cons rfl (lsub_cons rfl (lsub_cons rfl lsub_nil))))))) ?_
        refine q_goto (t := 31) rfl (by decide) ?_
        refine q_iload rfl rfl ?_
        refine q_iconst rfl ?_
        refine v_ic_ge_f (t := 74) rfl (by decide) (by decide) ?_
        refine q_iload rfl rfl ?_
        refine q_aload_n rfl rfl ?_
        refine q_iload_n rfl rfl ?_
        refine q_iload rfl rfl ?_
        have kn_88 : Hid (c_80 s (4 * a1 + 1) = c s (4 * a1 + 1)) := hF_82 s (4 * a1 + 1) (by omega)
        refine v_cv rfl rfl rfl (ck_sh hs) (by omega) ⟨⟨rfl, rfl⟩, by decide, rfl⟩ (Nat.le_of_ble_eq_true rfl) (Nat.le_of_ble_eq_true rfl) (s_45 (v1 := c s (4 * a1 + 1)) (r := c s (4 * a1 + 1)) (a1 := a1) (a2 := 1) hI_81 hs (show 0 ≤ a1 ∧ a1 ≤ 5 from by omega) (show 0 ≤ 1 ∧ 1 ≤ 3 from by omega) ((hid kn_88)) (by omega) ?_)
        refine bk_inl ?_
        refine v_minp rfl rfl (by omega) (Nat.le_of_ble_eq_true rfl) ⟨by omega, by omega, by omega, by omega⟩ (fun y_89 hy_89 => ?_)
        refine q_istore rfl (by decide) ?_
        refine q_aload_n rfl rfl ?_
        refine q_iload_n rfl rfl ?_
        refine q_iload_n rfl rfl ?_
        refine q_iload rfl rfl ?_
        refine q_iload rfl rfl ?_
        have h_90 : c_80 s (4 * a1 + 1) = c s (4 * a1 + 1) := (hid kn_88)
        have kn_91 : Hid (c_80 s (4 * a2 + 1) = c s (4 * a2 + 1)) := hF_82 s (4 * a2 + 1) (by omega)
        have h_92 : c_80 s (4 * a2 + 1) = c s (4 * a2 + 1) := (hid kn_91)
        refine v_cv rfl rfl rfl (ck_sh hs) (by omega) ⟨⟨rfl, rfl⟩, by decide, rfl⟩ (Nat.le_of_ble_eq_true rfl) (Nat.le_of_ble_eq_true rfl) (s_52 (a1 := a1) (a2 := a2) (a3 := 1) (a4 := y_89) hI_81 hs (show 0 ≤ a1 ∧ a1 ≤ 5 from by omega) (show 0 ≤ a2 ∧ a2 ≤ 5 from by omega) (show 0 ≤ 1 ∧ 1 ≤ 3 from by omega) (show 0 ≤ y_89 ∧ y_89 ≤ 9999 from by omega) (by omega) (by omega) (by omega) (fun c_93 hI_94 hF_95 h_96 => ?_))
        refine bk_inl ?_
        have h_97 := ir_s_g hI_94 hs (j := 4 * a1 + 1) (by omega)
        have h_98 := ir_s_g hI_94 hs (j := 4 * a2 + 1) (by omega)
        refine q_iload rfl rfl ?_
        refine q_iload rfl rfl ?_
        refine v_isub (v := a3 - y_77 - y_89) rfl (by omega) ?_
        refine q_istore rfl (by decide) ?_
        refine v_iinc (v := 2) rfl rfl (by decide) (by decide) ?_
        refine q_goto (t := 31) rfl (by decide) ?_
        refine q_iload rfl rfl ?_
        refine q_iconst rfl ?_
        refine v_ic_ge_f (t := 74) rfl (by decide) (by decide) ?_
        refine q_iload rfl rfl ?_
        refine q_aload_n rfl rfl ?_
        refine q_iload_n rfl rfl ?_
        refine q_iload rfl rfl ?_
        have kn_99 : Hid (c_80 s (4 * a1 + 2) = c s (4 * a1 + 2)) := hF_82 s (4 * a1 + 2) (by omega)
        have kn_100 : Hid (c_93 s (4 * a1 + 2) = c s (4 * a1 + 2)) := (hF_95 s (4 * a1 + 2) (by omega)).trans (hid kn_99)
        refine v_cv rfl rfl rfl (ck_sh hs) (by omega) ⟨⟨rfl, rfl⟩, by decide, rfl⟩ (Nat.le_of_ble_eq_true rfl) (Nat.le_of_ble_eq_true rfl) (s_45 (v1 := c s (4 * a1 + 2)) (r := c s (4 * a1 + 2)) (a1 := a1) (a2 := 2) hI_94 hs (show 0 ≤ a1 ∧ a1 ≤ 5 from by omega) (show 0 ≤ 2 ∧ 2 ≤ 3 from by omega) ((hid kn_100)) (by omega) ?_)
        refine bk_inl ?_
        refine v_minp rfl rfl (by omega) (Nat.le_of_ble_eq_true rfl) ⟨by omega, by omega, by omega, by omega⟩ (fun y_101 hy_101 => ?_)
        refine q_istore rfl (by decide) ?_
        refine q_aload_n rfl rfl ?_
        refine q_iload_n rfl rfl ?_
        refine q_iload_n rfl rfl ?_
        refine q_iload rfl rfl ?_
        refine q_iload rfl rfl ?_
        have h_102 : c_93 s (4 * a1 + 2) = c s (4 * a1 + 2) := (hid kn_100)
        have kn_103 : Hid (c_80 s (4 * a2 + 2) = c s (4 * a2 + 2)) := hF_82 s (4 * a2 + 2) (by omega)
        have kn_104 : Hid (c_93 s (4 * a2 + 2) = c s (4 * a2 + 2)) := (hF_95 s (4 * a2 + 2) (by omega)).trans (hid kn_103)
        have h_105 : c_93 s (4 * a2 + 2) = c s (4 * a2 + 2) := (hid kn_104)
        refine v_cv rfl rfl rfl (ck_sh hs) (by omega) ⟨⟨rfl, rfl⟩, by decide, rfl⟩ (Nat.le_of_ble_eq_true rfl) (Nat.le_of_ble_eq_true rfl) (s_52 (a1 := a1) (a2 := a2) (a3 := 2) (a4 := y_101) hI_94 hs (show 0 ≤ a1 ∧ a1 ≤ 5 from by omega) (show 0 ≤ a2 ∧ a2 ≤ 5 from by omega) (show 0 ≤ 2 ∧ 2 ≤ 3 from by omega) (show 0 ≤ y_101 ∧ y_101 ≤ 9999 from by omega) (by omega) (by omega) (by omega) (fun c_106 hI_107 hF_108 h_109 => ?_))
        refine bk_inl ?_
        have h_110 := ir_s_g hI_107 hs (j := 4 * a1 + 2) (by omega)
        have h_111 := ir_s_g hI_107 hs (j := 4 * a2 + 2) (by omega)
        refine q_iload rfl rfl ?_
        refine q_iload rfl rfl ?_
        refine v_isub (v := a3 - y_101 - y_77 - y_89) rfl (by omega) ?_
        refine q_istore rfl (by decide) ?_
        refine Wp_ls [(4, vi (a3 - y_101 - y_77 - y_89)), (6, vi y_101), (5, vi 2), (0, .ref sh), (1, vi a1), (2, vi a2), (3, vi a3)] (lsub_cons rfl (lsub_cons rfl (lsub_cons rfl (lsub_cons rfl (lsub_cons rfl (lsub_cons rfl (lsub_cons rfl lsub_nil))))))) ?_
        refine v_iinc (v := 3) rfl rfl (by decide) (by decide) ?_
        refine q_goto (t := 31) rfl (by decide) ?_
        refine q_iload rfl rfl ?_
        refine q_iconst rfl ?_
        refine v_ic_ge_f (t := 74) rfl (by decide) (by decide) ?_
        refine q_iload rfl rfl ?_
        refine q_aload_n rfl rfl ?_
        refine q_iload_n rfl rfl ?_
        refine q_iload rfl rfl ?_
        have kn_112 : Hid (c_80 s (4 * a1 + 3) = c s (4 * a1 + 3)) := hF_82 s (4 * a1 + 3) (by omega)
        have kn_113 : Hid (c_93 s (4 * a1 + 3) = c s (4 * a1 + 3)) := (hF_95 s (4 * a1 + 3) (by omega)).trans (hid kn_112)
        have kn_114 : Hid (c_106 s (4 * a1 + 3) = c s (4 * a1 + 3)) := (hF_108 s (4 * a1 + 3) (by omega)).trans (hid kn_113)
        refine v_cv rfl rfl rfl (ck_sh hs) (by omega) ⟨⟨rfl, rfl⟩, by decide, rfl⟩ (Nat.le_of_ble_eq_true rfl) (Nat.le_of_ble_eq_true rfl) (s_45 (v1 := c s (4 * a1 + 3)) (r := c s (4 * a1 + 3)) (a1 := a1) (a2 := 3) hI_107 hs (show 0 ≤ a1 ∧ a1 ≤ 5 from by omega) (show 0 ≤ 3 ∧ 3 ≤ 3 from by omega) ((hid kn_114)) (by omega) ?_)
        refine bk_inl ?_
        refine v_minp rfl rfl (by omega) (Nat.le_of_ble_eq_true rfl) ⟨by omega, by omega, by omega, by omega⟩ (fun y_115 hy_115 => ?_)
        refine q_istore rfl (by decide) ?_
        refine q_aload_n rfl rfl ?_
        refine q_iload_n rfl rfl ?_
        refine q_iload_n rfl rfl ?_
        refine q_iload rfl rfl ?_
        refine q_iload rfl rfl ?_
        have h_116 : c_106 s (4 * a1 + 3) = c s (4 * a1 + 3) := (hid kn_114)
        have kn_117 : Hid (c_80 s (4 * a2 + 3) = c s (4 * a2 + 3)) := hF_82 s (4 * a2 + 3) (by omega)
        have kn_118 : Hid (c_93 s (4 * a2 + 3) = c s (4 * a2 + 3)) := (hF_95 s (4 * a2 + 3) (by omega)).trans (hid kn_117)
        have kn_119 : Hid (c_106 s (4 * a2 + 3) = c s (4 * a2 + 3)) := (hF_108 s (4 * a2 + 3) (by omega)).trans (hid kn_118)
        have h_120 : c_106 s (4 * a2 + 3) = c s (4 * a2 + 3) := (hid kn_119)
        refine v_cv rfl rfl rfl (ck_sh hs) (by omega) ⟨⟨rfl, rfl⟩, by decide, rfl⟩ (Nat.le_of_ble_eq_true rfl) (Nat.le_of_ble_eq_true rfl) (s_52 (a1 := a1) (a2 := a2) (a3 := 3) (a4 := y_115) hI_107 hs (show 0 ≤ a1 ∧ a1 ≤ 5 from by omega) (show 0 ≤ a2 ∧ a2 ≤ 5 from by omega) (show 0 ≤ 3 ∧ 3 ≤ 3 from by omega) (show 0 ≤ y_115 ∧ y_115 ≤ 9999 from by omega) (by omega) (by omega) (by omega) (fun c_121 hI_122 hF_123 h_124 => ?_))
        refine bk_inl ?_
        have h_125 := ir_s_g hI_122 hs (j := 4 * a1 + 3) (by omega)
        have h_126 := ir_s_g hI_122 hs (j := 4 * a2 + 3) (by omega)
        refine q_iload rfl rfl ?_
        refine q_iload rfl rfl ?_
        refine v_isub (v := a3 - y_101 - y_115 - y_77 - y_89) rfl (by omega) ?_
        refine q_istore rfl (by decide) ?_
        refine v_iinc (v := 4) rfl rfl (by decide) (by decide) ?_
        refine q_goto (t := 31) rfl (by decide) ?_
        refine q_iload rfl rfl ?_
        refine q_iconst rfl ?_
        refine v_ic_ge_t (t := 74) rfl (by decide) (by decide) ?_
        refine q_aload_n rfl rfl ?_
        refine q_iload_n rfl rfl ?_
        have kn_127 : Hid (c_93 s (4 * a1) = c_80 s (4 * a1)) := hF_95 s (4 * a1) (by omega)
        have kn_128 : Hid (c_106 s (4 * a1) = c_80 s (4 * a1)) := (hF_108 s (4 * a1) (by omega)).trans (hid kn_127)
        have kn_129 : Hid (c_121 s (4 * a1) = c_80 s (4 * a1)) := (hF_123 s (4 * a1) (by omega)).trans (hid kn_128)
        have kn_130 : Hid (c_106 s (4 * a1 + 1) = c_93 s (4 * a1 + 1)) := hF_108 s (4 * a1 + 1) (by omega)
        have kn_131 : Hid (c_121 s (4 * a1 + 1) = c_93 s (4 * a1 + 1)) := (hF_123 s (4 * a1 + 1) (by omega)).trans (hid kn_130)
        have kn_132 : Hid (c_121 s (4 * a1 + 2) = c_106 s (4 * a1 + 2)) := hF_123 s (4 * a1 + 2) (by omega)
        refine v_cv rfl rfl rfl (ck_sh hs) (by omega) ⟨⟨rfl, rfl⟩, by decide, rfl⟩ (Nat.le_of_ble_eq_true rfl) (Nat.le_of_ble_eq_true rfl) (s_43 (v1 := c_80 s (4 * a1)) (v2 := c_93 s (4 * a1 + 1)) (v3 := c_106 s (4 * a1 + 2)) (v4 := c_121 s (4 * a1 + 3)) (r := c_106 s (4 * a1 + 2) + c_121 s (4 * a1 + 3) + c_80 s (4 * a1) + c_93 s (4 * a1 + 1)) (a1 := a1) hI_122 hs (show 0 ≤ a1 ∧ a1 ≤ 5 from by omega) ((hid kn_129)) ((hid kn_131)) ((hid kn_132)) (rfl) (by omega) ?_)
        refine bk_inl ?_
        by_cases h_133 : c_106 s (4 * a1 + 2) + c_121 s (4 * a1 + 3) + c_80 s (4 * a1) + c_93 s (4 * a1 + 1) ≠ 0
        · refine v_if_ne_t (t := 92) rfl (by decide) (by omega) ?_
          refine q_iconst rfl ?_
          refine v_zret rfl rfl (by omega) ?_
          have hr_134 : ∀ j : Int, rs s j → c_121 s j + c_121 s (j + 1) + c_121 s (j + 2) + c_121 s (j + 3) ≤ 9999 := by
            intro j9 hj9
            obtain ⟨k9, rfl, hk9⟩ := rs_s hs hj9
            by_cases e_135 : k9 = a1
            · skip
              have h_136 : c_121 s (4 * k9) = c_80 s (4 * a1) := (congrArg (c_121 s) (show 4 * k9 = 4 * a1 from by omega)).trans (hid kn_129)
              have h_137 : c_121 s (4 * k9 + 1) = c_93 s (4 * a1 + 1) := (congrArg (c_121 s) (show 4 * k9 + 1 = 4 * a1 + 1 from by omega)).trans (hid kn_131)
              have h_138 : c_121 s (4 * k9 + 2) = c_106 s (4 * a1 + 2) := (congrArg (c_121 s) (show 4 * k9 + 2 = 4 * a1 + 2 from by omega)).trans (hid kn_132)
              have h_139 : c_121 s (4 * k9 + 3) = c_121 s (4 * a1 + 3) := (congrArg (c_121 s) (show 4 * k9 + 3 = 4 * a1 + 3 from by omega))
              omega
            by_cases e_140 : k9 = a2
            · skip
              have kn_141 : Hid (c_93 s (4 * a2) = c_80 s (4 * a2)) := hF_95 s (4 * a2) (by omega)
              have kn_142 : Hid (c_106 s (4 * a2) = c_80 s (4 * a2)) := (hF_108 s (4 * a2) (by omega)).trans (hid kn_141)
              have kn_143 : Hid (c_121 s (4 * a2) = c_80 s (4 * a2)) := (hF_123 s (4 * a2) (by omega)).trans (hid kn_142)
              have h_144 : c_121 s (4 * k9) = c_80 s (4 * a2) := (congrArg (c_121 s) (show 4 * k9 = 4 * a2 from by omega)).trans (hid kn_143)
              have kn_145 : Hid (c_106 s (4 * a2 + 1) = c_93 s (4 * a2 + 1)) := hF_108 s (4 * a2 + 1) (by omega)
              have kn_146 : Hid (c_121 s (4 * a2 + 1) = c_93 s (4 * a2 + 1)) := (hF_123 s (4 * a2 + 1) (by omega)).trans (hid kn_145)
              have h_147 : c_121 s (4 * k9 + 1) = c_93 s (4 * a2 + 1) := (congrArg (c_121 s) (show 4 * k9 + 1 = 4 * a2 + 1 from by omega)).trans (hid kn_146)
              have kn_148 : Hid (c_121 s (4 * a2 + 2) = c_106 s (4 * a2 + 2)) := hF_123 s (4 * a2 + 2) (by omega)
              have h_149 : c_121 s (4 * k9 + 2) = c_106 s (4 * a2 + 2) := (congrArg (c_121 s) (show 4 * k9 + 2 = 4 * a2 + 2 from by omega)).trans (hid kn_148)
              have h_150 : c_121 s (4 * k9 + 3) = c_121 s (4 * a2 + 3) := (congrArg (c_121 s) (show 4 * k9 + 3 = 4 * a2 + 3 from by omega))
              omega
            have h_151 := iv_r hI s (4 * k9) hj9 (by omega)
            have h_152 := ir_s_g hI hs (j := 4 * k9) (by omega)
            have kn_153 : Hid (c_80 s (4 * k9) = c s (4 * k9)) := hF_82 s (4 * k9) (by omega)
            have kn_154 : Hid (c_93 s (4 * k9) = c s (4 * k9)) := (hF_95 s (4 * k9) (by omega)).trans (hid kn_153)
            have kn_155 : Hid (c_106 s (4 * k9) = c s (4 * k9)) := (hF_108 s (4 * k9) (by omega)).trans (hid kn_154)
            have kn_156 : Hid (c_121 s (4 * k9) = c s (4 * k9)) := (hF_123 s (4 * k9) (by omega)).trans (hid kn_155)
            have h_157 : c_121 s (4 * k9) = c s (4 * k9) := (hid kn_156)
            have h_158 := ir_s_g hI hs (j := 4 * k9 + 1) (by omega)
            have kn_159 : Hid (c_80 s (4 * k9 + 1) = c s (4 * k9 + 1)) := hF_82 s (4 * k9 + 1) (by omega)
            have kn_160 : Hid (c_93 s (4 * k9 + 1) = c s (4 * k9 + 1)) := (hF_95 s (4 * k9 + 1) (by omega)).trans (hid kn_159)
            have kn_161 : Hid (c_106 s (4 * k9 + 1) = c s (4 * k9 + 1)) := (hF_108 s (4 * k9 + 1) (by omega)).trans (hid kn_160)
            have kn_162 : Hid (c_121 s (4 * k9 + 1) = c s (4 * k9 + 1)) := (hF_123 s (4 * k9 + 1) (by omega)).trans (hid kn_161)
            have h_163 : c_121 s (4 * k9 + 1) = c s (4 * k9 + 1) := (hid kn_162)
            have h_164 := ir_s_g hI hs (j := 4 * k9 + 2) (by omega)
            have kn_165 : Hid (c_80 s (4 * k9 + 2) = c s (4 * k9 + 2)) := hF_82 s (4 * k9 + 2) (by omega)
            have kn_166 : Hid (c_93 s (4 * k9 + 2) = c s (4 * k9 + 2)) := (hF_95 s (4 * k9 + 2) (by omega)).trans (hid kn_165)
            have kn_167 : Hid (c_106 s (4 * k9 + 2) = c s (4 * k9 + 2)) := (hF_108 s (4 * k9 + 2) (by omega)).trans (hid kn_166)
            have kn_168 : Hid (c_121 s (4 * k9 + 2) = c s (4 * k9 + 2)) := (hF_123 s (4 * k9 + 2) (by omega)).trans (hid kn_167)
            have h_169 : c_121 s (4 * k9 + 2) = c s (4 * k9 + 2) := (hid kn_168)
            have h_170 := ir_s_g hI hs (j := 4 * k9 + 3) (by omega)
            have kn_171 : Hid (c_80 s (4 * k9 + 3) = c s (4 * k9 + 3)) := hF_82 s (4 * k9 + 3) (by omega)
            have kn_172 : Hid (c_93 s (4 * k9 + 3) = c s (4 * k9 + 3)) := (hF_95 s (4 * k9 + 3) (by omega)).trans (hid kn_171)
            have kn_173 : Hid (c_106 s (4 * k9 + 3) = c s (4 * k9 + 3)) := (hF_108 s (4 * k9 + 3) (by omega)).trans (hid kn_172)
            have kn_174 : Hid (c_121 s (4 * k9 + 3) = c s (4 * k9 + 3)) := (hF_123 s (4 * k9 + 3) (by omega)).trans (hid kn_173)
            have h_175 : c_121 s (4 * k9 + 3) = c s (4 * k9 + 3) := (hid kn_174)
            omega
          have hI_176 := iv_close hI_122 hr_134
          exact K c_121 1 hI_176 (fun a j hm => (hF_123 a j (by omega)).trans ((hF_108 a j (by omega)).trans ((hF_95 a j (by omega)).trans (hF_82 a j (by omega))))) ⟨by decide, by decide⟩
        · refine v_if_ne_f (t := 92) rfl (by decide) (by omega) ?_
          refine q_aload_n rfl rfl ?_
          refine v_gr (t := s) rfl rfl (ck_sh hs) (by omega) rfl ?_
          refine v_bip rfl (by decide) ?_
          refine q_iload_n rfl rfl ?_
          refine v_iadd (v := a1 + 24) rfl (by omega) ?_
          refine q_iconst rfl ?_
          refine v_is rfl (ck_s hs) (by omega) (by decide) (by omega) ?_
          refine q_iconst rfl ?_
          refine v_zret rfl rfl (by omega) ?_
          have hI_177 := iw_row (a := s) (j := a1 + 24) (v := 0) hI_122 (by omega) (Or.inl rfl) ⟨by omega, by omega, by omega⟩
          have hr_178 : ∀ j : Int, rs s j → (up c_121 s (a1 + 24) 0) s j + (up c_121 s (a1 + 24) 0) s (j + 1) + (up c_121 s (a1 + 24) 0) s (j + 2) + (up c_121 s (a1 + 24) 0) s (j + 3) ≤ 9999 := by
            intro j9 hj9
            obtain ⟨k9, rfl, hk9⟩ := rs_s hs hj9
            by_cases e_179 : k9 = a1
            · skip
              have h_180 : (up c_121 s (a1 + 24) 0) s (4 * k9) = c_80 s (4 * a1) := (congrArg ((up c_121 s (a1 + 24) 0) s) (show 4 * k9 = 4 * a1 from by omega)).trans ((up_n (by omega)).trans (hid kn_129))
              have h_181 : (up c_121 s (a1 + 24) 0) s (4 * k9 + 1) = c_93 s (4 * a1 + 1) := (congrArg ((up c_121 s (a1 + 24) 0) s) (show 4 * k9 + 1 = 4 * a1 + 1 from by omega)).trans ((up_n (by omega)).trans (hid kn_131))
              have h_182 : (up c_121 s (a1 + 24) 0) s (4 * k9 + 2) = c_106 s (4 * a1 + 2) := (congrArg ((up c_121 s (a1 + 24) 0) s) (show 4 * k9 + 2 = 4 * a1 + 2 from by omega)).trans ((up_n (by omega)).trans (hid kn_132))
              have h_183 : (up c_121 s (a1 + 24) 0) s (4 * k9 + 3) = c_121 s (4 * a1 + 3) := (congrArg ((up c_121 s (a1 + 24) 0) s) (show 4 * k9 + 3 = 4 * a1 + 3 from by omega)).trans (up_n (by omega))
              omega
            by_cases e_184 : k9 = a2
            · skip
              have kn_185 : Hid (c_93 s (4 * a2) = c_80 s (4 * a2)) := hF_95 s (4 * a2) (by omega)
              have kn_186 : Hid (c_106 s (4 * a2) = c_80 s (4 * a2)) := (hF_108 s (4 * a2) (by omega)).trans (hid kn_185)
              have kn_187 : Hid (c_121 s (4 * a2) = c_80 s (4 * a2)) := (hF_123 s (4 * a2) (by omega)).trans (hid kn_186)
              have h_188 : (up c_121 s (a1 + 24) 0) s (4 * k9) = c_80 s (4 * a2) := (congrArg ((up c_121 s (a1 + 24) 0) s) (show 4 * k9 = 4 * a2 from by omega)).trans ((up_n (by omega)).trans (hid kn_187))
              have kn_189 : Hid (c_106 s (4 * a2 + 1) = c_93 s (4 * a2 + 1)) := hF_108 s (4 * a2 + 1) (by omega)
              have kn_190 : Hid (c_121 s (4 * a2 + 1) = c_93 s (4 * a2 + 1)) := (hF_123 s (4 * a2 + 1) (by omega)).trans (hid kn_189)
              have h_191 : (up c_121 s (a1 + 24) 0) s (4 * k9 + 1) = c_93 s (4 * a2 + 1) := (congrArg ((up c_121 s (a1 + 24) 0) s) (show 4 * k9 + 1 = 4 * a2 + 1 from by omega)).trans ((up_n (by omega)).trans (hid kn_190))
              have kn_192 : Hid (c_121 s (4 * a2 + 2) = c_106 s (4 * a2 + 2)) := hF_123 s (4 * a2 + 2) (by omega)
              have h_193 : (up c_121 s (a1 + 24) 0) s (4 * k9 + 2) = c_106 s (4 * a2 + 2) := (congrArg ((up c_121 s (a1 + 24) 0) s) (show 4 * k9 + 2 = 4 * a2 + 2 from by omega)).trans ((up_n (by omega)).trans (hid kn_192))
              have h_194 : (up c_121 s (a1 + 24) 0) s (4 * k9 + 3) = c_121 s (4 * a2 + 3) := (congrArg ((up c_121 s (a1 + 24) 0) s) (show 4 * k9 + 3 = 4 * a2 + 3 from by omega)).trans (up_n (by omega))
              omega
            have h_195 := iv_r hI s (4 * k9) hj9 (by omega)
            have h_196 := ir_s_g hI hs (j := 4 * k9) (by omega)
            have kn_197 : Hid (c_80 s (4 * k9) = c s (4 * k9)) := hF_82 s (4 * k9) (by omega)
            have kn_198 : Hid (c_93 s (4 * k9) = c s (4 * k9)) := (hF_95 s (4 * k9) (by omega)).trans (hid kn_197)
            have kn_199 : Hid (c_106 s (4 * k9) = c s (4 * k9)) := (hF_108 s (4 * k9) (by omega)).trans (hid kn_198)
            have kn_200 : Hid (c_121 s (4 * k9) = c s (4 * k9)) := (hF_123 s (4 * k9) (by omega)).trans (hid kn_199)
            have h_201 : (up c_121 s (a1 + 24) 0) s (4 * k9) = c s (4 * k9) := ((up_n (by omega)).trans (hid kn_200))
            have h_202 := ir_s_g hI hs (j := 4 * k9 + 1) (by omega)
            have kn_203 : Hid (c_80 s (4 * k9 + 1) = c s (4 * k9 + 1)) := hF_82 s (4 * k9 + 1) (by omega)
            have kn_204 : Hid (c_93 s (4 * k9 + 1) = c s (4 * k9 + 1)) := (hF_95 s (4 * k9 + 1) (by omega)).trans (hid kn_203)
            have kn_205 : Hid (c_106 s (4 * k9 + 1) = c s (4 * k9 + 1)) := (hF_108 s (4 * k9 + 1) (by omega)).trans (hid kn_204)
            have kn_206 : Hid (c_121 s (4 * k9 + 1) = c s (4 * k9 + 1)) := (hF_123 s (4 * k9 + 1) (by omega)).trans (hid kn_205)
            have h_207 : (up c_121 s (a1 + 24) 0) s (4 * k9 + 1) = c s (4 * k9 + 1) := ((up_n (by omega)).trans (hid kn_206))
            have h_208 := ir_s_g hI hs (j := 4 * k9 + 2) (by omega)
            have kn_209 : Hid (c_80 s (4 * k9 + 2) = c s (4 * k9 + 2)) := hF_82 s (4 * k9 + 2) (by omega)
            have kn_210 : Hid (c_93 s (4 * k9 + 2) = c s (4 * k9 + 2)) := (hF_95 s (4 * k9 + 2) (by omega)).trans (hid kn_209)
            have kn_211 : Hid (c_106 s (4 * k9 + 2) = c s (4 * k9 + 2)) := (hF_108 s (4 * k9 + 2) (by omega)).trans (hid kn_210)
            have kn_212 : Hid (c_121 s (4 * k9 + 2) = c s (4 * k9 + 2)) := (hF_123 s (4 * k9 + 2) (by omega)).trans (hid kn_211)
            have h_213 : (up c_121 s (a1 + 24) 0) s (4 * k9 + 2) = c s (4 * k9 + 2) := ((up_n (by omega)).trans (hid kn_212))
            have h_214 := ir_s_g hI hs (j := 4 * k9 + 3) (by omega)
            have kn_215 : Hid (c_80 s (4 * k9 + 3) = c s (4 * k9 + 3)) := hF_82 s (4 * k9 + 3) (by omega)
            have kn_216 : Hid (c_93 s (4 * k9 + 3) = c s (4 * k9 + 3)) := (hF_95 s (4 * k9 + 3) (by omega)).trans (hid kn_215)
            have kn_217 : Hid (c_106 s (4 * k9 + 3) = c s (4 * k9 + 3)) := (hF_108 s (4 * k9 + 3) (by omega)).trans (hid kn_216)
            have kn_218 : Hid (c_121 s (4 * k9 + 3) = c s (4 * k9 + 3)) := (hF_123 s (4 * k9 + 3) (by omega)).trans (hid kn_217)
            have h_219 : (up c_121 s (a1 + 24) 0) s (4 * k9 + 3) = c s (4 * k9 + 3) := ((up_n (by omega)).trans (hid kn_218))
            omega
          have hI_220 := iv_close hI_177 hr_178
          exact K (up c_121 s (a1 + 24) 0) 1 hI_220 (fun a j hm => (up_b (by omega)).trans ((hF_123 a j (by omega)).trans ((hF_108 a j (by omega)).trans ((hF_95 a j (by omega)).trans (hF_82 a j (by omega)))))) ⟨by decide, by decide⟩

