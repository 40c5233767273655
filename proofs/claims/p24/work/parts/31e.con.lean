/-! ===== contracts 5 ===== -/
set_option maxRecDepth 100000 in
set_option maxHeartbeats 4000000 in
theorem s_54 {sc : List Int32} {d P Q sh s : Nat} {c : ME} {a1 : Int} {a2 : Int} {a3 : Int} {Z : AR → Prop} (hI : Iv 0 (-1) P Q c) (hs : (sh = 37 ∧ s = 38) ∨ (sh = 39 ∧ s = 40)) (ha1 : 0 ≤ a1 ∧ a1 ≤ 5) (ha2 : 0 ≤ a2 ∧ a2 ≤ 5) (ha3 : 0 ≤ a3 ∧ a3 ≤ 99999) (K : ∀ (c2 : ME) (y : Int), Iv 0 (-1) P Q c2 → (∀ (a : Nat) (j : Int), ¬ (a = s) → c2 a j = c a j) → 0 ≤ y ∧ y ≤ 1 → Z (.inl (some (vi y)), Wd P Q P P c2, 0, 0)) : Wp sc (d + 9) 54 0 [(0, .ref sh), (1, vi a1), (2, vi a2), (3, vi a3)] [] (Wd P Q P P c) 0 0 Z := by
  have hP := iv_P hI
  have hQ := iv_Q hI
  have hIo : Iv s (-1) P Q c := iv_open hI
  have hsum_1 := ir_s_r hI hs (by omega) (j := a1) (by omega)
  have h_2 := ir_s_g hI hs (j := 4 * a1) (by omega)
  have h_3 := ir_s_g hI hs (j := 4 * a1 + 1) (by omega)
  have h_4 := ir_s_g hI hs (j := 4 * a1 + 2) (by omega)
  have h_5 := ir_s_g hI hs (j := 4 * a1 + 3) (by omega)
  have hsum_6 := ir_s_r hI hs (by omega) (j := a2) (by omega)
  have h_7 := ir_s_g hI hs (j := 4 * a2) (by omega)
  have h_8 := ir_s_g hI hs (j := 4 * a2 + 1) (by omega)
  have h_9 := ir_s_g hI hs (j := 4 * a2 + 2) (by omega)
  have h_10 := ir_s_g hI hs (j := 4 * a2 + 3) (by omega)
  refine q_iload_n rfl rfl ?_
  refine q_iload_n rfl rfl ?_
  by_cases h_11 : a1 = a2
  · refine v_ic_eq_t (t := 23) rfl (by decide) (by omega) ?_
    refine q_iconst rfl ?_
    refine v_zret rfl rfl (by omega) ?_
    have hr_12 : ∀ j : Int, rs s j → c s j + c s (j + 1) + c s (j + 2) + c s (j + 3) ≤ 9999 := by
      intro j9 hj9
      obtain ⟨k9, rfl, hk9⟩ := rs_s hs hj9
      by_cases e_13 : k9 = a1
      · skip
        have h_14 : c s (4 * k9) = c s (4 * a1) := (congrArg (c s) (show 4 * k9 = 4 * a1 from by omega))
        have h_15 : c s (4 * k9 + 1) = c s (4 * a1 + 1) := (congrArg (c s) (show 4 * k9 + 1 = 4 * a1 + 1 from by omega))
        have h_16 : c s (4 * k9 + 2) = c s (4 * a1 + 2) := (congrArg (c s) (show 4 * k9 + 2 = 4 * a1 + 2 from by omega))
        have h_17 : c s (4 * k9 + 3) = c s (4 * a1 + 3) := (congrArg (c s) (show 4 * k9 + 3 = 4 * a1 + 3 from by omega))
        omega
      by_cases e_18 : k9 = a2
      · skip
        have h_19 : c s (4 * k9) = c s (4 * a2) := (congrArg (c s) (show 4 * k9 = 4 * a2 from by omega))
        have h_20 : c s (4 * k9 + 1) = c s (4 * a2 + 1) := (congrArg (c s) (show 4 * k9 + 1 = 4 * a2 + 1 from by omega))
        have h_21 : c s (4 * k9 + 2) = c s (4 * a2 + 2) := (congrArg (c s) (show 4 * k9 + 2 = 4 * a2 + 2 from by omega))
        have h_22 : c s (4 * k9 + 3) = c s (4 * a2 + 3) := (congrArg (c s) (show 4 * k9 + 3 = 4 * a2 + 3 from by omega))
        omega
      have h_23 := iv_r hI s (4 * k9) hj9 (by omega)
      have h_24 := ir_s_g hI hs (j := 4 * k9) (by omega)
      have h_25 : c s (4 * k9) = c s (4 * k9) := rfl
      have h_26 := ir_s_g hI hs (j := 4 * k9 + 1) (by omega)
      have h_27 : c s (4 * k9 + 1) = c s (4 * k9 + 1) := rfl
      have h_28 := ir_s_g hI hs (j := 4 * k9 + 2) (by omega)
      have h_29 : c s (4 * k9 + 2) = c s (4 * k9 + 2) := rfl
      have h_30 := ir_s_g hI hs (j := 4 * k9 + 3) (by omega)
      have h_31 : c s (4 * k9 + 3) = c s (4 * k9 + 3) := rfl
      omega
    have hI_32 := iv_close hIo hr_12
    exact K c 0 hI_32 (fun a j hm => rfl) ⟨by decide, by decide⟩
  · refine v_ic_eq_f (t := 23) rfl (by decide) (by omega) ?_
    refine q_aload_n rfl rfl ?_
    refine q_iload_n rfl rfl ?_
    refine v_cv rfl rfl rfl (ck_sh hs) (by omega) ⟨⟨rfl, rfl⟩, by decide, rfl⟩ (Nat.le_of_ble_eq_true rfl) (Nat.le_of_ble_eq_true rfl) (s_43 (v1 := c s (4 * a1)) (v2 := c s (4 * a1 + 1)) (v3 := c s (4 * a1 + 2)) (v4 := c s (4 * a1 + 3)) (r := c s (4 * a1 + 1) + c s (4 * a1 + 2) + c s (4 * a1 + 3) + c s (4 * a1)) (a1 := a1) hIo hs (show 0 ≤ a1 ∧ a1 ≤ 5 from by omega) (rfl) (rfl) (rfl) (rfl) (by omega) ?_)
    refine bk_inl ?_
    refine q_iload_n rfl rfl ?_
    by_cases h_33 : c s (4 * a1 + 1) + c s (4 * a1 + 2) + c s (4 * a1 + 3) + c s (4 * a1) < a3
    · refine v_ic_lt_t (t := 23) rfl (by decide) (by omega) ?_
      refine q_iconst rfl ?_
      refine v_zret rfl rfl (by omega) ?_
      have hr_34 : ∀ j : Int, rs s j → c s j + c s (j + 1) + c s (j + 2) + c s (j + 3) ≤ 9999 := by
        intro j9 hj9
        obtain ⟨k9, rfl, hk9⟩ := rs_s hs hj9
        by_cases e_35 : k9 = a1
        · skip
          have h_36 : c s (4 * k9) = c s (4 * a1) := (congrArg (c s) (show 4 * k9 = 4 * a1 from by omega))
          have h_37 : c s (4 * k9 + 1) = c s (4 * a1 + 1) := (congrArg (c s) (show 4 * k9 + 1 = 4 * a1 + 1 from by omega))
          have h_38 : c s (4 * k9 + 2) = c s (4 * a1 + 2) := (congrArg (c s) (show 4 * k9 + 2 = 4 * a1 + 2 from by omega))
          have h_39 : c s (4 * k9 + 3) = c s (4 * a1 + 3) := (congrArg (c s) (show 4 * k9 + 3 = 4 * a1 + 3 from by omega))
          omega
        by_cases e_40 : k9 = a2
        · skip
          have h_41 : c s (4 * k9) = c s (4 * a2) := (congrArg (c s) (show 4 * k9 = 4 * a2 from by omega))
          have h_42 : c s (4 * k9 + 1) = c s (4 * a2 + 1) := (congrArg (c s) (show 4 * k9 + 1 = 4 * a2 + 1 from by omega))
          have h_43 : c s (4 * k9 + 2) = c s (4 * a2 + 2) := (congrArg (c s) (show 4 * k9 + 2 = 4 * a2 + 2 from by omega))
          have h_44 : c s (4 * k9 + 3) = c s (4 * a2 + 3) := (congrArg (c s) (show 4 * k9 + 3 = 4 * a2 + 3 from by omega))
          omega
        have h_45 := iv_r hI s (4 * k9) hj9 (by omega)
        have h_46 := ir_s_g hI hs (j := 4 * k9) (by omega)
        have h_47 : c s (4 * k9) = c s (4 * k9) := rfl
        have h_48 := ir_s_g hI hs (j := 4 * k9 + 1) (by omega)
        have h_49 : c s (4 * k9 + 1) = c s (4 * k9 + 1) := rfl
        have h_50 := ir_s_g hI hs (j := 4 * k9 + 2) (by omega)
        have h_51 : c s (4 * k9 + 2) = c s (4 * k9 + 2) := rfl
        have h_52 := ir_s_g hI hs (j := 4 * k9 + 3) (by omega)
        have h_53 : c s (4 * k9 + 3) = c s (4 * k9 + 3) := rfl
        omega
      have hI_54 := iv_close hIo hr_34
      exact K c 0 hI_54 (fun a j hm => rfl) ⟨by decide, by decide⟩
    · refine v_ic_lt_f (t := 23) rfl (by decide) (by omega) ?_
      refine q_aload_n rfl rfl ?_
      refine q_iload_n rfl rfl ?_
      refine q_iload_n rfl rfl ?_
      refine v_cv rfl rfl rfl (ck_sh hs) (by omega) ⟨⟨rfl, rfl⟩, by decide, rfl⟩ (Nat.le_of_ble_eq_true rfl) (Nat.le_of_ble_eq_true rfl) ?_
      refine q_aload_n rfl rfl ?_
      refine q_iload_n rfl rfl ?_
      refine v_cv rfl rfl rfl (ck_sh hs) (by omega) ⟨⟨rfl, rfl⟩, by decide, rfl⟩ (Nat.le_of_ble_eq_true rfl) (Nat.le_of_ble_eq_true rfl) (s_43 (v1 := c s (4 * a2)) (v2 := c s (4 * a2 + 1)) (v3 := c s (4 * a2 + 2)) (v4 := c s (4 * a2 + 3)) (r := c s (4 * a2 + 1) + c s (4 * a2 + 2) + c s (4 * a2 + 3) + c s (4 * a2)) (a1 := a2) hIo hs (show 0 ≤ a2 ∧ a2 ≤ 5 from by omega) (rfl) (rfl) (rfl) (rfl) (by omega) ?_)
      refine bk_inl ?_
      refine q_iload_n rfl rfl ?_
      refine v_iadd (v := a3 + c s (4 * a2 + 1) + c s (4 * a2 + 2) + c s (4 * a2 + 3) + c s (4 * a2)) rfl (by omega) ?_
      refine v_sip rfl (by decide) ?_
      by_cases h_55 : a3 + c s (4 * a2 + 1) + c s (4 * a2 + 2) + c s (4 * a2 + 3) + c s (4 * a2) > 9999
      · refine v_ic_gt_t (t := 17) rfl (by decide) (by omega) ?_
        refine q_iconst rfl ?_
        refine v_zret rfl rfl (by omega) ?_
        refine bk_inl ?_
        refine v_if_ne_f (t := 25) rfl (by decide) (by decide) ?_
        refine q_iconst rfl ?_
        refine v_zret rfl rfl (by omega) ?_
        have hr_56 : ∀ j : Int, rs s j → c s j + c s (j + 1) + c s (j + 2) + c s (j + 3) ≤ 9999 := by
          intro j9 hj9
          obtain ⟨k9, rfl, hk9⟩ := rs_s hs hj9
          by_cases e_57 : k9 = a1
          · skip
            have h_58 : c s (4 * k9) = c s (4 * a1) := (congrArg (c s) (show 4 * k9 = 4 * a1 from by omega))
            have h_59 : c s (4 * k9 + 1) = c s (4 * a1 + 1) := (congrArg (c s) (show 4 * k9 + 1 = 4 * a1 + 1 from by omega))
            have h_60 : c s (4 * k9 + 2) = c s (4 * a1 + 2) := (congrArg (c s) (show 4 * k9 + 2 = 4 * a1 + 2 from by omega))
            have h_61 : c s (4 * k9 + 3) = c s (4 * a1 + 3) := (congrArg (c s) (show 4 * k9 + 3 = 4 * a1 + 3 from by omega))
            omega
          by_cases e_62 : k9 = a2
          · skip
            have h_63 : c s (4 * k9) = c s (4 * a2) := (congrArg (c s) (show 4 * k9 = 4 * a2 from by omega))
            have h_64 : c s (4 * k9 + 1) = c s (4 * a2 + 1) := (congrArg (c s) (show 4 * k9 + 1 = 4 * a2 + 1 from by omega))
            have h_65 : c s (4 * k9 + 2) = c s (4 * a2 + 2) := (congrArg (c s) (show 4 * k9 + 2 = 4 * a2 + 2 from by omega))
            have h_66 : c s (4 * k9 + 3) = c s (4 * a2 + 3) := (congrArg (c s) (show 4 * k9 + 3 = 4 * a2 + 3 from by omega))
            omega
          have h_67 := iv_r hI s (4 * k9) hj9 (by omega)
          have h_68 := ir_s_g hI hs (j := 4 * k9) (by omega)
          have h_69 : c s (4 * k9) = c s (4 * k9) := rfl
          have h_70 := ir_s_g hI hs (j := 4 * k9 + 1) (by omega)
          have h_71 : c s (4 * k9 + 1) = c s (4 * k9 + 1) := rfl
          have h_72 := ir_s_g hI hs (j := 4 * k9 + 2) (by omega)
          have h_73 : c s (4 * k9 + 2) = c s (4 * k9 + 2) := rfl
          have h_74 := ir_s_g hI hs (j := 4 * k9 + 3) (by omega)
          have h_75 : c s (4 * k9 + 3) = c s (4 * k9 + 3) := rfl
          omega
        have hI_76 := iv_close hIo hr_56
        exact K c 0 hI_76 (fun a j hm => rfl) ⟨by decide, by decide⟩
      · refine v_ic_gt_f (t := 17) rfl (by decide) (by omega) ?_
        refine q_iconst rfl ?_
        refine q_goto (t := 18) rfl (by decide) ?_
        refine v_zret rfl rfl (by omega) ?_
        refine bk_inl ?_
        refine v_if_ne_t (t := 25) rfl (by decide) (by decide) ?_
        refine q_iload_n rfl rfl ?_
        refine q_istore rfl (by decide) ?_
        refine q_iconst rfl ?_
        refine q_istore rfl (by decide) ?_
        refine q_iload rfl rfl ?_
        refine q_iconst rfl ?_
        refine v_ic_ge_f (t := 74) rfl (by decide) (by decide) ?_
        refine q_iload rfl rfl ?_
        refine q_aload_n rfl rfl ?_
        refine q_iload_n rfl rfl ?_
        refine q_iload rfl rfl ?_
        refine v_cv rfl rfl rfl (ck_sh hs) (by omega) ⟨⟨rfl, rfl⟩, by decide, rfl⟩ (Nat.le_of_ble_eq_true rfl) (Nat.le_of_ble_eq_true rfl) (s_45 (v1 := c s (4 * a1)) (r := c s (4 * a1)) (a1 := a1) (a2 := 0) hIo hs (show 0 ≤ a1 ∧ a1 ≤ 5 from by omega) (show 0 ≤ 0 ∧ 0 ≤ 3 from by omega) ((congrArg (c s) (show 4 * a1 + 0 = 4 * a1 from by omega))) (by omega) ?_)
        refine bk_inl ?_
        refine v_minx rfl rfl (by omega) (Nat.le_of_ble_eq_true rfl) ⟨by omega, by omega, by omega, by omega⟩ (fun y_77 hy_77 => ?_)
        refine q_istore rfl (by decide) ?_
        refine q_aload_n rfl rfl ?_
        refine q_iload_n rfl rfl ?_
        refine q_iload_n rfl rfl ?_
        refine q_iload rfl rfl ?_
        refine q_iload rfl rfl ?_
        refine v_cv rfl rfl rfl (ck_sh hs) (by omega) ⟨⟨rfl, rfl⟩, by decide, rfl⟩ (Nat.le_of_ble_eq_true rfl) (Nat.le_of_ble_eq_true rfl) (s_52 (a1 := a1) (a2 := a2) (a3 := 0) (a4 := y_77) hIo hs (show 0 ≤ a1 ∧ a1 ≤ 5 from by omega) (show 0 ≤ a2 ∧ a2 ≤ 5 from by omega) (show 0 ≤ 0 ∧ 0 ≤ 3 from by omega) (show 0 ≤ y_77 ∧ y_77 ≤ 9999 from by omega) (by omega) (by omega) (by omega) (fun c_78 hI_79 hF_80 h_81 => ?_))
        refine bk_inl ?_
        have h_82 : c_78 s (4 * a1 + 0) = c_78 s (4 * a1) := congrArg (c_78 s) (by omega)
        have h_83 := ir_s_g hI_79 hs (j := 4 * a1) (by omega)
        have h_84 : c_78 s (4 * a2 + 0) = c_78 s (4 * a2) := congrArg (c_78 s) (by omega)
        have h_85 := ir_s_g hI_79 hs (j := 4 * a2) (by omega)
        refine q_iload rfl rfl ?_
        refine q_iload rfl rfl ?_
        refine v_isub (v := a3 - y_77) rfl (by omega) ?_
        refine q_istore rfl (by decide) ?_
        refine v_iinc (v := 1) rfl rfl (by decide) (by decide) ?_
        refine Wp_ls [(5, vi 1), (4, vi (a3 - y_77)), (6, vi y_77), (0, .ref sh), (1, vi a1), (2, vi a2), (3, vi a3)] (lsub_cons rfl (lsub_cons rfl (lsub_cons rfl (lsub_cons rfl (lsub_cons rfl (lsub_cons rfl (lsub_cons rfl lsub_nil))))))) ?_
        refine q_goto (t := 31) rfl (by decide) ?_
        refine q_iload rfl rfl ?_
        refine q_iconst rfl ?_
        refine v_ic_ge_f (t := 74) rfl (by decide) (by decide) ?_
        refine q_iload rfl rfl ?_
        refine q_aload_n rfl rfl ?_
        refine q_iload_n rfl rfl ?_
        refine q_iload rfl rfl ?_
        have kn_86 : Hid (c_78 s (4 * a1 + 1) = c s (4 * a1 + 1)) := hF_80 s (4 * a1 + 1) (by omega)
        refine v_cv rfl rfl rfl (ck_sh hs) (by omega) ⟨⟨rfl, rfl⟩, by decide, rfl⟩ (Nat.le_of_ble_eq_true rfl) (Nat.le_of_ble_eq_true rfl) (s_45 (v1 := c s (4 * a1 + 1)) (r := c s (4 * a1 + 1)) (a1 := a1) (a2 := 1) hI_79 hs (show 0 ≤ a1 ∧ a1 ≤ 5 from by omega) (show 0 ≤ 1 ∧ 1 ≤ 3 from by omega) ((hid kn_86)) (by omega) ?_)
        refine bk_inl ?_
        refine v_minx rfl rfl (by omega) (Nat.le_of_ble_eq_true rfl) ⟨by omega, by omega, by omega, by omega⟩ (fun y_87 hy_87 => ?_)
        refine q_istore rfl (by decide) ?_
        refine q_aload_n rfl rfl ?_
        refine q_iload_n rfl rfl ?_
        refine q_iload_n rfl rfl ?_
        refine q_iload rfl rfl ?_
        refine q_iload rfl rfl ?_
        have h_88 : c_78 s (4 * a1 + 1) = c s (4 * a1 + 1) := (hid kn_86)
        have kn_89 : Hid (c_78 s (4 * a2 + 1) = c s (4 * a2 + 1)) := hF_80 s (4 * a2 + 1) (by omega)
        have h_90 : c_78 s (4 * a2 + 1) = c s (4 * a2 + 1) := (hid kn_89)
        refine v_cv rfl rfl rfl (ck_sh hs) (by omega) ⟨⟨rfl, rfl⟩, by decide, rfl⟩ (Nat.le_of_ble_eq_true rfl) (Nat.le_of_ble_eq_true rfl) (s_52 (a1 := a1) (a2 := a2) (a3 := 1) (a4 := y_87) hI_79 hs (show 0 ≤ a1 ∧ a1 ≤ 5 from by omega) (show 0 ≤ a2 ∧ a2 ≤ 5 from by omega) (show 0 ≤ 1 ∧ 1 ≤ 3 from by omega) (show 0 ≤ y_87 ∧ y_87 ≤ 9999 from by omega) (by omega) (by omega) (by omega) (fun c_91 hI_92 hF_93 h_94 => ?_))
        refine bk_inl ?_
        have h_95 := ir_s_g hI_92 hs (j := 4 * a1 + 1) (by omega)
        have h_96 := ir_s_g hI_92 hs (j := 4 * a2 + 1) (by omega)
        refine q_iload rfl rfl ?_
        refine q_iload rfl rfl ?_
        refine v_isub (v := a3 - y_77 - y_87) rfl (by omega) ?_
        refine q_istore rfl (by decide) ?_
        refine v_iinc (v := 2) rfl rfl (by decide) (by decide) ?_
        refine q_goto (t := 31) rfl (by decide) ?_
        refine q_iload rfl rfl ?_
        refine q_iconst rfl ?_
        refine v_ic_ge_f (t := 74) rfl (by decide) (by decide) ?_
        refine q_iload rfl rfl ?_
        refine q_aload_n rfl rfl ?_
        refine q_iload_n rfl rfl ?_
        refine q_iload rfl rfl ?_
        have kn_97 : Hid (c_78 s (4 * a1 + 2) = c s (4 * a1 + 2)) := hF_80 s (4 * a1 + 2) (by omega)
        have kn_98 : Hid (c_91 s (4 * a1 + 2) = c s (4 * a1 + 2)) := (hF_93 s (4 * a1 + 2) (by omega)).trans (hid kn_97)
        refine v_cv rfl rfl rfl (ck_sh hs) (by omega) ⟨⟨rfl, rfl⟩, by decide, rfl⟩ (Nat.le_of_ble_eq_true rfl) (Nat.le_of_ble_eq_true rfl) (s_45 (v1 := c s (4 * a1 + 2)) (r := c s (4 * a1 + 2)) (a1 := a1) (a2 := 2) hI_92 hs (show 0 ≤ a1 ∧ a1 ≤ 5 from by omega) (show 0 ≤ 2 ∧ 2 ≤ 3 from by omega) ((hid kn_98)) (by omega) ?_)
        refine bk_inl ?_
        refine v_minx rfl rfl (by omega) (Nat.le_of_ble_eq_true rfl) ⟨by omega, by omega, by omega, by omega⟩ (fun y_99 hy_99 => ?_)
        refine q_istore rfl (by decide) ?_
        refine q_aload_n rfl rfl ?_
        refine q_iload_n rfl rfl ?_
        refine q_iload_n rfl rfl ?_
        refine q_iload rfl rfl ?_
        refine q_iload rfl rfl ?_
        have h_100 : c_91 s (4 * a1 + 2) = c s (4 * a1 + 2) := (hid kn_98)
        have kn_101 : Hid (c_78 s (4 * a2 + 2) = c s (4 * a2 + 2)) := hF_80 s (4 * a2 + 2) (by omega)
        have kn_102 : Hid (c_91 s (4 * a2 + 2) = c s (4 * a2 + 2)) := (hF_93 s (4 * a2 + 2) (by omega)).trans (hid kn_101)
        have h_103 : c_91 s (4 * a2 + 2) = c s (4 * a2 + 2) := (hid kn_102)
        refine v_cv rfl rfl rfl (ck_sh hs) (by omega) ⟨⟨rfl, rfl⟩, by decide, rfl⟩ (Nat.le_of_ble_eq_true rfl) (Nat.le_of_ble_eq_true rfl) (s_52 (a1 := a1) (a2 := a2) (a3 := 2) (a4 := y_99) hI_92 hs (show 0 ≤ a1 ∧ a1 ≤ 5 from by omega) (show 0 ≤ a2 ∧ a2 ≤ 5 from by omega) (show 0 ≤ 2 ∧ 2 ≤ 3 from by omega) (show 0 ≤ y_99 ∧ y_99 ≤ 9999 from by omega) (by omega) (by omega) (by omega) (fun c_104 hI_105 hF_106 h_107 => ?_))
        refine bk_inl ?_
        have h_108 := ir_s_g hI_105 hs (j := 4 * a1 + 2) (by omega)
        have h_109 := ir_s_g hI_105 hs (j := 4 * a2 + 2) (by omega)
        refine q_iload rfl rfl ?_
        refine q_iload rfl rfl ?_
        refine v_isub (v := a3 - y_77 - y_87 - y_99) rfl (by omega) ?_
        refine q_istore rfl (by decide) ?_
        refine Wp_ls [(4, vi (a3 - y_77 - y_87 - y_99)), (6, vi y_99), (5, vi 2), (0, .ref sh), (1, vi a1), (2, vi a2), (3, vi a3)] (lsub_cons rfl (lsub_cons rfl (lsub_cons rfl (lsub_cons rfl (lsub_cons rfl (lsub_cons rfl (lsub_cons rfl lsub_nil))))))) ?_
        refine v_iinc (v := 3) rfl rfl (by decide) (by decide) ?_
        refine q_goto (t := 31) rfl (by decide) ?_
        refine q_iload rfl rfl ?_
        refine q_iconst rfl ?_
        refine v_ic_ge_f (t := 74) rfl (by decide) (by decide) ?_
        refine q_iload rfl rfl ?_
        refine q_aload_n rfl rfl ?_
        refine q_iload_n rfl rfl ?_
        refine q_iload rfl rfl ?_
        have kn_110 : Hid (c_78 s (4 * a1 + 3) = c s (4 * a1 + 3)) := hF_80 s (4 * a1 + 3) (by omega)
        have kn_111 : Hid (c_91 s (4 * a1 + 3) = c s (4 * a1 + 3)) := (hF_93 s (4 * a1 + 3) (by omega)).trans (hid kn_110)
        have kn_112 : Hid (c_104 s (4 * a1 + 3) = c s (4 * a1 + 3)) := (hF_106 s (4 * a1 + 3) (by omega)).trans (hid kn_111)
        refine v_cv rfl rfl rfl (ck_sh hs) (by omega) ⟨⟨rfl, rfl⟩, by decide, rfl⟩ (Nat.le_of_ble_eq_true rfl) (Nat.le_of_ble_eq_true rfl) (s_45 (v1 := c s (4 * a1 + 3)) (r := c s (4 * a1 + 3)) (a1 := a1) (a2 := 3) hI_105 hs (show 0 ≤ a1 ∧ a1 ≤ 5 from by omega) (show 0 ≤ 3 ∧ 3 ≤ 3 from by omega) ((hid kn_112)) (by omega) ?_)
        refine bk_inl ?_
        refine v_minx rfl rfl (by omega) (Nat.le_of_ble_eq_true rfl) ⟨by omega, by omega, by omega, by omega⟩ (fun y_113 hy_113 => ?_)
        refine q_istore rfl (by decide) ?_
        refine q_aload_n rfl rfl ?_
        refine q_iload_n rfl rfl ?_
        refine q_iload_n rfl rfl ?_
        refine q_iload rfl rfl ?_
        refine q_iload rfl rfl ?_
        have h_114 : c_104 s (4 * a1 + 3) = c s (4 * a1 + 3) := (hid kn_112)
        have kn_115 : Hid (c_78 s (4 * a2 + 3) = c s (4 * a2 + 3)) := hF_80 s (4 * a2 + 3) (by omega)
        have kn_116 : Hid (c_91 s (4 * a2 + 3) = c s (4 * a2 + 3)) := (hF_93 s (4 * a2 + 3) (by omega)).trans (hid kn_115)
        have kn_117 : Hid (c_104 s (4 * a2 + 3) = c s (4 * a2 + 3)) := (hF_106 s (4 * a2 + 3) (by omega)).trans (hid kn_116)
        have h_118 : c_104 s (4 * a2 + 3) = c s (4 * a2 + 3) := (hid kn_117)
        refine v_cv rfl rfl rfl (ck_sh hs) (by omega) ⟨⟨rfl, rfl⟩, by decide, rfl⟩ (Nat.le_of_ble_eq_true rfl) (Nat.le_of_ble_eq_true rfl) (s_52 (a1 := a1) (a2 := a2) (a3 := 3) (a4 := y_113) hI_105 hs (show 0 ≤ a1 ∧ a1 ≤ 5 from by omega) (show 0 ≤ a2 ∧ a2 ≤ 5 from by omega) (show 0 ≤ 3 ∧ 3 ≤ 3 from by omega) (show 0 ≤ y_113 ∧ y_113 ≤ 9999 from by omega) (by omega) (by omega) (by omega) (fun c_119 hI_120 hF_121 h_122 => ?_))
        refine bk_inl ?_
        have h_123 := ir_s_g hI_120 hs (j := 4 * a1 + 3) (by omega)
        have h_124 := ir_s_g hI_120 hs (j := 4 * a2 + 3) (by omega)
        refine q_iload rfl rfl ?_
        refine q_iload rfl rfl ?_
        refine v_isub (v := a3 - y_113 - y_77 - y_87 - y_99) rfl (by omega) ?_
        refine q_istore rfl (by decide) ?_
        refine v_iinc (v := 4) rfl rfl (by decide) (by decide) ?_
        refine q_goto (t := 31) rfl (by decide) ?_
        refine q_iload rfl rfl ?_
        refine q_iconst rfl ?_
        refine v_ic_ge_t (t := 74) rfl (by decide) (by decide) ?_
        refine q_aload_n rfl rfl ?_
        refine q_iload_n rfl rfl ?_
        have kn_125 : Hid (c_91 s (4 * a1) = c_78 s (4 * a1)) := hF_93 s (4 * a1) (by omega)
        have kn_126 : Hid (c_104 s (4 * a1) = c_78 s (4 * a1)) := (hF_106 s (4 * a1) (by omega)).trans (hid kn_125)
        have kn_127 : Hid (c_119 s (4 * a1) = c_78 s (4 * a1)) := (hF_121 s (4 * a1) (by omega)).trans (hid kn_126)
        have kn_128 : Hid (c_104 s (4 * a1 + 1) = c_91 s (4 * a1 + 1)) := hF_106 s (4 * a1 + 1) (by omega)
        have kn_129 : Hid (c_119 s (4 * a1 + 1) = c_91 s (4 * a1 + 1)) := (hF_121 s (4 * a1 + 1) (by omega)).trans (hid kn_128)
        have kn_130 : Hid (c_119 s (4 * a1 + 2) = c_104 s (4 * a1 + 2)) := hF_121 s (4 * a1 + 2) (by omega)
        refine v_cv rfl rfl rfl (ck_sh hs) (by omega) ⟨⟨rfl, rfl⟩, by decide, rfl⟩ (Nat.le_of_ble_eq_true rfl) (Nat.le_of_ble_eq_true rfl) (s_43 (v1 := c_78 s (4 * a1)) (v2 := c_91 s (4 * a1 + 1)) (v3 := c_104 s (4 * a1 + 2)) (v4 := c_119 s (4 * a1 + 3)) (r := c_104 s (4 * a1 + 2) + c_119 s (4 * a1 + 3) + c_78 s (4 * a1) + c_91 s (4 * a1 + 1)) (a1 := a1) hI_120 hs (show 0 ≤ a1 ∧ a1 ≤ 5 from by omega) ((hid kn_127)) ((hid kn_129)) ((hid kn_130)) (rfl) (by omega) ?_)
        refine bk_inl ?_
        by_cases h_131 : c_104 s (4 * a1 + 2) + c_119 s (4 * a1 + 3) + c_78 s (4 * a1) + c_91 s (4 * a1 + 1) ≠ 0
        · refine v_if_ne_t (t := 92) rfl (by decide) (by omega) ?_
          refine q_iconst rfl ?_
          refine v_zret rfl rfl (by omega) ?_
          have hr_132 : ∀ j : Int, rs s j → c_119 s j + c_119 s (j + 1) + c_119 s (j + 2) + c_119 s (j + 3) ≤ 9999 := by
            intro j9 hj9
            obtain ⟨k9, rfl, hk9⟩ := rs_s hs hj9
            by_cases e_133 : k9 = a1
            · skip
              have h_134 : c_119 s (4 * k9) = c_78 s (4 * a1) := (congrArg (c_119 s) (show 4 * k9 = 4 * a1 from by omega)).trans (hid kn_127)
              have h_135 : c_119 s (4 * k9 + 1) = c_91 s (4 * a1 + 1) := (congrArg (c_119 s) (show 4 * k9 + 1 = 4 * a1 + 1 from by omega)).trans (hid kn_129)
              have h_136 : c_119 s (4 * k9 + 2) = c_104 s (4 * a1 + 2) := (congrArg (c_119 s) (show 4 * k9 + 2 = 4 * a1 + 2 from by omega)).trans (hid kn_130)
              have h_137 : c_119 s (4 * k9 + 3) = c_119 s (4 * a1 + 3) := (congrArg (c_119 s) (show 4 * k9 + 3 = 4 * a1 + 3 from by omega))
              omega
            by_cases e_138 : k9 = a2
            · skip
              have kn_139 : Hid (c_91 s (4 * a2) = c_78 s (4 * a2)) := hF_93 s (4 * a2) (by omega)
              have kn_140 : Hid (c_104 s (4 * a2) = c_78 s (4 * a2)) := (hF_106 s (4 * a2) (by omega)).trans (hid kn_139)
              have kn_141 : Hid (c_119 s (4 * a2) = c_78 s (4 * a2)) := (hF_121 s (4 * a2) (by omega)).trans (hid kn_140)
              have h_142 : c_119 s (4 * k9) = c_78 s (4 * a2) := (congrArg (c_119 s) (show 4 * k9 = 4 * a2 from by omega)).trans (hid kn_141)
              have kn_143 : Hid (c_104 s (4 * a2 + 1) = c_91 s (4 * a2 + 1)) := hF_106 s (4 * a2 + 1) (by omega)
              have kn_144 : Hid (c_119 s (4 * a2 + 1) = c_91 s (4 * a2 + 1)) := (hF_121 s (4 * a2 + 1) (by omega)).trans (hid kn_143)
              have h_145 : c_119 s (4 * k9 + 1) = c_91 s (4 * a2 + 1) := (congrArg (c_119 s) (show 4 * k9 + 1 = 4 * a2 + 1 from by omega)).trans (hid kn_144)
              have kn_146 : Hid (c_119 s (4 * a2 + 2) = c_104 s (4 * a2 + 2)) := hF_121 s (4 * a2 + 2) (by omega)
              have h_147 : c_119 s (4 * k9 + 2) = c_104 s (4 * a2 + 2) := (congrArg (c_119 s) (show 4 * k9 + 2 = 4 * a2 + 2 from by omega)).trans (hid kn_146)
              have h_148 : c_119 s (4 * k9 + 3) = c_119 s (4 * a2 + 3) := (congrArg (c_119 s) (show 4 * k9 + 3 = 4 * a2 + 3 from by omega))
              omega
            have h_149 := iv_r hI s (4 * k9) hj9 (by omega)
            have h_150 := ir_s_g hI hs (j := 4 * k9) (by omega)
            have kn_151 : Hid (c_78 s (4 * k9) = c s (4 * k9)) := hF_80 s (4 * k9) (by omega)
            have kn_152 : Hid (c_91 s (4 * k9) = c s (4 * k9)) := (hF_93 s (4 * k9) (by omega)).trans (hid kn_151)
            have kn_153 : Hid (c_104 s (4 * k9) = c s (4 * k9)) := (hF_106 s (4 * k9) (by omega)).trans (hid kn_152)
            have kn_154 : Hid (c_119 s (4 * k9) = c s (4 * k9)) := (hF_121 s (4 * k9) (by omega)).trans (hid kn_153)
            have h_155 : c_119 s (4 * k9) = c s (4 * k9) := (hid kn_154)
            have h_156 := ir_s_g hI hs (j := 4 * k9 + 1) (by omega)
            have kn_157 : Hid (c_78 s (4 * k9 + 1) = c s (4 * k9 + 1)) := hF_80 s (4 * k9 + 1) (by omega)
            have kn_158 : Hid (c_91 s (4 * k9 + 1) = c s (4 * k9 + 1)) := (hF_93 s (4 * k9 + 1) (by omega)).trans (hid kn_157)
            have kn_159 : Hid (c_104 s (4 * k9 + 1) = c s (4 * k9 + 1)) := (hF_106 s (4 * k9 + 1) (by omega)).trans (hid kn_158)
            have kn_160 : Hid (c_119 s (4 * k9 + 1) = c s (4 * k9 + 1)) := (hF_121 s (4 * k9 + 1) (by omega)).trans (hid kn_159)
            have h_161 : c_119 s (4 * k9 + 1) = c s (4 * k9 + 1) := (hid kn_160)
            have h_162 := ir_s_g hI hs (j := 4 * k9 + 2) (by omega)
            have kn_163 : Hid (c_78 s (4 * k9 + 2) = c s (4 * k9 + 2)) := hF_80 s (4 * k9 + 2) (by omega)
            have kn_164 : Hid (c_91 s (4 * k9 + 2) = c s (4 * k9 + 2)) := (hF_93 s (4 * k9 + 2) (by omega)).trans (hid kn_163)
            have kn_165 : Hid (c_104 s (4 * k9 + 2) = c s (4 * k9 + 2)) := (hF_106 s (4 * k9 + 2) (by omega)).trans (hid kn_164)
            have kn_166 : Hid (c_119 s (4 * k9 + 2) = c s (4 * k9 + 2)) := (hF_121 s (4 * k9 + 2) (by omega)).trans (hid kn_165)
            have h_167 : c_119 s (4 * k9 + 2) = c s (4 * k9 + 2) := (hid kn_166)
            have h_168 := ir_s_g hI hs (j := 4 * k9 + 3) (by omega)
            have kn_169 : Hid (c_78 s (4 * k9 + 3) = c s (4 * k9 + 3)) := hF_80 s (4 * k9 + 3) (by omega)
            have kn_170 : Hid (c_91 s (4 * k9 + 3) = c s (4 * k9 + 3)) := (hF_93 s (4 * k9 + 3) (by omega)).trans (hid kn_169)
            have kn_171 : Hid (c_104 s (4 * k9 + 3) = c s (4 * k9 + 3)) := (hF_106 s (4 * k9 + 3) (by omega)).trans (hid kn_170)
            have kn_172 : Hid (c_119 s (4 * k9 + 3) = c s (4 * k9 + 3)) := (hF_121 s (4 * k9 + 3) (by omega)).trans (hid kn_171)
            have h_173 : c_119 s (4 * k9 + 3) = c s (4 * k9 + 3) := (hid kn_172)
            omega
          have hI_174 := iv_close hI_120 hr_132
          exact K c_119 1 hI_174 (fun a j hm => (hF_121 a j (by omega)).trans ((hF_106 a j (by omega)).trans ((hF_93 a j (by omega)).trans (hF_80 a j (by omega))))) ⟨by decide, by decide⟩
        · refine v_if_ne_f (t := 92) rfl (by decide) (by omega) ?_
          refine q_aload_n rfl rfl ?_
          refine v_gr (t := s) rfl rfl (ck_sh hs) (by omega) rfl ?_
          refine v_bip rfl (by decide) ?_
          refine q_iload_n rfl rfl ?_
          refine v_iadd (v := a1 + 24) rfl (by omega) ?_
          refine q_iconst rfl ?_
          refine v_is rfl (ck_s hs) (by omega) (by decide) (by omega) ?_
          refine q_iconst rfl ?_
          refine v_zret rfl rfl (by omega) ?_
          have hI_175 := iw_row (a := s) (j := a1 + 24) (v := 0) hI_120 (by omega) (Or.inl rfl) ⟨by omega, by omega, by omega⟩
          have hr_176 : ∀ j : Int, rs s j → (up c_119 s (a1 + 24) 0) s j + (up c_119 s (a1 + 24) 0) s (j + 1) + (up c_119 s (a1 + 24) 0) s (j + 2) + (up c_119 s (a1 + 24) 0) s (j + 3) ≤ 9999 := by
            intro j9 hj9
            obtain ⟨k9, rfl, hk9⟩ := rs_s hs hj9
            by_cases e_177 : k9 = a1
            · skip
              have h_178 : (up c_119 s (a1 + 24) 0) s (4 * k9) = c_78 s (4 * a1) := (congrArg ((up c_119 s (a1 + 24) 0) s) (show 4 * k9 = 4 * a1 from by omega)).trans ((up_n (by omega)).trans (hid kn_127))
              have h_179 : (up c_119 s (a1 + 24) 0) s (4 * k9 + 1) = c_91 s (4 * a1 + 1) := (congrArg ((up c_119 s (a1 + 24) 0) s) (show 4 * k9 + 1 = 4 * a1 + 1 from by omega)).trans ((up_n (by omega)).trans (hid kn_129))
              have h_180 : (up c_119 s (a1 + 24) 0) s (4 * k9 + 2) = c_104 s (4 * a1 + 2) := (congrArg ((up c_119 s (a1 + 24) 0) s) (show 4 * k9 + 2 = 4 * a1 + 2 from by omega)).trans ((up_n (by omega)).trans (hid kn_130))
              have h_181 : (up c_119 s (a1 + 24) 0) s (4 * k9 + 3) = c_119 s (4 * a1 + 3) := (congrArg ((up c_119 s (a1 + 24) 0) s) (show 4 * k9 + 3 = 4 * a1 + 3 from by omega)).trans (up_n (by omega))
              omega
            by_cases e_182 : k9 = a2
            · skip
              have kn_183 : Hid (c_91 s (4 * a2) = c_78 s (4 * a2)) := hF_93 s (4 * a2) (by omega)
              have kn_184 : Hid (c_104 s (4 * a2) = c_78 s (4 * a2)) := (hF_106 s (4 * a2) (by omega)).trans (hid kn_183)
              have kn_185 : Hid (c_119 s (4 * a2) = c_78 s (4 * a2)) := (hF_121 s (4 * a2) (by omega)).trans (hid kn_184)
              have h_186 : (up c_119 s (a1 + 24) 0) s (4 * k9) = c_78 s (4 * a2) := (congrArg ((up c_119 s (a1 + 24) 0) s) (show 4 * k9 = 4 * a2 from by omega)).trans ((up_n (by omega)).trans (hid kn_185))
              have kn_187 : Hid (c_104 s (4 * a2 + 1) = c_91 s (4 * a2 + 1)) := hF_106 s (4 * a2 + 1) (by omega)
              have kn_188 : Hid (c_119 s (4 * a2 + 1) = c_91 s (4 * a2 + 1)) := (hF_121 s (4 * a2 + 1) (by omega)).trans (hid kn_187)
              have h_189 : (up c_119 s (a1 + 24) 0) s (4 * k9 + 1) = c_91 s (4 * a2 + 1) := (congrArg ((up c_119 s (a1 + 24) 0) s) (show 4 * k9 + 1 = 4 * a2 + 1 from by omega)).trans ((up_n (by omega)).trans (hid kn_188))
              have kn_190 : Hid (c_119 s (4 * a2 + 2) = c_104 s (4 * a2 + 2)) := hF_121 s (4 * a2 + 2) (by omega)
              have h_191 : (up c_119 s (a1 + 24) 0) s (4 * k9 + 2) = c_104 s (4 * a2 + 2) := (congrArg ((up c_119 s (a1 + 24) 0) s) (show 4 * k9 + 2 = 4 * a2 + 2 from by omega)).trans ((up_n (by omega)).trans (hid kn_190))
              have h_192 : (up c_119 s (a1 + 24) 0) s (4 * k9 + 3) = c_119 s (4 * a2 + 3) := (congrArg ((up c_119 s (a1 + 24) 0) s) (show 4 * k9 + 3 = 4 * a2 + 3 from by omega)).trans (up_n (by omega))
              omega
            have h_193 := iv_r hI s (4 * k9) hj9 (by omega)
            have h_194 := ir_s_g hI hs (j := 4 * k9) (by omega)
            have kn_195 : Hid (c_78 s (4 * k9) = c s (4 * k9)) := hF_80 s (4 * k9) (by omega)
            have kn_196 : Hid (c_91 s (4 * k9) = c s (4 * k9)) := (hF_93 s (4 * k9) (by omega)).trans (hid kn_195)
            have kn_197 : Hid (c_104 s (4 * k9) = c s (4 * k9)) := (hF_106 s (4 * k9) (by omega)).trans (hid kn_196)
            have kn_198 : Hid (c_119 s (4 * k9) = c s (4 * k9)) := (hF_121 s (4 * k9) (by omega)).trans (hid kn_197)
            have h_199 : (up c_119 s (a1 + 24) 0) s (4 * k9) = c s (4 * k9) := ((up_n (by omega)).trans (hid kn_198))
            have h_200 := ir_s_g hI hs (j := 4 * k9 + 1) (by omega)
            have kn_201 : Hid (c_78 s (4 * k9 + 1) = c s (4 * k9 + 1)) := hF_80 s (4 * k9 + 1) (by omega)
            have kn_202 : Hid (c_91 s (4 * k9 + 1) = c s (4 * k9 + 1)) := (hF_93 s (4 * k9 + 1) (by omega)).trans (hid kn_201)
            have kn_203 : Hid (c_104 s (4 * k9 + 1) = c s (4 * k9 + 1)) := (hF_106 s (4 * k9 + 1) (by omega)).trans (hid kn_202)
            have kn_204 : Hid (c_119 s (4 * k9 + 1) = c s (4 * k9 + 1)) := (hF_121 s (4 * k9 + 1) (by omega)).trans (hid kn_203)
            have h_205 : (up c_119 s (a1 + 24) 0) s (4 * k9 + 1) = c s (4 * k9 + 1) := ((up_n (by omega)).trans (hid kn_204))
            have h_206 := ir_s_g hI hs (j := 4 * k9 + 2) (by omega)
            have kn_207 : Hid (c_78 s (4 * k9 + 2) = c s (4 * k9 + 2)) := hF_80 s (4 * k9 + 2) (by omega)
            have kn_208 : Hid (c_91 s (4 * k9 + 2) = c s (4 * k9 + 2)) := (hF_93 s (4 * k9 + 2) (by omega)).trans (hid kn_207)
            have kn_209 : Hid (c_104 s (4 * k9 + 2) = c s (4 * k9 + 2)) := (hF_106 s (4 * k9 + 2) (by omega)).trans (hid kn_208)
            have kn_210 : Hid (c_119 s (4 * k9 + 2) = c s (4 * k9 + 2)) := (hF_121 s (4 * k9 + 2) (by omega)).trans (hid kn_209)
            have h_211 : (up c_119 s (a1 + 24) 0) s (4 * k9 + 2) = c s (4 * k9 + 2) := ((up_n (by omega)).trans (hid kn_210))
            have h_212 := ir_s_g hI hs (j := 4 * k9 + 3) (by omega)
            have kn_213 : Hid (c_78 s (4 * k9 + 3) = c s (4 * k9 + 3)) := hF_80 s (4 * k9 + 3) (by omega)
            have kn_214 : Hid (c_91 s (4 * k9 + 3) = c s (4 * k9 + 3)) := (hF_93 s (4 * k9 + 3) (by omega)).trans (hid kn_213)
            have kn_215 : Hid (c_104 s (4 * k9 + 3) = c s (4 * k9 + 3)) := (hF_106 s (4 * k9 + 3) (by omega)).trans (hid kn_214)
            have kn_216 : Hid (c_119 s (4 * k9 + 3) = c s (4 * k9 + 3)) := (hF_121 s (4 * k9 + 3) (by omega)).trans (hid kn_215)
            have h_217 : (up c_119 s (a1 + 24) 0) s (4 * k9 + 3) = c s (4 * k9 + 3) := ((up_n (by omega)).trans (hid kn_216))
            omega
          have hI_218 := iv_close hI_175 hr_176
          exact K (up c_119 s (a1 + 24) 0) 1 hI_218 (fun a j hm => (up_b (by omega)).trans ((hF_121 a j (by omega)).trans ((hF_106 a j (by omega)).trans ((hF_93 a j (by omega)).trans (hF_80 a j (by omega)))))) ⟨by decide, by decide⟩

