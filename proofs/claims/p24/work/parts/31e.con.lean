/-! ===== contracts 5 ===== -/
set_option maxRecDepth 100000 in
set_option maxHeartbeats 4000000 in
theorem s_54 {sc : List Int32} {d P Q sh s : Nat} {c : ME} {a1 : Int} {a2 : Int} {a3 : Int} {Z : AR → Prop} (hI : Iv 0 (-1) P Q c) (hs : (sh = 37 ∧ s = 38) ∨ (sh = 39 ∧ s = 40)) (ha1 : 0 ≤ a1 ∧ a1 ≤ 5) (ha2 : 0 ≤ a2 ∧ a2 ≤ 5) (ha3 : 0 ≤ a3 ∧ a3 ≤ 99999) (K : ∀ (c2 : ME) (y : Int), Iv 0 (-1) P Q c2 → (∀ (a : Nat) (j : Int), ¬ (a = s) → c2 a j = c a j) → 0 ≤ y ∧ y ≤ 1 → Z (.inl (some (vi y)), Wd P Q P P c2, 0, 0)) : Wp sc (d + 9) 54 0 [(0, .ref sh), (1, vi a1), (2, vi a2), (3, vi a3)] [] (Wd P Q P P c) 0 0 Z := by
  have hP := iv_P hI
  have hQ := iv_Q hI
  have hIo : Iv s (-1) P Q c := iv_open hI
  have hsum_1 := ir_s_r hI hs (by omega) (j := a1) (by omega)
  have h_2 := ir_s_g hI hs (j := 4 * a1) (by omega)
  have h_3 := ir_s_g hI hs (j := 4 * a1 + 1) (by omega)
  have h_4 := ir_s_g hI hs (j := 4 * a1 + 2) (by omega)
  have h_5 := ir_s_g hI hs (j := 4 * a1 + 3) (by omega)
  have hsum_6 := ir_s_r hI hs (by omega) (j := a2) (by omega)
  have h_7 := ir_s_g hI hs (j := 4 * a2) (by omega)
  have h_8 := ir_s_g hI hs (j := 4 * a2 + 1) (by omega)
  have h_9 := ir_s_g hI hs (j := 4 * a2 + 2) (by omega)
  have h_10 := ir_s_g hI hs (j := 4 * a2 + 3) (by omega)
  refine q_iload_n rfl rfl ?_
  refine q_iload_n rfl rfl ?_
  by_cases h_11 : a1 = a2
  · refine v_ic_eq_t (t := 23) rfl (by decide) (by omega) ?_
    refine q_iconst rfl ?_
    refine v_zret rfl rfl (by omega) ?_
    have hr_12 : ∀ j : Int, rs s j → c s j + c s (j + 1) + c s (j + 2) + c s (j + 3) ≤ 9999 := by
      intro j9 hj9
      obtain ⟨k9, rfl, hk9⟩ := rs_s hs hj9
      by_cases e_13 : k9 = a1
      · skip
        have h_14 : c s (4 * k9) = c s (4 * a1) := (congrArg (c s) (show 4 * k9 = 4 * a1 from by omega))
        have h_15 : c s (4 * k9 + 1) = c s (4 * a1 + 1) := (congrArg (c s) (show 4 * k9 + 1 = 4 * a1 + 1 from by omega))
        have h_16 : c s (4 * k9 + 2) = c s (4 * a1 + 2) := (congrArg (c s) (show 4 * k9 + 2 = 4 * a1 + 2 from by omega))
        have h_17 : c s (4 * k9 + 3) = c s (4 * a1 + 3) := (congrArg (c s) (show 4 * k9 + 3 = 4 * a1 + 3 from by omega))
        omega
      by_cases e_18 : k9 = a2
      · skip
        have h_19 : c s (4 * k9) = c s (4 * a2) := (congrArg (c s) (show 4 * k9 = 4 * a2 from by omega))
        have h_20 : c s (4 * k9 + 1) = c s (4 * a2 + 1) := (congrArg (c s) (show 4 * k9 + 1 = 4 * a2 + 1 from by omega))
        have h_21 : c s (4 * k9 + 2) = c s (4 * a2 + 2) := (congrArg (c s) (show 4 * k9 + 2 = 4 * a2 + 2 from by omega))
        have h_22 : c s (4 * k9 + 3) = c s (4 * a2 + 3) := (congrArg (c s) (show 4 * k9 + 3 = 4 * a2 + 3 from by omega))
        omega
      have h_23 := iv_r hI s (4 * k9) hj9 (by omega)
      have h_24 := ir_s_g hI hs (j := 4 * k9) (by omega)
      have h_25 : c s (4 * k9) = c s (4 * k9) := rfl
      have h_26 := ir_s_g hI hs (j := 4 * k9 + 1) (by omega)
      have h_27 : c s (4 * k9 + 1) = c s (4 * k9 + 1) := rfl
      have h_28 := ir_s_g hI hs (j := 4 * k9 + 2) (by omega)
      have h_29 : c s (4 * k9 + 2) = c s (4 * k9 + 2) := rfl
      have h_30 := ir_s_g hI hs (j := 4 * k9 + 3) (by omega)
      have h_31 : c s (4 * k9 + 3) = c s (4 * k9 + 3) := rfl
      omega
    have hI_32 := iv_close hIo hr_12
    exact K c 0 hI_32 (fun a j hm => rfl) ⟨by decide, by decide⟩
  · refine v_ic_eq_f (t := 23) rfl (by decide) (by omega) ?_
    refine q_aload_n rfl rfl ?_
    refine q_iload_n rfl rfl ?_
    refine v_cv rfl rfl rfl (ck_sh hs) (by omega) ⟨⟨rfl, rfl⟩, by decide, rfl⟩ (Nat.le_of_ble_eq_true rfl) (Nat.le_of_ble_eq_true rfl) (s_43 (v1 := c s (4 * a1)) (v2 := c s (4 * a1 + 1)) (v3 := c s (4 * a1 + 2)) (v4 := c s (4 * a1 + 3)) (r := c s (4 * a1 + 1) + c s (4 * a1 + 2) + c s (4 * a1 + 3) + c s (4 * a1)) (a1 := a1) hIo hs (show 0 ≤ a1 ∧ a1 ≤ 5 from by omega) (rfl) (rfl) (rfl) (rfl) (by omega) ?_)
    refine bk_inl ?_
    refine q_iload_n rfl rfl ?_
    by_cases h_33 : c s (4 * a1 + 1) + c s (4 * a1 + 2) + c s (4 * a1 + 3) + c s (4 * a1) < a3
    · refine v_ic_lt_t (t := 23) rfl (by decide) (by omega) ?_
      refine q_iconst rfl ?_
      refine v_zret rfl rfl (by omega) ?_
      have hr_34 : ∀ j : Int, rs s j → c s j + c s (j + 1) + c s (j + 2) + c s (j + 3) ≤ 9999 := by
        intro j9 hj9
        obtain ⟨k9, rfl, hk9⟩ := rs_s hs hj9
        by_cases e_35 : k9 = a1
        · skip
          have h_36 : c s (4 * k9) = c s (4 * a1) := (congrArg (c s) (show 4 * k9 = 4 * a1 from by omega))
          have h_37 : c s (4 * k9 + 1) = c s (4 * a1 + 1) := (congrArg (c s) (show 4 * k9 + 1 = 4 * a1 + 1 from by omega))
          have h_38 : c s (4 * k9 + 2) = c s (4 * a1 + 2) := (congrArg (c s) (show 4 * k9 + 2 = 4 * a1 + 2 from by omega))
          have h_39 : c s (4 * k9 + 3) = c s (4 * a1 + 3) := (congrArg (c s) (show 4 * k9 + 3 = 4 * a1 + 3 from by omega))
          omega
        by_cases e_40 : k9 = a2
        · skip
          have h_41 : c s (4 * k9) = c s (4 * a2) := (congrArg (c s) (show 4 * k9 = 4 * a2 from by omega))
          have h_42 : c s (4 * k9 + 1) = c s (4 * a2 + 1) := (congrArg (c s) (show 4 * k9 + 1 = 4 * a2 + 1 from by omega))
          have h_43 : c s (4 * k9 + 2) = c s (4 * a2 + 2) := (congrArg (c s) (show 4 * k9 + 2 = 4 * a2 + 2 from by omega))
          have h_44 : c s (4 * k9 + 3) = c s (4 * a2 + 3) := (congrArg (c s) (show 4 * k9 + 3 = 4 * a2 + 3 from by omega))
          omega
        have h_45 := iv_r hI s (4 * k9) hj9 (by omega)
        have h_46 := ir_s_g hI hs (j := 4 * k9) (by omega)
        have h_47 : c s (4 * k9) = c s (4 * k9) := rfl
        have h_48 := ir_s_g hI hs (j := 4 * k9 + 1) (by omega)
        have h_49 : c s (4 * k9 + 1) = c s (4 * k9 + 1) := rfl
        have h_50 := ir_s_g hI hs (j := 4 * k9 + 2) (by omega)
        have h_51 : c s (4 * k9 + 2) = c s (4 * k9 + 2) := rfl
        have h_52 := ir_s_g hI hs (j := 4 * k9 + 3) (by omega)
        have h_53 : c s (4 * k9 + 3) = c s (4 * k9 + 3) := rfl
        omega
      have hI_54 := iv_close hIo hr_34
      exact K c 0 hI_54 (fun a j hm => rfl) ⟨by decide, by decide⟩
    · refine v_ic_lt_f (t := 23) rfl (by decide) (by omega) ?_
      refine q_aload_n rfl rfl ?_
      refine q_iload_n rfl rfl ?_
      refine q_iload_n rfl rfl ?_
      refine v_cv rfl rfl rfl (ck_sh hs) (by omega) ⟨⟨rfl, rfl⟩, by decide, rfl⟩ (Nat.le_of_ble_eq_true rfl) (Nat.le_of_ble_eq_true rfl) ?_
      refine q_aload_n rfl rfl ?_
      refine q_iload_n rfl rfl ?_
      refine v_cv rfl rfl rfl (ck_sh hs) (by omega) ⟨⟨rfl, rfl⟩, by decide, rfl⟩ (Nat.le_of_ble_eq_true rfl) (Nat.le_of_ble_eq_true rfl) (s_43 (v1 := c s (4 * a2)) (v2 := c s (4 * a2 + 1)) (v3 := c s (4 * a2 + 2)) (v4 := c s (4 * a2 + 3)) (r := c s (4 * a2 + 1) + c s (4 * a2 + 2) + c s (4 * a2 + 3) + c s (4 * a2)) (a1 := a2) hIo hs (show 0 ≤ a2 ∧ a2 ≤ 5 from by omega) (rfl) (rfl) (rfl) (rfl) (by omega) ?_)
      refine bk_inl ?_
      refine q_iload_n rfl rfl ?_
      refine v_iadd (v := a3 + c s (4 * a2 + 1) + c s (4 * a2 + 2) + c s (4 * a2 + 3) + c s (4 * a2)) rfl (by omega) ?_
      refine v_sip rfl (by decide) ?_
      by_cases h_55 : a3 + c s (4 * a2 + 1) + c s (4 * a2 + 2) + c s (4 * a2 + 3) + c s (4 * a2) > 9999
      · refine v_ic_gt_t (t := 17) rfl (by decide) (by omega) ?_
        refine q_iconst rfl ?_
        refine v_zret rfl rfl (by omega) ?_
        refine bk_inl ?_
        refine v_if_ne_f (t := 25) rfl (by decide) (by decide) ?_
        refine q_iconst rfl ?_
        refine v_zret rfl rfl (by omega) ?_
        have hr_56 : ∀ j : Int, rs s j → c s j + c s (j + 1) + c s (j + 2) + c s (j + 3) ≤ 9999 := by
          intro j9 hj9
          obtain ⟨k9, rfl, hk9⟩ := rs_s hs hj9
          by_cases e_57 : k9 = a1
          · skip
            have h_58 : c s (4 * k9) = c s (4 * a1) := (congrArg (c s) (show 4 * k9 = 4 * a1 from by omega))
            have h_59 : c s (4 * k9 + 1) = c s (4 * a1 + 1) := (congrArg (c s) (show 4 * k9 + 1 = 4 * a1 + 1 from by omega))
            have h_60 : c s (4 * k9 + 2) = c s (4 * a1 + 2) := (congrArg (c s) (show 4 * k9 + 2 = 4 * a1 + 2 from by omega))
            have h_61 : c s (4 * k9 + 3) = c s (4 * a1 + 3) := (congrArg (c s) (show 4 * k9 + 3 = 4 * a1 + 3 from by omega))
            omega
          by_cases e_62 : k9 = a2
          · skip
            have h_63 : c s (4 * k9) = c s (4 * a2) := (congrArg (c s) (show 4 * k9 = 4 * a2 from by omega))
            have h_64 : c s (4 * k9 + 1) = c s (4 * a2 + 1) := (congrArg (c s) (show 4 * k9 + 1 = 4 * a2 + 1 from by omega))
            have h_65 : c s (4 * k9 + 2) = c s (4 * a2 + 2) := (congrArg (c s) (show 4 * k9 + 2 = 4 * a2 + 2 from by omega))
            have h_66 : c s (4 * k9 + 3) = c s (4 * a2 + 3) := (congrArg (c s) (show 4 * k9 + 3 = 4 * a2 + 3 from by omega))
            omega
          have h_67 := iv_r hI s (4 * k9) hj9 (by omega)
          have h_68 := ir_s_g hI hs (j := 4 * k9) (by omega)
          have h_69 : c s (4 * k9) = c s (4 * k9) := rfl
          have h_70 := ir_s_g hI hs (j := 4 * k9 + 1) (by omega)
          have h_71 : c s (4 * k9 + 1) = c s (4 * k9 + 1) := rfl
          have h_72 := ir_s_g hI hs (j := 4 * k9 + 2) (by omega)
          have h_73 : c s (4 * k9 + 2) = c s (4 * k9 + 2) := rfl
          have h_74 := ir_s_g hI hs (j := 4 * k9 + 3) (by omega)
          have h_75 : c s (4 * k9 + 3) = c s (4 * k9 + 3) := rfl
          omega
        have hI_76 := iv_close hIo hr_56
        exact K c 0 hI_76 (fun a j hm => rfl) ⟨by decide, by decide⟩
      · refine v_ic_gt_f (t := 17) rfl (by decide) (by omega) ?_
        refine q_iconst rfl ?_
        refine q_goto (t := 18) rfl (by decide) ?_
        refine v_zret rfl rfl (by omega) ?_
        refine bk_inl ?_
        refine v_if_ne_t (t := 25) rfl (by decide) (by decide) ?_
        refine q_iload_n rfl rfl ?_
        refine q_istore rfl (by decide) ?_
        refine q_iconst rfl ?_
        refine q_istore rfl (by decide) ?_
        refine q_iload rfl rfl ?_
        refine q_iconst rfl ?_
        refine v_ic_ge_f (t := 74) rfl (by decide) (by decide) ?_
        refine q_iload rfl rfl ?_
        refine q_aload_n rfl rfl ?_
        refine q_iload_n rfl rfl ?_
        refine q_iload rfl rfl ?_
        refine v_cv rfl rfl rfl (ck_sh hs) (by omega) ⟨⟨rfl, rfl⟩, by decide, rfl⟩ (Nat.le_of_ble_eq_true rfl) (Nat.le_of_ble_eq_true rfl) (s_45 (v1 := c s (4 * a1)) (r := c s (4 * a1)) (a1 := a1) (a2 := 0) hIo hs (show 0 ≤ a1 ∧ a1 ≤ 5 from by omega) (show 0 ≤ 0 ∧ 0 ≤ 3 from by omega) ((congrArg (c s) (show 4 * a1 + 0 = 4 * a1 from by omega))) (by omega) ?_)
        refine bk_inl ?_
        refine v_minx rfl rfl (by omega) (Nat.le_of_ble_eq_true rfl) ⟨by omega, by omega, by omega, by omega⟩ (fun y_77 hy_77 => ?_)
        refine q_istore rfl (by decide) ?_
        refine q_aload_n rfl rfl ?_
        refine q_iload_n rfl rfl ?_
        refine q_iload_n rfl rfl ?_
        refine q_iload rfl rfl ?_
        refine q_iload rfl rfl ?_
        refine v_cv rfl rfl rfl (ck_sh hs) (by omega) ⟨⟨rfl, rfl⟩, by decide, rfl⟩ (Nat.le_of_ble_eq_true rfl) (Nat.le_of_ble_eq_true rfl) (s_52 (a1 := a1) (a2 := a2) (a3 := 0) (a4 := y_77) hIo hs (show 0 ≤ a1 ∧ a1 ≤ 5 from by omega) (show 0 ≤ a2 ∧ a2 ≤ 5 from by omega) (show 0 ≤ 0 ∧ 0 ≤ 3 from by omega) (show 0 ≤ y_77 ∧ y_77 ≤ 9999 from by omega) (by omega) (by omega) (by omega) (fun c_78 hI_79 hF_80 h_81 => ?_))
        refine bk_inl ?_
        have h_82 : c_78 s (4 * a1 + 0) = c_78 s (4 * a1) := congrArg (c_78 s) (by omega)
        have h_83 := ir_s_g hI_79 hs (j := 4 * a1) (by omega)
        have h_84 : c_78 s (4 * a2 + 0) = c_78 s (4 * a2) := congrArg (c_78 s) (by omega)
        have h_85 := ir_s_g hI_79 hs (j := 4 * a2) (by omega)
        refine q_iload rfl rfl ?_
        refine q_iload rfl rfl ?_
        refine v_isub (v := a3 - y_77) rfl (by omega) ?_
        refine q_istore rfl (by decide) ?_
        refine v_iinc (v := 1) rfl rfl (by decide) (by decide) ?_
        refine Wp_ls [(5, vi 1), (4, vi (a3 - y_77)), (6, vi y_77), (0, .ref sh), (1, vi a1), (2, vi a2), (3, vi a3)] (lsub_cons rfl (lsub_cons rfl (lsub_cons rfl (lsub_cons rfl (lsub_cons rfl (lsub_cons rfl (lsub_cons rfl lsub_nil))))))) ?_
        refine q_goto (t := 31) rfl (by decide) ?_
        refine q_iload rfl rfl ?_
        refine q_iconst rfl ?_
        refine v_ic_ge_f (t := 74) rfl (by decide) (by decide) ?_
        refine q_iload rfl rfl ?_
        refine q_aload_n rfl rfl ?_
        refine q_iload_n rfl rfl ?_
        refine q_iload rfl rfl ?_
        refine v_cv rfl rfl rfl (ck_sh hs) (by omega) ⟨⟨rfl, rfl⟩, by decide, rfl⟩ (Nat.le_of_ble_eq_true rfl) (Nat.le_of_ble_eq_true rfl) (s_45 (v1 := c s (4 * a1 + 1)) (r := c s (4 * a1 + 1)) (a1 := a1) (a2 := 1) hI_79 hs (show 0 ≤ a1 ∧ a1 ≤ 5 from by omega) (show 0 ≤ 1 ∧ 1 ≤ 3 from by omega) ((hF_80 s (4 * a1 + 1) (by omega))) (by omega) ?_)
        refine bk_inl ?_
        refine v_minx rfl rfl (by omega) (Nat.le_of_ble_eq_true rfl) ⟨by omega, by omega, by omega, by omega⟩ (fun y_86 hy_86 => ?_)
        refine q_istore rfl (by decide) ?_
        refine q_aload_n rfl rfl ?_
        refine q_iload_n rfl rfl ?_
        refine q_iload_n rfl rfl ?_
        refine q_iload rfl rfl ?_
        refine q_iload rfl rfl ?_
        have h_87 : c_78 s (4 * a1 + 1) = c s (4 * a1 + 1) := (hF_80 s (4 * a1 + 1) (by omega))
        have h_88 : c_78 s (4 * a2 + 1) = c s (4 * a2 + 1) := (hF_80 s (4 * a2 + 1) (by omega))
        refine v_cv rfl rfl rfl (ck_sh hs) (by omega) ⟨⟨rfl, rfl⟩, by decide, rfl⟩ (Nat.le_of_ble_eq_true rfl) (Nat.le_of_ble_eq_true rfl) (s_52 (a1 := a1) (a2 := a2) (a3 := 1) (a4 := y_86) hI_79 hs (show 0 ≤ a1 ∧ a1 ≤ 5 from by omega) (show 0 ≤ a2 ∧ a2 ≤ 5 from by omega) (show 0 ≤ 1 ∧ 1 ≤ 3 from by omega) (show 0 ≤ y_86 ∧ y_86 ≤ 9999 from by omega) (by omega) (by omega) (by omega) (fun c_89 hI_90 hF_91 h_92 => ?_))
        refine bk_inl ?_
        have h_93 := ir_s_g hI_90 hs (j := 4 * a1 + 1) (by omega)
        have h_94 := ir_s_g hI_90 hs (j := 4 * a2 + 1) (by omega)
        refine q_iload rfl rfl ?_
        refine q_iload rfl rfl ?_
        refine v_isub (v := a3 - y_77 - y_86) rfl (by omega) ?_
        refine q_istore rfl (by decide) ?_
        refine v_iinc (v := 2) rfl rfl (by decide) (by decide) ?_
        refine q_goto (t := 31) rfl (by decide) ?_
        refine q_iload rfl rfl ?_
        refine q_iconst rfl ?_
        refine v_ic_ge_f (t := 74) rfl (by decide) (by decide) ?_
        refine q_iload rfl rfl ?_
        refine q_aload_n rfl rfl ?_
        refine q_iload_n rfl rfl ?_
        refine q_iload rfl rfl ?_
        refine v_cv rfl rfl rfl (ck_sh hs) (by omega) ⟨⟨rfl, rfl⟩, by decide, rfl⟩ (Nat.le_of_ble_eq_true rfl) (Nat.le_of_ble_eq_true rfl) (s_45 (v1 := c s (4 * a1 + 2)) (r := c s (4 * a1 + 2)) (a1 := a1) (a2 := 2) hI_90 hs (show 0 ≤ a1 ∧ a1 ≤ 5 from by omega) (show 0 ≤ 2 ∧ 2 ≤ 3 from by omega) (((hF_91 s (4 * a1 + 2) (by omega)).trans (hF_80 s (4 * a1 + 2) (by omega)))) (by omega) ?_)
        refine bk_inl ?_
        refine v_minx rfl rfl (by omega) (Nat.le_of_ble_eq_true rfl) ⟨by omega, by omega, by omega, by omega⟩ (fun y_95 hy_95 => ?_)
        refine q_istore rfl (by decide) ?_
        refine q_aload_n rfl rfl ?_
        refine q_iload_n rfl rfl ?_
        refine q_iload_n rfl rfl ?_
        refine q_iload rfl rfl ?_
        refine q_iload rfl rfl ?_
        have h_96 : c_89 s (4 * a1 + 2) = c s (4 * a1 + 2) := ((hF_91 s (4 * a1 + 2) (by omega)).trans (hF_80 s (4 * a1 + 2) (by omega)))
        have h_97 : c_89 s (4 * a2 + 2) = c s (4 * a2 + 2) := ((hF_91 s (4 * a2 + 2) (by omega)).trans (hF_80 s (4 * a2 + 2) (by omega)))
        refine v_cv rfl rfl rfl (ck_sh hs) (by omega) ⟨⟨rfl, rfl⟩, by decide, rfl⟩ (Nat.le_of_ble_eq_true rfl) (Nat.le_of_ble_eq_true rfl) (s_52 (a1 := a1) (a2 := a2) (a3 := 2) (a4 := y_95) hI_90 hs (show 0 ≤ a1 ∧ a1 ≤ 5 from by omega) (show 0 ≤ a2 ∧ a2 ≤ 5 from by omega) (show 0 ≤ 2 ∧ 2 ≤ 3 from by omega) (show 0 ≤ y_95 ∧ y_95 ≤ 9999 from by omega) (by omega) (by omega) (by omega) (fun c_98 hI_99 hF_100 h_101 => ?_))
        refine bk_inl ?_
        have h_102 := ir_s_g hI_99 hs (j := 4 * a1 + 2) (by omega)
        have h_103 := ir_s_g hI_99 hs (j := 4 * a2 + 2) (by omega)
        refine q_iload rfl rfl ?_
        refine q_iload rfl rfl ?_
        refine v_isub (v := a3 - y_77 - y_86 - y_95) rfl (by omega) ?_
        refine q_istore rfl (by decide) ?_
        refine Wp_ls [(4, vi (a3 - y_77 - y_86 - y_95)), (6, vi y_95), (5, vi 2), (0, .ref sh), (1, vi a1), (2, vi a2), (3, vi a3)] (lsub_cons rfl (lsub_cons rfl (lsub_cons rfl (lsub_cons rfl (lsub_cons rfl (lsub_cons rfl (lsub_cons rfl lsub_nil))))))) ?_
        refine v_iinc (v := 3) rfl rfl (by decide) (by decide) ?_
        refine q_goto (t := 31) rfl (by decide) ?_
        refine q_iload rfl rfl ?_
        refine q_iconst rfl ?_
        refine v_ic_ge_f (t := 74) rfl (by decide) (by decide) ?_
        refine q_iload rfl rfl ?_
        refine q_aload_n rfl rfl ?_
        refine q_iload_n rfl rfl ?_
        refine q_iload rfl rfl ?_
        refine v_cv rfl rfl rfl (ck_sh hs) (by omega) ⟨⟨rfl, rfl⟩, by decide, rfl⟩ (Nat.le_of_ble_eq_true rfl) (Nat.le_of_ble_eq_true rfl) (s_45 (v1 := c s (4 * a1 + 3)) (r := c s (4 * a1 + 3)) (a1 := a1) (a2 := 3) hI_99 hs (show 0 ≤ a1 ∧ a1 ≤ 5 from by omega) (show 0 ≤ 3 ∧ 3 ≤ 3 from by omega) (((hF_100 s (4 * a1 + 3) (by omega)).trans ((hF_91 s (4 * a1 + 3) (by omega)).trans (hF_80 s (4 * a1 + 3) (by omega))))) (by omega) ?_)
        refine bk_inl ?_
        refine v_minx rfl rfl (by omega) (Nat.le_of_ble_eq_true rfl) ⟨by omega, by omega, by omega, by omega⟩ (fun y_104 hy_104 => ?_)
        refine q_istore rfl (by decide) ?_
        refine q_aload_n rfl rfl ?_
        refine q_iload_n rfl rfl ?_
        refine q_iload_n rfl rfl ?_
        refine q_iload rfl rfl ?_
        refine q_iload rfl rfl ?_
        have h_105 : c_98 s (4 * a1 + 3) = c s (4 * a1 + 3) := ((hF_100 s (4 * a1 + 3) (by omega)).trans ((hF_91 s (4 * a1 + 3) (by omega)).trans (hF_80 s (4 * a1 + 3) (by omega))))
        have h_106 : c_98 s (4 * a2 + 3) = c s (4 * a2 + 3) := ((hF_100 s (4 * a2 + 3) (by omega)).trans ((hF_91 s (4 * a2 + 3) (by omega)).trans (hF_80 s (4 * a2 + 3) (by omega))))
        refine v_cv rfl rfl rfl (ck_sh hs) (by omega) ⟨⟨rfl, rfl⟩, by decide, rfl⟩ (Nat.le_of_ble_eq_true rfl) (Nat.le_of_ble_eq_true rfl) (s_52 (a1 := a1) (a2 := a2) (a3 := 3) (a4 := y_104) hI_99 hs (show 0 ≤ a1 ∧ a1 ≤ 5 from by omega) (show 0 ≤ a2 ∧ a2 ≤ 5 from by omega) (show 0 ≤ 3 ∧ 3 ≤ 3 from by omega) (show 0 ≤ y_104 ∧ y_104 ≤ 9999 from by omega) (by omega) (by omega) (by omega) (fun c_107 hI_108 hF_109 h_110 => ?_))
        refine bk_inl ?_
        have h_111 := ir_s_g hI_108 hs (j := 4 * a1 + 3) (by omega)
        have h_112 := ir_s_g hI_108 hs (j := 4 * a2 + 3) (by omega)
        refine q_iload rfl rfl ?_
        refine q_iload rfl rfl ?_
        refine v_isub (v := a3 - y_104 - y_77 - y_86 - y_95) rfl (by omega) ?_
        refine q_istore rfl (by decide) ?_
        refine v_iinc (v := 4) rfl rfl (by decide) (by decide) ?_
        refine q_goto (t := 31) rfl (by decide) ?_
        refine q_iload rfl rfl ?_
        refine q_iconst rfl ?_
        refine v_ic_ge_t (t := 74) rfl (by decide) (by decide) ?_
        refine q_aload_n rfl rfl ?_
        refine q_iload_n rfl rfl ?_
        refine v_cv rfl rfl rfl (ck_sh hs) (by omega) ⟨⟨rfl, rfl⟩, by decide, rfl⟩ (Nat.le_of_ble_eq_true rfl) (Nat.le_of_ble_eq_true rfl) (s_43 (v1 := c_78 s (4 * a1)) (v2 := c_89 s (4 * a1 + 1)) (v3 := c_98 s (4 * a1 + 2)) (v4 := c_107 s (4 * a1 + 3)) (r := c_107 s (4 * a1 + 3) + c_78 s (4 * a1) + c_89 s (4 * a1 + 1) + c_98 s (4 * a1 + 2)) (a1 := a1) hI_108 hs (show 0 ≤ a1 ∧ a1 ≤ 5 from by omega) (((hF_109 s (4 * a1) (by omega)).trans ((hF_100 s (4 * a1) (by omega)).trans (hF_91 s (4 * a1) (by omega))))) (((hF_109 s (4 * a1 + 1) (by omega)).trans (hF_100 s (4 * a1 + 1) (by omega)))) ((hF_109 s (4 * a1 + 2) (by omega))) (rfl) (by omega) ?_)
        refine bk_inl ?_
        by_cases h_113 : c_107 s (4 * a1 + 3) + c_78 s (4 * a1) + c_89 s (4 * a1 + 1) + c_98 s (4 * a1 + 2) ≠ 0
        · refine v_if_ne_t (t := 92) rfl (by decide) (by omega) ?_
          refine q_iconst rfl ?_
          refine v_zret rfl rfl (by omega) ?_
          have hr_114 : ∀ j : Int, rs s j → c_107 s j + c_107 s (j + 1) + c_107 s (j + 2) + c_107 s (j + 3) ≤ 9999 := by
            intro j9 hj9
            obtain ⟨k9, rfl, hk9⟩ := rs_s hs hj9
            by_cases e_115 : k9 = a1
            · skip
              have h_116 : c_107 s (4 * k9) = c_78 s (4 * a1) := (congrArg (c_107 s) (show 4 * k9 = 4 * a1 from by omega)).trans ((hF_109 s (4 * a1) (by omega)).trans ((hF_100 s (4 * a1) (by omega)).trans (hF_91 s (4 * a1) (by omega))))
              have h_117 : c_107 s (4 * k9 + 1) = c_89 s (4 * a1 + 1) := (congrArg (c_107 s) (show 4 * k9 + 1 = 4 * a1 + 1 from by omega)).trans ((hF_109 s (4 * a1 + 1) (by omega)).trans (hF_100 s (4 * a1 + 1) (by omega)))
              have h_118 : c_107 s (4 * k9 + 2) = c_98 s (4 * a1 + 2) := (congrArg (c_107 s) (show 4 * k9 + 2 = 4 * a1 + 2 from by omega)).trans (hF_109 s (4 * a1 + 2) (by omega))
              have h_119 : c_107 s (4 * k9 + 3) = c_107 s (4 * a1 + 3) := (congrArg (c_107 s) (show 4 * k9 + 3 = 4 * a1 + 3 from by omega))
              omega
            by_cases e_120 : k9 = a2
            · skip
              have h_121 : c_107 s (4 * k9) = c_78 s (4 * a2) := (congrArg (c_107 s) (show 4 * k9 = 4 * a2 from by omega)).trans ((hF_109 s (4 * a2) (by omega)).trans ((hF_100 s (4 * a2) (by omega)).trans (hF_91 s (4 * a2) (by omega))))
              have h_122 : c_107 s (4 * k9 + 1) = c_89 s (4 * a2 + 1) := (congrArg (c_107 s) (show 4 * k9 + 1 = 4 * a2 + 1 from by omega)).trans ((hF_109 s (4 * a2 + 1) (by omega)).trans (hF_100 s (4 * a2 + 1) (by omega)))
              have h_123 : c_107 s (4 * k9 + 2) = c_98 s (4 * a2 + 2) := (congrArg (c_107 s) (show 4 * k9 + 2 = 4 * a2 + 2 from by omega)).trans (hF_109 s (4 * a2 + 2) (by omega))
              have h_124 : c_107 s (4 * k9 + 3) = c_107 s (4 * a2 + 3) := (congrArg (c_107 s) (show 4 * k9 + 3 = 4 * a2 + 3 from by omega))
              omega
            have h_125 := iv_r hI s (4 * k9) hj9 (by omega)
            have h_126 := ir_s_g hI hs (j := 4 * k9) (by omega)
            have h_127 : c_107 s (4 * k9) = c s (4 * k9) := ((hF_109 s (4 * k9) (by omega)).trans ((hF_100 s (4 * k9) (by omega)).trans ((hF_91 s (4 * k9) (by omega)).trans (hF_80 s (4 * k9) (by omega)))))
            have h_128 := ir_s_g hI hs (j := 4 * k9 + 1) (by omega)
            have h_129 : c_107 s (4 * k9 + 1) = c s (4 * k9 + 1) := ((hF_109 s (4 * k9 + 1) (by omega)).trans ((hF_100 s (4 * k9 + 1) (by omega)).trans ((hF_91 s (4 * k9 + 1) (by omega)).trans (hF_80 s (4 * k9 + 1) (by omega)))))
            have h_130 := ir_s_g hI hs (j := 4 * k9 + 2) (by omega)
            have h_131 : c_107 s (4 * k9 + 2) = c s (4 * k9 + 2) := ((hF_109 s (4 * k9 + 2) (by omega)).trans ((hF_100 s (4 * k9 + 2) (by omega)).trans ((hF_91 s (4 * k9 + 2) (by omega)).trans (hF_80 s (4 * k9 + 2) (by omega)))))
            have h_132 := ir_s_g hI hs (j := 4 * k9 + 3) (by omega)
            have h_133 : c_107 s (4 * k9 + 3) = c s (4 * k9 + 3) := ((hF_109 s (4 * k9 + 3) (by omega)).trans ((hF_100 s (4 * k9 + 3) (by omega)).trans ((hF_91 s (4 * k9 + 3) (by omega)).trans (hF_80 s (4 * k9 + 3) (by omega)))))
            omega
          have hI_134 := iv_close hI_108 hr_114
          exact K c_107 1 hI_134 (fun a j hm => (hF_109 a j (by omega)).trans ((hF_100 a j (by omega)).trans ((hF_91 a j (by omega)).trans (hF_80 a j (by omega))))) ⟨by decide, by decide⟩
        · refine v_if_ne_f (t := 92) rfl (by decide) (by omega) ?_
          refine q_aload_n rfl rfl ?_
          refine v_gr (t := s) rfl rfl (ck_sh hs) (by omega) rfl ?_
          refine v_bip rfl (by decide) ?_
          refine q_iload_n rfl rfl ?_
          refine v_iadd (v := a1 + 24) rfl (by omega) ?_
          refine q_iconst rfl ?_
          refine v_is rfl (ck_s hs) (by omega) (by decide) (by omega) ?_
          refine q_iconst rfl ?_
          refine v_zret rfl rfl (by omega) ?_
          have hI_135 := iw_row (a := s) (j := a1 + 24) (v := 0) hI_108 (by omega) (Or.inl rfl) ⟨by omega, by omega, by omega⟩
          have hr_136 : ∀ j : Int, rs s j → (up c_107 s (a1 + 24) 0) s j + (up c_107 s (a1 + 24) 0) s (j + 1) + (up c_107 s (a1 + 24) 0) s (j + 2) + (up c_107 s (a1 + 24) 0) s (j + 3) ≤ 9999 := by
            intro j9 hj9
            obtain ⟨k9, rfl, hk9⟩ := rs_s hs hj9
            by_cases e_137 : k9 = a1
            · skip
              have h_138 : (up c_107 s (a1 + 24) 0) s (4 * k9) = c_78 s (4 * a1) := (congrArg ((up c_107 s (a1 + 24) 0) s) (show 4 * k9 = 4 * a1 from by omega)).trans ((up_n (by omega)).trans ((hF_109 s (4 * a1) (by omega)).trans ((hF_100 s (4 * a1) (by omega)).trans (hF_91 s (4 * a1) (by omega)))))
              have h_139 : (up c_107 s (a1 + 24) 0) s (4 * k9 + 1) = c_89 s (4 * a1 + 1) := (congrArg ((up c_107 s (a1 + 24) 0) s) (show 4 * k9 + 1 = 4 * a1 + 1 from by omega)).trans ((up_n (by omega)).trans ((hF_109 s (4 * a1 + 1) (by omega)).trans (hF_100 s (4 * a1 + 1) (by omega))))
              have h_140 : (up c_107 s (a1 + 24) 0) s (4 * k9 + 2) = c_98 s (4 * a1 + 2) := (congrArg ((up c_107 s (a1 + 24) 0) s) (show 4 * k9 + 2 = 4 * a1 + 2 from by omega)).trans ((up_n (by omega)).trans (hF_109 s (4 * a1 + 2) (by omega)))
              have h_141 : (up c_107 s (a1 + 24) 0) s (4 * k9 + 3) = c_107 s (4 * a1 + 3) := (congrArg ((up c_107 s (a1 + 24) 0) s) (show 4 * k9 + 3 = 4 * a1 + 3 from by omega)).trans (up_n (by omega))
              omega
            by_cases e_142 : k9 = a2
            · skip
              have h_143 : (up c_107 s (a1 + 24) 0) s (4 * k9) = c_78 s (4 * a2) := (congrArg ((up c_107 s (a1 + 24) 0) s) (show 4 * k9 = 4 * a2 from by omega)).trans ((up_n (by omega)).trans ((hF_109 s (4 * a2) (by omega)).trans ((hF_100 s (4 * a2) (by omega)).trans (hF_91 s (4 * a2) (by omega)))))
              have h_144 : (up c_107 s (a1 + 24) 0) s (4 * k9 + 1) = c_89 s (4 * a2 + 1) := (congrArg ((up c_107 s (a1 + 24) 0) s) (show 4 * k9 + 1 = 4 * a2 + 1 from by omega)).trans ((up_n (by omega)).trans ((hF_109 s (4 * a2 + 1) (by omega)).trans (hF_100 s (4 * a2 + 1) (by omega))))
              have h_145 : (up c_107 s (a1 + 24) 0) s (4 * k9 + 2) = c_98 s (4 * a2 + 2) := (congrArg ((up c_107 s (a1 + 24) 0) s) (show 4 * k9 + 2 = 4 * a2 + 2 from by omega)).trans ((up_n (by omega)).trans (hF_109 s (4 * a2 + 2) (by omega)))
              have h_146 : (up c_107 s (a1 + 24) 0) s (4 * k9 + 3) = c_107 s (4 * a2 + 3) := (congrArg ((up c_107 s (a1 + 24) 0) s) (show 4 * k9 + 3 = 4 * a2 + 3 from by omega)).trans (up_n (by omega))
              omega
            have h_147 := iv_r hI s (4 * k9) hj9 (by omega)
            have h_148 := ir_s_g hI hs (j := 4 * k9) (by omega)
            have h_149 : (up c_107 s (a1 + 24) 0) s (4 * k9) = c s (4 * k9) := ((up_n (by omega)).trans ((hF_109 s (4 * k9) (by omega)).trans ((hF_100 s (4 * k9) (by omega)).trans ((hF_91 s (4 * k9) (by omega)).trans (hF_80 s (4 * k9) (by omega))))))
            have h_150 := ir_s_g hI hs (j := 4 * k9 + 1) (by omega)
            have h_151 : (up c_107 s (a1 + 24) 0) s (4 * k9 + 1) = c s (4 * k9 + 1) := ((up_n (by omega)).trans ((hF_109 s (4 * k9 + 1) (by omega)).trans ((hF_100 s (4 * k9 + 1) (by omega)).trans ((hF_91 s (4 * k9 + 1) (by omega)).trans (hF_80 s (4 * k9 + 1) (by omega))))))
            have h_152 := ir_s_g hI hs (j := 4 * k9 + 2) (by omega)
            have h_153 : (up c_107 s (a1 + 24) 0) s (4 * k9 + 2) = c s (4 * k9 + 2) := ((up_n (by omega)).trans ((hF_109 s (4 * k9 + 2) (by omega)).trans ((hF_100 s (4 * k9 + 2) (by omega)).trans ((hF_91 s (4 * k9 + 2) (by omega)).trans (hF_80 s (4 * k9 + 2) (by omega))))))
            have h_154 := ir_s_g hI hs (j := 4 * k9 + 3) (by omega)
            have h_155 : (up c_107 s (a1 + 24) 0) s (4 * k9 + 3) = c s (4 * k9 + 3) := ((up_n (by omega)).trans ((hF_109 s (4 * k9 + 3) (by omega)).trans ((hF_100 s (4 * k9 + 3) (by omega)).trans ((hF_91 s (4 * k9 + 3) (by omega)).trans (hF_80 s (4 * k9 + 3) (by omega))))))
            omega
          have hI_156 := iv_close hI_135 hr_136
          exact K (up c_107 s (a1 + 24) 0) 1 hI_156 (fun a j hm => (up_b (by omega)).trans ((hF_109 a j (by omega)).trans ((hF_100 a j (by omega)).trans ((hF_91 a j (by omega)).trans (hF_80 a j (by omega)))))) ⟨by decide, by decide⟩

