/-! ===== contracts 16 ===== -/
set_option maxRecDepth 100000 in
set_option maxHeartbeats 4000000 in
theorem s_193 {sc : List Int32} {d P Q : Nat} {c : ME} {a1 : Int} {a2 : Int} {a3 : Int} {a4 : Int} {Z : AR → Prop} (hI : Iv 0 (-1) P Q c) (ha1 : 0 ≤ a1 ∧ a1 ≤ 3) (ha2 : 0 ≤ a2 ∧ a2 ≤ 5) (ha3 : 0 ≤ a3 ∧ a3 ≤ 5) (ha4 : 0 ≤ a4 ∧ a4 ≤ 5) (K : ∀ (c2 : ME) (y : Int), Iv 0 (-1) P Q c2 → (∀ (a : Nat) (j : Int), ¬ (a = 59) → c2 a j = c a j) → 0 ≤ y ∧ y ≤ 1 → Z (.inl (some (vi y)), Wd P Q P P c2, 0, 0)) : Wp sc (d + 9) 193 0 [(0, .ref 41), (1, vi a1), (2, vi a2), (3, vi a3), (4, vi a4)] [] (Wd P Q P P c) 0 0 Z := by
  have hP := iv_P hI
  have hQ := iv_Q hI
  have hIo : Iv 59 (-1) P Q c := iv_open hI
  have hsum_1 := ir_59_r hI (by decide) (j := a2) (by omega)
  have h_2 := ir_59_g hI (j := 4 * a2) (by omega)
  have h_3 := ir_59_g hI (j := 4 * a2 + 1) (by omega)
  have h_4 := ir_59_g hI (j := 4 * a2 + 2) (by omega)
  have h_5 := ir_59_g hI (j := 4 * a2 + 3) (by omega)
  have hsum_6 := ir_59_r hI (by decide) (j := a3) (by omega)
  have h_7 := ir_59_g hI (j := 4 * a3) (by omega)
  have h_8 := ir_59_g hI (j := 4 * a3 + 1) (by omega)
  have h_9 := ir_59_g hI (j := 4 * a3 + 2) (by omega)
  have h_10 := ir_59_g hI (j := 4 * a3 + 3) (by omega)
  have hsum_11 := ir_59_r hI (by decide) (j := a4) (by omega)
  have h_12 := ir_59_g hI (j := 4 * a4) (by omega)
  have h_13 := ir_59_g hI (j := 4 * a4 + 1) (by omega)
  have h_14 := ir_59_g hI (j := 4 * a4 + 2) (by omega)
  have h_15 := ir_59_g hI (j := 4 * a4 + 3) (by omega)
  refine q_aload_n rfl rfl ?_
  refine q_iload_n rfl rfl ?_
  refine v_cv rfl rfl rfl rfl (by decide) ⟨⟨rfl, rfl⟩, by decide, rfl⟩ (Nat.le_of_ble_eq_true rfl) (Nat.le_of_ble_eq_true rfl) (s_187 (v1 := c 59 (4 * a2)) (v2 := c 59 (4 * a2 + 1)) (v3 := c 59 (4 * a2 + 2)) (v4 := c 59 (4 * a2 + 3)) (r := c 59 (4 * a2 + 1) + c 59 (4 * a2 + 2) + c 59 (4 * a2 + 3) + c 59 (4 * a2)) (a1 := a2) hIo (show 0 ≤ a2 ∧ a2 ≤ 5 from by omega) (rfl) (rfl) (rfl) (rfl) (by omega) ?_)
  refine bk_inl ?_
  by_cases h_16 : c 59 (4 * a2 + 1) + c 59 (4 * a2 + 2) + c 59 (4 * a2 + 3) + c 59 (4 * a2) = 0
  · refine v_if_eq_t (t := 25) rfl (by decide) (by omega) ?_
    refine q_iconst rfl ?_
    refine v_zret rfl rfl (by omega) ?_
    have hr_17 : ∀ j : Int, rs 59 j → c 59 j + c 59 (j + 1) + c 59 (j + 2) + c 59 (j + 3) ≤ 9999 := by
      intro j9 hj9
      obtain ⟨k9, rfl, hk9⟩ := rs_59 hj9
      by_cases e_18 : k9 = a2
      · skip
        have h_19 : c 59 (4 * k9) = c 59 (4 * a2) := (congrArg (c 59) (show 4 * k9 = 4 * a2 from by omega))
        have h_20 : c 59 (4 * k9 + 1) = c 59 (4 * a2 + 1) := (congrArg (c 59) (show 4 * k9 + 1 = 4 * a2 + 1 from by omega))
        have h_21 : c 59 (4 * k9 + 2) = c 59 (4 * a2 + 2) := (congrArg (c 59) (show 4 * k9 + 2 = 4 * a2 + 2 from by omega))
        have h_22 : c 59 (4 * k9 + 3) = c 59 (4 * a2 + 3) := (congrArg (c 59) (show 4 * k9 + 3 = 4 * a2 + 3 from by omega))
        omega
      by_cases e_23 : k9 = a3
      · skip
        have h_24 : c 59 (4 * k9) = c 59 (4 * a3) := (congrArg (c 59) (show 4 * k9 = 4 * a3 from by omega))
        have h_25 : c 59 (4 * k9 + 1) = c 59 (4 * a3 + 1) := (congrArg (c 59) (show 4 * k9 + 1 = 4 * a3 + 1 from by omega))
        have h_26 : c 59 (4 * k9 + 2) = c 59 (4 * a3 + 2) := (congrArg (c 59) (show 4 * k9 + 2 = 4 * a3 + 2 from by omega))
        have h_27 : c 59 (4 * k9 + 3) = c 59 (4 * a3 + 3) := (congrArg (c 59) (show 4 * k9 + 3 = 4 * a3 + 3 from by omega))
        omega
      by_cases e_28 : k9 = a4
      · skip
        have h_29 : c 59 (4 * k9) = c 59 (4 * a4) := (congrArg (c 59) (show 4 * k9 = 4 * a4 from by omega))
        have h_30 : c 59 (4 * k9 + 1) = c 59 (4 * a4 + 1) := (congrArg (c 59) (show 4 * k9 + 1 = 4 * a4 + 1 from by omega))
        have h_31 : c 59 (4 * k9 + 2) = c 59 (4 * a4 + 2) := (congrArg (c 59) (show 4 * k9 + 2 = 4 * a4 + 2 from by omega))
        have h_32 : c 59 (4 * k9 + 3) = c 59 (4 * a4 + 3) := (congrArg (c 59) (show 4 * k9 + 3 = 4 * a4 + 3 from by omega))
        omega
      have h_33 := iv_r hI 59 (4 * k9) hj9 (by omega)
      have h_34 := ir_59_g hI (j := 4 * k9) (by omega)
      have h_35 : c 59 (4 * k9) = c 59 (4 * k9) := rfl
      have h_36 := ir_59_g hI (j := 4 * k9 + 1) (by omega)
      have h_37 : c 59 (4 * k9 + 1) = c 59 (4 * k9 + 1) := rfl
      have h_38 := ir_59_g hI (j := 4 * k9 + 2) (by omega)
      have h_39 : c 59 (4 * k9 + 2) = c 59 (4 * k9 + 2) := rfl
      have h_40 := ir_59_g hI (j := 4 * k9 + 3) (by omega)
      have h_41 : c 59 (4 * k9 + 3) = c 59 (4 * k9 + 3) := rfl
      omega
    have hI_42 := iv_close hIo hr_17
    exact K c 0 hI_42 (fun a j hm => rfl) ⟨by decide, by decide⟩
  · refine v_if_eq_f (t := 25) rfl (by decide) (by omega) ?_
    refine q_iload_n rfl rfl ?_
    refine q_iload_n rfl rfl ?_
    by_cases h_43 : a2 = a3
    · refine v_ic_eq_t (t := 25) rfl (by decide) (by omega) ?_
      refine q_iconst rfl ?_
      refine v_zret rfl rfl (by omega) ?_
      have hr_44 : ∀ j : Int, rs 59 j → c 59 j + c 59 (j + 1) + c 59 (j + 2) + c 59 (j + 3) ≤ 9999 := by
        intro j9 hj9
        obtain ⟨k9, rfl, hk9⟩ := rs_59 hj9
        by_cases e_45 : k9 = a2
        · skip
          have h_46 : c 59 (4 * k9) = c 59 (4 * a2) := (congrArg (c 59) (show 4 * k9 = 4 * a2 from by omega))
          have h_47 : c 59 (4 * k9 + 1) = c 59 (4 * a2 + 1) := (congrArg (c 59) (show 4 * k9 + 1 = 4 * a2 + 1 from by omega))
          have h_48 : c 59 (4 * k9 + 2) = c 59 (4 * a2 + 2) := (congrArg (c 59) (show 4 * k9 + 2 = 4 * a2 + 2 from by omega))
          have h_49 : c 59 (4 * k9 + 3) = c 59 (4 * a2 + 3) := (congrArg (c 59) (show 4 * k9 + 3 = 4 * a2 + 3 from by omega))
          omega
        by_cases e_50 : k9 = a3
        · skip
          have h_51 : c 59 (4 * k9) = c 59 (4 * a3) := (congrArg (c 59) (show 4 * k9 = 4 * a3 from by omega))
          have h_52 : c 59 (4 * k9 + 1) = c 59 (4 * a3 + 1) := (congrArg (c 59) (show 4 * k9 + 1 = 4 * a3 + 1 from by omega))
          have h_53 : c 59 (4 * k9 + 2) = c 59 (4 * a3 + 2) := (congrArg (c 59) (show 4 * k9 + 2 = 4 * a3 + 2 from by omega))
          have h_54 : c 59 (4 * k9 + 3) = c 59 (4 * a3 + 3) := (congrArg (c 59) (show 4 * k9 + 3 = 4 * a3 + 3 from by omega))
          omega
        by_cases e_55 : k9 = a4
        · skip
          have h_56 : c 59 (4 * k9) = c 59 (4 * a4) := (congrArg (c 59) (show 4 * k9 = 4 * a4 from by omega))
          have h_57 : c 59 (4 * k9 + 1) = c 59 (4 * a4 + 1) := (congrArg (c 59) (show 4 * k9 + 1 = 4 * a4 + 1 from by omega))
          have h_58 : c 59 (4 * k9 + 2) = c 59 (4 * a4 + 2) := (congrArg (c 59) (show 4 * k9 + 2 = 4 * a4 + 2 from by omega))
          have h_59 : c 59 (4 * k9 + 3) = c 59 (4 * a4 + 3) := (congrArg (c 59) (show 4 * k9 + 3 = 4 * a4 + 3 from by omega))
          omega
        have h_60 := iv_r hI 59 (4 * k9) hj9 (by omega)
        have h_61 := ir_59_g hI (j := 4 * k9) (by omega)
        have h_62 : c 59 (4 * k9) = c 59 (4 * k9) := rfl
        have h_63 := ir_59_g hI (j := 4 * k9 + 1) (by omega)
        have h_64 : c 59 (4 * k9 + 1) = c 59 (4 * k9 + 1) := rfl
        have h_65 := ir_59_g hI (j := 4 * k9 + 2) (by omega)
        have h_66 : c 59 (4 * k9 + 2) = c 59 (4 * k9 + 2) := rfl
        have h_67 := ir_59_g hI (j := 4 * k9 + 3) (by omega)
        have h_68 : c 59 (4 * k9 + 3) = c 59 (4 * k9 + 3) := rfl
        omega
      have hI_69 := iv_close hIo hr_44
      exact K c 0 hI_69 (fun a j hm => rfl) ⟨by decide, by decide⟩
    · refine v_ic_eq_f (t := 25) rfl (by decide) (by omega) ?_
      refine q_iload_n rfl rfl ?_
      refine q_iload rfl rfl ?_
      by_cases h_70 : a2 = a4
      · refine v_ic_eq_t (t := 25) rfl (by decide) (by omega) ?_
        refine q_iconst rfl ?_
        refine v_zret rfl rfl (by omega) ?_
        have hr_71 : ∀ j : Int, rs 59 j → c 59 j + c 59 (j + 1) + c 59 (j + 2) + c 59 (j + 3) ≤ 9999 := by
          intro j9 hj9
          obtain ⟨k9, rfl, hk9⟩ := rs_59 hj9
          by_cases e_72 : k9 = a2
          · skip
            have h_73 : c 59 (4 * k9) = c 59 (4 * a2) := (congrArg (c 59) (show 4 * k9 = 4 * a2 from by omega))
            have h_74 : c 59 (4 * k9 + 1) = c 59 (4 * a2 + 1) := (congrArg (c 59) (show 4 * k9 + 1 = 4 * a2 + 1 from by omega))
            have h_75 : c 59 (4 * k9 + 2) = c 59 (4 * a2 + 2) := (congrArg (c 59) (show 4 * k9 + 2 = 4 * a2 + 2 from by omega))
            have h_76 : c 59 (4 * k9 + 3) = c 59 (4 * a2 + 3) := (congrArg (c 59) (show 4 * k9 + 3 = 4 * a2 + 3 from by omega))
            omega
          by_cases e_77 : k9 = a3
          · skip
            have h_78 : c 59 (4 * k9) = c 59 (4 * a3) := (congrArg (c 59) (show 4 * k9 = 4 * a3 from by omega))
            have h_79 : c 59 (4 * k9 + 1) = c 59 (4 * a3 + 1) := (congrArg (c 59) (show 4 * k9 + 1 = 4 * a3 + 1 from by omega))
            have h_80 : c 59 (4 * k9 + 2) = c 59 (4 * a3 + 2) := (congrArg (c 59) (show 4 * k9 + 2 = 4 * a3 + 2 from by omega))
            have h_81 : c 59 (4 * k9 + 3) = c 59 (4 * a3 + 3) := (congrArg (c 59) (show 4 * k9 + 3 = 4 * a3 + 3 from by omega))
            omega
          by_cases e_82 : k9 = a4
          · skip
            have h_83 : c 59 (4 * k9) = c 59 (4 * a4) := (congrArg (c 59) (show 4 * k9 = 4 * a4 from by omega))
            have h_84 : c 59 (4 * k9 + 1) = c 59 (4 * a4 + 1) := (congrArg (c 59) (show 4 * k9 + 1 = 4 * a4 + 1 from by omega))
            have h_85 : c 59 (4 * k9 + 2) = c 59 (4 * a4 + 2) := (congrArg (c 59) (show 4 * k9 + 2 = 4 * a4 + 2 from by omega))
            have h_86 : c 59 (4 * k9 + 3) = c 59 (4 * a4 + 3) := (congrArg (c 59) (show 4 * k9 + 3 = 4 * a4 + 3 from by omega))
            omega
          have h_87 := iv_r hI 59 (4 * k9) hj9 (by omega)
          have h_88 := ir_59_g hI (j := 4 * k9) (by omega)
          have h_89 : c 59 (4 * k9) = c 59 (4 * k9) := rfl
          have h_90 := ir_59_g hI (j := 4 * k9 + 1) (by omega)
          have h_91 : c 59 (4 * k9 + 1) = c 59 (4 * k9 + 1) := rfl
          have h_92 := ir_59_g hI (j := 4 * k9 + 2) (by omega)
          have h_93 : c 59 (4 * k9 + 2) = c 59 (4 * k9 + 2) := rfl
          have h_94 := ir_59_g hI (j := 4 * k9 + 3) (by omega)
          have h_95 : c 59 (4 * k9 + 3) = c 59 (4 * k9 + 3) := rfl
          omega
        have hI_96 := iv_close hIo hr_71
        exact K c 0 hI_96 (fun a j hm => rfl) ⟨by decide, by decide⟩
      · refine v_ic_eq_f (t := 25) rfl (by decide) (by omega) ?_
        refine q_iload_n rfl rfl ?_
        refine q_iload rfl rfl ?_
        by_cases h_97 : a3 ≠ a4
        · refine v_ic_ne_t (t := 27) rfl (by decide) (by omega) ?_
          refine q_aload_n rfl rfl ?_
          refine q_iload_n rfl rfl ?_
          refine q_iload_n rfl rfl ?_
          have h_98 := ir_49 hI a1
          have h_99 := ir_59 hI (a1 + 30)
          have h_100 := fal_rng (m := c 49 a1) (t := c 59 (a1 + 30)) (g := 0) (x := c 59 (4 * a2)) (by omega)
          have h_101 := fal_rng (m := c 49 a1) (t := c 59 (a1 + 30)) (g := 1) (x := c 59 (4 * a2 + 1)) (by omega)
          have h_102 := fal_rng (m := c 49 a1) (t := c 59 (a1 + 30)) (g := 2) (x := c 59 (4 * a2 + 2)) (by omega)
          have h_103 := fal_rng (m := c 49 a1) (t := c 59 (a1 + 30)) (g := 3) (x := c 59 (4 * a2 + 3)) (by omega)
          refine v_cv rfl rfl rfl rfl (by decide) ⟨⟨rfl, rfl⟩, by decide, rfl⟩ (Nat.le_of_ble_eq_true rfl) (Nat.le_of_ble_eq_true rfl) (s_190 (v1 := c 49 a1) (v2 := c 59 (a1 + 30)) (v3 := c 59 (4 * a2)) (v4 := c 59 (4 * a2 + 1)) (v5 := c 59 (4 * a2 + 2)) (v6 := c 59 (4 * a2 + 3)) (r := (fal (c 49 a1) (c 59 (a1 + 30)) 0 (c 59 (4 * a2))) + (fal (c 49 a1) (c 59 (a1 + 30)) 1 (c 59 (4 * a2 + 1))) + (fal (c 49 a1) (c 59 (a1 + 30)) 2 (c 59 (4 * a2 + 2))) + (fal (c 49 a1) (c 59 (a1 + 30)) 3 (c 59 (4 * a2 + 3)))) (a1 := a1) (a2 := a2) hIo (show 0 ≤ a1 ∧ a1 ≤ 3 from by omega) (show 0 ≤ a2 ∧ a2 ≤ 5 from by omega) (rfl) (rfl) (rfl) (rfl) (rfl) (rfl) rfl ?_)
          refine bk_inl ?_
          refine q_istore rfl (by decide) ?_
          refine q_aload_n rfl rfl ?_
          refine q_iload_n rfl rfl ?_
          refine v_cv rfl rfl rfl rfl (by decide) ⟨⟨rfl, rfl⟩, by decide, rfl⟩ (Nat.le_of_ble_eq_true rfl) (Nat.le_of_ble_eq_true rfl) (s_187 (v1 := c 59 (4 * a3)) (v2 := c 59 (4 * a3 + 1)) (v3 := c 59 (4 * a3 + 2)) (v4 := c 59 (4 * a3 + 3)) (r := c 59 (4 * a3 + 1) + c 59 (4 * a3 + 2) + c 59 (4 * a3 + 3) + c 59 (4 * a3)) (a1 := a3) hIo (show 0 ≤ a3 ∧ a3 ≤ 5 from by omega) (rfl) (rfl) (rfl) (rfl) (by omega) ?_)
          refine bk_inl ?_
          refine q_iload rfl rfl ?_
          refine v_iadd (v := (fal (c 49 a1) (c 59 (a1 + 30)) 0 (c 59 (4 * a2))) + (fal (c 49 a1) (c 59 (a1 + 30)) 1 (c 59 (4 * a2 + 1))) + (fal (c 49 a1) (c 59 (a1 + 30)) 2 (c 59 (4 * a2 + 2))) + (fal (c 49 a1) (c 59 (a1 + 30)) 3 (c 59 (4 * a2 + 3))) + c 59 (4 * a3 + 1) + c 59 (4 * a3 + 2) + c 59 (4 * a3 + 3) + c 59 (4 * a3)) rfl (by omega) ?_
          refine v_sip rfl (by decide) ?_
          by_cases h_104 : (fal (c 49 a1) (c 59 (a1 + 30)) 0 (c 59 (4 * a2))) + (fal (c 49 a1) (c 59 (a1 + 30)) 1 (c 59 (4 * a2 + 1))) + (fal (c 49 a1) (c 59 (a1 + 30)) 2 (c 59 (4 * a2 + 2))) + (fal (c 49 a1) (c 59 (a1 + 30)) 3 (c 59 (4 * a2 + 3))) + c 59 (4 * a3 + 1) + c 59 (4 * a3 + 2) + c 59 (4 * a3 + 3) + c 59 (4 * a3) > 9999
          · refine v_ic_gt_t (t := 70) rfl (by decide) (by omega) ?_
            refine q_iconst rfl ?_
            refine v_zret rfl rfl (by omega) ?_
            have hr_105 : ∀ j : Int, rs 59 j → c 59 j + c 59 (j + 1) + c 59 (j + 2) + c 59 (j + 3) ≤ 9999 := by
              intro j9 hj9
              obtain ⟨k9, rfl, hk9⟩ := rs_59 hj9
              by_cases e_106 : k9 = a2
              · skip
                have h_107 : c 59 (4 * k9) = c 59 (4 * a2) := (congrArg (c 59) (show 4 * k9 = 4 * a2 from by omega))
                have h_108 : c 59 (4 * k9 + 1) = c 59 (4 * a2 + 1) := (congrArg (c 59) (show 4 * k9 + 1 = 4 * a2 + 1 from by omega))
                have h_109 : c 59 (4 * k9 + 2) = c 59 (4 * a2 + 2) := (congrArg (c 59) (show 4 * k9 + 2 = 4 * a2 + 2 from by omega))
                have h_110 : c 59 (4 * k9 + 3) = c 59 (4 * a2 + 3) := (congrArg (c 59) (show 4 * k9 + 3 = 4 * a2 + 3 from by omega))
                omega
              by_cases e_111 : k9 = a3
              · skip
                have h_112 : c 59 (4 * k9) = c 59 (4 * a3) := (congrArg (c 59) (show 4 * k9 = 4 * a3 from by omega))
                have h_113 : c 59 (4 * k9 + 1) = c 59 (4 * a3 + 1) := (congrArg (c 59) (show 4 * k9 + 1 = 4 * a3 + 1 from by omega))
                have h_114 : c 59 (4 * k9 + 2) = c 59 (4 * a3 + 2) := (congrArg (c 59) (show 4 * k9 + 2 = 4 * a3 + 2 from by omega))
                have h_115 : c 59 (4 * k9 + 3) = c 59 (4 * a3 + 3) := (congrArg (c 59) (show 4 * k9 + 3 = 4 * a3 + 3 from by omega))
                omega
              by_cases e_116 : k9 = a4
              · skip
                have h_117 : c 59 (4 * k9) = c 59 (4 * a4) := (congrArg (c 59) (show 4 * k9 = 4 * a4 from by omega))
                have h_118 : c 59 (4 * k9 + 1) = c 59 (4 * a4 + 1) := (congrArg (c 59) (show 4 * k9 + 1 = 4 * a4 + 1 from by omega))
                have h_119 : c 59 (4 * k9 + 2) = c 59 (4 * a4 + 2) := (congrArg (c 59) (show 4 * k9 + 2 = 4 * a4 + 2 from by omega))
                have h_120 : c 59 (4 * k9 + 3) = c 59 (4 * a4 + 3) := (congrArg (c 59) (show 4 * k9 + 3 = 4 * a4 + 3 from by omega))
                omega
              have h_121 := iv_r hI 59 (4 * k9) hj9 (by omega)
              have h_122 := ir_59_g hI (j := 4 * k9) (by omega)
              have h_123 : c 59 (4 * k9) = c 59 (4 * k9) := rfl
              have h_124 := ir_59_g hI (j := 4 * k9 + 1) (by omega)
              have h_125 : c 59 (4 * k9 + 1) = c 59 (4 * k9 + 1) := rfl
              have h_126 := ir_59_g hI (j := 4 * k9 + 2) (by omega)
              have h_127 : c 59 (4 * k9 + 2) = c 59 (4 * k9 + 2) := rfl
              have h_128 := ir_59_g hI (j := 4 * k9 + 3) (by omega)
              have h_129 : c 59 (4 * k9 + 3) = c 59 (4 * k9 + 3) := rfl
              omega
            have hI_130 := iv_close hIo hr_105
            exact K c 0 hI_130 (fun a j hm => rfl) ⟨by decide, by decide⟩
          · refine v_ic_gt_f (t := 70) rfl (by decide) (by omega) ?_
            refine q_aload_n rfl rfl ?_
            refine q_iload rfl rfl ?_
            refine v_cv rfl rfl rfl rfl (by decide) ⟨⟨rfl, rfl⟩, by decide, rfl⟩ (Nat.le_of_ble_eq_true rfl) (Nat.le_of_ble_eq_true rfl) (s_187 (v1 := c 59 (4 * a4)) (v2 := c 59 (4 * a4 + 1)) (v3 := c 59 (4 * a4 + 2)) (v4 := c 59 (4 * a4 + 3)) (r := c 59 (4 * a4 + 1) + c 59 (4 * a4 + 2) + c 59 (4 * a4 + 3) + c 59 (4 * a4)) (a1 := a4) hIo (show 0 ≤ a4 ∧ a4 ≤ 5 from by omega) (rfl) (rfl) (rfl) (rfl) (by omega) ?_)
            refine bk_inl ?_
            refine q_aload_n rfl rfl ?_
            refine q_iload_n rfl rfl ?_
            refine v_cv rfl rfl rfl rfl (by decide) ⟨⟨rfl, rfl⟩, by decide, rfl⟩ (Nat.le_of_ble_eq_true rfl) (Nat.le_of_ble_eq_true rfl) (s_187 (v1 := c 59 (4 * a2)) (v2 := c 59 (4 * a2 + 1)) (v3 := c 59 (4 * a2 + 2)) (v4 := c 59 (4 * a2 + 3)) (r := c 59 (4 * a2 + 1) + c 59 (4 * a2 + 2) + c 59 (4 * a2 + 3) + c 59 (4 * a2)) (a1 := a2) hIo (show 0 ≤ a2 ∧ a2 ≤ 5 from by omega) (rfl) (rfl) (rfl) (rfl) (by omega) ?_)
            refine bk_inl ?_
            refine v_iadd (v := c 59 (4 * a2 + 1) + c 59 (4 * a2 + 2) + c 59 (4 * a2 + 3) + c 59 (4 * a2) + c 59 (4 * a4 + 1) + c 59 (4 * a4 + 2) + c 59 (4 * a4 + 3) + c 59 (4 * a4)) rfl (by omega) ?_
            refine q_iload rfl rfl ?_
            refine v_isub (v := c 59 (4 * a2 + 1) + c 59 (4 * a2 + 2) + c 59 (4 * a2 + 3) + c 59 (4 * a2) + c 59 (4 * a4 + 1) + c 59 (4 * a4 + 2) + c 59 (4 * a4 + 3) + c 59 (4 * a4) - (fal (c 49 a1) (c 59 (a1 + 30)) 0 (c 59 (4 * a2))) - (fal (c 49 a1) (c 59 (a1 + 30)) 1 (c 59 (4 * a2 + 1))) - (fal (c 49 a1) (c 59 (a1 + 30)) 2 (c 59 (4 * a2 + 2))) - (fal (c 49 a1) (c 59 (a1 + 30)) 3 (c 59 (4 * a2 + 3)))) rfl (by omega) ?_
            refine v_sip rfl (by decide) ?_
            by_cases h_131 : c 59 (4 * a2 + 1) + c 59 (4 * a2 + 2) + c 59 (4 * a2 + 3) + c 59 (4 * a2) + c 59 (4 * a4 + 1) + c 59 (4 * a4 + 2) + c 59 (4 * a4 + 3) + c 59 (4 * a4) - (fal (c 49 a1) (c 59 (a1 + 30)) 0 (c 59 (4 * a2))) - (fal (c 49 a1) (c 59 (a1 + 30)) 1 (c 59 (4 * a2 + 1))) - (fal (c 49 a1) (c 59 (a1 + 30)) 2 (c 59 (4 * a2 + 2))) - (fal (c 49 a1) (c 59 (a1 + 30)) 3 (c 59 (4 * a2 + 3))) ≤ 9999
            · refine v_ic_le_t (t := 72) rfl (by decide) (by omega) ?_
              refine q_iconst rfl ?_
              refine q_istore rfl (by decide) ?_
              refine q_iload rfl rfl ?_
              refine q_iconst rfl ?_
              refine v_ic_ge_f (t := 142) rfl (by decide) (by decide) ?_
              refine q_aload_n rfl rfl ?_
              refine q_iload_n rfl rfl ?_
              refine q_iload_n rfl rfl ?_
              refine q_iload rfl rfl ?_
              refine v_cv rfl rfl rfl rfl (by decide) ⟨⟨rfl, rfl⟩, by decide, rfl⟩ (Nat.le_of_ble_eq_true rfl) (Nat.le_of_ble_eq_true rfl) (s_189 (v1 := c 49 a1) (v2 := c 59 (a1 + 30)) (v3 := c 59 (4 * a2)) (r := (fal (c 49 a1) (c 59 (a1 + 30)) 0 (c 59 (4 * a2)))) (a1 := a1) (a2 := a2) (a3 := 0) hIo (show 0 ≤ a1 ∧ a1 ≤ 3 from by omega) (show 0 ≤ a2 ∧ a2 ≤ 5 from by omega) (show 0 ≤ 0 ∧ 0 ≤ 3 from by omega) (rfl) (rfl) ((congrArg (c 59) (show 4 * a2 + 0 = 4 * a2 from by omega))) rfl ?_)
              refine bk_inl ?_
              refine q_istore rfl (by decide) ?_
              refine q_aload_n rfl rfl ?_
              refine v_gr (t := 59) rfl rfl rfl (by decide) rfl ?_
              refine q_iconst rfl ?_
              refine q_iload_n rfl rfl ?_
              refine v_imul (v := 4 * a3) rfl (by omega) ?_
              refine q_iload rfl rfl ?_
              refine v_iadd (v := 4 * a3) rfl (by omega) ?_
              refine q_dup2 rfl ⟨rfl, rfl⟩ ?_
              refine v_ia (v := c 59 (4 * a3)) rfl rfl (by decide) (by decide) (by omega) rfl ?_
              refine q_iload rfl rfl ?_
              refine v_iadd (v := (fal (c 49 a1) (c 59 (a1 + 30)) 0 (c 59 (4 * a2))) + c 59 (4 * a3)) rfl (by omega) ?_
              refine v_is rfl rfl (by decide) (by decide) (by omega) ?_
              refine q_aload_n rfl rfl ?_
              refine v_gr (t := 59) rfl rfl rfl (by decide) rfl ?_
              refine q_iconst rfl ?_
              refine q_iload rfl rfl ?_
              refine v_imul (v := 4 * a4) rfl (by omega) ?_
              refine q_iload rfl rfl ?_
              refine v_iadd (v := 4 * a4) rfl (by omega) ?_
              refine q_dup2 rfl ⟨rfl, rfl⟩ ?_
              refine v_ia (v := c 59 (4 * a4)) rfl rfl (by decide) (by decide) (by omega) (up_n (by omega)) ?_
              refine q_aload_n rfl rfl ?_
              refine v_gr (t := 59) rfl rfl rfl (by decide) rfl ?_
              refine q_iconst rfl ?_
              refine q_iload_n rfl rfl ?_
              refine v_imul (v := 4 * a2) rfl (by omega) ?_
              refine q_iload rfl rfl ?_
              refine v_iadd (v := 4 * a2) rfl (by omega) ?_
              refine v_ia (v := c 59 (4 * a2)) rfl rfl (by decide) (by decide) (by omega) (up_n (by omega)) ?_
              refine q_iload rfl rfl ?_
              refine v_isub (v := c 59 (4 * a2) - (fal (c 49 a1) (c 59 (a1 + 30)) 0 (c 59 (4 * a2)))) rfl (by omega) ?_
              refine v_iadd (v := c 59 (4 * a2) + c 59 (4 * a4) - (fal (c 49 a1) (c 59 (a1 + 30)) 0 (c 59 (4 * a2)))) rfl (by omega) ?_
              refine v_is rfl rfl (by decide) (by decide) (by omega) ?_
              refine v_iinc (v := 1) rfl rfl (by decide) (by decide) ?_
              refine q_goto (t := 75) rfl (by decide) ?_
              refine q_iload rfl rfl ?_
              refine q_iconst rfl ?_
              refine v_ic_ge_f (t := 142) rfl (by decide) (by decide) ?_
              refine q_aload_n rfl rfl ?_
              refine q_iload_n rfl rfl ?_
              refine q_iload_n rfl rfl ?_
              refine q_iload rfl rfl ?_
              have hI_132 := iw_row (a := 59) (j := 4 * a3) (v := (fal (c 49 a1) (c 59 (a1 + 30)) 0 (c 59 (4 * a2))) + c 59 (4 * a3)) hIo (by omega) (Or.inl rfl) ⟨by omega, by omega, by omega⟩
              have hI_133 := iw_row (a := 59) (j := 4 * a4) (v := c 59 (4 * a2) + c 59 (4 * a4) - (fal (c 49 a1) (c 59 (a1 + 30)) 0 (c 59 (4 * a2)))) hI_132 (by omega) (Or.inl rfl) ⟨by omega, by omega, by omega⟩
              refine v_cv rfl rfl rfl rfl (by decide) ⟨⟨rfl, rfl⟩, by decide, rfl⟩ (Nat.le_of_ble_eq_true rfl) (Nat.le_of_ble_eq_true rfl) (s_189 (v1 := c 49 a1) (v2 := c 59 (a1 + 30)) (v3 := c 59 (4 * a2 + 1)) (r := (fal (c 49 a1) (c 59 (a1 + 30)) 1 (c 59 (4 * a2 + 1)))) (a1 := a1) (a2 := a2) (a3 := 1) hI_133 (show 0 ≤ a1 ∧ a1 ≤ 3 from by omega) (show 0 ≤ a2 ∧ a2 ≤ 5 from by omega) (show 0 ≤ 1 ∧ 1 ≤ 3 from by omega) (((up_c (by decide)).trans (up_c (by decide)))) (((up_n (by omega)).trans (up_n (by omega)))) (((up_n (by omega)).trans (up_n (by omega)))) rfl ?_)
              refine bk_inl ?_
              refine q_istore rfl (by decide) ?_
              refine Wp_ls [(7, vi (fal (c 49 a1) (c 59 (a1 + 30)) 1 (c 59 (4 * a2 + 1)))), (6, vi 1), (5, vi ((fal (c 49 a1) (c 59 (a1 + 30)) 0 (c 59 (4 * a2))) + (fal (c 49 a1) (c 59 (a1 + 30)) 1 (c 59 (4 * a2 + 1))) + (fal (c 49 a1) (c 59 (a1 + 30)) 2 (c 59 (4 * a2 + 2))) + (fal (c 49 a1) (c 59 (a1 + 30)) 3 (c 59 (4 * a2 + 3))))), (0, .ref 41), (1, vi a1), (2, vi a2), (3, vi a3), (4, vi a4)] (lsub_cons rfl (lsub_cons rfl (lsub_cons rfl (lsub_cons rfl (lsub_cons rfl (lsub_cons rfl (lsub_cons rfl (lsub_cons rfl lsub_nil)))))))) ?_
              refine q_aload_n rfl rfl ?_
              refine v_gr (t := 59) rfl rfl rfl (by decide) rfl ?_
              refine q_iconst rfl ?_
              refine q_iload_n rfl rfl ?_
              refine v_imul (v := 4 * a3) rfl (by omega) ?_
              refine q_iload rfl rfl ?_
              refine v_iadd (v := 4 * a3 + 1) rfl (by omega) ?_
              refine q_dup2 rfl ⟨rfl, rfl⟩ ?_
              refine v_ia (v := c 59 (4 * a3 + 1)) rfl rfl (by decide) (by decide) (by omega) ((up_n (by omega)).trans (up_n (by omega))) ?_
              refine q_iload rfl rfl ?_
              refine v_iadd (v := (fal (c 49 a1) (c 59 (a1 + 30)) 1 (c 59 (4 * a2 + 1))) + c 59 (4 * a3 + 1)) rfl (by omega) ?_
              refine v_is rfl rfl (by decide) (by decide) (by omega) ?_
              refine q_aload_n rfl rfl ?_
              refine v_gr (t := 59) rfl rfl rfl (by decide) rfl ?_
              refine q_iconst rfl ?_
              refine q_iload rfl rfl ?_
              refine v_imul (v := 4 * a4) rfl (by omega) ?_
              refine q_iload rfl rfl ?_
              refine v_iadd (v := 4 * a4 + 1) rfl (by omega) ?_
              refine q_dup2 rfl ⟨rfl, rfl⟩ ?_
              refine v_ia (v := c 59 (4 * a4 + 1)) rfl rfl (by decide) (by decide) (by omega) ((up_n (by omega)).trans ((up_n (by omega)).trans (up_n (by omega)))) ?_
              refine q_aload_n rfl rfl ?_
              refine v_gr (t := 59) rfl rfl rfl (by decide) rfl ?_
              refine q_iconst rfl ?_
              refine q_iload_n rfl rfl ?_
              refine v_imul (v := 4 * a2) rfl (by omega) ?_
              refine q_iload rfl rfl ?_
              refine v_iadd (v := 4 * a2 + 1) rfl (by omega) ?_
              refine v_ia (v := c 59 (4 * a2 + 1)) rfl rfl (by decide) (by decide) (by omega) ((up_n (by omega)).trans ((up_n (by omega)).trans (up_n (by omega)))) ?_
              refine q_iload rfl rfl ?_
              refine v_isub (v := c 59 (4 * a2 + 1) - (fal (c 49 a1) (c 59 (a1 + 30)) 1 (c 59 (4 * a2 + 1)))) rfl (by omega) ?_
              refine v_iadd (v := c 59 (4 * a2 + 1) + c 59 (4 * a4 + 1) - (fal (c 49 a1) (c 59 (a1 + 30)) 1 (c 59 (4 * a2 + 1)))) rfl (by omega) ?_
              refine v_is rfl rfl (by decide) (by decide) (by omega) ?_
              refine v_iinc (v := 2) rfl rfl (by decide) (by decide) ?_
              refine q_goto (t := 75) rfl (by decide) ?_
              refine q_iload rfl rfl ?_
              refine q_iconst rfl ?_
              refine v_ic_ge_f (t := 142) rfl (by decide) (by decide) ?_
              refine q_aload_n rfl rfl ?_
              refine q_iload_n rfl rfl ?_
              refine q_iload_n rfl rfl ?_
              refine q_iload rfl rfl ?_
              have hI_134 := iw_row (a := 59) (j := 4 * a3 + 1) (v := (fal (c 49 a1) (c 59 (a1 + 30)) 1 (c 59 (4 * a2 + 1))) + c 59 (4 * a3 + 1)) hI_133 (by omega) (Or.inl rfl) ⟨by omega, by omega, by omega⟩
              have hI_135 := iw_row (a := 59) (j := 4 * a4 + 1) (v := c 59 (4 * a2 + 1) + c 59 (4 * a4 + 1) - (fal (c 49 a1) (c 59 (a1 + 30)) 1 (c 59 (4 * a2 + 1)))) hI_134 (by omega) (Or.inl rfl) ⟨by omega, by omega, by omega⟩
              refine v_cv rfl rfl rfl rfl (by decide) ⟨⟨rfl, rfl⟩, by decide, rfl⟩ (Nat.le_of_ble_eq_true rfl) (Nat.le_of_ble_eq_true rfl) (s_189 (v1 := c 49 a1) (v2 := c 59 (a1 + 30)) (v3 := c 59 (4 * a2 + 2)) (r := (fal (c 49 a1) (c 59 (a1 + 30)) 2 (c 59 (4 * a2 + 2)))) (a1 := a1) (a2 := a2) (a3 := 2) hI_135 (show 0 ≤ a1 ∧ a1 ≤ 3 from by omega) (show 0 ≤ a2 ∧ a2 ≤ 5 from by omega) (show 0 ≤ 2 ∧ 2 ≤ 3 from by omega) (((up_c (by decide)).trans ((up_c (by decide)).trans ((up_c (by decide)).trans (up_c (by decide)))))) (((up_n (by omega)).trans ((up_n (by omega)).trans ((up_n (by omega)).trans (up_n (by omega)))))) (((up_n (by omega)).trans ((up_n (by omega)).trans ((up_n (by omega)).trans (up_n (by omega)))))) rfl ?_)
              refine bk_inl ?_
              refine q_istore rfl (by decide) ?_
              refine q_aload_n rfl rfl ?_
              refine v_gr (t := 59) rfl rfl rfl (by decide) rfl ?_
              refine q_iconst rfl ?_
              refine q_iload_n rfl rfl ?_
              refine v_imul (v := 4 * a3) rfl (by omega) ?_
              refine q_iload rfl rfl ?_
              refine v_iadd (v := 4 * a3 + 2) rfl (by omega) ?_
              refine q_dup2 rfl ⟨rfl, rfl⟩ ?_
              refine v_ia (v := c 59 (4 * a3 + 2)) rfl rfl (by decide) (by decide) (by omega) ((up_n (by omega)).trans ((up_n (by omega)).trans ((up_n (by omega)).trans (up_n (by omega))))) ?_
              refine q_iload rfl rfl ?_
              refine v_iadd (v := (fal (c 49 a1) (c 59 (a1 + 30)) 2 (c 59 (4 * a2 + 2))) + c 59 (4 * a3 + 2)) rfl (by omega) ?_
              refine v_is rfl rfl (by decide) (by decide) (by omega) ?_
              refine q_aload_n rfl rfl ?_
              refine v_gr (t := 59) rfl rfl rfl (by decide) rfl ?_
              refine q_iconst rfl ?_
              refine q_iload rfl rfl ?_
              refine v_imul (v := 4 * a4) rfl (by omega) ?_
              refine q_iload rfl rfl ?_
              refine v_iadd (v := 4 * a4 + 2) rfl (by omega) ?_
              refine q_dup2 rfl ⟨rfl, rfl⟩ ?_
              refine v_ia (v := c 59 (4 * a4 + 2)) rfl rfl (by decide) (by decide) (by omega) ((up_n (by omega)).trans ((up_n (by omega)).trans ((up_n (by omega)).trans ((up_n (by omega)).trans (up_n (by omega)))))) ?_
              refine q_aload_n rfl rfl ?_
              refine v_gr (t := 59) rfl rfl rfl (by decide) rfl ?_
              refine q_iconst rfl ?_
              refine q_iload_n rfl rfl ?_
              refine v_imul (v := 4 * a2) rfl (by omega) ?_
              refine q_iload rfl rfl ?_
              refine v_iadd (v := 4 * a2 + 2) rfl (by omega) ?_
              refine v_ia (v := c 59 (4 * a2 + 2)) rfl rfl (by decide) (by decide) (by omega) ((up_n (by omega)).trans ((up_n (by omega)).trans ((up_n (by omega)).trans ((up_n (by omega)).trans (up_n (by omega)))))) ?_
              refine q_iload rfl rfl ?_
              refine v_isub (v := c 59 (4 * a2 + 2) - (fal (c 49 a1) (c 59 (a1 + 30)) 2 (c 59 (4 * a2 + 2)))) rfl (by omega) ?_
              refine v_iadd (v := c 59 (4 * a2 + 2) + c 59 (4 * a4 + 2) - (fal (c 49 a1) (c 59 (a1 + 30)) 2 (c 59 (4 * a2 + 2)))) rfl (by omega) ?_
              refine v_is rfl rfl (by decide) (by decide) (by omega) ?_
              refine v_iinc (v := 3) rfl rfl (by decide) (by decide) ?_
              refine q_goto (t := 75) rfl (by decide) ?_
              refine q_iload rfl rfl ?_
              refine q_iconst rfl ?_
              refine v_ic_ge_f (t := 142) rfl (by decide) (by decide) ?_
              refine q_aload_n rfl rfl ?_
              refine q_iload_n rfl rfl ?_
              refine q_iload_n rfl rfl ?_
              refine q_iload rfl rfl ?_
              have hI_136 := iw_row (a := 59) (j := 4 * a3 + 2) (v := (fal (c 49 a1) (c 59 (a1 + 30)) 2 (c 59 (4 * a2 + 2))) + c 59 (4 * a3 + 2)) hI_135 (by omega) (Or.inl rfl) ⟨by omega, by omega, by omega⟩
              have hI_137 := iw_row (a := 59) (j := 4 * a4 + 2) (v := c 59 (4 * a2 + 2) + c 59 (4 * a4 + 2) - (fal (c 49 a1) (c 59 (a1 + 30)) 2 (c 59 (4 * a2 + 2)))) hI_136 (by omega) (Or.inl rfl) ⟨by omega, by omega, by omega⟩
              refine v_cv rfl rfl rfl rfl (by decide) ⟨⟨rfl, rfl⟩, by decide, rfl⟩ (Nat.le_of_ble_eq_true rfl) (Nat.le_of_ble_eq_true rfl) (s_189 (v1 := c 49 a1) (v2 := c 59 (a1 + 30)) (v3 := c 59 (4 * a2 + 3)) (r := (fal (c 49 a1) (c 59 (a1 + 30)) 3 (c 59 (4 * a2 + 3)))) (a1 := a1) (a2 := a2) (a3 := 3) hI_137 (show 0 ≤ a1 ∧ a1 ≤ 3 from by omega) (show 0 ≤ a2 ∧ a2 ≤ 5 from by omega) (show 0 ≤ 3 ∧ 3 ≤ 3 from by omega) (((up_c (by decide)).trans ((up_c (by decide)).trans ((up_c (by decide)).trans ((up_c (by decide)).trans ((up_c (by decide)).trans (up_c (by decide)))))))) (((up_n (by omega)).trans ((up_n (by omega)).trans ((up_n (by omega)).trans ((up_n (by omega)).trans ((up_n (by omega)).trans (up_n (by omega)))))))) (((up_n (by omega)).trans ((up_n (by omega)).trans ((up_n (by omega)).trans ((up_n (by omega)).trans ((up_n (by omega)).trans (up_n (by omega)))))))) rfl ?_)
              refine bk_inl ?_
              refine q_istore rfl (by decide) ?_
              refine q_aload_n rfl rfl ?_
              refine v_gr (t := 59) rfl rfl rfl (by decide) rfl ?_
              refine q_iconst rfl ?_
              refine q_iload_n rfl rfl ?_
              refine v_imul (v := 4 * a3) rfl (by omega) ?_
              refine q_iload rfl rfl ?_
              refine v_iadd (v := 4 * a3 + 3) rfl (by omega) ?_
              refine q_dup2 rfl ⟨rfl, rfl⟩ ?_
              refine v_ia (v := c 59 (4 * a3 + 3)) rfl rfl (by decide) (by decide) (by omega) ((up_n (by omega)).trans ((up_n (by omega)).trans ((up_n (by omega)).trans ((up_n (by omega)).trans ((up_n (by omega)).trans (up_n (by omega))))))) ?_
              refine q_iload rfl rfl ?_
              refine v_iadd (v := (fal (c 49 a1) (c 59 (a1 + 30)) 3 (c 59 (4 * a2 + 3))) + c 59 (4 * a3 + 3)) rfl (by omega) ?_
              refine v_is rfl rfl (by decide) (by decide) (by omega) ?_
              refine q_aload_n rfl rfl ?_
              refine v_gr (t := 59) rfl rfl rfl (by decide) rfl ?_
              refine q_iconst rfl ?_
              refine q_iload rfl rfl ?_
              refine v_imul (v := 4 * a4) rfl (by omega) ?_
              refine q_iload rfl rfl ?_
              refine v_iadd (v := 4 * a4 + 3) rfl (by omega) ?_
              refine q_dup2 rfl ⟨rfl, rfl⟩ ?_
              refine v_ia (v := c 59 (4 * a4 + 3)) rfl rfl (by decide) (by decide) (by omega) ((up_n (by omega)).trans ((up_n (by omega)).trans ((up_n (by omega)).trans ((up_n (by omega)).trans ((up_n (by omega)).trans ((up_n (by omega)).trans (up_n (by omega)))))))) ?_
              refine q_aload_n rfl rfl ?_
              refine v_gr (t := 59) rfl rfl rfl (by decide) rfl ?_
              refine q_iconst rfl ?_
              refine q_iload_n rfl rfl ?_
              refine v_imul (v := 4 * a2) rfl (by omega) ?_
              refine q_iload rfl rfl ?_
              refine v_iadd (v := 4 * a2 + 3) rfl (by omega) ?_
              refine v_ia (v := c 59 (4 * a2 + 3)) rfl rfl (by decide) (by decide) (by omega) ((up_n (by omega)).trans ((up_n (by omega)).trans ((up_n (by omega)).trans ((up_n (by omega)).trans ((up_n (by omega)).trans ((up_n (by omega)).trans (up_n (by omega)))))))) ?_
              refine q_iload rfl rfl ?_
              refine v_isub (v := c 59 (4 * a2 + 3) - (fal (c 49 a1) (c 59 (a1 + 30)) 3 (c 59 (4 * a2 + 3)))) rfl (by omega) ?_
              refine v_iadd (v := c 59 (4 * a2 + 3) + c 59 (4 * a4 + 3) - (fal (c 49 a1) (c 59 (a1 + 30)) 3 (c 59 (4 * a2 + 3)))) rfl (by omega) ?_
              refine v_is rfl rfl (by decide) (by decide) (by omega) ?_
              refine v_iinc (v := 4) rfl rfl (by decide) (by decide) ?_
              refine Wp_ls [(6, vi 4), (7, vi (fal (c 49 a1) (c 59 (a1 + 30)) 3 (c 59 (4 * a2 + 3)))), (5, vi ((fal (c 49 a1) (c 59 (a1 + 30)) 0 (c 59 (4 * a2))) + (fal (c 49 a1) (c 59 (a1 + 30)) 1 (c 59 (4 * a2 + 1))) + (fal (c 49 a1) (c 59 (a1 + 30)) 2 (c 59 (4 * a2 + 2))) + (fal (c 49 a1) (c 59 (a1 + 30)) 3 (c 59 (4 * a2 + 3))))), (0, .ref 41), (1, vi a1), (2, vi a2), (3, vi a3), (4, vi a4)] (lsub_cons rfl (lsub_cons rfl (lsub_cons rfl (lsub_cons rfl (lsub_cons rfl (lsub_cons rfl (lsub_cons rfl (lsub_cons rfl lsub_nil)))))))) ?_
              refine q_goto (t := 75) rfl (by decide) ?_
              refine q_iload rfl rfl ?_
              refine q_iconst rfl ?_
              refine v_ic_ge_t (t := 142) rfl (by decide) (by decide) ?_
              refine q_iload rfl rfl ?_
              by_cases h_138 : (fal (c 49 a1) (c 59 (a1 + 30)) 0 (c 59 (4 * a2))) + (fal (c 49 a1) (c 59 (a1 + 30)) 1 (c 59 (4 * a2 + 1))) + (fal (c 49 a1) (c 59 (a1 + 30)) 2 (c 59 (4 * a2 + 2))) + (fal (c 49 a1) (c 59 (a1 + 30)) 3 (c 59 (4 * a2 + 3))) ≤ 0
              · refine v_if_le_t (t := 161) rfl (by decide) (by omega) ?_
                refine q_iload rfl rfl ?_
                refine q_aload_n rfl rfl ?_
                refine q_iload_n rfl rfl ?_
                have hI_139 := iw_row (a := 59) (j := 4 * a3 + 3) (v := (fal (c 49 a1) (c 59 (a1 + 30)) 3 (c 59 (4 * a2 + 3))) + c 59 (4 * a3 + 3)) hI_137 (by omega) (Or.inl rfl) ⟨by omega, by omega, by omega⟩
                have hI_140 := iw_row (a := 59) (j := 4 * a4 + 3) (v := c 59 (4 * a2 + 3) + c 59 (4 * a4 + 3) - (fal (c 49 a1) (c 59 (a1 + 30)) 3 (c 59 (4 * a2 + 3)))) hI_139 (by omega) (Or.inl rfl) ⟨by omega, by omega, by omega⟩
                refine v_cv rfl rfl rfl rfl (by decide) ⟨⟨rfl, rfl⟩, by decide, rfl⟩ (Nat.le_of_ble_eq_true rfl) (Nat.le_of_ble_eq_true rfl) (s_187 (v1 := c 59 (4 * a2)) (v2 := c 59 (4 * a2 + 1)) (v3 := c 59 (4 * a2 + 2)) (v4 := c 59 (4 * a2 + 3)) (r := c 59 (4 * a2 + 1) + c 59 (4 * a2 + 2) + c 59 (4 * a2 + 3) + c 59 (4 * a2)) (a1 := a2) hI_140 (show 0 ≤ a2 ∧ a2 ≤ 5 from by omega) (((up_n (by omega)).trans ((up_n (by omega)).trans ((up_n (by omega)).trans ((up_n (by omega)).trans ((up_n (by omega)).trans ((up_n (by omega)).trans ((up_n (by omega)).trans (up_n (by omega)))))))))) (((up_n (by omega)).trans ((up_n (by omega)).trans ((up_n (by omega)).trans ((up_n (by omega)).trans ((up_n (by omega)).trans ((up_n (by omega)).trans ((up_n (by omega)).trans (up_n (by omega)))))))))) (((up_n (by omega)).trans ((up_n (by omega)).trans ((up_n (by omega)).trans ((up_n (by omega)).trans ((up_n (by omega)).trans ((up_n (by omega)).trans ((up_n (by omega)).trans (up_n (by omega)))))))))) (((up_n (by omega)).trans ((up_n (by omega)).trans ((up_n (by omega)).trans ((up_n (by omega)).trans ((up_n (by omega)).trans ((up_n (by omega)).trans ((up_n (by omega)).trans (up_n (by omega)))))))))) (by omega) ?_)
                refine bk_inl ?_
                refine v_ic_ge_f (t := 186) rfl (by decide) (by omega) ?_
                refine q_aload_n rfl rfl ?_
                refine q_iload rfl rfl ?_
                refine q_aload_n rfl rfl ?_
                refine v_gr (t := 59) rfl rfl rfl (by decide) rfl ?_
                refine v_bip rfl (by decide) ?_
                refine q_iload_n rfl rfl ?_
                refine v_iadd (v := a2 + 24) rfl (by omega) ?_
                have h_141 := ir_59 hI (a2 + 24)
                refine v_ia (v := c 59 (a2 + 24)) rfl rfl (by decide) (by decide) (by omega) ((up_n (by omega)).trans ((up_n (by omega)).trans ((up_n (by omega)).trans ((up_n (by omega)).trans ((up_n (by omega)).trans ((up_n (by omega)).trans ((up_n (by omega)).trans (up_n (by omega))))))))) ?_
                refine v_cv rfl rfl rfl rfl (by decide) ⟨⟨rfl, rfl⟩, by decide, rfl⟩ (Nat.le_of_ble_eq_true rfl) (Nat.le_of_ble_eq_true rfl) (s_191 (a1 := a4) (a2 := c 59 (a2 + 24)) hI_140 (show 0 ≤ a4 ∧ a4 ≤ 5 from by omega) (show (-2147483648) ≤ c 59 (a2 + 24) ∧ c 59 (a2 + 24) ≤ 2147483647 from by omega) (fun c_142 hI_143 hF_144 => ?_))
                refine bk_inl ?_
                refine q_aload_n rfl rfl ?_
                refine q_iload_n rfl rfl ?_
                refine v_cv rfl rfl rfl rfl (by decide) ⟨⟨rfl, rfl⟩, by decide, rfl⟩ (Nat.le_of_ble_eq_true rfl) (Nat.le_of_ble_eq_true rfl) (s_192 (a1 := a2) hI_143 (show 0 ≤ a2 ∧ a2 ≤ 5 from by omega) (fun c_145 hI_146 hF_147 h_148 => ?_))
                refine bk_inl ?_
                have h_149 := ir_59_g hI_146 (j := 4 * a2 + 1) (by omega)
                have h_150 := ir_59_g hI_146 (j := 4 * a2 + 2) (by omega)
                have h_151 := ir_59_g hI_146 (j := 4 * a2 + 3) (by omega)
                have h_152 := ir_59_g hI_146 (j := 4 * a2) (by omega)
                refine q_iconst rfl ?_
                refine v_zret rfl rfl (by omega) ?_
                have hr_153 : ∀ j : Int, rs 59 j → c_145 59 j + c_145 59 (j + 1) + c_145 59 (j + 2) + c_145 59 (j + 3) ≤ 9999 := by
                  intro j9 hj9
                  obtain ⟨k9, rfl, hk9⟩ := rs_59 hj9
                  by_cases e_154 : k9 = a2
                  · skip
                    have h_155 : c_145 59 (4 * k9) = c_145 59 (4 * a2) := (congrArg (c_145 59) (show 4 * k9 = 4 * a2 from by omega))
                    have h_156 : c_145 59 (4 * k9 + 1) = c_145 59 (4 * a2 + 1) := (congrArg (c_145 59) (show 4 * k9 + 1 = 4 * a2 + 1 from by omega))
                    have h_157 : c_145 59 (4 * k9 + 2) = c_145 59 (4 * a2 + 2) := (congrArg (c_145 59) (show 4 * k9 + 2 = 4 * a2 + 2 from by omega))
                    have h_158 : c_145 59 (4 * k9 + 3) = c_145 59 (4 * a2 + 3) := (congrArg (c_145 59) (show 4 * k9 + 3 = 4 * a2 + 3 from by omega))
                    omega
                  by_cases e_159 : k9 = a3
                  · skip
                    have kn_160 : Hid (c_142 59 (4 * a3) = (fal (c 49 a1) (c 59 (a1 + 30)) 0 (c 59 (4 * a2))) + c 59 (4 * a3)) := (hF_144 59 (4 * a3) (by omega)).trans ((up_n (by omega)).trans ((up_n (by omega)).trans ((up_n (by omega)).trans ((up_n (by omega)).trans ((up_n (by omega)).trans ((up_n (by omega)).trans ((up_n (by omega)).trans (up_e rfl))))))))
                    have kn_161 : Hid (c_145 59 (4 * a3) = (fal (c 49 a1) (c 59 (a1 + 30)) 0 (c 59 (4 * a2))) + c 59 (4 * a3)) := (hF_147 59 (4 * a3) (by omega)).trans (hid kn_160)
                    have h_162 : c_145 59 (4 * k9) = (fal (c 49 a1) (c 59 (a1 + 30)) 0 (c 59 (4 * a2))) + c 59 (4 * a3) := (congrArg (c_145 59) (show 4 * k9 = 4 * a3 from by omega)).trans (hid kn_161)
                    have kn_163 : Hid (c_142 59 (4 * a3 + 1) = (fal (c 49 a1) (c 59 (a1 + 30)) 1 (c 59 (4 * a2 + 1))) + c 59 (4 * a3 + 1)) := (hF_144 59 (4 * a3 + 1) (by omega)).trans ((up_n (by omega)).trans ((up_n (by omega)).trans ((up_n (by omega)).trans ((up_n (by omega)).trans ((up_n (by omega)).trans (up_e rfl))))))
                    have kn_164 : Hid (c_145 59 (4 * a3 + 1) = (fal (c 49 a1) (c 59 (a1 + 30)) 1 (c 59 (4 * a2 + 1))) + c 59 (4 * a3 + 1)) := (hF_147 59 (4 * a3 + 1) (by omega)).trans (hid kn_163)
                    have h_165 : c_145 59 (4 * k9 + 1) = (fal (c 49 a1) (c 59 (a1 + 30)) 1 (c 59 (4 * a2 + 1))) + c 59 (4 * a3 + 1) := (congrArg (c_145 59) (show 4 * k9 + 1 = 4 * a3 + 1 from by omega)).trans (hid kn_164)
                    have kn_166 : Hid (c_142 59 (4 * a3 + 2) = (fal (c 49 a1) (c 59 (a1 + 30)) 2 (c 59 (4 * a2 + 2))) + c 59 (4 * a3 + 2)) := (hF_144 59 (4 * a3 + 2) (by omega)).trans ((up_n (by omega)).trans ((up_n (by omega)).trans ((up_n (by omega)).trans (up_e rfl))))
                    have kn_167 : Hid (c_145 59 (4 * a3 + 2) = (fal (c 49 a1) (c 59 (a1 + 30)) 2 (c 59 (4 * a2 + 2))) + c 59 (4 * a3 + 2)) := (hF_147 59 (4 * a3 + 2) (by omega)).trans (hid kn_166)
                    have h_168 : c_145 59 (4 * k9 + 2) = (fal (c 49 a1) (c 59 (a1 + 30)) 2 (c 59 (4 * a2 + 2))) + c 59 (4 * a3 + 2) := (congrArg (c_145 59) (show 4 * k9 + 2 = 4 * a3 + 2 from by omega)).trans (hid kn_167)
                    have kn_169 : Hid (c_142 59 (4 * a3 + 3) = (fal (c 49 a1) (c 59 (a1 + 30)) 3 (c 59 (4 * a2 + 3))) + c 59 (4 * a3 + 3)) := (hF_144 59 (4 * a3 + 3) (by omega)).trans ((up_n (by omega)).trans (up_e rfl))
                    have kn_170 : Hid (c_145 59 (4 * a3 + 3) = (fal (c 49 a1) (c 59 (a1 + 30)) 3 (c 59 (4 * a2 + 3))) + c 59 (4 * a3 + 3)) := (hF_147 59 (4 * a3 + 3) (by omega)).trans (hid kn_169)
                    have h_171 : c_145 59 (4 * k9 + 3) = (fal (c 49 a1) (c 59 (a1 + 30)) 3 (c 59 (4 * a2 + 3))) + c 59 (4 * a3 + 3) := (congrArg (c_145 59) (show 4 * k9 + 3 = 4 * a3 + 3 from by omega)).trans (hid kn_170)
                    omega
                  by_cases e_172 : k9 = a4
                  · skip
                    have kn_173 : Hid (c_142 59 (4 * a4) = c 59 (4 * a2) + c 59 (4 * a4) - (fal (c 49 a1) (c 59 (a1 + 30)) 0 (c 59 (4 * a2)))) := (hF_144 59 (4 * a4) (by omega)).trans ((up_n (by omega)).trans ((up_n (by omega)).trans ((up_n (by omega)).trans ((up_n (by omega)).trans ((up_n (by omega)).trans ((up_n (by omega)).trans (up_e rfl)))))))
                    have kn_174 : Hid (c_145 59 (4 * a4) = c 59 (4 * a2) + c 59 (4 * a4) - (fal (c 49 a1) (c 59 (a1 + 30)) 0 (c 59 (4 * a2)))) := (hF_147 59 (4 * a4) (by omega)).trans (hid kn_173)
                    have h_175 : c_145 59 (4 * k9) = c 59 (4 * a2) + c 59 (4 * a4) - (fal (c 49 a1) (c 59 (a1 + 30)) 0 (c 59 (4 * a2))) := (congrArg (c_145 59) (show 4 * k9 = 4 * a4 from by omega)).trans (hid kn_174)
                    have kn_176 : Hid (c_142 59 (4 * a4 + 1) = c 59 (4 * a2 + 1) + c 59 (4 * a4 + 1) - (fal (c 49 a1) (c 59 (a1 + 30)) 1 (c 59 (4 * a2 + 1)))) := (hF_144 59 (4 * a4 + 1) (by omega)).trans ((up_n (by omega)).trans ((up_n (by omega)).trans ((up_n (by omega)).trans ((up_n (by omega)).trans (up_e rfl)))))
                    have kn_177 : Hid (c_145 59 (4 * a4 + 1) = c 59 (4 * a2 + 1) + c 59 (4 * a4 + 1) - (fal (c 49 a1) (c 59 (a1 + 30)) 1 (c 59 (4 * a2 + 1)))) := (hF_147 59 (4 * a4 + 1) (by omega)).trans (hid kn_176)
                    have h_178 : c_145 59 (4 * k9 + 1) = c 59 (4 * a2 + 1) + c 59 (4 * a4 + 1) - (fal (c 49 a1) (c 59 (a1 + 30)) 1 (c 59 (4 * a2 + 1))) := (congrArg (c_145 59) (show 4 * k9 + 1 = 4 * a4 + 1 from by omega)).trans (hid kn_177)
                    have kn_179 : Hid (c_142 59 (4 * a4 + 2) = c 59 (4 * a2 + 2) + c 59 (4 * a4 + 2) - (fal (c 49 a1) (c 59 (a1 + 30)) 2 (c 59 (4 * a2 + 2)))) := (hF_144 59 (4 * a4 + 2) (by omega)).trans ((up_n (by omega)).trans ((up_n (by omega)).trans (up_e rfl)))
                    have kn_180 : Hid (c_145 59 (4 * a4 + 2) = c 59 (4 * a2 + 2) + c 59 (4 * a4 + 2) - (fal (c 49 a1) (c 59 (a1 + 30)) 2 (c 59 (4 * a2 + 2)))) := (hF_147 59 (4 * a4 + 2) (by omega)).trans (hid kn_179)
                    have h_181 : c_145 59 (4 * k9 + 2) = c 59 (4 * a2 + 2) + c 59 (4 * a4 + 2) - (fal (c 49 a1) (c 59 (a1 + 30)) 2 (c 59 (4 * a2 + 2))) := (congrArg (c_145 59) (show 4 * k9 + 2 = 4 * a4 + 2 from by omega)).trans (hid kn_180)
                    have kn_182 : Hid (c_142 59 (4 * a4 + 3) = c 59 (4 * a2 + 3) + c 59 (4 * a4 + 3) - (fal (c 49 a1) (c 59 (a1 + 30)) 3 (c 59 (4 * a2 + 3)))) := (hF_144 59 (4 * a4 + 3) (by omega)).trans (up_e rfl)
                    have kn_183 : Hid (c_145 59 (4 * a4 + 3) = c 59 (4 * a2 + 3) + c 59 (4 * a4 + 3) - (fal (c 49 a1) (c 59 (a1 + 30)) 3 (c 59 (4 * a2 + 3)))) := (hF_147 59 (4 * a4 + 3) (by omega)).trans (hid kn_182)
                    have h_184 : c_145 59 (4 * k9 + 3) = c 59 (4 * a2 + 3) + c 59 (4 * a4 + 3) - (fal (c 49 a1) (c 59 (a1 + 30)) 3 (c 59 (4 * a2 + 3))) := (congrArg (c_145 59) (show 4 * k9 + 3 = 4 * a4 + 3 from by omega)).trans (hid kn_183)
                    omega
                  have h_185 := iv_r hI 59 (4 * k9) hj9 (by omega)
                  have h_186 := ir_59_g hI (j := 4 * k9) (by omega)
                  have kn_187 : Hid (c_142 59 (4 * k9) = c 59 (4 * k9)) := (hF_144 59 (4 * k9) (by omega)).trans ((up_n (by omega)).trans ((up_n (by omega)).trans ((up_n (by omega)).trans ((up_n (by omega)).trans ((up_n (by omega)).trans ((up_n (by omega)).trans ((up_n (by omega)).trans (up_n (by omega)))))))))
                  have kn_188 : Hid (c_145 59 (4 * k9) = c 59 (4 * k9)) := (hF_147 59 (4 * k9) (by omega)).trans (hid kn_187)
                  have h_189 : c_145 59 (4 * k9) = c 59 (4 * k9) := (hid kn_188)
                  have h_190 := ir_59_g hI (j := 4 * k9 + 1) (by omega)
                  have kn_191 : Hid (c_142 59 (4 * k9 + 1) = c 59 (4 * k9 + 1)) := (hF_144 59 (4 * k9 + 1) (by omega)).trans ((up_n (by omega)).trans ((up_n (by omega)).trans ((up_n (by omega)).trans ((up_n (by omega)).trans ((up_n (by omega)).trans ((up_n (by omega)).trans ((up_n (by omega)).trans (up_n (by omega)))))))))
                  have kn_192 : Hid (c_145 59 (4 * k9 + 1) = c 59 (4 * k9 + 1)) := (hF_147 59 (4 * k9 + 1) (by omega)).trans (hid kn_191)
                  have h_193 : c_145 59 (4 * k9 + 1) = c 59 (4 * k9 + 1) := (hid kn_192)
                  have h_194 := ir_59_g hI (j := 4 * k9 + 2) (by omega)
                  have kn_195 : Hid (c_142 59 (4 * k9 + 2) = c 59 (4 * k9 + 2)) := (hF_144 59 (4 * k9 + 2) (by omega)).trans ((up_n (by omega)).trans ((up_n (by omega)).trans ((up_n (by omega)).trans ((up_n (by omega)).trans ((up_n (by omega)).trans ((up_n (by omega)).trans ((up_n (by omega)).trans (up_n (by omega)))))))))
                  have kn_196 : Hid (c_145 59 (4 * k9 + 2) = c 59 (4 * k9 + 2)) := (hF_147 59 (4 * k9 + 2) (by omega)).trans (hid kn_195)
                  have h_197 : c_145 59 (4 * k9 + 2) = c 59 (4 * k9 + 2) := (hid kn_196)
                  have h_198 := ir_59_g hI (j := 4 * k9 + 3) (by omega)
                  have kn_199 : Hid (c_142 59 (4 * k9 + 3) = c 59 (4 * k9 + 3)) := (hF_144 59 (4 * k9 + 3) (by omega)).trans ((up_n (by omega)).trans ((up_n (by omega)).trans ((up_n (by omega)).trans ((up_n (by omega)).trans ((up_n (by omega)).trans ((up_n (by omega)).trans ((up_n (by omega)).trans (up_n (by omega)))))))))
                  have kn_200 : Hid (c_145 59 (4 * k9 + 3) = c 59 (4 * k9 + 3)) := (hF_147 59 (4 * k9 + 3) (by omega)).trans (hid kn_199)
                  have h_201 : c_145 59 (4 * k9 + 3) = c 59 (4 * k9 + 3) := (hid kn_200)
                  omega
                have hI_202 := iv_close hI_146 hr_153
                exact K c_145 1 hI_202 (fun a j hm => (hF_147 a j (by omega)).trans ((hF_144 a j (by omega)).trans ((up_b (by omega)).trans ((up_b (by omega)).trans ((up_b (by omega)).trans ((up_b (by omega)).trans ((up_b (by omega)).trans ((up_b (by omega)).trans ((up_b (by omega)).trans (up_b (by omega))))))))))) ⟨by decide, by decide⟩
              · refine v_if_le_f (t := 161) rfl (by decide) (by omega) ?_
                refine q_aload_n rfl rfl ?_
                refine q_iload_n rfl rfl ?_
                refine q_aload_n rfl rfl ?_
                refine v_gr (t := 59) rfl rfl rfl (by decide) rfl ?_
                refine v_bip rfl (by decide) ?_
                refine q_iload_n rfl rfl ?_
                refine v_iadd (v := a2 + 24) rfl (by omega) ?_
                have h_203 := ir_59 hI (a2 + 24)
                refine v_ia (v := c 59 (a2 + 24)) rfl rfl (by decide) (by decide) (by omega) ((up_n (by omega)).trans ((up_n (by omega)).trans ((up_n (by omega)).trans ((up_n (by omega)).trans ((up_n (by omega)).trans ((up_n (by omega)).trans ((up_n (by omega)).trans (up_n (by omega))))))))) ?_
                have hI_204 := iw_row (a := 59) (j := 4 * a3 + 3) (v := (fal (c 49 a1) (c 59 (a1 + 30)) 3 (c 59 (4 * a2 + 3))) + c 59 (4 * a3 + 3)) hI_137 (by omega) (Or.inl rfl) ⟨by omega, by omega, by omega⟩
                have hI_205 := iw_row (a := 59) (j := 4 * a4 + 3) (v := c 59 (4 * a2 + 3) + c 59 (4 * a4 + 3) - (fal (c 49 a1) (c 59 (a1 + 30)) 3 (c 59 (4 * a2 + 3)))) hI_204 (by omega) (Or.inl rfl) ⟨by omega, by omega, by omega⟩
                refine v_cv rfl rfl rfl rfl (by decide) ⟨⟨rfl, rfl⟩, by decide, rfl⟩ (Nat.le_of_ble_eq_true rfl) (Nat.le_of_ble_eq_true rfl) (s_191 (a1 := a3) (a2 := c 59 (a2 + 24)) hI_205 (show 0 ≤ a3 ∧ a3 ≤ 5 from by omega) (show (-2147483648) ≤ c 59 (a2 + 24) ∧ c 59 (a2 + 24) ≤ 2147483647 from by omega) (fun c_206 hI_207 hF_208 => ?_))
                refine bk_inl ?_
                refine q_iload rfl rfl ?_
                refine q_aload_n rfl rfl ?_
                refine q_iload_n rfl rfl ?_
                have kn_209 : Hid (c_206 59 (4 * a2) = c 59 (4 * a2)) := (hF_208 59 (4 * a2) (by omega)).trans ((up_n (by omega)).trans ((up_n (by omega)).trans ((up_n (by omega)).trans ((up_n (by omega)).trans ((up_n (by omega)).trans ((up_n (by omega)).trans ((up_n (by omega)).trans (up_n (by omega)))))))))
                have kn_210 : Hid (c_206 59 (4 * a2 + 1) = c 59 (4 * a2 + 1)) := (hF_208 59 (4 * a2 + 1) (by omega)).trans ((up_n (by omega)).trans ((up_n (by omega)).trans ((up_n (by omega)).trans ((up_n (by omega)).trans ((up_n (by omega)).trans ((up_n (by omega)).trans ((up_n (by omega)).trans (up_n (by omega)))))))))
                have kn_211 : Hid (c_206 59 (4 * a2 + 2) = c 59 (4 * a2 + 2)) := (hF_208 59 (4 * a2 + 2) (by omega)).trans ((up_n (by omega)).trans ((up_n (by omega)).trans ((up_n (by omega)).trans ((up_n (by omega)).trans ((up_n (by omega)).trans ((up_n (by omega)).trans ((up_n (by omega)).trans (up_n (by omega)))))))))
                have kn_212 : Hid (c_206 59 (4 * a2 + 3) = c 59 (4 * a2 + 3)) := (hF_208 59 (4 * a2 + 3) (by omega)).trans ((up_n (by omega)).trans ((up_n (by omega)).trans ((up_n (by omega)).trans ((up_n (by omega)).trans ((up_n (by omega)).trans ((up_n (by omega)).trans ((up_n (by omega)).trans (up_n (by omega)))))))))
                refine v_cv rfl rfl rfl rfl (by decide) ⟨⟨rfl, rfl⟩, by decide, rfl⟩ (Nat.le_of_ble_eq_true rfl) (Nat.le_of_ble_eq_true rfl) (s_187 (v1 := c 59 (4 * a2)) (v2 := c 59 (4 * a2 + 1)) (v3 := c 59 (4 * a2 + 2)) (v4 := c 59 (4 * a2 + 3)) (r := c 59 (4 * a2 + 1) + c 59 (4 * a2 + 2) + c 59 (4 * a2 + 3) + c 59 (4 * a2)) (a1 := a2) hI_207 (show 0 ≤ a2 ∧ a2 ≤ 5 from by omega) ((hid kn_209)) ((hid kn_210)) ((hid kn_211)) ((hid kn_212)) (by omega) ?_)
                refine bk_inl ?_
                by_cases h_213 : (fal (c 49 a1) (c 59 (a1 + 30)) 0 (c 59 (4 * a2))) + (fal (c 49 a1) (c 59 (a1 + 30)) 1 (c 59 (4 * a2 + 1))) + (fal (c 49 a1) (c 59 (a1 + 30)) 2 (c 59 (4 * a2 + 2))) + (fal (c 49 a1) (c 59 (a1 + 30)) 3 (c 59 (4 * a2 + 3))) ≥ c 59 (4 * a2 + 1) + c 59 (4 * a2 + 2) + c 59 (4 * a2 + 3) + c 59 (4 * a2)
                · refine v_ic_ge_t (t := 186) rfl (by decide) (by omega) ?_
                  refine q_aload_n rfl rfl ?_
                  refine q_iload_n rfl rfl ?_
                  refine v_cv rfl rfl rfl rfl (by decide) ⟨⟨rfl, rfl⟩, by decide, rfl⟩ (Nat.le_of_ble_eq_true rfl) (Nat.le_of_ble_eq_true rfl) (s_192 (a1 := a2) hI_207 (show 0 ≤ a2 ∧ a2 ≤ 5 from by omega) (fun c_214 hI_215 hF_216 h_217 => ?_))
                  refine bk_inl ?_
                  have h_218 := ir_59_g hI_215 (j := 4 * a2 + 1) (by omega)
                  have h_219 := ir_59_g hI_215 (j := 4 * a2 + 2) (by omega)
                  have h_220 := ir_59_g hI_215 (j := 4 * a2 + 3) (by omega)
                  have h_221 := ir_59_g hI_215 (j := 4 * a2) (by omega)
                  refine q_iconst rfl ?_
                  refine v_zret rfl rfl (by omega) ?_
                  have hr_222 : ∀ j : Int, rs 59 j → c_214 59 j + c_214 59 (j + 1) + c_214 59 (j + 2) + c_214 59 (j + 3) ≤ 9999 := by
                    intro j9 hj9
                    obtain ⟨k9, rfl, hk9⟩ := rs_59 hj9
                    by_cases e_223 : k9 = a2
                    · skip
                      have h_224 : c_214 59 (4 * k9) = c_214 59 (4 * a2) := (congrArg (c_214 59) (show 4 * k9 = 4 * a2 from by omega))
                      have h_225 : c_214 59 (4 * k9 + 1) = c_214 59 (4 * a2 + 1) := (congrArg (c_214 59) (show 4 * k9 + 1 = 4 * a2 + 1 from by omega))
                      have h_226 : c_214 59 (4 * k9 + 2) = c_214 59 (4 * a2 + 2) := (congrArg (c_214 59) (show 4 * k9 + 2 = 4 * a2 + 2 from by omega))
                      have h_227 : c_214 59 (4 * k9 + 3) = c_214 59 (4 * a2 + 3) := (congrArg (c_214 59) (show 4 * k9 + 3 = 4 * a2 + 3 from by omega))
                      omega
                    by_cases e_228 : k9 = a3
                    · skip
                      have kn_229 : Hid (c_206 59 (4 * a3) = (fal (c 49 a1) (c 59 (a1 + 30)) 0 (c 59 (4 * a2))) + c 59 (4 * a3)) := (hF_208 59 (4 * a3) (by omega)).trans ((up_n (by omega)).trans ((up_n (by omega)).trans ((up_n (by omega)).trans ((up_n (by omega)).trans ((up_n (by omega)).trans ((up_n (by omega)).trans ((up_n (by omega)).trans (up_e rfl))))))))
                      have kn_230 : Hid (c_214 59 (4 * a3) = (fal (c 49 a1) (c 59 (a1 + 30)) 0 (c 59 (4 * a2))) + c 59 (4 * a3)) := (hF_216 59 (4 * a3) (by omega)).trans (hid kn_229)
                      have h_231 : c_214 59 (4 * k9) = (fal (c 49 a1) (c 59 (a1 + 30)) 0 (c 59 (4 * a2))) + c 59 (4 * a3) := (congrArg (c_214 59) (show 4 * k9 = 4 * a3 from by omega)).trans (hid kn_230)
                      have kn_232 : Hid (c_206 59 (4 * a3 + 1) = (fal (c 49 a1) (c 59 (a1 + 30)) 1 (c 59 (4 * a2 + 1))) + c 59 (4 * a3 + 1)) := (hF_208 59 (4 * a3 + 1) (by omega)).trans ((up_n (by omega)).trans ((up_n (by omega)).trans ((up_n (by omega)).trans ((up_n (by omega)).trans ((up_n (by omega)).trans (up_e rfl))))))
                      have kn_233 : Hid (c_214 59 (4 * a3 + 1) = (fal (c 49 a1) (c 59 (a1 + 30)) 1 (c 59 (4 * a2 + 1))) + c 59 (4 * a3 + 1)) := (hF_216 59 (4 * a3 + 1) (by omega)).trans (hid kn_232)
                      have h_234 : c_214 59 (4 * k9 + 1) = (fal (c 49 a1) (c 59 (a1 + 30)) 1 (c 59 (4 * a2 + 1))) + c 59 (4 * a3 + 1) := (congrArg (c_214 59) (show 4 * k9 + 1 = 4 * a3 + 1 from by omega)).trans (hid kn_233)
                      have kn_235 : Hid (c_206 59 (4 * a3 + 2) = (fal (c 49 a1) (c 59 (a1 + 30)) 2 (c 59 (4 * a2 + 2))) + c 59 (4 * a3 + 2)) := (hF_208 59 (4 * a3 + 2) (by omega)).trans ((up_n (by omega)).trans ((up_n (by omega)).trans ((up_n (by omega)).trans (up_e rfl))))
                      have kn_236 : Hid (c_214 59 (4 * a3 + 2) = (fal (c 49 a1) (c 59 (a1 + 30)) 2 (c 59 (4 * a2 + 2))) + c 59 (4 * a3 + 2)) := (hF_216 59 (4 * a3 + 2) (by omega)).trans (hid kn_235)
                      have h_237 : c_214 59 (4 * k9 + 2) = (fal (c 49 a1) (c 59 (a1 + 30)) 2 (c 59 (4 * a2 + 2))) + c 59 (4 * a3 + 2) := (congrArg (c_214 59) (show 4 * k9 + 2 = 4 * a3 + 2 from by omega)).trans (hid kn_236)
                      have kn_238 : Hid (c_206 59 (4 * a3 + 3) = (fal (c 49 a1) (c 59 (a1 + 30)) 3 (c 59 (4 * a2 + 3))) + c 59 (4 * a3 + 3)) := (hF_208 59 (4 * a3 + 3) (by omega)).trans ((up_n (by omega)).trans (up_e rfl))
                      have kn_239 : Hid (c_214 59 (4 * a3 + 3) = (fal (c 49 a1) (c 59 (a1 + 30)) 3 (c 59 (4 * a2 + 3))) + c 59 (4 * a3 + 3)) := (hF_216 59 (4 * a3 + 3) (by omega)).trans (hid kn_238)
                      have h_240 : c_214 59 (4 * k9 + 3) = (fal (c 49 a1) (c 59 (a1 + 30)) 3 (c 59 (4 * a2 + 3))) + c 59 (4 * a3 + 3) := (congrArg (c_214 59) (show 4 * k9 + 3 = 4 * a3 + 3 from by omega)).trans (hid kn_239)
                      omega
                    by_cases e_241 : k9 = a4
                    · skip
                      have kn_242 : Hid (c_206 59 (4 * a4) = c 59 (4 * a2) + c 59 (4 * a4) - (fal (c 49 a1) (c 59 (a1 + 30)) 0 (c 59 (4 * a2)))) := (hF_208 59 (4 * a4) (by omega)).trans ((up_n (by omega)).trans ((up_n (by omega)).trans ((up_n (by omega)).trans ((up_n (by omega)).trans ((up_n (by omega)).trans ((up_n (by omega)).trans (up_e rfl)))))))
                      have kn_243 : Hid (c_214 59 (4 * a4) = c 59 (4 * a2) + c 59 (4 * a4) - (fal (c 49 a1) (c 59 (a1 + 30)) 0 (c 59 (4 * a2)))) := (hF_216 59 (4 * a4) (by omega)).trans (hid kn_242)
                      have h_244 : c_214 59 (4 * k9) = c 59 (4 * a2) + c 59 (4 * a4) - (fal (c 49 a1) (c 59 (a1 + 30)) 0 (c 59 (4 * a2))) := (congrArg (c_214 59) (show 4 * k9 = 4 * a4 from by omega)).trans (hid kn_243)
                      have kn_245 : Hid (c_206 59 (4 * a4 + 1) = c 59 (4 * a2 + 1) + c 59 (4 * a4 + 1) - (fal (c 49 a1) (c 59 (a1 + 30)) 1 (c 59 (4 * a2 + 1)))) := (hF_208 59 (4 * a4 + 1) (by omega)).trans ((up_n (by omega)).trans ((up_n (by omega)).trans ((up_n (by omega)).trans ((up_n (by omega)).trans (up_e rfl)))))
                      have kn_246 : Hid (c_214 59 (4 * a4 + 1) = c 59 (4 * a2 + 1) + c 59 (4 * a4 + 1) - (fal (c 49 a1) (c 59 (a1 + 30)) 1 (c 59 (4 * a2 + 1)))) := (hF_216 59 (4 * a4 + 1) (by omega)).trans (hid kn_245)
                      have h_247 : c_214 59 (4 * k9 + 1) = c 59 (4 * a2 + 1) + c 59 (4 * a4 + 1) - (fal (c 49 a1) (c 59 (a1 + 30)) 1 (c 59 (4 * a2 + 1))) := (congrArg (c_214 59) (show 4 * k9 + 1 = 4 * a4 + 1 from by omega)).trans (hid kn_246)
                      have kn_248 : Hid (c_206 59 (4 * a4 + 2) = c 59 (4 * a2 + 2) + c 59 (4 * a4 + 2) - (fal (c 49 a1) (c 59 (a1 + 30)) 2 (c 59 (4 * a2 + 2)))) := (hF_208 59 (4 * a4 + 2) (by omega)).trans ((up_n (by omega)).trans ((up_n (by omega)).trans (up_e rfl)))
                      have kn_249 : Hid (c_214 59 (4 * a4 + 2) = c 59 (4 * a2 + 2) + c 59 (4 * a4 + 2) - (fal (c 49 a1) (c 59 (a1 + 30)) 2 (c 59 (4 * a2 + 2)))) := (hF_216 59 (4 * a4 + 2) (by omega)).trans (hid kn_248)
                      have h_250 : c_214 59 (4 * k9 + 2) = c 59 (4 * a2 + 2) + c 59 (4 * a4 + 2) - (fal (c 49 a1) (c 59 (a1 + 30)) 2 (c 59 (4 * a2 + 2))) := (congrArg (c_214 59) (show 4 * k9 + 2 = 4 * a4 + 2 from by omega)).trans (hid kn_249)
                      have kn_251 : Hid (c_206 59 (4 * a4 + 3) = c 59 (4 * a2 + 3) + c 59 (4 * a4 + 3) - (fal (c 49 a1) (c 59 (a1 + 30)) 3 (c 59 (4 * a2 + 3)))) := (hF_208 59 (4 * a4 + 3) (by omega)).trans (up_e rfl)
                      have kn_252 : Hid (c_214 59 (4 * a4 + 3) = c 59 (4 * a2 + 3) + c 59 (4 * a4 + 3) - (fal (c 49 a1) (c 59 (a1 + 30)) 3 (c 59 (4 * a2 + 3)))) := (hF_216 59 (4 * a4 + 3) (by omega)).trans (hid kn_251)
                      have h_253 : c_214 59 (4 * k9 + 3) = c 59 (4 * a2 + 3) + c 59 (4 * a4 + 3) - (fal (c 49 a1) (c 59 (a1 + 30)) 3 (c 59 (4 * a2 + 3))) := (congrArg (c_214 59) (show 4 * k9 + 3 = 4 * a4 + 3 from by omega)).trans (hid kn_252)
                      omega
                    have h_254 := iv_r hI 59 (4 * k9) hj9 (by omega)
                    have h_255 := ir_59_g hI (j := 4 * k9) (by omega)
                    have kn_256 : Hid (c_206 59 (4 * k9) = c 59 (4 * k9)) := (hF_208 59 (4 * k9) (by omega)).trans ((up_n (by omega)).trans ((up_n (by omega)).trans ((up_n (by omega)).trans ((up_n (by omega)).trans ((up_n (by omega)).trans ((up_n (by omega)).trans ((up_n (by omega)).trans (up_n (by omega)))))))))
                    have kn_257 : Hid (c_214 59 (4 * k9) = c 59 (4 * k9)) := (hF_216 59 (4 * k9) (by omega)).trans (hid kn_256)
                    have h_258 : c_214 59 (4 * k9) = c 59 (4 * k9) := (hid kn_257)
                    have h_259 := ir_59_g hI (j := 4 * k9 + 1) (by omega)
                    have kn_260 : Hid (c_206 59 (4 * k9 + 1) = c 59 (4 * k9 + 1)) := (hF_208 59 (4 * k9 + 1) (by omega)).trans ((up_n (by omega)).trans ((up_n (by omega)).trans ((up_n (by omega)).trans ((up_n (by omega)).trans ((up_n (by omega)).trans ((up_n (by omega)).trans ((up_n (by omega)).trans (up_n (by omega)))))))))
                    have kn_261 : Hid (c_214 59 (4 * k9 + 1) = c 59 (4 * k9 + 1)) := (hF_216 59 (4 * k9 + 1) (by omega)).trans (hid kn_260)
                    have h_262 : c_214 59 (4 * k9 + 1) = c 59 (4 * k9 + 1) := (hid kn_261)
                    have h_263 := ir_59_g hI (j := 4 * k9 + 2) (by omega)
                    have kn_264 : Hid (c_206 59 (4 * k9 + 2) = c 59 (4 * k9 + 2)) := (hF_208 59 (4 * k9 + 2) (by omega)).trans ((up_n (by omega)).trans ((up_n (by omega)).trans ((up_n (by omega)).trans ((up_n (by omega)).trans ((up_n (by omega)).trans ((up_n (by omega)).trans ((up_n (by omega)).trans (up_n (by omega)))))))))
                    have kn_265 : Hid (c_214 59 (4 * k9 + 2) = c 59 (4 * k9 + 2)) := (hF_216 59 (4 * k9 + 2) (by omega)).trans (hid kn_264)
                    have h_266 : c_214 59 (4 * k9 + 2) = c 59 (4 * k9 + 2) := (hid kn_265)
                    have h_267 := ir_59_g hI (j := 4 * k9 + 3) (by omega)
                    have kn_268 : Hid (c_206 59 (4 * k9 + 3) = c 59 (4 * k9 + 3)) := (hF_208 59 (4 * k9 + 3) (by omega)).trans ((up_n (by omega)).trans ((up_n (by omega)).trans ((up_n (by omega)).trans ((up_n (by omega)).trans ((up_n (by omega)).trans ((up_n (by omega)).trans ((up_n (by omega)).trans (up_n (by omega)))))))))
                    have kn_269 : Hid (c_214 59 (4 * k9 + 3) = c 59 (4 * k9 + 3)) := (hF_216 59 (4 * k9 + 3) (by omega)).trans (hid kn_268)
                    have h_270 : c_214 59 (4 * k9 + 3) = c 59 (4 * k9 + 3) := (hid kn_269)
                    omega
                  have hI_271 := iv_close hI_215 hr_222
                  exact K c_214 1 hI_271 (fun a j hm => (hF_216 a j (by omega)).trans ((hF_208 a j (by omega)).trans ((up_b (by omega)).trans ((up_b (by omega)).trans ((up_b (by omega)).trans ((up_b (by omega)).trans ((up_b (by omega)).trans ((up_b (by omega)).trans ((up_b (by omega)).trans (up_b (by omega))))))))))) ⟨by decide, by decide⟩
                · refine v_ic_ge_f (t := 186) rfl (by decide) (by omega) ?_
                  refine q_aload_n rfl rfl ?_
                  refine q_iload rfl rfl ?_
                  refine q_aload_n rfl rfl ?_
                  refine v_gr (t := 59) rfl rfl rfl (by decide) rfl ?_
                  refine v_bip rfl (by decide) ?_
                  refine q_iload_n rfl rfl ?_
                  refine v_iadd (v := a2 + 24) rfl (by omega) ?_
                  have kn_272 : Hid (c_206 59 (a2 + 24) = c 59 (a2 + 24)) := (hF_208 59 (a2 + 24) (by omega)).trans ((up_n (by omega)).trans ((up_n (by omega)).trans ((up_n (by omega)).trans ((up_n (by omega)).trans ((up_n (by omega)).trans ((up_n (by omega)).trans ((up_n (by omega)).trans (up_n (by omega)))))))))
                  refine v_ia (v := c 59 (a2 + 24)) rfl rfl (by decide) (by decide) (by omega) (hid kn_272) ?_
                  refine v_cv rfl rfl rfl rfl (by decide) ⟨⟨rfl, rfl⟩, by decide, rfl⟩ (Nat.le_of_ble_eq_true rfl) (Nat.le_of_ble_eq_true rfl) (s_191 (a1 := a4) (a2 := c 59 (a2 + 24)) hI_207 (show 0 ≤ a4 ∧ a4 ≤ 5 from by omega) (show (-2147483648) ≤ c 59 (a2 + 24) ∧ c 59 (a2 + 24) ≤ 2147483647 from by omega) (fun c_273 hI_274 hF_275 => ?_))
                  refine bk_inl ?_
                  refine q_aload_n rfl rfl ?_
                  refine q_iload_n rfl rfl ?_
                  refine v_cv rfl rfl rfl rfl (by decide) ⟨⟨rfl, rfl⟩, by decide, rfl⟩ (Nat.le_of_ble_eq_true rfl) (Nat.le_of_ble_eq_true rfl) (s_192 (a1 := a2) hI_274 (show 0 ≤ a2 ∧ a2 ≤ 5 from by omega) (fun c_276 hI_277 hF_278 h_279 => ?_))
                  refine bk_inl ?_
                  have h_280 := ir_59_g hI_277 (j := 4 * a2 + 1) (by omega)
                  have h_281 := ir_59_g hI_277 (j := 4 * a2 + 2) (by omega)
                  have h_282 := ir_59_g hI_277 (j := 4 * a2 + 3) (by omega)
                  have h_283 := ir_59_g hI_277 (j := 4 * a2) (by omega)
                  refine q_iconst rfl ?_
                  refine v_zret rfl rfl (by omega) ?_
                  have hr_284 : ∀ j : Int, rs 59 j → c_276 59 j + c_276 59 (j + 1) + c_276 59 (j + 2) + c_276 59 (j + 3) ≤ 9999 := by
                    intro j9 hj9
                    obtain ⟨k9, rfl, hk9⟩ := rs_59 hj9
                    by_cases e_285 : k9 = a2
                    · skip
                      have h_286 : c_276 59 (4 * k9) = c_276 59 (4 * a2) := (congrArg (c_276 59) (show 4 * k9 = 4 * a2 from by omega))
                      have h_287 : c_276 59 (4 * k9 + 1) = c_276 59 (4 * a2 + 1) := (congrArg (c_276 59) (show 4 * k9 + 1 = 4 * a2 + 1 from by omega))
                      have h_288 : c_276 59 (4 * k9 + 2) = c_276 59 (4 * a2 + 2) := (congrArg (c_276 59) (show 4 * k9 + 2 = 4 * a2 + 2 from by omega))
                      have h_289 : c_276 59 (4 * k9 + 3) = c_276 59 (4 * a2 + 3) := (congrArg (c_276 59) (show 4 * k9 + 3 = 4 * a2 + 3 from by omega))
                      omega
                    by_cases e_290 : k9 = a3
                    · skip
                      have kn_291 : Hid (c_206 59 (4 * a3) = (fal (c 49 a1) (c 59 (a1 + 30)) 0 (c 59 (4 * a2))) + c 59 (4 * a3)) := (hF_208 59 (4 * a3) (by omega)).trans ((up_n (by omega)).trans ((up_n (by omega)).trans ((up_n (by omega)).trans ((up_n (by omega)).trans ((up_n (by omega)).trans ((up_n (by omega)).trans ((up_n (by omega)).trans (up_e rfl))))))))
                      have kn_292 : Hid (c_273 59 (4 * a3) = (fal (c 49 a1) (c 59 (a1 + 30)) 0 (c 59 (4 * a2))) + c 59 (4 * a3)) := (hF_275 59 (4 * a3) (by omega)).trans (hid kn_291)
                      have kn_293 : Hid (c_276 59 (4 * a3) = (fal (c 49 a1) (c 59 (a1 + 30)) 0 (c 59 (4 * a2))) + c 59 (4 * a3)) := (hF_278 59 (4 * a3) (by omega)).trans (hid kn_292)
                      have h_294 : c_276 59 (4 * k9) = (fal (c 49 a1) (c 59 (a1 + 30)) 0 (c 59 (4 * a2))) + c 59 (4 * a3) := (congrArg (c_276 59) (show 4 * k9 = 4 * a3 from by omega)).trans (hid kn_293)
                      have kn_295 : Hid (c_206 59 (4 * a3 + 1) = (fal (c 49 a1) (c 59 (a1 + 30)) 1 (c 59 (4 * a2 + 1))) + c 59 (4 * a3 + 1)) := (hF_208 59 (4 * a3 + 1) (by omega)).trans ((up_n (by omega)).trans ((up_n (by omega)).trans ((up_n (by omega)).trans ((up_n (by omega)).trans ((up_n (by omega)).trans (up_e rfl))))))
                      have kn_296 : Hid (c_273 59 (4 * a3 + 1) = (fal (c 49 a1) (c 59 (a1 + 30)) 1 (c 59 (4 * a2 + 1))) + c 59 (4 * a3 + 1)) := (hF_275 59 (4 * a3 + 1) (by omega)).trans (hid kn_295)
                      have kn_297 : Hid (c_276 59 (4 * a3 + 1) = (fal (c 49 a1) (c 59 (a1 + 30)) 1 (c 59 (4 * a2 + 1))) + c 59 (4 * a3 + 1)) := (hF_278 59 (4 * a3 + 1) (by omega)).trans (hid kn_296)
                      have h_298 : c_276 59 (4 * k9 + 1) = (fal (c 49 a1) (c 59 (a1 + 30)) 1 (c 59 (4 * a2 + 1))) + c 59 (4 * a3 + 1) := (congrArg (c_276 59) (show 4 * k9 + 1 = 4 * a3 + 1 from by omega)).trans (hid kn_297)
                      have kn_299 : Hid (c_206 59 (4 * a3 + 2) = (fal (c 49 a1) (c 59 (a1 + 30)) 2 (c 59 (4 * a2 + 2))) + c 59 (4 * a3 + 2)) := (hF_208 59 (4 * a3 + 2) (by omega)).trans ((up_n (by omega)).trans ((up_n (by omega)).trans ((up_n (by omega)).trans (up_e rfl))))
                      have kn_300 : Hid (c_273 59 (4 * a3 + 2) = (fal (c 49 a1) (c 59 (a1 + 30)) 2 (c 59 (4 * a2 + 2))) + c 59 (4 * a3 + 2)) := (hF_275 59 (4 * a3 + 2) (by omega)).trans (hid kn_299)
                      have kn_301 : Hid (c_276 59 (4 * a3 + 2) = (fal (c 49 a1) (c 59 (a1 + 30)) 2 (c 59 (4 * a2 + 2))) + c 59 (4 * a3 + 2)) := (hF_278 59 (4 * a3 + 2) (by omega)).trans (hid kn_300)
                      have h_302 : c_276 59 (4 * k9 + 2) = (fal (c 49 a1) (c 59 (a1 + 30)) 2 (c 59 (4 * a2 + 2))) + c 59 (4 * a3 + 2) := (congrArg (c_276 59) (show 4 * k9 + 2 = 4 * a3 + 2 from by omega)).trans (hid kn_301)
                      have kn_303 : Hid (c_206 59 (4 * a3 + 3) = (fal (c 49 a1) (c 59 (a1 + 30)) 3 (c 59 (4 * a2 + 3))) + c 59 (4 * a3 + 3)) := (hF_208 59 (4 * a3 + 3) (by omega)).trans ((up_n (by omega)).trans (up_e rfl))
                      have kn_304 : Hid (c_273 59 (4 * a3 + 3) = (fal (c 49 a1) (c 59 (a1 + 30)) 3 (c 59 (4 * a2 + 3))) + c 59 (4 * a3 + 3)) := (hF_275 59 (4 * a3 + 3) (by omega)).trans (hid kn_303)
                      have kn_305 : Hid (c_276 59 (4 * a3 + 3) = (fal (c 49 a1) (c 59 (a1 + 30)) 3 (c 59 (4 * a2 + 3))) + c 59 (4 * a3 + 3)) := (hF_278 59 (4 * a3 + 3) (by omega)).trans (hid kn_304)
                      have h_306 : c_276 59 (4 * k9 + 3) = (fal (c 49 a1) (c 59 (a1 + 30)) 3 (c 59 (4 * a2 + 3))) + c 59 (4 * a3 + 3) := (congrArg (c_276 59) (show 4 * k9 + 3 = 4 * a3 + 3 from by omega)).trans (hid kn_305)
                      omega
                    by_cases e_307 : k9 = a4
                    · skip
                      have kn_308 : Hid (c_206 59 (4 * a4) = c 59 (4 * a2) + c 59 (4 * a4) - (fal (c 49 a1) (c 59 (a1 + 30)) 0 (c 59 (4 * a2)))) := (hF_208 59 (4 * a4) (by omega)).trans ((up_n (by omega)).trans ((up_n (by omega)).trans ((up_n (by omega)).trans ((up_n (by omega)).trans ((up_n (by omega)).trans ((up_n (by omega)).trans (up_e rfl)))))))
                      have kn_309 : Hid (c_273 59 (4 * a4) = c 59 (4 * a2) + c 59 (4 * a4) - (fal (c 49 a1) (c 59 (a1 + 30)) 0 (c 59 (4 * a2)))) := (hF_275 59 (4 * a4) (by omega)).trans (hid kn_308)
                      have kn_310 : Hid (c_276 59 (4 * a4) = c 59 (4 * a2) + c 59 (4 * a4) - (fal (c 49 a1) (c 59 (a1 + 30)) 0 (c 59 (4 * a2)))) := (hF_278 59 (4 * a4) (by omega)).trans (hid kn_309)
                      have h_311 : c_276 59 (4 * k9) = c 59 (4 * a2) + c 59 (4 * a4) - (fal (c 49 a1) (c 59 (a1 + 30)) 0 (c 59 (4 * a2))) := (congrArg (c_276 59) (show 4 * k9 = 4 * a4 from by omega)).trans (hid kn_310)
                      have kn_312 : Hid (c_206 59 (4 * a4 + 1) = c 59 (4 * a2 + 1) + c 59 (4 * a4 + 1) - (fal (c 49 a1) (c 59 (a1 + 30)) 1 (c 59 (4 * a2 + 1)))) := (hF_208 59 (4 * a4 + 1) (by omega)).trans ((up_n (by omega)).trans ((up_n (by omega)).trans ((up_n (by omega)).trans ((up_n (by omega)).trans (up_e rfl)))))
                      have kn_313 : Hid (c_273 59 (4 * a4 + 1) = c 59 (4 * a2 + 1) + c 59 (4 * a4 + 1) - (fal (c 49 a1) (c 59 (a1 + 30)) 1 (c 59 (4 * a2 + 1)))) := (hF_275 59 (4 * a4 + 1) (by omega)).trans (hid kn_312)
                      have kn_314 : Hid (c_276 59 (4 * a4 + 1) = c 59 (4 * a2 + 1) + c 59 (4 * a4 + 1) - (fal (c 49 a1) (c 59 (a1 + 30)) 1 (c 59 (4 * a2 + 1)))) := (hF_278 59 (4 * a4 + 1) (by omega)).trans (hid kn_313)
                      have h_315 : c_276 59 (4 * k9 + 1) = c 59 (4 * a2 + 1) + c 59 (4 * a4 + 1) - (fal (c 49 a1) (c 59 (a1 + 30)) 1 (c 59 (4 * a2 + 1))) := (congrArg (c_276 59) (show 4 * k9 + 1 = 4 * a4 + 1 from by omega)).trans (hid kn_314)
                      have kn_316 : Hid (c_206 59 (4 * a4 + 2) = c 59 (4 * a2 + 2) + c 59 (4 * a4 + 2) - (fal (c 49 a1) (c 59 (a1 + 30)) 2 (c 59 (4 * a2 + 2)))) := (hF_208 59 (4 * a4 + 2) (by omega)).trans ((up_n (by omega)).trans ((up_n (by omega)).trans (up_e rfl)))
                      have kn_317 : Hid (c_273 59 (4 * a4 + 2) = c 59 (4 * a2 + 2) + c 59 (4 * a4 + 2) - (fal (c 49 a1) (c 59 (a1 + 30)) 2 (c 59 (4 * a2 + 2)))) := (hF_275 59 (4 * a4 + 2) (by omega)).trans (hid kn_316)
                      have kn_318 : Hid (c_276 59 (4 * a4 + 2) = c 59 (4 * a2 + 2) + c 59 (4 * a4 + 2) - (fal (c 49 a1) (c 59 (a1 + 30)) 2 (c 59 (4 * a2 + 2)))) := (hF_278 59 (4 * a4 + 2) (by omega)).trans (hid kn_317)
                      have h_319 : c_276 59 (4 * k9 + 2) = c 59 (4 * a2 + 2) + c 59 (4 * a4 + 2) - (fal (c 49 a1) (c 59 (a1 + 30)) 2 (c 59 (4 * a2 + 2))) := (congrArg (c_276 59) (show 4 * k9 + 2 = 4 * a4 + 2 from by omega)).trans (hid kn_318)
                      have kn_320 : Hid (c_206 59 (4 * a4 + 3) = c 59 (4 * a2 + 3) + c 59 (4 * a4 + 3) - (fal (c 49 a1) (c 59 (a1 + 30)) 3 (c 59 (4 * a2 + 3)))) := (hF_208 59 (4 * a4 + 3) (by omega)).trans (up_e rfl)
                      have kn_321 : Hid (c_273 59 (4 * a4 + 3) = c 59 (4 * a2 + 3) + c 59 (4 * a4 + 3) - (fal (c 49 a1) (c 59 (a1 + 30)) 3 (c 59 (4 * a2 + 3)))) := (hF_275 59 (4 * a4 + 3) (by omega)).trans (hid kn_320)
                      have kn_322 : Hid (c_276 59 (4 * a4 + 3) = c 59 (4 * a2 + 3) + c 59 (4 * a4 + 3) - (fal (c 49 a1) (c 59 (a1 + 30)) 3 (c 59 (4 * a2 + 3)))) := (hF_278 59 (4 * a4 + 3) (by omega)).trans (hid kn_321)
                      have h_323 : c_276 59 (4 * k9 + 3) = c 59 (4 * a2 + 3) + c 59 (4 * a4 + 3) - (fal (c 49 a1) (c 59 (a1 + 30)) 3 (c 59 (4 * a2 + 3))) := (congrArg (c_276 59) (show 4 * k9 + 3 = 4 * a4 + 3 from by omega)).trans (hid kn_322)
                      omega
                    have h_324 := iv_r hI 59 (4 * k9) hj9 (by omega)
                    have h_325 := ir_59_g hI (j := 4 * k9) (by omega)
                    have kn_326 : Hid (c_206 59 (4 * k9) = c 59 (4 * k9)) := (hF_208 59 (4 * k9) (by omega)).trans ((up_n (by omega)).trans ((up_n (by omega)).trans ((up_n (by omega)).trans ((up_n (by omega)).trans ((up_n (by omega)).trans ((up_n (by omega)).trans ((up_n (by omega)).trans (up_n (by omega)))))))))
                    have kn_327 : Hid (c_273 59 (4 * k9) = c 59 (4 * k9)) := (hF_275 59 (4 * k9) (by omega)).trans (hid kn_326)
                    have kn_328 : Hid (c_276 59 (4 * k9) = c 59 (4 * k9)) := (hF_278 59 (4 * k9) (by omega)).trans (hid kn_327)
                    have h_329 : c_276 59 (4 * k9) = c 59 (4 * k9) := (hid kn_328)
                    have h_330 := ir_59_g hI (j := 4 * k9 + 1) (by omega)
                    have kn_331 : Hid (c_206 59 (4 * k9 + 1) = c 59 (4 * k9 + 1)) := (hF_208 59 (4 * k9 + 1) (by omega)).trans ((up_n (by omega)).trans ((up_n (by omega)).trans ((up_n (by omega)).trans ((up_n (by omega)).trans ((up_n (by omega)).trans ((up_n (by omega)).trans ((up_n (by omega)).trans (up_n (by omega)))))))))
                    have kn_332 : Hid (c_273 59 (4 * k9 + 1) = c 59 (4 * k9 + 1)) := (hF_275 59 (4 * k9 + 1) (by omega)).trans (hid kn_331)
                    have kn_333 : Hid (c_276 59 (4 * k9 + 1) = c 59 (4 * k9 + 1)) := (hF_278 59 (4 * k9 + 1) (by omega)).trans (hid kn_332)
                    have h_334 : c_276 59 (4 * k9 + 1) = c 59 (4 * k9 + 1) := (hid kn_333)
                    have h_335 := ir_59_g hI (j := 4 * k9 + 2) (by omega)
                    have kn_336 : Hid (c_206 59 (4 * k9 + 2) = c 59 (4 * k9 + 2)) := (hF_208 59 (4 * k9 + 2) (by omega)).trans ((up_n (by omega)).trans ((up_n (by omega)).trans ((up_n (by omega)).trans ((up_n (by omega)).trans ((up_n (by omega)).trans ((up_n (by omega)).trans ((up_n (by omega)).trans (up_n (by omega)))))))))
                    have kn_337 : Hid (c_273 59 (4 * k9 + 2) = c 59 (4 * k9 + 2)) := (hF_275 59 (4 * k9 + 2) (by omega)).trans (hid kn_336)
                    have kn_338 : Hid (c_276 59 (4 * k9 + 2) = c 59 (4 * k9 + 2)) := (hF_278 59 (4 * k9 + 2) (by omega)).trans (hid kn_337)
                    have h_339 : c_276 59 (4 * k9 + 2) = c 59 (4 * k9 + 2) := (hid kn_338)
                    have h_340 := ir_59_g hI (j := 4 * k9 + 3) (by omega)
                    have kn_341 : Hid (c_206 59 (4 * k9 + 3) = c 59 (4 * k9 + 3)) := (hF_208 59 (4 * k9 + 3) (by omega)).trans ((up_n (by omega)).trans ((up_n (by omega)).trans ((up_n (by omega)).trans ((up_n (by omega)).trans ((up_n (by omega)).trans ((up_n (by omega)).trans ((up_n (by omega)).trans (up_n (by omega)))))))))
                    have kn_342 : Hid (c_273 59 (4 * k9 + 3) = c 59 (4 * k9 + 3)) := (hF_275 59 (4 * k9 + 3) (by omega)).trans (hid kn_341)
                    have kn_343 : Hid (c_276 59 (4 * k9 + 3) = c 59 (4 * k9 + 3)) := (hF_278 59 (4 * k9 + 3) (by omega)).trans (hid kn_342)
                    have h_344 : c_276 59 (4 * k9 + 3) = c 59 (4 * k9 + 3) := (hid kn_343)
                    omega
                  have hI_345 := iv_close hI_277 hr_284
                  exact K c_276 1 hI_345 (fun a j hm => (hF_278 a j (by omega)).trans ((hF_275 a j (by omega)).trans ((hF_208 a j (by omega)).trans ((up_b (by omega)).trans ((up_b (by omega)).trans ((up_b (by omega)).trans ((up_b (by omega)).trans ((up_b (by omega)).trans ((up_b (by omega)).trans ((up_b (by omega)).trans (up_b (by omega)))))))))))) ⟨by decide, by decide⟩
            · refine v_ic_le_f (t := 72) rfl (by decide) (by omega) ?_
              refine q_iconst rfl ?_
              refine v_zret rfl rfl (by omega) ?_
              have hr_346 : ∀ j : Int, rs 59 j → c 59 j + c 59 (j + 1) + c 59 (j + 2) + c 59 (j + 3) ≤ 9999 := by
                intro j9 hj9
                obtain ⟨k9, rfl, hk9⟩ := rs_59 hj9
                by_cases e_347 : k9 = a2
                · skip
                  have h_348 : c 59 (4 * k9) = c 59 (4 * a2) := (congrArg (c 59) (show 4 * k9 = 4 * a2 from by omega))
                  have h_349 : c 59 (4 * k9 + 1) = c 59 (4 * a2 + 1) := (congrArg (c 59) (show 4 * k9 + 1 = 4 * a2 + 1 from by omega))
                  have h_350 : c 59 (4 * k9 + 2) = c 59 (4 * a2 + 2) := (congrArg (c 59) (show 4 * k9 + 2 = 4 * a2 + 2 from by omega))
                  have h_351 : c 59 (4 * k9 + 3) = c 59 (4 * a2 + 3) := (congrArg (c 59) (show 4 * k9 + 3 = 4 * a2 + 3 from by omega))
                  omega
                by_cases e_352 : k9 = a3
                · skip
                  have h_353 : c 59 (4 * k9) = c 59 (4 * a3) := (congrArg (c 59) (show 4 * k9 = 4 * a3 from by omega))
                  have h_354 : c 59 (4 * k9 + 1) = c 59 (4 * a3 + 1) := (congrArg (c 59) (show 4 * k9 + 1 = 4 * a3 + 1 from by omega))
                  have h_355 : c 59 (4 * k9 + 2) = c 59 (4 * a3 + 2) := (congrArg (c 59) (show 4 * k9 + 2 = 4 * a3 + 2 from by omega))
                  have h_356 : c 59 (4 * k9 + 3) = c 59 (4 * a3 + 3) := (congrArg (c 59) (show 4 * k9 + 3 = 4 * a3 + 3 from by omega))
                  omega
                by_cases e_357 : k9 = a4
                · skip
                  have h_358 : c 59 (4 * k9) = c 59 (4 * a4) := (congrArg (c 59) (show 4 * k9 = 4 * a4 from by omega))
                  have h_359 : c 59 (4 * k9 + 1) = c 59 (4 * a4 + 1) := (congrArg (c 59) (show 4 * k9 + 1 = 4 * a4 + 1 from by omega))
                  have h_360 : c 59 (4 * k9 + 2) = c 59 (4 * a4 + 2) := (congrArg (c 59) (show 4 * k9 + 2 = 4 * a4 + 2 from by omega))
                  have h_361 : c 59 (4 * k9 + 3) = c 59 (4 * a4 + 3) := (congrArg (c 59) (show 4 * k9 + 3 = 4 * a4 + 3 from by omega))
                  omega
                have h_362 := iv_r hI 59 (4 * k9) hj9 (by omega)
                have h_363 := ir_59_g hI (j := 4 * k9) (by omega)
                have h_364 : c 59 (4 * k9) = c 59 (4 * k9) := rfl
                have h_365 := ir_59_g hI (j := 4 * k9 + 1) (by omega)
                have h_366 : c 59 (4 * k9 + 1) = c 59 (4 * k9 + 1) := rfl
                have h_367 := ir_59_g hI (j := 4 * k9 + 2) (by omega)
                have h_368 : c 59 (4 * k9 + 2) = c 59 (4 * k9 + 2) := rfl
                have h_369 := ir_59_g hI (j := 4 * k9 + 3) (by omega)
                have h_370 : c 59 (4 * k9 + 3) = c 59 (4 * k9 + 3) := rfl
                omega
              have hI_371 := iv_close hIo hr_346
              exact K c 0 hI_371 (fun a j hm => rfl) ⟨by decide, by decide⟩
        · refine v_ic_ne_f (t := 27) rfl (by decide) (by omega) ?_
          refine q_iconst rfl ?_
          refine v_zret rfl rfl (by omega) ?_
          have hr_372 : ∀ j : Int, rs 59 j → c 59 j + c 59 (j + 1) + c 59 (j + 2) + c 59 (j + 3) ≤ 9999 := by
            intro j9 hj9
            obtain ⟨k9, rfl, hk9⟩ := rs_59 hj9
            by_cases e_373 : k9 = a2
            · skip
              have h_374 : c 59 (4 * k9) = c 59 (4 * a2) := (congrArg (c 59) (show 4 * k9 = 4 * a2 from by omega))
              have h_375 : c 59 (4 * k9 + 1) = c 59 (4 * a2 + 1) := (congrArg (c 59) (show 4 * k9 + 1 = 4 * a2 + 1 from by omega))
              have h_376 : c 59 (4 * k9 + 2) = c 59 (4 * a2 + 2) := (congrArg (c 59) (show 4 * k9 + 2 = 4 * a2 + 2 from by omega))
              have h_377 : c 59 (4 * k9 + 3) = c 59 (4 * a2 + 3) := (congrArg (c 59) (show 4 * k9 + 3 = 4 * a2 + 3 from by omega))
              omega
            by_cases e_378 : k9 = a3
            · skip
              have h_379 : c 59 (4 * k9) = c 59 (4 * a3) := (congrArg (c 59) (show 4 * k9 = 4 * a3 from by omega))
              have h_380 : c 59 (4 * k9 + 1) = c 59 (4 * a3 + 1) := (congrArg (c 59) (show 4 * k9 + 1 = 4 * a3 + 1 from by omega))
              have h_381 : c 59 (4 * k9 + 2) = c 59 (4 * a3 + 2) := (congrArg (c 59) (show 4 * k9 + 2 = 4 * a3 + 2 from by omega))
              have h_382 : c 59 (4 * k9 + 3) = c 59 (4 * a3 + 3) := (congrArg (c 59) (show 4 * k9 + 3 = 4 * a3 + 3 from by omega))
              omega
            by_cases e_383 : k9 = a4
            · skip
              have h_384 : c 59 (4 * k9) = c 59 (4 * a4) := (congrArg (c 59) (show 4 * k9 = 4 * a4 from by omega))
              have h_385 : c 59 (4 * k9 + 1) = c 59 (4 * a4 + 1) := (congrArg (c 59) (show 4 * k9 + 1 = 4 * a4 + 1 from by omega))
              have h_386 : c 59 (4 * k9 + 2) = c 59 (4 * a4 + 2) := (congrArg (c 59) (show 4 * k9 + 2 = 4 * a4 + 2 from by omega))
              have h_387 : c 59 (4 * k9 + 3) = c 59 (4 * a4 + 3) := (congrArg (c 59) (show 4 * k9 + 3 = 4 * a4 + 3 from by omega))
              omega
            have h_388 := iv_r hI 59 (4 * k9) hj9 (by omega)
            have h_389 := ir_59_g hI (j := 4 * k9) (by omega)
            have h_390 : c 59 (4 * k9) = c 59 (4 * k9) := rfl
            have h_391 := ir_59_g hI (j := 4 * k9 + 1) (by omega)
            have h_392 : c 59 (4 * k9 + 1) = c 59 (4 * k9 + 1) := rfl
            have h_393 := ir_59_g hI (j := 4 * k9 + 2) (by omega)
            have h_394 : c 59 (4 * k9 + 2) = c 59 (4 * k9 + 2) := rfl
            have h_395 := ir_59_g hI (j := 4 * k9 + 3) (by omega)
            have h_396 : c 59 (4 * k9 + 3) = c 59 (4 * k9 + 3) := rfl
            omega
          have hI_397 := iv_close hIo hr_372
          exact K c 0 hI_397 (fun a j hm => rfl) ⟨by decide, by decide⟩

