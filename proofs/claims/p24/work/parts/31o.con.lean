/-! ===== contracts 15 ===== -/
set_option maxRecDepth 100000 in
set_option maxHeartbeats 4000000 in
theorem s_193 {sc : List Int32} {d P Q : Nat} {c : ME} {a1 : Int} {a2 : Int} {a3 : Int} {a4 : Int} {Z : AR → Prop} (hI : Iv 0 (-1) P Q c) (ha1 : 0 ≤ a1 ∧ a1 ≤ 3) (ha2 : 0 ≤ a2 ∧ a2 ≤ 5) (ha3 : 0 ≤ a3 ∧ a3 ≤ 5) (ha4 : 0 ≤ a4 ∧ a4 ≤ 5) (K : ∀ (c2 : ME) (y : Int), Iv 0 (-1) P Q c2 → (∀ (a : Nat) (j : Int), ¬ (a = 59) → c2 a j = c a j) → 0 ≤ y ∧ y ≤ 1 → Z (.inl (some (vi y)), Wd P Q P P c2, 0, 0)) : Wp sc (d + 9) 193 0 [(0, .ref 41), (1, vi a1), (2, vi a2), (3, vi a3), (4, vi a4)] [] (Wd P Q P P c) 0 0 Z := by
  have hP := iv_P hI
  have hQ := iv_Q hI
  have hIo : Iv 59 (-1) P Q c := iv_open hI
  have hsum_1 := ir_59_r hI (by decide) (j := a2) (by omega)
  have h_2 := ir_59_g hI (j := 4 * a2) (by omega)
  have h_3 := ir_59_g hI (j := 4 * a2 + 1) (by omega)
  have h_4 := ir_59_g hI (j := 4 * a2 + 2) (by omega)
  have h_5 := ir_59_g hI (j := 4 * a2 + 3) (by omega)
  have hsum_6 := ir_59_r hI (by decide) (j := a3) (by omega)
  have h_7 := ir_59_g hI (j := 4 * a3) (by omega)
  have h_8 := ir_59_g hI (j := 4 * a3 + 1) (by omega)
  have h_9 := ir_59_g hI (j := 4 * a3 + 2) (by omega)
  have h_10 := ir_59_g hI (j := 4 * a3 + 3) (by omega)
  have hsum_11 := ir_59_r hI (by decide) (j := a4) (by omega)
  have h_12 := ir_59_g hI (j := 4 * a4) (by omega)
  have h_13 := ir_59_g hI (j := 4 * a4 + 1) (by omega)
  have h_14 := ir_59_g hI (j := 4 * a4 + 2) (by omega)
  have h_15 := ir_59_g hI (j := 4 * a4 + 3) (by omega)
  refine q_aload_n rfl rfl ?_
  refine q_iload_n rfl rfl ?_
  refine v_cv rfl rfl rfl rfl (by decide) ⟨⟨rfl, rfl⟩, by decide, rfl⟩ (Nat.le_of_ble_eq_true rfl) (Nat.le_of_ble_eq_true rfl) (s_187 (v1 := c 59 (4 * a2)) (v2 := c 59 (4 * a2 + 1)) (v3 := c 59 (4 * a2 + 2)) (v4 := c 59 (4 * a2 + 3)) (r := c 59 (4 * a2 + 1) + c 59 (4 * a2 + 2) + c 59 (4 * a2 + 3) + c 59 (4 * a2)) (a1 := a2) hIo (show 0 ≤ a2 ∧ a2 ≤ 5 from by omega) (rfl) (rfl) (rfl) (rfl) (by omega) ?_)
  refine bk_inl ?_
  by_cases h_16 : c 59 (4 * a2 + 1) + c 59 (4 * a2 + 2) + c 59 (4 * a2 + 3) + c 59 (4 * a2) = 0
  · refine v_if_eq_t (t := 25) rfl (by decide) (by omega) ?_
    refine q_iconst rfl ?_
    refine v_zret rfl rfl (by omega) ?_
    have hr_17 : ∀ j : Int, rs 59 j → c 59 j + c 59 (j + 1) + c 59 (j + 2) + c 59 (j + 3) ≤ 9999 := by
      intro j9 hj9
      obtain ⟨k9, rfl, hk9⟩ := rs_59 hj9
      by_cases e_18 : k9 = a2
      · skip
        have h_19 : c 59 (4 * k9) = c 59 (4 * a2) := (congrArg (c 59) (show 4 * k9 = 4 * a2 from by omega))
        have h_20 : c 59 (4 * k9 + 1) = c 59 (4 * a2 + 1) := (congrArg (c 59) (show 4 * k9 + 1 = 4 * a2 + 1 from by omega))
        have h_21 : c 59 (4 * k9 + 2) = c 59 (4 * a2 + 2) := (congrArg (c 59) (show 4 * k9 + 2 = 4 * a2 + 2 from by omega))
        have h_22 : c 59 (4 * k9 + 3) = c 59 (4 * a2 + 3) := (congrArg (c 59) (show 4 * k9 + 3 = 4 * a2 + 3 from by omega))
        omega
      by_cases e_23 : k9 = a3
      · skip
        have h_24 : c 59 (4 * k9) = c 59 (4 * a3) := (congrArg (c 59) (show 4 * k9 = 4 * a3 from by omega))
        have h_25 : c 59 (4 * k9 + 1) = c 59 (4 * a3 + 1) := (congrArg (c 59) (show 4 * k9 + 1 = 4 * a3 + 1 from by omega))
        have h_26 : c 59 (4 * k9 + 2) = c 59 (4 * a3 + 2) := (congrArg (c 59) (show 4 * k9 + 2 = 4 * a3 + 2 from by omega))
        have h_27 : c 59 (4 * k9 + 3) = c 59 (4 * a3 + 3) := (congrArg (c 59) (show 4 * k9 + 3 = 4 * a3 + 3 from by omega))
        omega
      by_cases e_28 : k9 = a4
      · skip
        have h_29 : c 59 (4 * k9) = c 59 (4 * a4) := (congrArg (c 59) (show 4 * k9 = 4 * a4 from by omega))
        have h_30 : c 59 (4 * k9 + 1) = c 59 (4 * a4 + 1) := (congrArg (c 59) (show 4 * k9 + 1 = 4 * a4 + 1 from by omega))
        have h_31 : c 59 (4 * k9 + 2) = c 59 (4 * a4 + 2) := (congrArg (c 59) (show 4 * k9 + 2 = 4 * a4 + 2 from by omega))
        have h_32 : c 59 (4 * k9 + 3) = c 59 (4 * a4 + 3) := (congrArg (c 59) (show 4 * k9 + 3 = 4 * a4 + 3 from by omega))
        omega
      have h_33 := iv_r hI 59 (4 * k9) hj9 (by omega)
      have h_34 := ir_59_g hI (j := 4 * k9) (by omega)
      have h_35 : c 59 (4 * k9) = c 59 (4 * k9) := rfl
      have h_36 := ir_59_g hI (j := 4 * k9 + 1) (by omega)
      have h_37 : c 59 (4 * k9 + 1) = c 59 (4 * k9 + 1) := rfl
      have h_38 := ir_59_g hI (j := 4 * k9 + 2) (by omega)
      have h_39 : c 59 (4 * k9 + 2) = c 59 (4 * k9 + 2) := rfl
      have h_40 := ir_59_g hI (j := 4 * k9 + 3) (by omega)
      have h_41 : c 59 (4 * k9 + 3) = c 59 (4 * k9 + 3) := rfl
      omega
    have hI_42 := iv_close hIo hr_17
    exact K c 0 hI_42 (fun a j hm => rfl) ⟨by decide, by decide⟩
  · refine v_if_eq_f (t := 25) rfl (by decide) (by omega) ?_
    refine q_iload_n rfl rfl ?_
    refine q_iload_n rfl rfl ?_
    by_cases h_43 : a2 = a3
    · refine v_ic_eq_t (t := 25) rfl (by decide) (by omega) ?_
      refine q_iconst rfl ?_
      refine v_zret rfl rfl (by omega) ?_
      have hr_44 : ∀ j : Int, rs 59 j → c 59 j + c 59 (j + 1) + c 59 (j + 2) + c 59 (j + 3) ≤ 9999 := by
        intro j9 hj9
        obtain ⟨k9, rfl, hk9⟩ := rs_59 hj9
        by_cases e_45 : k9 = a2
        · skip
          have h_46 : c 59 (4 * k9) = c 59 (4 * a2) := (congrArg (c 59) (show 4 * k9 = 4 * a2 from by omega))
          have h_47 : c 59 (4 * k9 + 1) = c 59 (4 * a2 + 1) := (congrArg (c 59) (show 4 * k9 + 1 = 4 * a2 + 1 from by omega))
          have h_48 : c 59 (4 * k9 + 2) = c 59 (4 * a2 + 2) := (congrArg (c 59) (show 4 * k9 + 2 = 4 * a2 + 2 from by omega))
          have h_49 : c 59 (4 * k9 + 3) = c 59 (4 * a2 + 3) := (congrArg (c 59) (show 4 * k9 + 3 = 4 * a2 + 3 from by omega))
          omega
        by_cases e_50 : k9 = a3
        · skip
          have h_51 : c 59 (4 * k9) = c 59 (4 * a3) := (congrArg (c 59) (show 4 * k9 = 4 * a3 from by omega))
          have h_52 : c 59 (4 * k9 + 1) = c 59 (4 * a3 + 1) := (congrArg (c 59) (show 4 * k9 + 1 = 4 * a3 + 1 from by omega))
          have h_53 : c 59 (4 * k9 + 2) = c 59 (4 * a3 + 2) := (congrArg (c 59) (show 4 * k9 + 2 = 4 * a3 + 2 from by omega))
          have h_54 : c 59 (4 * k9 + 3) = c 59 (4 * a3 + 3) := (congrArg (c 59) (show 4 * k9 + 3 = 4 * a3 + 3 from by omega))
          omega
        by_cases e_55 : k9 = a4
        · skip
          have h_56 : c 59 (4 * k9) = c 59 (4 * a4) := (congrArg (c 59) (show 4 * k9 = 4 * a4 from by omega))
          have h_57 : c 59 (4 * k9 + 1) = c 59 (4 * a4 + 1) := (congrArg (c 59) (show 4 * k9 + 1 = 4 * a4 + 1 from by omega))
          have h_58 : c 59 (4 * k9 + 2) = c 59 (4 * a4 + 2) := (congrArg (c 59) (show 4 * k9 + 2 = 4 * a4 + 2 from by omega))
          have h_59 : c 59 (4 * k9 + 3) = c 59 (4 * a4 + 3) := (congrArg (c 59) (show 4 * k9 + 3 = 4 * a4 + 3 from by omega))
          omega
        have h_60 := iv_r hI 59 (4 * k9) hj9 (by omega)
        have h_61 := ir_59_g hI (j := 4 * k9) (by omega)
        have h_62 : c 59 (4 * k9) = c 59 (4 * k9) := rfl
        have h_63 := ir_59_g hI (j := 4 * k9 + 1) (by omega)
        have h_64 : c 59 (4 * k9 + 1) = c 59 (4 * k9 + 1) := rfl
        have h_65 := ir_59_g hI (j := 4 * k9 + 2) (by omega)
        have h_66 : c 59 (4 * k9 + 2) = c 59 (4 * k9 + 2) := rfl
        have h_67 := ir_59_g hI (j := 4 * k9 + 3) (by omega)
        have h_68 : c 59 (4 * k9 + 3) = c 59 (4 * k9 + 3) := rfl
        omega
      have hI_69 := iv_close hIo hr_44
      exact K c 0 hI_69 (fun a j hm => rfl) ⟨by decide, by decide⟩
    · refine v_ic_eq_f (t := 25) rfl (by decide) (by omega) ?_
      refine q_iload_n rfl rfl ?_
      refine q_iload rfl rfl ?_
      by_cases h_70 : a2 = a4
      · refine v_ic_eq_t (t := 25) rfl (by decide) (by omega) ?_
        refine q_iconst rfl ?_
        refine v_zret rfl rfl (by omega) ?_
        have hr_71 : ∀ j : Int, rs 59 j → c 59 j + c 59 (j + 1) + c 59 (j + 2) + c 59 (j + 3) ≤ 9999 := by
          intro j9 hj9
          obtain ⟨k9, rfl, hk9⟩ := rs_59 hj9
          by_cases e_72 : k9 = a2
          · skip
            have h_73 : c 59 (4 * k9) = c 59 (4 * a2) := (congrArg (c 59) (show 4 * k9 = 4 * a2 from by omega))
            have h_74 : c 59 (4 * k9 + 1) = c 59 (4 * a2 + 1) := (congrArg (c 59) (show 4 * k9 + 1 = 4 * a2 + 1 from by omega))
            have h_75 : c 59 (4 * k9 + 2) = c 59 (4 * a2 + 2) := (congrArg (c 59) (show 4 * k9 + 2 = 4 * a2 + 2 from by omega))
            have h_76 : c 59 (4 * k9 + 3) = c 59 (4 * a2 + 3) := (congrArg (c 59) (show 4 * k9 + 3 = 4 * a2 + 3 from by omega))
            omega
          by_cases e_77 : k9 = a3
          · skip
            have h_78 : c 59 (4 * k9) = c 59 (4 * a3) := (congrArg (c 59) (show 4 * k9 = 4 * a3 from by omega))
            have h_79 : c 59 (4 * k9 + 1) = c 59 (4 * a3 + 1) := (congrArg (c 59) (show 4 * k9 + 1 = 4 * a3 + 1 from by omega))
            have h_80 : c 59 (4 * k9 + 2) = c 59 (4 * a3 + 2) := (congrArg (c 59) (show 4 * k9 + 2 = 4 * a3 + 2 from by omega))
            have h_81 : c 59 (4 * k9 + 3) = c 59 (4 * a3 + 3) := (congrArg (c 59) (show 4 * k9 + 3 = 4 * a3 + 3 from by omega))
            omega
          by_cases e_82 : k9 = a4
          · skip
            have h_83 : c 59 (4 * k9) = c 59 (4 * a4) := (congrArg (c 59) (show 4 * k9 = 4 * a4 from by omega))
            have h_84 : c 59 (4 * k9 + 1) = c 59 (4 * a4 + 1) := (congrArg (c 59) (show 4 * k9 + 1 = 4 * a4 + 1 from by omega))
            have h_85 : c 59 (4 * k9 + 2) = c 59 (4 * a4 + 2) := (congrArg (c 59) (show 4 * k9 + 2 = 4 * a4 + 2 from by omega))
            have h_86 : c 59 (4 * k9 + 3) = c 59 (4 * a4 + 3) := (congrArg (c 59) (show 4 * k9 + 3 = 4 * a4 + 3 from by omega))
            omega
          have h_87 := iv_r hI 59 (4 * k9) hj9 (by omega)
          have h_88 := ir_59_g hI (j := 4 * k9) (by omega)
          have h_89 : c 59 (4 * k9) = c 59 (4 * k9) := rfl
          have h_90 := ir_59_g hI (j := 4 * k9 + 1) (by omega)
          have h_91 : c 59 (4 * k9 + 1) = c 59 (4 * k9 + 1) := rfl
          have h_92 := ir_59_g hI (j := 4 * k9 + 2) (by omega)
          have h_93 : c 59 (4 * k9 + 2) = c 59 (4 * k9 + 2) := rfl
          have h_94 := ir_59_g hI (j := 4 * k9 + 3) (by omega)
          have h_95 : c 59 (4 * k9 + 3) = c 59 (4 * k9 + 3) := rfl
          omega
        have hI_96 := iv_close hIo hr_71
        exact K c 0 hI_96 (fun a j hm => rfl) ⟨by decide, by decide⟩
      · refine v_ic_eq_f (t := 25) rfl (by decide) (by omega) ?_
        refine q_iload_n rfl rfl ?_
        refine q_iload rfl rfl ?_
        by_cases h_97 : a3 ≠ a4
        · refine v_ic_ne_t (t := 27) rfl (by decide) (by omega) ?_
          refine q_aload_n rfl rfl ?_
          refine q_iload_n rfl rfl ?_
          refine q_iload_n rfl rfl ?_
          have h_98 := ir_49 hI a1
          have h_99 := ir_59 hI (a1 + 30)
          have h_100 := fal_rng (m := c 49 a1) (t := c 59 (a1 + 30)) (g := 0) (x := c 59 (4 * a2)) (by omega)
          have h_101 := fal_rng (m := c 49 a1) (t := c 59 (a1 + 30)) (g := 1) (x := c 59 (4 * a2 + 1)) (by omega)
          have h_102 := fal_rng (m := c 49 a1) (t := c 59 (a1 + 30)) (g := 2) (x := c 59 (4 * a2 + 2)) (by omega)
          have h_103 := fal_rng (m := c 49 a1) (t := c 59 (a1 + 30)) (g := 3) (x := c 59 (4 * a2 + 3)) (by omega)
          refine v_cv rfl rfl rfl rfl (by decide) ⟨⟨rfl, rfl⟩, by decide, rfl⟩ (Nat.le_of_ble_eq_true rfl) (Nat.le_of_ble_eq_true rfl) (s_190 (v1 := c 49 a1) (v2 := c 59 (a1 + 30)) (v3 := c 59 (4 * a2)) (v4 := c 59 (4 * a2 + 1)) (v5 := c 59 (4 * a2 + 2)) (v6 := c 59 (4 * a2 + 3)) (r := (fal (c 49 a1) (c 59 (a1 + 30)) 0 (c 59 (4 * a2))) + (fal (c 49 a1) (c 59 (a1 + 30)) 1 (c 59 (4 * a2 + 1))) + (fal (c 49 a1) (c 59 (a1 + 30)) 2 (c 59 (4 * a2 + 2))) + (fal (c 49 a1) (c 59 (a1 + 30)) 3 (c 59 (4 * a2 + 3)))) (a1 := a1) (a2 := a2) hIo (show 0 ≤ a1 ∧ a1 ≤ 3 from by omega) (show 0 ≤ a2 ∧ a2 ≤ 5 from by omega) (rfl) (rfl) (rfl) (rfl) (rfl) (rfl) rfl ?_)
          refine bk_inl ?_
          refine q_istore rfl (by decide) ?_
          refine q_aload_n rfl rfl ?_
          refine q_iload_n rfl rfl ?_
          refine v_cv rfl rfl rfl rfl (by decide) ⟨⟨rfl, rfl⟩, by decide, rfl⟩ (Nat.le_of_ble_eq_true rfl) (Nat.le_of_ble_eq_true rfl) (s_187 (v1 := c 59 (4 * a3)) (v2 := c 59 (4 * a3 + 1)) (v3 := c 59 (4 * a3 + 2)) (v4 := c 59 (4 * a3 + 3)) (r := c 59 (4 * a3 + 1) + c 59 (4 * a3 + 2) + c 59 (4 * a3 + 3) + c 59 (4 * a3)) (a1 := a3) hIo (show 0 ≤ a3 ∧ a3 ≤ 5 from by omega) (rfl) (rfl) (rfl) (rfl) (by omega) ?_)
          refine bk_inl ?_
          refine q_iload rfl rfl ?_
          refine v_iadd (v := (fal (c 49 a1) (c 59 (a1 + 30)) 0 (c 59 (4 * a2))) + (fal (c 49 a1) (c 59 (a1 + 30)) 1 (c 59 (4 * a2 + 1))) + (fal (c 49 a1) (c 59 (a1 + 30)) 2 (c 59 (4 * a2 + 2))) + (fal (c 49 a1) (c 59 (a1 + 30)) 3 (c 59 (4 * a2 + 3))) + c 59 (4 * a3 + 1) + c 59 (4 * a3 + 2) + c 59 (4 * a3 + 3) + c 59 (4 * a3)) rfl (by omega) ?_
          refine v_sip rfl (by decide) ?_
          by_cases h_104 : (fal (c 49 a1) (c 59 (a1 + 30)) 0 (c 59 (4 * a2))) + (fal (c 49 a1) (c 59 (a1 + 30)) 1 (c 59 (4 * a2 + 1))) + (fal (c 49 a1) (c 59 (a1 + 30)) 2 (c 59 (4 * a2 + 2))) + (fal (c 49 a1) (c 59 (a1 + 30)) 3 (c 59 (4 * a2 + 3))) + c 59 (4 * a3 + 1) + c 59 (4 * a3 + 2) + c 59 (4 * a3 + 3) + c 59 (4 * a3) > 9999
          · refine v_ic_gt_t (t := 70) rfl (by decide) (by omega) ?_
            refine q_iconst rfl ?_
            refine v_zret rfl rfl (by omega) ?_
            have hr_105 : ∀ j : Int, rs 59 j → c 59 j + c 59 (j + 1) + c 59 (j + 2) + c 59 (j + 3) ≤ 9999 := by
              intro j9 hj9
              obtain ⟨k9, rfl, hk9⟩ := rs_59 hj9
              by_cases e_106 : k9 = a2
              · skip
                have h_107 : c 59 (4 * k9) = c 59 (4 * a2) := (congrArg (c 59) (show 4 * k9 = 4 * a2 from by omega))
                have h_108 : c 59 (4 * k9 + 1) = c 59 (4 * a2 + 1) := (congrArg (c 59) (show 4 * k9 + 1 = 4 * a2 + 1 from by omega))
                have h_109 : c 59 (4 * k9 + 2) = c 59 (4 * a2 + 2) := (congrArg (c 59) (show 4 * k9 + 2 = 4 * a2 + 2 from by omega))
                have h_110 : c 59 (4 * k9 + 3) = c 59 (4 * a2 + 3) := (congrArg (c 59) (show 4 * k9 + 3 = 4 * a2 + 3 from by omega))
                omega
              by_cases e_111 : k9 = a3
              · skip
                have h_112 : c 59 (4 * k9) = c 59 (4 * a3) := (congrArg (c 59) (show 4 * k9 = 4 * a3 from by omega))
                have h_113 : c 59 (4 * k9 + 1) = c 59 (4 * a3 + 1) := (congrArg (c 59) (show 4 * k9 + 1 = 4 * a3 + 1 from by omega))
                have h_114 : c 59 (4 * k9 + 2) = c 59 (4 * a3 + 2) := (congrArg (c 59) (show 4 * k9 + 2 = 4 * a3 + 2 from by omega))
                have h_115 : c 59 (4 * k9 + 3) = c 59 (4 * a3 + 3) := (congrArg (c 59) (show 4 * k9 + 3 = 4 * a3 + 3 from by omega))
                omega
              by_cases e_116 : k9 = a4
              · skip
                have h_117 : c 59 (4 * k9) = c 59 (4 * a4) := (congrArg (c 59) (show 4 * k9 = 4 * a4 from by omega))
                have h_118 : c 59 (4 * k9 + 1) = c 59 (4 * a4 + 1) := (congrArg (c 59) (show 4 * k9 + 1 = 4 * a4 + 1 from by omega))
                have h_119 : c 59 (4 * k9 + 2) = c 59 (4 * a4 + 2) := (congrArg (c 59) (show 4 * k9 + 2 = 4 * a4 + 2 from by omega))
                have h_120 : c 59 (4 * k9 + 3) = c 59 (4 * a4 + 3) := (congrArg (c 59) (show 4 * k9 + 3 = 4 * a4 + 3 from by omega))
                omega
              have h_121 := iv_r hI 59 (4 * k9) hj9 (by omega)
              have h_122 := ir_59_g hI (j := 4 * k9) (by omega)
              have h_123 : c 59 (4 * k9) = c 59 (4 * k9) := rfl
              have h_124 := ir_59_g hI (j := 4 * k9 + 1) (by omega)
              have h_125 : c 59 (4 * k9 + 1) = c 59 (4 * k9 + 1) := rfl
              have h_126 := ir_59_g hI (j := 4 * k9 + 2) (by omega)
              have h_127 : c 59 (4 * k9 + 2) = c 59 (4 * k9 + 2) := rfl
              have h_128 := ir_59_g hI (j := 4 * k9 + 3) (by omega)
              have h_129 : c 59 (4 * k9 + 3) = c 59 (4 * k9 + 3) := rfl
              omega
            have hI_130 := iv_close hIo hr_105
            exact K c 0 hI_130 (fun a j hm => rfl) ⟨by decide, by decide⟩
          · refine v_ic_gt_f (t := 70) rfl (by decide) (by omega) ?_
            refine q_aload_n rfl rfl ?_
            refine q_iload rfl rfl ?_
            refine v_cv rfl rfl rfl rfl (by decide) ⟨⟨rfl, rfl⟩, by decide, rfl⟩ (Nat.le_of_ble_eq_true rfl) (Nat.le_of_ble_eq_true rfl) (s_187 (v1 := c 59 (4 * a4)) (v2 := c 59 (4 * a4 + 1)) (v3 := c 59 (4 * a4 + 2)) (v4 := c 59 (4 * a4 + 3)) (r := c 59 (4 * a4 + 1) + c 59 (4 * a4 + 2) + c 59 (4 * a4 + 3) + c 59 (4 * a4)) (a1 := a4) hIo (show 0 ≤ a4 ∧ a4 ≤ 5 from by omega) (rfl) (rfl) (rfl) (rfl) (by omega) ?_)
            refine bk_inl ?_
            refine q_aload_n rfl rfl ?_
            refine q_iload_n rfl rfl ?_
            refine v_cv rfl rfl rfl rfl (by decide) ⟨⟨rfl, rfl⟩, by decide, rfl⟩ (Nat.le_of_ble_eq_true rfl) (Nat.le_of_ble_eq_true rfl) (s_187 (v1 := c 59 (4 * a2)) (v2 := c 59 (4 * a2 + 1)) (v3 := c 59 (4 * a2 + 2)) (v4 := c 59 (4 * a2 + 3)) (r := c 59 (4 * a2 + 1) + c 59 (4 * a2 + 2) + c 59 (4 * a2 + 3) + c 59 (4 * a2)) (a1 := a2) hIo (show 0 ≤ a2 ∧ a2 ≤ 5 from by omega) (rfl) (rfl) (rfl) (rfl) (by omega) ?_)
            refine bk_inl ?_
            refine v_iadd (v := c 59 (4 * a2 + 1) + c 59 (4 * a2 + 2) + c 59 (4 * a2 + 3) + c 59 (4 * a2) + c 59 (4 * a4 + 1) + c 59 (4 * a4 + 2) + c 59 (4 * a4 + 3) + c 59 (4 * a4)) rfl (by omega) ?_
            refine q_iload rfl rfl ?_
            refine v_isub (v := c 59 (4 * a2 + 1) + c 59 (4 * a2 + 2) + c 59 (4 * a2 + 3) + c 59 (4 * a2) + c 59 (4 * a4 + 1) + c 59 (4 * a4 + 2) + c 59 (4 * a4 + 3) + c 59 (4 * a4) - (fal (c 49 a1) (c 59 (a1 + 30)) 0 (c 59 (4 * a2))) - (fal (c 49 a1) (c 59 (a1 + 30)) 1 (c 59 (4 * a2 + 1))) - (fal (c 49 a1) (c 59 (a1 + 30)) 2 (c 59 (4 * a2 + 2))) - (fal (c 49 a1) (c 59 (a1 + 30)) 3 (c 59 (4 * a2 + 3)))) rfl (by omega) ?_
            refine v_sip rfl (by decide) ?_
            by_cases h_131 : c 59 (4 * a2 + 1) + c 59 (4 * a2 + 2) + c 59 (4 * a2 + 3) + c 59 (4 * a2) + c 59 (4 * a4 + 1) + c 59 (4 * a4 + 2) + c 59 (4 * a4 + 3) + c 59 (4 * a4) - (fal (c 49 a1) (c 59 (a1 + 30)) 0 (c 59 (4 * a2))) - (fal (c 49 a1) (c 59 (a1 + 30)) 1 (c 59 (4 * a2 + 1))) - (fal (c 49 a1) (c 59 (a1 + 30)) 2 (c 59 (4 * a2 + 2))) - (fal (c 49 a1) (c 59 (a1 + 30)) 3 (c 59 (4 * a2 + 3))) ≤ 9999
            · refine v_ic_le_t (t := 72) rfl (by decide) (by omega) ?_
              refine q_iconst rfl ?_
              refine q_istore rfl (by decide) ?_
              refine q_iload rfl rfl ?_
              refine q_iconst rfl ?_
              refine v_ic_ge_f (t := 142) rfl (by decide) (by decide) ?_
              refine q_aload_n rfl rfl ?_
              refine q_iload_n rfl rfl ?_
              refine q_iload_n rfl rfl ?_
              refine q_iload rfl rfl ?_
              refine v_cv rfl rfl rfl rfl (by decide) ⟨⟨rfl, rfl⟩, by decide, rfl⟩ (Nat.le_of_ble_eq_true rfl) (Nat.le_of_ble_eq_true rfl) (s_189 (v1 := c 49 a1) (v2 := c 59 (a1 + 30)) (v3 := c 59 (4 * a2)) (r := (fal (c 49 a1) (c 59 (a1 + 30)) 0 (c 59 (4 * a2)))) (a1 := a1) (a2 := a2) (a3 := 0) hIo (show 0 ≤ a1 ∧ a1 ≤ 3 from by omega) (show 0 ≤ a2 ∧ a2 ≤ 5 from by omega) (show 0 ≤ 0 ∧ 0 ≤ 3 from by omega) (rfl) (rfl) ((congrArg (c 59) (show 4 * a2 + 0 = 4 * a2 from by omega))) rfl ?_)
              refine bk_inl ?_
              refine q_istore rfl (by decide) ?_
              refine q_aload_n rfl rfl ?_
              refine v_gr (t := 59) rfl rfl rfl (by decide) rfl ?_
              refine q_iconst rfl ?_
              refine q_iload_n rfl rfl ?_
              refine v_imul (v := 4 * a3) rfl (by omega) ?_
              refine q_iload rfl rfl ?_
              refine v_iadd (v := 4 * a3) rfl (by omega) ?_
              refine q_dup2 rfl ⟨rfl, rfl⟩ ?_
              refine v_ia (v := c 59 (4 * a3)) rfl rfl (by decide) (by decide) (by omega) rfl ?_
              refine q_iload rfl rfl ?_
              refine v_iadd (v := (fal (c 49 a1) (c 59 (a1 + 30)) 0 (c 59 (4 * a2))) + c 59 (4 * a3)) rfl (by omega) ?_
              refine v_is rfl rfl (by decide) (by decide) (by omega) ?_
              refine q_aload_n rfl rfl ?_
              refine v_gr (t := 59) rfl rfl rfl (by decide) rfl ?_
              refine q_iconst rfl ?_
              refine q_iload rfl rfl ?_
              refine v_imul (v := 4 * a4) rfl (by omega) ?_
              refine q_iload rfl rfl ?_
              refine v_iadd (v := 4 * a4) rfl (by omega) ?_
              refine q_dup2 rfl ⟨rfl, rfl⟩ ?_
              refine v_ia (v := c 59 (4 * a4)) rfl rfl (by decide) (by decide) (by omega) (up_n (by omega)) ?_
              refine q_aload_n rfl rfl ?_
              refine v_gr (t := 59) rfl rfl rfl (by decide) rfl ?_
              refine q_iconst rfl ?_
              refine q_iload_n rfl rfl ?_
              refine v_imul (v := 4 * a2) rfl (by omega) ?_
              refine q_iload rfl rfl ?_
              refine v_iadd (v := 4 * a2) rfl (by omega) ?_
              refine v_ia (v := c 59 (4 * a2)) rfl rfl (by decide) (by decide) (by omega) (up_n (by omega)) ?_
              refine q_iload rfl rfl ?_
              refine v_isub (v := c 59 (4 * a2) - (fal (c 49 a1) (c 59 (a1 + 30)) 0 (c 59 (4 * a2)))) rfl (by omega) ?_
              refine v_iadd (v := c 59 (4 * a2) + c 59 (4 * a4) - (fal (c 49 a1) (c 59 (a1 + 30)) 0 (c 59 (4 * a2)))) rfl (by omega) ?_
              refine v_is rfl rfl (by decide) (by decide) (by omega) ?_
              refine v_iinc (v := 1) rfl rfl (by decide) (by decide) ?_
              refine q_goto (t := 75) rfl (by decide) ?_
              refine q_iload rfl rfl ?_
              refine q_iconst rfl ?_
              refine v_ic_ge_f (t := 142) rfl (by decide) (by decide) ?_
              refine q_aload_n rfl rfl ?_
              refine q_iload_n rfl rfl ?_
              refine q_iload_n rfl rfl ?_
              refine q_iload rfl rfl ?_
              have hI_132 := iw_row (a := 59) (j := 4 * a3) (v := (fal (c 49 a1) (c 59 (a1 + 30)) 0 (c 59 (4 * a2))) + c 59 (4 * a3)) hIo (by omega) (Or.inl rfl) ⟨by omega, by omega, by omega⟩
              have hI_133 := iw_row (a := 59) (j := 4 * a4) (v := c 59 (4 * a2) + c 59 (4 * a4) - (fal (c 49 a1) (c 59 (a1 + 30)) 0 (c 59 (4 * a2)))) hI_132 (by omega) (Or.inl rfl) ⟨by omega, by omega, by omega⟩
              refine v_cv rfl rfl rfl rfl (by decide) ⟨⟨rfl, rfl⟩, by decide, rfl⟩ (Nat.le_of_ble_eq_true rfl) (Nat.le_of_ble_eq_true rfl) (s_189 (v1 := c 49 a1) (v2 := c 59 (a1 + 30)) (v3 := c 59 (4 * a2 + 1)) (r := (fal (c 49 a1) (c 59 (a1 + 30)) 1 (c 59 (4 * a2 + 1)))) (a1 := a1) (a2 := a2) (a3 := 1) hI_133 (show 0 ≤ a1 ∧ a1 ≤ 3 from by omega) (show 0 ≤ a2 ∧ a2 ≤ 5 from by omega) (show 0 ≤ 1 ∧ 1 ≤ 3 from by omega) (((up_c (by decide)).trans (up_c (by decide)))) (((up_n (by omega)).trans (up_n (by omega)))) (((up_n (by omega)).trans (up_n (by omega)))) rfl ?_)
              refine bk_inl ?_
              refine q_istore rfl (by decide) ?_
              refine Wp_ls [(7, vi (fal (c 49 a1) (c 59 (a1 + 30)) 1 (c 59 (4 * a2 + 1)))), (6, vi 1), (5, vi ((fal (c 49 a1) (c 59 (a1 + 30)) 0 (c 59 (4 * a2))) + (fal (c 49 a1) (c 59 (a1 + 30)) 1 (c 59 (4 * a2 + 1))) + (fal (c 49 a1) (c 59 (a1 + 30)) 2 (c 59 (4 * a2 + 2))) + (fal (c 49 a1) (c 59 (a1 + 30)) 3 (c 59 (4 * a2 + 3))))), (0, .ref 41), (1, vi a1), (2, vi a2), (3, vi a3), (4, vi a4)] (lsub_cons rfl (lsub_cons rfl (lsub_cons rfl (lsub_cons rfl (lsub_cons rfl (lsub_cons rfl (lsub_cons rfl (lsub_cons rfl lsub_nil)))))))) ?_
              refine q_aload_n rfl rfl ?_
              refine v_gr (t := 59) rfl rfl rfl (by decide) rfl ?_
              refine q_iconst rfl ?_
              refine q_iload_n rfl rfl ?_
              refine v_imul (v := 4 * a3) rfl (by omega) ?_
              refine q_iload rfl rfl ?_
              refine v_iadd (v := 4 * a3 + 1) rfl (by omega) ?_
              refine q_dup2 rfl ⟨rfl, rfl⟩ ?_
              refine v_ia (v := c 59 (4 * a3 + 1)) rfl rfl (by decide) (by decide) (by omega) ((up_n (by omega)).trans (up_n (by omega))) ?_
              refine q_iload rfl rfl ?_
              refine v_iadd (v := (fal (c 49 a1) (c 59 (a1 + 30)) 1 (c 59 (4 * a2 + 1))) + c 59 (4 * a3 + 1)) rfl (by omega) ?_
              refine v_is rfl rfl (by decide) (by decide) (by omega) ?_
              refine q_aload_n rfl rfl ?_
              refine v_gr (t := 59) rfl rfl rfl (by decide) rfl ?_
              refine q_iconst rfl ?_
              refine q_iload rfl rfl ?_
              refine v_imul (v := 4 * a4) rfl (by omega) ?_
              refine q_iload rfl rfl ?_
              refine v_iadd (v := 4 * a4 + 1) rfl (by omega) ?_
              refine q_dup2 rfl ⟨rfl, rfl⟩ ?_
              refine v_ia (v := c 59 (4 * a4 + 1)) rfl rfl (by decide) (by decide) (by omega) ((up_n (by omega)).trans ((up_n (by omega)).trans (up_n (by omega)))) ?_
              refine q_aload_n rfl rfl ?_
              refine v_gr (t := 59) rfl rfl rfl (by decide) rfl ?_
              refine q_iconst rfl ?_
              refine q_iload_n rfl rfl ?_
              refine v_imul (v := 4 * a2) rfl (by omega) ?_
              refine q_iload rfl rfl ?_
              refine v_iadd (v := 4 * a2 + 1) rfl (by omega) ?_
              refine v_ia (v := c 59 (4 * a2 + 1)) rfl rfl (by decide) (by decide) (by omega) ((up_n (by omega)).trans ((up_n (by omega)).trans (up_n (by omega)))) ?_
              refine q_iload rfl rfl ?_
              refine v_isub (v := c 59 (4 * a2 + 1) - (fal (c 49 a1) (c 59 (a1 + 30)) 1 (c 59 (4 * a2 + 1)))) rfl (by omega) ?_
              refine v_iadd (v := c 59 (4 * a2 + 1) + c 59 (4 * a4 + 1) - (fal (c 49 a1) (c 59 (a1 + 30)) 1 (c 59 (4 * a2 + 1)))) rfl (by omega) ?_
              refine v_is rfl rfl (by decide) (by decide) (by omega) ?_
              refine v_iinc (v := 2) rfl rfl (by decide) (by decide) ?_
              refine q_goto (t := 75) rfl (by decide) ?_
              refine q_iload rfl rfl ?_
              refine q_iconst rfl ?_
              refine v_ic_ge_f (t := 142) rfl (by decide) (by decide) ?_
              refine q_aload_n rfl rfl ?_
              refine q_iload_n rfl rfl ?_
              refine q_iload_n rfl rfl ?_
              refine q_iload rfl rfl ?_
              have hI_134 := iw_row (a := 59) (j := 4 * a3 + 1) (v := (fal (c 49 a1) (c 59 (a1 + 30)) 1 (c 59 (4 * a2 + 1))) + c 59 (4 * a3 + 1)) hI_133 (by omega) (Or.inl rfl) ⟨by omega, by omega, by omega⟩
              have hI_135 := iw_row (a := 59) (j := 4 * a4 + 1) (v := c 59 (4 * a2 + 1) + c 59 (4 * a4 + 1) - (fal (c 49 a1) (c 59 (a1 + 30)) 1 (c 59 (4 * a2 + 1)))) hI_134 (by omega) (Or.inl rfl) ⟨by omega, by omega, by omega⟩
              refine v_cv rfl rfl rfl rfl (by decide) ⟨⟨rfl, rfl⟩, by decide, rfl⟩ (Nat.le_of_ble_eq_true rfl) (Nat.le_of_ble_eq_true rfl) (s_189 (v1 := c 49 a1) (v2 := c 59 (a1 + 30)) (v3 := c 59 (4 * a2 + 2)) (r := (fal (c 49 a1) (c 59 (a1 + 30)) 2 (c 59 (4 * a2 + 2)))) (a1 := a1) (a2 := a2) (a3 := 2) hI_135 (show 0 ≤ a1 ∧ a1 ≤ 3 from by omega) (show 0 ≤ a2 ∧ a2 ≤ 5 from by omega) (show 0 ≤ 2 ∧ 2 ≤ 3 from by omega) (((up_c (by decide)).trans ((up_c (by decide)).trans ((up_c (by decide)).trans (up_c (by decide)))))) (((up_n (by omega)).trans ((up_n (by omega)).trans ((up_n (by omega)).trans (up_n (by omega)))))) (((up_n (by omega)).trans ((up_n (by omega)).trans ((up_n (by omega)).trans (up_n (by omega)))))) rfl ?_)
              refine bk_inl ?_
              refine q_istore rfl (by decide) ?_
              refine q_aload_n rfl rfl ?_
              refine v_gr (t := 59) rfl rfl rfl (by decide) rfl ?_
              refine q_iconst rfl ?_
              refine q_iload_n rfl rfl ?_
              refine v_imul (v := 4 * a3) rfl (by omega) ?_
              refine q_iload rfl rfl ?_
              refine v_iadd (v := 4 * a3 + 2) rfl (by omega) ?_
              refine q_dup2 rfl ⟨rfl, rfl⟩ ?_
              refine v_ia (v := c 59 (4 * a3 + 2)) rfl rfl (by decide) (by decide) (by omega) ((up_n (by omega)).trans ((up_n (by omega)).trans ((up_n (by omega)).trans (up_n (by omega))))) ?_
              refine q_iload rfl rfl ?_
              refine v_iadd (v := (fal (c 49 a1) (c 59 (a1 + 30)) 2 (c 59 (4 * a2 + 2))) + c 59 (4 * a3 + 2)) rfl (by omega) ?_
              refine v_is rfl rfl (by decide) (by decide) (by omega) ?_
              refine q_aload_n rfl rfl ?_
              refine v_gr (t := 59) rfl rfl rfl (by decide) rfl ?_
              refine q_iconst rfl ?_
              refine q_iload rfl rfl ?_
              refine v_imul (v := 4 * a4) rfl (by omega) ?_
              refine q_iload rfl rfl ?_
              refine v_iadd (v := 4 * a4 + 2) rfl (by omega) ?_
              refine q_dup2 rfl ⟨rfl, rfl⟩ ?_
              refine v_ia (v := c 59 (4 * a4 + 2)) rfl rfl (by decide) (by decide) (by omega) ((up_n (by omega)).trans ((up_n (by omega)).trans ((up_n (by omega)).trans ((up_n (by omega)).trans (up_n (by omega)))))) ?_
              refine q_aload_n rfl rfl ?_
              refine v_gr (t := 59) rfl rfl rfl (by decide) rfl ?_
              refine q_iconst rfl ?_
              refine q_iload_n rfl rfl ?_
              refine v_imul (v := 4 * a2) rfl (by omega) ?_
              refine q_iload rfl rfl ?_
              refine v_iadd (v := 4 * a2 + 2) rfl (by omega) ?_
              refine v_ia (v := c 59 (4 * a2 + 2)) rfl rfl (by decide) (by decide) (by omega) ((up_n (by omega)).trans ((up_n (by omega)).trans ((up_n (by omega)).trans ((up_n (by omega)).trans (up_n (by omega)))))) ?_
              refine q_iload rfl rfl ?_
              refine v_isub (v := c 59 (4 * a2 + 2) - (fal (c 49 a1) (c 59 (a1 + 30)) 2 (c 59 (4 * a2 + 2)))) rfl (by omega) ?_
              refine v_iadd (v := c 59 (4 * a2 + 2) + c 59 (4 * a4 + 2) - (fal (c 49 a1) (c 59 (a1 + 30)) 2 (c 59 (4 * a2 + 2)))) rfl (by omega) ?_
              refine v_is rfl rfl (by decide) (by decide) (by omega) ?_
              refine v_iinc (v := 3) rfl rfl (by decide) (by decide) ?_
              refine q_goto (t := 75) rfl (by decide) ?_
              refine q_iload rfl rfl ?_
              refine q_iconst rfl ?_
              refine v_ic_ge_f (t := 142) rfl (by decide) (by decide) ?_
              refine q_aload_n rfl rfl ?_
              refine q_iload_n rfl rfl ?_
              refine q_iload_n rfl rfl ?_
              refine q_iload rfl rfl ?_
              have hI_136 := iw_row (a := 59) (j := 4 * a3 + 2) (v := (fal (c 49 a1) (c 59 (a1 + 30)) 2 (c 59 (4 * a2 + 2))) + c 59 (4 * a3 + 2)) hI_135 (by omega) (Or.inl rfl) ⟨by omega, by omega, by omega⟩
              have hI_137 := iw_row (a := 59) (j := 4 * a4 + 2) (v := c 59 (4 * a2 + 2) + c 59 (4 * a4 + 2) - (fal (c 49 a1) (c 59 (a1 + 30)) 2 (c 59 (4 * a2 + 2)))) hI_136 (by omega) (Or.inl rfl) ⟨by omega, by omega, by omega⟩
              refine v_cv rfl rfl rfl rfl (by decide) ⟨⟨rfl, rfl⟩, by decide, rfl⟩ (Nat.le_of_ble_eq_true rfl) (Nat.le_of_ble_eq_true rfl) (s_189 (v1 := c 49 a1) (v2 := c 59 (a1 + 30)) (v3 := c 59 (4 * a2 + 3)) (r := (fal (c 49 a1) (c 59 (a1 + 30)) 3 (c 59 (4 * a2 + 3)))) (a1 := a1) (a2 := a2) (a3 := 3) hI_137 (show 0 ≤ a1 ∧ a1 ≤ 3 from by omega) (show 0 ≤ a2 ∧ a2 ≤ 5 from by omega) (show 0 ≤ 3 ∧ 3 ≤ 3 from by omega) (((up_c (by decide)).trans ((up_c (by decide)).trans ((up_c (by decide)).trans ((up_c (by decide)).trans ((up_c (by decide)).trans (up_c (by decide)))))))) (((up_n (by omega)).trans ((up_n (by omega)).trans ((up_n (by omega)).trans ((up_n (by omega)).trans ((up_n (by omega)).trans (up_n (by omega)))))))) (((up_n (by omega)).trans ((up_n (by omega)).trans ((up_n (by omega)).trans ((up_n (by omega)).trans ((up_n (by omega)).trans (up_n (by omega)))))))) rfl ?_)
              refine bk_inl ?_
              refine q_istore rfl (by decide) ?_
              refine q_aload_n rfl rfl ?_
              refine v_gr (t := 59) rfl rfl rfl (by decide) rfl ?_
              refine q_iconst rfl ?_
              refine q_iload_n rfl rfl ?_
              refine v_imul (v := 4 * a3) rfl (by omega) ?_
              refine q_iload rfl rfl ?_
              refine v_iadd (v := 4 * a3 + 3) rfl (by omega) ?_
              refine q_dup2 rfl ⟨rfl, rfl⟩ ?_
              refine v_ia (v := c 59 (4 * a3 + 3)) rfl rfl (by decide) (by decide) (by omega) ((up_n (by omega)).trans ((up_n (by omega)).trans ((up_n (by omega)).trans ((up_n (by omega)).trans ((up_n (by omega)).trans (up_n (by omega))))))) ?_
              refine q_iload rfl rfl ?_
              refine v_iadd (v := (fal (c 49 a1) (c 59 (a1 + 30)) 3 (c 59 (4 * a2 + 3))) + c 59 (4 * a3 + 3)) rfl (by omega) ?_
              refine v_is rfl rfl (by decide) (by decide) (by omega) ?_
              refine q_aload_n rfl rfl ?_
              refine v_gr (t := 59) rfl rfl rfl (by decide) rfl ?_
              refine q_iconst rfl ?_
              refine q_iload rfl rfl ?_
              refine v_imul (v := 4 * a4) rfl (by omega) ?_
              refine q_iload rfl rfl ?_
              refine v_iadd (v := 4 * a4 + 3) rfl (by omega) ?_
              refine q_dup2 rfl ⟨rfl, rfl⟩ ?_
              refine v_ia (v := c 59 (4 * a4 + 3)) rfl rfl (by decide) (by decide) (by omega) ((up_n (by omega)).trans ((up_n (by omega)).trans ((up_n (by omega)).trans ((up_n (by omega)).trans ((up_n (by omega)).trans ((up_n (by omega)).trans (up_n (by omega)))))))) ?_
              refine q_aload_n rfl rfl ?_
              refine v_gr (t := 59) rfl rfl rfl (by decide) rfl ?_
              refine q_iconst rfl ?_
              refine q_iload_n rfl rfl ?_
              refine v_imul (v := 4 * a2) rfl (by omega) ?_
              refine q_iload rfl rfl ?_
              refine v_iadd (v := 4 * a2 + 3) rfl (by omega) ?_
              refine v_ia (v := c 59 (4 * a2 + 3)) rfl rfl (by decide) (by decide) (by omega) ((up_n (by omega)).trans ((up_n (by omega)).trans ((up_n (by omega)).trans ((up_n (by omega)).trans ((up_n (by omega)).trans ((up_n (by omega)).trans (up_n (by omega)))))))) ?_
              refine q_iload rfl rfl ?_
              refine v_isub (v := c 59 (4 * a2 + 3) - (fal (c 49 a1) (c 59 (a1 + 30)) 3 (c 59 (4 * a2 + 3)))) rfl (by omega) ?_
              refine v_iadd (v := c 59 (4 * a2 + 3) + c 59 (4 * a4 + 3) - (fal (c 49 a1) (c 59 (a1 + 30)) 3 (c 59 (4 * a2 + 3)))) rfl (by omega) ?_
              refine v_is rfl rfl (by decide) (by decide) (by omega) ?_
              refine v_iinc (v := 4) rfl rfl (by decide) (by decide) ?_
              refine Wp_ls [(6, vi 4), (7, vi (fal (c 49 a1) (c 59 (a1 + 30)) 3 (c 59 (4 * a2 + 3)))), (5, vi ((fal (c 49 a1) (c 59 (a1 + 30)) 0 (c 59 (4 * a2))) + (fal (c 49 a1) (c 59 (a1 + 30)) 1 (c 59 (4 * a2 + 1))) + (fal (c 49 a1) (c 59 (a1 + 30)) 2 (c 59 (4 * a2 + 2))) + (fal (c 49 a1) (c 59 (a1 + 30)) 3 (c 59 (4 * a2 + 3))))), (0, .ref 41), (1, vi a1), (2, vi a2), (3, vi a3), (4, vi a4)] (lsub_cons rfl (lsub_cons rfl (lsub_cons rfl (lsub_cons rfl (lsub_cons rfl (lsub_cons rfl (lsub_cons rfl (lsub_cons rfl lsub_nil)))))))) ?_
              refine q_goto (t := 75) rfl (by decide) ?_
              refine q_iload rfl rfl ?_
              refine q_iconst rfl ?_
              refine v_ic_ge_t (t := 142) rfl (by decide) (by decide) ?_
              refine q_iload rfl rfl ?_
              by_cases h_138 : (fal (c 49 a1) (c 59 (a1 + 30)) 0 (c 59 (4 * a2))) + (fal (c 49 a1) (c 59 (a1 + 30)) 1 (c 59 (4 * a2 + 1))) + (fal (c 49 a1) (c 59 (a1 + 30)) 2 (c 59 (4 * a2 + 2))) + (fal (c 49 a1) (c 59 (a1 + 30)) 3 (c 59 (4 * a2 + 3))) ≤ 0
              · refine v_if_le_t (t := 161) rfl (by decide) (by omega) ?_
                refine q_iload rfl rfl ?_
                refine q_aload_n rfl rfl ?_
                refine q_iload_n rfl rfl ?_
                have hI_139 := iw_row (a := 59) (j := 4 * a3 + 3) (v := (fal (c 49 a1) (c 59 (a1 + 30)) 3 (c 59 (4 * a2 + 3))) + c 59 (4 * a3 + 3)) hI_137 (by omega) (Or.inl rfl) ⟨by omega, by omega, by omega⟩
                have hI_140 := iw_row (a := 59) (j := 4 * a4 + 3) (v := c 59 (4 * a2 + 3) + c 59 (4 * a4 + 3) - (fal (c 49 a1) (c 59 (a1 + 30)) 3 (c 59 (4 * a2 + 3)))) hI_139 (by omega) (Or.inl rfl) ⟨by omega, by omega, by omega⟩
                refine v_cv rfl rfl rfl rfl (by decide) ⟨⟨rfl, rfl⟩, by decide, rfl⟩ (Nat.le_of_ble_eq_true rfl) (Nat.le_of_ble_eq_true rfl) (s_187 (v1 := c 59 (4 * a2)) (v2 := c 59 (4 * a2 + 1)) (v3 := c 59 (4 * a2 + 2)) (v4 := c 59 (4 * a2 + 3)) (r := c 59 (4 * a2 + 1) + c 59 (4 * a2 + 2) + c 59 (4 * a2 + 3) + c 59 (4 * a2)) (a1 := a2) hI_140 (show 0 ≤ a2 ∧ a2 ≤ 5 from by omega) (((up_n (by omega)).trans ((up_n (by omega)).trans ((up_n (by omega)).trans ((up_n (by omega)).trans ((up_n (by omega)).trans ((up_n (by omega)).trans ((up_n (by omega)).trans (up_n (by omega)))))))))) (((up_n (by omega)).trans ((up_n (by omega)).trans ((up_n (by omega)).trans ((up_n (by omega)).trans ((up_n (by omega)).trans ((up_n (by omega)).trans ((up_n (by omega)).trans (up_n (by omega)))))))))) (((up_n (by omega)).trans ((up_n (by omega)).trans ((up_n (by omega)).trans ((up_n (by omega)).trans ((up_n (by omega)).trans ((up_n (by omega)).trans ((up_n (by omega)).trans (up_n (by omega)))))))))) (((up_n (by omega)).trans ((up_n (by omega)).trans ((up_n (by omega)).trans ((up_n (by omega)).trans ((up_n (by omega)).trans ((up_n (by omega)).trans ((up_n (by omega)).trans (up_n (by omega)))))))))) (by omega) ?_)
                refine bk_inl ?_
                refine v_ic_ge_f (t := 186) rfl (by decide) (by omega) ?_
                refine q_aload_n rfl rfl ?_
                refine q_iload rfl rfl ?_
                refine q_aload_n rfl rfl ?_
                refine v_gr (t := 59) rfl rfl rfl (by decide) rfl ?_
                refine v_bip rfl (by decide) ?_
                refine q_iload_n rfl rfl ?_
                refine v_iadd (v := a2 + 24) rfl (by omega) ?_
                have h_141 := ir_59 hI (a2 + 24)
                refine v_ia (v := c 59 (a2 + 24)) rfl rfl (by decide) (by decide) (by omega) ((up_n (by omega)).trans ((up_n (by omega)).trans ((up_n (by omega)).trans ((up_n (by omega)).trans ((up_n (by omega)).trans ((up_n (by omega)).trans ((up_n (by omega)).trans (up_n (by omega))))))))) ?_
                refine v_cv rfl rfl rfl rfl (by decide) ⟨⟨rfl, rfl⟩, by decide, rfl⟩ (Nat.le_of_ble_eq_true rfl) (Nat.le_of_ble_eq_true rfl) (s_191 (a1 := a4) (a2 := c 59 (a2 + 24)) hI_140 (show 0 ≤ a4 ∧ a4 ≤ 5 from by omega) (show (-2147483648) ≤ c 59 (a2 + 24) ∧ c 59 (a2 + 24) ≤ 2147483647 from by omega) (fun c_142 hI_143 hF_144 => ?_))
                refine bk_inl ?_
                refine q_aload_n rfl rfl ?_
                refine q_iload_n rfl rfl ?_
                refine v_cv rfl rfl rfl rfl (by decide) ⟨⟨rfl, rfl⟩, by decide, rfl⟩ (Nat.le_of_ble_eq_true rfl) (Nat.le_of_ble_eq_true rfl) (s_192 (a1 := a2) hI_143 (show 0 ≤ a2 ∧ a2 ≤ 5 from by omega) (fun c_145 hI_146 hF_147 h_148 => ?_))
                refine bk_inl ?_
                have h_149 := ir_59_g hI_146 (j := 4 * a2 + 1) (by omega)
                have h_150 := ir_59_g hI_146 (j := 4 * a2 + 2) (by omega)
                have h_151 := ir_59_g hI_146 (j := 4 * a2 + 3) (by omega)
                have h_152 := ir_59_g hI_146 (j := 4 * a2) (by omega)
                refine q_iconst rfl ?_
                refine v_zret rfl rfl (by omega) ?_
                have hr_153 : ∀ j : Int, rs 59 j → c_145 59 j + c_145 59 (j + 1) + c_145 59 (j + 2) + c_145 59 (j + 3) ≤ 9999 := by
                  intro j9 hj9
                  obtain ⟨k9, rfl, hk9⟩ := rs_59 hj9
                  by_cases e_154 : k9 = a2
                  · skip
                    have h_155 : c_145 59 (4 * k9) = c_145 59 (4 * a2) := (congrArg (c_145 59) (show 4 * k9 = 4 * a2 from by omega))
                    have h_156 : c_145 59 (4 * k9 + 1) = c_145 59 (4 * a2 + 1) := (congrArg (c_145 59) (show 4 * k9 + 1 = 4 * a2 + 1 from by omega))
                    have h_157 : c_145 59 (4 * k9 + 2) = c_145 59 (4 * a2 + 2) := (congrArg (c_145 59) (show 4 * k9 + 2 = 4 * a2 + 2 from by omega))
                    have h_158 : c_145 59 (4 * k9 + 3) = c_145 59 (4 * a2 + 3) := (congrArg (c_145 59) (show 4 * k9 + 3 = 4 * a2 + 3 from by omega))
                    omega
                  by_cases e_159 : k9 = a3
                  · skip
                    have h_160 : c_145 59 (4 * k9) = (fal (c 49 a1) (c 59 (a1 + 30)) 0 (c 59 (4 * a2))) + c 59 (4 * a3) := (congrArg (c_145 59) (show 4 * k9 = 4 * a3 from by omega)).trans ((hF_147 59 (4 * a3) (by omega)).trans ((hF_144 59 (4 * a3) (by omega)).trans ((up_n (by omega)).trans ((up_n (by omega)).trans ((up_n (by omega)).trans ((up_n (by omega)).trans ((up_n (by omega)).trans ((up_n (by omega)).trans ((up_n (by omega)).trans (up_e rfl))))))))))
                    have h_161 : c_145 59 (4 * k9 + 1) = (fal (c 49 a1) (c 59 (a1 + 30)) 1 (c 59 (4 * a2 + 1))) + c 59 (4 * a3 + 1) := (congrArg (c_145 59) (show 4 * k9 + 1 = 4 * a3 + 1 from by omega)).trans ((hF_147 59 (4 * a3 + 1) (by omega)).trans ((hF_144 59 (4 * a3 + 1) (by omega)).trans ((up_n (by omega)).trans ((up_n (by omega)).trans ((up_n (by omega)).trans ((up_n (by omega)).trans ((up_n (by omega)).trans (up_e rfl))))))))
                    have h_162 : c_145 59 (4 * k9 + 2) = (fal (c 49 a1) (c 59 (a1 + 30)) 2 (c 59 (4 * a2 + 2))) + c 59 (4 * a3 + 2) := (congrArg (c_145 59) (show 4 * k9 + 2 = 4 * a3 + 2 from by omega)).trans ((hF_147 59 (4 * a3 + 2) (by omega)).trans ((hF_144 59 (4 * a3 + 2) (by omega)).trans ((up_n (by omega)).trans ((up_n (by omega)).trans ((up_n (by omega)).trans (up_e rfl))))))
                    have h_163 : c_145 59 (4 * k9 + 3) = (fal (c 49 a1) (c 59 (a1 + 30)) 3 (c 59 (4 * a2 + 3))) + c 59 (4 * a3 + 3) := (congrArg (c_145 59) (show 4 * k9 + 3 = 4 * a3 + 3 from by omega)).trans ((hF_147 59 (4 * a3 + 3) (by omega)).trans ((hF_144 59 (4 * a3 + 3) (by omega)).trans ((up_n (by omega)).trans (up_e rfl))))
                    omega
                  by_cases e_164 : k9 = a4
                  · skip
                    have h_165 : c_145 59 (4 * k9) = c 59 (4 * a2) + c 59 (4 * a4) - (fal (c 49 a1) (c 59 (a1 + 30)) 0 (c 59 (4 * a2))) := (congrArg (c_145 59) (show 4 * k9 = 4 * a4 from by omega)).trans ((hF_147 59 (4 * a4) (by omega)).trans ((hF_144 59 (4 * a4) (by omega)).trans ((up_n (by omega)).trans ((up_n (by omega)).trans ((up_n (by omega)).trans ((up_n (by omega)).trans ((up_n (by omega)).trans ((up_n (by omega)).trans (up_e rfl)))))))))
                    have h_166 : c_145 59 (4 * k9 + 1) = c 59 (4 * a2 + 1) + c 59 (4 * a4 + 1) - (fal (c 49 a1) (c 59 (a1 + 30)) 1 (c 59 (4 * a2 + 1))) := (congrArg (c_145 59) (show 4 * k9 + 1 = 4 * a4 + 1 from by omega)).trans ((hF_147 59 (4 * a4 + 1) (by omega)).trans ((hF_144 59 (4 * a4 + 1) (by omega)).trans ((up_n (by omega)).trans ((up_n (by omega)).trans ((up_n (by omega)).trans ((up_n (by omega)).trans (up_e rfl)))))))
                    have h_167 : c_145 59 (4 * k9 + 2) = c 59 (4 * a2 + 2) + c 59 (4 * a4 + 2) - (fal (c 49 a1) (c 59 (a1 + 30)) 2 (c 59 (4 * a2 + 2))) := (congrArg (c_145 59) (show 4 * k9 + 2 = 4 * a4 + 2 from by omega)).trans ((hF_147 59 (4 * a4 + 2) (by omega)).trans ((hF_144 59 (4 * a4 + 2) (by omega)).trans ((up_n (by omega)).trans ((up_n (by omega)).trans (up_e rfl)))))
                    have h_168 : c_145 59 (4 * k9 + 3) = c 59 (4 * a2 + 3) + c 59 (4 * a4 + 3) - (fal (c 49 a1) (c 59 (a1 + 30)) 3 (c 59 (4 * a2 + 3))) := (congrArg (c_145 59) (show 4 * k9 + 3 = 4 * a4 + 3 from by omega)).trans ((hF_147 59 (4 * a4 + 3) (by omega)).trans ((hF_144 59 (4 * a4 + 3) (by omega)).trans (up_e rfl)))
                    omega
                  have h_169 := iv_r hI 59 (4 * k9) hj9 (by omega)
                  have h_170 := ir_59_g hI (j := 4 * k9) (by omega)
                  have h_171 : c_145 59 (4 * k9) = c 59 (4 * k9) := ((hF_147 59 (4 * k9) (by omega)).trans ((hF_144 59 (4 * k9) (by omega)).trans ((up_n (by omega)).trans ((up_n (by omega)).trans ((up_n (by omega)).trans ((up_n (by omega)).trans ((up_n (by omega)).trans ((up_n (by omega)).trans ((up_n (by omega)).trans (up_n (by omega)))))))))))
                  have h_172 := ir_59_g hI (j := 4 * k9 + 1) (by omega)
                  have h_173 : c_145 59 (4 * k9 + 1) = c 59 (4 * k9 + 1) := ((hF_147 59 (4 * k9 + 1) (by omega)).trans ((hF_144 59 (4 * k9 + 1) (by omega)).trans ((up_n (by omega)).trans ((up_n (by omega)).trans ((up_n (by omega)).trans ((up_n (by omega)).trans ((up_n (by omega)).trans ((up_n (by omega)).trans ((up_n (by omega)).trans (up_n (by omega)))))))))))
                  have h_174 := ir_59_g hI (j := 4 * k9 + 2) (by omega)
                  have h_175 : c_145 59 (4 * k9 + 2) = c 59 (4 * k9 + 2) := ((hF_147 59 (4 * k9 + 2) (by omega)).trans ((hF_144 59 (4 * k9 + 2) (by omega)).trans ((up_n (by omega)).trans ((up_n (by omega)).trans ((up_n (by omega)).trans ((up_n (by omega)).trans ((up_n (by omega)).trans ((up_n (by omega)).trans ((up_n (by omega)).trans (up_n (by omega)))))))))))
                  have h_176 := ir_59_g hI (j := 4 * k9 + 3) (by omega)
                  have h_177 : c_145 59 (4 * k9 + 3) = c 59 (4 * k9 + 3) := ((hF_147 59 (4 * k9 + 3) (by omega)).trans ((hF_144 59 (4 * k9 + 3) (by omega)).trans ((up_n (by omega)).trans ((up_n (by omega)).trans ((up_n (by omega)).trans ((up_n (by omega)).trans ((up_n (by omega)).trans ((up_n (by omega)).trans ((up_n (by omega)).trans (up_n (by omega)))))))))))
                  omega
                have hI_178 := iv_close hI_146 hr_153
                exact K c_145 1 hI_178 (fun a j hm => (hF_147 a j (by omega)).trans ((hF_144 a j (by omega)).trans ((up_b (by omega)).trans ((up_b (by omega)).trans ((up_b (by omega)).trans ((up_b (by omega)).trans ((up_b (by omega)).trans ((up_b (by omega)).trans ((up_b (by omega)).trans (up_b (by omega))))))))))) ⟨by decide, by decide⟩
              · refine v_if_le_f (t := 161) rfl (by decide) (by omega) ?_
                refine q_aload_n rfl rfl ?_
                refine q_iload_n rfl rfl ?_
                refine q_aload_n rfl rfl ?_
                refine v_gr (t := 59) rfl rfl rfl (by decide) rfl ?_
                refine v_bip rfl (by decide) ?_
                refine q_iload_n rfl rfl ?_
                refine v_iadd (v := a2 + 24) rfl (by omega) ?_
                have h_179 := ir_59 hI (a2 + 24)
                refine v_ia (v := c 59 (a2 + 24)) rfl rfl (by decide) (by decide) (by omega) ((up_n (by omega)).trans ((up_n (by omega)).trans ((up_n (by omega)).trans ((up_n (by omega)).trans ((up_n (by omega)).trans ((up_n (by omega)).trans ((up_n (by omega)).trans (up_n (by omega))))))))) ?_
                have hI_180 := iw_row (a := 59) (j := 4 * a3 + 3) (v := (fal (c 49 a1) (c 59 (a1 + 30)) 3 (c 59 (4 * a2 + 3))) + c 59 (4 * a3 + 3)) hI_137 (by omega) (Or.inl rfl) ⟨by omega, by omega, by omega⟩
                have hI_181 := iw_row (a := 59) (j := 4 * a4 + 3) (v := c 59 (4 * a2 + 3) + c 59 (4 * a4 + 3) - (fal (c 49 a1) (c 59 (a1 + 30)) 3 (c 59 (4 * a2 + 3)))) hI_180 (by omega) (Or.inl rfl) ⟨by omega, by omega, by omega⟩
                refine v_cv rfl rfl rfl rfl (by decide) ⟨⟨rfl, rfl⟩, by decide, rfl⟩ (Nat.le_of_ble_eq_true rfl) (Nat.le_of_ble_eq_true rfl) (s_191 (a1 := a3) (a2 := c 59 (a2 + 24)) hI_181 (show 0 ≤ a3 ∧ a3 ≤ 5 from by omega) (show (-2147483648) ≤ c 59 (a2 + 24) ∧ c 59 (a2 + 24) ≤ 2147483647 from by omega) (fun c_182 hI_183 hF_184 => ?_))
                refine bk_inl ?_
                refine q_iload rfl rfl ?_
                refine q_aload_n rfl rfl ?_
                refine q_iload_n rfl rfl ?_
                refine v_cv rfl rfl rfl rfl (by decide) ⟨⟨rfl, rfl⟩, by decide, rfl⟩ (Nat.le_of_ble_eq_true rfl) (Nat.le_of_ble_eq_true rfl) (s_187 (v1 := c 59 (4 * a2)) (v2 := c 59 (4 * a2 + 1)) (v3 := c 59 (4 * a2 + 2)) (v4 := c 59 (4 * a2 + 3)) (r := c 59 (4 * a2 + 1) + c 59 (4 * a2 + 2) + c 59 (4 * a2 + 3) + c 59 (4 * a2)) (a1 := a2) hI_183 (show 0 ≤ a2 ∧ a2 ≤ 5 from by omega) (((hF_184 59 (4 * a2) (by omega)).trans ((up_n (by omega)).trans ((up_n (by omega)).trans ((up_n (by omega)).trans ((up_n (by omega)).trans ((up_n (by omega)).trans ((up_n (by omega)).trans ((up_n (by omega)).trans (up_n (by omega))))))))))) (((hF_184 59 (4 * a2 + 1) (by omega)).trans ((up_n (by omega)).trans ((up_n (by omega)).trans ((up_n (by omega)).trans ((up_n (by omega)).trans ((up_n (by omega)).trans ((up_n (by omega)).trans ((up_n (by omega)).trans (up_n (by omega))))))))))) (((hF_184 59 (4 * a2 + 2) (by omega)).trans ((up_n (by omega)).trans ((up_n (by omega)).trans ((up_n (by omega)).trans ((up_n (by omega)).trans ((up_n (by omega)).trans ((up_n (by omega)).trans ((up_n (by omega)).trans (up_n (by omega))))))))))) (((hF_184 59 (4 * a2 + 3) (by omega)).trans ((up_n (by omega)).trans ((up_n (by omega)).trans ((up_n (by omega)).trans ((up_n (by omega)).trans ((up_n (by omega)).trans ((up_n (by omega)).trans ((up_n (by omega)).trans (up_n (by omega))))))))))) (by omega) ?_)
                refine bk_inl ?_
                by_cases h_185 : (fal (c 49 a1) (c 59 (a1 + 30)) 0 (c 59 (4 * a2))) + (fal (c 49 a1) (c 59 (a1 + 30)) 1 (c 59 (4 * a2 + 1))) + (fal (c 49 a1) (c 59 (a1 + 30)) 2 (c 59 (4 * a2 + 2))) + (fal (c 49 a1) (c 59 (a1 + 30)) 3 (c 59 (4 * a2 + 3))) ≥ c 59 (4 * a2 + 1) + c 59 (4 * a2 + 2) + c 59 (4 * a2 + 3) + c 59 (4 * a2)
                · refine v_ic_ge_t (t := 186) rfl (by decide) (by omega) ?_
                  refine q_aload_n rfl rfl ?_
                  refine q_iload_n rfl rfl ?_
                  refine v_cv rfl rfl rfl rfl (by decide) ⟨⟨rfl, rfl⟩, by decide, rfl⟩ (Nat.le_of_ble_eq_true rfl) (Nat.le_of_ble_eq_true rfl) (s_192 (a1 := a2) hI_183 (show 0 ≤ a2 ∧ a2 ≤ 5 from by omega) (fun c_186 hI_187 hF_188 h_189 => ?_))
                  refine bk_inl ?_
                  have h_190 := ir_59_g hI_187 (j := 4 * a2 + 1) (by omega)
                  have h_191 := ir_59_g hI_187 (j := 4 * a2 + 2) (by omega)
                  have h_192 := ir_59_g hI_187 (j := 4 * a2 + 3) (by omega)
                  have h_193 := ir_59_g hI_187 (j := 4 * a2) (by omega)
                  refine q_iconst rfl ?_
                  refine v_zret rfl rfl (by omega) ?_
                  have hr_194 : ∀ j : Int, rs 59 j → c_186 59 j + c_186 59 (j + 1) + c_186 59 (j + 2) + c_186 59 (j + 3) ≤ 9999 := by
                    intro j9 hj9
                    obtain ⟨k9, rfl, hk9⟩ := rs_59 hj9
                    by_cases e_195 : k9 = a2
                    · skip
                      have h_196 : c_186 59 (4 * k9) = c_186 59 (4 * a2) := (congrArg (c_186 59) (show 4 * k9 = 4 * a2 from by omega))
                      have h_197 : c_186 59 (4 * k9 + 1) = c_186 59 (4 * a2 + 1) := (congrArg (c_186 59) (show 4 * k9 + 1 = 4 * a2 + 1 from by omega))
                      have h_198 : c_186 59 (4 * k9 + 2) = c_186 59 (4 * a2 + 2) := (congrArg (c_186 59) (show 4 * k9 + 2 = 4 * a2 + 2 from by omega))
                      have h_199 : c_186 59 (4 * k9 + 3) = c_186 59 (4 * a2 + 3) := (congrArg (c_186 59) (show 4 * k9 + 3 = 4 * a2 + 3 from by omega))
                      omega
                    by_cases e_200 : k9 = a3
                    · skip
                      have h_201 : c_186 59 (4 * k9) = (fal (c 49 a1) (c 59 (a1 + 30)) 0 (c 59 (4 * a2))) + c 59 (4 * a3) := (congrArg (c_186 59) (show 4 * k9 = 4 * a3 from by omega)).trans ((hF_188 59 (4 * a3) (by omega)).trans ((hF_184 59 (4 * a3) (by omega)).trans ((up_n (by omega)).trans ((up_n (by omega)).trans ((up_n (by omega)).trans ((up_n (by omega)).trans ((up_n (by omega)).trans ((up_n (by omega)).trans ((up_n (by omega)).trans (up_e rfl))))))))))
                      have h_202 : c_186 59 (4 * k9 + 1) = (fal (c 49 a1) (c 59 (a1 + 30)) 1 (c 59 (4 * a2 + 1))) + c 59 (4 * a3 + 1) := (congrArg (c_186 59) (show 4 * k9 + 1 = 4 * a3 + 1 from by omega)).trans ((hF_188 59 (4 * a3 + 1) (by omega)).trans ((hF_184 59 (4 * a3 + 1) (by omega)).trans ((up_n (by omega)).trans ((up_n (by omega)).trans ((up_n (by omega)).trans ((up_n (by omega)).trans ((up_n (by omega)).trans (up_e rfl))))))))
                      have h_203 : c_186 59 (4 * k9 + 2) = (fal (c 49 a1) (c 59 (a1 + 30)) 2 (c 59 (4 * a2 + 2))) + c 59 (4 * a3 + 2) := (congrArg (c_186 59) (show 4 * k9 + 2 = 4 * a3 + 2 from by omega)).trans ((hF_188 59 (4 * a3 + 2) (by omega)).trans ((hF_184 59 (4 * a3 + 2) (by omega)).trans ((up_n (by omega)).trans ((up_n (by omega)).trans ((up_n (by omega)).trans (up_e rfl))))))
                      have h_204 : c_186 59 (4 * k9 + 3) = (fal (c 49 a1) (c 59 (a1 + 30)) 3 (c 59 (4 * a2 + 3))) + c 59 (4 * a3 + 3) := (congrArg (c_186 59) (show 4 * k9 + 3 = 4 * a3 + 3 from by omega)).trans ((hF_188 59 (4 * a3 + 3) (by omega)).trans ((hF_184 59 (4 * a3 + 3) (by omega)).trans ((up_n (by omega)).trans (up_e rfl))))
                      omega
                    by_cases e_205 : k9 = a4
                    · skip
                      have h_206 : c_186 59 (4 * k9) = c 59 (4 * a2) + c 59 (4 * a4) - (fal (c 49 a1) (c 59 (a1 + 30)) 0 (c 59 (4 * a2))) := (congrArg (c_186 59) (show 4 * k9 = 4 * a4 from by omega)).trans ((hF_188 59 (4 * a4) (by omega)).trans ((hF_184 59 (4 * a4) (by omega)).trans ((up_n (by omega)).trans ((up_n (by omega)).trans ((up_n (by omega)).trans ((up_n (by omega)).trans ((up_n (by omega)).trans ((up_n (by omega)).trans (up_e rfl)))))))))
                      have h_207 : c_186 59 (4 * k9 + 1) = c 59 (4 * a2 + 1) + c 59 (4 * a4 + 1) - (fal (c 49 a1) (c 59 (a1 + 30)) 1 (c 59 (4 * a2 + 1))) := (congrArg (c_186 59) (show 4 * k9 + 1 = 4 * a4 + 1 from by omega)).trans ((hF_188 59 (4 * a4 + 1) (by omega)).trans ((hF_184 59 (4 * a4 + 1) (by omega)).trans ((up_n (by omega)).trans ((up_n (by omega)).trans ((up_n (by omega)).trans ((up_n (by omega)).trans (up_e rfl)))))))
                      have h_208 : c_186 59 (4 * k9 + 2) = c 59 (4 * a2 + 2) + c 59 (4 * a4 + 2) - (fal (c 49 a1) (c 59 (a1 + 30)) 2 (c 59 (4 * a2 + 2))) := (congrArg (c_186 59) (show 4 * k9 + 2 = 4 * a4 + 2 from by omega)).trans ((hF_188 59 (4 * a4 + 2) (by omega)).trans ((hF_184 59 (4 * a4 + 2) (by omega)).trans ((up_n (by omega)).trans ((up_n (by omega)).trans (up_e rfl)))))
                      have h_209 : c_186 59 (4 * k9 + 3) = c 59 (4 * a2 + 3) + c 59 (4 * a4 + 3) - (fal (c 49 a1) (c 59 (a1 + 30)) 3 (c 59 (4 * a2 + 3))) := (congrArg (c_186 59) (show 4 * k9 + 3 = 4 * a4 + 3 from by omega)).trans ((hF_188 59 (4 * a4 + 3) (by omega)).trans ((hF_184 59 (4 * a4 + 3) (by omega)).trans (up_e rfl)))
                      omega
                    have h_210 := iv_r hI 59 (4 * k9) hj9 (by omega)
                    have h_211 := ir_59_g hI (j := 4 * k9) (by omega)
                    have h_212 : c_186 59 (4 * k9) = c 59 (4 * k9) := ((hF_188 59 (4 * k9) (by omega)).trans ((hF_184 59 (4 * k9) (by omega)).trans ((up_n (by omega)).trans ((up_n (by omega)).trans ((up_n (by omega)).trans ((up_n (by omega)).trans ((up_n (by omega)).trans ((up_n (by omega)).trans ((up_n (by omega)).trans (up_n (by omega)))))))))))
                    have h_213 := ir_59_g hI (j := 4 * k9 + 1) (by omega)
                    have h_214 : c_186 59 (4 * k9 + 1) = c 59 (4 * k9 + 1) := ((hF_188 59 (4 * k9 + 1) (by omega)).trans ((hF_184 59 (4 * k9 + 1) (by omega)).trans ((up_n (by omega)).trans ((up_n (by omega)).trans ((up_n (by omega)).trans ((up_n (by omega)).trans ((up_n (by omega)).trans ((up_n (by omega)).trans ((up_n (by omega)).trans (up_n (by omega)))))))))))
                    have h_215 := ir_59_g hI (j := 4 * k9 + 2) (by omega)
                    have h_216 : c_186 59 (4 * k9 + 2) = c 59 (4 * k9 + 2) := ((hF_188 59 (4 * k9 + 2) (by omega)).trans ((hF_184 59 (4 * k9 + 2) (by omega)).trans ((up_n (by omega)).trans ((up_n (by omega)).trans ((up_n (by omega)).trans ((up_n (by omega)).trans ((up_n (by omega)).trans ((up_n (by omega)).trans ((up_n (by omega)).trans (up_n (by omega)))))))))))
                    have h_217 := ir_59_g hI (j := 4 * k9 + 3) (by omega)
                    have h_218 : c_186 59 (4 * k9 + 3) = c 59 (4 * k9 + 3) := ((hF_188 59 (4 * k9 + 3) (by omega)).trans ((hF_184 59 (4 * k9 + 3) (by omega)).trans ((up_n (by omega)).trans ((up_n (by omega)).trans ((up_n (by omega)).trans ((up_n (by omega)).trans ((up_n (by omega)).trans ((up_n (by omega)).trans ((up_n (by omega)).trans (up_n (by omega)))))))))))
                    omega
                  have hI_219 := iv_close hI_187 hr_194
                  exact K c_186 1 hI_219 (fun a j hm => (hF_188 a j (by omega)).trans ((hF_184 a j (by omega)).trans ((up_b (by omega)).trans ((up_b (by omega)).trans ((up_b (by omega)).trans ((up_b (by omega)).trans ((up_b (by omega)).trans ((up_b (by omega)).trans ((up_b (by omega)).trans (up_b (by omega))))))))))) ⟨by decide, by decide⟩
                · refine v_ic_ge_f (t := 186) rfl (by decide) (by omega) ?_
                  refine q_aload_n rfl rfl ?_
                  refine q_iload rfl rfl ?_
                  refine q_aload_n rfl rfl ?_
                  refine v_gr (t := 59) rfl rfl rfl (by decide) rfl ?_
                  refine v_bip rfl (by decide) ?_
                  refine q_iload_n rfl rfl ?_
                  refine v_iadd (v := a2 + 24) rfl (by omega) ?_
                  refine v_ia (v := c 59 (a2 + 24)) rfl rfl (by decide) (by decide) (by omega) ((hF_184 59 (a2 + 24) (by omega)).trans ((up_n (by omega)).trans ((up_n (by omega)).trans ((up_n (by omega)).trans ((up_n (by omega)).trans ((up_n (by omega)).trans ((up_n (by omega)).trans ((up_n (by omega)).trans (up_n (by omega)))))))))) ?_
                  refine v_cv rfl rfl rfl rfl (by decide) ⟨⟨rfl, rfl⟩, by decide, rfl⟩ (Nat.le_of_ble_eq_true rfl) (Nat.le_of_ble_eq_true rfl) (s_191 (a1 := a4) (a2 := c 59 (a2 + 24)) hI_183 (show 0 ≤ a4 ∧ a4 ≤ 5 from by omega) (show (-2147483648) ≤ c 59 (a2 + 24) ∧ c 59 (a2 + 24) ≤ 2147483647 from by omega) (fun c_220 hI_221 hF_222 => ?_))
                  refine bk_inl ?_
                  refine q_aload_n rfl rfl ?_
                  refine q_iload_n rfl rfl ?_
                  refine v_cv rfl rfl rfl rfl (by decide) ⟨⟨rfl, rfl⟩, by decide, rfl⟩ (Nat.le_of_ble_eq_true rfl) (Nat.le_of_ble_eq_true rfl) (s_192 (a1 := a2) hI_221 (show 0 ≤ a2 ∧ a2 ≤ 5 from by omega) (fun c_223 hI_224 hF_225 h_226 => ?_))
                  refine bk_inl ?_
                  have h_227 := ir_59_g hI_224 (j := 4 * a2 + 1) (by omega)
                  have h_228 := ir_59_g hI_224 (j := 4 * a2 + 2) (by omega)
                  have h_229 := ir_59_g hI_224 (j := 4 * a2 + 3) (by omega)
                  have h_230 := ir_59_g hI_224 (j := 4 * a2) (by omega)
                  refine q_iconst rfl ?_
                  refine v_zret rfl rfl (by omega) ?_
                  have hr_231 : ∀ j : Int, rs 59 j → c_223 59 j + c_223 59 (j + 1) + c_223 59 (j + 2) + c_223 59 (j + 3) ≤ 9999 := by
                    intro j9 hj9
                    obtain ⟨k9, rfl, hk9⟩ := rs_59 hj9
                    by_cases e_232 : k9 = a2
                    · skip
                      have h_233 : c_223 59 (4 * k9) = c_223 59 (4 * a2) := (congrArg (c_223 59) (show 4 * k9 = 4 * a2 from by omega))
                      have h_234 : c_223 59 (4 * k9 + 1) = c_223 59 (4 * a2 + 1) := (congrArg (c_223 59) (show 4 * k9 + 1 = 4 * a2 + 1 from by omega))
                      have h_235 : c_223 59 (4 * k9 + 2) = c_223 59 (4 * a2 + 2) := (congrArg (c_223 59) (show 4 * k9 + 2 = 4 * a2 + 2 from by omega))
                      have h_236 : c_223 59 (4 * k9 + 3) = c_223 59 (4 * a2 + 3) := (congrArg (c_223 59) (show 4 * k9 + 3 = 4 * a2 + 3 from by omega))
                      omega
                    by_cases e_237 : k9 = a3
                    · skip
                      have h_238 : c_223 59 (4 * k9) = (fal (c 49 a1) (c 59 (a1 + 30)) 0 (c 59 (4 * a2))) + c 59 (4 * a3) := (congrArg (c_223 59) (show 4 * k9 = 4 * a3 from by omega)).trans ((hF_225 59 (4 * a3) (by omega)).trans ((hF_222 59 (4 * a3) (by omega)).trans ((hF_184 59 (4 * a3) (by omega)).trans ((up_n (by omega)).trans ((up_n (by omega)).trans ((up_n (by omega)).trans ((up_n (by omega)).trans ((up_n (by omega)).trans ((up_n (by omega)).trans ((up_n (by omega)).trans (up_e rfl)))))))))))
                      have h_239 : c_223 59 (4 * k9 + 1) = (fal (c 49 a1) (c 59 (a1 + 30)) 1 (c 59 (4 * a2 + 1))) + c 59 (4 * a3 + 1) := (congrArg (c_223 59) (show 4 * k9 + 1 = 4 * a3 + 1 from by omega)).trans ((hF_225 59 (4 * a3 + 1) (by omega)).trans ((hF_222 59 (4 * a3 + 1) (by omega)).trans ((hF_184 59 (4 * a3 + 1) (by omega)).trans ((up_n (by omega)).trans ((up_n (by omega)).trans ((up_n (by omega)).trans ((up_n (by omega)).trans ((up_n (by omega)).trans (up_e rfl)))))))))
                      have h_240 : c_223 59 (4 * k9 + 2) = (fal (c 49 a1) (c 59 (a1 + 30)) 2 (c 59 (4 * a2 + 2))) + c 59 (4 * a3 + 2) := (congrArg (c_223 59) (show 4 * k9 + 2 = 4 * a3 + 2 from by omega)).trans ((hF_225 59 (4 * a3 + 2) (by omega)).trans ((hF_222 59 (4 * a3 + 2) (by omega)).trans ((hF_184 59 (4 * a3 + 2) (by omega)).trans ((up_n (by omega)).trans ((up_n (by omega)).trans ((up_n (by omega)).trans (up_e rfl)))))))
                      have h_241 : c_223 59 (4 * k9 + 3) = (fal (c 49 a1) (c 59 (a1 + 30)) 3 (c 59 (4 * a2 + 3))) + c 59 (4 * a3 + 3) := (congrArg (c_223 59) (show 4 * k9 + 3 = 4 * a3 + 3 from by omega)).trans ((hF_225 59 (4 * a3 + 3) (by omega)).trans ((hF_222 59 (4 * a3 + 3) (by omega)).trans ((hF_184 59 (4 * a3 + 3) (by omega)).trans ((up_n (by omega)).trans (up_e rfl)))))
                      omega
                    by_cases e_242 : k9 = a4
                    · skip
                      have h_243 : c_223 59 (4 * k9) = c 59 (4 * a2) + c 59 (4 * a4) - (fal (c 49 a1) (c 59 (a1 + 30)) 0 (c 59 (4 * a2))) := (congrArg (c_223 59) (show 4 * k9 = 4 * a4 from by omega)).trans ((hF_225 59 (4 * a4) (by omega)).trans ((hF_222 59 (4 * a4) (by omega)).trans ((hF_184 59 (4 * a4) (by omega)).trans ((up_n (by omega)).trans ((up_n (by omega)).trans ((up_n (by omega)).trans ((up_n (by omega)).trans ((up_n (by omega)).trans ((up_n (by omega)).trans (up_e rfl))))))))))
                      have h_244 : c_223 59 (4 * k9 + 1) = c 59 (4 * a2 + 1) + c 59 (4 * a4 + 1) - (fal (c 49 a1) (c 59 (a1 + 30)) 1 (c 59 (4 * a2 + 1))) := (congrArg (c_223 59) (show 4 * k9 + 1 = 4 * a4 + 1 from by omega)).trans ((hF_225 59 (4 * a4 + 1) (by omega)).trans ((hF_222 59 (4 * a4 + 1) (by omega)).trans ((hF_184 59 (4 * a4 + 1) (by omega)).trans ((up_n (by omega)).trans ((up_n (by omega)).trans ((up_n (by omega)).trans ((up_n (by omega)).trans (up_e rfl))))))))
                      have h_245 : c_223 59 (4 * k9 + 2) = c 59 (4 * a2 + 2) + c 59 (4 * a4 + 2) - (fal (c 49 a1) (c 59 (a1 + 30)) 2 (c 59 (4 * a2 + 2))) := (congrArg (c_223 59) (show 4 * k9 + 2 = 4 * a4 + 2 from by omega)).trans ((hF_225 59 (4 * a4 + 2) (by omega)).trans ((hF_222 59 (4 * a4 + 2) (by omega)).trans ((hF_184 59 (4 * a4 + 2) (by omega)).trans ((up_n (by omega)).trans ((up_n (by omega)).trans (up_e rfl))))))
                      have h_246 : c_223 59 (4 * k9 + 3) = c 59 (4 * a2 + 3) + c 59 (4 * a4 + 3) - (fal (c 49 a1) (c 59 (a1 + 30)) 3 (c 59 (4 * a2 + 3))) := (congrArg (c_223 59) (show 4 * k9 + 3 = 4 * a4 + 3 from by omega)).trans ((hF_225 59 (4 * a4 + 3) (by omega)).trans ((hF_222 59 (4 * a4 + 3) (by omega)).trans ((hF_184 59 (4 * a4 + 3) (by omega)).trans (up_e rfl))))
                      omega
                    have h_247 := iv_r hI 59 (4 * k9) hj9 (by omega)
                    have h_248 := ir_59_g hI (j := 4 * k9) (by omega)
                    have h_249 : c_223 59 (4 * k9) = c 59 (4 * k9) := ((hF_225 59 (4 * k9) (by omega)).trans ((hF_222 59 (4 * k9) (by omega)).trans ((hF_184 59 (4 * k9) (by omega)).trans ((up_n (by omega)).trans ((up_n (by omega)).trans ((up_n (by omega)).trans ((up_n (by omega)).trans ((up_n (by omega)).trans ((up_n (by omega)).trans ((up_n (by omega)).trans (up_n (by omega))))))))))))
                    have h_250 := ir_59_g hI (j := 4 * k9 + 1) (by omega)
                    have h_251 : c_223 59 (4 * k9 + 1) = c 59 (4 * k9 + 1) := ((hF_225 59 (4 * k9 + 1) (by omega)).trans ((hF_222 59 (4 * k9 + 1) (by omega)).trans ((hF_184 59 (4 * k9 + 1) (by omega)).trans ((up_n (by omega)).trans ((up_n (by omega)).trans ((up_n (by omega)).trans ((up_n (by omega)).trans ((up_n (by omega)).trans ((up_n (by omega)).trans ((up_n (by omega)).trans (up_n (by omega))))))))))))
                    have h_252 := ir_59_g hI (j := 4 * k9 + 2) (by omega)
                    have h_253 : c_223 59 (4 * k9 + 2) = c 59 (4 * k9 + 2) := ((hF_225 59 (4 * k9 + 2) (by omega)).trans ((hF_222 59 (4 * k9 + 2) (by omega)).trans ((hF_184 59 (4 * k9 + 2) (by omega)).trans ((up_n (by omega)).trans ((up_n (by omega)).trans ((up_n (by omega)).trans ((up_n (by omega)).trans ((up_n (by omega)).trans ((up_n (by omega)).trans ((up_n (by omega)).trans (up_n (by omega))))))))))))
                    have h_254 := ir_59_g hI (j := 4 * k9 + 3) (by omega)
                    have h_255 : c_223 59 (4 * k9 + 3) = c 59 (4 * k9 + 3) := ((hF_225 59 (4 * k9 + 3) (by omega)).trans ((hF_222 59 (4 * k9 + 3) (by omega)).trans ((hF_184 59 (4 * k9 + 3) (by omega)).trans ((up_n (by omega)).trans ((up_n (by omega)).trans ((up_n (by omega)).trans ((up_n (by omega)).trans ((up_n (by omega)).trans ((up_n (by omega)).trans ((up_n (by omega)).trans (up_n (by omega))))))))))))
                    omega
                  have hI_256 := iv_close hI_224 hr_231
                  exact K c_223 1 hI_256 (fun a j hm => (hF_225 a j (by omega)).trans ((hF_222 a j (by omega)).trans ((hF_184 a j (by omega)).trans ((up_b (by omega)).trans ((up_b (by omega)).trans ((up_b (by omega)).trans ((up_b (by omega)).trans ((up_b (by omega)).trans ((up_b (by omega)).trans ((up_b (by omega)).trans (up_b (by omega)))))))))))) ⟨by decide, by decide⟩
            · refine v_ic_le_f (t := 72) rfl (by decide) (by omega) ?_
              refine q_iconst rfl ?_
              refine v_zret rfl rfl (by omega) ?_
              have hr_257 : ∀ j : Int, rs 59 j → c 59 j + c 59 (j + 1) + c 59 (j + 2) + c 59 (j + 3) ≤ 9999 := by
                intro j9 hj9
                obtain ⟨k9, rfl, hk9⟩ := rs_59 hj9
                by_cases e_258 : k9 = a2
                · skip
                  have h_259 : c 59 (4 * k9) = c 59 (4 * a2) := (congrArg (c 59) (show 4 * k9 = 4 * a2 from by omega))
                  have h_260 : c 59 (4 * k9 + 1) = c 59 (4 * a2 + 1) := (congrArg (c 59) (show 4 * k9 + 1 = 4 * a2 + 1 from by omega))
                  have h_261 : c 59 (4 * k9 + 2) = c 59 (4 * a2 + 2) := (congrArg (c 59) (show 4 * k9 + 2 = 4 * a2 + 2 from by omega))
                  have h_262 : c 59 (4 * k9 + 3) = c 59 (4 * a2 + 3) := (congrArg (c 59) (show 4 * k9 + 3 = 4 * a2 + 3 from by omega))
                  omega
                by_cases e_263 : k9 = a3
                · skip
                  have h_264 : c 59 (4 * k9) = c 59 (4 * a3) := (congrArg (c 59) (show 4 * k9 = 4 * a3 from by omega))
                  have h_265 : c 59 (4 * k9 + 1) = c 59 (4 * a3 + 1) := (congrArg (c 59) (show 4 * k9 + 1 = 4 * a3 + 1 from by omega))
                  have h_266 : c 59 (4 * k9 + 2) = c 59 (4 * a3 + 2) := (congrArg (c 59) (show 4 * k9 + 2 = 4 * a3 + 2 from by omega))
                  have h_267 : c 59 (4 * k9 + 3) = c 59 (4 * a3 + 3) := (congrArg (c 59) (show 4 * k9 + 3 = 4 * a3 + 3 from by omega))
                  omega
                by_cases e_268 : k9 = a4
                · skip
                  have h_269 : c 59 (4 * k9) = c 59 (4 * a4) := (congrArg (c 59) (show 4 * k9 = 4 * a4 from by omega))
                  have h_270 : c 59 (4 * k9 + 1) = c 59 (4 * a4 + 1) := (congrArg (c 59) (show 4 * k9 + 1 = 4 * a4 + 1 from by omega))
                  have h_271 : c 59 (4 * k9 + 2) = c 59 (4 * a4 + 2) := (congrArg (c 59) (show 4 * k9 + 2 = 4 * a4 + 2 from by omega))
                  have h_272 : c 59 (4 * k9 + 3) = c 59 (4 * a4 + 3) := (congrArg (c 59) (show 4 * k9 + 3 = 4 * a4 + 3 from by omega))
                  omega
                have h_273 := iv_r hI 59 (4 * k9) hj9 (by omega)
                have h_274 := ir_59_g hI (j := 4 * k9) (by omega)
                have h_275 : c 59 (4 * k9) = c 59 (4 * k9) := rfl
                have h_276 := ir_59_g hI (j := 4 * k9 + 1) (by omega)
                have h_277 : c 59 (4 * k9 + 1) = c 59 (4 * k9 + 1) := rfl
                have h_278 := ir_59_g hI (j := 4 * k9 + 2) (by omega)
                have h_279 : c 59 (4 * k9 + 2) = c 59 (4 * k9 + 2) := rfl
                have h_280 := ir_59_g hI (j := 4 * k9 + 3) (by omega)
                have h_281 : c 59 (4 * k9 + 3) = c 59 (4 * k9 + 3) := rfl
                omega
              have hI_282 := iv_close hIo hr_257
              exact K c 0 hI_282 (fun a j hm => rfl) ⟨by decide, by decide⟩
        · refine v_ic_ne_f (t := 27) rfl (by decide) (by omega) ?_
          refine q_iconst rfl ?_
          refine v_zret rfl rfl (by omega) ?_
          have hr_283 : ∀ j : Int, rs 59 j → c 59 j + c 59 (j + 1) + c 59 (j + 2) + c 59 (j + 3) ≤ 9999 := by
            intro j9 hj9
            obtain ⟨k9, rfl, hk9⟩ := rs_59 hj9
            by_cases e_284 : k9 = a2
            · skip
              have h_285 : c 59 (4 * k9) = c 59 (4 * a2) := (congrArg (c 59) (show 4 * k9 = 4 * a2 from by omega))
              have h_286 : c 59 (4 * k9 + 1) = c 59 (4 * a2 + 1) := (congrArg (c 59) (show 4 * k9 + 1 = 4 * a2 + 1 from by omega))
              have h_287 : c 59 (4 * k9 + 2) = c 59 (4 * a2 + 2) := (congrArg (c 59) (show 4 * k9 + 2 = 4 * a2 + 2 from by omega))
              have h_288 : c 59 (4 * k9 + 3) = c 59 (4 * a2 + 3) := (congrArg (c 59) (show 4 * k9 + 3 = 4 * a2 + 3 from by omega))
              omega
            by_cases e_289 : k9 = a3
            · skip
              have h_290 : c 59 (4 * k9) = c 59 (4 * a3) := (congrArg (c 59) (show 4 * k9 = 4 * a3 from by omega))
              have h_291 : c 59 (4 * k9 + 1) = c 59 (4 * a3 + 1) := (congrArg (c 59) (show 4 * k9 + 1 = 4 * a3 + 1 from by omega))
              have h_292 : c 59 (4 * k9 + 2) = c 59 (4 * a3 + 2) := (congrArg (c 59) (show 4 * k9 + 2 = 4 * a3 + 2 from by omega))
              have h_293 : c 59 (4 * k9 + 3) = c 59 (4 * a3 + 3) := (congrArg (c 59) (show 4 * k9 + 3 = 4 * a3 + 3 from by omega))
              omega
            by_cases e_294 : k9 = a4
            · skip
              have h_295 : c 59 (4 * k9) = c 59 (4 * a4) := (congrArg (c 59) (show 4 * k9 = 4 * a4 from by omega))
              have h_296 : c 59 (4 * k9 + 1) = c 59 (4 * a4 + 1) := (congrArg (c 59) (show 4 * k9 + 1 = 4 * a4 + 1 from by omega))
              have h_297 : c 59 (4 * k9 + 2) = c 59 (4 * a4 + 2) := (congrArg (c 59) (show 4 * k9 + 2 = 4 * a4 + 2 from by omega))
              have h_298 : c 59 (4 * k9 + 3) = c 59 (4 * a4 + 3) := (congrArg (c 59) (show 4 * k9 + 3 = 4 * a4 + 3 from by omega))
              omega
            have h_299 := iv_r hI 59 (4 * k9) hj9 (by omega)
            have h_300 := ir_59_g hI (j := 4 * k9) (by omega)
            have h_301 : c 59 (4 * k9) = c 59 (4 * k9) := rfl
            have h_302 := ir_59_g hI (j := 4 * k9 + 1) (by omega)
            have h_303 : c 59 (4 * k9 + 1) = c 59 (4 * k9 + 1) := rfl
            have h_304 := ir_59_g hI (j := 4 * k9 + 2) (by omega)
            have h_305 : c 59 (4 * k9 + 2) = c 59 (4 * k9 + 2) := rfl
            have h_306 := ir_59_g hI (j := 4 * k9 + 3) (by omega)
            have h_307 : c 59 (4 * k9 + 3) = c 59 (4 * k9 + 3) := rfl
            omega
          have hI_308 := iv_close hIo hr_283
          exact K c 0 hI_308 (fun a j hm => rfl) ⟨by decide, by decide⟩

