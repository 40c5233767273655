/-! ===== contracts 4 ===== -/
set_option maxRecDepth 100000 in
set_option maxHeartbeats 4000000 in
theorem s_53 {sc : List Int32} {d P Q sh s : Nat} {c : ME} {a1 : Int} {a2 : Int} {a3 : Int} {a4 : Int} {Z : AR → Prop} (hI : Iv 0 (-1) P Q c) (hs : (sh = 37 ∧ s = 38) ∨ (sh = 39 ∧ s = 40)) (ha1 : 0 ≤ a1 ∧ a1 ≤ 3) (ha2 : 0 ≤ a2 ∧ a2 ≤ 5) (ha3 : 0 ≤ a3 ∧ a3 ≤ 5) (ha4 : 0 ≤ a4 ∧ a4 ≤ 5) (K : ∀ (c2 : ME) (y : Int), Iv 0 (-1) P Q c2 → (∀ (a : Nat) (j : Int), ¬ (a = s) → c2 a j = c a j) → 0 ≤ y ∧ y ≤ 1 → Z (.inl (some (vi y)), Wd P Q P P c2, 0, 0)) : Wp sc (d + 11) 53 0 [(0, .ref sh), (1, vi a1), (2, vi a2), (3, vi a3), (4, vi a4)] [] (Wd P Q P P c) 0 0 Z := by
  have hP := iv_P hI
  have hQ := iv_Q hI
  have hIo : Iv s (-1) P Q c := iv_open hI
  have hsum_1 := ir_s_r hI hs (by omega) (j := a2) (by omega)
  have h_2 := ir_s_g hI hs (j := 4 * a2) (by omega)
  have h_3 := ir_s_g hI hs (j := 4 * a2 + 1) (by omega)
  have h_4 := ir_s_g hI hs (j := 4 * a2 + 2) (by omega)
  have h_5 := ir_s_g hI hs (j := 4 * a2 + 3) (by omega)
  have hsum_6 := ir_s_r hI hs (by omega) (j := a3) (by omega)
  have h_7 := ir_s_g hI hs (j := 4 * a3) (by omega)
  have h_8 := ir_s_g hI hs (j := 4 * a3 + 1) (by omega)
  have h_9 := ir_s_g hI hs (j := 4 * a3 + 2) (by omega)
  have h_10 := ir_s_g hI hs (j := 4 * a3 + 3) (by omega)
  have hsum_11 := ir_s_r hI hs (by omega) (j := a4) (by omega)
  have h_12 := ir_s_g hI hs (j := 4 * a4) (by omega)
  have h_13 := ir_s_g hI hs (j := 4 * a4 + 1) (by omega)
  have h_14 := ir_s_g hI hs (j := 4 * a4 + 2) (by omega)
  have h_15 := ir_s_g hI hs (j := 4 * a4 + 3) (by omega)
  refine q_iload_n rfl rfl ?_
  refine q_iload_n rfl rfl ?_
  by_cases h_16 : a2 = a3
  · refine v_ic_eq_t (t := 17) rfl (by decide) (by omega) ?_
    refine q_iconst rfl ?_
    refine v_zret rfl rfl (by omega) ?_
    have hr_17 : ∀ j : Int, rs s j → c s j + c s (j + 1) + c s (j + 2) + c s (j + 3) ≤ 9999 := by
      intro j9 hj9
      obtain ⟨k9, rfl, hk9⟩ := rs_s hs hj9
      by_cases e_18 : k9 = a2
      · skip
        have h_19 : c s (4 * k9) = c s (4 * a2) := (congrArg (c s) (show 4 * k9 = 4 * a2 from by omega))
        have h_20 : c s (4 * k9 + 1) = c s (4 * a2 + 1) := (congrArg (c s) (show 4 * k9 + 1 = 4 * a2 + 1 from by omega))
        have h_21 : c s (4 * k9 + 2) = c s (4 * a2 + 2) := (congrArg (c s) (show 4 * k9 + 2 = 4 * a2 + 2 from by omega))
        have h_22 : c s (4 * k9 + 3) = c s (4 * a2 + 3) := (congrArg (c s) (show 4 * k9 + 3 = 4 * a2 + 3 from by omega))
        omega
      by_cases e_23 : k9 = a3
      · skip
        have h_24 : c s (4 * k9) = c s (4 * a3) := (congrArg (c s) (show 4 * k9 = 4 * a3 from by omega))
        have h_25 : c s (4 * k9 + 1) = c s (4 * a3 + 1) := (congrArg (c s) (show 4 * k9 + 1 = 4 * a3 + 1 from by omega))
        have h_26 : c s (4 * k9 + 2) = c s (4 * a3 + 2) := (congrArg (c s) (show 4 * k9 + 2 = 4 * a3 + 2 from by omega))
        have h_27 : c s (4 * k9 + 3) = c s (4 * a3 + 3) := (congrArg (c s) (show 4 * k9 + 3 = 4 * a3 + 3 from by omega))
        omega
      by_cases e_28 : k9 = a4
      · skip
        have h_29 : c s (4 * k9) = c s (4 * a4) := (congrArg (c s) (show 4 * k9 = 4 * a4 from by omega))
        have h_30 : c s (4 * k9 + 1) = c s (4 * a4 + 1) := (congrArg (c s) (show 4 * k9 + 1 = 4 * a4 + 1 from by omega))
        have h_31 : c s (4 * k9 + 2) = c s (4 * a4 + 2) := (congrArg (c s) (show 4 * k9 + 2 = 4 * a4 + 2 from by omega))
        have h_32 : c s (4 * k9 + 3) = c s (4 * a4 + 3) := (congrArg (c s) (show 4 * k9 + 3 = 4 * a4 + 3 from by omega))
        omega
      have h_33 := iv_r hI s (4 * k9) hj9 (by omega)
      have h_34 := ir_s_g hI hs (j := 4 * k9) (by omega)
      have h_35 : c s (4 * k9) = c s (4 * k9) := rfl
      have h_36 := ir_s_g hI hs (j := 4 * k9 + 1) (by omega)
      have h_37 : c s (4 * k9 + 1) = c s (4 * k9 + 1) := rfl
      have h_38 := ir_s_g hI hs (j := 4 * k9 + 2) (by omega)
      have h_39 : c s (4 * k9 + 2) = c s (4 * k9 + 2) := rfl
      have h_40 := ir_s_g hI hs (j := 4 * k9 + 3) (by omega)
      have h_41 : c s (4 * k9 + 3) = c s (4 * k9 + 3) := rfl
      omega
    have hI_42 := iv_close hIo hr_17
    exact K c 0 hI_42 (fun a j hm => rfl) ⟨by decide, by decide⟩
  · refine v_ic_eq_f (t := 17) rfl (by decide) (by omega) ?_
    refine q_iload_n rfl rfl ?_
    refine q_iload rfl rfl ?_
    by_cases h_43 : a2 = a4
    · refine v_ic_eq_t (t := 17) rfl (by decide) (by omega) ?_
      refine q_iconst rfl ?_
      refine v_zret rfl rfl (by omega) ?_
      have hr_44 : ∀ j : Int, rs s j → c s j + c s (j + 1) + c s (j + 2) + c s (j + 3) ≤ 9999 := by
        intro j9 hj9
        obtain ⟨k9, rfl, hk9⟩ := rs_s hs hj9
        by_cases e_45 : k9 = a2
        · skip
          have h_46 : c s (4 * k9) = c s (4 * a2) := (congrArg (c s) (show 4 * k9 = 4 * a2 from by omega))
          have h_47 : c s (4 * k9 + 1) = c s (4 * a2 + 1) := (congrArg (c s) (show 4 * k9 + 1 = 4 * a2 + 1 from by omega))
          have h_48 : c s (4 * k9 + 2) = c s (4 * a2 + 2) := (congrArg (c s) (show 4 * k9 + 2 = 4 * a2 + 2 from by omega))
          have h_49 : c s (4 * k9 + 3) = c s (4 * a2 + 3) := (congrArg (c s) (show 4 * k9 + 3 = 4 * a2 + 3 from by omega))
          omega
        by_cases e_50 : k9 = a3
        · skip
          have h_51 : c s (4 * k9) = c s (4 * a3) := (congrArg (c s) (show 4 * k9 = 4 * a3 from by omega))
          have h_52 : c s (4 * k9 + 1) = c s (4 * a3 + 1) := (congrArg (c s) (show 4 * k9 + 1 = 4 * a3 + 1 from by omega))
          have h_53 : c s (4 * k9 + 2) = c s (4 * a3 + 2) := (congrArg (c s) (show 4 * k9 + 2 = 4 * a3 + 2 from by omega))
          have h_54 : c s (4 * k9 + 3) = c s (4 * a3 + 3) := (congrArg (c s) (show 4 * k9 + 3 = 4 * a3 + 3 from by omega))
          omega
        by_cases e_55 : k9 = a4
        · skip
          have h_56 : c s (4 * k9) = c s (4 * a4) := (congrArg (c s) (show 4 * k9 = 4 * a4 from by omega))
          have h_57 : c s (4 * k9 + 1) = c s (4 * a4 + 1) := (congrArg (c s) (show 4 * k9 + 1 = 4 * a4 + 1 from by omega))
          have h_58 : c s (4 * k9 + 2) = c s (4 * a4 + 2) := (congrArg (c s) (show 4 * k9 + 2 = 4 * a4 + 2 from by omega))
          have h_59 : c s (4 * k9 + 3) = c s (4 * a4 + 3) := (congrArg (c s) (show 4 * k9 + 3 = 4 * a4 + 3 from by omega))
          omega
        have h_60 := iv_r hI s (4 * k9) hj9 (by omega)
        have h_61 := ir_s_g hI hs (j := 4 * k9) (by omega)
        have h_62 : c s (4 * k9) = c s (4 * k9) := rfl
        have h_63 := ir_s_g hI hs (j := 4 * k9 + 1) (by omega)
        have h_64 : c s (4 * k9 + 1) = c s (4 * k9 + 1) := rfl
        have h_65 := ir_s_g hI hs (j := 4 * k9 + 2) (by omega)
        have h_66 : c s (4 * k9 + 2) = c s (4 * k9 + 2) := rfl
        have h_67 := ir_s_g hI hs (j := 4 * k9 + 3) (by omega)
        have h_68 : c s (4 * k9 + 3) = c s (4 * k9 + 3) := rfl
        omega
      have hI_69 := iv_close hIo hr_44
      exact K c 0 hI_69 (fun a j hm => rfl) ⟨by decide, by decide⟩
    · refine v_ic_eq_f (t := 17) rfl (by decide) (by omega) ?_
      refine q_iload_n rfl rfl ?_
      refine q_iload rfl rfl ?_
      by_cases h_70 : a3 ≠ a4
      · refine v_ic_ne_t (t := 19) rfl (by decide) (by omega) ?_
        refine q_aload_n rfl rfl ?_
        refine q_iload_n rfl rfl ?_
        refine v_cv rfl rfl rfl (ck_sh hs) (by omega) ⟨⟨rfl, rfl⟩, by decide, rfl⟩ (Nat.le_of_ble_eq_true rfl) (Nat.le_of_ble_eq_true rfl) (s_43 (v1 := c s (4 * a2)) (v2 := c s (4 * a2 + 1)) (v3 := c s (4 * a2 + 2)) (v4 := c s (4 * a2 + 3)) (r := c s (4 * a2 + 1) + c s (4 * a2 + 2) + c s (4 * a2 + 3) + c s (4 * a2)) (a1 := a2) hIo hs (show 0 ≤ a2 ∧ a2 ≤ 5 from by omega) (rfl) (rfl) (rfl) (rfl) (by omega) ?_)
        refine bk_inl ?_
        refine q_istore rfl (by decide) ?_
        refine q_aload_n rfl rfl ?_
        refine q_iload_n rfl rfl ?_
        refine q_iload_n rfl rfl ?_
        have h_71 := ir_p3 hI hP a1
        have h_72 := ir_s hI hs 30
        have h_73 := fal_rng (m := c (P + 3) a1) (t := tb (c s 30) a1) (g := 0) (x := c s (4 * a2)) (by omega)
        have h_74 := fal_rng (m := c (P + 3) a1) (t := tb (c s 30) a1) (g := 1) (x := c s (4 * a2 + 1)) (by omega)
        have h_75 := fal_rng (m := c (P + 3) a1) (t := tb (c s 30) a1) (g := 2) (x := c s (4 * a2 + 2)) (by omega)
        have h_76 := fal_rng (m := c (P + 3) a1) (t := tb (c s 30) a1) (g := 3) (x := c s (4 * a2 + 3)) (by omega)
        refine v_cv rfl rfl rfl (ck_sh hs) (by omega) ⟨⟨rfl, rfl⟩, by decide, rfl⟩ (Nat.le_of_ble_eq_true rfl) (Nat.le_of_ble_eq_true rfl) (s_49 (v1 := c (P + 3) a1) (v2 := c s 30) (v3 := c s (4 * a2)) (v4 := c s (4 * a2 + 1)) (v5 := c s (4 * a2 + 2)) (v6 := c s (4 * a2 + 3)) (r := (fal (c (P + 3) a1) (tb (c s 30) a1) 0 (c s (4 * a2))) + (fal (c (P + 3) a1) (tb (c s 30) a1) 1 (c s (4 * a2 + 1))) + (fal (c (P + 3) a1) (tb (c s 30) a1) 2 (c s (4 * a2 + 2))) + (fal (c (P + 3) a1) (tb (c s 30) a1) 3 (c s (4 * a2 + 3)))) (a1 := a1) (a2 := a2) hIo hs (show 0 ≤ a1 ∧ a1 ≤ 3 from by omega) (show 0 ≤ a2 ∧ a2 ≤ 5 from by omega) (rfl) (rfl) (rfl) (rfl) (rfl) (rfl) rfl ?_)
        refine bk_inl ?_
        refine q_istore rfl (by decide) ?_
        refine q_iload rfl rfl ?_
        by_cases h_77 : c s (4 * a2 + 1) + c s (4 * a2 + 2) + c s (4 * a2 + 3) + c s (4 * a2) = 0
        · refine v_if_eq_t (t := 63) rfl (by decide) (by omega) ?_
          refine q_iconst rfl ?_
          refine v_zret rfl rfl (by omega) ?_
          have hr_78 : ∀ j : Int, rs s j → c s j + c s (j + 1) + c s (j + 2) + c s (j + 3) ≤ 9999 := by
            intro j9 hj9
            obtain ⟨k9, rfl, hk9⟩ := rs_s hs hj9
            by_cases e_79 : k9 = a2
            · skip
              have h_80 : c s (4 * k9) = c s (4 * a2) := (congrArg (c s) (show 4 * k9 = 4 * a2 from by omega))
              have h_81 : c s (4 * k9 + 1) = c s (4 * a2 + 1) := (congrArg (c s) (show 4 * k9 + 1 = 4 * a2 + 1 from by omega))
              have h_82 : c s (4 * k9 + 2) = c s (4 * a2 + 2) := (congrArg (c s) (show 4 * k9 + 2 = 4 * a2 + 2 from by omega))
              have h_83 : c s (4 * k9 + 3) = c s (4 * a2 + 3) := (congrArg (c s) (show 4 * k9 + 3 = 4 * a2 + 3 from by omega))
              omega
            by_cases e_84 : k9 = a3
            · skip
              have h_85 : c s (4 * k9) = c s (4 * a3) := (congrArg (c s) (show 4 * k9 = 4 * a3 from by omega))
              have h_86 : c s (4 * k9 + 1) = c s (4 * a3 + 1) := (congrArg (c s) (show 4 * k9 + 1 = 4 * a3 + 1 from by omega))
              have h_87 : c s (4 * k9 + 2) = c s (4 * a3 + 2) := (congrArg (c s) (show 4 * k9 + 2 = 4 * a3 + 2 from by omega))
              have h_88 : c s (4 * k9 + 3) = c s (4 * a3 + 3) := (congrArg (c s) (show 4 * k9 + 3 = 4 * a3 + 3 from by omega))
              omega
            by_cases e_89 : k9 = a4
            · skip
              have h_90 : c s (4 * k9) = c s (4 * a4) := (congrArg (c s) (show 4 * k9 = 4 * a4 from by omega))
              have h_91 : c s (4 * k9 + 1) = c s (4 * a4 + 1) := (congrArg (c s) (show 4 * k9 + 1 = 4 * a4 + 1 from by omega))
              have h_92 : c s (4 * k9 + 2) = c s (4 * a4 + 2) := (congrArg (c s) (show 4 * k9 + 2 = 4 * a4 + 2 from by omega))
              have h_93 : c s (4 * k9 + 3) = c s (4 * a4 + 3) := (congrArg (c s) (show 4 * k9 + 3 = 4 * a4 + 3 from by omega))
              omega
            have h_94 := iv_r hI s (4 * k9) hj9 (by omega)
            have h_95 := ir_s_g hI hs (j := 4 * k9) (by omega)
            have h_96 : c s (4 * k9) = c s (4 * k9) := rfl
            have h_97 := ir_s_g hI hs (j := 4 * k9 + 1) (by omega)
            have h_98 : c s (4 * k9 + 1) = c s (4 * k9 + 1) := rfl
            have h_99 := ir_s_g hI hs (j := 4 * k9 + 2) (by omega)
            have h_100 : c s (4 * k9 + 2) = c s (4 * k9 + 2) := rfl
            have h_101 := ir_s_g hI hs (j := 4 * k9 + 3) (by omega)
            have h_102 : c s (4 * k9 + 3) = c s (4 * k9 + 3) := rfl
            omega
          have hI_103 := iv_close hIo hr_78
          exact K c 0 hI_103 (fun a j hm => rfl) ⟨by decide, by decide⟩
        · refine v_if_eq_f (t := 63) rfl (by decide) (by omega) ?_
          refine q_aload_n rfl rfl ?_
          refine q_iload_n rfl rfl ?_
          refine q_iload rfl rfl ?_
          refine v_cv rfl rfl rfl (ck_sh hs) (by omega) ⟨⟨rfl, rfl⟩, by decide, rfl⟩ (Nat.le_of_ble_eq_true rfl) (Nat.le_of_ble_eq_true rfl) ?_
          refine q_aload_n rfl rfl ?_
          refine q_iload_n rfl rfl ?_
          refine v_cv rfl rfl rfl (ck_sh hs) (by omega) ⟨⟨rfl, rfl⟩, by decide, rfl⟩ (Nat.le_of_ble_eq_true rfl) (Nat.le_of_ble_eq_true rfl) (s_43 (v1 := c s (4 * a3)) (v2 := c s (4 * a3 + 1)) (v3 := c s (4 * a3 + 2)) (v4 := c s (4 * a3 + 3)) (r := c s (4 * a3 + 1) + c s (4 * a3 + 2) + c s (4 * a3 + 3) + c s (4 * a3)) (a1 := a3) hIo hs (show 0 ≤ a3 ∧ a3 ≤ 5 from by omega) (rfl) (rfl) (rfl) (rfl) (by omega) ?_)
          refine bk_inl ?_
          refine q_iload_n rfl rfl ?_
          refine v_iadd (v := (fal (c (P + 3) a1) (tb (c s 30) a1) 0 (c s (4 * a2))) + (fal (c (P + 3) a1) (tb (c s 30) a1) 1 (c s (4 * a2 + 1))) + (fal (c (P + 3) a1) (tb (c s 30) a1) 2 (c s (4 * a2 + 2))) + (fal (c (P + 3) a1) (tb (c s 30) a1) 3 (c s (4 * a2 + 3))) + c s (4 * a3 + 1) + c s (4 * a3 + 2) + c s (4 * a3 + 3) + c s (4 * a3)) rfl (by omega) ?_
          refine v_sip rfl (by decide) ?_
          by_cases h_104 : (fal (c (P + 3) a1) (tb (c s 30) a1) 0 (c s (4 * a2))) + (fal (c (P + 3) a1) (tb (c s 30) a1) 1 (c s (4 * a2 + 1))) + (fal (c (P + 3) a1) (tb (c s 30) a1) 2 (c s (4 * a2 + 2))) + (fal (c (P + 3) a1) (tb (c s 30) a1) 3 (c s (4 * a2 + 3))) + c s (4 * a3 + 1) + c s (4 * a3 + 2) + c s (4 * a3 + 3) + c s (4 * a3) > 9999
          · refine v_ic_gt_t (t := 17) rfl (by decide) (by omega) ?_
            refine q_iconst rfl ?_
            refine v_zret rfl rfl (by omega) ?_
            refine bk_inl ?_
            refine v_if_eq_t (t := 63) rfl (by decide) (by decide) ?_
            refine q_iconst rfl ?_
            refine v_zret rfl rfl (by omega) ?_
            have hr_105 : ∀ j : Int, rs s j → c s j + c s (j + 1) + c s (j + 2) + c s (j + 3) ≤ 9999 := by
              intro j9 hj9
              obtain ⟨k9, rfl, hk9⟩ := rs_s hs hj9
              by_cases e_106 : k9 = a2
              · skip
                have h_107 : c s (4 * k9) = c s (4 * a2) := (congrArg (c s) (show 4 * k9 = 4 * a2 from by omega))
                have h_108 : c s (4 * k9 + 1) = c s (4 * a2 + 1) := (congrArg (c s) (show 4 * k9 + 1 = 4 * a2 + 1 from by omega))
                have h_109 : c s (4 * k9 + 2) = c s (4 * a2 + 2) := (congrArg (c s) (show 4 * k9 + 2 = 4 * a2 + 2 from by omega))
                have h_110 : c s (4 * k9 + 3) = c s (4 * a2 + 3) := (congrArg (c s) (show 4 * k9 + 3 = 4 * a2 + 3 from by omega))
                omega
              by_cases e_111 : k9 = a3
              · skip
                have h_112 : c s (4 * k9) = c s (4 * a3) := (congrArg (c s) (show 4 * k9 = 4 * a3 from by omega))
                have h_113 : c s (4 * k9 + 1) = c s (4 * a3 + 1) := (congrArg (c s) (show 4 * k9 + 1 = 4 * a3 + 1 from by omega))
                have h_114 : c s (4 * k9 + 2) = c s (4 * a3 + 2) := (congrArg (c s) (show 4 * k9 + 2 = 4 * a3 + 2 from by omega))
                have h_115 : c s (4 * k9 + 3) = c s (4 * a3 + 3) := (congrArg (c s) (show 4 * k9 + 3 = 4 * a3 + 3 from by omega))
                omega
              by_cases e_116 : k9 = a4
              · skip
                have h_117 : c s (4 * k9) = c s (4 * a4) := (congrArg (c s) (show 4 * k9 = 4 * a4 from by omega))
                have h_118 : c s (4 * k9 + 1) = c s (4 * a4 + 1) := (congrArg (c s) (show 4 * k9 + 1 = 4 * a4 + 1 from by omega))
                have h_119 : c s (4 * k9 + 2) = c s (4 * a4 + 2) := (congrArg (c s) (show 4 * k9 + 2 = 4 * a4 + 2 from by omega))
                have h_120 : c s (4 * k9 + 3) = c s (4 * a4 + 3) := (congrArg (c s) (show 4 * k9 + 3 = 4 * a4 + 3 from by omega))
                omega
              have h_121 := iv_r hI s (4 * k9) hj9 (by omega)
              have h_122 := ir_s_g hI hs (j := 4 * k9) (by omega)
              have h_123 : c s (4 * k9) = c s (4 * k9) := rfl
              have h_124 := ir_s_g hI hs (j := 4 * k9 + 1) (by omega)
              have h_125 : c s (4 * k9 + 1) = c s (4 * k9 + 1) := rfl
              have h_126 := ir_s_g hI hs (j := 4 * k9 + 2) (by omega)
              have h_127 : c s (4 * k9 + 2) = c s (4 * k9 + 2) := rfl
              have h_128 := ir_s_g hI hs (j := 4 * k9 + 3) (by omega)
              have h_129 : c s (4 * k9 + 3) = c s (4 * k9 + 3) := rfl
              omega
            have hI_130 := iv_close hIo hr_105
            exact K c 0 hI_130 (fun a j hm => rfl) ⟨by decide, by decide⟩
          · refine v_ic_gt_f (t := 17) rfl (by decide) (by omega) ?_
            refine q_iconst rfl ?_
            refine q_goto (t := 18) rfl (by decide) ?_
            refine v_zret rfl rfl (by omega) ?_
            refine bk_inl ?_
            refine v_if_eq_f (t := 63) rfl (by decide) (by decide) ?_
            refine q_aload_n rfl rfl ?_
            refine q_iload rfl rfl ?_
            refine q_iload rfl rfl ?_
            refine q_iload rfl rfl ?_
            refine v_isub (v := c s (4 * a2 + 1) + c s (4 * a2 + 2) + c s (4 * a2 + 3) + c s (4 * a2) - (fal (c (P + 3) a1) (tb (c s 30) a1) 0 (c s (4 * a2))) - (fal (c (P + 3) a1) (tb (c s 30) a1) 1 (c s (4 * a2 + 1))) - (fal (c (P + 3) a1) (tb (c s 30) a1) 2 (c s (4 * a2 + 2))) - (fal (c (P + 3) a1) (tb (c s 30) a1) 3 (c s (4 * a2 + 3)))) rfl (by omega) ?_
            refine v_cv rfl rfl rfl (ck_sh hs) (by omega) ⟨⟨rfl, rfl⟩, by decide, rfl⟩ (Nat.le_of_ble_eq_true rfl) (Nat.le_of_ble_eq_true rfl) ?_
            refine q_aload_n rfl rfl ?_
            refine q_iload_n rfl rfl ?_
            refine v_cv rfl rfl rfl (ck_sh hs) (by omega) ⟨⟨rfl, rfl⟩, by decide, rfl⟩ (Nat.le_of_ble_eq_true rfl) (Nat.le_of_ble_eq_true rfl) (s_43 (v1 := c s (4 * a4)) (v2 := c s (4 * a4 + 1)) (v3 := c s (4 * a4 + 2)) (v4 := c s (4 * a4 + 3)) (r := c s (4 * a4 + 1) + c s (4 * a4 + 2) + c s (4 * a4 + 3) + c s (4 * a4)) (a1 := a4) hIo hs (show 0 ≤ a4 ∧ a4 ≤ 5 from by omega) (rfl) (rfl) (rfl) (rfl) (by omega) ?_)
            refine bk_inl ?_
            refine q_iload_n rfl rfl ?_
            refine v_iadd (v := c s (4 * a2 + 1) + c s (4 * a2 + 2) + c s (4 * a2 + 3) + c s (4 * a2) + c s (4 * a4 + 1) + c s (4 * a4 + 2) + c s (4 * a4 + 3) + c s (4 * a4) - (fal (c (P + 3) a1) (tb (c s 30) a1) 0 (c s (4 * a2))) - (fal (c (P + 3) a1) (tb (c s 30) a1) 1 (c s (4 * a2 + 1))) - (fal (c (P + 3) a1) (tb (c s 30) a1) 2 (c s (4 * a2 + 2))) - (fal (c (P + 3) a1) (tb (c s 30) a1) 3 (c s (4 * a2 + 3)))) rfl (by omega) ?_
            refine v_sip rfl (by decide) ?_
            by_cases h_131 : c s (4 * a2 + 1) + c s (4 * a2 + 2) + c s (4 * a2 + 3) + c s (4 * a2) + c s (4 * a4 + 1) + c s (4 * a4 + 2) + c s (4 * a4 + 3) + c s (4 * a4) - (fal (c (P + 3) a1) (tb (c s 30) a1) 0 (c s (4 * a2))) - (fal (c (P + 3) a1) (tb (c s 30) a1) 1 (c s (4 * a2 + 1))) - (fal (c (P + 3) a1) (tb (c s 30) a1) 2 (c s (4 * a2 + 2))) - (fal (c (P + 3) a1) (tb (c s 30) a1) 3 (c s (4 * a2 + 3))) > 9999
            · refine v_ic_gt_t (t := 17) rfl (by decide) (by omega) ?_
              refine q_iconst rfl ?_
              refine v_zret rfl rfl (by omega) ?_
              refine bk_inl ?_
              refine v_if_ne_f (t := 65) rfl (by decide) (by decide) ?_
              refine q_iconst rfl ?_
              refine v_zret rfl rfl (by omega) ?_
              have hr_132 : ∀ j : Int, rs s j → c s j + c s (j + 1) + c s (j + 2) + c s (j + 3) ≤ 9999 := by
                intro j9 hj9
                obtain ⟨k9, rfl, hk9⟩ := rs_s hs hj9
                by_cases e_133 : k9 = a2
                · skip
                  have h_134 : c s (4 * k9) = c s (4 * a2) := (congrArg (c s) (show 4 * k9 = 4 * a2 from by omega))
                  have h_135 : c s (4 * k9 + 1) = c s (4 * a2 + 1) := (congrArg (c s) (show 4 * k9 + 1 = 4 * a2 + 1 from by omega))
                  have h_136 : c s (4 * k9 + 2) = c s (4 * a2 + 2) := (congrArg (c s) (show 4 * k9 + 2 = 4 * a2 + 2 from by omega))
                  have h_137 : c s (4 * k9 + 3) = c s (4 * a2 + 3) := (congrArg (c s) (show 4 * k9 + 3 = 4 * a2 + 3 from by omega))
                  omega
                by_cases e_138 : k9 = a3
                · skip
                  have h_139 : c s (4 * k9) = c s (4 * a3) := (congrArg (c s) (show 4 * k9 = 4 * a3 from by omega))
                  have h_140 : c s (4 * k9 + 1) = c s (4 * a3 + 1) := (congrArg (c s) (show 4 * k9 + 1 = 4 * a3 + 1 from by omega))
                  have h_141 : c s (4 * k9 + 2) = c s (4 * a3 + 2) := (congrArg (c s) (show 4 * k9 + 2 = 4 * a3 + 2 from by omega))
                  have h_142 : c s (4 * k9 + 3) = c s (4 * a3 + 3) := (congrArg (c s) (show 4 * k9 + 3 = 4 * a3 + 3 from by omega))
                  omega
                by_cases e_143 : k9 = a4
                · skip
                  have h_144 : c s (4 * k9) = c s (4 * a4) := (congrArg (c s) (show 4 * k9 = 4 * a4 from by omega))
                  have h_145 : c s (4 * k9 + 1) = c s (4 * a4 + 1) := (congrArg (c s) (show 4 * k9 + 1 = 4 * a4 + 1 from by omega))
                  have h_146 : c s (4 * k9 + 2) = c s (4 * a4 + 2) := (congrArg (c s) (show 4 * k9 + 2 = 4 * a4 + 2 from by omega))
                  have h_147 : c s (4 * k9 + 3) = c s (4 * a4 + 3) := (congrArg (c s) (show 4 * k9 + 3 = 4 * a4 + 3 from by omega))
                  omega
                have h_148 := iv_r hI s (4 * k9) hj9 (by omega)
                have h_149 := ir_s_g hI hs (j := 4 * k9) (by omega)
                have h_150 : c s (4 * k9) = c s (4 * k9) := rfl
                have h_151 := ir_s_g hI hs (j := 4 * k9 + 1) (by omega)
                have h_152 : c s (4 * k9 + 1) = c s (4 * k9 + 1) := rfl
                have h_153 := ir_s_g hI hs (j := 4 * k9 + 2) (by omega)
                have h_154 : c s (4 * k9 + 2) = c s (4 * k9 + 2) := rfl
                have h_155 := ir_s_g hI hs (j := 4 * k9 + 3) (by omega)
                have h_156 : c s (4 * k9 + 3) = c s (4 * k9 + 3) := rfl
                omega
              have hI_157 := iv_close hIo hr_132
              exact K c 0 hI_157 (fun a j hm => rfl) ⟨by decide, by decide⟩
            · refine v_ic_gt_f (t := 17) rfl (by decide) (by omega) ?_
              refine q_iconst rfl ?_
              refine q_goto (t := 18) rfl (by decide) ?_
              refine v_zret rfl rfl (by omega) ?_
              refine bk_inl ?_
              refine v_if_ne_t (t := 65) rfl (by decide) (by decide) ?_
              refine q_iconst rfl ?_
              refine q_istore rfl (by decide) ?_
              refine q_iload rfl rfl ?_
              refine q_iconst rfl ?_
              refine v_ic_ge_f (t := 116) rfl (by decide) (by decide) ?_
              refine q_aload_n rfl rfl ?_
              refine q_iload_n rfl rfl ?_
              refine q_iload_n rfl rfl ?_
              refine q_iload rfl rfl ?_
              refine v_cv rfl rfl rfl (ck_sh hs) (by omega) ⟨⟨rfl, rfl⟩, by decide, rfl⟩ (Nat.le_of_ble_eq_true rfl) (Nat.le_of_ble_eq_true rfl) (s_48 (v1 := c (P + 3) a1) (v2 := c s 30) (v3 := c s (4 * a2)) (r := (fal (c (P + 3) a1) (tb (c s 30) a1) 0 (c s (4 * a2)))) (a1 := a1) (a2 := a2) (a3 := 0) hIo hs (show 0 ≤ a1 ∧ a1 ≤ 3 from by omega) (show 0 ≤ a2 ∧ a2 ≤ 5 from by omega) (show 0 ≤ 0 ∧ 0 ≤ 3 from by omega) (rfl) (rfl) ((congrArg (c s) (show 4 * a2 + 0 = 4 * a2 from by omega))) rfl ?_)
              refine bk_inl ?_
              refine q_istore rfl (by decide) ?_
              refine q_aload_n rfl rfl ?_
              refine q_iload_n rfl rfl ?_
              refine q_iload_n rfl rfl ?_
              refine q_iload rfl rfl ?_
              refine q_iload rfl rfl ?_
              refine v_cv rfl rfl rfl (ck_sh hs) (by omega) ⟨⟨rfl, rfl⟩, by decide, rfl⟩ (Nat.le_of_ble_eq_true rfl) (Nat.le_of_ble_eq_true rfl) (s_52 (a1 := a2) (a2 := a3) (a3 := 0) (a4 := (fal (c (P + 3) a1) (tb (c s 30) a1) 0 (c s (4 * a2)))) hIo hs (show 0 ≤ a2 ∧ a2 ≤ 5 from by omega) (show 0 ≤ a3 ∧ a3 ≤ 5 from by omega) (show 0 ≤ 0 ∧ 0 ≤ 3 from by omega) (show 0 ≤ (fal (c (P + 3) a1) (tb (c s 30) a1) 0 (c s (4 * a2))) ∧ (fal (c (P + 3) a1) (tb (c s 30) a1) 0 (c s (4 * a2))) ≤ 9999 from by omega) (by omega) (by omega) (by omega) (fun c_158 hI_159 hF_160 h_161 => ?_))
              refine bk_inl ?_
              have h_162 : c_158 s (4 * a2 + 0) = c_158 s (4 * a2) := congrArg (c_158 s) (by omega)
              have h_163 := ir_s_g hI_159 hs (j := 4 * a2) (by omega)
              have h_164 : c_158 s (4 * a3 + 0) = c_158 s (4 * a3) := congrArg (c_158 s) (by omega)
              have h_165 := ir_s_g hI_159 hs (j := 4 * a3) (by omega)
              refine q_aload_n rfl rfl ?_
              refine q_iload_n rfl rfl ?_
              refine q_iload rfl rfl ?_
              refine q_iload rfl rfl ?_
              refine q_aload_n rfl rfl ?_
              refine q_iload_n rfl rfl ?_
              refine q_iload rfl rfl ?_
              refine v_cv rfl rfl rfl (ck_sh hs) (by omega) ⟨⟨rfl, rfl⟩, by decide, rfl⟩ (Nat.le_of_ble_eq_true rfl) (Nat.le_of_ble_eq_true rfl) (s_45 (v1 := c_158 s (4 * a2)) (r := c_158 s (4 * a2)) (a1 := a2) (a2 := 0) hI_159 hs (show 0 ≤ a2 ∧ a2 ≤ 5 from by omega) (show 0 ≤ 0 ∧ 0 ≤ 3 from by omega) ((congrArg (c_158 s) (show 4 * a2 + 0 = 4 * a2 from by omega))) (by omega) ?_)
              refine bk_inl ?_
              have h_166 : c_158 s (4 * a4) = c s (4 * a4) := (hF_160 s (4 * a4) (by omega))
              refine v_cv rfl rfl rfl (ck_sh hs) (by omega) ⟨⟨rfl, rfl⟩, by decide, rfl⟩ (Nat.le_of_ble_eq_true rfl) (Nat.le_of_ble_eq_true rfl) (s_52 (a1 := a2) (a2 := a4) (a3 := 0) (a4 := c_158 s (4 * a2)) hI_159 hs (show 0 ≤ a2 ∧ a2 ≤ 5 from by omega) (show 0 ≤ a4 ∧ a4 ≤ 5 from by omega) (show 0 ≤ 0 ∧ 0 ≤ 3 from by omega) (show 0 ≤ c_158 s (4 * a2) ∧ c_158 s (4 * a2) ≤ 9999 from by omega) (by omega) (by omega) (by omega) (fun c_167 hI_168 hF_169 h_170 => ?_))
              refine bk_inl ?_
              have h_171 : c_167 s (4 * a2 + 0) = c_167 s (4 * a2) := congrArg (c_167 s) (by omega)
              have h_172 := ir_s_g hI_168 hs (j := 4 * a2) (by omega)
              have h_173 : c_167 s (4 * a4 + 0) = c_167 s (4 * a4) := congrArg (c_167 s) (by omega)
              have h_174 := ir_s_g hI_168 hs (j := 4 * a4) (by omega)
              refine v_iinc (v := 1) rfl rfl (by decide) (by decide) ?_
              refine Wp_ls [(7, vi 1), (8, vi (fal (c (P + 3) a1) (tb (c s 30) a1) 0 (c s (4 * a2)))), (6, vi ((fal (c (P + 3) a1) (tb (c s 30) a1) 0 (c s (4 * a2))) + (fal (c (P + 3) a1) (tb (c s 30) a1) 1 (c s (4 * a2 + 1))) + (fal (c (P + 3) a1) (tb (c s 30) a1) 2 (c s (4 * a2 + 2))) + (fal (c (P + 3) a1) (tb (c s 30) a1) 3 (c s (4 * a2 + 3))))), (5, vi (c s (4 * a2 + 1) + c s (4 * a2 + 2) + c s (4 * a2 + 3) + c s (4 * a2))), (0, .ref sh), (1, vi a1), (2, vi a2), (3, vi a3), (4, vi a4)] (lsub_cons rfl (lsub_cons rfl (lsub_cons rfl (lsub_cons rfl (lsub_cons rfl (lsub_cons rfl (lsub_cons rfl (lsub_cons rfl (lsub_cons rfl lsub_nil))))))))) ?_
              refine q_goto (t := 68) rfl (by decide) ?_
              refine q_iload rfl rfl ?_
              refine q_iconst rfl ?_
              refine v_ic_ge_f (t := 116) rfl (by decide) (by decide) ?_
              refine q_aload_n rfl rfl ?_
              refine q_iload_n rfl rfl ?_
              refine q_iload_n rfl rfl ?_
              refine q_iload rfl rfl ?_
              refine v_cv rfl rfl rfl (ck_sh hs) (by omega) ⟨⟨rfl, rfl⟩, by decide, rfl⟩ (Nat.le_of_ble_eq_true rfl) (Nat.le_of_ble_eq_true rfl) (s_48 (v1 := c (P + 3) a1) (v2 := c s 30) (v3 := c s (4 * a2 + 1)) (r := (fal (c (P + 3) a1) (tb (c s 30) a1) 1 (c s (4 * a2 + 1)))) (a1 := a1) (a2 := a2) (a3 := 1) hI_168 hs (show 0 ≤ a1 ∧ a1 ≤ 3 from by omega) (show 0 ≤ a2 ∧ a2 ≤ 5 from by omega) (show 0 ≤ 1 ∧ 1 ≤ 3 from by omega) (((hF_169 (P + 3) a1 (by omega)).trans (hF_160 (P + 3) a1 (by omega)))) (((hF_169 s 30 (by omega)).trans (hF_160 s 30 (by omega)))) (((hF_169 s (4 * a2 + 1) (by omega)).trans (hF_160 s (4 * a2 + 1) (by omega)))) rfl ?_)
              refine bk_inl ?_
              refine q_istore rfl (by decide) ?_
              refine q_aload_n rfl rfl ?_
              refine q_iload_n rfl rfl ?_
              refine q_iload_n rfl rfl ?_
              refine q_iload rfl rfl ?_
              refine q_iload rfl rfl ?_
              have h_175 : c_167 s (4 * a2 + 1) = c s (4 * a2 + 1) := ((hF_169 s (4 * a2 + 1) (by omega)).trans (hF_160 s (4 * a2 + 1) (by omega)))
              have h_176 : c_167 s (4 * a3 + 1) = c s (4 * a3 + 1) := ((hF_169 s (4 * a3 + 1) (by omega)).trans (hF_160 s (4 * a3 + 1) (by omega)))
              refine v_cv rfl rfl rfl (ck_sh hs) (by omega) ⟨⟨rfl, rfl⟩, by decide, rfl⟩ (Nat.le_of_ble_eq_true rfl) (Nat.le_of_ble_eq_true rfl) (s_52 (a1 := a2) (a2 := a3) (a3 := 1) (a4 := (fal (c (P + 3) a1) (tb (c s 30) a1) 1 (c s (4 * a2 + 1)))) hI_168 hs (show 0 ≤ a2 ∧ a2 ≤ 5 from by omega) (show 0 ≤ a3 ∧ a3 ≤ 5 from by omega) (show 0 ≤ 1 ∧ 1 ≤ 3 from by omega) (show 0 ≤ (fal (c (P + 3) a1) (tb (c s 30) a1) 1 (c s (4 * a2 + 1))) ∧ (fal (c (P + 3) a1) (tb (c s 30) a1) 1 (c s (4 * a2 + 1))) ≤ 9999 from by omega) (by omega) (by omega) (by omega) (fun c_177 hI_178 hF_179 h_180 => ?_))
              refine bk_inl ?_
              have h_181 := ir_s_g hI_178 hs (j := 4 * a2 + 1) (by omega)
              have h_182 := ir_s_g hI_178 hs (j := 4 * a3 + 1) (by omega)
              refine q_aload_n rfl rfl ?_
              refine q_iload_n rfl rfl ?_
              refine q_iload rfl rfl ?_
              refine q_iload rfl rfl ?_
              refine q_aload_n rfl rfl ?_
              refine q_iload_n rfl rfl ?_
              refine q_iload rfl rfl ?_
              refine v_cv rfl rfl rfl (ck_sh hs) (by omega) ⟨⟨rfl, rfl⟩, by decide, rfl⟩ (Nat.le_of_ble_eq_true rfl) (Nat.le_of_ble_eq_true rfl) (s_45 (v1 := c_177 s (4 * a2 + 1)) (r := c_177 s (4 * a2 + 1)) (a1 := a2) (a2 := 1) hI_178 hs (show 0 ≤ a2 ∧ a2 ≤ 5 from by omega) (show 0 ≤ 1 ∧ 1 ≤ 3 from by omega) (rfl) (by omega) ?_)
              refine bk_inl ?_
              have h_183 : c_177 s (4 * a4 + 1) = c s (4 * a4 + 1) := ((hF_179 s (4 * a4 + 1) (by omega)).trans ((hF_169 s (4 * a4 + 1) (by omega)).trans (hF_160 s (4 * a4 + 1) (by omega))))
              refine v_cv rfl rfl rfl (ck_sh hs) (by omega) ⟨⟨rfl, rfl⟩, by decide, rfl⟩ (Nat.le_of_ble_eq_true rfl) (Nat.le_of_ble_eq_true rfl) (s_52 (a1 := a2) (a2 := a4) (a3 := 1) (a4 := c_177 s (4 * a2 + 1)) hI_178 hs (show 0 ≤ a2 ∧ a2 ≤ 5 from by omega) (show 0 ≤ a4 ∧ a4 ≤ 5 from by omega) (show 0 ≤ 1 ∧ 1 ≤ 3 from by omega) (show 0 ≤ c_177 s (4 * a2 + 1) ∧ c_177 s (4 * a2 + 1) ≤ 9999 from by omega) (by omega) (by omega) (by omega) (fun c_184 hI_185 hF_186 h_187 => ?_))
              refine bk_inl ?_
              have h_188 := ir_s_g hI_185 hs (j := 4 * a2 + 1) (by omega)
              have h_189 := ir_s_g hI_185 hs (j := 4 * a4 + 1) (by omega)
              refine v_iinc (v := 2) rfl rfl (by decide) (by decide) ?_
              refine q_goto (t := 68) rfl (by decide) ?_
              refine q_iload rfl rfl ?_
              refine q_iconst rfl ?_
              refine v_ic_ge_f (t := 116) rfl (by decide) (by decide) ?_
              refine q_aload_n rfl rfl ?_
              refine q_iload_n rfl rfl ?_
              refine q_iload_n rfl rfl ?_
              refine q_iload rfl rfl ?_
              refine v_cv rfl rfl rfl (ck_sh hs) (by omega) ⟨⟨rfl, rfl⟩, by decide, rfl⟩ (Nat.le_of_ble_eq_true rfl) (Nat.le_of_ble_eq_true rfl) (s_48 (v1 := c (P + 3) a1) (v2 := c s 30) (v3 := c s (4 * a2 + 2)) (r := (fal (c (P + 3) a1) (tb (c s 30) a1) 2 (c s (4 * a2 + 2)))) (a1 := a1) (a2 := a2) (a3 := 2) hI_185 hs (show 0 ≤ a1 ∧ a1 ≤ 3 from by omega) (show 0 ≤ a2 ∧ a2 ≤ 5 from by omega) (show 0 ≤ 2 ∧ 2 ≤ 3 from by omega) (((hF_186 (P + 3) a1 (by omega)).trans ((hF_179 (P + 3) a1 (by omega)).trans ((hF_169 (P + 3) a1 (by omega)).trans (hF_160 (P + 3) a1 (by omega)))))) (((hF_186 s 30 (by omega)).trans ((hF_179 s 30 (by omega)).trans ((hF_169 s 30 (by omega)).trans (hF_160 s 30 (by omega)))))) (((hF_186 s (4 * a2 + 2) (by omega)).trans ((hF_179 s (4 * a2 + 2) (by omega)).trans ((hF_169 s (4 * a2 + 2) (by omega)).trans (hF_160 s (4 * a2 + 2) (by omega)))))) rfl ?_)
              refine bk_inl ?_
              refine q_istore rfl (by decide) ?_
              refine q_aload_n rfl rfl ?_
              refine q_iload_n rfl rfl ?_
              refine q_iload_n rfl rfl ?_
              refine q_iload rfl rfl ?_
              refine q_iload rfl rfl ?_
              have h_190 : c_184 s (4 * a2 + 2) = c s (4 * a2 + 2) := ((hF_186 s (4 * a2 + 2) (by omega)).trans ((hF_179 s (4 * a2 + 2) (by omega)).trans ((hF_169 s (4 * a2 + 2) (by omega)).trans (hF_160 s (4 * a2 + 2) (by omega)))))
              have h_191 : c_184 s (4 * a3 + 2) = c s (4 * a3 + 2) := ((hF_186 s (4 * a3 + 2) (by omega)).trans ((hF_179 s (4 * a3 + 2) (by omega)).trans ((hF_169 s (4 * a3 + 2) (by omega)).trans (hF_160 s (4 * a3 + 2) (by omega)))))
              refine v_cv rfl rfl rfl (ck_sh hs) (by omega) ⟨⟨rfl, rfl⟩, by decide, rfl⟩ (Nat.le_of_ble_eq_true rfl) (Nat.le_of_ble_eq_true rfl) (s_52 (a1 := a2) (a2 := a3) (a3 := 2) (a4 := (fal (c (P + 3) a1) (tb (c s 30) a1) 2 (c s (4 * a2 + 2)))) hI_185 hs (show 0 ≤ a2 ∧ a2 ≤ 5 from by omega) (show 0 ≤ a3 ∧ a3 ≤ 5 from by omega) (show 0 ≤ 2 ∧ 2 ≤ 3 from by omega) (show 0 ≤ (fal (c (P + 3) a1) (tb (c s 30) a1) 2 (c s (4 * a2 + 2))) ∧ (fal (c (P + 3) a1) (tb (c s 30) a1) 2 (c s (4 * a2 + 2))) ≤ 9999 from by omega) (by omega) (by omega) (by omega) (fun c_192 hI_193 hF_194 h_195 => ?_))
              refine bk_inl ?_
              have h_196 := ir_s_g hI_193 hs (j := 4 * a2 + 2) (by omega)
              have h_197 := ir_s_g hI_193 hs (j := 4 * a3 + 2) (by omega)
              refine q_aload_n rfl rfl ?_
              refine q_iload_n rfl rfl ?_
              refine q_iload rfl rfl ?_
              refine q_iload rfl rfl ?_
              refine q_aload_n rfl rfl ?_
              refine q_iload_n rfl rfl ?_
              refine q_iload rfl rfl ?_
              refine v_cv rfl rfl rfl (ck_sh hs) (by omega) ⟨⟨rfl, rfl⟩, by decide, rfl⟩ (Nat.le_of_ble_eq_true rfl) (Nat.le_of_ble_eq_true rfl) (s_45 (v1 := c_192 s (4 * a2 + 2)) (r := c_192 s (4 * a2 + 2)) (a1 := a2) (a2 := 2) hI_193 hs (show 0 ≤ a2 ∧ a2 ≤ 5 from by omega) (show 0 ≤ 2 ∧ 2 ≤ 3 from by omega) (rfl) (by omega) ?_)
              refine bk_inl ?_
              have h_198 : c_192 s (4 * a4 + 2) = c s (4 * a4 + 2) := ((hF_194 s (4 * a4 + 2) (by omega)).trans ((hF_186 s (4 * a4 + 2) (by omega)).trans ((hF_179 s (4 * a4 + 2) (by omega)).trans ((hF_169 s (4 * a4 + 2) (by omega)).trans (hF_160 s (4 * a4 + 2) (by omega))))))
              refine v_cv rfl rfl rfl (ck_sh hs) (by omega) ⟨⟨rfl, rfl⟩, by decide, rfl⟩ (Nat.le_of_ble_eq_true rfl) (Nat.le_of_ble_eq_true rfl) (s_52 (a1 := a2) (a2 := a4) (a3 := 2) (a4 := c_192 s (4 * a2 + 2)) hI_193 hs (show 0 ≤ a2 ∧ a2 ≤ 5 from by omega) (show 0 ≤ a4 ∧ a4 ≤ 5 from by omega) (show 0 ≤ 2 ∧ 2 ≤ 3 from by omega) (show 0 ≤ c_192 s (4 * a2 + 2) ∧ c_192 s (4 * a2 + 2) ≤ 9999 from by omega) (by omega) (by omega) (by omega) (fun c_199 hI_200 hF_201 h_202 => ?_))
              refine bk_inl ?_
              have h_203 := ir_s_g hI_200 hs (j := 4 * a2 + 2) (by omega)
              have h_204 := ir_s_g hI_200 hs (j := 4 * a4 + 2) (by omega)
              refine v_iinc (v := 3) rfl rfl (by decide) (by decide) ?_
              refine q_goto (t := 68) rfl (by decide) ?_
              refine q_iload rfl rfl ?_
              refine q_iconst rfl ?_
              refine v_ic_ge_f (t := 116) rfl (by decide) (by decide) ?_
              refine q_aload_n rfl rfl ?_
              refine q_iload_n rfl rfl ?_
              refine q_iload_n rfl rfl ?_
              refine q_iload rfl rfl ?_
              refine v_cv rfl rfl rfl (ck_sh hs) (by omega) ⟨⟨rfl, rfl⟩, by decide, rfl⟩ (Nat.le_of_ble_eq_true rfl) (Nat.le_of_ble_eq_true rfl) (s_48 (v1 := c (P + 3) a1) (v2 := c s 30) (v3 := c s (4 * a2 + 3)) (r := (fal (c (P + 3) a1) (tb (c s 30) a1) 3 (c s (4 * a2 + 3)))) (a1 := a1) (a2 := a2) (a3 := 3) hI_200 hs (show 0 ≤ a1 ∧ a1 ≤ 3 from by omega) (show 0 ≤ a2 ∧ a2 ≤ 5 from by omega) (show 0 ≤ 3 ∧ 3 ≤ 3 from by omega) (((hF_201 (P + 3) a1 (by omega)).trans ((hF_194 (P + 3) a1 (by omega)).trans ((hF_186 (P + 3) a1 (by omega)).trans ((hF_179 (P + 3) a1 (by omega)).trans ((hF_169 (P + 3) a1 (by omega)).trans (hF_160 (P + 3) a1 (by omega)))))))) (((hF_201 s 30 (by omega)).trans ((hF_194 s 30 (by omega)).trans ((hF_186 s 30 (by omega)).trans ((hF_179 s 30 (by omega)).trans ((hF_169 s 30 (by omega)).trans (hF_160 s 30 (by omega)))))))) (((hF_201 s (4 * a2 + 3) (by omega)).trans ((hF_194 s (4 * a2 + 3) (by omega)).trans ((hF_186 s (4 * a2 + 3) (by omega)).trans ((hF_179 s (4 * a2 + 3) (by omega)).trans ((hF_169 s (4 * a2 + 3) (by omega)).trans (hF_160 s (4 * a2 + 3) (by omega)))))))) rfl ?_)
              refine bk_inl ?_
              refine q_istore rfl (by decide) ?_
              refine Wp_ls [(8, vi (fal (c (P + 3) a1) (tb (c s 30) a1) 3 (c s (4 * a2 + 3)))), (7, vi 3), (6, vi ((fal (c (P + 3) a1) (tb (c s 30) a1) 0 (c s (4 * a2))) + (fal (c (P + 3) a1) (tb (c s 30) a1) 1 (c s (4 * a2 + 1))) + (fal (c (P + 3) a1) (tb (c s 30) a1) 2 (c s (4 * a2 + 2))) + (fal (c (P + 3) a1) (tb (c s 30) a1) 3 (c s (4 * a2 + 3))))), (5, vi (c s (4 * a2 + 1) + c s (4 * a2 + 2) + c s (4 * a2 + 3) + c s (4 * a2))), (0, .ref sh), (1, vi a1), (2, vi a2), (3, vi a3), (4, vi a4)] (lsub_cons rfl (lsub_cons rfl (lsub_cons rfl (lsub_cons rfl (lsub_cons rfl (lsub_cons rfl (lsub_cons rfl (lsub_cons rfl (lsub_cons rfl lsub_nil))))))))) ?_
              refine q_aload_n rfl rfl ?_
              refine q_iload_n rfl rfl ?_
              refine q_iload_n rfl rfl ?_
              refine q_iload rfl rfl ?_
              refine q_iload rfl rfl ?_
              have h_205 : c_199 s (4 * a2 + 3) = c s (4 * a2 + 3) := ((hF_201 s (4 * a2 + 3) (by omega)).trans ((hF_194 s (4 * a2 + 3) (by omega)).trans ((hF_186 s (4 * a2 + 3) (by omega)).trans ((hF_179 s (4 * a2 + 3) (by omega)).trans ((hF_169 s (4 * a2 + 3) (by omega)).trans (hF_160 s (4 * a2 + 3) (by omega)))))))
              have h_206 : c_199 s (4 * a3 + 3) = c s (4 * a3 + 3) := ((hF_201 s (4 * a3 + 3) (by omega)).trans ((hF_194 s (4 * a3 + 3) (by omega)).trans ((hF_186 s (4 * a3 + 3) (by omega)).trans ((hF_179 s (4 * a3 + 3) (by omega)).trans ((hF_169 s (4 * a3 + 3) (by omega)).trans (hF_160 s (4 * a3 + 3) (by omega)))))))
              refine v_cv rfl rfl rfl (ck_sh hs) (by omega) ⟨⟨rfl, rfl⟩, by decide, rfl⟩ (Nat.le_of_ble_eq_true rfl) (Nat.le_of_ble_eq_true rfl) (s_52 (a1 := a2) (a2 := a3) (a3 := 3) (a4 := (fal (c (P + 3) a1) (tb (c s 30) a1) 3 (c s (4 * a2 + 3)))) hI_200 hs (show 0 ≤ a2 ∧ a2 ≤ 5 from by omega) (show 0 ≤ a3 ∧ a3 ≤ 5 from by omega) (show 0 ≤ 3 ∧ 3 ≤ 3 from by omega) (show 0 ≤ (fal (c (P + 3) a1) (tb (c s 30) a1) 3 (c s (4 * a2 + 3))) ∧ (fal (c (P + 3) a1) (tb (c s 30) a1) 3 (c s (4 * a2 + 3))) ≤ 9999 from by omega) (by omega) (by omega) (by omega) (fun c_207 hI_208 hF_209 h_210 => ?_))
              refine bk_inl ?_
              have h_211 := ir_s_g hI_208 hs (j := 4 * a2 + 3) (by omega)
              have h_212 := ir_s_g hI_208 hs (j := 4 * a3 + 3) (by omega)
              refine q_aload_n rfl rfl ?_
              refine q_iload_n rfl rfl ?_
              refine q_iload rfl rfl ?_
              refine q_iload rfl rfl ?_
              refine q_aload_n rfl rfl ?_
              refine q_iload_n rfl rfl ?_
              refine q_iload rfl rfl ?_
              refine v_cv rfl rfl rfl (ck_sh hs) (by omega) ⟨⟨rfl, rfl⟩, by decide, rfl⟩ (Nat.le_of_ble_eq_true rfl) (Nat.le_of_ble_eq_true rfl) (s_45 (v1 := c_207 s (4 * a2 + 3)) (r := c_207 s (4 * a2 + 3)) (a1 := a2) (a2 := 3) hI_208 hs (show 0 ≤ a2 ∧ a2 ≤ 5 from by omega) (show 0 ≤ 3 ∧ 3 ≤ 3 from by omega) (rfl) (by omega) ?_)
              refine bk_inl ?_
              have h_213 : c_207 s (4 * a4 + 3) = c s (4 * a4 + 3) := ((hF_209 s (4 * a4 + 3) (by omega)).trans ((hF_201 s (4 * a4 + 3) (by omega)).trans ((hF_194 s (4 * a4 + 3) (by omega)).trans ((hF_186 s (4 * a4 + 3) (by omega)).trans ((hF_179 s (4 * a4 + 3) (by omega)).trans ((hF_169 s (4 * a4 + 3) (by omega)).trans (hF_160 s (4 * a4 + 3) (by omega))))))))
              refine v_cv rfl rfl rfl (ck_sh hs) (by omega) ⟨⟨rfl, rfl⟩, by decide, rfl⟩ (Nat.le_of_ble_eq_true rfl) (Nat.le_of_ble_eq_true rfl) (s_52 (a1 := a2) (a2 := a4) (a3 := 3) (a4 := c_207 s (4 * a2 + 3)) hI_208 hs (show 0 ≤ a2 ∧ a2 ≤ 5 from by omega) (show 0 ≤ a4 ∧ a4 ≤ 5 from by omega) (show 0 ≤ 3 ∧ 3 ≤ 3 from by omega) (show 0 ≤ c_207 s (4 * a2 + 3) ∧ c_207 s (4 * a2 + 3) ≤ 9999 from by omega) (by omega) (by omega) (by omega) (fun c_214 hI_215 hF_216 h_217 => ?_))
              refine bk_inl ?_
              have h_218 := ir_s_g hI_215 hs (j := 4 * a2 + 3) (by omega)
              have h_219 := ir_s_g hI_215 hs (j := 4 * a4 + 3) (by omega)
              refine v_iinc (v := 4) rfl rfl (by decide) (by decide) ?_
              refine q_goto (t := 68) rfl (by decide) ?_
              refine q_iload rfl rfl ?_
              refine q_iconst rfl ?_
              refine v_ic_ge_t (t := 116) rfl (by decide) (by decide) ?_
              refine q_aload_n rfl rfl ?_
              refine v_gr (t := s) rfl rfl (ck_sh hs) (by omega) rfl ?_
              refine v_bip rfl (by decide) ?_
              refine q_iload_n rfl rfl ?_
              refine v_iadd (v := a2 + 24) rfl (by omega) ?_
              refine q_iconst rfl ?_
              refine v_is rfl (ck_s hs) (by omega) (by decide) (by omega) ?_
              refine q_iconst rfl ?_
              refine v_zret rfl rfl (by omega) ?_
              have hI_220 := iw_row (a := s) (j := a2 + 24) (v := 0) hI_215 (by omega) (Or.inl rfl) ⟨by omega, by omega, by omega⟩
              have hr_221 : ∀ j : Int, rs s j → (up c_214 s (a2 + 24) 0) s j + (up c_214 s (a2 + 24) 0) s (j + 1) + (up c_214 s (a2 + 24) 0) s (j + 2) + (up c_214 s (a2 + 24) 0) s (j + 3) ≤ 9999 := by
                intro j9 hj9
                obtain ⟨k9, rfl, hk9⟩ := rs_s hs hj9
                by_cases e_222 : k9 = a2
                · skip
                  have h_223 : (up c_214 s (a2 + 24) 0) s (4 * k9) = c_167 s (4 * a2) := (congrArg ((up c_214 s (a2 + 24) 0) s) (show 4 * k9 = 4 * a2 from by omega)).trans ((up_n (by omega)).trans ((hF_216 s (4 * a2) (by omega)).trans ((hF_209 s (4 * a2) (by omega)).trans ((hF_201 s (4 * a2) (by omega)).trans ((hF_194 s (4 * a2) (by omega)).trans ((hF_186 s (4 * a2) (by omega)).trans (hF_179 s (4 * a2) (by omega))))))))
                  have h_224 : (up c_214 s (a2 + 24) 0) s (4 * k9 + 1) = c_184 s (4 * a2 + 1) := (congrArg ((up c_214 s (a2 + 24) 0) s) (show 4 * k9 + 1 = 4 * a2 + 1 from by omega)).trans ((up_n (by omega)).trans ((hF_216 s (4 * a2 + 1) (by omega)).trans ((hF_209 s (4 * a2 + 1) (by omega)).trans ((hF_201 s (4 * a2 + 1) (by omega)).trans (hF_194 s (4 * a2 + 1) (by omega))))))
                  have h_225 : (up c_214 s (a2 + 24) 0) s (4 * k9 + 2) = c_199 s (4 * a2 + 2) := (congrArg ((up c_214 s (a2 + 24) 0) s) (show 4 * k9 + 2 = 4 * a2 + 2 from by omega)).trans ((up_n (by omega)).trans ((hF_216 s (4 * a2 + 2) (by omega)).trans (hF_209 s (4 * a2 + 2) (by omega))))
                  have h_226 : (up c_214 s (a2 + 24) 0) s (4 * k9 + 3) = c_214 s (4 * a2 + 3) := (congrArg ((up c_214 s (a2 + 24) 0) s) (show 4 * k9 + 3 = 4 * a2 + 3 from by omega)).trans (up_n (by omega))
                  omega
                by_cases e_227 : k9 = a3
                · skip
                  have h_228 : (up c_214 s (a2 + 24) 0) s (4 * k9) = c_158 s (4 * a3) := (congrArg ((up c_214 s (a2 + 24) 0) s) (show 4 * k9 = 4 * a3 from by omega)).trans ((up_n (by omega)).trans ((hF_216 s (4 * a3) (by omega)).trans ((hF_209 s (4 * a3) (by omega)).trans ((hF_201 s (4 * a3) (by omega)).trans ((hF_194 s (4 * a3) (by omega)).trans ((hF_186 s (4 * a3) (by omega)).trans ((hF_179 s (4 * a3) (by omega)).trans (hF_169 s (4 * a3) (by omega)))))))))
                  have h_229 : (up c_214 s (a2 + 24) 0) s (4 * k9 + 1) = c_177 s (4 * a3 + 1) := (congrArg ((up c_214 s (a2 + 24) 0) s) (show 4 * k9 + 1 = 4 * a3 + 1 from by omega)).trans ((up_n (by omega)).trans ((hF_216 s (4 * a3 + 1) (by omega)).trans ((hF_209 s (4 * a3 + 1) (by omega)).trans ((hF_201 s (4 * a3 + 1) (by omega)).trans ((hF_194 s (4 * a3 + 1) (by omega)).trans (hF_186 s (4 * a3 + 1) (by omega)))))))
                  have h_230 : (up c_214 s (a2 + 24) 0) s (4 * k9 + 2) = c_192 s (4 * a3 + 2) := (congrArg ((up c_214 s (a2 + 24) 0) s) (show 4 * k9 + 2 = 4 * a3 + 2 from by omega)).trans ((up_n (by omega)).trans ((hF_216 s (4 * a3 + 2) (by omega)).trans ((hF_209 s (4 * a3 + 2) (by omega)).trans (hF_201 s (4 * a3 + 2) (by omega)))))
                  have h_231 : (up c_214 s (a2 + 24) 0) s (4 * k9 + 3) = c_207 s (4 * a3 + 3) := (congrArg ((up c_214 s (a2 + 24) 0) s) (show 4 * k9 + 3 = 4 * a3 + 3 from by omega)).trans ((up_n (by omega)).trans (hF_216 s (4 * a3 + 3) (by omega)))
                  omega
                by_cases e_232 : k9 = a4
                · skip
                  have h_233 : (up c_214 s (a2 + 24) 0) s (4 * k9) = c_167 s (4 * a4) := (congrArg ((up c_214 s (a2 + 24) 0) s) (show 4 * k9 = 4 * a4 from by omega)).trans ((up_n (by omega)).trans ((hF_216 s (4 * a4) (by omega)).trans ((hF_209 s (4 * a4) (by omega)).trans ((hF_201 s (4 * a4) (by omega)).trans ((hF_194 s (4 * a4) (by omega)).trans ((hF_186 s (4 * a4) (by omega)).trans (hF_179 s (4 * a4) (by omega))))))))
                  have h_234 : (up c_214 s (a2 + 24) 0) s (4 * k9 + 1) = c_184 s (4 * a4 + 1) := (congrArg ((up c_214 s (a2 + 24) 0) s) (show 4 * k9 + 1 = 4 * a4 + 1 from by omega)).trans ((up_n (by omega)).trans ((hF_216 s (4 * a4 + 1) (by omega)).trans ((hF_209 s (4 * a4 + 1) (by omega)).trans ((hF_201 s (4 * a4 + 1) (by omega)).trans (hF_194 s (4 * a4 + 1) (by omega))))))
                  have h_235 : (up c_214 s (a2 + 24) 0) s (4 * k9 + 2) = c_199 s (4 * a4 + 2) := (congrArg ((up c_214 s (a2 + 24) 0) s) (show 4 * k9 + 2 = 4 * a4 + 2 from by omega)).trans ((up_n (by omega)).trans ((hF_216 s (4 * a4 + 2) (by omega)).trans (hF_209 s (4 * a4 + 2) (by omega))))
                  have h_236 : (up c_214 s (a2 + 24) 0) s (4 * k9 + 3) = c_214 s (4 * a4 + 3) := (congrArg ((up c_214 s (a2 + 24) 0) s) (show 4 * k9 + 3 = 4 * a4 + 3 from by omega)).trans (up_n (by omega))
                  omega
                have h_237 := iv_r hI s (4 * k9) hj9 (by omega)
                have h_238 := ir_s_g hI hs (j := 4 * k9) (by omega)
                have h_239 : (up c_214 s (a2 + 24) 0) s (4 * k9) = c s (4 * k9) := ((up_n (by omega)).trans ((hF_216 s (4 * k9) (by omega)).trans ((hF_209 s (4 * k9) (by omega)).trans ((hF_201 s (4 * k9) (by omega)).trans ((hF_194 s (4 * k9) (by omega)).trans ((hF_186 s (4 * k9) (by omega)).trans ((hF_179 s (4 * k9) (by omega)).trans ((hF_169 s (4 * k9) (by omega)).trans (hF_160 s (4 * k9) (by omega))))))))))
                have h_240 := ir_s_g hI hs (j := 4 * k9 + 1) (by omega)
                have h_241 : (up c_214 s (a2 + 24) 0) s (4 * k9 + 1) = c s (4 * k9 + 1) := ((up_n (by omega)).trans ((hF_216 s (4 * k9 + 1) (by omega)).trans ((hF_209 s (4 * k9 + 1) (by omega)).trans ((hF_201 s (4 * k9 + 1) (by omega)).trans ((hF_194 s (4 * k9 + 1) (by omega)).trans ((hF_186 s (4 * k9 + 1) (by omega)).trans ((hF_179 s (4 * k9 + 1) (by omega)).trans ((hF_169 s (4 * k9 + 1) (by omega)).trans (hF_160 s (4 * k9 + 1) (by omega))))))))))
                have h_242 := ir_s_g hI hs (j := 4 * k9 + 2) (by omega)
                have h_243 : (up c_214 s (a2 + 24) 0) s (4 * k9 + 2) = c s (4 * k9 + 2) := ((up_n (by omega)).trans ((hF_216 s (4 * k9 + 2) (by omega)).trans ((hF_209 s (4 * k9 + 2) (by omega)).trans ((hF_201 s (4 * k9 + 2) (by omega)).trans ((hF_194 s (4 * k9 + 2) (by omega)).trans ((hF_186 s (4 * k9 + 2) (by omega)).trans ((hF_179 s (4 * k9 + 2) (by omega)).trans ((hF_169 s (4 * k9 + 2) (by omega)).trans (hF_160 s (4 * k9 + 2) (by omega))))))))))
                have h_244 := ir_s_g hI hs (j := 4 * k9 + 3) (by omega)
                have h_245 : (up c_214 s (a2 + 24) 0) s (4 * k9 + 3) = c s (4 * k9 + 3) := ((up_n (by omega)).trans ((hF_216 s (4 * k9 + 3) (by omega)).trans ((hF_209 s (4 * k9 + 3) (by omega)).trans ((hF_201 s (4 * k9 + 3) (by omega)).trans ((hF_194 s (4 * k9 + 3) (by omega)).trans ((hF_186 s (4 * k9 + 3) (by omega)).trans ((hF_179 s (4 * k9 + 3) (by omega)).trans ((hF_169 s (4 * k9 + 3) (by omega)).trans (hF_160 s (4 * k9 + 3) (by omega))))))))))
                omega
              have hI_246 := iv_close hI_220 hr_221
              exact K (up c_214 s (a2 + 24) 0) 1 hI_246 (fun a j hm => (up_b (by omega)).trans ((hF_216 a j (by omega)).trans ((hF_209 a j (by omega)).trans ((hF_201 a j (by omega)).trans ((hF_194 a j (by omega)).trans ((hF_186 a j (by omega)).trans ((hF_179 a j (by omega)).trans ((hF_169 a j (by omega)).trans (hF_160 a j (by omega)))))))))) ⟨by decide, by decide⟩
      · refine v_ic_ne_f (t := 19) rfl (by decide) (by omega) ?_
        refine q_iconst rfl ?_
        refine v_zret rfl rfl (by omega) ?_
        have hr_247 : ∀ j : Int, rs s j → c s j + c s (j + 1) + c s (j + 2) + c s (j + 3) ≤ 9999 := by
          intro j9 hj9
          obtain ⟨k9, rfl, hk9⟩ := rs_s hs hj9
          by_cases e_248 : k9 = a2
          · skip
            have h_249 : c s (4 * k9) = c s (4 * a2) := (congrArg (c s) (show 4 * k9 = 4 * a2 from by omega))
            have h_250 : c s (4 * k9 + 1) = c s (4 * a2 + 1) := (congrArg (c s) (show 4 * k9 + 1 = 4 * a2 + 1 from by omega))
            have h_251 : c s (4 * k9 + 2) = c s (4 * a2 + 2) := (congrArg (c s) (show 4 * k9 + 2 = 4 * a2 + 2 from by omega))
            have h_252 : c s (4 * k9 + 3) = c s (4 * a2 + 3) := (congrArg (c s) (show 4 * k9 + 3 = 4 * a2 + 3 from by omega))
            omega
          by_cases e_253 : k9 = a3
          · skip
            have h_254 : c s (4 * k9) = c s (4 * a3) := (congrArg (c s) (show 4 * k9 = 4 * a3 from by omega))
            have h_255 : c s (4 * k9 + 1) = c s (4 * a3 + 1) := (congrArg (c s) (show 4 * k9 + 1 = 4 * a3 + 1 from by omega))
            have h_256 : c s (4 * k9 + 2) = c s (4 * a3 + 2) := (congrArg (c s) (show 4 * k9 + 2 = 4 * a3 + 2 from by omega))
            have h_257 : c s (4 * k9 + 3) = c s (4 * a3 + 3) := (congrArg (c s) (show 4 * k9 + 3 = 4 * a3 + 3 from by omega))
            omega
          by_cases e_258 : k9 = a4
          · skip
            have h_259 : c s (4 * k9) = c s (4 * a4) := (congrArg (c s) (show 4 * k9 = 4 * a4 from by omega))
            have h_260 : c s (4 * k9 + 1) = c s (4 * a4 + 1) := (congrArg (c s) (show 4 * k9 + 1 = 4 * a4 + 1 from by omega))
            have h_261 : c s (4 * k9 + 2) = c s (4 * a4 + 2) := (congrArg (c s) (show 4 * k9 + 2 = 4 * a4 + 2 from by omega))
            have h_262 : c s (4 * k9 + 3) = c s (4 * a4 + 3) := (congrArg (c s) (show 4 * k9 + 3 = 4 * a4 + 3 from by omega))
            omega
          have h_263 := iv_r hI s (4 * k9) hj9 (by omega)
          have h_264 := ir_s_g hI hs (j := 4 * k9) (by omega)
          have h_265 : c s (4 * k9) = c s (4 * k9) := rfl
          have h_266 := ir_s_g hI hs (j := 4 * k9 + 1) (by omega)
          have h_267 : c s (4 * k9 + 1) = c s (4 * k9 + 1) := rfl
          have h_268 := ir_s_g hI hs (j := 4 * k9 + 2) (by omega)
          have h_269 : c s (4 * k9 + 2) = c s (4 * k9 + 2) := rfl
          have h_270 := ir_s_g hI hs (j := 4 * k9 + 3) (by omega)
          have h_271 : c s (4 * k9 + 3) = c s (4 * k9 + 3) := rfl
          omega
        have hI_272 := iv_close hIo hr_247
        exact K c 0 hI_272 (fun a j hm => rfl) ⟨by decide, by decide⟩

