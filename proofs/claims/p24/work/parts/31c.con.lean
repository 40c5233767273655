/-! ===== contracts 3 ===== -/
set_option maxRecDepth 100000 in
set_option maxHeartbeats 4000000 in
theorem s_53 {sc : List Int32} {d P Q sh s : Nat} {c : ME} {a1 : Int} {a2 : Int} {a3 : Int} {a4 : Int} {Z : AR → Prop} (hI : Iv 0 (-1) P Q c) (hs : (sh = 37 ∧ s = 38) ∨ (sh = 39 ∧ s = 40)) (ha1 : 0 ≤ a1 ∧ a1 ≤ 3) (ha2 : 0 ≤ a2 ∧ a2 ≤ 5) (ha3 : 0 ≤ a3 ∧ a3 ≤ 5) (ha4 : 0 ≤ a4 ∧ a4 ≤ 5) (K : ∀ (c2 : ME) (y : Int), Iv 0 (-1) P Q c2 → (∀ (a : Nat) (j : Int), ¬ (a = s) → c2 a j = c a j) → 0 ≤ y ∧ y ≤ 1 → Z (.inl (some (vi y)), Wd P Q P P c2, 0, 0)) : Wp sc (d + 11) 53 0 [(0, .ref sh), (1, vi a1), (2, vi a2), (3, vi a3), (4, vi a4)] [] (Wd P Q P P c) 0 0 Z := by
  have hP := iv_P hI
  have hQ := iv_Q hI
  have hIo : Iv s (-1) P Q c := iv_open hI
  have hsum_1 := ir_s_r hI hs (by omega) (j := a2) (by omega)
  have h_2 := ir_s_g hI hs (j := 4 * a2) (by omega)
  have h_3 := ir_s_g hI hs (j := 4 * a2 + 1) (by omega)
  have h_4 := ir_s_g hI hs (j := 4 * a2 + 2) (by omega)
  have h_5 := ir_s_g hI hs (j := 4 * a2 + 3) (by omega)
  have hsum_6 := ir_s_r hI hs (by omega) (j := a3) (by omega)
  have h_7 := ir_s_g hI hs (j := 4 * a3) (by omega)
  have h_8 := ir_s_g hI hs (j := 4 * a3 + 1) (by omega)
  have h_9 := ir_s_g hI hs (j := 4 * a3 + 2) (by omega)
  have h_10 := ir_s_g hI hs (j := 4 * a3 + 3) (by omega)
  have hsum_11 := ir_s_r hI hs (by omega) (j := a4) (by omega)
  have h_12 := ir_s_g hI hs (j := 4 * a4) (by omega)
  have h_13 := ir_s_g hI hs (j := 4 * a4 + 1) (by omega)
  have h_14 := ir_s_g hI hs (j := 4 * a4 + 2) (by omega)
  have h_15 := ir_s_g hI hs (j := 4 * a4 + 3) (by omega)
  refine q_iload_n rfl rfl ?_
  refine q_iload_n rfl rfl ?_
  by_cases h_16 : a2 = a3
  · refine v_ic_eq_t (t := 17) rfl (by decide) (by omega) ?_
    refine q_iconst rfl ?_
    refine v_zret rfl rfl (by omega) ?_
    have hr_17 : ∀ j : Int, rs s j → c s j + c s (j + 1) + c s (j + 2) + c s (j + 3) ≤ 9999 := by
      intro j9 hj9
      obtain ⟨k9, rfl, hk9⟩ := rs_s hs hj9
      by_cases e_18 : k9 = a2
      · skip
        have h_19 : c s (4 * k9) = c s (4 * a2) := (congrArg (c s) (show 4 * k9 = 4 * a2 from by omega))
        have h_20 : c s (4 * k9 + 1) = c s (4 * a2 + 1) := (congrArg (c s) (show 4 * k9 + 1 = 4 * a2 + 1 from by omega))
        have h_21 : c s (4 * k9 + 2) = c s (4 * a2 + 2) := (congrArg (c s) (show 4 * k9 + 2 = 4 * a2 + 2 from by omega))
        have h_22 : c s (4 * k9 + 3) = c s (4 * a2 + 3) := (congrArg (c s) (show 4 * k9 + 3 = 4 * a2 + 3 from by omega))
        omega
      by_cases e_23 : k9 = a3
      · skip
        have h_24 : c s (4 * k9) = c s (4 * a3) := (congrArg (c s) (show 4 * k9 = 4 * a3 from by omega))
        have h_25 : c s (4 * k9 + 1) = c s (4 * a3 + 1) := (congrArg (c s) (show 4 * k9 + 1 = 4 * a3 + 1 from by omega))
        have h_26 : c s (4 * k9 + 2) = c s (4 * a3 + 2) := (congrArg (c s) (show 4 * k9 + 2 = 4 * a3 + 2 from by omega))
        have h_27 : c s (4 * k9 + 3) = c s (4 * a3 + 3) := (congrArg (c s) (show 4 * k9 + 3 = 4 * a3 + 3 from by omega))
        omega
      by_cases e_28 : k9 = a4
      · skip
        have h_29 : c s (4 * k9) = c s (4 * a4) := (congrArg (c s) (show 4 * k9 = 4 * a4 from by omega))
        have h_30 : c s (4 * k9 + 1) = c s (4 * a4 + 1) := (congrArg (c s) (show 4 * k9 + 1 = 4 * a4 + 1 from by omega))
        have h_31 : c s (4 * k9 + 2) = c s (4 * a4 + 2) := (congrArg (c s) (show 4 * k9 + 2 = 4 * a4 + 2 from by omega))
        have h_32 : c s (4 * k9 + 3) = c s (4 * a4 + 3) := (congrArg (c s) (show 4 * k9 + 3 = 4 * a4 + 3 from by omega))
        omega
      have h_33 := iv_r hI s (4 * k9) hj9 (by omega)
      have h_34 := ir_s_g hI hs (j := 4 * k9) (by omega)
      have h_35 : c s (4 * k9) = c s (4 * k9) := rfl
      have h_36 := ir_s_g hI hs (j := 4 * k9 + 1) (by omega)
      have h_37 : c s (4 * k9 + 1) = c s (4 * k9 + 1) := rfl
      have h_38 := ir_s_g hI hs (j := 4 * k9 + 2) (by omega)
      have h_39 : c s (4 * k9 + 2) = c s (4 * k9 + 2) := rfl
      have h_40 := ir_s_g hI hs (j := 4 * k9 + 3) (by omega)
      have h_41 : c s (4 * k9 + 3) = c s (4 * k9 + 3) := rfl
      omega
    have hI_42 := iv_close hIo hr_17
    exact K c 0 hI_42 (fun a j hm => rfl) ⟨by decide, by decide⟩
  · refine v_ic_eq_f (t := 17) rfl (by decide) (by omega) ?_
    refine q_iload_n rfl rfl ?_
    refine q_iload rfl rfl ?_
    by_cases h_43 : a2 = a4
    · refine v_ic_eq_t (t := 17) rfl (by decide) (by omega) ?_
      refine q_iconst rfl ?_
      refine v_zret rfl rfl (by omega) ?_
      have hr_44 : ∀ j : Int, rs s j → c s j + c s (j + 1) + c s (j + 2) + c s (j + 3) ≤ 9999 := by
        intro j9 hj9
        obtain ⟨k9, rfl, hk9⟩ := rs_s hs hj9
        by_cases e_45 : k9 = a2
        · skip
          have h_46 : c s (4 * k9) = c s (4 * a2) := (congrArg (c s) (show 4 * k9 = 4 * a2 from by omega))
          have h_47 : c s (4 * k9 + 1) = c s (4 * a2 + 1) := (congrArg (c s) (show 4 * k9 + 1 = 4 * a2 + 1 from by omega))
          have h_48 : c s (4 * k9 + 2) = c s (4 * a2 + 2) := (congrArg (c s) (show 4 * k9 + 2 = 4 * a2 + 2 from by omega))
          have h_49 : c s (4 * k9 + 3) = c s (4 * a2 + 3) := (congrArg (c s) (show 4 * k9 + 3 = 4 * a2 + 3 from by omega))
          omega
        by_cases e_50 : k9 = a3
        · skip
          have h_51 : c s (4 * k9) = c s (4 * a3) := (congrArg (c s) (show 4 * k9 = 4 * a3 from by omega))
          have h_52 : c s (4 * k9 + 1) = c s (4 * a3 + 1) := (congrArg (c s) (show 4 * k9 + 1 = 4 * a3 + 1 from by omega))
          have h_53 : c s (4 * k9 + 2) = c s (4 * a3 + 2) := (congrArg (c s) (show 4 * k9 + 2 = 4 * a3 + 2 from by omega))
          have h_54 : c s (4 * k9 + 3) = c s (4 * a3 + 3) := (congrArg (c s) (show 4 * k9 + 3 = 4 * a3 + 3 from by omega))
          omega
        by_cases e_55 : k9 = a4
        · skip
          have h_56 : c s (4 * k9) = c s (4 * a4) := (congrArg (c s) (show 4 * k9 = 4 * a4 from by omega))
          have h_57 : c s (4 * k9 + 1) = c s (4 * a4 + 1) := (congrArg (c s) (show 4 * k9 + 1 = 4 * a4 + 1 from by omega))
          have h_58 : c s (4 * k9 + 2) = c s (4 * a4 + 2) := (congrArg (c s) (show 4 * k9 + 2 = 4 * a4 + 2 from by omega))
          have h_59 : c s (4 * k9 + 3) = c s (4 * a4 + 3) := (congrArg (c s) (show 4 * k9 + 3 = 4 * a4 + 3 from by omega))
          omega
        have h_60 := iv_r hI s (4 * k9) hj9 (by omega)
        have h_61 := ir_s_g hI hs (j := 4 * k9) (by omega)
        have h_62 : c s (4 * k9) = c s (4 * k9) := rfl
        have h_63 := ir_s_g hI hs (j := 4 * k9 + 1) (by omega)
        have h_64 : c s (4 * k9 + 1) = c s (4 * k9 + 1) := rfl
        have h_65 := ir_s_g hI hs (j := 4 * k9 + 2) (by omega)
        have h_66 : c s (4 * k9 + 2) = c s (4 * k9 + 2) := rfl
        have h_67 := ir_s_g hI hs (j := 4 * k9 + 3) (by omega)
        have h_68 : c s (4 * k9 + 3) = c s (4 * k9 + 3) := rfl
        omega
      have hI_69 := iv_close hIo hr_44
      exact K c 0 hI_69 (fun a j hm => rfl) ⟨by decide, by decide⟩
    · refine v_ic_eq_f (t := 17) rfl (by decide) (by omega) ?_
      refine q_iload_n rfl rfl ?_
      refine q_iload rfl rfl ?_
      by_cases h_70 : a3 ≠ a4
      · refine v_ic_ne_t (t := 19) rfl (by decide) (by omega) ?_
        refine q_aload_n rfl rfl ?_
        refine q_iload_n rfl rfl ?_
        refine v_cv rfl rfl rfl (ck_sh hs) (by omega) ⟨⟨rfl, rfl⟩, by decide, rfl⟩ (Nat.le_of_ble_eq_true rfl) (Nat.le_of_ble_eq_true rfl) (s_43 (v1 := c s (4 * a2)) (v2 := c s (4 * a2 + 1)) (v3 := c s (4 * a2 + 2)) (v4 := c s (4 * a2 + 3)) (r := c s (4 * a2 + 1) + c s (4 * a2 + 2) + c s (4 * a2 + 3) + c s (4 * a2)) (a1 := a2) hIo hs (show 0 ≤ a2 ∧ a2 ≤ 5 from by omega) (rfl) (rfl) (rfl) (rfl) (by omega) ?_)
        refine bk_inl ?_
        refine q_istore rfl (by decide) ?_
        refine q_aload_n rfl rfl ?_
        refine q_iload_n rfl rfl ?_
        refine q_iload_n rfl rfl ?_
        have h_71 := ir_p3 hI hP a1
        have h_72 := ir_s hI hs 30
        have h_73 := fal_rng (m := c (P + 3) a1) (t := tb (c s 30) a1) (g := 0) (x := c s (4 * a2)) (by omega)
        have h_74 := fal_rng (m := c (P + 3) a1) (t := tb (c s 30) a1) (g := 1) (x := c s (4 * a2 + 1)) (by omega)
        have h_75 := fal_rng (m := c (P + 3) a1) (t := tb (c s 30) a1) (g := 2) (x := c s (4 * a2 + 2)) (by omega)
        have h_76 := fal_rng (m := c (P + 3) a1) (t := tb (c s 30) a1) (g := 3) (x := c s (4 * a2 + 3)) (by omega)
        refine v_cv rfl rfl rfl (ck_sh hs) (by omega) ⟨⟨rfl, rfl⟩, by decide, rfl⟩ (Nat.le_of_ble_eq_true rfl) (Nat.le_of_ble_eq_true rfl) (s_49 (v1 := c (P + 3) a1) (v2 := c s 30) (v3 := c s (4 * a2)) (v4 := c s (4 * a2 + 1)) (v5 := c s (4 * a2 + 2)) (v6 := c s (4 * a2 + 3)) (r := (fal (c (P + 3) a1) (tb (c s 30) a1) 0 (c s (4 * a2))) + (fal (c (P + 3) a1) (tb (c s 30) a1) 1 (c s (4 * a2 + 1))) + (fal (c (P + 3) a1) (tb (c s 30) a1) 2 (c s (4 * a2 + 2))) + (fal (c (P + 3) a1) (tb (c s 30) a1) 3 (c s (4 * a2 + 3)))) (a1 := a1) (a2 := a2) hIo hs (show 0 ≤ a1 ∧ a1 ≤ 3 from by omega) (show 0 ≤ a2 ∧ a2 ≤ 5 from by omega) (rfl) (rfl) (rfl) (rfl) (rfl) (rfl) rfl ?_)
        refine bk_inl ?_
        refine q_istore rfl (by decide) ?_
        refine q_iload rfl rfl ?_
        by_cases h_77 : c s (4 * a2 + 1) + c s (4 * a2 + 2) + c s (4 * a2 + 3) + c s (4 * a2) = 0
        · refine v_if_eq_t (t := 63) rfl (by decide) (by omega) ?_
          refine q_iconst rfl ?_
          refine v_zret rfl rfl (by omega) ?_
          have hr_78 : ∀ j : Int, rs s j → c s j + c s (j + 1) + c s (j + 2) + c s (j + 3) ≤ 9999 := by
            intro j9 hj9
            obtain ⟨k9, rfl, hk9⟩ := rs_s hs hj9
            by_cases e_79 : k9 = a2
            · skip
              have h_80 : c s (4 * k9) = c s (4 * a2) := (congrArg (c s) (show 4 * k9 = 4 * a2 from by omega))
              have h_81 : c s (4 * k9 + 1) = c s (4 * a2 + 1) := (congrArg (c s) (show 4 * k9 + 1 = 4 * a2 + 1 from by omega))
              have h_82 : c s (4 * k9 + 2) = c s (4 * a2 + 2) := (congrArg (c s) (show 4 * k9 + 2 = 4 * a2 + 2 from by omega))
              have h_83 : c s (4 * k9 + 3) = c s (4 * a2 + 3) := (congrArg (c s) (show 4 * k9 + 3 = 4 * a2 + 3 from by omega))
              omega
            by_cases e_84 : k9 = a3
            · skip
              have h_85 : c s (4 * k9) = c s (4 * a3) := (congrArg (c s) (show 4 * k9 = 4 * a3 from by omega))
              have h_86 : c s (4 * k9 + 1) = c s (4 * a3 + 1) := (congrArg (c s) (show 4 * k9 + 1 = 4 * a3 + 1 from by omega))
              have h_87 : c s (4 * k9 + 2) = c s (4 * a3 + 2) := (congrArg (c s) (show 4 * k9 + 2 = 4 * a3 + 2 from by omega))
              have h_88 : c s (4 * k9 + 3) = c s (4 * a3 + 3) := (congrArg (c s) (show 4 * k9 + 3 = 4 * a3 + 3 from by omega))
              omega
            by_cases e_89 : k9 = a4
            · skip
              have h_90 : c s (4 * k9) = c s (4 * a4) := (congrArg (c s) (show 4 * k9 = 4 * a4 from by omega))
              have h_91 : c s (4 * k9 + 1) = c s (4 * a4 + 1) := (congrArg (c s) (show 4 * k9 + 1 = 4 * a4 + 1 from by omega))
              have h_92 : c s (4 * k9 + 2) = c s (4 * a4 + 2) := (congrArg (c s) (show 4 * k9 + 2 = 4 * a4 + 2 from by omega))
              have h_93 : c s (4 * k9 + 3) = c s (4 * a4 + 3) := (congrArg (c s) (show 4 * k9 + 3 = 4 * a4 + 3 from by omega))
              omega
            have h_94 := iv_r hI s (4 * k9) hj9 (by omega)
            have h_95 := ir_s_g hI hs (j := 4 * k9) (by omega)
            have h_96 : c s (4 * k9) = c s (4 * k9) := rfl
            have h_97 := ir_s_g hI hs (j := 4 * k9 + 1) (by omega)
            have h_98 : c s (4 * k9 + 1) = c s (4 * k9 + 1) := rfl
            have h_99 := ir_s_g hI hs (j := 4 * k9 + 2) (by omega)
            have h_100 : c s (4 * k9 + 2) = c s (4 * k9 + 2) := rfl
            have h_101 := ir_s_g hI hs (j := 4 * k9 + 3) (by omega)
            have h_102 : c s (4 * k9 + 3) = c s (4 * k9 + 3) := rfl
            omega
          have hI_103 := iv_close hIo hr_78
          exact K c 0 hI_103 (fun a j hm => rfl) ⟨by decide, by decide⟩
        · refine v_if_eq_f (t := 63) rfl (by decide) (by omega) ?_
          refine q_aload_n rfl rfl ?_
          refine q_iload_n rfl rfl ?_
          refine q_iload rfl rfl ?_
          refine v_cv rfl rfl rfl (ck_sh hs) (by omega) ⟨⟨rfl, rfl⟩, by decide, rfl⟩ (Nat.le_of_ble_eq_true rfl) (Nat.le_of_ble_eq_true rfl) ?_
          refine q_aload_n rfl rfl ?_
          refine q_iload_n rfl rfl ?_
          refine v_cv rfl rfl rfl (ck_sh hs) (by omega) ⟨⟨rfl, rfl⟩, by decide, rfl⟩ (Nat.le_of_ble_eq_true rfl) (Nat.le_of_ble_eq_true rfl) (s_43 (v1 := c s (4 * a3)) (v2 := c s (4 * a3 + 1)) (v3 := c s (4 * a3 + 2)) (v4 := c s (4 * a3 + 3)) (r := c s (4 * a3 + 1) + c s (4 * a3 + 2) + c s (4 * a3 + 3) + c s (4 * a3)) (a1 := a3) hIo hs (show 0 ≤ a3 ∧ a3 ≤ 5 from by omega) (rfl) (rfl) (rfl) (rfl) (by omega) ?_)
          refine bk_inl ?_
          refine q_iload_n rfl rfl ?_
          refine v_iadd (v := (fal (c (P + 3) a1) (tb (c s 30) a1) 0 (c s (4 * a2))) + (fal (c (P + 3) a1) (tb (c s 30) a1) 1 (c s (4 * a2 + 1))) + (fal (c (P + 3) a1) (tb (c s 30) a1) 2 (c s (4 * a2 + 2))) + (fal (c (P + 3) a1) (tb (c s 30) a1) 3 (c s (4 * a2 + 3))) + c s (4 * a3 + 1) + c s (4 * a3 + 2) + c s (4 * a3 + 3) + c s (4 * a3)) rfl (by omega) ?_
          refine v_sip rfl (by decide) ?_
          by_cases h_104 : (fal (c (P + 3) a1) (tb (c s 30) a1) 0 (c s (4 * a2))) + (fal (c (P + 3) a1) (tb (c s 30) a1) 1 (c s (4 * a2 + 1))) + (fal (c (P + 3) a1) (tb (c s 30) a1) 2 (c s (4 * a2 + 2))) + (fal (c (P + 3) a1) (tb (c s 30) a1) 3 (c s (4 * a2 + 3))) + c s (4 * a3 + 1) + c s (4 * a3 + 2) + c s (4 * a3 + 3) + c s (4 * a3) > 9999
          · refine v_ic_gt_t (t := 17) rfl (by decide) (by omega) ?_
            refine q_iconst rfl ?_
            refine v_zret rfl rfl (by omega) ?_
            refine bk_inl ?_
            refine v_if_eq_t (t := 63) rfl (by decide) (by decide) ?_
            refine q_iconst rfl ?_
            refine v_zret rfl rfl (by omega) ?_
            have hr_105 : ∀ j : Int, rs s j → c s j + c s (j + 1) + c s (j + 2) + c s (j + 3) ≤ 9999 := by
              intro j9 hj9
              obtain ⟨k9, rfl, hk9⟩ := rs_s hs hj9
              by_cases e_106 : k9 = a2
              · skip
                have h_107 : c s (4 * k9) = c s (4 * a2) := (congrArg (c s) (show 4 * k9 = 4 * a2 from by omega))
                have h_108 : c s (4 * k9 + 1) = c s (4 * a2 + 1) := (congrArg (c s) (show 4 * k9 + 1 = 4 * a2 + 1 from by omega))
                have h_109 : c s (4 * k9 + 2) = c s (4 * a2 + 2) := (congrArg (c s) (show 4 * k9 + 2 = 4 * a2 + 2 from by omega))
                have h_110 : c s (4 * k9 + 3) = c s (4 * a2 + 3) := (congrArg (c s) (show 4 * k9 + 3 = 4 * a2 + 3 from by omega))
                omega
              by_cases e_111 : k9 = a3
              · skip
                have h_112 : c s (4 * k9) = c s (4 * a3) := (congrArg (c s) (show 4 * k9 = 4 * a3 from by omega))
                have h_113 : c s (4 * k9 + 1) = c s (4 * a3 + 1) := (congrArg (c s) (show 4 * k9 + 1 = 4 * a3 + 1 from by omega))
                have h_114 : c s (4 * k9 + 2) = c s (4 * a3 + 2) := (congrArg (c s) (show 4 * k9 + 2 = 4 * a3 + 2 from by omega))
                have h_115 : c s (4 * k9 + 3) = c s (4 * a3 + 3) := (congrArg (c s) (show 4 * k9 + 3 = 4 * a3 + 3 from by omega))
                omega
              by_cases e_116 : k9 = a4
              · skip
                have h_117 : c s (4 * k9) = c s (4 * a4) := (congrArg (c s) (show 4 * k9 = 4 * a4 from by omega))
                have h_118 : c s (4 * k9 + 1) = c s (4 * a4 + 1) := (congrArg (c s) (show 4 * k9 + 1 = 4 * a4 + 1 from by omega))
                have h_119 : c s (4 * k9 + 2) = c s (4 * a4 + 2) := (congrArg (c s) (show 4 * k9 + 2 = 4 * a4 + 2 from by omega))
                have h_120 : c s (4 * k9 + 3) = c s (4 * a4 + 3) := (congrArg (c s) (show 4 * k9 + 3 = 4 * a4 + 3 from by omega))
                omega
              have h_121 := iv_r hI s (4 * k9) hj9 (by omega)
              have h_122 := ir_s_g hI hs (j := 4 * k9) (by omega)
              have h_123 : c s (4 * k9) = c s (4 * k9) := rfl
              have h_124 := ir_s_g hI hs (j := 4 * k9 + 1) (by omega)
              have h_125 : c s (4 * k9 + 1) = c s (4 * k9 + 1) := rfl
              have h_126 := ir_s_g hI hs (j := 4 * k9 + 2) (by omega)
              have h_127 : c s (4 * k9 + 2) = c s (4 * k9 + 2) := rfl
              have h_128 := ir_s_g hI hs (j := 4 * k9 + 3) (by omega)
              have h_129 : c s (4 * k9 + 3) = c s (4 * k9 + 3) := rfl
              omega
            have hI_130 := iv_close hIo hr_105
            exact K c 0 hI_130 (fun a j hm => rfl) ⟨by decide, by decide⟩
          · refine v_ic_gt_f (t := 17) rfl (by decide) (by omega) ?_
            refine q_iconst rfl ?_
            refine q_goto (t := 18) rfl (by decide) ?_
            refine v_zret rfl rfl (by omega) ?_
            refine bk_inl ?_
            refine v_if_eq_f (t := 63) rfl (by decide) (by decide) ?_
            refine q_aload_n rfl rfl ?_
            refine q_iload rfl rfl ?_
            refine q_iload rfl rfl ?_
            refine q_iload rfl rfl ?_
            refine v_isub (v := c s (4 * a2 + 1) + c s (4 * a2 + 2) + c s (4 * a2 + 3) + c s (4 * a2) - (fal (c (P + 3) a1) (tb (c s 30) a1) 0 (c s (4 * a2))) - (fal (c (P + 3) a1) (tb (c s 30) a1) 1 (c s (4 * a2 + 1))) - (fal (c (P + 3) a1) (tb (c s 30) a1) 2 (c s (4 * a2 + 2))) - (fal (c (P + 3) a1) (tb (c s 30) a1) 3 (c s (4 * a2 + 3)))) rfl (by omega) ?_
            refine v_cv rfl rfl rfl (ck_sh hs) (by omega) ⟨⟨rfl, rfl⟩, by decide, rfl⟩ (Nat.le_of_ble_eq_true rfl) (Nat.le_of_ble_eq_true rfl) ?_
            refine q_aload_n rfl rfl ?_
            refine q_iload_n rfl rfl ?_
            refine v_cv rfl rfl rfl (ck_sh hs) (by omega) ⟨⟨rfl, rfl⟩, by decide, rfl⟩ (Nat.le_of_ble_eq_true rfl) (Nat.le_of_ble_eq_true rfl) (s_43 (v1 := c s (4 * a4)) (v2 := c s (4 * a4 + 1)) (v3 := c s (4 * a4 + 2)) (v4 := c s (4 * a4 + 3)) (r := c s (4 * a4 + 1) + c s (4 * a4 + 2) + c s (4 * a4 + 3) + c s (4 * a4)) (a1 := a4) hIo hs (show 0 ≤ a4 ∧ a4 ≤ 5 from by omega) (rfl) (rfl) (rfl) (rfl) (by omega) ?_)
            refine bk_inl ?_
            refine q_iload_n rfl rfl ?_
            refine v_iadd (v := c s (4 * a2 + 1) + c s (4 * a2 + 2) + c s (4 * a2 + 3) + c s (4 * a2) + c s (4 * a4 + 1) + c s (4 * a4 + 2) + c s (4 * a4 + 3) + c s (4 * a4) - (fal (c (P + 3) a1) (tb (c s 30) a1) 0 (c s (4 * a2))) - (fal (c (P + 3) a1) (tb (c s 30) a1) 1 (c s (4 * a2 + 1))) - (fal (c (P + 3) a1) (tb (c s 30) a1) 2 (c s (4 * a2 + 2))) - (fal (c (P + 3) a1) (tb (c s 30) a1) 3 (c s (4 * a2 + 3)))) rfl (by omega) ?_
            refine v_sip rfl (by decide) ?_
            by_cases h_131 : c s (4 * a2 + 1) + c s (4 * a2 + 2) + c s (4 * a2 + 3) + c s (4 * a2) + c s (4 * a4 + 1) + c s (4 * a4 + 2) + c s (4 * a4 + 3) + c s (4 * a4) - (fal (c (P + 3) a1) (tb (c s 30) a1) 0 (c s (4 * a2))) - (fal (c (P + 3) a1) (tb (c s 30) a1) 1 (c s (4 * a2 + 1))) - (fal (c (P + 3) a1) (tb (c s 30) a1) 2 (c s (4 * a2 + 2))) - (fal (c (P + 3) a1) (tb (c s 30) a1) 3 (c s (4 * a2 + 3))) > 9999
            · refine v_ic_gt_t (t := 17) rfl (by decide) (by omega) ?_
              refine q_iconst rfl ?_
              refine v_zret rfl rfl (by omega) ?_
              refine bk_inl ?_
              refine v_if_ne_f (t := 65) rfl (by decide) (by decide) ?_
              refine q_iconst rfl ?_
              refine v_zret rfl rfl (by omega) ?_
              have hr_132 : ∀ j : Int, rs s j → c s j + c s (j + 1) + c s (j + 2) + c s (j + 3) ≤ 9999 := by
                intro j9 hj9
                obtain ⟨k9, rfl, hk9⟩ := rs_s hs hj9
                by_cases e_133 : k9 = a2
                · skip
                  have h_134 : c s (4 * k9) = c s (4 * a2) := (congrArg (c s) (show 4 * k9 = 4 * a2 from by omega))
                  have h_135 : c s (4 * k9 + 1) = c s (4 * a2 + 1) := (congrArg (c s) (show 4 * k9 + 1 = 4 * a2 + 1 from by omega))
                  have h_136 : c s (4 * k9 + 2) = c s (4 * a2 + 2) := (congrArg (c s) (show 4 * k9 + 2 = 4 * a2 + 2 from by omega))
                  have h_137 : c s (4 * k9 + 3) = c s (4 * a2 + 3) := (congrArg (c s) (show 4 * k9 + 3 = 4 * a2 + 3 from by omega))
                  omega
                by_cases e_138 : k9 = a3
                · skip
                  have h_139 : c s (4 * k9) = c s (4 * a3) := (congrArg (c s) (show 4 * k9 = 4 * a3 from by omega))
                  have h_140 : c s (4 * k9 + 1) = c s (4 * a3 + 1) := (congrArg (c s) (show 4 * k9 + 1 = 4 * a3 + 1 from by omega))
                  have h_141 : c s (4 * k9 + 2) = c s (4 * a3 + 2) := (congrArg (c s) (show 4 * k9 + 2 = 4 * a3 + 2 from by omega))
                  have h_142 : c s (4 * k9 + 3) = c s (4 * a3 + 3) := (congrArg (c s) (show 4 * k9 + 3 = 4 * a3 + 3 from by omega))
                  omega
                by_cases e_143 : k9 = a4
                · skip
                  have h_144 : c s (4 * k9) = c s (4 * a4) := (congrArg (c s) (show 4 * k9 = 4 * a4 from by omega))
                  have h_145 : c s (4 * k9 + 1) = c s (4 * a4 + 1) := (congrArg (c s) (show 4 * k9 + 1 = 4 * a4 + 1 from by omega))
                  have h_146 : c s (4 * k9 + 2) = c s (4 * a4 + 2) := (congrArg (c s) (show 4 * k9 + 2 = 4 * a4 + 2 from by omega))
                  have h_147 : c s (4 * k9 + 3) = c s (4 * a4 + 3) := (congrArg (c s) (show 4 * k9 + 3 = 4 * a4 + 3 from by omega))
                  omega
                have h_148 := iv_r hI s (4 * k9) hj9 (by omega)
                have h_149 := ir_s_g hI hs (j := 4 * k9) (by omega)
                have h_150 : c s (4 * k9) = c s (4 * k9) := rfl
                have h_151 := ir_s_g hI hs (j := 4 * k9 + 1) (by omega)
                have h_152 : c s (4 * k9 + 1) = c s (4 * k9 + 1) := rfl
                have h_153 := ir_s_g hI hs (j := 4 * k9 + 2) (by omega)
                have h_154 : c s (4 * k9 + 2) = c s (4 * k9 + 2) := rfl
                have h_155 := ir_s_g hI hs (j := 4 * k9 + 3) (by omega)
                have h_156 : c s (4 * k9 + 3) = c s (4 * k9 + 3) := rfl
                omega
              have hI_157 := iv_close hIo hr_132
              exact K c 0 hI_157 (fun a j hm => rfl) ⟨by decide, by decide⟩
            · refine v_ic_gt_f (t := 17) rfl (by decide) (by omega) ?_
              refine q_iconst rfl ?_
              refine q_goto (t := 18) rfl (by decide) ?_
              refine v_zret rfl rfl (by omega) ?_
              refine bk_inl ?_
              refine v_if_ne_t (t := 65) rfl (by decide) (by decide) ?_
              refine q_iconst rfl ?_
              refine q_istore rfl (by decide) ?_
              refine q_iload rfl rfl ?_
              refine q_iconst rfl ?_
              refine v_ic_ge_f (t := 116) rfl (by decide) (by decide) ?_
              refine q_aload_n rfl rfl ?_
              refine q_iload_n rfl rfl ?_
              refine q_iload_n rfl rfl ?_
              refine q_iload rfl rfl ?_
              refine v_cv rfl rfl rfl (ck_sh hs) (by omega) ⟨⟨rfl, rfl⟩, by decide, rfl⟩ (Nat.le_of_ble_eq_true rfl) (Nat.le_of_ble_eq_true rfl) (s_48 (v1 := c (P + 3) a1) (v2 := c s 30) (v3 := c s (4 * a2)) (r := (fal (c (P + 3) a1) (tb (c s 30) a1) 0 (c s (4 * a2)))) (a1 := a1) (a2 := a2) (a3 := 0) hIo hs (show 0 ≤ a1 ∧ a1 ≤ 3 from by omega) (show 0 ≤ a2 ∧ a2 ≤ 5 from by omega) (show 0 ≤ 0 ∧ 0 ≤ 3 from by omega) (rfl) (rfl) ((congrArg (c s) (show 4 * a2 + 0 = 4 * a2 from by omega))) rfl ?_)
              refine bk_inl ?_
              refine q_istore rfl (by decide) ?_
              refine q_aload_n rfl rfl ?_
              refine q_iload_n rfl rfl ?_
              refine q_iload_n rfl rfl ?_
              refine q_iload rfl rfl ?_
              refine q_iload rfl rfl ?_
              refine v_cv rfl rfl rfl (ck_sh hs) (by omega) ⟨⟨rfl, rfl⟩, by decide, rfl⟩ (Nat.le_of_ble_eq_true rfl) (Nat.le_of_ble_eq_true rfl) (s_52 (a1 := a2) (a2 := a3) (a3 := 0) (a4 := (fal (c (P + 3) a1) (tb (c s 30) a1) 0 (c s (4 * a2)))) hIo hs (show 0 ≤ a2 ∧ a2 ≤ 5 from by omega) (show 0 ≤ a3 ∧ a3 ≤ 5 from by omega) (show 0 ≤ 0 ∧ 0 ≤ 3 from by omega) (show 0 ≤ (fal (c (P + 3) a1) (tb (c s 30) a1) 0 (c s (4 * a2))) ∧ (fal (c (P + 3) a1) (tb (c s 30) a1) 0 (c s (4 * a2))) ≤ 9999 from by omega) (by omega) (by omega) (by omega) (fun c_158 hI_159 hF_160 h_161 => ?_))
              refine bk_inl ?_
              have h_162 : c_158 s (4 * a2 + 0) = c_158 s (4 * a2) := congrArg (c_158 s) (by omega)
              have h_163 := ir_s_g hI_159 hs (j := 4 * a2) (by omega)
              have h_164 : c_158 s (4 * a3 + 0) = c_158 s (4 * a3) := congrArg (c_158 s) (by omega)
              have h_165 := ir_s_g hI_159 hs (j := 4 * a3) (by omega)
              refine q_aload_n rfl rfl ?_
              refine q_iload_n rfl rfl ?_
              refine q_iload rfl rfl ?_
              refine q_iload rfl rfl ?_
              refine q_aload_n rfl rfl ?_
              refine q_iload_n rfl rfl ?_
              refine q_iload rfl rfl ?_
              refine v_cv rfl rfl rfl (ck_sh hs) (by omega) ⟨⟨rfl, rfl⟩, by decide, rfl⟩ (Nat.le_of_ble_eq_true rfl) (Nat.le_of_ble_eq_true rfl) (s_45 (v1 := c_158 s (4 * a2)) (r := c_158 s (4 * a2)) (a1 := a2) (a2 := 0) hI_159 hs (show 0 ≤ a2 ∧ a2 ≤ 5 from by omega) (show 0 ≤ 0 ∧ 0 ≤ 3 from by omega) ((congrArg (c_158 s) (show 4 * a2 + 0 = 4 * a2 from by omega))) (by omega) ?_)
              refine bk_inl ?_
              have h_166 : c_158 s (4 * a4) = c s (4 * a4) := (hF_160 s (4 * a4) (by omega))
              refine v_cv rfl rfl rfl (ck_sh hs) (by omega) ⟨⟨rfl, rfl⟩, by decide, rfl⟩ (Nat.le_of_ble_eq_true rfl) (Nat.le_of_ble_eq_true rfl) (s_52 (a1 := a2) (a2 := a4) (a3 := 0) (a4 := c_158 s (4 * a2)) hI_159 hs (show 0 ≤ a2 ∧ a2 ≤ 5 from by omega) (show 0 ≤ a4 ∧ a4 ≤ 5 from by omega) (show 0 ≤ 0 ∧ 0 ≤ 3 from by omega) (show 0 ≤ c_158 s (4 * a2) ∧ c_158 s (4 * a2) ≤ 9999 from by omega) (by omega) (by omega) (by omega) (fun c_167 hI_168 hF_169 h_170 => ?_))
              refine bk_inl ?_
              have h_171 : c_167 s (4 * a2 + 0) = c_167 s (4 * a2) := congrArg (c_167 s) (by omega)
              have h_172 := ir_s_g hI_168 hs (j := 4 * a2) (by omega)
              have h_173 : c_167 s (4 * a4 + 0) = c_167 s (4 * a4) := congrArg (c_167 s) (by omega)
              have h_174 := ir_s_g hI_168 hs (j := 4 * a4) (by omega)
              refine v_iinc (v := 1) rfl rfl (by decide) (by decide) ?_
              refine Wp_ls [(7, vi 1), (8, vi (fal (c (P + 3) a1) (tb (c s 30) a1) 0 (c s (4 * a2)))), (6, vi ((fal (c (P + 3) a1) (tb (c s 30) a1) 0 (c s (4 * a2))) + (fal (c (P + 3) a1) (tb (c s 30) a1) 1 (c s (4 * a2 + 1))) + (fal (c (P + 3) a1) (tb (c s 30) a1) 2 (c s (4 * a2 + 2))) + (fal (c (P + 3) a1) (tb (c s 30) a1) 3 (c s (4 * a2 + 3))))), (5, vi (c s (4 * a2 + 1) + c s (4 * a2 + 2) + c s (4 * a2 + 3) + c s (4 * a2))), (0, .ref sh), (1, vi a1), (2, vi a2), (3, vi a3), (4, vi a4)] (lsub_cons rfl (lsub_cons rfl (lsub_cons rfl (lsub_cons rfl (lsub_cons rfl (lsub_cons rfl (lsub_cons rfl (lsub_cons rfl (lsub_cons rfl lsub_nil))))))))) ?_
              refine q_goto (t := 68) rfl (by decide) ?_
              refine q_iload rfl rfl ?_
              refine q_iconst rfl ?_
              refine v_ic_ge_f (t := 116) rfl (by decide) (by decide) ?_
              refine q_aload_n rfl rfl ?_
              refine q_iload_n rfl rfl ?_
              refine q_iload_n rfl rfl ?_
              refine q_iload rfl rfl ?_
              refine v_cv rfl rfl rfl (ck_sh hs) (by omega) ⟨⟨rfl, rfl⟩, by decide, rfl⟩ (Nat.le_of_ble_eq_true rfl) (Nat.le_of_ble_eq_true rfl) (s_48 (v1 := c (P + 3) a1) (v2 := c s 30) (v3 := c s (4 * a2 + 1)) (r := (fal (c (P + 3) a1) (tb (c s 30) a1) 1 (c s (4 * a2 + 1)))) (a1 := a1) (a2 := a2) (a3 := 1) hI_168 hs (show 0 ≤ a1 ∧ a1 ≤ 3 from by omega) (show 0 ≤ a2 ∧ a2 ≤ 5 from by omega) (show 0 ≤ 1 ∧ 1 ≤ 3 from by omega) (((hF_169 (P + 3) a1 (by omega)).trans (hF_160 (P + 3) a1 (by omega)))) (((hF_169 s 30 (by omega)).trans (hF_160 s 30 (by omega)))) (((hF_169 s (4 * a2 + 1) (by omega)).trans (hF_160 s (4 * a2 + 1) (by omega)))) rfl ?_)
              refine bk_inl ?_
              refine q_istore rfl (by decide) ?_
              refine q_aload_n rfl rfl ?_
              refine q_iload_n rfl rfl ?_
              refine q_iload_n rfl rfl ?_
              refine q_iload rfl rfl ?_
              refine q_iload rfl rfl ?_
              have h_175 : c_167 s (4 * a2 + 1) = c s (4 * a2 + 1) := ((hF_169 s (4 * a2 + 1) (by omega)).trans (hF_160 s (4 * a2 + 1) (by omega)))
              have h_176 : c_167 s (4 * a3 + 1) = c s (4 * a3 + 1) := ((hF_169 s (4 * a3 + 1) (by omega)).trans (hF_160 s (4 * a3 + 1) (by omega)))
              refine v_cv rfl rfl rfl (ck_sh hs) (by omega) ⟨⟨rfl, rfl⟩, by decide, rfl⟩ (Nat.le_of_ble_eq_true rfl) (Nat.le_of_ble_eq_true rfl) (s_52 (a1 := a2) (a2 := a3) (a3 := 1) (a4 := (fal (c (P + 3) a1) (tb (c s 30) a1) 1 (c s (4 * a2 + 1)))) hI_168 hs (show 0 ≤ a2 ∧ a2 ≤ 5 from by omega) (show 0 ≤ a3 ∧ a3 ≤ 5 from by omega) (show 0 ≤ 1 ∧ 1 ≤ 3 from by omega) (show 0 ≤ (fal (c (P + 3) a1) (tb (c s 30) a1) 1 (c s (4 * a2 + 1))) ∧ (fal (c (P + 3) a1) (tb (c s 30) a1) 1 (c s (4 * a2 + 1))) ≤ 9999 from by omega) (by omega) (by omega) (by omega) (fun c_177 hI_178 hF_179 h_180 => ?_))
              refine bk_inl ?_
              have h_181 := ir_s_g hI_178 hs (j := 4 * a2 + 1) (by omega)
              have h_182 := ir_s_g hI_178 hs (j := 4 * a3 + 1) (by omega)
              refine q_aload_n rfl rfl ?_
              refine q_iload_n rfl rfl ?_
              refine q_iload rfl rfl ?_
              refine q_iload rfl rfl ?_
              refine q_aload_n rfl rfl ?_
              refine q_iload_n rfl rfl ?_
              refine q_iload rfl rfl ?_
              refine v_cv rfl rfl rfl (ck_sh hs) (by omega) ⟨⟨rfl, rfl⟩, by decide, rfl⟩ (Nat.le_of_ble_eq_true rfl) (Nat.le_of_ble_eq_true rfl) (s_45 (v1 := c_177 s (4 * a2 + 1)) (r := c_177 s (4 * a2 + 1)) (a1 := a2) (a2 := 1) hI_178 hs (show 0 ≤ a2 ∧ a2 ≤ 5 from by omega) (show 0 ≤ 1 ∧ 1 ≤ 3 from by omega) (rfl) (by omega) ?_)
              refine bk_inl ?_
              have h_183 : c_177 s (4 * a4 + 1) = c s (4 * a4 + 1) := ((hF_179 s (4 * a4 + 1) (by omega)).trans ((hF_169 s (4 * a4 + 1) (by omega)).trans (hF_160 s (4 * a4 + 1) (by omega))))
              refine v_cv rfl rfl rfl (ck_sh hs) (by omega) ⟨⟨rfl, rfl⟩, by decide, rfl⟩ (Nat.le_of_ble_eq_true rfl) (Nat.le_of_ble_eq_true rfl) (s_52 (a1 := a2) (a2 := a4) (a3 := 1) (a4 := c_177 s (4 * a2 + 1)) hI_178 hs (show 0 ≤ a2 ∧ a2 ≤ 5 from by omega) (show 0 ≤ a4 ∧ a4 ≤ 5 from by omega) (show 0 ≤ 1 ∧ 1 ≤ 3 from by omega) (show 0 ≤ c_177 s (4 * a2 + 1) ∧ c_177 s (4 * a2 + 1) ≤ 9999 from by omega) (by omega) (by omega) (by omega) (fun c_184 hI_185 hF_186 h_187 => ?_))
              refine bk_inl ?_
              have h_188 := ir_s_g hI_185 hs (j := 4 * a2 + 1) (by omega)
              have h_189 := ir_s_g hI_185 hs (j := 4 * a4 + 1) (by omega)
              refine v_iinc (v := 2) rfl rfl (by decide) (by decide) ?_
              refine q_goto (t := 68) rfl (by decide) ?_
              refine q_iload rfl rfl ?_
              refine q_iconst rfl ?_
              refine v_ic_ge_f (t := 116) rfl (by decide) (by decide) ?_
              refine q_aload_n rfl rfl ?_
              refine q_iload_n rfl rfl ?_
              refine q_iload_n rfl rfl ?_
              refine q_iload rfl rfl ?_
              refine v_cv rfl rfl rfl (ck_sh hs) (by omega) ⟨⟨rfl, rfl⟩, by decide, rfl⟩ (Nat.le_of_ble_eq_true rfl) (Nat.le_of_ble_eq_true rfl) (s_48 (v1 := c (P + 3) a1) (v2 := c s 30) (v3 := c s (4 * a2 + 2)) (r := (fal (c (P + 3) a1) (tb (c s 30) a1) 2 (c s (4 * a2 + 2)))) (a1 := a1) (a2 := a2) (a3 := 2) hI_185 hs (show 0 ≤ a1 ∧ a1 ≤ 3 from by omega) (show 0 ≤ a2 ∧ a2 ≤ 5 from by omega) (show 0 ≤ 2 ∧ 2 ≤ 3 from by omega) (((hF_186 (P + 3) a1 (by omega)).trans ((hF_179 (P + 3) a1 (by omega)).trans ((hF_169 (P + 3) a1 (by omega)).trans (hF_160 (P + 3) a1 (by omega)))))) (((hF_186 s 30 (by omega)).trans ((hF_179 s 30 (by omega)).trans ((hF_169 s 30 (by omega)).trans (hF_160 s 30 (by omega)))))) (((hF_186 s (4 * a2 + 2) (by omega)).trans ((hF_179 s (4 * a2 + 2) (by omega)).trans ((hF_169 s (4 * a2 + 2) (by omega)).trans (hF_160 s (4 * a2 + 2) (by omega)))))) rfl ?_)
              refine bk_inl ?_
              refine q_istore rfl (by decide) ?_
              refine q_aload_n rfl rfl ?_
              refine q_iload_n rfl rfl ?_
              refine q_iload_n rfl rfl ?_
              refine q_iload rfl rfl ?_
              refine q_iload rfl rfl ?_
              have h_190 : c_184 s (4 * a2 + 2) = c s (4 * a2 + 2) := ((hF_186 s (4 * a2 + 2) (by omega)).trans ((hF_179 s (4 * a2 + 2) (by omega)).trans ((hF_169 s (4 * a2 + 2) (by omega)).trans (hF_160 s (4 * a2 + 2) (by omega)))))
              have h_191 : c_184 s (4 * a3 + 2) = c s (4 * a3 + 2) := ((hF_186 s (4 * a3 + 2) (by omega)).trans ((hF_179 s (4 * a3 + 2) (by omega)).trans ((hF_169 s (4 * a3 + 2) (by omega)).trans (hF_160 s (4 * a3 + 2) (by omega)))))
              refine v_cv rfl rfl rfl (ck_sh hs) (by omega) ⟨⟨rfl, rfl⟩, by decide, rfl⟩ (Nat.le_of_ble_eq_true rfl) (Nat.le_of_ble_eq_true rfl) (s_52 (a1 := a2) (a2 := a3) (a3 := 2) (a4 := (fal (c (P + 3) a1) (tb (c s 30) a1) 2 (c s (4 * a2 + 2)))) hI_185 hs (show 0 ≤ a2 ∧ a2 ≤ 5 from by omega) (show 0 ≤ a3 ∧ a3 ≤ 5 from by omega) (show 0 ≤ 2 ∧ 2 ≤ 3 from by omega) (show 0 ≤ (fal (c (P + 3) a1) (tb (c s 30) a1) 2 (c s (4 * a2 + 2))) ∧ (fal (c (P + 3) a1) (tb (c s 30) a1) 2 (c s (4 * a2 + 2))) ≤ 9999 from by omega) (by omega) (by omega) (by omega) (fun c_192 hI_193 hF_194 h_195 => ?_))
              refine bk_inl ?_
              have h_196 := ir_s_g hI_193 hs (j := 4 * a2 + 2) (by omega)
              have h_197 := ir_s_g hI_193 hs (j := 4 * a3 + 2) (by omega)
              refine q_aload_n rfl rfl ?_
              refine q_iload_n rfl rfl ?_
              refine q_iload rfl rfl ?_
              refine q_iload rfl rfl ?_
              refine q_aload_n rfl rfl ?_
              refine q_iload_n rfl rfl ?_
              refine q_iload rfl rfl ?_
              refine v_cv rfl rfl rfl (ck_sh hs) (by omega) ⟨⟨rfl, rfl⟩, by decide, rfl⟩ (Nat.le_of_ble_eq_true rfl) (Nat.le_of_ble_eq_true rfl) (s_45 (v1 := c_192 s (4 * a2 + 2)) (r := c_192 s (4 * a2 + 2)) (a1 := a2) (a2 := 2) hI_193 hs (show 0 ≤ a2 ∧ a2 ≤ 5 from by omega) (show 0 ≤ 2 ∧ 2 ≤ 3 from by omega) (rfl) (by omega) ?_)
              refine bk_inl ?_
              have h_198 : c_192 s (4 * a4 + 2) = c s (4 * a4 + 2) := ((hF_194 s (4 * a4 + 2) (by omega)).trans ((hF_186 s (4 * a4 + 2) (by omega)).trans ((hF_179 s (4 * a4 + 2) (by omega)).trans ((hF_169 s (4 * a4 + 2) (by omega)).trans (hF_160 s (4 * a4 + 2) (by omega))))))
              refine v_cv rfl rfl rfl (ck_sh hs) (by omega) ⟨⟨rfl, rfl⟩, by decide, rfl⟩ (Nat.le_of_ble_eq_true rfl) (Nat.le_of_ble_eq_true rfl) (s_52 (a1 := a2) (a2 := a4) (a3 := 2) (a4 := c_192 s (4 * a2 + 2)) hI_193 hs (show 0 ≤ a2 ∧ a2 ≤ 5 from by omega) (show 0 ≤ a4 ∧ a4 ≤ 5 from by omega) (show 0 ≤ 2 ∧ 2 ≤ 3 from by omega) (show 0 ≤ c_192 s (4 * a2 + 2) ∧ c_192 s (4 * a2 + 2) ≤ 9999 from by omega) (by omega) (by omega) (by omega) (fun c_199 hI_200 hF_201 h_202 => ?_))
              refine bk_inl ?_
              have h_203 := ir_s_g hI_200 hs (j := 4 * a2 + 2) (by omega)
              have h_204 := ir_s_g hI_200 hs (j := 4 * a4 + 2) (by omega)
              refine v_iinc (v := 3) rfl rfl (by decide) (by decide) ?_
              refine q_goto (t := 68) rfl (by decide) ?_
              refine q_iload rfl rfl ?_
              refine q_iconst rfl ?_
              refine v_ic_ge_f (t := 116) rfl (by decide) (by decide) ?_
              refine q_aload_n rfl rfl ?_
              refine q_iload_n rfl rfl ?_
              refine q_iload_n rfl rfl ?_
              refine q_iload rfl rfl ?_
              refine v_cv rfl rfl rfl (ck_sh hs) (by omega) ⟨⟨rfl, rfl⟩, by decide, rfl⟩ (Nat.le_of_ble_eq_true rfl) (Nat.le_of_ble_eq_true rfl) (s_48 (v1 := c (P + 3) a1) (v2 := c s 30) (v3 := c s (4 * a2 + 3)) (r := (fal (c (P + 3) a1) (tb (c s 30) a1) 3 (c s (4 * a2 + 3)))) (a1 := a1) (a2 := a2) (a3 := 3) hI_200 hs (show 0 ≤ a1 ∧ a1 ≤ 3 from by omega) (show 0 ≤ a2 ∧ a2 ≤ 5 from by omega) (show 0 ≤ 3 ∧ 3 ≤ 3 from by omega) (((hF_201 (P + 3) a1 (by omega)).trans ((hF_194 (P + 3) a1 (by omega)).trans ((hF_186 (P + 3) a1 (by omega)).trans ((hF_179 (P + 3) a1 (by omega)).trans ((hF_169 (P + 3) a1 (by omega)).trans (hF_160 (P + 3) a1 (by omega)))))))) (((hF_201 s 30 (by omega)).trans ((hF_194 s 30 (by omega)).trans ((hF_186 s 30 (by omega)).trans ((hF_179 s 30 (by omega)).trans ((hF_169 s 30 (by omega)).trans (hF_160 s 30 (by omega)))))))) (((hF_201 s (4 * a2 + 3) (by omega)).trans ((hF_194 s (4 * a2 + 3) (by omega)).trans ((hF_186 s (4 * a2 + 3) (by omega)).trans ((hF_179 s (4 * a2 + 3) (by omega)).trans ((hF_169 s (4 * a2 + 3) (by omega)).trans (hF_160 s (4 * a2 + 3) (by omega)))))))) rfl ?_)
              refine bk_inl ?_
              refine q_istore rfl (by decide) ?_
              refine Wp_ls [(8, vi (fal (c (P + 3) a1) (tb (c s 30) a1) 3 (c s (4 * a2 + 3)))), (7, vi 3), (6, vi ((fal (c (P + 3) a1) (tb (c s 30) a1) 0 (c s (4 * a2))) + (fal (c (P + 3) a1) (tb (c s 30) a1) 1 (c s (4 * a2 + 1))) + (fal (c (P + 3) a1) (tb (c s 30) a1) 2 (c s (4 * a2 + 2))) + (fal (c (P + 3) a1) (tb (c s 30) a1) 3 (c s (4 * a2 + 3))))), (5, vi (c s (4 * a2 + 1) + c s (4 * a2 + 2) + c s (4 * a2 + 3) + c s (4 * a2))), (0, .ref sh), (1, vi a1), (2, vi a2), (3, vi a3), (4, vi a4)] (lsub_cons rfl (lsub_cons rfl (lsub_cons rfl (lsub_cons rfl (lsub_cons rfl (lsub_cons rfl (lsub_cons rfl (lsub_cons rfl (lsub_cons rfl lsub_nil))))))))) ?_
              refine q_aload_n rfl rfl ?_
              refine q_iload_n rfl rfl ?_
              refine q_iload_n rfl rfl ?_
              refine q_iload rfl rfl ?_
              refine q_iload rfl rfl ?_
              have h_205 : c_199 s (4 * a2 + 3) = c s (4 * a2 + 3) := ((hF_201 s (4 * a2 + 3) (by omega)).trans ((hF_194 s (4 * a2 + 3) (by omega)).trans ((hF_186 s (4 * a2 + 3) (by omega)).trans ((hF_179 s (4 * a2 + 3) (by omega)).trans ((hF_169 s (4 * a2 + 3) (by omega)).trans (hF_160 s (4 * a2 + 3) (by omega)))))))
              have h_206 : c_199 s (4 * a3 + 3) = c s (4 * a3 + 3) := ((hF_201 s (4 * a3 + 3) (by omega)).trans ((hF_194 s (4 * a3 + 3) (by omega)).trans ((hF_186 s (4 * a3 + 3) (by omega)).trans ((hF_179 s (4 * a3 + 3) (by omega)).trans ((hF_169 s (4 * a3 + 3) (by omega)).trans (hF_160 s (4 * a3 + 3) (by omega)))))))
              refine v_cv rfl rfl rfl (ck_sh hs) (by omega) ⟨⟨rfl, rfl⟩, by decide, rfl⟩ (Nat.le_of_ble_eq_true rfl) (Nat.le_of_ble_eq_true rfl) (s_52 (a1 := a2) (a2 := a3) (a3 := 3) (a4 := (fal (c (P + 3) a1) (tb (c s 30) a1) 3 (c s (4 * a2 + 3)))) hI_200 hs (show 0 ≤ a2 ∧ a2 ≤ 5 from by omega) (show 0 ≤ a3 ∧ a3 ≤ 5 from by omega) (show 0 ≤ 3 ∧ 3 ≤ 3 from by omega) (show 0 ≤ (fal (c (P + 3) a1) (tb (c s 30) a1) 3 (c s (4 * a2 + 3))) ∧ (fal (c (P + 3) a1) (tb (c s 30) a1) 3 (c s (4 * a2 + 3))) ≤ 9999 from by omega) (by omega) (by omega) (by omega) (fun c_207 hI_208 hF_209 h_210 => ?_))
              refine bk_inl ?_
              have h_211 := ir_s_g hI_208 hs (j := 4 * a2 + 3) (by omega)
              have h_212 := ir_s_g hI_208 hs (j := 4 * a3 + 3) (by omega)
              refine q_aload_n rfl rfl ?_
              refine q_iload_n rfl rfl ?_
              refine q_iload rfl rfl ?_
              refine q_iload rfl rfl ?_
              refine q_aload_n rfl rfl ?_
              refine q_iload_n rfl rfl ?_
              refine q_iload rfl rfl ?_
              refine v_cv rfl rfl rfl (ck_sh hs) (by omega) ⟨⟨rfl, rfl⟩, by decide, rfl⟩ (Nat.le_of_ble_eq_true rfl) (Nat.le_of_ble_eq_true rfl) (s_45 (v1 := c_207 s (4 * a2 + 3)) (r := c_207 s (4 * a2 + 3)) (a1 := a2) (a2 := 3) hI_208 hs (show 0 ≤ a2 ∧ a2 ≤ 5 from by omega) (show 0 ≤ 3 ∧ 3 ≤ 3 from by omega) (rfl) (by omega) ?_)
              refine bk_inl ?_
              have h_213 : c_207 s (4 * a4 + 3) = c s (4 * a4 + 3) := ((hF_209 s (4 * a4 + 3) (by omega)).trans ((hF_201 s (4 * a4 + 3) (by omega)).trans ((hF_194 s (4 * a4 + 3) (by omega)).trans ((hF_186 s (4 * a4 + 3) (by omega)).trans ((hF_179 s (4 * a4 + 3) (by omega)).trans ((hF_169 s (4 * a4 + 3) (by omega)).trans (hF_160 s (4 * a4 + 3) (by omega))))))))
              refine v_cv rfl rfl rfl (ck_sh hs) (by omega) ⟨⟨rfl, rfl⟩, by decide, rfl⟩ (Nat.le_of_ble_eq_true rfl) (Nat.le_of_ble_eq_true rfl) (s_52 (a1 := a2) (a2 := a4) (a3 := 3) (a4 := c_207 s (4 * a2 + 3)) hI_208 hs (show 0 ≤ a2 ∧ a2 ≤ 5 from by omega) (show 0 ≤ a4 ∧ a4 ≤ 5 from by omega) (show 0 ≤ 3 ∧ 3 ≤ 3 from by omega) (show 0 ≤ c_207 s (4 * a2 + 3) ∧ c_207 s (4 * a2 + 3) ≤ 9999 from by omega) (by omega) (by omega) (by omega) (fun c_214 hI_215 hF_216 h_217 => ?_))
              refine bk_inl ?_
              have h_218 := ir_s_g hI_215 hs (j := 4 * a2 + 3) (by omega)
              have h_219 := ir_s_g hI_215 hs (j := 4 * a4 + 3) (by omega)
              refine v_iinc (v := 4) rfl rfl (by decide) (by decide) ?_
              refine q_goto (t := 68) rfl (by decide) ?_
              refine q_iload rfl rfl ?_
              refine q_iconst rfl ?_
              refine v_ic_ge_t (t := 116) rfl (by decide) (by decide) ?_
              refine q_aload_n rfl rfl ?_
              refine v_gr (t := s) rfl rfl (ck_sh hs) (by omega) rfl ?_
              refine v_bip rfl (by decide) ?_
              refine q_iload_n rfl rfl ?_
              refine v_iadd (v := a2 + 24) rfl (by omega) ?_
              refine q_iconst rfl ?_
              refine v_is rfl (ck_s hs) (by omega) (by decide) (by omega) ?_
              refine q_iconst rfl ?_
              refine v_zret rfl rfl (by omega) ?_
              have hI_220 := iw_row (a := s) (j := a2 + 24) (v := 0) hI_215 (by omega) (Or.inl rfl) ⟨by omega, by omega, by omega⟩
              have hr_221 : ∀ j : Int, rs s j → (up c_214 s (a2 + 24) 0) s j + (up c_214 s (a2 + 24) 0) s (j + 1) + (up c_214 s (a2 + 24) 0) s (j + 2) + (up c_214 s (a2 + 24) 0) s (j + 3) ≤ 9999 := by
                intro j9 hj9
                obtain ⟨k9, rfl, hk9⟩ := rs_s hs hj9
                by_cases e_222 : k9 = a2
                · skip
                  have h_223 : (up c_214 s (a2 + 24) 0) s (4 * k9) = c_167 s (4 * a2) := (congrArg ((up c_214 s (a2 + 24) 0) s) (show 4 * k9 = 4 * a2 from by omega)).trans ((up_n (by omega)).trans ((hF_216 s (4 * a2) (by omega)).trans ((hF_209 s (4 * a2) (by omega)).trans ((hF_201 s (4 * a2) (by omega)).trans ((hF_194 s (4 * a2) (by omega)).trans ((hF_186 s (4 * a2) (by omega)).trans (hF_179 s (4 * a2) (by omega))))))))
                  have h_224 : (up c_214 s (a2 + 24) 0) s (4 * k9 + 1) = c_184 s (4 * a2 + 1) := (congrArg ((up c_214 s (a2 + 24) 0) s) (show 4 * k9 + 1 = 4 * a2 + 1 from by omega)).trans ((up_n (by omega)).trans ((hF_216 s (4 * a2 + 1) (by omega)).trans ((hF_209 s (4 * a2 + 1) (by omega)).trans ((hF_201 s (4 * a2 + 1) (by omega)).trans (hF_194 s (4 * a2 + 1) (by omega))))))
                  have h_225 : (up c_214 s (a2 + 24) 0) s (4 * k9 + 2) = c_199 s (4 * a2 + 2) := (congrArg ((up c_214 s (a2 + 24) 0) s) (show 4 * k9 + 2 = 4 * a2 + 2 from by omega)).trans ((up_n (by omega)).trans ((hF_216 s (4 * a2 + 2) (by omega)).trans (hF_209 s (4 * a2 + 2) (by omega))))
                  have h_226 : (up c_214 s (a2 + 24) 0) s (4 * k9 + 3) = c_214 s (4 * a2 + 3) := (congrArg ((up c_214 s (a2 + 24) 0) s) (show 4 * k9 + 3 = 4 * a2 + 3 from by omega)).trans (up_n (by omega))
                  omega
                by_cases e_227 : k9 = a3
                · skip
                  have h_228 : (up c_214 s (a2 + 24) 0) s (4 * k9) = c_158 s (4 * a3) := (congrArg ((up c_214 s (a2 + 24) 0) s) (show 4 * k9 = 4 * a3 from by omega)).trans ((up_n (by omega)).trans ((hF_216 s (4 * a3) (by omega)).trans ((hF_209 s (4 * a3) (by omega)).trans ((hF_201 s (4 * a3) (by omega)).trans ((hF_194 s (4 * a3) (by omega)).trans ((hF_186 s (4 * a3) (by omega)).trans ((hF_179 s (4 * a3) (by omega)).trans (hF_169 s (4 * a3) (by omega)))))))))
                  have h_229 : (up c_214 s (a2 + 24) 0) s (4 * k9 + 1) = c_177 s (4 * a3 + 1) := (congrArg ((up c_214 s (a2 + 24) 0) s) (show 4 * k9 + 1 = 4 * a3 + 1 from by omega)).trans ((up_n (by omega)).trans ((hF_216 s (4 * a3 + 1) (by omega)).trans ((hF_209 s (4 * a3 + 1) (by omega)).trans ((hF_201 s (4 * a3 + 1) (by omega)).trans ((hF_194 s (4 * a3 + 1) (by omega)).trans (hF_186 s (4 * a3 + 1) (by omega)))))))
                  have h_230 : (up c_214 s (a2 + 24) 0) s (4 * k9 + 2) = c_192 s (4 * a3 + 2) := (congrArg ((up c_214 s (a2 + 24) 0) s) (show 4 * k9 + 2 = 4 * a3 + 2 from by omega)).trans ((up_n (by omega)).trans ((hF_216 s (4 * a3 + 2) (by omega)).trans ((hF_209 s (4 * a3 + 2) (by omega)).trans (hF_201 s (4 * a3 + 2) (by omega)))))
                  have h_231 : (up c_214 s (a2 + 24) 0) s (4 * k9 + 3) = c_207 s (4 * a3 + 3) := (congrArg ((up c_214 s (a2 + 24) 0) s) (show 4 * k9 + 3 = 4 * a3 + 3 from by omega)).trans ((up_n (by omega)).trans (hF_216 s (4 * a3 + 3) (by omega)))
                  omega
                by_cases e_232 : k9 = a4
                · skip
                  have h_233 : (up c_214 s (a2 + 24) 0) s (4 * k9) = c_167 s (4 * a4) := (congrArg ((up c_214 s (a2 + 24) 0) s) (show 4 * k9 = 4 * a4 from by omega)).trans ((up_n (by omega)).trans ((hF_216 s (4 * a4) (by omega)).trans ((hF_209 s (4 * a4) (by omega)).trans ((hF_201 s (4 * a4) (by omega)).trans ((hF_194 s (4 * a4) (by omega)).trans ((hF_186 s (4 * a4) (by omega)).trans (hF_179 s (4 * a4) (by omega))))))))
                  have h_234 : (up c_214 s (a2 + 24) 0) s (4 * k9 + 1) = c_184 s (4 * a4 + 1) := (congrArg ((up c_214 s (a2 + 24) 0) s) (show 4 * k9 + 1 = 4 * a4 + 1 from by omega)).trans ((up_n (by omega)).trans ((hF_216 s (4 * a4 + 1) (by omega)).trans ((hF_209 s (4 * a4 + 1) (by omega)).trans ((hF_201 s (4 * a4 + 1) (by omega)).trans (hF_194 s (4 * a4 + 1) (by omega))))))
                  have h_235 : (up c_214 s (a2 + 24) 0) s (4 * k9 + 2) = c_199 s (4 * a4 + 2) := (congrArg ((up c_214 s (a2 + 24) 0) s) (show 4 * k9 + 2 = 4 * a4 + 2 from by omega)).trans ((up_n (by omega)).trans ((hF_216 s (4 * a4 + 2) (by omega)).trans (hF_209 s (4 * a4 + 2) (by omega))))
                  have h_236 : (up c_214 s (a2 + 24) 0) s (4 * k9 + 3) = c_214 s (4 * a4 + 3) := (congrArg ((up c_214 s (a2 + 24) 0) s) (show 4 * k9 + 3 = 4 * a4 + 3 from by omega)).trans (up_n (by omega))
                  omega
                have h_237 := iv_r hI s (4 * k9) hj9 (by omega)
                have h_238 := ir_s_g hI hs (j := 4 * k9) (by omega)
                have h_239 : (up c_214 s (a2 + 24) 0) s (4 * k9) = c s (4 * k9) := ((up_n (by omega)).trans ((hF_216 s (4 * k9) (by omega)).trans ((hF_209 s (4 * k9) (by omega)).trans ((hF_201 s (4 * k9) (by omega)).trans ((hF_194 s (4 * k9) (by omega)).trans ((hF_186 s (4 * k9) (by omega)).trans ((hF_179 s (4 * k9) (by omega)).trans ((hF_169 s (4 * k9) (by omega)).trans (hF_160 s (4 * k9) (by omega))))))))))
                have h_240 := ir_s_g hI hs (j := 4 * k9 + 1) (by omega)
                have h_241 : (up c_214 s (a2 + 24) 0) s (4 * k9 + 1) = c s (4 * k9 + 1) := ((up_n (by omega)).trans ((hF_216 s (4 * k9 + 1) (by omega)).trans ((hF_209 s (4 * k9 + 1) (by omega)).trans ((hF_201 s (4 * k9 + 1) (by omega)).trans ((hF_194 s (4 * k9 + 1) (by omega)).trans ((hF_186 s (4 * k9 + 1) (by omega)).trans ((hF_179 s (4 * k9 + 1) (by omega)).trans ((hF_169 s (4 * k9 + 1) (by omega)).trans (hF_160 s (4 * k9 + 1) (by omega))))))))))
                have h_242 := ir_s_g hI hs (j := 4 * k9 + 2) (by omega)
                have h_243 : (up c_214 s (a2 + 24) 0) s (4 * k9 + 2) = c s (4 * k9 + 2) := ((up_n (by omega)).trans ((hF_216 s (4 * k9 + 2) (by omega)).trans ((hF_209 s (4 * k9 + 2) (by omega)).trans ((hF_201 s (4 * k9 + 2) (by omega)).trans ((hF_194 s (4 * k9 + 2) (by omega)).trans ((hF_186 s (4 * k9 + 2) (by omega)).trans ((hF_179 s (4 * k9 + 2) (by omega)).trans ((hF_169 s (4 * k9 + 2) (by omega)).trans (hF_160 s (4 * k9 + 2) (by omega))))))))))
                have h_244 := ir_s_g hI hs (j := 4 * k9 + 3) (by omega)
                have h_245 : (up c_214 s (a2 + 24) 0) s (4 * k9 + 3) = c s (4 * k9 + 3) := ((up_n (by omega)).trans ((hF_216 s (4 * k9 + 3) (by omega)).trans ((hF_209 s (4 * k9 + 3) (by omega)).trans ((hF_201 s (4 * k9 + 3) (by omega)).trans ((hF_194 s (4 * k9 + 3) (by omega)).trans ((hF_186 s (4 * k9 + 3) (by omega)).trans ((hF_179 s (4 * k9 + 3) (by omega)).trans ((hF_169 s (4 * k9 + 3) (by omega)).trans (hF_160 s (4 * k9 + 3) (by omega))))))))))
                omega
              have hI_246 := iv_close hI_220 hr_221
              exact K (up c_214 s (a2 + 24) 0) 1 hI_246 (fun a j hm => (up_b (by omega)).trans ((hF_216 a j (by omega)).trans ((hF_209 a j (by omega)).trans ((hF_201 a j (by omega)).trans ((hF_194 a j (by omega)).trans ((hF_186 a j (by omega)).trans ((hF_179 a j (by omega)).trans ((hF_169 a j (by omega)).trans (hF_160 a j (by omega)))))))))) ⟨by decide, by decide⟩
      · refine v_ic_ne_f (t := 19) rfl (by decide) (by omega) ?_
        refine q_iconst rfl ?_
        refine v_zret rfl rfl (by omega) ?_
        have hr_247 : ∀ j : Int, rs s j → c s j + c s (j + 1) + c s (j + 2) + c s (j + 3) ≤ 9999 := by
          intro j9 hj9
          obtain ⟨k9, rfl, hk9⟩ := rs_s hs hj9
          by_cases e_248 : k9 = a2
          · skip
            have h_249 : c s (4 * k9) = c s (4 * a2) := (congrArg (c s) (show 4 * k9 = 4 * a2 from by omega))
            have h_250 : c s (4 * k9 + 1) = c s (4 * a2 + 1) := (congrArg (c s) (show 4 * k9 + 1 = 4 * a2 + 1 from by omega))
            have h_251 : c s (4 * k9 + 2) = c s (4 * a2 + 2) := (congrArg (c s) (show 4 * k9 + 2 = 4 * a2 + 2 from by omega))
            have h_252 : c s (4 * k9 + 3) = c s (4 * a2 + 3) := (congrArg (c s) (show 4 * k9 + 3 = 4 * a2 + 3 from by omega))
            omega
          by_cases e_253 : k9 = a3
          · skip
            have h_254 : c s (4 * k9) = c s (4 * a3) := (congrArg (c s) (show 4 * k9 = 4 * a3 from by omega))
            have h_255 : c s (4 * k9 + 1) = c s (4 * a3 + 1) := (congrArg (c s) (show 4 * k9 + 1 = 4 * a3 + 1 from by omega))
            have h_256 : c s (4 * k9 + 2) = c s (4 * a3 + 2) := (congrArg (c s) (show 4 * k9 + 2 = 4 * a3 + 2 from by omega))
            have h_257 : c s (4 * k9 + 3) = c s (4 * a3 + 3) := (congrArg (c s) (show 4 * k9 + 3 = 4 * a3 + 3 from by omega))
            omega
          by_cases e_258 : k9 = a4
          · skip
            have h_259 : c s (4 * k9) = c s (4 * a4) := (congrArg (c s) (show 4 * k9 = 4 * a4 from by omega))
            have h_260 : c s (4 * k9 + 1) = c s (4 * a4 + 1) := (congrArg (c s) (show 4 * k9 + 1 = 4 * a4 + 1 from by omega))
            have h_261 : c s (4 * k9 + 2) = c s (4 * a4 + 2) := (congrArg (c s) (show 4 * k9 + 2 = 4 * a4 + 2 from by omega))
            have h_262 : c s (4 * k9 + 3) = c s (4 * a4 + 3) := (congrArg (c s) (show 4 * k9 + 3 = 4 * a4 + 3 from by omega))
            omega
          have h_263 := iv_r hI s (4 * k9) hj9 (by omega)
          have h_264 := ir_s_g hI hs (j := 4 * k9) (by omega)
          have h_265 : c s (4 * k9) = c s (4 * k9) := rfl
          have h_266 := ir_s_g hI hs (j := 4 * k9 + 1) (by omega)
          have h_267 : c s (4 * k9 + 1) = c s (4 * k9 + 1) := rfl
          have h_268 := ir_s_g hI hs (j := 4 * k9 + 2) (by omega)
          have h_269 : c s (4 * k9 + 2) = c s (4 * k9 + 2) := rfl
          have h_270 := ir_s_g hI hs (j := 4 * k9 + 3) (by omega)
          have h_271 : c s (4 * k9 + 3) = c s (4 * k9 + 3) := rfl
          omega
        have hI_272 := iv_close hIo hr_247
        exact K c 0 hI_272 (fun a j hm => rfl) ⟨by decide, by decide⟩

set_option maxRecDepth 100000 in
set_option maxHeartbeats 4000000 in
theorem s_54 {sc : List Int32} {d P Q sh s : Nat} {c : ME} {a1 : Int} {a2 : Int} {a3 : Int} {Z : AR → Prop} (hI : Iv 0 (-1) P Q c) (hs : (sh = 37 ∧ s = 38) ∨ (sh = 39 ∧ s = 40)) (ha1 : 0 ≤ a1 ∧ a1 ≤ 5) (ha2 : 0 ≤ a2 ∧ a2 ≤ 5) (ha3 : 0 ≤ a3 ∧ a3 ≤ 99999) (K : ∀ (c2 : ME) (y : Int), Iv 0 (-1) P Q c2 → (∀ (a : Nat) (j : Int), ¬ (a = s) → c2 a j = c a j) → 0 ≤ y ∧ y ≤ 1 → Z (.inl (some (vi y)), Wd P Q P P c2, 0, 0)) : Wp sc (d + 9) 54 0 [(0, .ref sh), (1, vi a1), (2, vi a2), (3, vi a3)] [] (Wd P Q P P c) 0 0 Z := by
  have hP := iv_P hI
  have hQ := iv_Q hI
  have hIo : Iv s (-1) P Q c := iv_open hI
  have hsum_1 := ir_s_r hI hs (by omega) (j := a1) (by omega)
  have h_2 := ir_s_g hI hs (j := 4 * a1) (by omega)
  have h_3 := ir_s_g hI hs (j := 4 * a1 + 1) (by omega)
  have h_4 := ir_s_g hI hs (j := 4 * a1 + 2) (by omega)
  have h_5 := ir_s_g hI hs (j := 4 * a1 + 3) (by omega)
  have hsum_6 := ir_s_r hI hs (by omega) (j := a2) (by omega)
  have h_7 := ir_s_g hI hs (j := 4 * a2) (by omega)
  have h_8 := ir_s_g hI hs (j := 4 * a2 + 1) (by omega)
  have h_9 := ir_s_g hI hs (j := 4 * a2 + 2) (by omega)
  have h_10 := ir_s_g hI hs (j := 4 * a2 + 3) (by omega)
  refine q_iload_n rfl rfl ?_
  refine q_iload_n rfl rfl ?_
  by_cases h_11 : a1 = a2
  · refine v_ic_eq_t (t := 23) rfl (by decide) (by omega) ?_
    refine q_iconst rfl ?_
    refine v_zret rfl rfl (by omega) ?_
    have hr_12 : ∀ j : Int, rs s j → c s j + c s (j + 1) + c s (j + 2) + c s (j + 3) ≤ 9999 := by
      intro j9 hj9
      obtain ⟨k9, rfl, hk9⟩ := rs_s hs hj9
      by_cases e_13 : k9 = a1
      · skip
        have h_14 : c s (4 * k9) = c s (4 * a1) := (congrArg (c s) (show 4 * k9 = 4 * a1 from by omega))
        have h_15 : c s (4 * k9 + 1) = c s (4 * a1 + 1) := (congrArg (c s) (show 4 * k9 + 1 = 4 * a1 + 1 from by omega))
        have h_16 : c s (4 * k9 + 2) = c s (4 * a1 + 2) := (congrArg (c s) (show 4 * k9 + 2 = 4 * a1 + 2 from by omega))
        have h_17 : c s (4 * k9 + 3) = c s (4 * a1 + 3) := (congrArg (c s) (show 4 * k9 + 3 = 4 * a1 + 3 from by omega))
        omega
      by_cases e_18 : k9 = a2
      · skip
        have h_19 : c s (4 * k9) = c s (4 * a2) := (congrArg (c s) (show 4 * k9 = 4 * a2 from by omega))
        have h_20 : c s (4 * k9 + 1) = c s (4 * a2 + 1) := (congrArg (c s) (show 4 * k9 + 1 = 4 * a2 + 1 from by omega))
        have h_21 : c s (4 * k9 + 2) = c s (4 * a2 + 2) := (congrArg (c s) (show 4 * k9 + 2 = 4 * a2 + 2 from by omega))
        have h_22 : c s (4 * k9 + 3) = c s (4 * a2 + 3) := (congrArg (c s) (show 4 * k9 + 3 = 4 * a2 + 3 from by omega))
        omega
      have h_23 := iv_r hI s (4 * k9) hj9 (by omega)
      have h_24 := ir_s_g hI hs (j := 4 * k9) (by omega)
      have h_25 : c s (4 * k9) = c s (4 * k9) := rfl
      have h_26 := ir_s_g hI hs (j := 4 * k9 + 1) (by omega)
      have h_27 : c s (4 * k9 + 1) = c s (4 * k9 + 1) := rfl
      have h_28 := ir_s_g hI hs (j := 4 * k9 + 2) (by omega)
      have h_29 : c s (4 * k9 + 2) = c s (4 * k9 + 2) := rfl
      have h_30 := ir_s_g hI hs (j := 4 * k9 + 3) (by omega)
      have h_31 : c s (4 * k9 + 3) = c s (4 * k9 + 3) := rfl
      omega
    have hI_32 := iv_close hIo hr_12
    exact K c 0 hI_32 (fun a j hm => rfl) ⟨by decide, by decide⟩
  · refine v_ic_eq_f (t := 23) rfl (by decide) (by omega) ?_
    refine q_aload_n rfl rfl ?_
    refine q_iload_n rfl rfl ?_
    refine v_cv rfl rfl rfl (ck_sh hs) (by omega) ⟨⟨rfl, rfl⟩, by decide, rfl⟩ (Nat.le_of_ble_eq_true rfl) (Nat.le_of_ble_eq_true rfl) (s_43 (v1 := c s (4 * a1)) (v2 := c s (4 * a1 + 1)) (v3 := c s (4 * a1 + 2)) (v4 := c s (4 * a1 + 3)) (r := c s (4 * a1 + 1) + c s (4 * a1 + 2) + c s (4 * a1 + 3) + c s (4 * a1)) (a1 := a1) hIo hs (show 0 ≤ a1 ∧ a1 ≤ 5 from by omega) (rfl) (rfl) (rfl) (rfl) (by omega) ?_)
    refine bk_inl ?_
    refine q_iload_n rfl rfl ?_
    by_cases h_33 : c s (4 * a1 + 1) + c s (4 * a1 + 2) + c s (4 * a1 + 3) + c s (4 * a1) < a3
    · refine v_ic_lt_t (t := 23) rfl (by decide) (by omega) ?_
      refine q_iconst rfl ?_
      refine v_zret rfl rfl (by omega) ?_
      have hr_34 : ∀ j : Int, rs s j → c s j + c s (j + 1) + c s (j + 2) + c s (j + 3) ≤ 9999 := by
        intro j9 hj9
        obtain ⟨k9, rfl, hk9⟩ := rs_s hs hj9
        by_cases e_35 : k9 = a1
        · skip
          have h_36 : c s (4 * k9) = c s (4 * a1) := (congrArg (c s) (show 4 * k9 = 4 * a1 from by omega))
          have h_37 : c s (4 * k9 + 1) = c s (4 * a1 + 1) := (congrArg (c s) (show 4 * k9 + 1 = 4 * a1 + 1 from by omega))
          have h_38 : c s (4 * k9 + 2) = c s (4 * a1 + 2) := (congrArg (c s) (show 4 * k9 + 2 = 4 * a1 + 2 from by omega))
          have h_39 : c s (4 * k9 + 3) = c s (4 * a1 + 3) := (congrArg (c s) (show 4 * k9 + 3 = 4 * a1 + 3 from by omega))
          omega
        by_cases e_40 : k9 = a2
        · skip
          have h_41 : c s (4 * k9) = c s (4 * a2) := (congrArg (c s) (show 4 * k9 = 4 * a2 from by omega))
          have h_42 : c s (4 * k9 + 1) = c s (4 * a2 + 1) := (congrArg (c s) (show 4 * k9 + 1 = 4 * a2 + 1 from by omega))
          have h_43 : c s (4 * k9 + 2) = c s (4 * a2 + 2) := (congrArg (c s) (show 4 * k9 + 2 = 4 * a2 + 2 from by omega))
          have h_44 : c s (4 * k9 + 3) = c s (4 * a2 + 3) := (congrArg (c s) (show 4 * k9 + 3 = 4 * a2 + 3 from by omega))
          omega
        have h_45 := iv_r hI s (4 * k9) hj9 (by omega)
        have h_46 := ir_s_g hI hs (j := 4 * k9) (by omega)
        have h_47 : c s (4 * k9) = c s (4 * k9) := rfl
        have h_48 := ir_s_g hI hs (j := 4 * k9 + 1) (by omega)
        have h_49 : c s (4 * k9 + 1) = c s (4 * k9 + 1) := rfl
        have h_50 := ir_s_g hI hs (j := 4 * k9 + 2) (by omega)
        have h_51 : c s (4 * k9 + 2) = c s (4 * k9 + 2) := rfl
        have h_52 := ir_s_g hI hs (j := 4 * k9 + 3) (by omega)
        have h_53 : c s (4 * k9 + 3) = c s (4 * k9 + 3) := rfl
        omega
      have hI_54 := iv_close hIo hr_34
      exact K c 0 hI_54 (fun a j hm => rfl) ⟨by decide, by decide⟩
    · refine v_ic_lt_f (t := 23) rfl (by decide) (by omega) ?_
      refine q_aload_n rfl rfl ?_
      refine q_iload_n rfl rfl ?_
      refine q_iload_n rfl rfl ?_
      refine v_cv rfl rfl rfl (ck_sh hs) (by omega) ⟨⟨rfl, rfl⟩, by decide, rfl⟩ (Nat.le_of_ble_eq_true rfl) (Nat.le_of_ble_eq_true rfl) ?_
      refine q_aload_n rfl rfl ?_
      refine q_iload_n rfl rfl ?_
      refine v_cv rfl rfl rfl (ck_sh hs) (by omega) ⟨⟨rfl, rfl⟩, by decide, rfl⟩ (Nat.le_of_ble_eq_true rfl) (Nat.le_of_ble_eq_true rfl) (s_43 (v1 := c s (4 * a2)) (v2 := c s (4 * a2 + 1)) (v3 := c s (4 * a2 + 2)) (v4 := c s (4 * a2 + 3)) (r := c s (4 * a2 + 1) + c s (4 * a2 + 2) + c s (4 * a2 + 3) + c s (4 * a2)) (a1 := a2) hIo hs (show 0 ≤ a2 ∧ a2 ≤ 5 from by omega) (rfl) (rfl) (rfl) (rfl) (by omega) ?_)
      refine bk_inl ?_
      refine q_iload_n rfl rfl ?_
      refine v_iadd (v := a3 + c s (4 * a2 + 1) + c s (4 * a2 + 2) + c s (4 * a2 + 3) + c s (4 * a2)) rfl (by omega) ?_
      refine v_sip rfl (by decide) ?_
      by_cases h_55 : a3 + c s (4 * a2 + 1) + c s (4 * a2 + 2) + c s (4 * a2 + 3) + c s (4 * a2) > 9999
      · refine v_ic_gt_t (t := 17) rfl (by decide) (by omega) ?_
        refine q_iconst rfl ?_
        refine v_zret rfl rfl (by omega) ?_
        refine bk_inl ?_
        refine v_if_ne_f (t := 25) rfl (by decide) (by decide) ?_
        refine q_iconst rfl ?_
        refine v_zret rfl rfl (by omega) ?_
        have hr_56 : ∀ j : Int, rs s j → c s j + c s (j + 1) + c s (j + 2) + c s (j + 3) ≤ 9999 := by
          intro j9 hj9
          obtain ⟨k9, rfl, hk9⟩ := rs_s hs hj9
          by_cases e_57 : k9 = a1
          · skip
            have h_58 : c s (4 * k9) = c s (4 * a1) := (congrArg (c s) (show 4 * k9 = 4 * a1 from by omega))
            have h_59 : c s (4 * k9 + 1) = c s (4 * a1 + 1) := (congrArg (c s) (show 4 * k9 + 1 = 4 * a1 + 1 from by omega))
            have h_60 : c s (4 * k9 + 2) = c s (4 * a1 + 2) := (congrArg (c s) (show 4 * k9 + 2 = 4 * a1 + 2 from by omega))
            have h_61 : c s (4 * k9 + 3) = c s (4 * a1 + 3) := (congrArg (c s) (show 4 * k9 + 3 = 4 * a1 + 3 from by omega))
            omega
          by_cases e_62 : k9 = a2
          · skip
            have h_63 : c s (4 * k9) = c s (4 * a2) := (congrArg (c s) (show 4 * k9 = 4 * a2 from by omega))
            have h_64 : c s (4 * k9 + 1) = c s (4 * a2 + 1) := (congrArg (c s) (show 4 * k9 + 1 = 4 * a2 + 1 from by omega))
            have h_65 : c s (4 * k9 + 2) = c s (4 * a2 + 2) := (congrArg (c s) (show 4 * k9 + 2 = 4 * a2 + 2 from by omega))
            have h_66 : c s (4 * k9 + 3) = c s (4 * a2 + 3) := (congrArg (c s) (show 4 * k9 + 3 = 4 * a2 + 3 from by omega))
            omega
          have h_67 := iv_r hI s (4 * k9) hj9 (by omega)
          have h_68 := ir_s_g hI hs (j := 4 * k9) (by omega)
          have h_69 : c s (4 * k9) = c s (4 * k9) := rfl
          have h_70 := ir_s_g hI hs (j := 4 * k9 + 1) (by omega)
          have h_71 : c s (4 * k9 + 1) = c s (4 * k9 + 1) := rfl
          have h_72 := ir_s_g hI hs (j := 4 * k9 + 2) (by omega)
          have h_73 : c s (4 * k9 + 2) = c s (4 * k9 + 2) := rfl
          have h_74 := ir_s_g hI hs (j := 4 * k9 + 3) (by omega)
          have h_75 : c s (4 * k9 + 3) = c s (4 * k9 + 3) := rfl
          omega
        have hI_76 := iv_close hIo hr_56
        exact K c 0 hI_76 (fun a j hm => rfl) ⟨by decide, by decide⟩
      · refine v_ic_gt_f (t := 17) rfl (by decide) (by omega) ?_
        refine q_iconst rfl ?_
        refine q_goto (t := 18) rfl (by decide) ?_
        refine v_zret rfl rfl (by omega) ?_
        refine bk_inl ?_
        refine v_if_ne_t (t := 25) rfl (by decide) (by decide) ?_
        refine q_iload_n rfl rfl ?_
        refine q_istore rfl (by decide) ?_
        refine q_iconst rfl ?_
        refine q_istore rfl (by decide) ?_
        refine q_iload rfl rfl ?_
        refine q_iconst rfl ?_
        refine v_ic_ge_f (t := 74) rfl (by decide) (by decide) ?_
        refine q_iload rfl rfl ?_
        refine q_aload_n rfl rfl ?_
        refine q_iload_n rfl rfl ?_
        refine q_iload rfl rfl ?_
        refine v_cv rfl rfl rfl (ck_sh hs) (by omega) ⟨⟨rfl, rfl⟩, by decide, rfl⟩ (Nat.le_of_ble_eq_true rfl) (Nat.le_of_ble_eq_true rfl) (s_45 (v1 := c s (4 * a1)) (r := c s (4 * a1)) (a1 := a1) (a2 := 0) hIo hs (show 0 ≤ a1 ∧ a1 ≤ 5 from by omega) (show 0 ≤ 0 ∧ 0 ≤ 3 from by omega) ((congrArg (c s) (show 4 * a1 + 0 = 4 * a1 from by omega))) (by omega) ?_)
        refine bk_inl ?_
        by_cases h_77 : a3 < c s (4 * a1)
        · skip
          refine v_min_l rfl rfl (by omega) (Nat.le_of_ble_eq_true rfl) (by omega) ?_
          refine q_istore rfl (by decide) ?_
          refine q_aload_n rfl rfl ?_
          refine q_iload_n rfl rfl ?_
          refine q_iload_n rfl rfl ?_
          refine q_iload rfl rfl ?_
          refine q_iload rfl rfl ?_
          refine v_cv rfl rfl rfl (ck_sh hs) (by omega) ⟨⟨rfl, rfl⟩, by decide, rfl⟩ (Nat.le_of_ble_eq_true rfl) (Nat.le_of_ble_eq_true rfl) (s_52 (a1 := a1) (a2 := a2) (a3 := 0) (a4 := a3) hIo hs (show 0 ≤ a1 ∧ a1 ≤ 5 from by omega) (show 0 ≤ a2 ∧ a2 ≤ 5 from by omega) (show 0 ≤ 0 ∧ 0 ≤ 3 from by omega) (show 0 ≤ a3 ∧ a3 ≤ 9999 from by omega) (by omega) (by omega) (by omega) (fun c_78 hI_79 hF_80 h_81 => ?_))
          refine bk_inl ?_
          have h_82 : c_78 s (4 * a1 + 0) = c_78 s (4 * a1) := congrArg (c_78 s) (by omega)
          have h_83 := ir_s_g hI_79 hs (j := 4 * a1) (by omega)
          have h_84 : c_78 s (4 * a2 + 0) = c_78 s (4 * a2) := congrArg (c_78 s) (by omega)
          have h_85 := ir_s_g hI_79 hs (j := 4 * a2) (by omega)
          refine q_iload rfl rfl ?_
          refine q_iload rfl rfl ?_
          refine v_isub (v := 0) rfl (by decide) ?_
          refine q_istore rfl (by decide) ?_
          refine v_iinc (v := 1) rfl rfl (by decide) (by decide) ?_
          refine Wp_ls [(5, vi 1), (4, vi 0), (6, vi a3), (0, .ref sh), (1, vi a1), (2, vi a2), (3, vi a3)] (lsub_cons rfl (lsub_cons rfl (lsub_cons rfl (lsub_cons rfl (lsub_cons rfl (lsub_cons rfl (lsub_cons rfl lsub_nil))))))) ?_
          refine q_goto (t := 31) rfl (by decide) ?_
          refine q_iload rfl rfl ?_
          refine q_iconst rfl ?_
          refine v_ic_ge_f (t := 74) rfl (by decide) (by decide) ?_
          refine q_iload rfl rfl ?_
          refine q_aload_n rfl rfl ?_
          refine q_iload_n rfl rfl ?_
          refine q_iload rfl rfl ?_
          refine v_cv rfl rfl rfl (ck_sh hs) (by omega) ⟨⟨rfl, rfl⟩, by decide, rfl⟩ (Nat.le_of_ble_eq_true rfl) (Nat.le_of_ble_eq_true rfl) (s_45 (v1 := c s (4 * a1 + 1)) (r := c s (4 * a1 + 1)) (a1 := a1) (a2 := 1) hI_79 hs (show 0 ≤ a1 ∧ a1 ≤ 5 from by omega) (show 0 ≤ 1 ∧ 1 ≤ 3 from by omega) ((hF_80 s (4 * a1 + 1) (by omega))) (by omega) ?_)
          refine bk_inl ?_
          by_cases h_86 : 0 < c s (4 * a1 + 1)
          · skip
            refine v_min_l rfl rfl (by omega) (Nat.le_of_ble_eq_true rfl) (by omega) ?_
            refine q_istore rfl (by decide) ?_
            refine q_aload_n rfl rfl ?_
            refine q_iload_n rfl rfl ?_
            refine q_iload_n rfl rfl ?_
            refine q_iload rfl rfl ?_
            refine q_iload rfl rfl ?_
            have h_87 : c_78 s (4 * a1 + 1) = c s (4 * a1 + 1) := (hF_80 s (4 * a1 + 1) (by omega))
            have h_88 : c_78 s (4 * a2 + 1) = c s (4 * a2 + 1) := (hF_80 s (4 * a2 + 1) (by omega))
            refine v_cv rfl rfl rfl (ck_sh hs) (by omega) ⟨⟨rfl, rfl⟩, by decide, rfl⟩ (Nat.le_of_ble_eq_true rfl) (Nat.le_of_ble_eq_true rfl) (s_52 (a1 := a1) (a2 := a2) (a3 := 1) (a4 := 0) hI_79 hs (show 0 ≤ a1 ∧ a1 ≤ 5 from by omega) (show 0 ≤ a2 ∧ a2 ≤ 5 from by omega) (show 0 ≤ 1 ∧ 1 ≤ 3 from by omega) (show 0 ≤ 0 ∧ 0 ≤ 9999 from by omega) (by omega) (by omega) (by omega) (fun c_89 hI_90 hF_91 h_92 => ?_))
            refine bk_inl ?_
            have h_93 := ir_s_g hI_90 hs (j := 4 * a1 + 1) (by omega)
            have h_94 := ir_s_g hI_90 hs (j := 4 * a2 + 1) (by omega)
            refine q_iload rfl rfl ?_
            refine q_iload rfl rfl ?_
            refine v_isub (v := 0) rfl (by decide) ?_
            refine q_istore rfl (by decide) ?_
            refine v_iinc (v := 2) rfl rfl (by decide) (by decide) ?_
            refine q_goto (t := 31) rfl (by decide) ?_
            refine q_iload rfl rfl ?_
            refine q_iconst rfl ?_
            refine v_ic_ge_f (t := 74) rfl (by decide) (by decide) ?_
            refine q_iload rfl rfl ?_
            refine q_aload_n rfl rfl ?_
            refine q_iload_n rfl rfl ?_
            refine q_iload rfl rfl ?_
            refine v_cv rfl rfl rfl (ck_sh hs) (by omega) ⟨⟨rfl, rfl⟩, by decide, rfl⟩ (Nat.le_of_ble_eq_true rfl) (Nat.le_of_ble_eq_true rfl) (s_45 (v1 := c s (4 * a1 + 2)) (r := c s (4 * a1 + 2)) (a1 := a1) (a2 := 2) hI_90 hs (show 0 ≤ a1 ∧ a1 ≤ 5 from by omega) (show 0 ≤ 2 ∧ 2 ≤ 3 from by omega) (((hF_91 s (4 * a1 + 2) (by omega)).trans (hF_80 s (4 * a1 + 2) (by omega)))) (by omega) ?_)
            refine bk_inl ?_
            by_cases h_95 : 0 < c s (4 * a1 + 2)
            · skip
              refine v_min_l rfl rfl (by omega) (Nat.le_of_ble_eq_true rfl) (by omega) ?_
              refine q_istore rfl (by decide) ?_
              refine q_aload_n rfl rfl ?_
              refine q_iload_n rfl rfl ?_
              refine q_iload_n rfl rfl ?_
              refine q_iload rfl rfl ?_
              refine q_iload rfl rfl ?_
              have h_96 : c_89 s (4 * a1 + 2) = c s (4 * a1 + 2) := ((hF_91 s (4 * a1 + 2) (by omega)).trans (hF_80 s (4 * a1 + 2) (by omega)))
              have h_97 : c_89 s (4 * a2 + 2) = c s (4 * a2 + 2) := ((hF_91 s (4 * a2 + 2) (by omega)).trans (hF_80 s (4 * a2 + 2) (by omega)))
              refine v_cv rfl rfl rfl (ck_sh hs) (by omega) ⟨⟨rfl, rfl⟩, by decide, rfl⟩ (Nat.le_of_ble_eq_true rfl) (Nat.le_of_ble_eq_true rfl) (s_52 (a1 := a1) (a2 := a2) (a3 := 2) (a4 := 0) hI_90 hs (show 0 ≤ a1 ∧ a1 ≤ 5 from by omega) (show 0 ≤ a2 ∧ a2 ≤ 5 from by omega) (show 0 ≤ 2 ∧ 2 ≤ 3 from by omega) (show 0 ≤ 0 ∧ 0 ≤ 9999 from by omega) (by omega) (by omega) (by omega) (fun c_98 hI_99 hF_100 h_101 => ?_))
              refine bk_inl ?_
              have h_102 := ir_s_g hI_99 hs (j := 4 * a1 + 2) (by omega)
              have h_103 := ir_s_g hI_99 hs (j := 4 * a2 + 2) (by omega)
              refine q_iload rfl rfl ?_
              refine q_iload rfl rfl ?_
              refine v_isub (v := 0) rfl (by decide) ?_
              refine q_istore rfl (by decide) ?_
              refine Wp_ls [(4, vi 0), (6, vi 0), (5, vi 2), (0, .ref sh), (1, vi a1), (2, vi a2), (3, vi a3)] (lsub_cons rfl (lsub_cons rfl (lsub_cons rfl (lsub_cons rfl (lsub_cons rfl (lsub_cons rfl (lsub_cons rfl lsub_nil))))))) ?_
              refine v_iinc (v := 3) rfl rfl (by decide) (by decide) ?_
              refine q_goto (t := 31) rfl (by decide) ?_
              refine q_iload rfl rfl ?_
              refine q_iconst rfl ?_
              refine v_ic_ge_f (t := 74) rfl (by decide) (by decide) ?_
              refine q_iload rfl rfl ?_
              refine q_aload_n rfl rfl ?_
              refine q_iload_n rfl rfl ?_
              refine q_iload rfl rfl ?_
              refine v_cv rfl rfl rfl (ck_sh hs) (by omega) ⟨⟨rfl, rfl⟩, by decide, rfl⟩ (Nat.le_of_ble_eq_true rfl) (Nat.le_of_ble_eq_true rfl) (s_45 (v1 := c s (4 * a1 + 3)) (r := c s (4 * a1 + 3)) (a1 := a1) (a2 := 3) hI_99 hs (show 0 ≤ a1 ∧ a1 ≤ 5 from by omega) (show 0 ≤ 3 ∧ 3 ≤ 3 from by omega) (((hF_100 s (4 * a1 + 3) (by omega)).trans ((hF_91 s (4 * a1 + 3) (by omega)).trans (hF_80 s (4 * a1 + 3) (by omega))))) (by omega) ?_)
              refine bk_inl ?_
              by_cases h_104 : 0 < c s (4 * a1 + 3)
              · skip
                refine v_min_l rfl rfl (by omega) (Nat.le_of_ble_eq_true rfl) (by omega) ?_
                refine q_istore rfl (by decide) ?_
                refine q_aload_n rfl rfl ?_
                refine q_iload_n rfl rfl ?_
                refine q_iload_n rfl rfl ?_
                refine q_iload rfl rfl ?_
                refine q_iload rfl rfl ?_
                have h_105 : c_98 s (4 * a1 + 3) = c s (4 * a1 + 3) := ((hF_100 s (4 * a1 + 3) (by omega)).trans ((hF_91 s (4 * a1 + 3) (by omega)).trans (hF_80 s (4 * a1 + 3) (by omega))))
                have h_106 : c_98 s (4 * a2 + 3) = c s (4 * a2 + 3) := ((hF_100 s (4 * a2 + 3) (by omega)).trans ((hF_91 s (4 * a2 + 3) (by omega)).trans (hF_80 s (4 * a2 + 3) (by omega))))
                refine v_cv rfl rfl rfl (ck_sh hs) (by omega) ⟨⟨rfl, rfl⟩, by decide, rfl⟩ (Nat.le_of_ble_eq_true rfl) (Nat.le_of_ble_eq_true rfl) (s_52 (a1 := a1) (a2 := a2) (a3 := 3) (a4 := 0) hI_99 hs (show 0 ≤ a1 ∧ a1 ≤ 5 from by omega) (show 0 ≤ a2 ∧ a2 ≤ 5 from by omega) (show 0 ≤ 3 ∧ 3 ≤ 3 from by omega) (show 0 ≤ 0 ∧ 0 ≤ 9999 from by omega) (by omega) (by omega) (by omega) (fun c_107 hI_108 hF_109 h_110 => ?_))
                refine bk_inl ?_
                have h_111 := ir_s_g hI_108 hs (j := 4 * a1 + 3) (by omega)
                have h_112 := ir_s_g hI_108 hs (j := 4 * a2 + 3) (by omega)
                refine q_iload rfl rfl ?_
                refine q_iload rfl rfl ?_
                refine v_isub (v := 0) rfl (by decide) ?_
                refine q_istore rfl (by decide) ?_
                refine v_iinc (v := 4) rfl rfl (by decide) (by decide) ?_
                refine q_goto (t := 31) rfl (by decide) ?_
                refine q_iload rfl rfl ?_
                refine q_iconst rfl ?_
                refine v_ic_ge_t (t := 74) rfl (by decide) (by decide) ?_
                refine q_aload_n rfl rfl ?_
                refine q_iload_n rfl rfl ?_
                refine v_cv rfl rfl rfl (ck_sh hs) (by omega) ⟨⟨rfl, rfl⟩, by decide, rfl⟩ (Nat.le_of_ble_eq_true rfl) (Nat.le_of_ble_eq_true rfl) (s_43 (v1 := c_78 s (4 * a1)) (v2 := c_89 s (4 * a1 + 1)) (v3 := c_98 s (4 * a1 + 2)) (v4 := c_107 s (4 * a1 + 3)) (r := c_107 s (4 * a1 + 3) + c_78 s (4 * a1) + c_89 s (4 * a1 + 1) + c_98 s (4 * a1 + 2)) (a1 := a1) hI_108 hs (show 0 ≤ a1 ∧ a1 ≤ 5 from by omega) (((hF_109 s (4 * a1) (by omega)).trans ((hF_100 s (4 * a1) (by omega)).trans (hF_91 s (4 * a1) (by omega))))) (((hF_109 s (4 * a1 + 1) (by omega)).trans (hF_100 s (4 * a1 + 1) (by omega)))) ((hF_109 s (4 * a1 + 2) (by omega))) (rfl) (by omega) ?_)
                refine bk_inl ?_
                refine v_if_ne_t (t := 92) rfl (by decide) (by omega) ?_
                refine q_iconst rfl ?_
                refine v_zret rfl rfl (by omega) ?_
                have hr_113 : ∀ j : Int, rs s j → c_107 s j + c_107 s (j + 1) + c_107 s (j + 2) + c_107 s (j + 3) ≤ 9999 := by
                  intro j9 hj9
                  obtain ⟨k9, rfl, hk9⟩ := rs_s hs hj9
                  by_cases e_114 : k9 = a1
                  · skip
                    have h_115 : c_107 s (4 * k9) = c_78 s (4 * a1) := (congrArg (c_107 s) (show 4 * k9 = 4 * a1 from by omega)).trans ((hF_109 s (4 * a1) (by omega)).trans ((hF_100 s (4 * a1) (by omega)).trans (hF_91 s (4 * a1) (by omega))))
                    have h_116 : c_107 s (4 * k9 + 1) = c_89 s (4 * a1 + 1) := (congrArg (c_107 s) (show 4 * k9 + 1 = 4 * a1 + 1 from by omega)).trans ((hF_109 s (4 * a1 + 1) (by omega)).trans (hF_100 s (4 * a1 + 1) (by omega)))
                    have h_117 : c_107 s (4 * k9 + 2) = c_98 s (4 * a1 + 2) := (congrArg (c_107 s) (show 4 * k9 + 2 = 4 * a1 + 2 from by omega)).trans (hF_109 s (4 * a1 + 2) (by omega))
                    have h_118 : c_107 s (4 * k9 + 3) = c_107 s (4 * a1 + 3) := (congrArg (c_107 s) (show 4 * k9 + 3 = 4 * a1 + 3 from by omega))
                    omega
                  by_cases e_119 : k9 = a2
                  · skip
                    have h_120 : c_107 s (4 * k9) = c_78 s (4 * a2) := (congrArg (c_107 s) (show 4 * k9 = 4 * a2 from by omega)).trans ((hF_109 s (4 * a2) (by omega)).trans ((hF_100 s (4 * a2) (by omega)).trans (hF_91 s (4 * a2) (by omega))))
                    have h_121 : c_107 s (4 * k9 + 1) = c_89 s (4 * a2 + 1) := (congrArg (c_107 s) (show 4 * k9 + 1 = 4 * a2 + 1 from by omega)).trans ((hF_109 s (4 * a2 + 1) (by omega)).trans (hF_100 s (4 * a2 + 1) (by omega)))
                    have h_122 : c_107 s (4 * k9 + 2) = c_98 s (4 * a2 + 2) := (congrArg (c_107 s) (show 4 * k9 + 2 = 4 * a2 + 2 from by omega)).trans (hF_109 s (4 * a2 + 2) (by omega))
                    have h_123 : c_107 s (4 * k9 + 3) = c_107 s (4 * a2 + 3) := (congrArg (c_107 s) (show 4 * k9 + 3 = 4 * a2 + 3 from by omega))
                    omega
                  have h_124 := iv_r hI s (4 * k9) hj9 (by omega)
                  have h_125 := ir_s_g hI hs (j := 4 * k9) (by omega)
                  have h_126 : c_107 s (4 * k9) = c s (4 * k9) := ((hF_109 s (4 * k9) (by omega)).trans ((hF_100 s (4 * k9) (by omega)).trans ((hF_91 s (4 * k9) (by omega)).trans (hF_80 s (4 * k9) (by omega)))))
                  have h_127 := ir_s_g hI hs (j := 4 * k9 + 1) (by omega)
                  have h_128 : c_107 s (4 * k9 + 1) = c s (4 * k9 + 1) := ((hF_109 s (4 * k9 + 1) (by omega)).trans ((hF_100 s (4 * k9 + 1) (by omega)).trans ((hF_91 s (4 * k9 + 1) (by omega)).trans (hF_80 s (4 * k9 + 1) (by omega)))))
                  have h_129 := ir_s_g hI hs (j := 4 * k9 + 2) (by omega)
                  have h_130 : c_107 s (4 * k9 + 2) = c s (4 * k9 + 2) := ((hF_109 s (4 * k9 + 2) (by omega)).trans ((hF_100 s (4 * k9 + 2) (by omega)).trans ((hF_91 s (4 * k9 + 2) (by omega)).trans (hF_80 s (4 * k9 + 2) (by omega)))))
                  have h_131 := ir_s_g hI hs (j := 4 * k9 + 3) (by omega)
                  have h_132 : c_107 s (4 * k9 + 3) = c s (4 * k9 + 3) := ((hF_109 s (4 * k9 + 3) (by omega)).trans ((hF_100 s (4 * k9 + 3) (by omega)).trans ((hF_91 s (4 * k9 + 3) (by omega)).trans (hF_80 s (4 * k9 + 3) (by omega)))))
                  omega
                have hI_133 := iv_close hI_108 hr_113
                exact K c_107 1 hI_133 (fun a j hm => (hF_109 a j (by omega)).trans ((hF_100 a j (by omega)).trans ((hF_91 a j (by omega)).trans (hF_80 a j (by omega))))) ⟨by decide, by decide⟩
              · skip
                refine v_min_g rfl rfl (by omega) (Nat.le_of_ble_eq_true rfl) (by omega) ?_
                refine q_istore rfl (by decide) ?_
                refine q_aload_n rfl rfl ?_
                refine q_iload_n rfl rfl ?_
                refine q_iload_n rfl rfl ?_
                refine q_iload rfl rfl ?_
                refine q_iload rfl rfl ?_
                have h_134 : c_98 s (4 * a1 + 3) = c s (4 * a1 + 3) := ((hF_100 s (4 * a1 + 3) (by omega)).trans ((hF_91 s (4 * a1 + 3) (by omega)).trans (hF_80 s (4 * a1 + 3) (by omega))))
                have h_135 : c_98 s (4 * a2 + 3) = c s (4 * a2 + 3) := ((hF_100 s (4 * a2 + 3) (by omega)).trans ((hF_91 s (4 * a2 + 3) (by omega)).trans (hF_80 s (4 * a2 + 3) (by omega))))
                refine v_cv rfl rfl rfl (ck_sh hs) (by omega) ⟨⟨rfl, rfl⟩, by decide, rfl⟩ (Nat.le_of_ble_eq_true rfl) (Nat.le_of_ble_eq_true rfl) (s_52 (a1 := a1) (a2 := a2) (a3 := 3) (a4 := c s (4 * a1 + 3)) hI_99 hs (show 0 ≤ a1 ∧ a1 ≤ 5 from by omega) (show 0 ≤ a2 ∧ a2 ≤ 5 from by omega) (show 0 ≤ 3 ∧ 3 ≤ 3 from by omega) (show 0 ≤ c s (4 * a1 + 3) ∧ c s (4 * a1 + 3) ≤ 9999 from by omega) (by omega) (by omega) (by omega) (fun c_136 hI_137 hF_138 h_139 => ?_))
                refine bk_inl ?_
                have h_140 := ir_s_g hI_137 hs (j := 4 * a1 + 3) (by omega)
                have h_141 := ir_s_g hI_137 hs (j := 4 * a2 + 3) (by omega)
                refine q_iload rfl rfl ?_
                refine q_iload rfl rfl ?_
                refine v_isub (v := 0 - c s (4 * a1 + 3)) rfl (by omega) ?_
                refine q_istore rfl (by decide) ?_
                refine v_iinc (v := 4) rfl rfl (by decide) (by decide) ?_
                refine q_goto (t := 31) rfl (by decide) ?_
                refine q_iload rfl rfl ?_
                refine q_iconst rfl ?_
                refine v_ic_ge_t (t := 74) rfl (by decide) (by decide) ?_
                refine q_aload_n rfl rfl ?_
                refine q_iload_n rfl rfl ?_
                refine v_cv rfl rfl rfl (ck_sh hs) (by omega) ⟨⟨rfl, rfl⟩, by decide, rfl⟩ (Nat.le_of_ble_eq_true rfl) (Nat.le_of_ble_eq_true rfl) (s_43 (v1 := c_78 s (4 * a1)) (v2 := c_89 s (4 * a1 + 1)) (v3 := c_98 s (4 * a1 + 2)) (v4 := c_136 s (4 * a1 + 3)) (r := c_136 s (4 * a1 + 3) + c_78 s (4 * a1) + c_89 s (4 * a1 + 1) + c_98 s (4 * a1 + 2)) (a1 := a1) hI_137 hs (show 0 ≤ a1 ∧ a1 ≤ 5 from by omega) (((hF_138 s (4 * a1) (by omega)).trans ((hF_100 s (4 * a1) (by omega)).trans (hF_91 s (4 * a1) (by omega))))) (((hF_138 s (4 * a1 + 1) (by omega)).trans (hF_100 s (4 * a1 + 1) (by omega)))) ((hF_138 s (4 * a1 + 2) (by omega))) (rfl) (by omega) ?_)
                refine bk_inl ?_
                refine v_if_ne_t (t := 92) rfl (by decide) (by omega) ?_
                refine q_iconst rfl ?_
                refine v_zret rfl rfl (by omega) ?_
                have hr_142 : ∀ j : Int, rs s j → c_136 s j + c_136 s (j + 1) + c_136 s (j + 2) + c_136 s (j + 3) ≤ 9999 := by
                  intro j9 hj9
                  obtain ⟨k9, rfl, hk9⟩ := rs_s hs hj9
                  by_cases e_143 : k9 = a1
                  · skip
                    have h_144 : c_136 s (4 * k9) = c_78 s (4 * a1) := (congrArg (c_136 s) (show 4 * k9 = 4 * a1 from by omega)).trans ((hF_138 s (4 * a1) (by omega)).trans ((hF_100 s (4 * a1) (by omega)).trans (hF_91 s (4 * a1) (by omega))))
                    have h_145 : c_136 s (4 * k9 + 1) = c_89 s (4 * a1 + 1) := (congrArg (c_136 s) (show 4 * k9 + 1 = 4 * a1 + 1 from by omega)).trans ((hF_138 s (4 * a1 + 1) (by omega)).trans (hF_100 s (4 * a1 + 1) (by omega)))
                    have h_146 : c_136 s (4 * k9 + 2) = c_98 s (4 * a1 + 2) := (congrArg (c_136 s) (show 4 * k9 + 2 = 4 * a1 + 2 from by omega)).trans (hF_138 s (4 * a1 + 2) (by omega))
                    have h_147 : c_136 s (4 * k9 + 3) = c_136 s (4 * a1 + 3) := (congrArg (c_136 s) (show 4 * k9 + 3 = 4 * a1 + 3 from by omega))
                    omega
                  by_cases e_148 : k9 = a2
                  · skip
                    have h_149 : c_136 s (4 * k9) = c_78 s (4 * a2) := (congrArg (c_136 s) (show 4 * k9 = 4 * a2 from by omega)).trans ((hF_138 s (4 * a2) (by omega)).trans ((hF_100 s (4 * a2) (by omega)).trans (hF_91 s (4 * a2) (by omega))))
                    have h_150 : c_136 s (4 * k9 + 1) = c_89 s (4 * a2 + 1) := (congrArg (c_136 s) (show 4 * k9 + 1 = 4 * a2 + 1 from by omega)).trans ((hF_138 s (4 * a2 + 1) (by omega)).trans (hF_100 s (4 * a2 + 1) (by omega)))
                    have h_151 : c_136 s (4 * k9 + 2) = c_98 s (4 * a2 + 2) := (congrArg (c_136 s) (show 4 * k9 + 2 = 4 * a2 + 2 from by omega)).trans (hF_138 s (4 * a2 + 2) (by omega))
                    have h_152 : c_136 s (4 * k9 + 3) = c_136 s (4 * a2 + 3) := (congrArg (c_136 s) (show 4 * k9 + 3 = 4 * a2 + 3 from by omega))
                    omega
                  have h_153 := iv_r hI s (4 * k9) hj9 (by omega)
                  have h_154 := ir_s_g hI hs (j := 4 * k9) (by omega)
                  have h_155 : c_136 s (4 * k9) = c s (4 * k9) := ((hF_138 s (4 * k9) (by omega)).trans ((hF_100 s (4 * k9) (by omega)).trans ((hF_91 s (4 * k9) (by omega)).trans (hF_80 s (4 * k9) (by omega)))))
                  have h_156 := ir_s_g hI hs (j := 4 * k9 + 1) (by omega)
                  have h_157 : c_136 s (4 * k9 + 1) = c s (4 * k9 + 1) := ((hF_138 s (4 * k9 + 1) (by omega)).trans ((hF_100 s (4 * k9 + 1) (by omega)).trans ((hF_91 s (4 * k9 + 1) (by omega)).trans (hF_80 s (4 * k9 + 1) (by omega)))))
                  have h_158 := ir_s_g hI hs (j := 4 * k9 + 2) (by omega)
                  have h_159 : c_136 s (4 * k9 + 2) = c s (4 * k9 + 2) := ((hF_138 s (4 * k9 + 2) (by omega)).trans ((hF_100 s (4 * k9 + 2) (by omega)).trans ((hF_91 s (4 * k9 + 2) (by omega)).trans (hF_80 s (4 * k9 + 2) (by omega)))))
                  have h_160 := ir_s_g hI hs (j := 4 * k9 + 3) (by omega)
                  have h_161 : c_136 s (4 * k9 + 3) = c s (4 * k9 + 3) := ((hF_138 s (4 * k9 + 3) (by omega)).trans ((hF_100 s (4 * k9 + 3) (by omega)).trans ((hF_91 s (4 * k9 + 3) (by omega)).trans (hF_80 s (4 * k9 + 3) (by omega)))))
                  omega
                have hI_162 := iv_close hI_137 hr_142
                exact K c_136 1 hI_162 (fun a j hm => (hF_138 a j (by omega)).trans ((hF_100 a j (by omega)).trans ((hF_91 a j (by omega)).trans (hF_80 a j (by omega))))) ⟨by decide, by decide⟩
            · skip
              refine v_min_g rfl rfl (by omega) (Nat.le_of_ble_eq_true rfl) (by omega) ?_
              refine q_istore rfl (by decide) ?_
              refine q_aload_n rfl rfl ?_
              refine q_iload_n rfl rfl ?_
              refine q_iload_n rfl rfl ?_
              refine q_iload rfl rfl ?_
              refine q_iload rfl rfl ?_
              have h_163 : c_89 s (4 * a1 + 2) = c s (4 * a1 + 2) := ((hF_91 s (4 * a1 + 2) (by omega)).trans (hF_80 s (4 * a1 + 2) (by omega)))
              have h_164 : c_89 s (4 * a2 + 2) = c s (4 * a2 + 2) := ((hF_91 s (4 * a2 + 2) (by omega)).trans (hF_80 s (4 * a2 + 2) (by omega)))
              refine v_cv rfl rfl rfl (ck_sh hs) (by omega) ⟨⟨rfl, rfl⟩, by decide, rfl⟩ (Nat.le_of_ble_eq_true rfl) (Nat.le_of_ble_eq_true rfl) (s_52 (a1 := a1) (a2 := a2) (a3 := 2) (a4 := c s (4 * a1 + 2)) hI_90 hs (show 0 ≤ a1 ∧ a1 ≤ 5 from by omega) (show 0 ≤ a2 ∧ a2 ≤ 5 from by omega) (show 0 ≤ 2 ∧ 2 ≤ 3 from by omega) (show 0 ≤ c s (4 * a1 + 2) ∧ c s (4 * a1 + 2) ≤ 9999 from by omega) (by omega) (by omega) (by omega) (fun c_165 hI_166 hF_167 h_168 => ?_))
              refine bk_inl ?_
              have h_169 := ir_s_g hI_166 hs (j := 4 * a1 + 2) (by omega)
              have h_170 := ir_s_g hI_166 hs (j := 4 * a2 + 2) (by omega)
              refine q_iload rfl rfl ?_
              refine q_iload rfl rfl ?_
              refine v_isub (v := 0 - c s (4 * a1 + 2)) rfl (by omega) ?_
              refine q_istore rfl (by decide) ?_
              refine Wp_ls [(4, vi (0 - c s (4 * a1 + 2))), (6, vi (c s (4 * a1 + 2))), (5, vi 2), (0, .ref sh), (1, vi a1), (2, vi a2), (3, vi a3)] (lsub_cons rfl (lsub_cons rfl (lsub_cons rfl (lsub_cons rfl (lsub_cons rfl (lsub_cons rfl (lsub_cons rfl lsub_nil))))))) ?_
              refine v_iinc (v := 3) rfl rfl (by decide) (by decide) ?_
              refine q_goto (t := 31) rfl (by decide) ?_
              refine q_iload rfl rfl ?_
              refine q_iconst rfl ?_
              refine v_ic_ge_f (t := 74) rfl (by decide) (by decide) ?_
              refine q_iload rfl rfl ?_
              refine q_aload_n rfl rfl ?_
              refine q_iload_n rfl rfl ?_
              refine q_iload rfl rfl ?_
              refine v_cv rfl rfl rfl (ck_sh hs) (by omega) ⟨⟨rfl, rfl⟩, by decide, rfl⟩ (Nat.le_of_ble_eq_true rfl) (Nat.le_of_ble_eq_true rfl) (s_45 (v1 := c s (4 * a1 + 3)) (r := c s (4 * a1 + 3)) (a1 := a1) (a2 := 3) hI_166 hs (show 0 ≤ a1 ∧ a1 ≤ 5 from by omega) (show 0 ≤ 3 ∧ 3 ≤ 3 from by omega) (((hF_167 s (4 * a1 + 3) (by omega)).trans ((hF_91 s (4 * a1 + 3) (by omega)).trans (hF_80 s (4 * a1 + 3) (by omega))))) (by omega) ?_)
              refine bk_inl ?_
              by_cases h_171 : 0 - c s (4 * a1 + 2) < c s (4 * a1 + 3)
              · skip
                refine v_min_l rfl rfl (by omega) (Nat.le_of_ble_eq_true rfl) (by omega) ?_
                refine q_istore rfl (by decide) ?_
                refine q_aload_n rfl rfl ?_
                refine q_iload_n rfl rfl ?_
                refine q_iload_n rfl rfl ?_
                refine q_iload rfl rfl ?_
                refine q_iload rfl rfl ?_
                have h_172 : c_165 s (4 * a1 + 3) = c s (4 * a1 + 3) := ((hF_167 s (4 * a1 + 3) (by omega)).trans ((hF_91 s (4 * a1 + 3) (by omega)).trans (hF_80 s (4 * a1 + 3) (by omega))))
                have h_173 : c_165 s (4 * a2 + 3) = c s (4 * a2 + 3) := ((hF_167 s (4 * a2 + 3) (by omega)).trans ((hF_91 s (4 * a2 + 3) (by omega)).trans (hF_80 s (4 * a2 + 3) (by omega))))
                refine v_cv rfl rfl rfl (ck_sh hs) (by omega) ⟨⟨rfl, rfl⟩, by decide, rfl⟩ (Nat.le_of_ble_eq_true rfl) (Nat.le_of_ble_eq_true rfl) (s_52 (a1 := a1) (a2 := a2) (a3 := 3) (a4 := 0 - c s (4 * a1 + 2)) hI_166 hs (show 0 ≤ a1 ∧ a1 ≤ 5 from by omega) (show 0 ≤ a2 ∧ a2 ≤ 5 from by omega) (show 0 ≤ 3 ∧ 3 ≤ 3 from by omega) (show 0 ≤ 0 - c s (4 * a1 + 2) ∧ 0 - c s (4 * a1 + 2) ≤ 9999 from by omega) (by omega) (by omega) (by omega) (fun c_174 hI_175 hF_176 h_177 => ?_))
                refine bk_inl ?_
                have h_178 := ir_s_g hI_175 hs (j := 4 * a1 + 3) (by omega)
                have h_179 := ir_s_g hI_175 hs (j := 4 * a2 + 3) (by omega)
                refine q_iload rfl rfl ?_
                refine q_iload rfl rfl ?_
                refine v_isub (v := 0) rfl (by decide) ?_
                refine q_istore rfl (by decide) ?_
                refine v_iinc (v := 4) rfl rfl (by decide) (by decide) ?_
                refine q_goto (t := 31) rfl (by decide) ?_
                refine q_iload rfl rfl ?_
                refine q_iconst rfl ?_
                refine v_ic_ge_t (t := 74) rfl (by decide) (by decide) ?_
                refine q_aload_n rfl rfl ?_
                refine q_iload_n rfl rfl ?_
                refine v_cv rfl rfl rfl (ck_sh hs) (by omega) ⟨⟨rfl, rfl⟩, by decide, rfl⟩ (Nat.le_of_ble_eq_true rfl) (Nat.le_of_ble_eq_true rfl) (s_43 (v1 := c_78 s (4 * a1)) (v2 := c_89 s (4 * a1 + 1)) (v3 := c_165 s (4 * a1 + 2)) (v4 := c_174 s (4 * a1 + 3)) (r := c_165 s (4 * a1 + 2) + c_174 s (4 * a1 + 3) + c_78 s (4 * a1) + c_89 s (4 * a1 + 1)) (a1 := a1) hI_175 hs (show 0 ≤ a1 ∧ a1 ≤ 5 from by omega) (((hF_176 s (4 * a1) (by omega)).trans ((hF_167 s (4 * a1) (by omega)).trans (hF_91 s (4 * a1) (by omega))))) (((hF_176 s (4 * a1 + 1) (by omega)).trans (hF_167 s (4 * a1 + 1) (by omega)))) ((hF_176 s (4 * a1 + 2) (by omega))) (rfl) (by omega) ?_)
                refine bk_inl ?_
                refine v_if_ne_t (t := 92) rfl (by decide) (by omega) ?_
                refine q_iconst rfl ?_
                refine v_zret rfl rfl (by omega) ?_
                have hr_180 : ∀ j : Int, rs s j → c_174 s j + c_174 s (j + 1) + c_174 s (j + 2) + c_174 s (j + 3) ≤ 9999 := by
                  intro j9 hj9
                  obtain ⟨k9, rfl, hk9⟩ := rs_s hs hj9
                  by_cases e_181 : k9 = a1
                  · skip
                    have h_182 : c_174 s (4 * k9) = c_78 s (4 * a1) := (congrArg (c_174 s) (show 4 * k9 = 4 * a1 from by omega)).trans ((hF_176 s (4 * a1) (by omega)).trans ((hF_167 s (4 * a1) (by omega)).trans (hF_91 s (4 * a1) (by omega))))
                    have h_183 : c_174 s (4 * k9 + 1) = c_89 s (4 * a1 + 1) := (congrArg (c_174 s) (show 4 * k9 + 1 = 4 * a1 + 1 from by omega)).trans ((hF_176 s (4 * a1 + 1) (by omega)).trans (hF_167 s (4 * a1 + 1) (by omega)))
                    have h_184 : c_174 s (4 * k9 + 2) = c_165 s (4 * a1 + 2) := (congrArg (c_174 s) (show 4 * k9 + 2 = 4 * a1 + 2 from by omega)).trans (hF_176 s (4 * a1 + 2) (by omega))
                    have h_185 : c_174 s (4 * k9 + 3) = c_174 s (4 * a1 + 3) := (congrArg (c_174 s) (show 4 * k9 + 3 = 4 * a1 + 3 from by omega))
                    omega
                  by_cases e_186 : k9 = a2
                  · skip
                    have h_187 : c_174 s (4 * k9) = c_78 s (4 * a2) := (congrArg (c_174 s) (show 4 * k9 = 4 * a2 from by omega)).trans ((hF_176 s (4 * a2) (by omega)).trans ((hF_167 s (4 * a2) (by omega)).trans (hF_91 s (4 * a2) (by omega))))
                    have h_188 : c_174 s (4 * k9 + 1) = c_89 s (4 * a2 + 1) := (congrArg (c_174 s) (show 4 * k9 + 1 = 4 * a2 + 1 from by omega)).trans ((hF_176 s (4 * a2 + 1) (by omega)).trans (hF_167 s (4 * a2 + 1) (by omega)))
                    have h_189 : c_174 s (4 * k9 + 2) = c_165 s (4 * a2 + 2) := (congrArg (c_174 s) (show 4 * k9 + 2 = 4 * a2 + 2 from by omega)).trans (hF_176 s (4 * a2 + 2) (by omega))
                    have h_190 : c_174 s (4 * k9 + 3) = c_174 s (4 * a2 + 3) := (congrArg (c_174 s) (show 4 * k9 + 3 = 4 * a2 + 3 from by omega))
                    omega
                  have h_191 := iv_r hI s (4 * k9) hj9 (by omega)
                  have h_192 := ir_s_g hI hs (j := 4 * k9) (by omega)
                  have h_193 : c_174 s (4 * k9) = c s (4 * k9) := ((hF_176 s (4 * k9) (by omega)).trans ((hF_167 s (4 * k9) (by omega)).trans ((hF_91 s (4 * k9) (by omega)).trans (hF_80 s (4 * k9) (by omega)))))
                  have h_194 := ir_s_g hI hs (j := 4 * k9 + 1) (by omega)
                  have h_195 : c_174 s (4 * k9 + 1) = c s (4 * k9 + 1) := ((hF_176 s (4 * k9 + 1) (by omega)).trans ((hF_167 s (4 * k9 + 1) (by omega)).trans ((hF_91 s (4 * k9 + 1) (by omega)).trans (hF_80 s (4 * k9 + 1) (by omega)))))
                  have h_196 := ir_s_g hI hs (j := 4 * k9 + 2) (by omega)
                  have h_197 : c_174 s (4 * k9 + 2) = c s (4 * k9 + 2) := ((hF_176 s (4 * k9 + 2) (by omega)).trans ((hF_167 s (4 * k9 + 2) (by omega)).trans ((hF_91 s (4 * k9 + 2) (by omega)).trans (hF_80 s (4 * k9 + 2) (by omega)))))
                  have h_198 := ir_s_g hI hs (j := 4 * k9 + 3) (by omega)
                  have h_199 : c_174 s (4 * k9 + 3) = c s (4 * k9 + 3) := ((hF_176 s (4 * k9 + 3) (by omega)).trans ((hF_167 s (4 * k9 + 3) (by omega)).trans ((hF_91 s (4 * k9 + 3) (by omega)).trans (hF_80 s (4 * k9 + 3) (by omega)))))
                  omega
                have hI_200 := iv_close hI_175 hr_180
                exact K c_174 1 hI_200 (fun a j hm => (hF_176 a j (by omega)).trans ((hF_167 a j (by omega)).trans ((hF_91 a j (by omega)).trans (hF_80 a j (by omega))))) ⟨by decide, by decide⟩
              · skip
                refine v_min_g rfl rfl (by omega) (Nat.le_of_ble_eq_true rfl) (by omega) ?_
                refine q_istore rfl (by decide) ?_
                refine q_aload_n rfl rfl ?_
                refine q_iload_n rfl rfl ?_
                refine q_iload_n rfl rfl ?_
                refine q_iload rfl rfl ?_
                refine q_iload rfl rfl ?_
                have h_201 : c_165 s (4 * a1 + 3) = c s (4 * a1 + 3) := ((hF_167 s (4 * a1 + 3) (by omega)).trans ((hF_91 s (4 * a1 + 3) (by omega)).trans (hF_80 s (4 * a1 + 3) (by omega))))
                have h_202 : c_165 s (4 * a2 + 3) = c s (4 * a2 + 3) := ((hF_167 s (4 * a2 + 3) (by omega)).trans ((hF_91 s (4 * a2 + 3) (by omega)).trans (hF_80 s (4 * a2 + 3) (by omega))))
                refine v_cv rfl rfl rfl (ck_sh hs) (by omega) ⟨⟨rfl, rfl⟩, by decide, rfl⟩ (Nat.le_of_ble_eq_true rfl) (Nat.le_of_ble_eq_true rfl) (s_52 (a1 := a1) (a2 := a2) (a3 := 3) (a4 := c s (4 * a1 + 3)) hI_166 hs (show 0 ≤ a1 ∧ a1 ≤ 5 from by omega) (show 0 ≤ a2 ∧ a2 ≤ 5 from by omega) (show 0 ≤ 3 ∧ 3 ≤ 3 from by omega) (show 0 ≤ c s (4 * a1 + 3) ∧ c s (4 * a1 + 3) ≤ 9999 from by omega) (by omega) (by omega) (by omega) (fun c_203 hI_204 hF_205 h_206 => ?_))
                refine bk_inl ?_
                have h_207 := ir_s_g hI_204 hs (j := 4 * a1 + 3) (by omega)
                have h_208 := ir_s_g hI_204 hs (j := 4 * a2 + 3) (by omega)
                refine q_iload rfl rfl ?_
                refine q_iload rfl rfl ?_
                refine v_isub (v := 0 - c s (4 * a1 + 2) - c s (4 * a1 + 3)) rfl (by omega) ?_
                refine q_istore rfl (by decide) ?_
                refine v_iinc (v := 4) rfl rfl (by decide) (by decide) ?_
                refine q_goto (t := 31) rfl (by decide) ?_
                refine q_iload rfl rfl ?_
                refine q_iconst rfl ?_
                refine v_ic_ge_t (t := 74) rfl (by decide) (by decide) ?_
                refine q_aload_n rfl rfl ?_
                refine q_iload_n rfl rfl ?_
                refine v_cv rfl rfl rfl (ck_sh hs) (by omega) ⟨⟨rfl, rfl⟩, by decide, rfl⟩ (Nat.le_of_ble_eq_true rfl) (Nat.le_of_ble_eq_true rfl) (s_43 (v1 := c_78 s (4 * a1)) (v2 := c_89 s (4 * a1 + 1)) (v3 := c_165 s (4 * a1 + 2)) (v4 := c_203 s (4 * a1 + 3)) (r := c_165 s (4 * a1 + 2) + c_203 s (4 * a1 + 3) + c_78 s (4 * a1) + c_89 s (4 * a1 + 1)) (a1 := a1) hI_204 hs (show 0 ≤ a1 ∧ a1 ≤ 5 from by omega) (((hF_205 s (4 * a1) (by omega)).trans ((hF_167 s (4 * a1) (by omega)).trans (hF_91 s (4 * a1) (by omega))))) (((hF_205 s (4 * a1 + 1) (by omega)).trans (hF_167 s (4 * a1 + 1) (by omega)))) ((hF_205 s (4 * a1 + 2) (by omega))) (rfl) (by omega) ?_)
                refine bk_inl ?_
                refine v_if_ne_t (t := 92) rfl (by decide) (by omega) ?_
                refine q_iconst rfl ?_
                refine v_zret rfl rfl (by omega) ?_
                have hr_209 : ∀ j : Int, rs s j → c_203 s j + c_203 s (j + 1) + c_203 s (j + 2) + c_203 s (j + 3) ≤ 9999 := by
                  intro j9 hj9
                  obtain ⟨k9, rfl, hk9⟩ := rs_s hs hj9
                  by_cases e_210 : k9 = a1
                  · skip
                    have h_211 : c_203 s (4 * k9) = c_78 s (4 * a1) := (congrArg (c_203 s) (show 4 * k9 = 4 * a1 from by omega)).trans ((hF_205 s (4 * a1) (by omega)).trans ((hF_167 s (4 * a1) (by omega)).trans (hF_91 s (4 * a1) (by omega))))
                    have h_212 : c_203 s (4 * k9 + 1) = c_89 s (4 * a1 + 1) := (congrArg (c_203 s) (show 4 * k9 + 1 = 4 * a1 + 1 from by omega)).trans ((hF_205 s (4 * a1 + 1) (by omega)).trans (hF_167 s (4 * a1 + 1) (by omega)))
                    have h_213 : c_203 s (4 * k9 + 2) = c_165 s (4 * a1 + 2) := (congrArg (c_203 s) (show 4 * k9 + 2 = 4 * a1 + 2 from by omega)).trans (hF_205 s (4 * a1 + 2) (by omega))
                    have h_214 : c_203 s (4 * k9 + 3) = c_203 s (4 * a1 + 3) := (congrArg (c_203 s) (show 4 * k9 + 3 = 4 * a1 + 3 from by omega))
                    omega
                  by_cases e_215 : k9 = a2
                  · skip
                    have h_216 : c_203 s (4 * k9) = c_78 s (4 * a2) := (congrArg (c_203 s) (show 4 * k9 = 4 * a2 from by omega)).trans ((hF_205 s (4 * a2) (by omega)).trans ((hF_167 s (4 * a2) (by omega)).trans (hF_91 s (4 * a2) (by omega))))
                    have h_217 : c_203 s (4 * k9 + 1) = c_89 s (4 * a2 + 1) := (congrArg (c_203 s) (show 4 * k9 + 1 = 4 * a2 + 1 from by omega)).trans ((hF_205 s (4 * a2 + 1) (by omega)).trans (hF_167 s (4 * a2 + 1) (by omega)))
                    have h_218 : c_203 s (4 * k9 + 2) = c_165 s (4 * a2 + 2) := (congrArg (c_203 s) (show 4 * k9 + 2 = 4 * a2 + 2 from by omega)).trans (hF_205 s (4 * a2 + 2) (by omega))
                    have h_219 : c_203 s (4 * k9 + 3) = c_203 s (4 * a2 + 3) := (congrArg (c_203 s) (show 4 * k9 + 3 = 4 * a2 + 3 from by omega))
                    omega
                  have h_220 := iv_r hI s (4 * k9) hj9 (by omega)
                  have h_221 := ir_s_g hI hs (j := 4 * k9) (by omega)
                  have h_222 : c_203 s (4 * k9) = c s (4 * k9) := ((hF_205 s (4 * k9) (by omega)).trans ((hF_167 s (4 * k9) (by omega)).trans ((hF_91 s (4 * k9) (by omega)).trans (hF_80 s (4 * k9) (by omega)))))
                  have h_223 := ir_s_g hI hs (j := 4 * k9 + 1) (by omega)
                  have h_224 : c_203 s (4 * k9 + 1) = c s (4 * k9 + 1) := ((hF_205 s (4 * k9 + 1) (by omega)).trans ((hF_167 s (4 * k9 + 1) (by omega)).trans ((hF_91 s (4 * k9 + 1) (by omega)).trans (hF_80 s (4 * k9 + 1) (by omega)))))
                  have h_225 := ir_s_g hI hs (j := 4 * k9 + 2) (by omega)
                  have h_226 : c_203 s (4 * k9 + 2) = c s (4 * k9 + 2) := ((hF_205 s (4 * k9 + 2) (by omega)).trans ((hF_167 s (4 * k9 + 2) (by omega)).trans ((hF_91 s (4 * k9 + 2) (by omega)).trans (hF_80 s (4 * k9 + 2) (by omega)))))
                  have h_227 := ir_s_g hI hs (j := 4 * k9 + 3) (by omega)
                  have h_228 : c_203 s (4 * k9 + 3) = c s (4 * k9 + 3) := ((hF_205 s (4 * k9 + 3) (by omega)).trans ((hF_167 s (4 * k9 + 3) (by omega)).trans ((hF_91 s (4 * k9 + 3) (by omega)).trans (hF_80 s (4 * k9 + 3) (by omega)))))
                  omega
                have hI_229 := iv_close hI_204 hr_209
                exact K c_203 1 hI_229 (fun a j hm => (hF_205 a j (by omega)).trans ((hF_167 a j (by omega)).trans ((hF_91 a j (by omega)).trans (hF_80 a j (by omega))))) ⟨by decide, by decide⟩
          · skip
            refine v_min_g rfl rfl (by omega) (Nat.le_of_ble_eq_true rfl) (by omega) ?_
            refine q_istore rfl (by decide) ?_
            refine q_aload_n rfl rfl ?_
            refine q_iload_n rfl rfl ?_
            refine q_iload_n rfl rfl ?_
            refine q_iload rfl rfl ?_
            refine q_iload rfl rfl ?_
            have h_230 : c_78 s (4 * a1 + 1) = c s (4 * a1 + 1) := (hF_80 s (4 * a1 + 1) (by omega))
            have h_231 : c_78 s (4 * a2 + 1) = c s (4 * a2 + 1) := (hF_80 s (4 * a2 + 1) (by omega))
            refine v_cv rfl rfl rfl (ck_sh hs) (by omega) ⟨⟨rfl, rfl⟩, by decide, rfl⟩ (Nat.le_of_ble_eq_true rfl) (Nat.le_of_ble_eq_true rfl) (s_52 (a1 := a1) (a2 := a2) (a3 := 1) (a4 := c s (4 * a1 + 1)) hI_79 hs (show 0 ≤ a1 ∧ a1 ≤ 5 from by omega) (show 0 ≤ a2 ∧ a2 ≤ 5 from by omega) (show 0 ≤ 1 ∧ 1 ≤ 3 from by omega) (show 0 ≤ c s (4 * a1 + 1) ∧ c s (4 * a1 + 1) ≤ 9999 from by omega) (by omega) (by omega) (by omega) (fun c_232 hI_233 hF_234 h_235 => ?_))
            refine bk_inl ?_
            have h_236 := ir_s_g hI_233 hs (j := 4 * a1 + 1) (by omega)
            have h_237 := ir_s_g hI_233 hs (j := 4 * a2 + 1) (by omega)
            refine q_iload rfl rfl ?_
            refine q_iload rfl rfl ?_
            refine v_isub (v := 0 - c s (4 * a1 + 1)) rfl (by omega) ?_
            refine q_istore rfl (by decide) ?_
            refine v_iinc (v := 2) rfl rfl (by decide) (by decide) ?_
            refine q_goto (t := 31) rfl (by decide) ?_
            refine q_iload rfl rfl ?_
            refine q_iconst rfl ?_
            refine v_ic_ge_f (t := 74) rfl (by decide) (by decide) ?_
            refine q_iload rfl rfl ?_
            refine q_aload_n rfl rfl ?_
            refine q_iload_n rfl rfl ?_
            refine q_iload rfl rfl ?_
            refine v_cv rfl rfl rfl (ck_sh hs) (by omega) ⟨⟨rfl, rfl⟩, by decide, rfl⟩ (Nat.le_of_ble_eq_true rfl) (Nat.le_of_ble_eq_true rfl) (s_45 (v1 := c s (4 * a1 + 2)) (r := c s (4 * a1 + 2)) (a1 := a1) (a2 := 2) hI_233 hs (show 0 ≤ a1 ∧ a1 ≤ 5 from by omega) (show 0 ≤ 2 ∧ 2 ≤ 3 from by omega) (((hF_234 s (4 * a1 + 2) (by omega)).trans (hF_80 s (4 * a1 + 2) (by omega)))) (by omega) ?_)
            refine bk_inl ?_
            by_cases h_238 : 0 - c s (4 * a1 + 1) < c s (4 * a1 + 2)
            · skip
              refine v_min_l rfl rfl (by omega) (Nat.le_of_ble_eq_true rfl) (by omega) ?_
              refine q_istore rfl (by decide) ?_
              refine q_aload_n rfl rfl ?_
              refine q_iload_n rfl rfl ?_
              refine q_iload_n rfl rfl ?_
              refine q_iload rfl rfl ?_
              refine q_iload rfl rfl ?_
              have h_239 : c_232 s (4 * a1 + 2) = c s (4 * a1 + 2) := ((hF_234 s (4 * a1 + 2) (by omega)).trans (hF_80 s (4 * a1 + 2) (by omega)))
              have h_240 : c_232 s (4 * a2 + 2) = c s (4 * a2 + 2) := ((hF_234 s (4 * a2 + 2) (by omega)).trans (hF_80 s (4 * a2 + 2) (by omega)))
              refine v_cv rfl rfl rfl (ck_sh hs) (by omega) ⟨⟨rfl, rfl⟩, by decide, rfl⟩ (Nat.le_of_ble_eq_true rfl) (Nat.le_of_ble_eq_true rfl) (s_52 (a1 := a1) (a2 := a2) (a3 := 2) (a4 := 0 - c s (4 * a1 + 1)) hI_233 hs (show 0 ≤ a1 ∧ a1 ≤ 5 from by omega) (show 0 ≤ a2 ∧ a2 ≤ 5 from by omega) (show 0 ≤ 2 ∧ 2 ≤ 3 from by omega) (show 0 ≤ 0 - c s (4 * a1 + 1) ∧ 0 - c s (4 * a1 + 1) ≤ 9999 from by omega) (by omega) (by omega) (by omega) (fun c_241 hI_242 hF_243 h_244 => ?_))
              refine bk_inl ?_
              have h_245 := ir_s_g hI_242 hs (j := 4 * a1 + 2) (by omega)
              have h_246 := ir_s_g hI_242 hs (j := 4 * a2 + 2) (by omega)
              refine q_iload rfl rfl ?_
              refine q_iload rfl rfl ?_
              refine v_isub (v := 0) rfl (by decide) ?_
              refine q_istore rfl (by decide) ?_
              refine Wp_ls [(4, vi 0), (6, vi (0 - c s (4 * a1 + 1))), (5, vi 2), (0, .ref sh), (1, vi a1), (2, vi a2), (3, vi a3)] (lsub_cons rfl (lsub_cons rfl (lsub_cons rfl (lsub_cons rfl (lsub_cons rfl (lsub_cons rfl (lsub_cons rfl lsub_nil))))))) ?_
              refine v_iinc (v := 3) rfl rfl (by decide) (by decide) ?_
              refine q_goto (t := 31) rfl (by decide) ?_
              refine q_iload rfl rfl ?_
              refine q_iconst rfl ?_
              refine v_ic_ge_f (t := 74) rfl (by decide) (by decide) ?_
              refine q_iload rfl rfl ?_
              refine q_aload_n rfl rfl ?_
              refine q_iload_n rfl rfl ?_
              refine q_iload rfl rfl ?_
              refine v_cv rfl rfl rfl (ck_sh hs) (by omega) ⟨⟨rfl, rfl⟩, by decide, rfl⟩ (Nat.le_of_ble_eq_true rfl) (Nat.le_of_ble_eq_true rfl) (s_45 (v1 := c s (4 * a1 + 3)) (r := c s (4 * a1 + 3)) (a1 := a1) (a2 := 3) hI_242 hs (show 0 ≤ a1 ∧ a1 ≤ 5 from by omega) (show 0 ≤ 3 ∧ 3 ≤ 3 from by omega) (((hF_243 s (4 * a1 + 3) (by omega)).trans ((hF_234 s (4 * a1 + 3) (by omega)).trans (hF_80 s (4 * a1 + 3) (by omega))))) (by omega) ?_)
              refine bk_inl ?_
              by_cases h_247 : 0 < c s (4 * a1 + 3)
              · skip
                refine v_min_l rfl rfl (by omega) (Nat.le_of_ble_eq_true rfl) (by omega) ?_
                refine q_istore rfl (by decide) ?_
                refine q_aload_n rfl rfl ?_
                refine q_iload_n rfl rfl ?_
                refine q_iload_n rfl rfl ?_
                refine q_iload rfl rfl ?_
                refine q_iload rfl rfl ?_
                have h_248 : c_241 s (4 * a1 + 3) = c s (4 * a1 + 3) := ((hF_243 s (4 * a1 + 3) (by omega)).trans ((hF_234 s (4 * a1 + 3) (by omega)).trans (hF_80 s (4 * a1 + 3) (by omega))))
                have h_249 : c_241 s (4 * a2 + 3) = c s (4 * a2 + 3) := ((hF_243 s (4 * a2 + 3) (by omega)).trans ((hF_234 s (4 * a2 + 3) (by omega)).trans (hF_80 s (4 * a2 + 3) (by omega))))
                refine v_cv rfl rfl rfl (ck_sh hs) (by omega) ⟨⟨rfl, rfl⟩, by decide, rfl⟩ (Nat.le_of_ble_eq_true rfl) (Nat.le_of_ble_eq_true rfl) (s_52 (a1 := a1) (a2 := a2) (a3 := 3) (a4 := 0) hI_242 hs (show 0 ≤ a1 ∧ a1 ≤ 5 from by omega) (show 0 ≤ a2 ∧ a2 ≤ 5 from by omega) (show 0 ≤ 3 ∧ 3 ≤ 3 from by omega) (show 0 ≤ 0 ∧ 0 ≤ 9999 from by omega) (by omega) (by omega) (by omega) (fun c_250 hI_251 hF_252 h_253 => ?_))
                refine bk_inl ?_
                have h_254 := ir_s_g hI_251 hs (j := 4 * a1 + 3) (by omega)
                have h_255 := ir_s_g hI_251 hs (j := 4 * a2 + 3) (by omega)
                refine q_iload rfl rfl ?_
                refine q_iload rfl rfl ?_
                refine v_isub (v := 0) rfl (by decide) ?_
                refine q_istore rfl (by decide) ?_
                refine v_iinc (v := 4) rfl rfl (by decide) (by decide) ?_
                refine q_goto (t := 31) rfl (by decide) ?_
                refine q_iload rfl rfl ?_
                refine q_iconst rfl ?_
                refine v_ic_ge_t (t := 74) rfl (by decide) (by decide) ?_
                refine q_aload_n rfl rfl ?_
                refine q_iload_n rfl rfl ?_
                refine v_cv rfl rfl rfl (ck_sh hs) (by omega) ⟨⟨rfl, rfl⟩, by decide, rfl⟩ (Nat.le_of_ble_eq_true rfl) (Nat.le_of_ble_eq_true rfl) (s_43 (v1 := c_78 s (4 * a1)) (v2 := c_232 s (4 * a1 + 1)) (v3 := c_241 s (4 * a1 + 2)) (v4 := c_250 s (4 * a1 + 3)) (r := c_232 s (4 * a1 + 1) + c_241 s (4 * a1 + 2) + c_250 s (4 * a1 + 3) + c_78 s (4 * a1)) (a1 := a1) hI_251 hs (show 0 ≤ a1 ∧ a1 ≤ 5 from by omega) (((hF_252 s (4 * a1) (by omega)).trans ((hF_243 s (4 * a1) (by omega)).trans (hF_234 s (4 * a1) (by omega))))) (((hF_252 s (4 * a1 + 1) (by omega)).trans (hF_243 s (4 * a1 + 1) (by omega)))) ((hF_252 s (4 * a1 + 2) (by omega))) (rfl) (by omega) ?_)
                refine bk_inl ?_
                refine v_if_ne_t (t := 92) rfl (by decide) (by omega) ?_
                refine q_iconst rfl ?_
                refine v_zret rfl rfl (by omega) ?_
                have hr_256 : ∀ j : Int, rs s j → c_250 s j + c_250 s (j + 1) + c_250 s (j + 2) + c_250 s (j + 3) ≤ 9999 := by
                  intro j9 hj9
                  obtain ⟨k9, rfl, hk9⟩ := rs_s hs hj9
                  by_cases e_257 : k9 = a1
                  · skip
                    have h_258 : c_250 s (4 * k9) = c_78 s (4 * a1) := (congrArg (c_250 s) (show 4 * k9 = 4 * a1 from by omega)).trans ((hF_252 s (4 * a1) (by omega)).trans ((hF_243 s (4 * a1) (by omega)).trans (hF_234 s (4 * a1) (by omega))))
                    have h_259 : c_250 s (4 * k9 + 1) = c_232 s (4 * a1 + 1) := (congrArg (c_250 s) (show 4 * k9 + 1 = 4 * a1 + 1 from by omega)).trans ((hF_252 s (4 * a1 + 1) (by omega)).trans (hF_243 s (4 * a1 + 1) (by omega)))
                    have h_260 : c_250 s (4 * k9 + 2) = c_241 s (4 * a1 + 2) := (congrArg (c_250 s) (show 4 * k9 + 2 = 4 * a1 + 2 from by omega)).trans (hF_252 s (4 * a1 + 2) (by omega))
                    have h_261 : c_250 s (4 * k9 + 3) = c_250 s (4 * a1 + 3) := (congrArg (c_250 s) (show 4 * k9 + 3 = 4 * a1 + 3 from by omega))
                    omega
                  by_cases e_262 : k9 = a2
                  · skip
                    have h_263 : c_250 s (4 * k9) = c_78 s (4 * a2) := (congrArg (c_250 s) (show 4 * k9 = 4 * a2 from by omega)).trans ((hF_252 s (4 * a2) (by omega)).trans ((hF_243 s (4 * a2) (by omega)).trans (hF_234 s (4 * a2) (by omega))))
                    have h_264 : c_250 s (4 * k9 + 1) = c_232 s (4 * a2 + 1) := (congrArg (c_250 s) (show 4 * k9 + 1 = 4 * a2 + 1 from by omega)).trans ((hF_252 s (4 * a2 + 1) (by omega)).trans (hF_243 s (4 * a2 + 1) (by omega)))
                    have h_265 : c_250 s (4 * k9 + 2) = c_241 s (4 * a2 + 2) := (congrArg (c_250 s) (show 4 * k9 + 2 = 4 * a2 + 2 from by omega)).trans (hF_252 s (4 * a2 + 2) (by omega))
                    have h_266 : c_250 s (4 * k9 + 3) = c_250 s (4 * a2 + 3) := (congrArg (c_250 s) (show 4 * k9 + 3 = 4 * a2 + 3 from by omega))
                    omega
                  have h_267 := iv_r hI s (4 * k9) hj9 (by omega)
                  have h_268 := ir_s_g hI hs (j := 4 * k9) (by omega)
                  have h_269 : c_250 s (4 * k9) = c s (4 * k9) := ((hF_252 s (4 * k9) (by omega)).trans ((hF_243 s (4 * k9) (by omega)).trans ((hF_234 s (4 * k9) (by omega)).trans (hF_80 s (4 * k9) (by omega)))))
                  have h_270 := ir_s_g hI hs (j := 4 * k9 + 1) (by omega)
                  have h_271 : c_250 s (4 * k9 + 1) = c s (4 * k9 + 1) := ((hF_252 s (4 * k9 + 1) (by omega)).trans ((hF_243 s (4 * k9 + 1) (by omega)).trans ((hF_234 s (4 * k9 + 1) (by omega)).trans (hF_80 s (4 * k9 + 1) (by omega)))))
                  have h_272 := ir_s_g hI hs (j := 4 * k9 + 2) (by omega)
                  have h_273 : c_250 s (4 * k9 + 2) = c s (4 * k9 + 2) := ((hF_252 s (4 * k9 + 2) (by omega)).trans ((hF_243 s (4 * k9 + 2) (by omega)).trans ((hF_234 s (4 * k9 + 2) (by omega)).trans (hF_80 s (4 * k9 + 2) (by omega)))))
                  have h_274 := ir_s_g hI hs (j := 4 * k9 + 3) (by omega)
                  have h_275 : c_250 s (4 * k9 + 3) = c s (4 * k9 + 3) := ((hF_252 s (4 * k9 + 3) (by omega)).trans ((hF_243 s (4 * k9 + 3) (by omega)).trans ((hF_234 s (4 * k9 + 3) (by omega)).trans (hF_80 s (4 * k9 + 3) (by omega)))))
                  omega
                have hI_276 := iv_close hI_251 hr_256
                exact K c_250 1 hI_276 (fun a j hm => (hF_252 a j (by omega)).trans ((hF_243 a j (by omega)).trans ((hF_234 a j (by omega)).trans (hF_80 a j (by omega))))) ⟨by decide, by decide⟩
              · skip
                refine v_min_g rfl rfl (by omega) (Nat.le_of_ble_eq_true rfl) (by omega) ?_
                refine q_istore rfl (by decide) ?_
                refine q_aload_n rfl rfl ?_
                refine q_iload_n rfl rfl ?_
                refine q_iload_n rfl rfl ?_
                refine q_iload rfl rfl ?_
                refine q_iload rfl rfl ?_
                have h_277 : c_241 s (4 * a1 + 3) = c s (4 * a1 + 3) := ((hF_243 s (4 * a1 + 3) (by omega)).trans ((hF_234 s (4 * a1 + 3) (by omega)).trans (hF_80 s (4 * a1 + 3) (by omega))))
                have h_278 : c_241 s (4 * a2 + 3) = c s (4 * a2 + 3) := ((hF_243 s (4 * a2 + 3) (by omega)).trans ((hF_234 s (4 * a2 + 3) (by omega)).trans (hF_80 s (4 * a2 + 3) (by omega))))
                refine v_cv rfl rfl rfl (ck_sh hs) (by omega) ⟨⟨rfl, rfl⟩, by decide, rfl⟩ (Nat.le_of_ble_eq_true rfl) (Nat.le_of_ble_eq_true rfl) (s_52 (a1 := a1) (a2 := a2) (a3 := 3) (a4 := c s (4 * a1 + 3)) hI_242 hs (show 0 ≤ a1 ∧ a1 ≤ 5 from by omega) (show 0 ≤ a2 ∧ a2 ≤ 5 from by omega) (show 0 ≤ 3 ∧ 3 ≤ 3 from by omega) (show 0 ≤ c s (4 * a1 + 3) ∧ c s (4 * a1 + 3) ≤ 9999 from by omega) (by omega) (by omega) (by omega) (fun c_279 hI_280 hF_281 h_282 => ?_))
                refine bk_inl ?_
                have h_283 := ir_s_g hI_280 hs (j := 4 * a1 + 3) (by omega)
                have h_284 := ir_s_g hI_280 hs (j := 4 * a2 + 3) (by omega)
                refine q_iload rfl rfl ?_
                refine q_iload rfl rfl ?_
                refine v_isub (v := 0 - c s (4 * a1 + 3)) rfl (by omega) ?_
                refine q_istore rfl (by decide) ?_
                refine v_iinc (v := 4) rfl rfl (by decide) (by decide) ?_
                refine q_goto (t := 31) rfl (by decide) ?_
                refine q_iload rfl rfl ?_
                refine q_iconst rfl ?_
                refine v_ic_ge_t (t := 74) rfl (by decide) (by decide) ?_
                refine q_aload_n rfl rfl ?_
                refine q_iload_n rfl rfl ?_
                refine v_cv rfl rfl rfl (ck_sh hs) (by omega) ⟨⟨rfl, rfl⟩, by decide, rfl⟩ (Nat.le_of_ble_eq_true rfl) (Nat.le_of_ble_eq_true rfl) (s_43 (v1 := c_78 s (4 * a1)) (v2 := c_232 s (4 * a1 + 1)) (v3 := c_241 s (4 * a1 + 2)) (v4 := c_279 s (4 * a1 + 3)) (r := c_232 s (4 * a1 + 1) + c_241 s (4 * a1 + 2) + c_279 s (4 * a1 + 3) + c_78 s (4 * a1)) (a1 := a1) hI_280 hs (show 0 ≤ a1 ∧ a1 ≤ 5 from by omega) (((hF_281 s (4 * a1) (by omega)).trans ((hF_243 s (4 * a1) (by omega)).trans (hF_234 s (4 * a1) (by omega))))) (((hF_281 s (4 * a1 + 1) (by omega)).trans (hF_243 s (4 * a1 + 1) (by omega)))) ((hF_281 s (4 * a1 + 2) (by omega))) (rfl) (by omega) ?_)
                refine bk_inl ?_
                refine v_if_ne_t (t := 92) rfl (by decide) (by omega) ?_
                refine q_iconst rfl ?_
                refine v_zret rfl rfl (by omega) ?_
                have hr_285 : ∀ j : Int, rs s j → c_279 s j + c_279 s (j + 1) + c_279 s (j + 2) + c_279 s (j + 3) ≤ 9999 := by
                  intro j9 hj9
                  obtain ⟨k9, rfl, hk9⟩ := rs_s hs hj9
                  by_cases e_286 : k9 = a1
                  · skip
                    have h_287 : c_279 s (4 * k9) = c_78 s (4 * a1) := (congrArg (c_279 s) (show 4 * k9 = 4 * a1 from by omega)).trans ((hF_281 s (4 * a1) (by omega)).trans ((hF_243 s (4 * a1) (by omega)).trans (hF_234 s (4 * a1) (by omega))))
                    have h_288 : c_279 s (4 * k9 + 1) = c_232 s (4 * a1 + 1) := (congrArg (c_279 s) (show 4 * k9 + 1 = 4 * a1 + 1 from by omega)).trans ((hF_281 s (4 * a1 + 1) (by omega)).trans (hF_243 s (4 * a1 + 1) (by omega)))
                    have h_289 : c_279 s (4 * k9 + 2) = c_241 s (4 * a1 + 2) := (congrArg (c_279 s) (show 4 * k9 + 2 = 4 * a1 + 2 from by omega)).trans (hF_281 s (4 * a1 + 2) (by omega))
                    have h_290 : c_279 s (4 * k9 + 3) = c_279 s (4 * a1 + 3) := (congrArg (c_279 s) (show 4 * k9 + 3 = 4 * a1 + 3 from by omega))
                    omega
                  by_cases e_291 : k9 = a2
                  · skip
                    have h_292 : c_279 s (4 * k9) = c_78 s (4 * a2) := (congrArg (c_279 s) (show 4 * k9 = 4 * a2 from by omega)).trans ((hF_281 s (4 * a2) (by omega)).trans ((hF_243 s (4 * a2) (by omega)).trans (hF_234 s (4 * a2) (by omega))))
                    have h_293 : c_279 s (4 * k9 + 1) = c_232 s (4 * a2 + 1) := (congrArg (c_279 s) (show 4 * k9 + 1 = 4 * a2 + 1 from by omega)).trans ((hF_281 s (4 * a2 + 1) (by omega)).trans (hF_243 s (4 * a2 + 1) (by omega)))
                    have h_294 : c_279 s (4 * k9 + 2) = c_241 s (4 * a2 + 2) := (congrArg (c_279 s) (show 4 * k9 + 2 = 4 * a2 + 2 from by omega)).trans (hF_281 s (4 * a2 + 2) (by omega))
                    have h_295 : c_279 s (4 * k9 + 3) = c_279 s (4 * a2 + 3) := (congrArg (c_279 s) (show 4 * k9 + 3 = 4 * a2 + 3 from by omega))
                    omega
                  have h_296 := iv_r hI s (4 * k9) hj9 (by omega)
                  have h_297 := ir_s_g hI hs (j := 4 * k9) (by omega)
                  have h_298 : c_279 s (4 * k9) = c s (4 * k9) := ((hF_281 s (4 * k9) (by omega)).trans ((hF_243 s (4 * k9) (by omega)).trans ((hF_234 s (4 * k9) (by omega)).trans (hF_80 s (4 * k9) (by omega)))))
                  have h_299 := ir_s_g hI hs (j := 4 * k9 + 1) (by omega)
                  have h_300 : c_279 s (4 * k9 + 1) = c s (4 * k9 + 1) := ((hF_281 s (4 * k9 + 1) (by omega)).trans ((hF_243 s (4 * k9 + 1) (by omega)).trans ((hF_234 s (4 * k9 + 1) (by omega)).trans (hF_80 s (4 * k9 + 1) (by omega)))))
                  have h_301 := ir_s_g hI hs (j := 4 * k9 + 2) (by omega)
                  have h_302 : c_279 s (4 * k9 + 2) = c s (4 * k9 + 2) := ((hF_281 s (4 * k9 + 2) (by omega)).trans ((hF_243 s (4 * k9 + 2) (by omega)).trans ((hF_234 s (4 * k9 + 2) (by omega)).trans (hF_80 s (4 * k9 + 2) (by omega)))))
                  have h_303 := ir_s_g hI hs (j := 4 * k9 + 3) (by omega)
                  have h_304 : c_279 s (4 * k9 + 3) = c s (4 * k9 + 3) := ((hF_281 s (4 * k9 + 3) (by omega)).trans ((hF_243 s (4 * k9 + 3) (by omega)).trans ((hF_234 s (4 * k9 + 3) (by omega)).trans (hF_80 s (4 * k9 + 3) (by omega)))))
                  omega
                have hI_305 := iv_close hI_280 hr_285
                exact K c_279 1 hI_305 (fun a j hm => (hF_281 a j (by omega)).trans ((hF_243 a j (by omega)).trans ((hF_234 a j (by omega)).trans (hF_80 a j (by omega))))) ⟨by decide, by decide⟩
            · skip
              refine v_min_g rfl rfl (by omega) (Nat.le_of_ble_eq_true rfl) (by omega) ?_
              refine q_istore rfl (by decide) ?_
              refine q_aload_n rfl rfl ?_
              refine q_iload_n rfl rfl ?_
              refine q_iload_n rfl rfl ?_
              refine q_iload rfl rfl ?_
              refine q_iload rfl rfl ?_
              have h_306 : c_232 s (4 * a1 + 2) = c s (4 * a1 + 2) := ((hF_234 s (4 * a1 + 2) (by omega)).trans (hF_80 s (4 * a1 + 2) (by omega)))
              have h_307 : c_232 s (4 * a2 + 2) = c s (4 * a2 + 2) := ((hF_234 s (4 * a2 + 2) (by omega)).trans (hF_80 s (4 * a2 + 2) (by omega)))
              refine v_cv rfl rfl rfl (ck_sh hs) (by omega) ⟨⟨rfl, rfl⟩, by decide, rfl⟩ (Nat.le_of_ble_eq_true rfl) (Nat.le_of_ble_eq_true rfl) (s_52 (a1 := a1) (a2 := a2) (a3 := 2) (a4 := c s (4 * a1 + 2)) hI_233 hs (show 0 ≤ a1 ∧ a1 ≤ 5 from by omega) (show 0 ≤ a2 ∧ a2 ≤ 5 from by omega) (show 0 ≤ 2 ∧ 2 ≤ 3 from by omega) (show 0 ≤ c s (4 * a1 + 2) ∧ c s (4 * a1 + 2) ≤ 9999 from by omega) (by omega) (by omega) (by omega) (fun c_308 hI_309 hF_310 h_311 => ?_))
              refine bk_inl ?_
              have h_312 := ir_s_g hI_309 hs (j := 4 * a1 + 2) (by omega)
              have h_313 := ir_s_g hI_309 hs (j := 4 * a2 + 2) (by omega)
              refine q_iload rfl rfl ?_
              refine q_iload rfl rfl ?_
              refine v_isub (v := 0 - c s (4 * a1 + 1) - c s (4 * a1 + 2)) rfl (by omega) ?_
              refine q_istore rfl (by decide) ?_
              refine Wp_ls [(4, vi (0 - c s (4 * a1 + 1) - c s (4 * a1 + 2))), (6, vi (c s (4 * a1 + 2))), (5, vi 2), (0, .ref sh), (1, vi a1), (2, vi a2), (3, vi a3)] (lsub_cons rfl (lsub_cons rfl (lsub_cons rfl (lsub_cons rfl (lsub_cons rfl (lsub_cons rfl (lsub_cons rfl lsub_nil))))))) ?_
              refine v_iinc (v := 3) rfl rfl (by decide) (by decide) ?_
              refine q_goto (t := 31) rfl (by decide) ?_
              refine q_iload rfl rfl ?_
              refine q_iconst rfl ?_
              refine v_ic_ge_f (t := 74) rfl (by decide) (by decide) ?_
              refine q_iload rfl rfl ?_
              refine q_aload_n rfl rfl ?_
              refine q_iload_n rfl rfl ?_
              refine q_iload rfl rfl ?_
              refine v_cv rfl rfl rfl (ck_sh hs) (by omega) ⟨⟨rfl, rfl⟩, by decide, rfl⟩ (Nat.le_of_ble_eq_true rfl) (Nat.le_of_ble_eq_true rfl) (s_45 (v1 := c s (4 * a1 + 3)) (r := c s (4 * a1 + 3)) (a1 := a1) (a2 := 3) hI_309 hs (show 0 ≤ a1 ∧ a1 ≤ 5 from by omega) (show 0 ≤ 3 ∧ 3 ≤ 3 from by omega) (((hF_310 s (4 * a1 + 3) (by omega)).trans ((hF_234 s (4 * a1 + 3) (by omega)).trans (hF_80 s (4 * a1 + 3) (by omega))))) (by omega) ?_)
              refine bk_inl ?_
              by_cases h_314 : 0 - c s (4 * a1 + 1) - c s (4 * a1 + 2) < c s (4 * a1 + 3)
              · skip
                refine v_min_l rfl rfl (by omega) (Nat.le_of_ble_eq_true rfl) (by omega) ?_
                refine q_istore rfl (by decide) ?_
                refine q_aload_n rfl rfl ?_
                refine q_iload_n rfl rfl ?_
                refine q_iload_n rfl rfl ?_
                refine q_iload rfl rfl ?_
                refine q_iload rfl rfl ?_
                have h_315 : c_308 s (4 * a1 + 3) = c s (4 * a1 + 3) := ((hF_310 s (4 * a1 + 3) (by omega)).trans ((hF_234 s (4 * a1 + 3) (by omega)).trans (hF_80 s (4 * a1 + 3) (by omega))))
                have h_316 : c_308 s (4 * a2 + 3) = c s (4 * a2 + 3) := ((hF_310 s (4 * a2 + 3) (by omega)).trans ((hF_234 s (4 * a2 + 3) (by omega)).trans (hF_80 s (4 * a2 + 3) (by omega))))
                refine v_cv rfl rfl rfl (ck_sh hs) (by omega) ⟨⟨rfl, rfl⟩, by decide, rfl⟩ (Nat.le_of_ble_eq_true rfl) (Nat.le_of_ble_eq_true rfl) (s_52 (a1 := a1) (a2 := a2) (a3 := 3) (a4 := 0 - c s (4 * a1 + 1) - c s (4 * a1 + 2)) hI_309 hs (show 0 ≤ a1 ∧ a1 ≤ 5 from by omega) (show 0 ≤ a2 ∧ a2 ≤ 5 from by omega) (show 0 ≤ 3 ∧ 3 ≤ 3 from by omega) (show 0 ≤ 0 - c s (4 * a1 + 1) - c s (4 * a1 + 2) ∧ 0 - c s (4 * a1 + 1) - c s (4 * a1 + 2) ≤ 9999 from by omega) (by omega) (by omega) (by omega) (fun c_317 hI_318 hF_319 h_320 => ?_))
                refine bk_inl ?_
                have h_321 := ir_s_g hI_318 hs (j := 4 * a1 + 3) (by omega)
                have h_322 := ir_s_g hI_318 hs (j := 4 * a2 + 3) (by omega)
                refine q_iload rfl rfl ?_
                refine q_iload rfl rfl ?_
                refine v_isub (v := 0) rfl (by decide) ?_
                refine q_istore rfl (by decide) ?_
                refine v_iinc (v := 4) rfl rfl (by decide) (by decide) ?_
                refine q_goto (t := 31) rfl (by decide) ?_
                refine q_iload rfl rfl ?_
                refine q_iconst rfl ?_
                refine v_ic_ge_t (t := 74) rfl (by decide) (by decide) ?_
                refine q_aload_n rfl rfl ?_
                refine q_iload_n rfl rfl ?_
                refine v_cv rfl rfl rfl (ck_sh hs) (by omega) ⟨⟨rfl, rfl⟩, by decide, rfl⟩ (Nat.le_of_ble_eq_true rfl) (Nat.le_of_ble_eq_true rfl) (s_43 (v1 := c_78 s (4 * a1)) (v2 := c_232 s (4 * a1 + 1)) (v3 := c_308 s (4 * a1 + 2)) (v4 := c_317 s (4 * a1 + 3)) (r := c_232 s (4 * a1 + 1) + c_308 s (4 * a1 + 2) + c_317 s (4 * a1 + 3) + c_78 s (4 * a1)) (a1 := a1) hI_318 hs (show 0 ≤ a1 ∧ a1 ≤ 5 from by omega) (((hF_319 s (4 * a1) (by omega)).trans ((hF_310 s (4 * a1) (by omega)).trans (hF_234 s (4 * a1) (by omega))))) (((hF_319 s (4 * a1 + 1) (by omega)).trans (hF_310 s (4 * a1 + 1) (by omega)))) ((hF_319 s (4 * a1 + 2) (by omega))) (rfl) (by omega) ?_)
                refine bk_inl ?_
                refine v_if_ne_t (t := 92) rfl (by decide) (by omega) ?_
                refine q_iconst rfl ?_
                refine v_zret rfl rfl (by omega) ?_
                have hr_323 : ∀ j : Int, rs s j → c_317 s j + c_317 s (j + 1) + c_317 s (j + 2) + c_317 s (j + 3) ≤ 9999 := by
                  intro j9 hj9
                  obtain ⟨k9, rfl, hk9⟩ := rs_s hs hj9
                  by_cases e_324 : k9 = a1
                  · skip
                    have h_325 : c_317 s (4 * k9) = c_78 s (4 * a1) := (congrArg (c_317 s) (show 4 * k9 = 4 * a1 from by omega)).trans ((hF_319 s (4 * a1) (by omega)).trans ((hF_310 s (4 * a1) (by omega)).trans (hF_234 s (4 * a1) (by omega))))
                    have h_326 : c_317 s (4 * k9 + 1) = c_232 s (4 * a1 + 1) := (congrArg (c_317 s) (show 4 * k9 + 1 = 4 * a1 + 1 from by omega)).trans ((hF_319 s (4 * a1 + 1) (by omega)).trans (hF_310 s (4 * a1 + 1) (by omega)))
                    have h_327 : c_317 s (4 * k9 + 2) = c_308 s (4 * a1 + 2) := (congrArg (c_317 s) (show 4 * k9 + 2 = 4 * a1 + 2 from by omega)).trans (hF_319 s (4 * a1 + 2) (by omega))
                    have h_328 : c_317 s (4 * k9 + 3) = c_317 s (4 * a1 + 3) := (congrArg (c_317 s) (show 4 * k9 + 3 = 4 * a1 + 3 from by omega))
                    omega
                  by_cases e_329 : k9 = a2
                  · skip
                    have h_330 : c_317 s (4 * k9) = c_78 s (4 * a2) := (congrArg (c_317 s) (show 4 * k9 = 4 * a2 from by omega)).trans ((hF_319 s (4 * a2) (by omega)).trans ((hF_310 s (4 * a2) (by omega)).trans (hF_234 s (4 * a2) (by omega))))
                    have h_331 : c_317 s (4 * k9 + 1) = c_232 s (4 * a2 + 1) := (congrArg (c_317 s) (show 4 * k9 + 1 = 4 * a2 + 1 from by omega)).trans ((hF_319 s (4 * a2 + 1) (by omega)).trans (hF_310 s (4 * a2 + 1) (by omega)))
                    have h_332 : c_317 s (4 * k9 + 2) = c_308 s (4 * a2 + 2) := (congrArg (c_317 s) (show 4 * k9 + 2 = 4 * a2 + 2 from by omega)).trans (hF_319 s (4 * a2 + 2) (by omega))
                    have h_333 : c_317 s (4 * k9 + 3) = c_317 s (4 * a2 + 3) := (congrArg (c_317 s) (show 4 * k9 + 3 = 4 * a2 + 3 from by omega))
                    omega
                  have h_334 := iv_r hI s (4 * k9) hj9 (by omega)
                  have h_335 := ir_s_g hI hs (j := 4 * k9) (by omega)
                  have h_336 : c_317 s (4 * k9) = c s (4 * k9) := ((hF_319 s (4 * k9) (by omega)).trans ((hF_310 s (4 * k9) (by omega)).trans ((hF_234 s (4 * k9) (by omega)).trans (hF_80 s (4 * k9) (by omega)))))
                  have h_337 := ir_s_g hI hs (j := 4 * k9 + 1) (by omega)
                  have h_338 : c_317 s (4 * k9 + 1) = c s (4 * k9 + 1) := ((hF_319 s (4 * k9 + 1) (by omega)).trans ((hF_310 s (4 * k9 + 1) (by omega)).trans ((hF_234 s (4 * k9 + 1) (by omega)).trans (hF_80 s (4 * k9 + 1) (by omega)))))
                  have h_339 := ir_s_g hI hs (j := 4 * k9 + 2) (by omega)
                  have h_340 : c_317 s (4 * k9 + 2) = c s (4 * k9 + 2) := ((hF_319 s (4 * k9 + 2) (by omega)).trans ((hF_310 s (4 * k9 + 2) (by omega)).trans ((hF_234 s (4 * k9 + 2) (by omega)).trans (hF_80 s (4 * k9 + 2) (by omega)))))
                  have h_341 := ir_s_g hI hs (j := 4 * k9 + 3) (by omega)
                  have h_342 : c_317 s (4 * k9 + 3) = c s (4 * k9 + 3) := ((hF_319 s (4 * k9 + 3) (by omega)).trans ((hF_310 s (4 * k9 + 3) (by omega)).trans ((hF_234 s (4 * k9 + 3) (by omega)).trans (hF_80 s (4 * k9 + 3) (by omega)))))
                  omega
                have hI_343 := iv_close hI_318 hr_323
                exact K c_317 1 hI_343 (fun a j hm => (hF_319 a j (by omega)).trans ((hF_310 a j (by omega)).trans ((hF_234 a j (by omega)).trans (hF_80 a j (by omega))))) ⟨by decide, by decide⟩
              · skip
                refine v_min_g rfl rfl (by omega) (Nat.le_of_ble_eq_true rfl) (by omega) ?_
                refine q_istore rfl (by decide) ?_
                refine q_aload_n rfl rfl ?_
                refine q_iload_n rfl rfl ?_
                refine q_iload_n rfl rfl ?_
                refine q_iload rfl rfl ?_
                refine q_iload rfl rfl ?_
                have h_344 : c_308 s (4 * a1 + 3) = c s (4 * a1 + 3) := ((hF_310 s (4 * a1 + 3) (by omega)).trans ((hF_234 s (4 * a1 + 3) (by omega)).trans (hF_80 s (4 * a1 + 3) (by omega))))
                have h_345 : c_308 s (4 * a2 + 3) = c s (4 * a2 + 3) := ((hF_310 s (4 * a2 + 3) (by omega)).trans ((hF_234 s (4 * a2 + 3) (by omega)).trans (hF_80 s (4 * a2 + 3) (by omega))))
                refine v_cv rfl rfl rfl (ck_sh hs) (by omega) ⟨⟨rfl, rfl⟩, by decide, rfl⟩ (Nat.le_of_ble_eq_true rfl) (Nat.le_of_ble_eq_true rfl) (s_52 (a1 := a1) (a2 := a2) (a3 := 3) (a4 := c s (4 * a1 + 3)) hI_309 hs (show 0 ≤ a1 ∧ a1 ≤ 5 from by omega) (show 0 ≤ a2 ∧ a2 ≤ 5 from by omega) (show 0 ≤ 3 ∧ 3 ≤ 3 from by omega) (show 0 ≤ c s (4 * a1 + 3) ∧ c s (4 * a1 + 3) ≤ 9999 from by omega) (by omega) (by omega) (by omega) (fun c_346 hI_347 hF_348 h_349 => ?_))
                refine bk_inl ?_
                have h_350 := ir_s_g hI_347 hs (j := 4 * a1 + 3) (by omega)
                have h_351 := ir_s_g hI_347 hs (j := 4 * a2 + 3) (by omega)
                refine q_iload rfl rfl ?_
                refine q_iload rfl rfl ?_
                refine v_isub (v := 0 - c s (4 * a1 + 1) - c s (4 * a1 + 2) - c s (4 * a1 + 3)) rfl (by omega) ?_
                refine q_istore rfl (by decide) ?_
                refine v_iinc (v := 4) rfl rfl (by decide) (by decide) ?_
                refine q_goto (t := 31) rfl (by decide) ?_
                refine q_iload rfl rfl ?_
                refine q_iconst rfl ?_
                refine v_ic_ge_t (t := 74) rfl (by decide) (by decide) ?_
                refine q_aload_n rfl rfl ?_
                refine q_iload_n rfl rfl ?_
                refine v_cv rfl rfl rfl (ck_sh hs) (by omega) ⟨⟨rfl, rfl⟩, by decide, rfl⟩ (Nat.le_of_ble_eq_true rfl) (Nat.le_of_ble_eq_true rfl) (s_43 (v1 := c_78 s (4 * a1)) (v2 := c_232 s (4 * a1 + 1)) (v3 := c_308 s (4 * a1 + 2)) (v4 := c_346 s (4 * a1 + 3)) (r := c_232 s (4 * a1 + 1) + c_308 s (4 * a1 + 2) + c_346 s (4 * a1 + 3) + c_78 s (4 * a1)) (a1 := a1) hI_347 hs (show 0 ≤ a1 ∧ a1 ≤ 5 from by omega) (((hF_348 s (4 * a1) (by omega)).trans ((hF_310 s (4 * a1) (by omega)).trans (hF_234 s (4 * a1) (by omega))))) (((hF_348 s (4 * a1 + 1) (by omega)).trans (hF_310 s (4 * a1 + 1) (by omega)))) ((hF_348 s (4 * a1 + 2) (by omega))) (rfl) (by omega) ?_)
                refine bk_inl ?_
                refine v_if_ne_t (t := 92) rfl (by decide) (by omega) ?_
                refine q_iconst rfl ?_
                refine v_zret rfl rfl (by omega) ?_
                have hr_352 : ∀ j : Int, rs s j → c_346 s j + c_346 s (j + 1) + c_346 s (j + 2) + c_346 s (j + 3) ≤ 9999 := by
                  intro j9 hj9
                  obtain ⟨k9, rfl, hk9⟩ := rs_s hs hj9
                  by_cases e_353 : k9 = a1
                  · skip
                    have h_354 : c_346 s (4 * k9) = c_78 s (4 * a1) := (congrArg (c_346 s) (show 4 * k9 = 4 * a1 from by omega)).trans ((hF_348 s (4 * a1) (by omega)).trans ((hF_310 s (4 * a1) (by omega)).trans (hF_234 s (4 * a1) (by omega))))
                    have h_355 : c_346 s (4 * k9 + 1) = c_232 s (4 * a1 + 1) := (congrArg (c_346 s) (show 4 * k9 + 1 = 4 * a1 + 1 from by omega)).trans ((hF_348 s (4 * a1 + 1) (by omega)).trans (hF_310 s (4 * a1 + 1) (by omega)))
                    have h_356 : c_346 s (4 * k9 + 2) = c_308 s (4 * a1 + 2) := (congrArg (c_346 s) (show 4 * k9 + 2 = 4 * a1 + 2 from by omega)).trans (hF_348 s (4 * a1 + 2) (by omega))
                    have h_357 : c_346 s (4 * k9 + 3) = c_346 s (4 * a1 + 3) := (congrArg (c_346 s) (show 4 * k9 + 3 = 4 * a1 + 3 from by omega))
                    omega
                  by_cases e_358 : k9 = a2
                  · skip
                    have h_359 : c_346 s (4 * k9) = c_78 s (4 * a2) := (congrArg (c_346 s) (show 4 * k9 = 4 * a2 from by omega)).trans ((hF_348 s (4 * a2) (by omega)).trans ((hF_310 s (4 * a2) (by omega)).trans (hF_234 s (4 * a2) (by omega))))
                    have h_360 : c_346 s (4 * k9 + 1) = c_232 s (4 * a2 + 1) := (congrArg (c_346 s) (show 4 * k9 + 1 = 4 * a2 + 1 from by omega)).trans ((hF_348 s (4 * a2 + 1) (by omega)).trans (hF_310 s (4 * a2 + 1) (by omega)))
                    have h_361 : c_346 s (4 * k9 + 2) = c_308 s (4 * a2 + 2) := (congrArg (c_346 s) (show 4 * k9 + 2 = 4 * a2 + 2 from by omega)).trans (hF_348 s (4 * a2 + 2) (by omega))
                    have h_362 : c_346 s (4 * k9 + 3) = c_346 s (4 * a2 + 3) := (congrArg (c_346 s) (show 4 * k9 + 3 = 4 * a2 + 3 from by omega))
                    omega
                  have h_363 := iv_r hI s (4 * k9) hj9 (by omega)
                  have h_364 := ir_s_g hI hs (j := 4 * k9) (by omega)
                  have h_365 : c_346 s (4 * k9) = c s (4 * k9) := ((hF_348 s (4 * k9) (by omega)).trans ((hF_310 s (4 * k9) (by omega)).trans ((hF_234 s (4 * k9) (by omega)).trans (hF_80 s (4 * k9) (by omega)))))
                  have h_366 := ir_s_g hI hs (j := 4 * k9 + 1) (by omega)
                  have h_367 : c_346 s (4 * k9 + 1) = c s (4 * k9 + 1) := ((hF_348 s (4 * k9 + 1) (by omega)).trans ((hF_310 s (4 * k9 + 1) (by omega)).trans ((hF_234 s (4 * k9 + 1) (by omega)).trans (hF_80 s (4 * k9 + 1) (by omega)))))
                  have h_368 := ir_s_g hI hs (j := 4 * k9 + 2) (by omega)
                  have h_369 : c_346 s (4 * k9 + 2) = c s (4 * k9 + 2) := ((hF_348 s (4 * k9 + 2) (by omega)).trans ((hF_310 s (4 * k9 + 2) (by omega)).trans ((hF_234 s (4 * k9 + 2) (by omega)).trans (hF_80 s (4 * k9 + 2) (by omega)))))
                  have h_370 := ir_s_g hI hs (j := 4 * k9 + 3) (by omega)
                  have h_371 : c_346 s (4 * k9 + 3) = c s (4 * k9 + 3) := ((hF_348 s (4 * k9 + 3) (by omega)).trans ((hF_310 s (4 * k9 + 3) (by omega)).trans ((hF_234 s (4 * k9 + 3) (by omega)).trans (hF_80 s (4 * k9 + 3) (by omega)))))
                  omega
                have hI_372 := iv_close hI_347 hr_352
                exact K c_346 1 hI_372 (fun a j hm => (hF_348 a j (by omega)).trans ((hF_310 a j (by omega)).trans ((hF_234 a j (by omega)).trans (hF_80 a j (by omega))))) ⟨by decide, by decide⟩
        · skip
          refine v_min_g rfl rfl (by omega) (Nat.le_of_ble_eq_true rfl) (by omega) ?_
          refine q_istore rfl (by decide) ?_
          refine q_aload_n rfl rfl ?_
          refine q_iload_n rfl rfl ?_
          refine q_iload_n rfl rfl ?_
          refine q_iload rfl rfl ?_
          refine q_iload rfl rfl ?_
          refine v_cv rfl rfl rfl (ck_sh hs) (by omega) ⟨⟨rfl, rfl⟩, by decide, rfl⟩ (Nat.le_of_ble_eq_true rfl) (Nat.le_of_ble_eq_true rfl) (s_52 (a1 := a1) (a2 := a2) (a3 := 0) (a4 := c s (4 * a1)) hIo hs (show 0 ≤ a1 ∧ a1 ≤ 5 from by omega) (show 0 ≤ a2 ∧ a2 ≤ 5 from by omega) (show 0 ≤ 0 ∧ 0 ≤ 3 from by omega) (show 0 ≤ c s (4 * a1) ∧ c s (4 * a1) ≤ 9999 from by omega) (by omega) (by omega) (by omega) (fun c_373 hI_374 hF_375 h_376 => ?_))
          refine bk_inl ?_
          have h_377 : c_373 s (4 * a1 + 0) = c_373 s (4 * a1) := congrArg (c_373 s) (by omega)
          have h_378 := ir_s_g hI_374 hs (j := 4 * a1) (by omega)
          have h_379 : c_373 s (4 * a2 + 0) = c_373 s (4 * a2) := congrArg (c_373 s) (by omega)
          have h_380 := ir_s_g hI_374 hs (j := 4 * a2) (by omega)
          refine q_iload rfl rfl ?_
          refine q_iload rfl rfl ?_
          refine v_isub (v := a3 - c s (4 * a1)) rfl (by omega) ?_
          refine q_istore rfl (by decide) ?_
          refine v_iinc (v := 1) rfl rfl (by decide) (by decide) ?_
          refine Wp_ls [(5, vi 1), (4, vi (a3 - c s (4 * a1))), (6, vi (c s (4 * a1))), (0, .ref sh), (1, vi a1), (2, vi a2), (3, vi a3)] (lsub_cons rfl (lsub_cons rfl (lsub_cons rfl (lsub_cons rfl (lsub_cons rfl (lsub_cons rfl (lsub_cons rfl lsub_nil))))))) ?_
          refine q_goto (t := 31) rfl (by decide) ?_
          refine q_iload rfl rfl ?_
          refine q_iconst rfl ?_
          refine v_ic_ge_f (t := 74) rfl (by decide) (by decide) ?_
          refine q_iload rfl rfl ?_
          refine q_aload_n rfl rfl ?_
          refine q_iload_n rfl rfl ?_
          refine q_iload rfl rfl ?_
          refine v_cv rfl rfl rfl (ck_sh hs) (by omega) ⟨⟨rfl, rfl⟩, by decide, rfl⟩ (Nat.le_of_ble_eq_true rfl) (Nat.le_of_ble_eq_true rfl) (s_45 (v1 := c s (4 * a1 + 1)) (r := c s (4 * a1 + 1)) (a1 := a1) (a2 := 1) hI_374 hs (show 0 ≤ a1 ∧ a1 ≤ 5 from by omega) (show 0 ≤ 1 ∧ 1 ≤ 3 from by omega) ((hF_375 s (4 * a1 + 1) (by omega))) (by omega) ?_)
          refine bk_inl ?_
          by_cases h_381 : a3 - c s (4 * a1) < c s (4 * a1 + 1)
          · skip
            refine v_min_l rfl rfl (by omega) (Nat.le_of_ble_eq_true rfl) (by omega) ?_
            refine q_istore rfl (by decide) ?_
            refine q_aload_n rfl rfl ?_
            refine q_iload_n rfl rfl ?_
            refine q_iload_n rfl rfl ?_
            refine q_iload rfl rfl ?_
            refine q_iload rfl rfl ?_
            have h_382 : c_373 s (4 * a1 + 1) = c s (4 * a1 + 1) := (hF_375 s (4 * a1 + 1) (by omega))
            have h_383 : c_373 s (4 * a2 + 1) = c s (4 * a2 + 1) := (hF_375 s (4 * a2 + 1) (by omega))
            refine v_cv rfl rfl rfl (ck_sh hs) (by omega) ⟨⟨rfl, rfl⟩, by decide, rfl⟩ (Nat.le_of_ble_eq_true rfl) (Nat.le_of_ble_eq_true rfl) (s_52 (a1 := a1) (a2 := a2) (a3 := 1) (a4 := a3 - c s (4 * a1)) hI_374 hs (show 0 ≤ a1 ∧ a1 ≤ 5 from by omega) (show 0 ≤ a2 ∧ a2 ≤ 5 from by omega) (show 0 ≤ 1 ∧ 1 ≤ 3 from by omega) (show 0 ≤ a3 - c s (4 * a1) ∧ a3 - c s (4 * a1) ≤ 9999 from by omega) (by omega) (by omega) (by omega) (fun c_384 hI_385 hF_386 h_387 => ?_))
            refine bk_inl ?_
            have h_388 := ir_s_g hI_385 hs (j := 4 * a1 + 1) (by omega)
            have h_389 := ir_s_g hI_385 hs (j := 4 * a2 + 1) (by omega)
            refine q_iload rfl rfl ?_
            refine q_iload rfl rfl ?_
            refine v_isub (v := 0) rfl (by decide) ?_
            refine q_istore rfl (by decide) ?_
            refine v_iinc (v := 2) rfl rfl (by decide) (by decide) ?_
            refine q_goto (t := 31) rfl (by decide) ?_
            refine q_iload rfl rfl ?_
            refine q_iconst rfl ?_
            refine v_ic_ge_f (t := 74) rfl (by decide) (by decide) ?_
            refine q_iload rfl rfl ?_
            refine q_aload_n rfl rfl ?_
            refine q_iload_n rfl rfl ?_
            refine q_iload rfl rfl ?_
            refine v_cv rfl rfl rfl (ck_sh hs) (by omega) ⟨⟨rfl, rfl⟩, by decide, rfl⟩ (Nat.le_of_ble_eq_true rfl) (Nat.le_of_ble_eq_true rfl) (s_45 (v1 := c s (4 * a1 + 2)) (r := c s (4 * a1 + 2)) (a1 := a1) (a2 := 2) hI_385 hs (show 0 ≤ a1 ∧ a1 ≤ 5 from by omega) (show 0 ≤ 2 ∧ 2 ≤ 3 from by omega) (((hF_386 s (4 * a1 + 2) (by omega)).trans (hF_375 s (4 * a1 + 2) (by omega)))) (by omega) ?_)
            refine bk_inl ?_
            by_cases h_390 : 0 < c s (4 * a1 + 2)
            · skip
              refine v_min_l rfl rfl (by omega) (Nat.le_of_ble_eq_true rfl) (by omega) ?_
              refine q_istore rfl (by decide) ?_
              refine q_aload_n rfl rfl ?_
              refine q_iload_n rfl rfl ?_
              refine q_iload_n rfl rfl ?_
              refine q_iload rfl rfl ?_
              refine q_iload rfl rfl ?_
              have h_391 : c_384 s (4 * a1 + 2) = c s (4 * a1 + 2) := ((hF_386 s (4 * a1 + 2) (by omega)).trans (hF_375 s (4 * a1 + 2) (by omega)))
              have h_392 : c_384 s (4 * a2 + 2) = c s (4 * a2 + 2) := ((hF_386 s (4 * a2 + 2) (by omega)).trans (hF_375 s (4 * a2 + 2) (by omega)))
              refine v_cv rfl rfl rfl (ck_sh hs) (by omega) ⟨⟨rfl, rfl⟩, by decide, rfl⟩ (Nat.le_of_ble_eq_true rfl) (Nat.le_of_ble_eq_true rfl) (s_52 (a1 := a1) (a2 := a2) (a3 := 2) (a4 := 0) hI_385 hs (show 0 ≤ a1 ∧ a1 ≤ 5 from by omega) (show 0 ≤ a2 ∧ a2 ≤ 5 from by omega) (show 0 ≤ 2 ∧ 2 ≤ 3 from by omega) (show 0 ≤ 0 ∧ 0 ≤ 9999 from by omega) (by omega) (by omega) (by omega) (fun c_393 hI_394 hF_395 h_396 => ?_))
              refine bk_inl ?_
              have h_397 := ir_s_g hI_394 hs (j := 4 * a1 + 2) (by omega)
              have h_398 := ir_s_g hI_394 hs (j := 4 * a2 + 2) (by omega)
              refine q_iload rfl rfl ?_
              refine q_iload rfl rfl ?_
              refine v_isub (v := 0) rfl (by decide) ?_
              refine q_istore rfl (by decide) ?_
              refine Wp_ls [(4, vi 0), (6, vi 0), (5, vi 2), (0, .ref sh), (1, vi a1), (2, vi a2), (3, vi a3)] (lsub_cons rfl (lsub_cons rfl (lsub_cons rfl (lsub_cons rfl (lsub_cons rfl (lsub_cons rfl (lsub_cons rfl lsub_nil))))))) ?_
              refine v_iinc (v := 3) rfl rfl (by decide) (by decide) ?_
              refine q_goto (t := 31) rfl (by decide) ?_
              refine q_iload rfl rfl ?_
              refine q_iconst rfl ?_
              refine v_ic_ge_f (t := 74) rfl (by decide) (by decide) ?_
              refine q_iload rfl rfl ?_
              refine q_aload_n rfl rfl ?_
              refine q_iload_n rfl rfl ?_
              refine q_iload rfl rfl ?_
              refine v_cv rfl rfl rfl (ck_sh hs) (by omega) ⟨⟨rfl, rfl⟩, by decide, rfl⟩ (Nat.le_of_ble_eq_true rfl) (Nat.le_of_ble_eq_true rfl) (s_45 (v1 := c s (4 * a1 + 3)) (r := c s (4 * a1 + 3)) (a1 := a1) (a2 := 3) hI_394 hs (show 0 ≤ a1 ∧ a1 ≤ 5 from by omega) (show 0 ≤ 3 ∧ 3 ≤ 3 from by omega) (((hF_395 s (4 * a1 + 3) (by omega)).trans ((hF_386 s (4 * a1 + 3) (by omega)).trans (hF_375 s (4 * a1 + 3) (by omega))))) (by omega) ?_)
              refine bk_inl ?_
              by_cases h_399 : 0 < c s (4 * a1 + 3)
              · skip
                refine v_min_l rfl rfl (by omega) (Nat.le_of_ble_eq_true rfl) (by omega) ?_
                refine q_istore rfl (by decide) ?_
                refine q_aload_n rfl rfl ?_
                refine q_iload_n rfl rfl ?_
                refine q_iload_n rfl rfl ?_
                refine q_iload rfl rfl ?_
                refine q_iload rfl rfl ?_
                have h_400 : c_393 s (4 * a1 + 3) = c s (4 * a1 + 3) := ((hF_395 s (4 * a1 + 3) (by omega)).trans ((hF_386 s (4 * a1 + 3) (by omega)).trans (hF_375 s (4 * a1 + 3) (by omega))))
                have h_401 : c_393 s (4 * a2 + 3) = c s (4 * a2 + 3) := ((hF_395 s (4 * a2 + 3) (by omega)).trans ((hF_386 s (4 * a2 + 3) (by omega)).trans (hF_375 s (4 * a2 + 3) (by omega))))
                refine v_cv rfl rfl rfl (ck_sh hs) (by omega) ⟨⟨rfl, rfl⟩, by decide, rfl⟩ (Nat.le_of_ble_eq_true rfl) (Nat.le_of_ble_eq_true rfl) (s_52 (a1 := a1) (a2 := a2) (a3 := 3) (a4 := 0) hI_394 hs (show 0 ≤ a1 ∧ a1 ≤ 5 from by omega) (show 0 ≤ a2 ∧ a2 ≤ 5 from by omega) (show 0 ≤ 3 ∧ 3 ≤ 3 from by omega) (show 0 ≤ 0 ∧ 0 ≤ 9999 from by omega) (by omega) (by omega) (by omega) (fun c_402 hI_403 hF_404 h_405 => ?_))
                refine bk_inl ?_
                have h_406 := ir_s_g hI_403 hs (j := 4 * a1 + 3) (by omega)
                have h_407 := ir_s_g hI_403 hs (j := 4 * a2 + 3) (by omega)
                refine q_iload rfl rfl ?_
                refine q_iload rfl rfl ?_
                refine v_isub (v := 0) rfl (by decide) ?_
                refine q_istore rfl (by decide) ?_
                refine v_iinc (v := 4) rfl rfl (by decide) (by decide) ?_
                refine q_goto (t := 31) rfl (by decide) ?_
                refine q_iload rfl rfl ?_
                refine q_iconst rfl ?_
                refine v_ic_ge_t (t := 74) rfl (by decide) (by decide) ?_
                refine q_aload_n rfl rfl ?_
                refine q_iload_n rfl rfl ?_
                refine v_cv rfl rfl rfl (ck_sh hs) (by omega) ⟨⟨rfl, rfl⟩, by decide, rfl⟩ (Nat.le_of_ble_eq_true rfl) (Nat.le_of_ble_eq_true rfl) (s_43 (v1 := c_373 s (4 * a1)) (v2 := c_384 s (4 * a1 + 1)) (v3 := c_393 s (4 * a1 + 2)) (v4 := c_402 s (4 * a1 + 3)) (r := c_373 s (4 * a1) + c_384 s (4 * a1 + 1) + c_393 s (4 * a1 + 2) + c_402 s (4 * a1 + 3)) (a1 := a1) hI_403 hs (show 0 ≤ a1 ∧ a1 ≤ 5 from by omega) (((hF_404 s (4 * a1) (by omega)).trans ((hF_395 s (4 * a1) (by omega)).trans (hF_386 s (4 * a1) (by omega))))) (((hF_404 s (4 * a1 + 1) (by omega)).trans (hF_395 s (4 * a1 + 1) (by omega)))) ((hF_404 s (4 * a1 + 2) (by omega))) (rfl) (by omega) ?_)
                refine bk_inl ?_
                refine v_if_ne_t (t := 92) rfl (by decide) (by omega) ?_
                refine q_iconst rfl ?_
                refine v_zret rfl rfl (by omega) ?_
                have hr_408 : ∀ j : Int, rs s j → c_402 s j + c_402 s (j + 1) + c_402 s (j + 2) + c_402 s (j + 3) ≤ 9999 := by
                  intro j9 hj9
                  obtain ⟨k9, rfl, hk9⟩ := rs_s hs hj9
                  by_cases e_409 : k9 = a1
                  · skip
                    have h_410 : c_402 s (4 * k9) = c_373 s (4 * a1) := (congrArg (c_402 s) (show 4 * k9 = 4 * a1 from by omega)).trans ((hF_404 s (4 * a1) (by omega)).trans ((hF_395 s (4 * a1) (by omega)).trans (hF_386 s (4 * a1) (by omega))))
                    have h_411 : c_402 s (4 * k9 + 1) = c_384 s (4 * a1 + 1) := (congrArg (c_402 s) (show 4 * k9 + 1 = 4 * a1 + 1 from by omega)).trans ((hF_404 s (4 * a1 + 1) (by omega)).trans (hF_395 s (4 * a1 + 1) (by omega)))
                    have h_412 : c_402 s (4 * k9 + 2) = c_393 s (4 * a1 + 2) := (congrArg (c_402 s) (show 4 * k9 + 2 = 4 * a1 + 2 from by omega)).trans (hF_404 s (4 * a1 + 2) (by omega))
                    have h_413 : c_402 s (4 * k9 + 3) = c_402 s (4 * a1 + 3) := (congrArg (c_402 s) (show 4 * k9 + 3 = 4 * a1 + 3 from by omega))
                    omega
                  by_cases e_414 : k9 = a2
                  · skip
                    have h_415 : c_402 s (4 * k9) = c_373 s (4 * a2) := (congrArg (c_402 s) (show 4 * k9 = 4 * a2 from by omega)).trans ((hF_404 s (4 * a2) (by omega)).trans ((hF_395 s (4 * a2) (by omega)).trans (hF_386 s (4 * a2) (by omega))))
                    have h_416 : c_402 s (4 * k9 + 1) = c_384 s (4 * a2 + 1) := (congrArg (c_402 s) (show 4 * k9 + 1 = 4 * a2 + 1 from by omega)).trans ((hF_404 s (4 * a2 + 1) (by omega)).trans (hF_395 s (4 * a2 + 1) (by omega)))
                    have h_417 : c_402 s (4 * k9 + 2) = c_393 s (4 * a2 + 2) := (congrArg (c_402 s) (show 4 * k9 + 2 = 4 * a2 + 2 from by omega)).trans (hF_404 s (4 * a2 + 2) (by omega))
                    have h_418 : c_402 s (4 * k9 + 3) = c_402 s (4 * a2 + 3) := (congrArg (c_402 s) (show 4 * k9 + 3 = 4 * a2 + 3 from by omega))
                    omega
                  have h_419 := iv_r hI s (4 * k9) hj9 (by omega)
                  have h_420 := ir_s_g hI hs (j := 4 * k9) (by omega)
                  have h_421 : c_402 s (4 * k9) = c s (4 * k9) := ((hF_404 s (4 * k9) (by omega)).trans ((hF_395 s (4 * k9) (by omega)).trans ((hF_386 s (4 * k9) (by omega)).trans (hF_375 s (4 * k9) (by omega)))))
                  have h_422 := ir_s_g hI hs (j := 4 * k9 + 1) (by omega)
                  have h_423 : c_402 s (4 * k9 + 1) = c s (4 * k9 + 1) := ((hF_404 s (4 * k9 + 1) (by omega)).trans ((hF_395 s (4 * k9 + 1) (by omega)).trans ((hF_386 s (4 * k9 + 1) (by omega)).trans (hF_375 s (4 * k9 + 1) (by omega)))))
                  have h_424 := ir_s_g hI hs (j := 4 * k9 + 2) (by omega)
                  have h_425 : c_402 s (4 * k9 + 2) = c s (4 * k9 + 2) := ((hF_404 s (4 * k9 + 2) (by omega)).trans ((hF_395 s (4 * k9 + 2) (by omega)).trans ((hF_386 s (4 * k9 + 2) (by omega)).trans (hF_375 s (4 * k9 + 2) (by omega)))))
                  have h_426 := ir_s_g hI hs (j := 4 * k9 + 3) (by omega)
                  have h_427 : c_402 s (4 * k9 + 3) = c s (4 * k9 + 3) := ((hF_404 s (4 * k9 + 3) (by omega)).trans ((hF_395 s (4 * k9 + 3) (by omega)).trans ((hF_386 s (4 * k9 + 3) (by omega)).trans (hF_375 s (4 * k9 + 3) (by omega)))))
                  omega
                have hI_428 := iv_close hI_403 hr_408
                exact K c_402 1 hI_428 (fun a j hm => (hF_404 a j (by omega)).trans ((hF_395 a j (by omega)).trans ((hF_386 a j (by omega)).trans (hF_375 a j (by omega))))) ⟨by decide, by decide⟩
              · skip
                refine v_min_g rfl rfl (by omega) (Nat.le_of_ble_eq_true rfl) (by omega) ?_
                refine q_istore rfl (by decide) ?_
                refine q_aload_n rfl rfl ?_
                refine q_iload_n rfl rfl ?_
                refine q_iload_n rfl rfl ?_
                refine q_iload rfl rfl ?_
                refine q_iload rfl rfl ?_
                have h_429 : c_393 s (4 * a1 + 3) = c s (4 * a1 + 3) := ((hF_395 s (4 * a1 + 3) (by omega)).trans ((hF_386 s (4 * a1 + 3) (by omega)).trans (hF_375 s (4 * a1 + 3) (by omega))))
                have h_430 : c_393 s (4 * a2 + 3) = c s (4 * a2 + 3) := ((hF_395 s (4 * a2 + 3) (by omega)).trans ((hF_386 s (4 * a2 + 3) (by omega)).trans (hF_375 s (4 * a2 + 3) (by omega))))
                refine v_cv rfl rfl rfl (ck_sh hs) (by omega) ⟨⟨rfl, rfl⟩, by decide, rfl⟩ (Nat.le_of_ble_eq_true rfl) (Nat.le_of_ble_eq_true rfl) (s_52 (a1 := a1) (a2 := a2) (a3 := 3) (a4 := c s (4 * a1 + 3)) hI_394 hs (show 0 ≤ a1 ∧ a1 ≤ 5 from by omega) (show 0 ≤ a2 ∧ a2 ≤ 5 from by omega) (show 0 ≤ 3 ∧ 3 ≤ 3 from by omega) (show 0 ≤ c s (4 * a1 + 3) ∧ c s (4 * a1 + 3) ≤ 9999 from by omega) (by omega) (by omega) (by omega) (fun c_431 hI_432 hF_433 h_434 => ?_))
                refine bk_inl ?_
                have h_435 := ir_s_g hI_432 hs (j := 4 * a1 + 3) (by omega)
                have h_436 := ir_s_g hI_432 hs (j := 4 * a2 + 3) (by omega)
                refine q_iload rfl rfl ?_
                refine q_iload rfl rfl ?_
                refine v_isub (v := 0 - c s (4 * a1 + 3)) rfl (by omega) ?_
                refine q_istore rfl (by decide) ?_
                refine v_iinc (v := 4) rfl rfl (by decide) (by decide) ?_
                refine q_goto (t := 31) rfl (by decide) ?_
                refine q_iload rfl rfl ?_
                refine q_iconst rfl ?_
                refine v_ic_ge_t (t := 74) rfl (by decide) (by decide) ?_
                refine q_aload_n rfl rfl ?_
                refine q_iload_n rfl rfl ?_
                refine v_cv rfl rfl rfl (ck_sh hs) (by omega) ⟨⟨rfl, rfl⟩, by decide, rfl⟩ (Nat.le_of_ble_eq_true rfl) (Nat.le_of_ble_eq_true rfl) (s_43 (v1 := c_373 s (4 * a1)) (v2 := c_384 s (4 * a1 + 1)) (v3 := c_393 s (4 * a1 + 2)) (v4 := c_431 s (4 * a1 + 3)) (r := c_373 s (4 * a1) + c_384 s (4 * a1 + 1) + c_393 s (4 * a1 + 2) + c_431 s (4 * a1 + 3)) (a1 := a1) hI_432 hs (show 0 ≤ a1 ∧ a1 ≤ 5 from by omega) (((hF_433 s (4 * a1) (by omega)).trans ((hF_395 s (4 * a1) (by omega)).trans (hF_386 s (4 * a1) (by omega))))) (((hF_433 s (4 * a1 + 1) (by omega)).trans (hF_395 s (4 * a1 + 1) (by omega)))) ((hF_433 s (4 * a1 + 2) (by omega))) (rfl) (by omega) ?_)
                refine bk_inl ?_
                refine v_if_ne_t (t := 92) rfl (by decide) (by omega) ?_
                refine q_iconst rfl ?_
                refine v_zret rfl rfl (by omega) ?_
                have hr_437 : ∀ j : Int, rs s j → c_431 s j + c_431 s (j + 1) + c_431 s (j + 2) + c_431 s (j + 3) ≤ 9999 := by
                  intro j9 hj9
                  obtain ⟨k9, rfl, hk9⟩ := rs_s hs hj9
                  by_cases e_438 : k9 = a1
                  · skip
                    have h_439 : c_431 s (4 * k9) = c_373 s (4 * a1) := (congrArg (c_431 s) (show 4 * k9 = 4 * a1 from by omega)).trans ((hF_433 s (4 * a1) (by omega)).trans ((hF_395 s (4 * a1) (by omega)).trans (hF_386 s (4 * a1) (by omega))))
                    have h_440 : c_431 s (4 * k9 + 1) = c_384 s (4 * a1 + 1) := (congrArg (c_431 s) (show 4 * k9 + 1 = 4 * a1 + 1 from by omega)).trans ((hF_433 s (4 * a1 + 1) (by omega)).trans (hF_395 s (4 * a1 + 1) (by omega)))
                    have h_441 : c_431 s (4 * k9 + 2) = c_393 s (4 * a1 + 2) := (congrArg (c_431 s) (show 4 * k9 + 2 = 4 * a1 + 2 from by omega)).trans (hF_433 s (4 * a1 + 2) (by omega))
                    have h_442 : c_431 s (4 * k9 + 3) = c_431 s (4 * a1 + 3) := (congrArg (c_431 s) (show 4 * k9 + 3 = 4 * a1 + 3 from by omega))
                    omega
                  by_cases e_443 : k9 = a2
                  · skip
                    have h_444 : c_431 s (4 * k9) = c_373 s (4 * a2) := (congrArg (c_431 s) (show 4 * k9 = 4 * a2 from by omega)).trans ((hF_433 s (4 * a2) (by omega)).trans ((hF_395 s (4 * a2) (by omega)).trans (hF_386 s (4 * a2) (by omega))))
                    have h_445 : c_431 s (4 * k9 + 1) = c_384 s (4 * a2 + 1) := (congrArg (c_431 s) (show 4 * k9 + 1 = 4 * a2 + 1 from by omega)).trans ((hF_433 s (4 * a2 + 1) (by omega)).trans (hF_395 s (4 * a2 + 1) (by omega)))
                    have h_446 : c_431 s (4 * k9 + 2) = c_393 s (4 * a2 + 2) := (congrArg (c_431 s) (show 4 * k9 + 2 = 4 * a2 + 2 from by omega)).trans (hF_433 s (4 * a2 + 2) (by omega))
                    have h_447 : c_431 s (4 * k9 + 3) = c_431 s (4 * a2 + 3) := (congrArg (c_431 s) (show 4 * k9 + 3 = 4 * a2 + 3 from by omega))
                    omega
                  have h_448 := iv_r hI s (4 * k9) hj9 (by omega)
                  have h_449 := ir_s_g hI hs (j := 4 * k9) (by omega)
                  have h_450 : c_431 s (4 * k9) = c s (4 * k9) := ((hF_433 s (4 * k9) (by omega)).trans ((hF_395 s (4 * k9) (by omega)).trans ((hF_386 s (4 * k9) (by omega)).trans (hF_375 s (4 * k9) (by omega)))))
                  have h_451 := ir_s_g hI hs (j := 4 * k9 + 1) (by omega)
                  have h_452 : c_431 s (4 * k9 + 1) = c s (4 * k9 + 1) := ((hF_433 s (4 * k9 + 1) (by omega)).trans ((hF_395 s (4 * k9 + 1) (by omega)).trans ((hF_386 s (4 * k9 + 1) (by omega)).trans (hF_375 s (4 * k9 + 1) (by omega)))))
                  have h_453 := ir_s_g hI hs (j := 4 * k9 + 2) (by omega)
                  have h_454 : c_431 s (4 * k9 + 2) = c s (4 * k9 + 2) := ((hF_433 s (4 * k9 + 2) (by omega)).trans ((hF_395 s (4 * k9 + 2) (by omega)).trans ((hF_386 s (4 * k9 + 2) (by omega)).trans (hF_375 s (4 * k9 + 2) (by omega)))))
                  have h_455 := ir_s_g hI hs (j := 4 * k9 + 3) (by omega)
                  have h_456 : c_431 s (4 * k9 + 3) = c s (4 * k9 + 3) := ((hF_433 s (4 * k9 + 3) (by omega)).trans ((hF_395 s (4 * k9 + 3) (by omega)).trans ((hF_386 s (4 * k9 + 3) (by omega)).trans (hF_375 s (4 * k9 + 3) (by omega)))))
                  omega
                have hI_457 := iv_close hI_432 hr_437
                exact K c_431 1 hI_457 (fun a j hm => (hF_433 a j (by omega)).trans ((hF_395 a j (by omega)).trans ((hF_386 a j (by omega)).trans (hF_375 a j (by omega))))) ⟨by decide, by decide⟩
            · skip
              refine v_min_g rfl rfl (by omega) (Nat.le_of_ble_eq_true rfl) (by omega) ?_
              refine q_istore rfl (by decide) ?_
              refine q_aload_n rfl rfl ?_
              refine q_iload_n rfl rfl ?_
              refine q_iload_n rfl rfl ?_
              refine q_iload rfl rfl ?_
              refine q_iload rfl rfl ?_
              have h_458 : c_384 s (4 * a1 + 2) = c s (4 * a1 + 2) := ((hF_386 s (4 * a1 + 2) (by omega)).trans (hF_375 s (4 * a1 + 2) (by omega)))
              have h_459 : c_384 s (4 * a2 + 2) = c s (4 * a2 + 2) := ((hF_386 s (4 * a2 + 2) (by omega)).trans (hF_375 s (4 * a2 + 2) (by omega)))
              refine v_cv rfl rfl rfl (ck_sh hs) (by omega) ⟨⟨rfl, rfl⟩, by decide, rfl⟩ (Nat.le_of_ble_eq_true rfl) (Nat.le_of_ble_eq_true rfl) (s_52 (a1 := a1) (a2 := a2) (a3 := 2) (a4 := c s (4 * a1 + 2)) hI_385 hs (show 0 ≤ a1 ∧ a1 ≤ 5 from by omega) (show 0 ≤ a2 ∧ a2 ≤ 5 from by omega) (show 0 ≤ 2 ∧ 2 ≤ 3 from by omega) (show 0 ≤ c s (4 * a1 + 2) ∧ c s (4 * a1 + 2) ≤ 9999 from by omega) (by omega) (by omega) (by omega) (fun c_460 hI_461 hF_462 h_463 => ?_))
              refine bk_inl ?_
              have h_464 := ir_s_g hI_461 hs (j := 4 * a1 + 2) (by omega)
              have h_465 := ir_s_g hI_461 hs (j := 4 * a2 + 2) (by omega)
              refine q_iload rfl rfl ?_
              refine q_iload rfl rfl ?_
              refine v_isub (v := 0 - c s (4 * a1 + 2)) rfl (by omega) ?_
              refine q_istore rfl (by decide) ?_
              refine Wp_ls [(4, vi (0 - c s (4 * a1 + 2))), (6, vi (c s (4 * a1 + 2))), (5, vi 2), (0, .ref sh), (1, vi a1), (2, vi a2), (3, vi a3)] (lsub_cons rfl (lsub_cons rfl (lsub_cons rfl (lsub_cons rfl (lsub_cons rfl (lsub_cons rfl (lsub_cons rfl lsub_nil))))))) ?_
              refine v_iinc (v := 3) rfl rfl (by decide) (by decide) ?_
              refine q_goto (t := 31) rfl (by decide) ?_
              refine q_iload rfl rfl ?_
              refine q_iconst rfl ?_
              refine v_ic_ge_f (t := 74) rfl (by decide) (by decide) ?_
              refine q_iload rfl rfl ?_
              refine q_aload_n rfl rfl ?_
              refine q_iload_n rfl rfl ?_
              refine q_iload rfl rfl ?_
              refine v_cv rfl rfl rfl (ck_sh hs) (by omega) ⟨⟨rfl, rfl⟩, by decide, rfl⟩ (Nat.le_of_ble_eq_true rfl) (Nat.le_of_ble_eq_true rfl) (s_45 (v1 := c s (4 * a1 + 3)) (r := c s (4 * a1 + 3)) (a1 := a1) (a2 := 3) hI_461 hs (show 0 ≤ a1 ∧ a1 ≤ 5 from by omega) (show 0 ≤ 3 ∧ 3 ≤ 3 from by omega) (((hF_462 s (4 * a1 + 3) (by omega)).trans ((hF_386 s (4 * a1 + 3) (by omega)).trans (hF_375 s (4 * a1 + 3) (by omega))))) (by omega) ?_)
              refine bk_inl ?_
              by_cases h_466 : 0 - c s (4 * a1 + 2) < c s (4 * a1 + 3)
              · skip
                refine v_min_l rfl rfl (by omega) (Nat.le_of_ble_eq_true rfl) (by omega) ?_
                refine q_istore rfl (by decide) ?_
                refine q_aload_n rfl rfl ?_
                refine q_iload_n rfl rfl ?_
                refine q_iload_n rfl rfl ?_
                refine q_iload rfl rfl ?_
                refine q_iload rfl rfl ?_
                have h_467 : c_460 s (4 * a1 + 3) = c s (4 * a1 + 3) := ((hF_462 s (4 * a1 + 3) (by omega)).trans ((hF_386 s (4 * a1 + 3) (by omega)).trans (hF_375 s (4 * a1 + 3) (by omega))))
                have h_468 : c_460 s (4 * a2 + 3) = c s (4 * a2 + 3) := ((hF_462 s (4 * a2 + 3) (by omega)).trans ((hF_386 s (4 * a2 + 3) (by omega)).trans (hF_375 s (4 * a2 + 3) (by omega))))
                refine v_cv rfl rfl rfl (ck_sh hs) (by omega) ⟨⟨rfl, rfl⟩, by decide, rfl⟩ (Nat.le_of_ble_eq_true rfl) (Nat.le_of_ble_eq_true rfl) (s_52 (a1 := a1) (a2 := a2) (a3 := 3) (a4 := 0 - c s (4 * a1 + 2)) hI_461 hs (show 0 ≤ a1 ∧ a1 ≤ 5 from by omega) (show 0 ≤ a2 ∧ a2 ≤ 5 from by omega) (show 0 ≤ 3 ∧ 3 ≤ 3 from by omega) (show 0 ≤ 0 - c s (4 * a1 + 2) ∧ 0 - c s (4 * a1 + 2) ≤ 9999 from by omega) (by omega) (by omega) (by omega) (fun c_469 hI_470 hF_471 h_472 => ?_))
                refine bk_inl ?_
                have h_473 := ir_s_g hI_470 hs (j := 4 * a1 + 3) (by omega)
                have h_474 := ir_s_g hI_470 hs (j := 4 * a2 + 3) (by omega)
                refine q_iload rfl rfl ?_
                refine q_iload rfl rfl ?_
                refine v_isub (v := 0) rfl (by decide) ?_
                refine q_istore rfl (by decide) ?_
                refine v_iinc (v := 4) rfl rfl (by decide) (by decide) ?_
                refine q_goto (t := 31) rfl (by decide) ?_
                refine q_iload rfl rfl ?_
                refine q_iconst rfl ?_
                refine v_ic_ge_t (t := 74) rfl (by decide) (by decide) ?_
                refine q_aload_n rfl rfl ?_
                refine q_iload_n rfl rfl ?_
                refine v_cv rfl rfl rfl (ck_sh hs) (by omega) ⟨⟨rfl, rfl⟩, by decide, rfl⟩ (Nat.le_of_ble_eq_true rfl) (Nat.le_of_ble_eq_true rfl) (s_43 (v1 := c_373 s (4 * a1)) (v2 := c_384 s (4 * a1 + 1)) (v3 := c_460 s (4 * a1 + 2)) (v4 := c_469 s (4 * a1 + 3)) (r := c_373 s (4 * a1) + c_384 s (4 * a1 + 1) + c_460 s (4 * a1 + 2) + c_469 s (4 * a1 + 3)) (a1 := a1) hI_470 hs (show 0 ≤ a1 ∧ a1 ≤ 5 from by omega) (((hF_471 s (4 * a1) (by omega)).trans ((hF_462 s (4 * a1) (by omega)).trans (hF_386 s (4 * a1) (by omega))))) (((hF_471 s (4 * a1 + 1) (by omega)).trans (hF_462 s (4 * a1 + 1) (by omega)))) ((hF_471 s (4 * a1 + 2) (by omega))) (rfl) (by omega) ?_)
                refine bk_inl ?_
                refine v_if_ne_t (t := 92) rfl (by decide) (by omega) ?_
                refine q_iconst rfl ?_
                refine v_zret rfl rfl (by omega) ?_
                have hr_475 : ∀ j : Int, rs s j → c_469 s j + c_469 s (j + 1) + c_469 s (j + 2) + c_469 s (j + 3) ≤ 9999 := by
                  intro j9 hj9
                  obtain ⟨k9, rfl, hk9⟩ := rs_s hs hj9
                  by_cases e_476 : k9 = a1
                  · skip
                    have h_477 : c_469 s (4 * k9) = c_373 s (4 * a1) := (congrArg (c_469 s) (show 4 * k9 = 4 * a1 from by omega)).trans ((hF_471 s (4 * a1) (by omega)).trans ((hF_462 s (4 * a1) (by omega)).trans (hF_386 s (4 * a1) (by omega))))
                    have h_478 : c_469 s (4 * k9 + 1) = c_384 s (4 * a1 + 1) := (congrArg (c_469 s) (show 4 * k9 + 1 = 4 * a1 + 1 from by omega)).trans ((hF_471 s (4 * a1 + 1) (by omega)).trans (hF_462 s (4 * a1 + 1) (by omega)))
                    have h_479 : c_469 s (4 * k9 + 2) = c_460 s (4 * a1 + 2) := (congrArg (c_469 s) (show 4 * k9 + 2 = 4 * a1 + 2 from by omega)).trans (hF_471 s (4 * a1 + 2) (by omega))
                    have h_480 : c_469 s (4 * k9 + 3) = c_469 s (4 * a1 + 3) := (congrArg (c_469 s) (show 4 * k9 + 3 = 4 * a1 + 3 from by omega))
                    omega
                  by_cases e_481 : k9 = a2
                  · skip
                    have h_482 : c_469 s (4 * k9) = c_373 s (4 * a2) := (congrArg (c_469 s) (show 4 * k9 = 4 * a2 from by omega)).trans ((hF_471 s (4 * a2) (by omega)).trans ((hF_462 s (4 * a2) (by omega)).trans (hF_386 s (4 * a2) (by omega))))
                    have h_483 : c_469 s (4 * k9 + 1) = c_384 s (4 * a2 + 1) := (congrArg (c_469 s) (show 4 * k9 + 1 = 4 * a2 + 1 from by omega)).trans ((hF_471 s (4 * a2 + 1) (by omega)).trans (hF_462 s (4 * a2 + 1) (by omega)))
                    have h_484 : c_469 s (4 * k9 + 2) = c_460 s (4 * a2 + 2) := (congrArg (c_469 s) (show 4 * k9 + 2 = 4 * a2 + 2 from by omega)).trans (hF_471 s (4 * a2 + 2) (by omega))
                    have h_485 : c_469 s (4 * k9 + 3) = c_469 s (4 * a2 + 3) := (congrArg (c_469 s) (show 4 * k9 + 3 = 4 * a2 + 3 from by omega))
                    omega
                  have h_486 := iv_r hI s (4 * k9) hj9 (by omega)
                  have h_487 := ir_s_g hI hs (j := 4 * k9) (by omega)
                  have h_488 : c_469 s (4 * k9) = c s (4 * k9) := ((hF_471 s (4 * k9) (by omega)).trans ((hF_462 s (4 * k9) (by omega)).trans ((hF_386 s (4 * k9) (by omega)).trans (hF_375 s (4 * k9) (by omega)))))
                  have h_489 := ir_s_g hI hs (j := 4 * k9 + 1) (by omega)
                  have h_490 : c_469 s (4 * k9 + 1) = c s (4 * k9 + 1) := ((hF_471 s (4 * k9 + 1) (by omega)).trans ((hF_462 s (4 * k9 + 1) (by omega)).trans ((hF_386 s (4 * k9 + 1) (by omega)).trans (hF_375 s (4 * k9 + 1) (by omega)))))
                  have h_491 := ir_s_g hI hs (j := 4 * k9 + 2) (by omega)
                  have h_492 : c_469 s (4 * k9 + 2) = c s (4 * k9 + 2) := ((hF_471 s (4 * k9 + 2) (by omega)).trans ((hF_462 s (4 * k9 + 2) (by omega)).trans ((hF_386 s (4 * k9 + 2) (by omega)).trans (hF_375 s (4 * k9 + 2) (by omega)))))
                  have h_493 := ir_s_g hI hs (j := 4 * k9 + 3) (by omega)
                  have h_494 : c_469 s (4 * k9 + 3) = c s (4 * k9 + 3) := ((hF_471 s (4 * k9 + 3) (by omega)).trans ((hF_462 s (4 * k9 + 3) (by omega)).trans ((hF_386 s (4 * k9 + 3) (by omega)).trans (hF_375 s (4 * k9 + 3) (by omega)))))
                  omega
                have hI_495 := iv_close hI_470 hr_475
                exact K c_469 1 hI_495 (fun a j hm => (hF_471 a j (by omega)).trans ((hF_462 a j (by omega)).trans ((hF_386 a j (by omega)).trans (hF_375 a j (by omega))))) ⟨by decide, by decide⟩
              · skip
                refine v_min_g rfl rfl (by omega) (Nat.le_of_ble_eq_true rfl) (by omega) ?_
                refine q_istore rfl (by decide) ?_
                refine q_aload_n rfl rfl ?_
                refine q_iload_n rfl rfl ?_
                refine q_iload_n rfl rfl ?_
                refine q_iload rfl rfl ?_
                refine q_iload rfl rfl ?_
                have h_496 : c_460 s (4 * a1 + 3) = c s (4 * a1 + 3) := ((hF_462 s (4 * a1 + 3) (by omega)).trans ((hF_386 s (4 * a1 + 3) (by omega)).trans (hF_375 s (4 * a1 + 3) (by omega))))
                have h_497 : c_460 s (4 * a2 + 3) = c s (4 * a2 + 3) := ((hF_462 s (4 * a2 + 3) (by omega)).trans ((hF_386 s (4 * a2 + 3) (by omega)).trans (hF_375 s (4 * a2 + 3) (by omega))))
                refine v_cv rfl rfl rfl (ck_sh hs) (by omega) ⟨⟨rfl, rfl⟩, by decide, rfl⟩ (Nat.le_of_ble_eq_true rfl) (Nat.le_of_ble_eq_true rfl) (s_52 (a1 := a1) (a2 := a2) (a3 := 3) (a4 := c s (4 * a1 + 3)) hI_461 hs (show 0 ≤ a1 ∧ a1 ≤ 5 from by omega) (show 0 ≤ a2 ∧ a2 ≤ 5 from by omega) (show 0 ≤ 3 ∧ 3 ≤ 3 from by omega) (show 0 ≤ c s (4 * a1 + 3) ∧ c s (4 * a1 + 3) ≤ 9999 from by omega) (by omega) (by omega) (by omega) (fun c_498 hI_499 hF_500 h_501 => ?_))
                refine bk_inl ?_
                have h_502 := ir_s_g hI_499 hs (j := 4 * a1 + 3) (by omega)
                have h_503 := ir_s_g hI_499 hs (j := 4 * a2 + 3) (by omega)
                refine q_iload rfl rfl ?_
                refine q_iload rfl rfl ?_
                refine v_isub (v := 0 - c s (4 * a1 + 2) - c s (4 * a1 + 3)) rfl (by omega) ?_
                refine q_istore rfl (by decide) ?_
                refine v_iinc (v := 4) rfl rfl (by decide) (by decide) ?_
                refine q_goto (t := 31) rfl (by decide) ?_
                refine q_iload rfl rfl ?_
                refine q_iconst rfl ?_
                refine v_ic_ge_t (t := 74) rfl (by decide) (by decide) ?_
                refine q_aload_n rfl rfl ?_
                refine q_iload_n rfl rfl ?_
                refine v_cv rfl rfl rfl (ck_sh hs) (by omega) ⟨⟨rfl, rfl⟩, by decide, rfl⟩ (Nat.le_of_ble_eq_true rfl) (Nat.le_of_ble_eq_true rfl) (s_43 (v1 := c_373 s (4 * a1)) (v2 := c_384 s (4 * a1 + 1)) (v3 := c_460 s (4 * a1 + 2)) (v4 := c_498 s (4 * a1 + 3)) (r := c_373 s (4 * a1) + c_384 s (4 * a1 + 1) + c_460 s (4 * a1 + 2) + c_498 s (4 * a1 + 3)) (a1 := a1) hI_499 hs (show 0 ≤ a1 ∧ a1 ≤ 5 from by omega) (((hF_500 s (4 * a1) (by omega)).trans ((hF_462 s (4 * a1) (by omega)).trans (hF_386 s (4 * a1) (by omega))))) (((hF_500 s (4 * a1 + 1) (by omega)).trans (hF_462 s (4 * a1 + 1) (by omega)))) ((hF_500 s (4 * a1 + 2) (by omega))) (rfl) (by omega) ?_)
                refine bk_inl ?_
                refine v_if_ne_t (t := 92) rfl (by decide) (by omega) ?_
                refine q_iconst rfl ?_
                refine v_zret rfl rfl (by omega) ?_
                have hr_504 : ∀ j : Int, rs s j → c_498 s j + c_498 s (j + 1) + c_498 s (j + 2) + c_498 s (j + 3) ≤ 9999 := by
                  intro j9 hj9
                  obtain ⟨k9, rfl, hk9⟩ := rs_s hs hj9
                  by_cases e_505 : k9 = a1
                  · skip
                    have h_506 : c_498 s (4 * k9) = c_373 s (4 * a1) := (congrArg (c_498 s) (show 4 * k9 = 4 * a1 from by omega)).trans ((hF_500 s (4 * a1) (by omega)).trans ((hF_462 s (4 * a1) (by omega)).trans (hF_386 s (4 * a1) (by omega))))
                    have h_507 : c_498 s (4 * k9 + 1) = c_384 s (4 * a1 + 1) := (congrArg (c_498 s) (show 4 * k9 + 1 = 4 * a1 + 1 from by omega)).trans ((hF_500 s (4 * a1 + 1) (by omega)).trans (hF_462 s (4 * a1 + 1) (by omega)))
                    have h_508 : c_498 s (4 * k9 + 2) = c_460 s (4 * a1 + 2) := (congrArg (c_498 s) (show 4 * k9 + 2 = 4 * a1 + 2 from by omega)).trans (hF_500 s (4 * a1 + 2) (by omega))
                    have h_509 : c_498 s (4 * k9 + 3) = c_498 s (4 * a1 + 3) := (congrArg (c_498 s) (show 4 * k9 + 3 = 4 * a1 + 3 from by omega))
                    omega
                  by_cases e_510 : k9 = a2
                  · skip
                    have h_511 : c_498 s (4 * k9) = c_373 s (4 * a2) := (congrArg (c_498 s) (show 4 * k9 = 4 * a2 from by omega)).trans ((hF_500 s (4 * a2) (by omega)).trans ((hF_462 s (4 * a2) (by omega)).trans (hF_386 s (4 * a2) (by omega))))
                    have h_512 : c_498 s (4 * k9 + 1) = c_384 s (4 * a2 + 1) := (congrArg (c_498 s) (show 4 * k9 + 1 = 4 * a2 + 1 from by omega)).trans ((hF_500 s (4 * a2 + 1) (by omega)).trans (hF_462 s (4 * a2 + 1) (by omega)))
                    have h_513 : c_498 s (4 * k9 + 2) = c_460 s (4 * a2 + 2) := (congrArg (c_498 s) (show 4 * k9 + 2 = 4 * a2 + 2 from by omega)).trans (hF_500 s (4 * a2 + 2) (by omega))
                    have h_514 : c_498 s (4 * k9 + 3) = c_498 s (4 * a2 + 3) := (congrArg (c_498 s) (show 4 * k9 + 3 = 4 * a2 + 3 from by omega))
                    omega
                  have h_515 := iv_r hI s (4 * k9) hj9 (by omega)
                  have h_516 := ir_s_g hI hs (j := 4 * k9) (by omega)
                  have h_517 : c_498 s (4 * k9) = c s (4 * k9) := ((hF_500 s (4 * k9) (by omega)).trans ((hF_462 s (4 * k9) (by omega)).trans ((hF_386 s (4 * k9) (by omega)).trans (hF_375 s (4 * k9) (by omega)))))
                  have h_518 := ir_s_g hI hs (j := 4 * k9 + 1) (by omega)
                  have h_519 : c_498 s (4 * k9 + 1) = c s (4 * k9 + 1) := ((hF_500 s (4 * k9 + 1) (by omega)).trans ((hF_462 s (4 * k9 + 1) (by omega)).trans ((hF_386 s (4 * k9 + 1) (by omega)).trans (hF_375 s (4 * k9 + 1) (by omega)))))
                  have h_520 := ir_s_g hI hs (j := 4 * k9 + 2) (by omega)
                  have h_521 : c_498 s (4 * k9 + 2) = c s (4 * k9 + 2) := ((hF_500 s (4 * k9 + 2) (by omega)).trans ((hF_462 s (4 * k9 + 2) (by omega)).trans ((hF_386 s (4 * k9 + 2) (by omega)).trans (hF_375 s (4 * k9 + 2) (by omega)))))
                  have h_522 := ir_s_g hI hs (j := 4 * k9 + 3) (by omega)
                  have h_523 : c_498 s (4 * k9 + 3) = c s (4 * k9 + 3) := ((hF_500 s (4 * k9 + 3) (by omega)).trans ((hF_462 s (4 * k9 + 3) (by omega)).trans ((hF_386 s (4 * k9 + 3) (by omega)).trans (hF_375 s (4 * k9 + 3) (by omega)))))
                  omega
                have hI_524 := iv_close hI_499 hr_504
                exact K c_498 1 hI_524 (fun a j hm => (hF_500 a j (by omega)).trans ((hF_462 a j (by omega)).trans ((hF_386 a j (by omega)).trans (hF_375 a j (by omega))))) ⟨by decide, by decide⟩
          · skip
            refine v_min_g rfl rfl (by omega) (Nat.le_of_ble_eq_true rfl) (by omega) ?_
            refine q_istore rfl (by decide) ?_
            refine q_aload_n rfl rfl ?_
            refine q_iload_n rfl rfl ?_
            refine q_iload_n rfl rfl ?_
            refine q_iload rfl rfl ?_
            refine q_iload rfl rfl ?_
            have h_525 : c_373 s (4 * a1 + 1) = c s (4 * a1 + 1) := (hF_375 s (4 * a1 + 1) (by omega))
            have h_526 : c_373 s (4 * a2 + 1) = c s (4 * a2 + 1) := (hF_375 s (4 * a2 + 1) (by omega))
            refine v_cv rfl rfl rfl (ck_sh hs) (by omega) ⟨⟨rfl, rfl⟩, by decide, rfl⟩ (Nat.le_of_ble_eq_true rfl) (Nat.le_of_ble_eq_true rfl) (s_52 (a1 := a1) (a2 := a2) (a3 := 1) (a4 := c s (4 * a1 + 1)) hI_374 hs (show 0 ≤ a1 ∧ a1 ≤ 5 from by omega) (show 0 ≤ a2 ∧ a2 ≤ 5 from by omega) (show 0 ≤ 1 ∧ 1 ≤ 3 from by omega) (show 0 ≤ c s (4 * a1 + 1) ∧ c s (4 * a1 + 1) ≤ 9999 from by omega) (by omega) (by omega) (by omega) (fun c_527 hI_528 hF_529 h_530 => ?_))
            refine bk_inl ?_
            have h_531 := ir_s_g hI_528 hs (j := 4 * a1 + 1) (by omega)
            have h_532 := ir_s_g hI_528 hs (j := 4 * a2 + 1) (by omega)
            refine q_iload rfl rfl ?_
            refine q_iload rfl rfl ?_
            refine v_isub (v := a3 - c s (4 * a1 + 1) - c s (4 * a1)) rfl (by omega) ?_
            refine q_istore rfl (by decide) ?_
            refine v_iinc (v := 2) rfl rfl (by decide) (by decide) ?_
            refine q_goto (t := 31) rfl (by decide) ?_
            refine q_iload rfl rfl ?_
            refine q_iconst rfl ?_
            refine v_ic_ge_f (t := 74) rfl (by decide) (by decide) ?_
            refine q_iload rfl rfl ?_
            refine q_aload_n rfl rfl ?_
            refine q_iload_n rfl rfl ?_
            refine q_iload rfl rfl ?_
            refine v_cv rfl rfl rfl (ck_sh hs) (by omega) ⟨⟨rfl, rfl⟩, by decide, rfl⟩ (Nat.le_of_ble_eq_true rfl) (Nat.le_of_ble_eq_true rfl) (s_45 (v1 := c s (4 * a1 + 2)) (r := c s (4 * a1 + 2)) (a1 := a1) (a2 := 2) hI_528 hs (show 0 ≤ a1 ∧ a1 ≤ 5 from by omega) (show 0 ≤ 2 ∧ 2 ≤ 3 from by omega) (((hF_529 s (4 * a1 + 2) (by omega)).trans (hF_375 s (4 * a1 + 2) (by omega)))) (by omega) ?_)
            refine bk_inl ?_
            by_cases h_533 : a3 - c s (4 * a1 + 1) - c s (4 * a1) < c s (4 * a1 + 2)
            · skip
              refine v_min_l rfl rfl (by omega) (Nat.le_of_ble_eq_true rfl) (by omega) ?_
              refine q_istore rfl (by decide) ?_
              refine q_aload_n rfl rfl ?_
              refine q_iload_n rfl rfl ?_
              refine q_iload_n rfl rfl ?_
              refine q_iload rfl rfl ?_
              refine q_iload rfl rfl ?_
              have h_534 : c_527 s (4 * a1 + 2) = c s (4 * a1 + 2) := ((hF_529 s (4 * a1 + 2) (by omega)).trans (hF_375 s (4 * a1 + 2) (by omega)))
              have h_535 : c_527 s (4 * a2 + 2) = c s (4 * a2 + 2) := ((hF_529 s (4 * a2 + 2) (by omega)).trans (hF_375 s (4 * a2 + 2) (by omega)))
              refine v_cv rfl rfl rfl (ck_sh hs) (by omega) ⟨⟨rfl, rfl⟩, by decide, rfl⟩ (Nat.le_of_ble_eq_true rfl) (Nat.le_of_ble_eq_true rfl) (s_52 (a1 := a1) (a2 := a2) (a3 := 2) (a4 := a3 - c s (4 * a1 + 1) - c s (4 * a1)) hI_528 hs (show 0 ≤ a1 ∧ a1 ≤ 5 from by omega) (show 0 ≤ a2 ∧ a2 ≤ 5 from by omega) (show 0 ≤ 2 ∧ 2 ≤ 3 from by omega) (show 0 ≤ a3 - c s (4 * a1 + 1) - c s (4 * a1) ∧ a3 - c s (4 * a1 + 1) - c s (4 * a1) ≤ 9999 from by omega) (by omega) (by omega) (by omega) (fun c_536 hI_537 hF_538 h_539 => ?_))
              refine bk_inl ?_
              have h_540 := ir_s_g hI_537 hs (j := 4 * a1 + 2) (by omega)
              have h_541 := ir_s_g hI_537 hs (j := 4 * a2 + 2) (by omega)
              refine q_iload rfl rfl ?_
              refine q_iload rfl rfl ?_
              refine v_isub (v := 0) rfl (by decide) ?_
              refine q_istore rfl (by decide) ?_
              refine Wp_ls [(4, vi 0), (6, vi (a3 - c s (4 * a1 + 1) - c s (4 * a1))), (5, vi 2), (0, .ref sh), (1, vi a1), (2, vi a2), (3, vi a3)] (lsub_cons rfl (lsub_cons rfl (lsub_cons rfl (lsub_cons rfl (lsub_cons rfl (lsub_cons rfl (lsub_cons rfl lsub_nil))))))) ?_
              refine v_iinc (v := 3) rfl rfl (by decide) (by decide) ?_
              refine q_goto (t := 31) rfl (by decide) ?_
              refine q_iload rfl rfl ?_
              refine q_iconst rfl ?_
              refine v_ic_ge_f (t := 74) rfl (by decide) (by decide) ?_
              refine q_iload rfl rfl ?_
              refine q_aload_n rfl rfl ?_
              refine q_iload_n rfl rfl ?_
              refine q_iload rfl rfl ?_
              refine v_cv rfl rfl rfl (ck_sh hs) (by omega) ⟨⟨rfl, rfl⟩, by decide, rfl⟩ (Nat.le_of_ble_eq_true rfl) (Nat.le_of_ble_eq_true rfl) (s_45 (v1 := c s (4 * a1 + 3)) (r := c s (4 * a1 + 3)) (a1 := a1) (a2 := 3) hI_537 hs (show 0 ≤ a1 ∧ a1 ≤ 5 from by omega) (show 0 ≤ 3 ∧ 3 ≤ 3 from by omega) (((hF_538 s (4 * a1 + 3) (by omega)).trans ((hF_529 s (4 * a1 + 3) (by omega)).trans (hF_375 s (4 * a1 + 3) (by omega))))) (by omega) ?_)
              refine bk_inl ?_
              by_cases h_542 : 0 < c s (4 * a1 + 3)
              · skip
                refine v_min_l rfl rfl (by omega) (Nat.le_of_ble_eq_true rfl) (by omega) ?_
                refine q_istore rfl (by decide) ?_
                refine q_aload_n rfl rfl ?_
                refine q_iload_n rfl rfl ?_
                refine q_iload_n rfl rfl ?_
                refine q_iload rfl rfl ?_
                refine q_iload rfl rfl ?_
                have h_543 : c_536 s (4 * a1 + 3) = c s (4 * a1 + 3) := ((hF_538 s (4 * a1 + 3) (by omega)).trans ((hF_529 s (4 * a1 + 3) (by omega)).trans (hF_375 s (4 * a1 + 3) (by omega))))
                have h_544 : c_536 s (4 * a2 + 3) = c s (4 * a2 + 3) := ((hF_538 s (4 * a2 + 3) (by omega)).trans ((hF_529 s (4 * a2 + 3) (by omega)).trans (hF_375 s (4 * a2 + 3) (by omega))))
                refine v_cv rfl rfl rfl (ck_sh hs) (by omega) ⟨⟨rfl, rfl⟩, by decide, rfl⟩ (Nat.le_of_ble_eq_true rfl) (Nat.le_of_ble_eq_true rfl) (s_52 (a1 := a1) (a2 := a2) (a3 := 3) (a4 := 0) hI_537 hs (show 0 ≤ a1 ∧ a1 ≤ 5 from by omega) (show 0 ≤ a2 ∧ a2 ≤ 5 from by omega) (show 0 ≤ 3 ∧ 3 ≤ 3 from by omega) (show 0 ≤ 0 ∧ 0 ≤ 9999 from by omega) (by omega) (by omega) (by omega) (fun c_545 hI_546 hF_547 h_548 => ?_))
                refine bk_inl ?_
                have h_549 := ir_s_g hI_546 hs (j := 4 * a1 + 3) (by omega)
                have h_550 := ir_s_g hI_546 hs (j := 4 * a2 + 3) (by omega)
                refine q_iload rfl rfl ?_
                refine q_iload rfl rfl ?_
                refine v_isub (v := 0) rfl (by decide) ?_
                refine q_istore rfl (by decide) ?_
                refine v_iinc (v := 4) rfl rfl (by decide) (by decide) ?_
                refine q_goto (t := 31) rfl (by decide) ?_
                refine q_iload rfl rfl ?_
                refine q_iconst rfl ?_
                refine v_ic_ge_t (t := 74) rfl (by decide) (by decide) ?_
                refine q_aload_n rfl rfl ?_
                refine q_iload_n rfl rfl ?_
                refine v_cv rfl rfl rfl (ck_sh hs) (by omega) ⟨⟨rfl, rfl⟩, by decide, rfl⟩ (Nat.le_of_ble_eq_true rfl) (Nat.le_of_ble_eq_true rfl) (s_43 (v1 := c_373 s (4 * a1)) (v2 := c_527 s (4 * a1 + 1)) (v3 := c_536 s (4 * a1 + 2)) (v4 := c_545 s (4 * a1 + 3)) (r := c_373 s (4 * a1) + c_527 s (4 * a1 + 1) + c_536 s (4 * a1 + 2) + c_545 s (4 * a1 + 3)) (a1 := a1) hI_546 hs (show 0 ≤ a1 ∧ a1 ≤ 5 from by omega) (((hF_547 s (4 * a1) (by omega)).trans ((hF_538 s (4 * a1) (by omega)).trans (hF_529 s (4 * a1) (by omega))))) (((hF_547 s (4 * a1 + 1) (by omega)).trans (hF_538 s (4 * a1 + 1) (by omega)))) ((hF_547 s (4 * a1 + 2) (by omega))) (rfl) (by omega) ?_)
                refine bk_inl ?_
                refine v_if_ne_t (t := 92) rfl (by decide) (by omega) ?_
                refine q_iconst rfl ?_
                refine v_zret rfl rfl (by omega) ?_
                have hr_551 : ∀ j : Int, rs s j → c_545 s j + c_545 s (j + 1) + c_545 s (j + 2) + c_545 s (j + 3) ≤ 9999 := by
                  intro j9 hj9
                  obtain ⟨k9, rfl, hk9⟩ := rs_s hs hj9
                  by_cases e_552 : k9 = a1
                  · skip
                    have h_553 : c_545 s (4 * k9) = c_373 s (4 * a1) := (congrArg (c_545 s) (show 4 * k9 = 4 * a1 from by omega)).trans ((hF_547 s (4 * a1) (by omega)).trans ((hF_538 s (4 * a1) (by omega)).trans (hF_529 s (4 * a1) (by omega))))
                    have h_554 : c_545 s (4 * k9 + 1) = c_527 s (4 * a1 + 1) := (congrArg (c_545 s) (show 4 * k9 + 1 = 4 * a1 + 1 from by omega)).trans ((hF_547 s (4 * a1 + 1) (by omega)).trans (hF_538 s (4 * a1 + 1) (by omega)))
                    have h_555 : c_545 s (4 * k9 + 2) = c_536 s (4 * a1 + 2) := (congrArg (c_545 s) (show 4 * k9 + 2 = 4 * a1 + 2 from by omega)).trans (hF_547 s (4 * a1 + 2) (by omega))
                    have h_556 : c_545 s (4 * k9 + 3) = c_545 s (4 * a1 + 3) := (congrArg (c_545 s) (show 4 * k9 + 3 = 4 * a1 + 3 from by omega))
                    omega
                  by_cases e_557 : k9 = a2
                  · skip
                    have h_558 : c_545 s (4 * k9) = c_373 s (4 * a2) := (congrArg (c_545 s) (show 4 * k9 = 4 * a2 from by omega)).trans ((hF_547 s (4 * a2) (by omega)).trans ((hF_538 s (4 * a2) (by omega)).trans (hF_529 s (4 * a2) (by omega))))
                    have h_559 : c_545 s (4 * k9 + 1) = c_527 s (4 * a2 + 1) := (congrArg (c_545 s) (show 4 * k9 + 1 = 4 * a2 + 1 from by omega)).trans ((hF_547 s (4 * a2 + 1) (by omega)).trans (hF_538 s (4 * a2 + 1) (by omega)))
                    have h_560 : c_545 s (4 * k9 + 2) = c_536 s (4 * a2 + 2) := (congrArg (c_545 s) (show 4 * k9 + 2 = 4 * a2 + 2 from by omega)).trans (hF_547 s (4 * a2 + 2) (by omega))
                    have h_561 : c_545 s (4 * k9 + 3) = c_545 s (4 * a2 + 3) := (congrArg (c_545 s) (show 4 * k9 + 3 = 4 * a2 + 3 from by omega))
                    omega
                  have h_562 := iv_r hI s (4 * k9) hj9 (by omega)
                  have h_563 := ir_s_g hI hs (j := 4 * k9) (by omega)
                  have h_564 : c_545 s (4 * k9) = c s (4 * k9) := ((hF_547 s (4 * k9) (by omega)).trans ((hF_538 s (4 * k9) (by omega)).trans ((hF_529 s (4 * k9) (by omega)).trans (hF_375 s (4 * k9) (by omega)))))
                  have h_565 := ir_s_g hI hs (j := 4 * k9 + 1) (by omega)
                  have h_566 : c_545 s (4 * k9 + 1) = c s (4 * k9 + 1) := ((hF_547 s (4 * k9 + 1) (by omega)).trans ((hF_538 s (4 * k9 + 1) (by omega)).trans ((hF_529 s (4 * k9 + 1) (by omega)).trans (hF_375 s (4 * k9 + 1) (by omega)))))
                  have h_567 := ir_s_g hI hs (j := 4 * k9 + 2) (by omega)
                  have h_568 : c_545 s (4 * k9 + 2) = c s (4 * k9 + 2) := ((hF_547 s (4 * k9 + 2) (by omega)).trans ((hF_538 s (4 * k9 + 2) (by omega)).trans ((hF_529 s (4 * k9 + 2) (by omega)).trans (hF_375 s (4 * k9 + 2) (by omega)))))
                  have h_569 := ir_s_g hI hs (j := 4 * k9 + 3) (by omega)
                  have h_570 : c_545 s (4 * k9 + 3) = c s (4 * k9 + 3) := ((hF_547 s (4 * k9 + 3) (by omega)).trans ((hF_538 s (4 * k9 + 3) (by omega)).trans ((hF_529 s (4 * k9 + 3) (by omega)).trans (hF_375 s (4 * k9 + 3) (by omega)))))
                  omega
                have hI_571 := iv_close hI_546 hr_551
                exact K c_545 1 hI_571 (fun a j hm => (hF_547 a j (by omega)).trans ((hF_538 a j (by omega)).trans ((hF_529 a j (by omega)).trans (hF_375 a j (by omega))))) ⟨by decide, by decide⟩
              · skip
                refine v_min_g rfl rfl (by omega) (Nat.le_of_ble_eq_true rfl) (by omega) ?_
                refine q_istore rfl (by decide) ?_
                refine q_aload_n rfl rfl ?_
                refine q_iload_n rfl rfl ?_
                refine q_iload_n rfl rfl ?_
                refine q_iload rfl rfl ?_
                refine q_iload rfl rfl ?_
                have h_572 : c_536 s (4 * a1 + 3) = c s (4 * a1 + 3) := ((hF_538 s (4 * a1 + 3) (by omega)).trans ((hF_529 s (4 * a1 + 3) (by omega)).trans (hF_375 s (4 * a1 + 3) (by omega))))
                have h_573 : c_536 s (4 * a2 + 3) = c s (4 * a2 + 3) := ((hF_538 s (4 * a2 + 3) (by omega)).trans ((hF_529 s (4 * a2 + 3) (by omega)).trans (hF_375 s (4 * a2 + 3) (by omega))))
                refine v_cv rfl rfl rfl (ck_sh hs) (by omega) ⟨⟨rfl, rfl⟩, by decide, rfl⟩ (Nat.le_of_ble_eq_true rfl) (Nat.le_of_ble_eq_true rfl) (s_52 (a1 := a1) (a2 := a2) (a3 := 3) (a4 := c s (4 * a1 + 3)) hI_537 hs (show 0 ≤ a1 ∧ a1 ≤ 5 from by omega) (show 0 ≤ a2 ∧ a2 ≤ 5 from by omega) (show 0 ≤ 3 ∧ 3 ≤ 3 from by omega) (show 0 ≤ c s (4 * a1 + 3) ∧ c s (4 * a1 + 3) ≤ 9999 from by omega) (by omega) (by omega) (by omega) (fun c_574 hI_575 hF_576 h_577 => ?_))
                refine bk_inl ?_
                have h_578 := ir_s_g hI_575 hs (j := 4 * a1 + 3) (by omega)
                have h_579 := ir_s_g hI_575 hs (j := 4 * a2 + 3) (by omega)
                refine q_iload rfl rfl ?_
                refine q_iload rfl rfl ?_
                refine v_isub (v := 0 - c s (4 * a1 + 3)) rfl (by omega) ?_
                refine q_istore rfl (by decide) ?_
                refine v_iinc (v := 4) rfl rfl (by decide) (by decide) ?_
                refine q_goto (t := 31) rfl (by decide) ?_
                refine q_iload rfl rfl ?_
                refine q_iconst rfl ?_
                refine v_ic_ge_t (t := 74) rfl (by decide) (by decide) ?_
                refine q_aload_n rfl rfl ?_
                refine q_iload_n rfl rfl ?_
                refine v_cv rfl rfl rfl (ck_sh hs) (by omega) ⟨⟨rfl, rfl⟩, by decide, rfl⟩ (Nat.le_of_ble_eq_true rfl) (Nat.le_of_ble_eq_true rfl) (s_43 (v1 := c_373 s (4 * a1)) (v2 := c_527 s (4 * a1 + 1)) (v3 := c_536 s (4 * a1 + 2)) (v4 := c_574 s (4 * a1 + 3)) (r := c_373 s (4 * a1) + c_527 s (4 * a1 + 1) + c_536 s (4 * a1 + 2) + c_574 s (4 * a1 + 3)) (a1 := a1) hI_575 hs (show 0 ≤ a1 ∧ a1 ≤ 5 from by omega) (((hF_576 s (4 * a1) (by omega)).trans ((hF_538 s (4 * a1) (by omega)).trans (hF_529 s (4 * a1) (by omega))))) (((hF_576 s (4 * a1 + 1) (by omega)).trans (hF_538 s (4 * a1 + 1) (by omega)))) ((hF_576 s (4 * a1 + 2) (by omega))) (rfl) (by omega) ?_)
                refine bk_inl ?_
                refine v_if_ne_t (t := 92) rfl (by decide) (by omega) ?_
                refine q_iconst rfl ?_
                refine v_zret rfl rfl (by omega) ?_
                have hr_580 : ∀ j : Int, rs s j → c_574 s j + c_574 s (j + 1) + c_574 s (j + 2) + c_574 s (j + 3) ≤ 9999 := by
                  intro j9 hj9
                  obtain ⟨k9, rfl, hk9⟩ := rs_s hs hj9
                  by_cases e_581 : k9 = a1
                  · skip
                    have h_582 : c_574 s (4 * k9) = c_373 s (4 * a1) := (congrArg (c_574 s) (show 4 * k9 = 4 * a1 from by omega)).trans ((hF_576 s (4 * a1) (by omega)).trans ((hF_538 s (4 * a1) (by omega)).trans (hF_529 s (4 * a1) (by omega))))
                    have h_583 : c_574 s (4 * k9 + 1) = c_527 s (4 * a1 + 1) := (congrArg (c_574 s) (show 4 * k9 + 1 = 4 * a1 + 1 from by omega)).trans ((hF_576 s (4 * a1 + 1) (by omega)).trans (hF_538 s (4 * a1 + 1) (by omega)))
                    have h_584 : c_574 s (4 * k9 + 2) = c_536 s (4 * a1 + 2) := (congrArg (c_574 s) (show 4 * k9 + 2 = 4 * a1 + 2 from by omega)).trans (hF_576 s (4 * a1 + 2) (by omega))
                    have h_585 : c_574 s (4 * k9 + 3) = c_574 s (4 * a1 + 3) := (congrArg (c_574 s) (show 4 * k9 + 3 = 4 * a1 + 3 from by omega))
                    omega
                  by_cases e_586 : k9 = a2
                  · skip
                    have h_587 : c_574 s (4 * k9) = c_373 s (4 * a2) := (congrArg (c_574 s) (show 4 * k9 = 4 * a2 from by omega)).trans ((hF_576 s (4 * a2) (by omega)).trans ((hF_538 s (4 * a2) (by omega)).trans (hF_529 s (4 * a2) (by omega))))
                    have h_588 : c_574 s (4 * k9 + 1) = c_527 s (4 * a2 + 1) := (congrArg (c_574 s) (show 4 * k9 + 1 = 4 * a2 + 1 from by omega)).trans ((hF_576 s (4 * a2 + 1) (by omega)).trans (hF_538 s (4 * a2 + 1) (by omega)))
                    have h_589 : c_574 s (4 * k9 + 2) = c_536 s (4 * a2 + 2) := (congrArg (c_574 s) (show 4 * k9 + 2 = 4 * a2 + 2 from by omega)).trans (hF_576 s (4 * a2 + 2) (by omega))
                    have h_590 : c_574 s (4 * k9 + 3) = c_574 s (4 * a2 + 3) := (congrArg (c_574 s) (show 4 * k9 + 3 = 4 * a2 + 3 from by omega))
                    omega
                  have h_591 := iv_r hI s (4 * k9) hj9 (by omega)
                  have h_592 := ir_s_g hI hs (j := 4 * k9) (by omega)
                  have h_593 : c_574 s (4 * k9) = c s (4 * k9) := ((hF_576 s (4 * k9) (by omega)).trans ((hF_538 s (4 * k9) (by omega)).trans ((hF_529 s (4 * k9) (by omega)).trans (hF_375 s (4 * k9) (by omega)))))
                  have h_594 := ir_s_g hI hs (j := 4 * k9 + 1) (by omega)
                  have h_595 : c_574 s (4 * k9 + 1) = c s (4 * k9 + 1) := ((hF_576 s (4 * k9 + 1) (by omega)).trans ((hF_538 s (4 * k9 + 1) (by omega)).trans ((hF_529 s (4 * k9 + 1) (by omega)).trans (hF_375 s (4 * k9 + 1) (by omega)))))
                  have h_596 := ir_s_g hI hs (j := 4 * k9 + 2) (by omega)
                  have h_597 : c_574 s (4 * k9 + 2) = c s (4 * k9 + 2) := ((hF_576 s (4 * k9 + 2) (by omega)).trans ((hF_538 s (4 * k9 + 2) (by omega)).trans ((hF_529 s (4 * k9 + 2) (by omega)).trans (hF_375 s (4 * k9 + 2) (by omega)))))
                  have h_598 := ir_s_g hI hs (j := 4 * k9 + 3) (by omega)
                  have h_599 : c_574 s (4 * k9 + 3) = c s (4 * k9 + 3) := ((hF_576 s (4 * k9 + 3) (by omega)).trans ((hF_538 s (4 * k9 + 3) (by omega)).trans ((hF_529 s (4 * k9 + 3) (by omega)).trans (hF_375 s (4 * k9 + 3) (by omega)))))
                  omega
                have hI_600 := iv_close hI_575 hr_580
                exact K c_574 1 hI_600 (fun a j hm => (hF_576 a j (by omega)).trans ((hF_538 a j (by omega)).trans ((hF_529 a j (by omega)).trans (hF_375 a j (by omega))))) ⟨by decide, by decide⟩
            · skip
              refine v_min_g rfl rfl (by omega) (Nat.le_of_ble_eq_true rfl) (by omega) ?_
              refine q_istore rfl (by decide) ?_
              refine q_aload_n rfl rfl ?_
              refine q_iload_n rfl rfl ?_
              refine q_iload_n rfl rfl ?_
              refine q_iload rfl rfl ?_
              refine q_iload rfl rfl ?_
              have h_601 : c_527 s (4 * a1 + 2) = c s (4 * a1 + 2) := ((hF_529 s (4 * a1 + 2) (by omega)).trans (hF_375 s (4 * a1 + 2) (by omega)))
              have h_602 : c_527 s (4 * a2 + 2) = c s (4 * a2 + 2) := ((hF_529 s (4 * a2 + 2) (by omega)).trans (hF_375 s (4 * a2 + 2) (by omega)))
              refine v_cv rfl rfl rfl (ck_sh hs) (by omega) ⟨⟨rfl, rfl⟩, by decide, rfl⟩ (Nat.le_of_ble_eq_true rfl) (Nat.le_of_ble_eq_true rfl) (s_52 (a1 := a1) (a2 := a2) (a3 := 2) (a4 := c s (4 * a1 + 2)) hI_528 hs (show 0 ≤ a1 ∧ a1 ≤ 5 from by omega) (show 0 ≤ a2 ∧ a2 ≤ 5 from by omega) (show 0 ≤ 2 ∧ 2 ≤ 3 from by omega) (show 0 ≤ c s (4 * a1 + 2) ∧ c s (4 * a1 + 2) ≤ 9999 from by omega) (by omega) (by omega) (by omega) (fun c_603 hI_604 hF_605 h_606 => ?_))
              refine bk_inl ?_
              have h_607 := ir_s_g hI_604 hs (j := 4 * a1 + 2) (by omega)
              have h_608 := ir_s_g hI_604 hs (j := 4 * a2 + 2) (by omega)
              refine q_iload rfl rfl ?_
              refine q_iload rfl rfl ?_
              refine v_isub (v := a3 - c s (4 * a1 + 1) - c s (4 * a1 + 2) - c s (4 * a1)) rfl (by omega) ?_
              refine q_istore rfl (by decide) ?_
              refine Wp_ls [(4, vi (a3 - c s (4 * a1 + 1) - c s (4 * a1 + 2) - c s (4 * a1))), (6, vi (c s (4 * a1 + 2))), (5, vi 2), (0, .ref sh), (1, vi a1), (2, vi a2), (3, vi a3)] (lsub_cons rfl (lsub_cons rfl (lsub_cons rfl (lsub_cons rfl (lsub_cons rfl (lsub_cons rfl (lsub_cons rfl lsub_nil))))))) ?_
              refine v_iinc (v := 3) rfl rfl (by decide) (by decide) ?_
              refine q_goto (t := 31) rfl (by decide) ?_
              refine q_iload rfl rfl ?_
              refine q_iconst rfl ?_
              refine v_ic_ge_f (t := 74) rfl (by decide) (by decide) ?_
              refine q_iload rfl rfl ?_
              refine q_aload_n rfl rfl ?_
              refine q_iload_n rfl rfl ?_
              refine q_iload rfl rfl ?_
              refine v_cv rfl rfl rfl (ck_sh hs) (by omega) ⟨⟨rfl, rfl⟩, by decide, rfl⟩ (Nat.le_of_ble_eq_true rfl) (Nat.le_of_ble_eq_true rfl) (s_45 (v1 := c s (4 * a1 + 3)) (r := c s (4 * a1 + 3)) (a1 := a1) (a2 := 3) hI_604 hs (show 0 ≤ a1 ∧ a1 ≤ 5 from by omega) (show 0 ≤ 3 ∧ 3 ≤ 3 from by omega) (((hF_605 s (4 * a1 + 3) (by omega)).trans ((hF_529 s (4 * a1 + 3) (by omega)).trans (hF_375 s (4 * a1 + 3) (by omega))))) (by omega) ?_)
              refine bk_inl ?_
              by_cases h_609 : a3 - c s (4 * a1 + 1) - c s (4 * a1 + 2) - c s (4 * a1) < c s (4 * a1 + 3)
              · skip
                refine v_min_l rfl rfl (by omega) (Nat.le_of_ble_eq_true rfl) (by omega) ?_
                refine q_istore rfl (by decide) ?_
                refine q_aload_n rfl rfl ?_
                refine q_iload_n rfl rfl ?_
                refine q_iload_n rfl rfl ?_
                refine q_iload rfl rfl ?_
                refine q_iload rfl rfl ?_
                have h_610 : c_603 s (4 * a1 + 3) = c s (4 * a1 + 3) := ((hF_605 s (4 * a1 + 3) (by omega)).trans ((hF_529 s (4 * a1 + 3) (by omega)).trans (hF_375 s (4 * a1 + 3) (by omega))))
                have h_611 : c_603 s (4 * a2 + 3) = c s (4 * a2 + 3) := ((hF_605 s (4 * a2 + 3) (by omega)).trans ((hF_529 s (4 * a2 + 3) (by omega)).trans (hF_375 s (4 * a2 + 3) (by omega))))
                refine v_cv rfl rfl rfl (ck_sh hs) (by omega) ⟨⟨rfl, rfl⟩, by decide, rfl⟩ (Nat.le_of_ble_eq_true rfl) (Nat.le_of_ble_eq_true rfl) (s_52 (a1 := a1) (a2 := a2) (a3 := 3) (a4 := a3 - c s (4 * a1 + 1) - c s (4 * a1 + 2) - c s (4 * a1)) hI_604 hs (show 0 ≤ a1 ∧ a1 ≤ 5 from by omega) (show 0 ≤ a2 ∧ a2 ≤ 5 from by omega) (show 0 ≤ 3 ∧ 3 ≤ 3 from by omega) (show 0 ≤ a3 - c s (4 * a1 + 1) - c s (4 * a1 + 2) - c s (4 * a1) ∧ a3 - c s (4 * a1 + 1) - c s (4 * a1 + 2) - c s (4 * a1) ≤ 9999 from by omega) (by omega) (by omega) (by omega) (fun c_612 hI_613 hF_614 h_615 => ?_))
                refine bk_inl ?_
                have h_616 := ir_s_g hI_613 hs (j := 4 * a1 + 3) (by omega)
                have h_617 := ir_s_g hI_613 hs (j := 4 * a2 + 3) (by omega)
                refine q_iload rfl rfl ?_
                refine q_iload rfl rfl ?_
                refine v_isub (v := 0) rfl (by decide) ?_
                refine q_istore rfl (by decide) ?_
                refine v_iinc (v := 4) rfl rfl (by decide) (by decide) ?_
                refine q_goto (t := 31) rfl (by decide) ?_
                refine q_iload rfl rfl ?_
                refine q_iconst rfl ?_
                refine v_ic_ge_t (t := 74) rfl (by decide) (by decide) ?_
                refine q_aload_n rfl rfl ?_
                refine q_iload_n rfl rfl ?_
                refine v_cv rfl rfl rfl (ck_sh hs) (by omega) ⟨⟨rfl, rfl⟩, by decide, rfl⟩ (Nat.le_of_ble_eq_true rfl) (Nat.le_of_ble_eq_true rfl) (s_43 (v1 := c_373 s (4 * a1)) (v2 := c_527 s (4 * a1 + 1)) (v3 := c_603 s (4 * a1 + 2)) (v4 := c_612 s (4 * a1 + 3)) (r := c_373 s (4 * a1) + c_527 s (4 * a1 + 1) + c_603 s (4 * a1 + 2) + c_612 s (4 * a1 + 3)) (a1 := a1) hI_613 hs (show 0 ≤ a1 ∧ a1 ≤ 5 from by omega) (((hF_614 s (4 * a1) (by omega)).trans ((hF_605 s (4 * a1) (by omega)).trans (hF_529 s (4 * a1) (by omega))))) (((hF_614 s (4 * a1 + 1) (by omega)).trans (hF_605 s (4 * a1 + 1) (by omega)))) ((hF_614 s (4 * a1 + 2) (by omega))) (rfl) (by omega) ?_)
                refine bk_inl ?_
                refine v_if_ne_t (t := 92) rfl (by decide) (by omega) ?_
                refine q_iconst rfl ?_
                refine v_zret rfl rfl (by omega) ?_
                have hr_618 : ∀ j : Int, rs s j → c_612 s j + c_612 s (j + 1) + c_612 s (j + 2) + c_612 s (j + 3) ≤ 9999 := by
                  intro j9 hj9
                  obtain ⟨k9, rfl, hk9⟩ := rs_s hs hj9
                  by_cases e_619 : k9 = a1
                  · skip
                    have h_620 : c_612 s (4 * k9) = c_373 s (4 * a1) := (congrArg (c_612 s) (show 4 * k9 = 4 * a1 from by omega)).trans ((hF_614 s (4 * a1) (by omega)).trans ((hF_605 s (4 * a1) (by omega)).trans (hF_529 s (4 * a1) (by omega))))
                    have h_621 : c_612 s (4 * k9 + 1) = c_527 s (4 * a1 + 1) := (congrArg (c_612 s) (show 4 * k9 + 1 = 4 * a1 + 1 from by omega)).trans ((hF_614 s (4 * a1 + 1) (by omega)).trans (hF_605 s (4 * a1 + 1) (by omega)))
                    have h_622 : c_612 s (4 * k9 + 2) = c_603 s (4 * a1 + 2) := (congrArg (c_612 s) (show 4 * k9 + 2 = 4 * a1 + 2 from by omega)).trans (hF_614 s (4 * a1 + 2) (by omega))
                    have h_623 : c_612 s (4 * k9 + 3) = c_612 s (4 * a1 + 3) := (congrArg (c_612 s) (show 4 * k9 + 3 = 4 * a1 + 3 from by omega))
                    omega
                  by_cases e_624 : k9 = a2
                  · skip
                    have h_625 : c_612 s (4 * k9) = c_373 s (4 * a2) := (congrArg (c_612 s) (show 4 * k9 = 4 * a2 from by omega)).trans ((hF_614 s (4 * a2) (by omega)).trans ((hF_605 s (4 * a2) (by omega)).trans (hF_529 s (4 * a2) (by omega))))
                    have h_626 : c_612 s (4 * k9 + 1) = c_527 s (4 * a2 + 1) := (congrArg (c_612 s) (show 4 * k9 + 1 = 4 * a2 + 1 from by omega)).trans ((hF_614 s (4 * a2 + 1) (by omega)).trans (hF_605 s (4 * a2 + 1) (by omega)))
                    have h_627 : c_612 s (4 * k9 + 2) = c_603 s (4 * a2 + 2) := (congrArg (c_612 s) (show 4 * k9 + 2 = 4 * a2 + 2 from by omega)).trans (hF_614 s (4 * a2 + 2) (by omega))
                    have h_628 : c_612 s (4 * k9 + 3) = c_612 s (4 * a2 + 3) := (congrArg (c_612 s) (show 4 * k9 + 3 = 4 * a2 + 3 from by omega))
                    omega
                  have h_629 := iv_r hI s (4 * k9) hj9 (by omega)
                  have h_630 := ir_s_g hI hs (j := 4 * k9) (by omega)
                  have h_631 : c_612 s (4 * k9) = c s (4 * k9) := ((hF_614 s (4 * k9) (by omega)).trans ((hF_605 s (4 * k9) (by omega)).trans ((hF_529 s (4 * k9) (by omega)).trans (hF_375 s (4 * k9) (by omega)))))
                  have h_632 := ir_s_g hI hs (j := 4 * k9 + 1) (by omega)
                  have h_633 : c_612 s (4 * k9 + 1) = c s (4 * k9 + 1) := ((hF_614 s (4 * k9 + 1) (by omega)).trans ((hF_605 s (4 * k9 + 1) (by omega)).trans ((hF_529 s (4 * k9 + 1) (by omega)).trans (hF_375 s (4 * k9 + 1) (by omega)))))
                  have h_634 := ir_s_g hI hs (j := 4 * k9 + 2) (by omega)
                  have h_635 : c_612 s (4 * k9 + 2) = c s (4 * k9 + 2) := ((hF_614 s (4 * k9 + 2) (by omega)).trans ((hF_605 s (4 * k9 + 2) (by omega)).trans ((hF_529 s (4 * k9 + 2) (by omega)).trans (hF_375 s (4 * k9 + 2) (by omega)))))
                  have h_636 := ir_s_g hI hs (j := 4 * k9 + 3) (by omega)
                  have h_637 : c_612 s (4 * k9 + 3) = c s (4 * k9 + 3) := ((hF_614 s (4 * k9 + 3) (by omega)).trans ((hF_605 s (4 * k9 + 3) (by omega)).trans ((hF_529 s (4 * k9 + 3) (by omega)).trans (hF_375 s (4 * k9 + 3) (by omega)))))
                  omega
                have hI_638 := iv_close hI_613 hr_618
                exact K c_612 1 hI_638 (fun a j hm => (hF_614 a j (by omega)).trans ((hF_605 a j (by omega)).trans ((hF_529 a j (by omega)).trans (hF_375 a j (by omega))))) ⟨by decide, by decide⟩
              · skip
                refine v_min_g rfl rfl (by omega) (Nat.le_of_ble_eq_true rfl) (by omega) ?_
                refine q_istore rfl (by decide) ?_
                refine q_aload_n rfl rfl ?_
                refine q_iload_n rfl rfl ?_
                refine q_iload_n rfl rfl ?_
                refine q_iload rfl rfl ?_
                refine q_iload rfl rfl ?_
                have h_639 : c_603 s (4 * a1 + 3) = c s (4 * a1 + 3) := ((hF_605 s (4 * a1 + 3) (by omega)).trans ((hF_529 s (4 * a1 + 3) (by omega)).trans (hF_375 s (4 * a1 + 3) (by omega))))
                have h_640 : c_603 s (4 * a2 + 3) = c s (4 * a2 + 3) := ((hF_605 s (4 * a2 + 3) (by omega)).trans ((hF_529 s (4 * a2 + 3) (by omega)).trans (hF_375 s (4 * a2 + 3) (by omega))))
                refine v_cv rfl rfl rfl (ck_sh hs) (by omega) ⟨⟨rfl, rfl⟩, by decide, rfl⟩ (Nat.le_of_ble_eq_true rfl) (Nat.le_of_ble_eq_true rfl) (s_52 (a1 := a1) (a2 := a2) (a3 := 3) (a4 := c s (4 * a1 + 3)) hI_604 hs (show 0 ≤ a1 ∧ a1 ≤ 5 from by omega) (show 0 ≤ a2 ∧ a2 ≤ 5 from by omega) (show 0 ≤ 3 ∧ 3 ≤ 3 from by omega) (show 0 ≤ c s (4 * a1 + 3) ∧ c s (4 * a1 + 3) ≤ 9999 from by omega) (by omega) (by omega) (by omega) (fun c_641 hI_642 hF_643 h_644 => ?_))
                refine bk_inl ?_
                have h_645 := ir_s_g hI_642 hs (j := 4 * a1 + 3) (by omega)
                have h_646 := ir_s_g hI_642 hs (j := 4 * a2 + 3) (by omega)
                refine q_iload rfl rfl ?_
                refine q_iload rfl rfl ?_
                refine v_isub (v := a3 - c s (4 * a1 + 1) - c s (4 * a1 + 2) - c s (4 * a1 + 3) - c s (4 * a1)) rfl (by omega) ?_
                refine q_istore rfl (by decide) ?_
                refine v_iinc (v := 4) rfl rfl (by decide) (by decide) ?_
                refine q_goto (t := 31) rfl (by decide) ?_
                refine q_iload rfl rfl ?_
                refine q_iconst rfl ?_
                refine v_ic_ge_t (t := 74) rfl (by decide) (by decide) ?_
                refine q_aload_n rfl rfl ?_
                refine q_iload_n rfl rfl ?_
                refine v_cv rfl rfl rfl (ck_sh hs) (by omega) ⟨⟨rfl, rfl⟩, by decide, rfl⟩ (Nat.le_of_ble_eq_true rfl) (Nat.le_of_ble_eq_true rfl) (s_43 (v1 := c_373 s (4 * a1)) (v2 := c_527 s (4 * a1 + 1)) (v3 := c_603 s (4 * a1 + 2)) (v4 := c_641 s (4 * a1 + 3)) (r := c_373 s (4 * a1) + c_527 s (4 * a1 + 1) + c_603 s (4 * a1 + 2) + c_641 s (4 * a1 + 3)) (a1 := a1) hI_642 hs (show 0 ≤ a1 ∧ a1 ≤ 5 from by omega) (((hF_643 s (4 * a1) (by omega)).trans ((hF_605 s (4 * a1) (by omega)).trans (hF_529 s (4 * a1) (by omega))))) (((hF_643 s (4 * a1 + 1) (by omega)).trans (hF_605 s (4 * a1 + 1) (by omega)))) ((hF_643 s (4 * a1 + 2) (by omega))) (rfl) (by omega) ?_)
                refine bk_inl ?_
                refine v_if_ne_f (t := 92) rfl (by decide) (by omega) ?_
                refine q_aload_n rfl rfl ?_
                refine v_gr (t := s) rfl rfl (ck_sh hs) (by omega) rfl ?_
                refine v_bip rfl (by decide) ?_
                refine q_iload_n rfl rfl ?_
                refine v_iadd (v := a1 + 24) rfl (by omega) ?_
                refine q_iconst rfl ?_
                refine v_is rfl (ck_s hs) (by omega) (by decide) (by omega) ?_
                refine q_iconst rfl ?_
                refine v_zret rfl rfl (by omega) ?_
                have hI_647 := iw_row (a := s) (j := a1 + 24) (v := 0) hI_642 (by omega) (Or.inl rfl) ⟨by omega, by omega, by omega⟩
                have hr_648 : ∀ j : Int, rs s j → (up c_641 s (a1 + 24) 0) s j + (up c_641 s (a1 + 24) 0) s (j + 1) + (up c_641 s (a1 + 24) 0) s (j + 2) + (up c_641 s (a1 + 24) 0) s (j + 3) ≤ 9999 := by
                  intro j9 hj9
                  obtain ⟨k9, rfl, hk9⟩ := rs_s hs hj9
                  by_cases e_649 : k9 = a1
                  · skip
                    have h_650 : (up c_641 s (a1 + 24) 0) s (4 * k9) = c_373 s (4 * a1) := (congrArg ((up c_641 s (a1 + 24) 0) s) (show 4 * k9 = 4 * a1 from by omega)).trans ((up_n (by omega)).trans ((hF_643 s (4 * a1) (by omega)).trans ((hF_605 s (4 * a1) (by omega)).trans (hF_529 s (4 * a1) (by omega)))))
                    have h_651 : (up c_641 s (a1 + 24) 0) s (4 * k9 + 1) = c_527 s (4 * a1 + 1) := (congrArg ((up c_641 s (a1 + 24) 0) s) (show 4 * k9 + 1 = 4 * a1 + 1 from by omega)).trans ((up_n (by omega)).trans ((hF_643 s (4 * a1 + 1) (by omega)).trans (hF_605 s (4 * a1 + 1) (by omega))))
                    have h_652 : (up c_641 s (a1 + 24) 0) s (4 * k9 + 2) = c_603 s (4 * a1 + 2) := (congrArg ((up c_641 s (a1 + 24) 0) s) (show 4 * k9 + 2 = 4 * a1 + 2 from by omega)).trans ((up_n (by omega)).trans (hF_643 s (4 * a1 + 2) (by omega)))
                    have h_653 : (up c_641 s (a1 + 24) 0) s (4 * k9 + 3) = c_641 s (4 * a1 + 3) := (congrArg ((up c_641 s (a1 + 24) 0) s) (show 4 * k9 + 3 = 4 * a1 + 3 from by omega)).trans (up_n (by omega))
                    omega
                  by_cases e_654 : k9 = a2
                  · skip
                    have h_655 : (up c_641 s (a1 + 24) 0) s (4 * k9) = c_373 s (4 * a2) := (congrArg ((up c_641 s (a1 + 24) 0) s) (show 4 * k9 = 4 * a2 from by omega)).trans ((up_n (by omega)).trans ((hF_643 s (4 * a2) (by omega)).trans ((hF_605 s (4 * a2) (by omega)).trans (hF_529 s (4 * a2) (by omega)))))
                    have h_656 : (up c_641 s (a1 + 24) 0) s (4 * k9 + 1) = c_527 s (4 * a2 + 1) := (congrArg ((up c_641 s (a1 + 24) 0) s) (show 4 * k9 + 1 = 4 * a2 + 1 from by omega)).trans ((up_n (by omega)).trans ((hF_643 s (4 * a2 + 1) (by omega)).trans (hF_605 s (4 * a2 + 1) (by omega))))
                    have h_657 : (up c_641 s (a1 + 24) 0) s (4 * k9 + 2) = c_603 s (4 * a2 + 2) := (congrArg ((up c_641 s (a1 + 24) 0) s) (show 4 * k9 + 2 = 4 * a2 + 2 from by omega)).trans ((up_n (by omega)).trans (hF_643 s (4 * a2 + 2) (by omega)))
                    have h_658 : (up c_641 s (a1 + 24) 0) s (4 * k9 + 3) = c_641 s (4 * a2 + 3) := (congrArg ((up c_641 s (a1 + 24) 0) s) (show 4 * k9 + 3 = 4 * a2 + 3 from by omega)).trans (up_n (by omega))
                    omega
                  have h_659 := iv_r hI s (4 * k9) hj9 (by omega)
                  have h_660 := ir_s_g hI hs (j := 4 * k9) (by omega)
                  have h_661 : (up c_641 s (a1 + 24) 0) s (4 * k9) = c s (4 * k9) := ((up_n (by omega)).trans ((hF_643 s (4 * k9) (by omega)).trans ((hF_605 s (4 * k9) (by omega)).trans ((hF_529 s (4 * k9) (by omega)).trans (hF_375 s (4 * k9) (by omega))))))
                  have h_662 := ir_s_g hI hs (j := 4 * k9 + 1) (by omega)
                  have h_663 : (up c_641 s (a1 + 24) 0) s (4 * k9 + 1) = c s (4 * k9 + 1) := ((up_n (by omega)).trans ((hF_643 s (4 * k9 + 1) (by omega)).trans ((hF_605 s (4 * k9 + 1) (by omega)).trans ((hF_529 s (4 * k9 + 1) (by omega)).trans (hF_375 s (4 * k9 + 1) (by omega))))))
                  have h_664 := ir_s_g hI hs (j := 4 * k9 + 2) (by omega)
                  have h_665 : (up c_641 s (a1 + 24) 0) s (4 * k9 + 2) = c s (4 * k9 + 2) := ((up_n (by omega)).trans ((hF_643 s (4 * k9 + 2) (by omega)).trans ((hF_605 s (4 * k9 + 2) (by omega)).trans ((hF_529 s (4 * k9 + 2) (by omega)).trans (hF_375 s (4 * k9 + 2) (by omega))))))
                  have h_666 := ir_s_g hI hs (j := 4 * k9 + 3) (by omega)
                  have h_667 : (up c_641 s (a1 + 24) 0) s (4 * k9 + 3) = c s (4 * k9 + 3) := ((up_n (by omega)).trans ((hF_643 s (4 * k9 + 3) (by omega)).trans ((hF_605 s (4 * k9 + 3) (by omega)).trans ((hF_529 s (4 * k9 + 3) (by omega)).trans (hF_375 s (4 * k9 + 3) (by omega))))))
                  omega
                have hI_668 := iv_close hI_647 hr_648
                exact K (up c_641 s (a1 + 24) 0) 1 hI_668 (fun a j hm => (up_b (by omega)).trans ((hF_643 a j (by omega)).trans ((hF_605 a j (by omega)).trans ((hF_529 a j (by omega)).trans (hF_375 a j (by omega)))))) ⟨by decide, by decide⟩

set_option maxRecDepth 100000 in
set_option maxHeartbeats 4000000 in
theorem s_55 {sc : List Int32} {d P Q sh s : Nat} {c : ME} {a1 : Int} {a2 : Int} {Z : AR → Prop} (hI : Iv 0 (-1) P Q c) (hs : (sh = 37 ∧ s = 38) ∨ (sh = 39 ∧ s = 40)) (ha1 : 0 ≤ a1 ∧ a1 ≤ 5) (ha2 : 0 ≤ a2 ∧ a2 ≤ 5) (K : ∀ (c2 : ME) (y : Int), Iv 0 (-1) P Q c2 → (∀ (a : Nat) (j : Int), ¬ (a = s) → c2 a j = c a j) → 0 ≤ y ∧ y ≤ 1 → Z (.inl (some (vi y)), Wd P Q P P c2, 0, 0)) : Wp sc (d + 10) 55 0 [(0, .ref sh), (1, vi a1), (2, vi a2)] [] (Wd P Q P P c) 0 0 Z := by
  have hP := iv_P hI
  have hQ := iv_Q hI
  refine q_aload_n rfl rfl ?_
  refine q_iload_n rfl rfl ?_
  have h_1 := ir_s_g hI hs (j := 4 * a1) (by omega)
  have h_2 := ir_s_g hI hs (j := 4 * a1 + 1) (by omega)
  have h_3 := ir_s_g hI hs (j := 4 * a1 + 2) (by omega)
  have h_4 := ir_s_g hI hs (j := 4 * a1 + 3) (by omega)
  refine v_cv rfl rfl rfl (ck_sh hs) (by omega) ⟨⟨rfl, rfl⟩, by decide, rfl⟩ (Nat.le_of_ble_eq_true rfl) (Nat.le_of_ble_eq_true rfl) (s_43 (v1 := c s (4 * a1)) (v2 := c s (4 * a1 + 1)) (v3 := c s (4 * a1 + 2)) (v4 := c s (4 * a1 + 3)) (r := c s (4 * a1 + 1) + c s (4 * a1 + 2) + c s (4 * a1 + 3) + c s (4 * a1)) (a1 := a1) hI hs (show 0 ≤ a1 ∧ a1 ≤ 5 from by omega) (rfl) (rfl) (rfl) (rfl) (by omega) ?_)
  refine bk_inl ?_
  refine q_istore_n rfl (by decide) ?_
  refine q_iload_n rfl rfl ?_
  by_cases h_5 : c s (4 * a1 + 1) + c s (4 * a1 + 2) + c s (4 * a1 + 3) + c s (4 * a1) ≤ 0
  · refine v_if_le_t (t := 24) rfl (by decide) (by omega) ?_
    refine q_iconst rfl ?_
    refine v_zret rfl rfl (by omega) ?_
    exact K c 0 hI (fun a j hm => rfl) ⟨by decide, by decide⟩
  · refine v_if_le_f (t := 24) rfl (by decide) (by omega) ?_
    refine q_aload_n rfl rfl ?_
    refine q_iload_n rfl rfl ?_
    refine q_iload_n rfl rfl ?_
    refine q_iload_n rfl rfl ?_
    refine v_cv rfl rfl rfl (ck_sh hs) (by omega) ⟨⟨rfl, rfl⟩, by decide, rfl⟩ (Nat.le_of_ble_eq_true rfl) (Nat.le_of_ble_eq_true rfl) (s_54 (a1 := a1) (a2 := a2) (a3 := c s (4 * a1 + 1) + c s (4 * a1 + 2) + c s (4 * a1 + 3) + c s (4 * a1)) hI hs (show 0 ≤ a1 ∧ a1 ≤ 5 from by omega) (show 0 ≤ a2 ∧ a2 ≤ 5 from by omega) (show 0 ≤ c s (4 * a1 + 1) + c s (4 * a1 + 2) + c s (4 * a1 + 3) + c s (4 * a1) ∧ c s (4 * a1 + 1) + c s (4 * a1 + 2) + c s (4 * a1 + 3) + c s (4 * a1) ≤ 99999 from by omega) (fun c_6 y_9 hI_7 hF_8 hy_9 => ?_))
    refine bk_inl ?_
    by_cases h_10 : y_9 = 0
    · refine v_if_eq_t (t := 24) rfl (by decide) (by omega) ?_
      refine q_iconst rfl ?_
      refine v_zret rfl rfl (by omega) ?_
      exact K c_6 0 hI_7 (fun a j hm => hF_8 a j (by omega)) ⟨by decide, by decide⟩
    · refine v_if_eq_f (t := 24) rfl (by decide) (by omega) ?_
      refine q_iconst rfl ?_
      refine q_goto (t := 25) rfl (by decide) ?_
      refine v_zret rfl rfl (by omega) ?_
      exact K c_6 1 hI_7 (fun a j hm => hF_8 a j (by omega)) ⟨by decide, by decide⟩

set_option maxRecDepth 100000 in
set_option maxHeartbeats 4000000 in
theorem s_56 {sc : List Int32} {e : Int} {d u P Q sh s : Nat} {c : ME} {a1 : Int} {Z : AR → Prop} (hI : Iv u e P Q c) (hs : (sh = 37 ∧ s = 38) ∨ (sh = 39 ∧ s = 40)) (ha1 : 0 ≤ a1 ∧ a1 ≤ 5) (K : ∀ (c2 : ME) (y : Int), Iv u e P Q c2 → (∀ (a : Nat) (j : Int), ¬ (a = (P + 10) ∨ a = (P + 11)) → c2 a j = c a j) → 0 ≤ y ∧ y ≤ 99 → Z (.inl (some (vi y)), Wd P Q P P c2, 0, 0)) : Wp sc (d + 9) 56 0 [(0, .ref sh), (1, vi a1)] [] (Wd P Q P P c) 0 0 Z := by
  have hP := iv_P hI
  have hQ := iv_Q hI
  refine q_iload_n rfl rfl ?_
  refine q_iconst rfl ?_
  refine v_imul (v := 4 * a1) rfl (by omega) ?_
  refine q_istore_n rfl (by decide) ?_
  refine q_aload_n rfl rfl ?_
  refine v_gr (t := P) rfl rfl (ck_sh hs) (by omega) rfl ?_
  refine v_gr (t := (P + 7)) rfl rfl (ck_p0 hP) (by omega) rfl ?_
  refine q_aload_n rfl rfl ?_
  refine v_gr (t := s) rfl rfl (ck_sh hs) (by omega) rfl ?_
  refine q_iload_n rfl rfl ?_
  have h_1 := ir_s_g hI hs (j := 4 * a1) (by omega)
  refine v_ia (v := c s (4 * a1)) rfl (ck_s hs) (by omega) (by decide) (by omega) rfl ?_
  refine q_aload_n rfl rfl ?_
  refine v_gr (t := s) rfl rfl (ck_sh hs) (by omega) rfl ?_
  refine q_iload_n rfl rfl ?_
  refine q_iconst rfl ?_
  refine v_iadd (v := 4 * a1 + 1) rfl (by omega) ?_
  have h_2 := ir_s_g hI hs (j := 4 * a1 + 1) (by omega)
  refine v_ia (v := c s (4 * a1 + 1)) rfl (ck_s hs) (by omega) (by decide) (by omega) rfl ?_
  refine q_aload_n rfl rfl ?_
  refine v_gr (t := s) rfl rfl (ck_sh hs) (by omega) rfl ?_
  refine q_iload_n rfl rfl ?_
  refine q_iconst rfl ?_
  refine v_iadd (v := 4 * a1 + 2) rfl (by omega) ?_
  have h_3 := ir_s_g hI hs (j := 4 * a1 + 2) (by omega)
  refine v_ia (v := c s (4 * a1 + 2)) rfl (ck_s hs) (by omega) (by decide) (by omega) rfl ?_
  refine q_aload_n rfl rfl ?_
  refine v_gr (t := s) rfl rfl (ck_sh hs) (by omega) rfl ?_
  refine q_iload_n rfl rfl ?_
  refine q_iconst rfl ?_
  refine v_iadd (v := 4 * a1 + 3) rfl (by omega) ?_
  have h_4 := ir_s_g hI hs (j := 4 * a1 + 3) (by omega)
  refine v_ia (v := c s (4 * a1 + 3)) rfl (ck_s hs) (by omega) (by decide) (by omega) rfl ?_
  refine q_aload_n rfl rfl ?_
  refine q_iload_n rfl rfl ?_
  refine v_cv rfl rfl rfl (ck_sh hs) (by omega) ⟨⟨rfl, rfl⟩, by decide, rfl⟩ (Nat.le_of_ble_eq_true rfl) (Nat.le_of_ble_eq_true rfl) (s_51 (a1 := a1) hI hs (show 0 ≤ a1 ∧ a1 ≤ 5 from by omega) (fun y_5 hy_5 => ?_))
  refine bk_inl ?_
  refine q_aload_n rfl rfl ?_
  refine v_gr (t := s) rfl rfl (ck_sh hs) (by omega) rfl ?_
  refine v_bip rfl (by decide) ?_
  have h_6 := ir_s hI hs 31
  refine v_ia (v := c s 31) rfl (ck_s hs) (by omega) (by decide) (by decide) rfl ?_
  refine q_iload_n rfl rfl ?_
  refine v_cv rfl rfl rfl (ck_p7 hP) (by omega) ⟨⟨rfl, rfl⟩, by decide, rfl⟩ (Nat.le_of_ble_eq_true rfl) (Nat.le_of_ble_eq_true rfl) (s_20 (a1 := c s (4 * a1)) (a2 := c s (4 * a1 + 1)) (a3 := c s (4 * a1 + 2)) (a4 := c s (4 * a1 + 3)) (a5 := y_5) (a6 := c s 31) (a7 := a1) hI hP (show 0 ≤ c s (4 * a1) ∧ c s (4 * a1) ≤ 9999 from by omega) (show 0 ≤ c s (4 * a1 + 1) ∧ c s (4 * a1 + 1) ≤ 9999 from by omega) (show 0 ≤ c s (4 * a1 + 2) ∧ c s (4 * a1 + 2) ≤ 9999 from by omega) (show 0 ≤ c s (4 * a1 + 3) ∧ c s (4 * a1 + 3) ≤ 9999 from by omega) (show (-2147483648) ≤ y_5 ∧ y_5 ≤ 2147483647 from by omega) (show (-2147483648) ≤ c s 31 ∧ c s 31 ≤ 2147483647 from by omega) (show (-2147483648) ≤ a1 ∧ a1 ≤ 2147483647 from by omega) (fun c_7 y_10 hI_8 hF_9 hy_10 => ?_))
  refine bk_inl ?_
  refine q_iret rfl rfl ?_
  exact K c_7 y_10 hI_8 (fun a j hm => hF_9 a j (by omega)) ⟨by omega, by omega⟩

set_option maxRecDepth 100000 in
set_option maxHeartbeats 4000000 in
theorem s_57 {sc : List Int32} {e : Int} {d u P Q sh s : Nat} {c : ME} {a1 : Int} {Z : AR → Prop} (hI : Iv u e P Q c) (hs : (sh = 37 ∧ s = 38) ∨ (sh = 39 ∧ s = 40)) (ha1 : 0 ≤ a1 ∧ a1 ≤ 5) (K : ∀ (c2 : ME) (y : Int), Iv u e P Q c2 → (∀ (a : Nat) (j : Int), ¬ (a = (P + 10) ∨ a = (P + 11)) → c2 a j = c a j) → 0 ≤ y ∧ y ≤ 1 → Z (.inl (some (vi y)), Wd P Q P P c2, 0, 0)) : Wp sc (d + 10) 57 0 [(0, .ref sh), (1, vi a1)] [] (Wd P Q P P c) 0 0 Z := by
  have hP := iv_P hI
  have hQ := iv_Q hI
  refine q_aload_n rfl rfl ?_
  refine q_iload_n rfl rfl ?_
  have h_1 := ir_s_g hI hs (j := 4 * a1) (by omega)
  have h_2 := ir_s_g hI hs (j := 4 * a1 + 1) (by omega)
  have h_3 := ir_s_g hI hs (j := 4 * a1 + 2) (by omega)
  have h_4 := ir_s_g hI hs (j := 4 * a1 + 3) (by omega)
  refine v_cv rfl rfl rfl (ck_sh hs) (by omega) ⟨⟨rfl, rfl⟩, by decide, rfl⟩ (Nat.le_of_ble_eq_true rfl) (Nat.le_of_ble_eq_true rfl) (s_43 (v1 := c s (4 * a1)) (v2 := c s (4 * a1 + 1)) (v3 := c s (4 * a1 + 2)) (v4 := c s (4 * a1 + 3)) (r := c s (4 * a1 + 1) + c s (4 * a1 + 2) + c s (4 * a1 + 3) + c s (4 * a1)) (a1 := a1) hI hs (show 0 ≤ a1 ∧ a1 ≤ 5 from by omega) (rfl) (rfl) (rfl) (rfl) (by omega) ?_)
  refine bk_inl ?_
  by_cases h_5 : c s (4 * a1 + 1) + c s (4 * a1 + 2) + c s (4 * a1 + 3) + c s (4 * a1) ≤ 0
  · refine v_if_le_t (t := 22) rfl (by decide) (by omega) ?_
    refine q_iconst rfl ?_
    refine v_zret rfl rfl (by omega) ?_
    exact K c 0 hI (fun a j hm => rfl) ⟨by decide, by decide⟩
  · refine v_if_le_f (t := 22) rfl (by decide) (by omega) ?_
    refine q_aload_n rfl rfl ?_
    refine q_iload_n rfl rfl ?_
    refine v_cv rfl rfl rfl (ck_sh hs) (by omega) ⟨⟨rfl, rfl⟩, by decide, rfl⟩ (Nat.le_of_ble_eq_true rfl) (Nat.le_of_ble_eq_true rfl) (s_56 (a1 := a1) hI hs (show 0 ≤ a1 ∧ a1 ≤ 5 from by omega) (fun c_6 y_9 hI_7 hF_8 hy_9 => ?_))
    refine bk_inl ?_
    refine v_bip rfl (by decide) ?_
    by_cases h_10 : y_9 < 50
    · refine v_ic_lt_t (t := 22) rfl (by decide) (by omega) ?_
      refine q_iconst rfl ?_
      refine v_zret rfl rfl (by omega) ?_
      exact K c_6 0 hI_7 (fun a j hm => hF_8 a j (by omega)) ⟨by decide, by decide⟩
    · refine v_ic_lt_f (t := 22) rfl (by decide) (by omega) ?_
      refine q_iconst rfl ?_
      refine q_goto (t := 23) rfl (by decide) ?_
      refine v_zret rfl rfl (by omega) ?_
      exact K c_6 1 hI_7 (fun a j hm => hF_8 a j (by omega)) ⟨by decide, by decide⟩

set_option maxRecDepth 100000 in
set_option maxHeartbeats 4000000 in
theorem s_58 {sc : List Int32} {d P Q sh s : Nat} {c : ME} {a1 : Int} {Z : AR → Prop} (hI : Iv 0 (-1) P Q c) (hs : (sh = 37 ∧ s = 38) ∨ (sh = 39 ∧ s = 40)) (ha1 : 0 ≤ a1 ∧ a1 ≤ 5) (K : ∀ (c2 : ME) (y : Int), Iv 0 (-1) P Q c2 → (∀ (a : Nat) (j : Int), ¬ (a = s ∨ a = (P + 10) ∨ a = (P + 11)) → c2 a j = c a j) → 0 ≤ y ∧ y ≤ 1 → Z (.inl (some (vi y)), Wd P Q P P c2, 0, 0)) : Wp sc (d + 11) 58 0 [(0, .ref sh), (1, vi a1)] [] (Wd P Q P P c) 0 0 Z := by
  have hP := iv_P hI
  have hQ := iv_Q hI
  have hIo : Iv s (-1) P Q c := iv_open hI
  have hsum_1 := ir_s_r hI hs (by omega) (j := a1) (by omega)
  have h_2 := ir_s_g hI hs (j := 4 * a1) (by omega)
  have h_3 := ir_s_g hI hs (j := 4 * a1 + 1) (by omega)
  have h_4 := ir_s_g hI hs (j := 4 * a1 + 2) (by omega)
  have h_5 := ir_s_g hI hs (j := 4 * a1 + 3) (by omega)
  refine q_aload_n rfl rfl ?_
  refine q_iload_n rfl rfl ?_
  refine v_cv rfl rfl rfl (ck_sh hs) (by omega) ⟨⟨rfl, rfl⟩, by decide, rfl⟩ (Nat.le_of_ble_eq_true rfl) (Nat.le_of_ble_eq_true rfl) (s_57 (a1 := a1) hIo hs (show 0 ≤ a1 ∧ a1 ≤ 5 from by omega) (fun c_6 y_9 hI_7 hF_8 hy_9 => ?_))
  refine bk_inl ?_
  by_cases h_10 : y_9 ≠ 0
  · refine v_if_ne_t (t := 10) rfl (by decide) (by omega) ?_
    refine q_aload_n rfl rfl ?_
    refine v_gr (t := s) rfl rfl (ck_sh hs) (by omega) rfl ?_
    refine v_bip rfl (by decide) ?_
    refine q_dup2 rfl ⟨rfl, rfl⟩ ?_
    have h_11 := ir_s hI hs 33
    refine v_ia (v := c s 33) rfl (ck_s hs) (by omega) (by decide) (by decide) (hF_8 s 33 (by omega)) ?_
    refine q_aload_n rfl rfl ?_
    refine q_iload_n rfl rfl ?_
    refine v_cv rfl rfl rfl (ck_sh hs) (by omega) ⟨⟨rfl, rfl⟩, by decide, rfl⟩ (Nat.le_of_ble_eq_true rfl) (Nat.le_of_ble_eq_true rfl) (s_43 (v1 := c s (4 * a1)) (v2 := c s (4 * a1 + 1)) (v3 := c s (4 * a1 + 2)) (v4 := c s (4 * a1 + 3)) (r := c s (4 * a1 + 1) + c s (4 * a1 + 2) + c s (4 * a1 + 3) + c s (4 * a1)) (a1 := a1) hI_7 hs (show 0 ≤ a1 ∧ a1 ≤ 5 from by omega) ((hF_8 s (4 * a1) (by omega))) ((hF_8 s (4 * a1 + 1) (by omega))) ((hF_8 s (4 * a1 + 2) (by omega))) ((hF_8 s (4 * a1 + 3) (by omega))) (by omega) ?_)
    refine bk_inl ?_
    refine v_bip rfl (by decide) ?_
    refine v_idiv (v := ((c s (4 * a1 + 1) + c s (4 * a1 + 2) + c s (4 * a1 + 3) + c s (4 * a1)) / 10)) rfl (by omega) rfl ?_
    refine v_iadd (v := ((c s (4 * a1 + 1) + c s (4 * a1 + 2) + c s (4 * a1 + 3) + c s (4 * a1)) / 10) + c s 33) rfl (by omega) ?_
    refine v_nrm (fun y_12 hy_12 => ?_)
    refine v_is rfl (ck_s hs) (by omega) (by decide) (by decide) ?_
    refine q_iconst rfl ?_
    refine q_istore_n rfl (by decide) ?_
    refine q_iload_n rfl rfl ?_
    refine q_iconst rfl ?_
    refine v_ic_ge_f (t := 52) rfl (by decide) (by decide) ?_
    refine q_aload_n rfl rfl ?_
    refine v_gr (t := s) rfl rfl (ck_sh hs) (by omega) rfl ?_
    refine q_iload_n rfl rfl ?_
    refine q_iconst rfl ?_
    refine v_imul (v := 4 * a1) rfl (by omega) ?_
    refine q_iload_n rfl rfl ?_
    refine v_iadd (v := 4 * a1) rfl (by omega) ?_
    refine q_iconst rfl ?_
    refine v_is rfl (ck_s hs) (by omega) (by decide) (by omega) ?_
    refine v_iinc (v := 1) rfl rfl (by decide) (by decide) ?_
    refine q_goto (t := 30) rfl (by decide) ?_
    refine q_iload_n rfl rfl ?_
    refine q_iconst rfl ?_
    refine v_ic_ge_f (t := 52) rfl (by decide) (by decide) ?_
    refine q_aload_n rfl rfl ?_
    refine v_gr (t := s) rfl rfl (ck_sh hs) (by omega) rfl ?_
    refine q_iload_n rfl rfl ?_
    refine q_iconst rfl ?_
    refine v_imul (v := 4 * a1) rfl (by omega) ?_
    refine q_iload_n rfl rfl ?_
    refine v_iadd (v := 4 * a1 + 1) rfl (by omega) ?_
    refine q_iconst rfl ?_
    refine v_is rfl (ck_s hs) (by omega) (by decide) (by omega) ?_
    refine v_iinc (v := 2) rfl rfl (by decide) (by decide) ?_
    refine q_goto (t := 30) rfl (by decide) ?_
    refine q_iload_n rfl rfl ?_
    refine q_iconst rfl ?_
    refine v_ic_ge_f (t := 52) rfl (by decide) (by decide) ?_
    refine q_aload_n rfl rfl ?_
    refine v_gr (t := s) rfl rfl (ck_sh hs) (by omega) rfl ?_
    refine q_iload_n rfl rfl ?_
    refine q_iconst rfl ?_
    refine v_imul (v := 4 * a1) rfl (by omega) ?_
    refine q_iload_n rfl rfl ?_
    refine v_iadd (v := 4 * a1 + 2) rfl (by omega) ?_
    refine q_iconst rfl ?_
    refine v_is rfl (ck_s hs) (by omega) (by decide) (by omega) ?_
    refine v_iinc (v := 3) rfl rfl (by decide) (by decide) ?_
    refine q_goto (t := 30) rfl (by decide) ?_
    refine q_iload_n rfl rfl ?_
    refine q_iconst rfl ?_
    refine v_ic_ge_f (t := 52) rfl (by decide) (by decide) ?_
    refine q_aload_n rfl rfl ?_
    refine v_gr (t := s) rfl rfl (ck_sh hs) (by omega) rfl ?_
    refine q_iload_n rfl rfl ?_
    refine q_iconst rfl ?_
    refine v_imul (v := 4 * a1) rfl (by omega) ?_
    refine q_iload_n rfl rfl ?_
    refine v_iadd (v := 4 * a1 + 3) rfl (by omega) ?_
    refine q_iconst rfl ?_
    refine v_is rfl (ck_s hs) (by omega) (by decide) (by omega) ?_
    refine v_iinc (v := 4) rfl rfl (by decide) (by decide) ?_
    refine Wp_ls [(2, vi 4), (0, .ref sh), (1, vi a1)] (lsub_cons rfl (lsub_cons rfl (lsub_cons rfl lsub_nil))) ?_
    refine q_goto (t := 30) rfl (by decide) ?_
    refine q_iload_n rfl rfl ?_
    refine q_iconst rfl ?_
    refine v_ic_ge_t (t := 52) rfl (by decide) (by decide) ?_
    refine q_aload_n rfl rfl ?_
    refine v_gr (t := s) rfl rfl (ck_sh hs) (by omega) rfl ?_
    refine v_bip rfl (by decide) ?_
    refine q_iload_n rfl rfl ?_
    refine v_iadd (v := a1 + 24) rfl (by omega) ?_
    refine q_iconst rfl ?_
    refine v_is rfl (ck_s hs) (by omega) (by decide) (by omega) ?_
    refine q_iconst rfl ?_
    refine v_zret rfl rfl (by omega) ?_
    have hI_13 := iw_row (a := s) (j := 33) (v := y_12) hI_7 (by omega) (Or.inr (by omega)) ⟨by omega, by omega, by omega⟩
    have hI_14 := iw_row (a := s) (j := 4 * a1) (v := 0) hI_13 (by omega) (Or.inl rfl) ⟨by omega, by omega, by omega⟩
    have hI_15 := iw_row (a := s) (j := 4 * a1 + 1) (v := 0) hI_14 (by omega) (Or.inl rfl) ⟨by omega, by omega, by omega⟩
    have hI_16 := iw_row (a := s) (j := 4 * a1 + 2) (v := 0) hI_15 (by omega) (Or.inl rfl) ⟨by omega, by omega, by omega⟩
    have hI_17 := iw_row (a := s) (j := 4 * a1 + 3) (v := 0) hI_16 (by omega) (Or.inl rfl) ⟨by omega, by omega, by omega⟩
    have hI_18 := iw_row (a := s) (j := a1 + 24) (v := 0) hI_17 (by omega) (Or.inl rfl) ⟨by omega, by omega, by omega⟩
    have hr_19 : ∀ j : Int, rs s j → (up (up (up (up (up (up c_6 s 33 y_12) s (4 * a1) 0) s (4 * a1 + 1) 0) s (4 * a1 + 2) 0) s (4 * a1 + 3) 0) s (a1 + 24) 0) s j + (up (up (up (up (up (up c_6 s 33 y_12) s (4 * a1) 0) s (4 * a1 + 1) 0) s (4 * a1 + 2) 0) s (4 * a1 + 3) 0) s (a1 + 24) 0) s (j + 1) + (up (up (up (up (up (up c_6 s 33 y_12) s (4 * a1) 0) s (4 * a1 + 1) 0) s (4 * a1 + 2) 0) s (4 * a1 + 3) 0) s (a1 + 24) 0) s (j + 2) + (up (up (up (up (up (up c_6 s 33 y_12) s (4 * a1) 0) s (4 * a1 + 1) 0) s (4 * a1 + 2) 0) s (4 * a1 + 3) 0) s (a1 + 24) 0) s (j + 3) ≤ 9999 := by
      intro j9 hj9
      obtain ⟨k9, rfl, hk9⟩ := rs_s hs hj9
      by_cases e_20 : k9 = a1
      · skip
        have h_21 : (up (up (up (up (up (up c_6 s 33 y_12) s (4 * a1) 0) s (4 * a1 + 1) 0) s (4 * a1 + 2) 0) s (4 * a1 + 3) 0) s (a1 + 24) 0) s (4 * k9) = 0 := (congrArg ((up (up (up (up (up (up c_6 s 33 y_12) s (4 * a1) 0) s (4 * a1 + 1) 0) s (4 * a1 + 2) 0) s (4 * a1 + 3) 0) s (a1 + 24) 0) s) (show 4 * k9 = 4 * a1 from by omega)).trans ((up_n (by omega)).trans ((up_n (by omega)).trans ((up_n (by omega)).trans ((up_n (by omega)).trans (up_e rfl)))))
        have h_22 : (up (up (up (up (up (up c_6 s 33 y_12) s (4 * a1) 0) s (4 * a1 + 1) 0) s (4 * a1 + 2) 0) s (4 * a1 + 3) 0) s (a1 + 24) 0) s (4 * k9 + 1) = 0 := (congrArg ((up (up (up (up (up (up c_6 s 33 y_12) s (4 * a1) 0) s (4 * a1 + 1) 0) s (4 * a1 + 2) 0) s (4 * a1 + 3) 0) s (a1 + 24) 0) s) (show 4 * k9 + 1 = 4 * a1 + 1 from by omega)).trans ((up_n (by omega)).trans ((up_n (by omega)).trans ((up_n (by omega)).trans (up_e rfl))))
        have h_23 : (up (up (up (up (up (up c_6 s 33 y_12) s (4 * a1) 0) s (4 * a1 + 1) 0) s (4 * a1 + 2) 0) s (4 * a1 + 3) 0) s (a1 + 24) 0) s (4 * k9 + 2) = 0 := (congrArg ((up (up (up (up (up (up c_6 s 33 y_12) s (4 * a1) 0) s (4 * a1 + 1) 0) s (4 * a1 + 2) 0) s (4 * a1 + 3) 0) s (a1 + 24) 0) s) (show 4 * k9 + 2 = 4 * a1 + 2 from by omega)).trans ((up_n (by omega)).trans ((up_n (by omega)).trans (up_e rfl)))
        have h_24 : (up (up (up (up (up (up c_6 s 33 y_12) s (4 * a1) 0) s (4 * a1 + 1) 0) s (4 * a1 + 2) 0) s (4 * a1 + 3) 0) s (a1 + 24) 0) s (4 * k9 + 3) = 0 := (congrArg ((up (up (up (up (up (up c_6 s 33 y_12) s (4 * a1) 0) s (4 * a1 + 1) 0) s (4 * a1 + 2) 0) s (4 * a1 + 3) 0) s (a1 + 24) 0) s) (show 4 * k9 + 3 = 4 * a1 + 3 from by omega)).trans ((up_n (by omega)).trans (up_e rfl))
        omega
      have h_25 := iv_r hI s (4 * k9) hj9 (by omega)
      have h_26 := ir_s_g hI hs (j := 4 * k9) (by omega)
      have h_27 : (up (up (up (up (up (up c_6 s 33 y_12) s (4 * a1) 0) s (4 * a1 + 1) 0) s (4 * a1 + 2) 0) s (4 * a1 + 3) 0) s (a1 + 24) 0) s (4 * k9) = c s (4 * k9) := ((up_n (by omega)).trans ((up_n (by omega)).trans ((up_n (by omega)).trans ((up_n (by omega)).trans ((up_n (by omega)).trans ((up_n (by omega)).trans (hF_8 s (4 * k9) (by omega))))))))
      have h_28 := ir_s_g hI hs (j := 4 * k9 + 1) (by omega)
      have h_29 : (up (up (up (up (up (up c_6 s 33 y_12) s (4 * a1) 0) s (4 * a1 + 1) 0) s (4 * a1 + 2) 0) s (4 * a1 + 3) 0) s (a1 + 24) 0) s (4 * k9 + 1) = c s (4 * k9 + 1) := ((up_n (by omega)).trans ((up_n (by omega)).trans ((up_n (by omega)).trans ((up_n (by omega)).trans ((up_n (by omega)).trans ((up_n (by omega)).trans (hF_8 s (4 * k9 + 1) (by omega))))))))
      have h_30 := ir_s_g hI hs (j := 4 * k9 + 2) (by omega)
      have h_31 : (up (up (up (up (up (up c_6 s 33 y_12) s (4 * a1) 0) s (4 * a1 + 1) 0) s (4 * a1 + 2) 0) s (4 * a1 + 3) 0) s (a1 + 24) 0) s (4 * k9 + 2) = c s (4 * k9 + 2) := ((up_n (by omega)).trans ((up_n (by omega)).trans ((up_n (by omega)).trans ((up_n (by omega)).trans ((up_n (by omega)).trans ((up_n (by omega)).trans (hF_8 s (4 * k9 + 2) (by omega))))))))
      have h_32 := ir_s_g hI hs (j := 4 * k9 + 3) (by omega)
      have h_33 : (up (up (up (up (up (up c_6 s 33 y_12) s (4 * a1) 0) s (4 * a1 + 1) 0) s (4 * a1 + 2) 0) s (4 * a1 + 3) 0) s (a1 + 24) 0) s (4 * k9 + 3) = c s (4 * k9 + 3) := ((up_n (by omega)).trans ((up_n (by omega)).trans ((up_n (by omega)).trans ((up_n (by omega)).trans ((up_n (by omega)).trans ((up_n (by omega)).trans (hF_8 s (4 * k9 + 3) (by omega))))))))
      omega
    have hI_34 := iv_close hI_18 hr_19
    exact K (up (up (up (up (up (up c_6 s 33 y_12) s (4 * a1) 0) s (4 * a1 + 1) 0) s (4 * a1 + 2) 0) s (4 * a1 + 3) 0) s (a1 + 24) 0) 1 hI_34 (fun a j hm => (up_b (by omega)).trans ((up_b (by omega)).trans ((up_b (by omega)).trans ((up_b (by omega)).trans ((up_b (by omega)).trans ((up_b (by omega)).trans (hF_8 a j (by omega)))))))) ⟨by decide, by decide⟩
  · refine v_if_ne_f (t := 10) rfl (by decide) (by omega) ?_
    refine q_iconst rfl ?_
    refine v_zret rfl rfl (by omega) ?_
    have hr_35 : ∀ j : Int, rs s j → c_6 s j + c_6 s (j + 1) + c_6 s (j + 2) + c_6 s (j + 3) ≤ 9999 := by
      intro j9 hj9
      obtain ⟨k9, rfl, hk9⟩ := rs_s hs hj9
      by_cases e_36 : k9 = a1
      · skip
        have h_37 : c_6 s (4 * k9) = c s (4 * a1) := (congrArg (c_6 s) (show 4 * k9 = 4 * a1 from by omega)).trans (hF_8 s (4 * a1) (by omega))
        have h_38 : c_6 s (4 * k9 + 1) = c s (4 * a1 + 1) := (congrArg (c_6 s) (show 4 * k9 + 1 = 4 * a1 + 1 from by omega)).trans (hF_8 s (4 * a1 + 1) (by omega))
        have h_39 : c_6 s (4 * k9 + 2) = c s (4 * a1 + 2) := (congrArg (c_6 s) (show 4 * k9 + 2 = 4 * a1 + 2 from by omega)).trans (hF_8 s (4 * a1 + 2) (by omega))
        have h_40 : c_6 s (4 * k9 + 3) = c s (4 * a1 + 3) := (congrArg (c_6 s) (show 4 * k9 + 3 = 4 * a1 + 3 from by omega)).trans (hF_8 s (4 * a1 + 3) (by omega))
        omega
      have h_41 := iv_r hI s (4 * k9) hj9 (by omega)
      have h_42 := ir_s_g hI hs (j := 4 * k9) (by omega)
      have h_43 : c_6 s (4 * k9) = c s (4 * k9) := (hF_8 s (4 * k9) (by omega))
      have h_44 := ir_s_g hI hs (j := 4 * k9 + 1) (by omega)
      have h_45 : c_6 s (4 * k9 + 1) = c s (4 * k9 + 1) := (hF_8 s (4 * k9 + 1) (by omega))
      have h_46 := ir_s_g hI hs (j := 4 * k9 + 2) (by omega)
      have h_47 : c_6 s (4 * k9 + 2) = c s (4 * k9 + 2) := (hF_8 s (4 * k9 + 2) (by omega))
      have h_48 := ir_s_g hI hs (j := 4 * k9 + 3) (by omega)
      have h_49 : c_6 s (4 * k9 + 3) = c s (4 * k9 + 3) := (hF_8 s (4 * k9 + 3) (by omega))
      omega
    have hI_50 := iv_close hI_7 hr_35
    exact K c_6 0 hI_50 (fun a j hm => hF_8 a j (by omega)) ⟨by decide, by decide⟩

set_option maxRecDepth 100000 in
set_option maxHeartbeats 4000000 in
theorem s_59_l {sc : List Int32} {e : Int} {d u P Q sh s : Nat} {c : ME} {Z : AR → Prop} (hI : Iv u e P Q c) (hs : (sh = 37 ∧ s = 38) ∨ (sh = 39 ∧ s = 40)) (K : ∀ (c2 : ME), Iv u e P Q c2 → (∀ (a : Nat) (j : Int), ¬ (a = s) → c2 a j = c a j) → Z (.inl (none), Wd P Q P P c2, 0, 0)) : ∀ n : Nat, (∀ (c2 : ME) (v1 : Int), Iv u e P Q c2 → (∀ (a : Nat) (j : Int), ¬ (a = s) → c2 a j = c a j) → 0 ≤ v1 ∧ v1 ≤ 6 → 13 - 2 * v1 < (n : Int) → Wp sc (d + 8) 59 2 [(0, .ref sh), (1, vi v1)] [] (Wd P Q P P c2) 0 0 Z)
  | 0 => by intro c2 v1 hI2 hF hv1 hm9; have hP := iv_P hI; have hQ := iv_Q hI; exfalso; omega
  | n + 1 => by
    have hP := iv_P hI
    have hQ := iv_Q hI
    have ih := s_59_l (sc := sc) (d := d) hI hs K n
    intro c2 v1 hI2 hF hv1 hm9
    refine q_iload_n rfl rfl ?_
    refine q_aload_n rfl rfl ?_
    refine v_gr (t := P) rfl rfl (ck_sh hs) (by omega) rfl ?_
    have h_1 := ir_p0_0 hI hP
    refine v_gi (z := 0) (v := c P 0) rfl rfl (ck_p0 hP) (by omega) rfl rfl (hF P 0 (by omega)) ?_
    by_cases h_2 : v1 ≥ c P 0
    · refine v_ic_ge_t (t := 40) rfl (by decide) (by omega) ?_
      refine q_aload_n rfl rfl ?_
      refine v_gr (t := s) rfl rfl (ck_sh hs) (by omega) rfl ?_
      refine v_bip rfl (by decide) ?_
      refine q_dup2 rfl ⟨rfl, rfl⟩ ?_
      have h_3 := ir_s hI2 hs 31
      refine v_ia (v := c2 s 31) rfl (ck_s hs) (by omega) (by decide) (by decide) rfl ?_
      refine q_iconst rfl ?_
      refine v_iadd (v := c2 s 31 + 1) rfl (by omega) ?_
      refine v_nrm (fun y_4 hy_4 => ?_)
      refine v_is rfl (ck_s hs) (by omega) (by decide) (by decide) ?_
      refine q_vret rfl rfl ?_
      have hI_5 := iw_row (a := s) (j := 31) (v := y_4) hI2 (by omega) (Or.inr (by omega)) ⟨by omega, by omega, by omega⟩
      exact K (up c2 s 31 y_4) hI_5 (fun a j hm => (up_b (by omega)).trans (hF a j (by omega)))
    · refine v_ic_ge_f (t := 40) rfl (by decide) (by omega) ?_
      refine q_aload_n rfl rfl ?_
      refine q_iload_n rfl rfl ?_
      have h_6 := ir_s_g hI2 hs (j := 4 * v1) (by omega)
      have h_7 := ir_s_g hI2 hs (j := 4 * v1 + 1) (by omega)
      have h_8 := ir_s_g hI2 hs (j := 4 * v1 + 2) (by omega)
      have h_9 := ir_s_g hI2 hs (j := 4 * v1 + 3) (by omega)
      refine v_cv rfl rfl rfl (ck_sh hs) (by omega) ⟨⟨rfl, rfl⟩, by decide, rfl⟩ (Nat.le_of_ble_eq_true rfl) (Nat.le_of_ble_eq_true rfl) (s_43 (v1 := c2 s (4 * v1)) (v2 := c2 s (4 * v1 + 1)) (v3 := c2 s (4 * v1 + 2)) (v4 := c2 s (4 * v1 + 3)) (r := c2 s (4 * v1 + 1) + c2 s (4 * v1 + 2) + c2 s (4 * v1 + 3) + c2 s (4 * v1)) (a1 := v1) hI2 hs (show 0 ≤ v1 ∧ v1 ≤ 5 from by omega) (rfl) (rfl) (rfl) (rfl) (by omega) ?_)
      refine bk_inl ?_
      by_cases h_10 : c2 s (4 * v1 + 1) + c2 s (4 * v1 + 2) + c2 s (4 * v1 + 3) + c2 s (4 * v1) ≤ 0
      · refine v_if_le_t (t := 34) rfl (by decide) (by omega) ?_
        refine v_iinc (v := v1 + 1) rfl rfl (by decide) (by omega) ?_
        refine q_goto (t := 2) rfl (by decide) ?_
        refine Wp_ls [(0, .ref sh), (1, vi (v1 + 1))] (lsub_cons rfl (lsub_cons rfl lsub_nil)) ?_
        exact ih c2 (v1 + 1) hI2 (fun a j hm => hF a j (by omega)) ⟨by omega, by omega⟩ (by omega)
      · refine v_if_le_f (t := 34) rfl (by decide) (by omega) ?_
        refine q_aload_n rfl rfl ?_
        refine v_gr (t := s) rfl rfl (ck_sh hs) (by omega) rfl ?_
        refine v_bip rfl (by decide) ?_
        refine q_iload_n rfl rfl ?_
        refine v_iadd (v := v1 + 24) rfl (by omega) ?_
        refine q_dup2 rfl ⟨rfl, rfl⟩ ?_
        have h_11 := ir_s hI2 hs (v1 + 24)
        refine v_ia (v := c2 s (v1 + 24)) rfl (ck_s hs) (by omega) (by decide) (by omega) rfl ?_
        refine q_iconst rfl ?_
        refine v_iadd (v := c2 s (v1 + 24) + 1) rfl (by omega) ?_
        refine v_nrm (fun y_12 hy_12 => ?_)
        refine v_is rfl (ck_s hs) (by omega) (by decide) (by omega) ?_
        refine v_iinc (v := v1 + 1) rfl rfl (by decide) (by omega) ?_
        refine q_goto (t := 2) rfl (by decide) ?_
        have hI_13 := iw_row (a := s) (j := v1 + 24) (v := y_12) hI2 (by omega) (Or.inr (by omega)) ⟨by omega, by omega, by omega⟩
        refine Wp_ls [(0, .ref sh), (1, vi (v1 + 1))] (lsub_cons rfl (lsub_cons rfl lsub_nil)) ?_
        exact ih (up c2 s (v1 + 24) y_12) (v1 + 1) hI_13 (fun a j hm => (up_b (by omega)).trans (hF a j (by omega))) ⟨by omega, by omega⟩ (by omega)
set_option maxRecDepth 100000 in
set_option maxHeartbeats 4000000 in
theorem s_59 {sc : List Int32} {e : Int} {d u P Q sh s : Nat} {c : ME} {Z : AR → Prop} (hI : Iv u e P Q c) (hs : (sh = 37 ∧ s = 38) ∨ (sh = 39 ∧ s = 40)) (K : ∀ (c2 : ME), Iv u e P Q c2 → (∀ (a : Nat) (j : Int), ¬ (a = s) → c2 a j = c a j) → Z (.inl (none), Wd P Q P P c2, 0, 0)) : Wp sc (d + 8) 59 0 [(0, .ref sh)] [] (Wd P Q P P c) 0 0 Z := by
  have hP := iv_P hI
  have hQ := iv_Q hI
  refine q_iconst rfl ?_
  refine q_istore_n rfl (by decide) ?_
  refine Wp_ls [(0, .ref sh), (1, vi 0)] (lsub_cons rfl (lsub_cons rfl lsub_nil)) ?_
  exact (s_59_l (sc := sc) (d := d) hI hs K 16) c 0 hI (fun a j hm => rfl) ⟨by decide, by decide⟩ (by omega)

set_option maxRecDepth 100000 in
set_option maxHeartbeats 4000000 in
theorem s_60 {sc : List Int32} {e : Int} {d u P Q sh s : Nat} {c : ME} {Z : AR → Prop} (hI : Iv u e P Q c) (hs : (sh = 37 ∧ s = 38) ∨ (sh = 39 ∧ s = 40)) (K : ∀ (c2 : ME) (y : Int), Iv u e P Q c2 → (∀ (a : Nat) (j : Int), ¬ (a = s) → c2 a j = c a j) → 0 ≤ y ∧ y ≤ 1 → Z (.inl (some (vi y)), Wd P Q P P c2, 0, 0)) : Wp sc (d + 9) 60 0 [(0, .ref sh)] [] (Wd P Q P P c) 0 0 Z := by
  have hP := iv_P hI
  have hQ := iv_Q hI
  refine q_aload_n rfl rfl ?_
  refine v_gr (t := s) rfl rfl (ck_sh hs) (by omega) rfl ?_
  refine v_bip rfl (by decide) ?_
  have h_1 := ir_s hI hs 31
  refine v_ia (v := c s 31) rfl (ck_s hs) (by omega) (by decide) (by decide) rfl ?_
  refine v_sip rfl (by decide) ?_
  by_cases h_2 : c s 31 < 400
  · refine v_ic_lt_t (t := 15) rfl (by decide) (by omega) ?_
    refine q_aload_n rfl rfl ?_
    refine v_cv rfl rfl rfl (ck_sh hs) (by omega) ⟨⟨rfl, rfl⟩, by decide, rfl⟩ (Nat.le_of_ble_eq_true rfl) (Nat.le_of_ble_eq_true rfl) (s_59 hI hs (fun c_3 hI_4 hF_5 => ?_))
    refine bk_inl ?_
    refine q_iconst rfl ?_
    refine v_zret rfl rfl (by omega) ?_
    exact K c_3 1 hI_4 (fun a j hm => hF_5 a j (by omega)) ⟨by decide, by decide⟩
  · refine v_ic_lt_f (t := 15) rfl (by decide) (by omega) ?_
    refine q_iconst rfl ?_
    refine v_zret rfl rfl (by omega) ?_
    exact K c 0 hI (fun a j hm => rfl) ⟨by decide, by decide⟩

set_option maxRecDepth 100000 in
set_option maxHeartbeats 4000000 in
theorem s_61 {sc : List Int32} {e : Int} {d u P Q sh s : Nat} {c : ME} {a1 : Int} {Z : AR → Prop} (hI : Iv u e P Q c) (hs : (sh = 37 ∧ s = 38) ∨ (sh = 39 ∧ s = 40)) (ha1 : (-2147483648) ≤ a1 ∧ a1 ≤ 2147483647) (K : ∀ (c2 : ME), Iv u e P Q c2 → (∀ (a : Nat) (j : Int), ¬ (a = s) → c2 a j = c a j) → Z (.inl (none), Wd P Q P P c2, 0, 0)) : Wp sc (d + 7) 61 0 [(0, .ref sh), (1, vi a1)] [] (Wd P Q P P c) 0 0 Z := by
  have hP := iv_P hI
  have hQ := iv_Q hI
  refine q_aload_n rfl rfl ?_
  refine v_gr (t := s) rfl rfl (ck_sh hs) (by omega) rfl ?_
  refine v_bip rfl (by decide) ?_
  refine q_dup2 rfl ⟨rfl, rfl⟩ ?_
  have h_1 := ir_s hI hs 30
  refine v_ia (v := c s 30) rfl (ck_s hs) (by omega) (by decide) (by decide) rfl ?_
  refine q_iconst rfl ?_
  refine q_iload_n rfl rfl ?_
  refine v_ishlx rfl (fun y_2 hy_2 => ?_)
  refine v_ixorx rfl (fun y_3 hy_3 => ?_)
  refine v_is rfl (ck_s hs) (by omega) (by decide) (by decide) ?_
  refine q_vret rfl rfl ?_
  have hI_4 := iw_row (a := s) (j := 30) (v := y_3) hI (by omega) (Or.inr (by omega)) ⟨by omega, by omega, by omega⟩
  exact K (up c s 30 y_3) hI_4 (fun a j hm => up_b (by omega))

