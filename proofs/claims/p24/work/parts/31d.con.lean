/-! ===== contracts 4 ===== -/
set_option maxRecDepth 100000 in
set_option maxHeartbeats 4000000 in
theorem s_53 {sc : List Int32} {d P Q sh s : Nat} {c : ME} {a1 : Int} {a2 : Int} {a3 : Int} {a4 : Int} {Z : AR → Prop} (hI : Iv 0 (-1) P Q c) (hs : (sh = 37 ∧ s = 38) ∨ (sh = 39 ∧ s = 40)) (ha1 : 0 ≤ a1 ∧ a1 ≤ 3) (ha2 : 0 ≤ a2 ∧ a2 ≤ 5) (ha3 : 0 ≤ a3 ∧ a3 ≤ 5) (ha4 : 0 ≤ a4 ∧ a4 ≤ 5) (K : ∀ (c2 : ME) (y : Int), Iv 0 (-1) P Q c2 → (∀ (a : Nat) (j : Int), ¬ (a = s) → c2 a j = c a j) → 0 ≤ y ∧ y ≤ 1 → Z (.inl (some (vi y)), Wd P Q P P c2, 0, 0)) : Wp sc (d + 11) 53 0 [(0, .ref sh), (1, vi a1), (2, vi a2), (3, vi a3), (4, vi a4)] [] (Wd P Q P P c) 0 0 Z := by
  have hP := iv_P hI
  have hQ := iv_Q hI
  have hIo : Iv s (-1) P Q c := iv_open hI
  have hsum_1 := ir_s_r hI hs (by omega) (j := a2) (by omega)
  have h_2 := ir_s_g hI hs (j := 4 * a2) (by omega)
  have h_3 := ir_s_g hI hs (j := 4 * a2 + 1) (by omega)
  have h_4 := ir_s_g hI hs (j := 4 * a2 + 2) (by omega)
  have h_5 := ir_s_g hI hs (j := 4 * a2 + 3) (by omega)
  have hsum_6 := ir_s_r hI hs (by omega) (j := a3) (by omega)
  have h_7 := ir_s_g hI hs (j := 4 * a3) (by omega)
  have h_8 := ir_s_g hI hs (j := 4 * a3 + 1) (by omega)
  have h_9 := ir_s_g hI hs (j := 4 * a3 + 2) (by omega)
  have h_10 := ir_s_g hI hs (j := 4 * a3 + 3) (by omega)
  have hsum_11 := ir_s_r hI hs (by omega) (j := a4) (by omega)
  have h_12 := ir_s_g hI hs (j := 4 * a4) (by omega)
  have h_13 := ir_s_g hI hs (j := 4 * a4 + 1) (by omega)
  have h_14 := ir_s_g hI hs (j := 4 * a4 + 2) (by omega)
  have h_15 := ir_s_g hI hs (j := 4 * a4 + 3) (by omega)
  refine q_iload_n rfl rfl ?_
  refine q_iload_n rfl rfl ?_
  by_cases h_16 : a2 = a3
  · refine v_ic_eq_t (t := 17) rfl (by decide) (by omega) ?_
    refine q_iconst rfl ?_
    refine v_zret rfl rfl (by omega) ?_
    have hr_17 : ∀ j : Int, rs s j → c s j + c s (j + 1) + c s (j + 2) + c s (j + 3) ≤ 9999 := by
      intro j9 hj9
      obtain ⟨k9, rfl, hk9⟩ := rs_s hs hj9
      by_cases e_18 : k9 = a2
      · skip
        have h_19 : c s (4 * k9) = c s (4 * a2) := (congrArg (c s) (show 4 * k9 = 4 * a2 from by omega))
        have h_20 : c s (4 * k9 + 1) = c s (4 * a2 + 1) := (congrArg (c s) (show 4 * k9 + 1 = 4 * a2 + 1 from by omega))
        have h_21 : c s (4 * k9 + 2) = c s (4 * a2 + 2) := (congrArg (c s) (show 4 * k9 + 2 = 4 * a2 + 2 from by omega))
        have h_22 : c s (4 * k9 + 3) = c s (4 * a2 + 3) := (congrArg (c s) (show 4 * k9 + 3 = 4 * a2 + 3 from by omega))
        omega
      by_cases e_23 : k9 = a3
      · skip
        have h_24 : c s (4 * k9) = c s (4 * a3) := (congrArg (c s) (show 4 * k9 = 4 * a3 from by omega))
        have h_25 : c s (4 * k9 + 1) = c s (4 * a3 + 1) := (congrArg (c s) (show 4 * k9 + 1 = 4 * a3 + 1 from by omega))
        have h_26 : c s (4 * k9 + 2) = c s (4 * a3 + 2) := (congrArg (c s) (show 4 * k9 + 2 = 4 * a3 + 2 from by omega))
        have h_27 : c s (4 * k9 + 3) = c s (4 * a3 + 3) := (congrArg (c s) (show 4 * k9 + 3 = 4 * a3 + 3 from by omega))
        omega
      by_cases e_28 : k9 = a4
      · skip
        have h_29 : c s (4 * k9) = c s (4 * a4) := (congrArg (c s) (show 4 * k9 = 4 * a4 from by omega))
        have h_30 : c s (4 * k9 + 1) = c s (4 * a4 + 1) := (congrArg (c s) (show 4 * k9 + 1 = 4 * a4 + 1 from by omega))
        have h_31 : c s (4 * k9 + 2) = c s (4 * a4 + 2) := (congrArg (c s) (show 4 * k9 + 2 = 4 * a4 + 2 from by omega))
        have h_32 : c s (4 * k9 + 3) = c s (4 * a4 + 3) := (congrArg (c s) (show 4 * k9 + 3 = 4 * a4 + 3 from by omega))
        omega
      have h_33 := iv_r hI s (4 * k9) hj9 (by omega)
      have h_34 := ir_s_g hI hs (j := 4 * k9) (by omega)
      have h_35 : c s (4 * k9) = c s (4 * k9) := rfl
      have h_36 := ir_s_g hI hs (j := 4 * k9 + 1) (by omega)
      have h_37 : c s (4 * k9 + 1) = c s (4 * k9 + 1) := rfl
      have h_38 := ir_s_g hI hs (j := 4 * k9 + 2) (by omega)
      have h_39 : c s (4 * k9 + 2) = c s (4 * k9 + 2) := rfl
      have h_40 := ir_s_g hI hs (j := 4 * k9 + 3) (by omega)
      have h_41 : c s (4 * k9 + 3) = c s (4 * k9 + 3) := rfl
      omega
    have hI_42 := iv_close hIo hr_17
    exact K c 0 hI_42 (fun a j hm => rfl) ⟨by decide, by decide⟩
  · refine v_ic_eq_f (t := 17) rfl (by decide) (by omega) ?_
    refine q_iload_n rfl rfl ?_
    refine q_iload rfl rfl ?_
    by_cases h_43 : a2 = a4
    · refine v_ic_eq_t (t := 17) rfl (by decide) (by omega) ?_
      refine q_iconst rfl ?_
      refine v_zret rfl rfl (by omega) ?_
      have hr_44 : ∀ j : Int, rs s j → c s j + c s (j + 1) + c s (j + 2) + c s (j + 3) ≤ 9999 := by
        intro j9 hj9
        obtain ⟨k9, rfl, hk9⟩ := rs_s hs hj9
        by_cases e_45 : k9 = a2
        · skip
          have h_46 : c s (4 * k9) = c s (4 * a2) := (congrArg (c s) (show 4 * k9 = 4 * a2 from by omega))
          have h_47 : c s (4 * k9 + 1) = c s (4 * a2 + 1) := (congrArg (c s) (show 4 * k9 + 1 = 4 * a2 + 1 from by omega))
          have h_48 : c s (4 * k9 + 2) = c s (4 * a2 + 2) := (congrArg (c s) (show 4 * k9 + 2 = 4 * a2 + 2 from by omega))
          have h_49 : c s (4 * k9 + 3) = c s (4 * a2 + 3) := (congrArg (c s) (show 4 * k9 + 3 = 4 * a2 + 3 from by omega))
          omega
        by_cases e_50 : k9 = a3
        · skip
          have h_51 : c s (4 * k9) = c s (4 * a3) := (congrArg (c s) (show 4 * k9 = 4 * a3 from by omega))
          have h_52 : c s (4 * k9 + 1) = c s (4 * a3 + 1) := (congrArg (c s) (show 4 * k9 + 1 = 4 * a3 + 1 from by omega))
          have h_53 : c s (4 * k9 + 2) = c s (4 * a3 + 2) := (congrArg (c s) (show 4 * k9 + 2 = 4 * a3 + 2 from by omega))
          have h_54 : c s (4 * k9 + 3) = c s (4 * a3 + 3) := (congrArg (c s) (show 4 * k9 + 3 = 4 * a3 + 3 from by omega))
          omega
        by_cases e_55 : k9 = a4
        · skip
          have h_56 : c s (4 * k9) = c s (4 * a4) := (congrArg (c s) (show 4 * k9 = 4 * a4 from by omega))
          have h_57 : c s (4 * k9 + 1) = c s (4 * a4 + 1) := (congrArg (c s) (show 4 * k9 + 1 = 4 * a4 + 1 from by omega))
          have h_58 : c s (4 * k9 + 2) = c s (4 * a4 + 2) := (congrArg (c s) (show 4 * k9 + 2 = 4 * a4 + 2 from by omega))
          have h_59 : c s (4 * k9 + 3) = c s (4 * a4 + 3) := (congrArg (c s) (show 4 * k9 + 3 = 4 * a4 + 3 from by omega))
          omega
        have h_60 := iv_r hI s (4 * k9) hj9 (by omega)
        have h_61 := ir_s_g hI hs (j := 4 * k9) (by omega)
        have h_62 : c s (4 * k9) = c s (4 * k9) := rfl
        have h_63 := ir_s_g hI hs (j := 4 * k9 + 1) (by omega)
        have h_64 : c s (4 * k9 + 1) = c s (4 * k9 + 1) := rfl
        have h_65 := ir_s_g hI hs (j := 4 * k9 + 2) (by omega)
        have h_66 : c s (4 * k9 + 2) = c s (4 * k9 + 2) := rfl
        have h_67 := ir_s_g hI hs (j := 4 * k9 + 3) (by omega)
        have h_68 : c s (4 * k9 + 3) = c s (4 * k9 + 3) := rfl
        omega
      have hI_69 := iv_close hIo hr_44
      exact K c 0 hI_69 (fun a j hm => rfl) ⟨by decide, by decide⟩
    · refine v_ic_eq_f (t := 17) rfl (by decide) (by omega) ?_
      refine q_iload_n rfl rfl ?_
      refine q_iload rfl rfl ?_
      by_cases h_70 : a3 ≠ a4
      · refine v_ic_ne_t (t := 19) rfl (by decide) (by omega) ?_
        refine q_aload_n rfl rfl ?_
        refine q_iload_n rfl rfl ?_
        refine v_cv rfl rfl rfl (ck_sh hs) (by omega) ⟨⟨rfl, rfl⟩, by decide, rfl⟩ (Nat.le_of_ble_eq_true rfl) (Nat.le_of_ble_eq_true rfl) (s_43 (v1 := c s (4 * a2)) (v2 := c s (4 * a2 + 1)) (v3 := c s (4 * a2 + 2)) (v4 := c s (4 * a2 + 3)) (r := c s (4 * a2 + 1) + c s (4 * a2 + 2) + c s (4 * a2 + 3) + c s (4 * a2)) (a1 := a2) hIo hs (show 0 ≤ a2 ∧ a2 ≤ 5 from by omega) (rfl) (rfl) (rfl) (rfl) (by omega) ?_)
        refine bk_inl ?_
        refine q_istore rfl (by decide) ?_
        refine q_aload_n rfl rfl ?_
        refine q_iload_n rfl rfl ?_
        refine q_iload_n rfl rfl ?_
        have h_71 := ir_p3 hI hP a1
        have h_72 := ir_s hI hs 30
        have h_73 := fal_rng (m := c (P + 3) a1) (t := tb (c s 30) a1) (g := 0) (x := c s (4 * a2)) (by omega)
        have h_74 := fal_rng (m := c (P + 3) a1) (t := tb (c s 30) a1) (g := 1) (x := c s (4 * a2 + 1)) (by omega)
        have h_75 := fal_rng (m := c (P + 3) a1) (t := tb (c s 30) a1) (g := 2) (x := c s (4 * a2 + 2)) (by omega)
        have h_76 := fal_rng (m := c (P + 3) a1) (t := tb (c s 30) a1) (g := 3) (x := c s (4 * a2 + 3)) (by omega)
        refine v_cv rfl rfl rfl (ck_sh hs) (by omega) ⟨⟨rfl, rfl⟩, by decide, rfl⟩ (Nat.le_of_ble_eq_true rfl) (Nat.le_of_ble_eq_true rfl) (s_49 (v1 := c (P + 3) a1) (v2 := c s 30) (v3 := c s (4 * a2)) (v4 := c s (4 * a2 + 1)) (v5 := c s (4 * a2 + 2)) (v6 := c s (4 * a2 + 3)) (r := (fal (c (P + 3) a1) (tb (c s 30) a1) 0 (c s (4 * a2))) + (fal (c (P + 3) a1) (tb (c s 30) a1) 1 (c s (4 * a2 + 1))) + (fal (c (P + 3) a1) (tb (c s 30) a1) 2 (c s (4 * a2 + 2))) + (fal (c (P + 3) a1) (tb (c s 30) a1) 3 (c s (4 * a2 + 3)))) (a1 := a1) (a2 := a2) hIo hs (show 0 ≤ a1 ∧ a1 ≤ 3 from by omega) (show 0 ≤ a2 ∧ a2 ≤ 5 from by omega) (rfl) (rfl) (rfl) (rfl) (rfl) (rfl) rfl ?_)
        refine bk_inl ?_
        refine q_istore rfl (by decide) ?_
        refine q_iload rfl rfl ?_
        by_cases h_77 : c s (4 * a2 + 1) + c s (4 * a2 + 2) + c s (4 * a2 + 3) + c s (4 * a2) = 0
        · refine v_if_eq_t (t := 63) rfl (by decide) (by omega) ?_
          refine q_iconst rfl ?_
          refine v_zret rfl rfl (by omega) ?_
          have hr_78 : ∀ j : Int, rs s j → c s j + c s (j + 1) + c s (j + 2) + c s (j + 3) ≤ 9999 := by
            intro j9 hj9
            obtain ⟨k9, rfl, hk9⟩ := rs_s hs hj9
            by_cases e_79 : k9 = a2
            · skip
              have h_80 : c s (4 * k9) = c s (4 * a2) := (congrArg (c s) (show 4 * k9 = 4 * a2 from by omega))
              have h_81 : c s (4 * k9 + 1) = c s (4 * a2 + 1) := (congrArg (c s) (show 4 * k9 + 1 = 4 * a2 + 1 from by omega))
              have h_82 : c s (4 * k9 + 2) = c s (4 * a2 + 2) := (congrArg (c s) (show 4 * k9 + 2 = 4 * a2 + 2 from by omega))
              have h_83 : c s (4 * k9 + 3) = c s (4 * a2 + 3) := (congrArg (c s) (show 4 * k9 + 3 = 4 * a2 + 3 from by omega))
              omega
            by_cases e_84 : k9 = a3
            · skip
              have h_85 : c s (4 * k9) = c s (4 * a3) := (congrArg (c s) (show 4 * k9 = 4 * a3 from by omega))
              have h_86 : c s (4 * k9 + 1) = c s (4 * a3 + 1) := (congrArg (c s) (show 4 * k9 + 1 = 4 * a3 + 1 from by omega))
              have h_87 : c s (4 * k9 + 2) = c s (4 * a3 + 2) := (congrArg (c s) (show 4 * k9 + 2 = 4 * a3 + 2 from by omega))
              have h_88 : c s (4 * k9 + 3) = c s (4 * a3 + 3) := (congrArg (c s) (show 4 * k9 + 3 = 4 * a3 + 3 from by omega))
              omega
            by_cases e_89 : k9 = a4
            · skip
              have h_90 : c s (4 * k9) = c s (4 * a4) := (congrArg (c s) (show 4 * k9 = 4 * a4 from by omega))
              have h_91 : c s (4 * k9 + 1) = c s (4 * a4 + 1) := (congrArg (c s) (show 4 * k9 + 1 = 4 * a4 + 1 from by omega))
              have h_92 : c s (4 * k9 + 2) = c s (4 * a4 + 2) := (congrArg (c s) (show 4 * k9 + 2 = 4 * a4 + 2 from by omega))
              have h_93 : c s (4 * k9 + 3) = c s (4 * a4 + 3) := (congrArg (c s) (show 4 * k9 + 3 = 4 * a4 + 3 from by omega))
              omega
            have h_94 := iv_r hI s (4 * k9) hj9 (by omega)
            have h_95 := ir_s_g hI hs (j := 4 * k9) (by omega)
            have h_96 : c s (4 * k9) = c s (4 * k9) := rfl
            have h_97 := ir_s_g hI hs (j := 4 * k9 + 1) (by omega)
            have h_98 : c s (4 * k9 + 1) = c s (4 * k9 + 1) := rfl
            have h_99 := ir_s_g hI hs (j := 4 * k9 + 2) (by omega)
            have h_100 : c s (4 * k9 + 2) = c s (4 * k9 + 2) := rfl
            have h_101 := ir_s_g hI hs (j := 4 * k9 + 3) (by omega)
            have h_102 : c s (4 * k9 + 3) = c s (4 * k9 + 3) := rfl
            omega
          have hI_103 := iv_close hIo hr_78
          exact K c 0 hI_103 (fun a j hm => rfl) ⟨by decide, by decide⟩
        · refine v_if_eq_f (t := 63) rfl (by decide) (by omega) ?_
          refine q_aload_n rfl rfl ?_
          refine q_iload_n rfl rfl ?_
          refine q_iload rfl rfl ?_
          refine v_cv rfl rfl rfl (ck_sh hs) (by omega) ⟨⟨rfl, rfl⟩, by decide, rfl⟩ (Nat.le_of_ble_eq_true rfl) (Nat.le_of_ble_eq_true rfl) ?_
          refine q_aload_n rfl rfl ?_
          refine q_iload_n rfl rfl ?_
          refine v_cv rfl rfl rfl (ck_sh hs) (by omega) ⟨⟨rfl, rfl⟩, by decide, rfl⟩ (Nat.le_of_ble_eq_true rfl) (Nat.le_of_ble_eq_true rfl) (s_43 (v1 := c s (4 * a3)) (v2 := c s (4 * a3 + 1)) (v3 := c s (4 * a3 + 2)) (v4 := c s (4 * a3 + 3)) (r := c s (4 * a3 + 1) + c s (4 * a3 + 2) + c s (4 * a3 + 3) + c s (4 * a3)) (a1 := a3) hIo hs (show 0 ≤ a3 ∧ a3 ≤ 5 from by omega) (rfl) (rfl) (rfl) (rfl) (by omega) ?_)
          refine bk_inl ?_
          refine q_iload_n rfl rfl ?_
          refine v_iadd (v := (fal (c (P + 3) a1) (tb (c s 30) a1) 0 (c s (4 * a2))) + (fal (c (P + 3) a1) (tb (c s 30) a1) 1 (c s (4 * a2 + 1))) + (fal (c (P + 3) a1) (tb (c s 30) a1) 2 (c s (4 * a2 + 2))) + (fal (c (P + 3) a1) (tb (c s 30) a1) 3 (c s (4 * a2 + 3))) + c s (4 * a3 + 1) + c s (4 * a3 + 2) + c s (4 * a3 + 3) + c s (4 * a3)) rfl (by omega) ?_
          refine v_sip rfl (by decide) ?_
          by_cases h_104 : (fal (c (P + 3) a1) (tb (c s 30) a1) 0 (c s (4 * a2))) + (fal (c (P + 3) a1) (tb (c s 30) a1) 1 (c s (4 * a2 + 1))) + (fal (c (P + 3) a1) (tb (c s 30) a1) 2 (c s (4 * a2 + 2))) + (fal (c (P + 3) a1) (tb (c s 30) a1) 3 (c s (4 * a2 + 3))) + c s (4 * a3 + 1) + c s (4 * a3 + 2) + c s (4 * a3 + 3) + c s (4 * a3) > 9999
          · refine v_ic_gt_t (t := 17) rfl (by decide) (by omega) ?_
            refine q_iconst rfl ?_
            refine v_zret rfl rfl (by omega) ?_
            refine bk_inl ?_
            refine v_if_eq_t (t := 63) rfl (by decide) (by decide) ?_
            refine q_iconst rfl ?_
            refine v_zret rfl rfl (by omega) ?_
            have hr_105 : ∀ j : Int, rs s j → c s j + c s (j + 1) + c s (j + 2) + c s (j + 3) ≤ 9999 := by
              intro j9 hj9
              obtain ⟨k9, rfl, hk9⟩ := rs_s hs hj9
              by_cases e_106 : k9 = a2
              · skip
                have h_107 : c s (4 * k9) = c s (4 * a2) := (congrArg (c s) (show 4 * k9 = 4 * a2 from by omega))
                have h_108 : c s (4 * k9 + 1) = c s (4 * a2 + 1) := (congrArg (c s) (show 4 * k9 + 1 = 4 * a2 + 1 from by omega))
                have h_109 : c s (4 * k9 + 2) = c s (4 * a2 + 2) := (congrArg (c s) (show 4 * k9 + 2 = 4 * a2 + 2 from by omega))
                have h_110 : c s (4 * k9 + 3) = c s (4 * a2 + 3) := (congrArg (c s) (show 4 * k9 + 3 = 4 * a2 + 3 from by omega))
                omega
              by_cases e_111 : k9 = a3
              · skip
                have h_112 : c s (4 * k9) = c s (4 * a3) := (congrArg (c s) (show 4 * k9 = 4 * a3 from by omega))
                have h_113 : c s (4 * k9 + 1) = c s (4 * a3 + 1) := (congrArg (c s) (show 4 * k9 + 1 = 4 * a3 + 1 from by omega))
                have h_114 : c s (4 * k9 + 2) = c s (4 * a3 + 2) := (congrArg (c s) (show 4 * k9 + 2 = 4 * a3 + 2 from by omega))
                have h_115 : c s (4 * k9 + 3) = c s (4 * a3 + 3) := (congrArg (c s) (show 4 * k9 + 3 = 4 * a3 + 3 from by omega))
                omega
              by_cases e_116 : k9 = a4
              · skip
                have h_117 : c s (4 * k9) = c s (4 * a4) := (congrArg (c s) (show 4 * k9 = 4 * a4 from by omega))
                have h_118 : c s (4 * k9 + 1) = c s (4 * a4 + 1) := (congrArg (c s) (show 4 * k9 + 1 = 4 * a4 + 1 from by omega))
                have h_119 : c s (4 * k9 + 2) = c s (4 * a4 + 2) := (congrArg (c s) (show 4 * k9 + 2 = 4 * a4 + 2 from by omega))
                have h_120 : c s (4 * k9 + 3) = c s (4 * a4 + 3) := (congrArg (c s) (show 4 * k9 + 3 = 4 * a4 + 3 from by omega))
                omega
              have h_121 := iv_r hI s (4 * k9) hj9 (by omega)
              have h_122 := ir_s_g hI hs (j := 4 * k9) (by omega)
              have h_123 : c s (4 * k9) = c s (4 * k9) := rfl
              have h_124 := ir_s_g hI hs (j := 4 * k9 + 1) (by omega)
              have h_125 : c s (4 * k9 + 1) = c s (4 * k9 + 1) := rfl
              have h_126 := ir_s_g hI hs (j := 4 * k9 + 2) (by omega)
              have h_127 : c s (4 * k9 + 2) = c s (4 * k9 + 2) := rfl
              have h_128 := ir_s_g hI hs (j := 4 * k9 + 3) (by omega)
              have h_129 : c s (4 * k9 + 3) = c s (4 * k9 + 3) := rfl
              omega
            have hI_130 := iv_close hIo hr_105
            exact K c 0 hI_130 (fun a j hm => rfl) ⟨by decide, by decide⟩
          · refine v_ic_gt_f (t := 17) rfl (by decide) (by omega) ?_
            refine q_iconst rfl ?_
            refine q_goto (t := 18) rfl (by decide) ?_
            refine v_zret rfl rfl (by omega) ?_
            refine bk_inl ?_
            refine v_if_eq_f (t := 63) rfl (by decide) (by decide) ?_
            refine q_aload_n rfl rfl ?_
            refine q_iload rfl rfl ?_
            refine q_iload rfl rfl ?_
            refine q_iload rfl rfl ?_
            refine v_isub (v := c s (4 * a2 + 1) + c s (4 * a2 + 2) + c s (4 * a2 + 3) + c s (4 * a2) - (fal (c (P + 3) a1) (tb (c s 30) a1) 0 (c s (4 * a2))) - (fal (c (P + 3) a1) (tb (c s 30) a1) 1 (c s (4 * a2 + 1))) - (fal (c (P + 3) a1) (tb (c s 30) a1) 2 (c s (4 * a2 + 2))) - (fal (c (P + 3) a1) (tb (c s 30) a1) 3 (c s (4 * a2 + 3)))) rfl (by omega) ?_
            refine v_cv rfl rfl rfl (ck_sh hs) (by omega) ⟨⟨rfl, rfl⟩, by decide, rfl⟩ (Nat.le_of_ble_eq_true rfl) (Nat.le_of_ble_eq_true rfl) ?_
            refine q_aload_n rfl rfl ?_
            refine q_iload_n rfl rfl ?_
            refine v_cv rfl rfl rfl (ck_sh hs) (by omega) ⟨⟨rfl, rfl⟩, by decide, rfl⟩ (Nat.le_of_ble_eq_true rfl) (Nat.le_of_ble_eq_true rfl) (s_43 (v1 := c s (4 * a4)) (v2 := c s (4 * a4 + 1)) (v3 := c s (4 * a4 + 2)) (v4 := c s (4 * a4 + 3)) (r := c s (4 * a4 + 1) + c s (4 * a4 + 2) + c s (4 * a4 + 3) + c s (4 * a4)) (a1 := a4) hIo hs (show 0 ≤ a4 ∧ a4 ≤ 5 from by omega) (rfl) (rfl) (rfl) (rfl) (by omega) ?_)
            refine bk_inl ?_
            refine q_iload_n rfl rfl ?_
            refine v_iadd (v := c s (4 * a2 + 1) + c s (4 * a2 + 2) + c s (4 * a2 + 3) + c s (4 * a2) + c s (4 * a4 + 1) + c s (4 * a4 + 2) + c s (4 * a4 + 3) + c s (4 * a4) - (fal (c (P + 3) a1) (tb (c s 30) a1) 0 (c s (4 * a2))) - (fal (c (P + 3) a1) (tb (c s 30) a1) 1 (c s (4 * a2 + 1))) - (fal (c (P + 3) a1) (tb (c s 30) a1) 2 (c s (4 * a2 + 2))) - (fal (c (P + 3) a1) (tb (c s 30) a1) 3 (c s (4 * a2 + 3)))) rfl (by omega) ?_
            refine v_sip rfl (by decide) ?_
            by_cases h_131 : c s (4 * a2 + 1) + c s (4 * a2 + 2) + c s (4 * a2 + 3) + c s (4 * a2) + c s (4 * a4 + 1) + c s (4 * a4 + 2) + c s (4 * a4 + 3) + c s (4 * a4) - (fal (c (P + 3) a1) (tb (c s 30) a1) 0 (c s (4 * a2))) - (fal (c (P + 3) a1) (tb (c s 30) a1) 1 (c s (4 * a2 + 1))) - (fal (c (P + 3) a1) (tb (c s 30) a1) 2 (c s (4 * a2 + 2))) - (fal (c (P + 3) a1) (tb (c s 30) a1) 3 (c s (4 * a2 + 3))) > 9999
            · refine v_ic_gt_t (t := 17) rfl (by decide) (by omega) ?_
              refine q_iconst rfl ?_
              refine v_zret rfl rfl (by omega) ?_
              refine bk_inl ?_
              refine v_if_ne_f (t := 65) rfl (by decide) (by decide) ?_
              refine q_iconst rfl ?_
              refine v_zret rfl rfl (by omega) ?_
              have hr_132 : ∀ j : Int, rs s j → c s j + c s (j + 1) + c s (j + 2) + c s (j + 3) ≤ 9999 := by
                intro j9 hj9
                obtain ⟨k9, rfl, hk9⟩ := rs_s hs hj9
                by_cases e_133 : k9 = a2
                · skip
                  have h_134 : c s (4 * k9) = c s (4 * a2) := (congrArg (c s) (show 4 * k9 = 4 * a2 from by omega))
                  have h_135 : c s (4 * k9 + 1) = c s (4 * a2 + 1) := (congrArg (c s) (show 4 * k9 + 1 = 4 * a2 + 1 from by omega))
                  have h_136 : c s (4 * k9 + 2) = c s (4 * a2 + 2) := (congrArg (c s) (show 4 * k9 + 2 = 4 * a2 + 2 from by omega))
                  have h_137 : c s (4 * k9 + 3) = c s (4 * a2 + 3) := (congrArg (c s) (show 4 * k9 + 3 = 4 * a2 + 3 from by omega))
                  omega
                by_cases e_138 : k9 = a3
                · skip
                  have h_139 : c s (4 * k9) = c s (4 * a3) := (congrArg (c s) (show 4 * k9 = 4 * a3 from by omega))
                  have h_140 : c s (4 * k9 + 1) = c s (4 * a3 + 1) := (congrArg (c s) (show 4 * k9 + 1 = 4 * a3 + 1 from by omega))
                  have h_141 : c s (4 * k9 + 2) = c s (4 * a3 + 2) := (congrArg (c s) (show 4 * k9 + 2 = 4 * a3 + 2 from by omega))
                  have h_142 : c s (4 * k9 + 3) = c s (4 * a3 + 3) := (congrArg (c s) (show 4 * k9 + 3 = 4 * a3 + 3 from by omega))
                  omega
                by_cases e_143 : k9 = a4
                · skip
                  have h_144 : c s (4 * k9) = c s (4 * a4) := (congrArg (c s) (show 4 * k9 = 4 * a4 from by omega))
                  have h_145 : c s (4 * k9 + 1) = c s (4 * a4 + 1) := (congrArg (c s) (show 4 * k9 + 1 = 4 * a4 + 1 from by omega))
                  have h_146 : c s (4 * k9 + 2) = c s (4 * a4 + 2) := (congrArg (c s) (show 4 * k9 + 2 = 4 * a4 + 2 from by omega))
                  have h_147 : c s (4 * k9 + 3) = c s (4 * a4 + 3) := (congrArg (c s) (show 4 * k9 + 3 = 4 * a4 + 3 from by omega))
                  omega
                have h_148 := iv_r hI s (4 * k9) hj9 (by omega)
                have h_149 := ir_s_g hI hs (j := 4 * k9) (by omega)
                have h_150 : c s (4 * k9) = c s (4 * k9) := rfl
                have h_151 := ir_s_g hI hs (j := 4 * k9 + 1) (by omega)
                have h_152 : c s (4 * k9 + 1) = c s (4 * k9 + 1) := rfl
                have h_153 := ir_s_g hI hs (j := 4 * k9 + 2) (by omega)
                have h_154 : c s (4 * k9 + 2) = c s (4 * k9 + 2) := rfl
                have h_155 := ir_s_g hI hs (j := 4 * k9 + 3) (by omega)
                have h_156 : c s (4 * k9 + 3) = c s (4 * k9 + 3) := rfl
                omega
              have hI_157 := iv_close hIo hr_132
              exact K c 0 hI_157 (fun a j hm => rfl) ⟨by decide, by decide⟩
            · refine v_ic_gt_f (t := 17) rfl (by decide) (by omega) ?_
              refine q_iconst rfl ?_
              refine q_goto (t := 18) rfl (by decide) ?_
              refine v_zret rfl rfl (by omega) ?_
              refine bk_inl ?_
              refine v_if_ne_t (t := 65) rfl (by decide) (by decide) ?_
              refine q_iconst rfl ?_
              refine q_istore rfl (by decide) ?_
              refine q_iload rfl rfl ?_
              refine q_iconst rfl ?_
              refine v_ic_ge_f (t := 116) rfl (by decide) (by decide) ?_
              refine q_aload_n rfl rfl ?_
              refine q_iload_n rfl rfl ?_
              refine q_iload_n rfl rfl ?_
              refine q_iload rfl rfl ?_
              refine v_cv rfl rfl rfl (ck_sh hs) (by omega) ⟨⟨rfl, rfl⟩, by decide, rfl⟩ (Nat.le_of_ble_eq_true rfl) (Nat.le_of_ble_eq_true rfl) (s_48 (v1 := c (P + 3) a1) (v2 := c s 30) (v3 := c s (4 * a2)) (r := (fal (c (P + 3) a1) (tb (c s 30) a1) 0 (c s (4 * a2)))) (a1 := a1) (a2 := a2) (a3 := 0) hIo hs (show 0 ≤ a1 ∧ a1 ≤ 3 from by omega) (show 0 ≤ a2 ∧ a2 ≤ 5 from by omega) (show 0 ≤ 0 ∧ 0 ≤ 3 from by omega) (rfl) (rfl) ((congrArg (c s) (show 4 * a2 + 0 = 4 * a2 from by omega))) rfl ?_)
              refine bk_inl ?_
              refine q_istore rfl (by decide) ?_
              refine q_aload_n rfl rfl ?_
              refine q_iload_n rfl rfl ?_
              refine q_iload_n rfl rfl ?_
              refine q_iload rfl rfl ?_
              refine q_iload rfl rfl ?_
              refine v_cv rfl rfl rfl (ck_sh hs) (by omega) ⟨⟨rfl, rfl⟩, by decide, rfl⟩ (Nat.le_of_ble_eq_true rfl) (Nat.le_of_ble_eq_true rfl) (s_52 (a1 := a2) (a2 := a3) (a3 := 0) (a4 := (fal (c (P + 3) a1) (tb (c s 30) a1) 0 (c s (4 * a2)))) hIo hs (show 0 ≤ a2 ∧ a2 ≤ 5 from by omega) (show 0 ≤ a3 ∧ a3 ≤ 5 from by omega) (show 0 ≤ 0 ∧ 0 ≤ 3 from by omega) (show 0 ≤ (fal (c (P + 3) a1) (tb (c s 30) a1) 0 (c s (4 * a2))) ∧ (fal (c (P + 3) a1) (tb (c s 30) a1) 0 (c s (4 * a2))) ≤ 9999 from by omega) (by omega) (by omega) (by omega) (fun c_158 hI_159 hF_160 h_161 => ?_))
              refine bk_inl ?_
              have h_162 : c_158 s (4 * a2 + 0) = c_158 s (4 * a2) := congrArg (c_158 s) (by omega)
              have h_163 := ir_s_g hI_159 hs (j := 4 * a2) (by omega)
              have h_164 : c_158 s (4 * a3 + 0) = c_158 s (4 * a3) := congrArg (c_158 s) (by omega)
              have h_165 := ir_s_g hI_159 hs (j := 4 * a3) (by omega)
              refine q_aload_n rfl rfl ?_
              refine q_iload_n rfl rfl ?_
              refine q_iload rfl rfl ?_
              refine q_iload rfl rfl ?_
              refine q_aload_n rfl rfl ?_
              refine q_iload_n rfl rfl ?_
              refine q_iload rfl rfl ?_
              refine v_cv rfl rfl rfl (ck_sh hs) (by omega) ⟨⟨rfl, rfl⟩, by decide, rfl⟩ (Nat.le_of_ble_eq_true rfl) (Nat.le_of_ble_eq_true rfl) (s_45 (v1 := c_158 s (4 * a2)) (r := c_158 s (4 * a2)) (a1 := a2) (a2 := 0) hI_159 hs (show 0 ≤ a2 ∧ a2 ≤ 5 from by omega) (show 0 ≤ 0 ∧ 0 ≤ 3 from by omega) ((congrArg (c_158 s) (show 4 * a2 + 0 = 4 * a2 from by omega))) (by omega) ?_)
              refine bk_inl ?_
              have kn_166 : Hid (c_158 s (4 * a4) = c s (4 * a4)) := hF_160 s (4 * a4) (by omega)
              have h_167 : c_158 s (4 * a4) = c s (4 * a4) := (hid kn_166)
              refine v_cv rfl rfl rfl (ck_sh hs) (by omega) ⟨⟨rfl, rfl⟩, by decide, rfl⟩ (Nat.le_of_ble_eq_true rfl) (Nat.le_of_ble_eq_true rfl) (s_52 (a1 := a2) (a2 := a4) (a3 := 0) (a4 := c_158 s (4 * a2)) hI_159 hs (show 0 ≤ a2 ∧ a2 ≤ 5 from by omega) (show 0 ≤ a4 ∧ a4 ≤ 5 from by omega) (show 0 ≤ 0 ∧ 0 ≤ 3 from by omega) (show 0 ≤ c_158 s (4 * a2) ∧ c_158 s (4 * a2) ≤ 9999 from by omega) (by omega) (by omega) (by omega) (fun c_168 hI_169 hF_170 h_171 => ?_))
              refine bk_inl ?_
              have h_172 : c_168 s (4 * a2 + 0) = c_168 s (4 * a2) := congrArg (c_168 s) (by omega)
              have h_173 := ir_s_g hI_169 hs (j := 4 * a2) (by omega)
              have h_174 : c_168 s (4 * a4 + 0) = c_168 s (4 * a4) := congrArg (c_168 s) (by omega)
              have h_175 := ir_s_g hI_169 hs (j := 4 * a4) (by omega)
              refine v_iinc (v := 1) rfl rfl (by decide) (by decide) ?_
              refine Wp_ls [(7, vi 1), (8, vi (fal (c (P + 3) a1) (tb (c s 30) a1) 0 (c s (4 * a2)))), (6, vi ((fal (c (P + 3) a1) (tb (c s 30) a1) 0 (c s (4 * a2))) + (fal (c (P + 3) a1) (tb (c s 30) a1) 1 (c s (4 * a2 + 1))) + (fal (c (P + 3) a1) (tb (c s 30) a1) 2 (c s (4 * a2 + 2))) + (fal (c (P + 3) a1) (tb (c s 30) a1) 3 (c s (4 * a2 + 3))))), (5, vi (c s (4 * a2 + 1) + c s (4 * a2 + 2) + c s (4 * a2 + 3) + c s (4 * a2))), (0, .ref sh), (1, vi a1), (2, vi a2), (3, vi a3), (4, vi a4)] (lsub_cons rfl (lsub_cons rfl (lsub_cons rfl (lsub_cons rfl (lsub_cons rfl (lsub_cons rfl (lsub_cons rfl (lsub_cons rfl (lsub_cons rfl lsub_nil))))))))) ?_
              refine q_goto (t := 68) rfl (by decide) ?_
              refine q_iload rfl rfl ?_
              refine q_iconst rfl ?_
              refine v_ic_ge_f (t := 116) rfl (by decide) (by decide) ?_
              refine q_aload_n rfl rfl ?_
              refine q_iload_n rfl rfl ?_
              refine q_iload_n rfl rfl ?_
              refine q_iload rfl rfl ?_
              have kn_176 : Hid (c_158 (P + 3) a1 = c (P + 3) a1) := hF_160 (P + 3) a1 (by omega)
              have kn_177 : Hid (c_168 (P + 3) a1 = c (P + 3) a1) := (hF_170 (P + 3) a1 (by omega)).trans (hid kn_176)
              have kn_178 : Hid (c_158 s 30 = c s 30) := hF_160 s 30 (by omega)
              have kn_179 : Hid (c_168 s 30 = c s 30) := (hF_170 s 30 (by omega)).trans (hid kn_178)
              have kn_180 : Hid (c_158 s (4 * a2 + 1) = c s (4 * a2 + 1)) := hF_160 s (4 * a2 + 1) (by omega)
              have kn_181 : Hid (c_168 s (4 * a2 + 1) = c s (4 * a2 + 1)) := (hF_170 s (4 * a2 + 1) (by omega)).trans (hid kn_180)
              refine v_cv rfl rfl rfl (ck_sh hs) (by omega) ⟨⟨rfl, rfl⟩, by decide, rfl⟩ (Nat.le_of_ble_eq_true rfl) (Nat.le_of_ble_eq_true rfl) (s_48 (v1 := c (P + 3) a1) (v2 := c s 30) (v3 := c s (4 * a2 + 1)) (r := (fal (c (P + 3) a1) (tb (c s 30) a1) 1 (c s (4 * a2 + 1)))) (a1 := a1) (a2 := a2) (a3 := 1) hI_169 hs (show 0 ≤ a1 ∧ a1 ≤ 3 from by omega) (show 0 ≤ a2 ∧ a2 ≤ 5 from by omega) (show 0 ≤ 1 ∧ 1 ≤ 3 from by omega) ((hid kn_177)) ((hid kn_179)) ((hid kn_181)) rfl ?_)
              refine bk_inl ?_
              refine q_istore rfl (by decide) ?_
              refine q_aload_n rfl rfl ?_
              refine q_iload_n rfl rfl ?_
              refine q_iload_n rfl rfl ?_
              refine q_iload rfl rfl ?_
              refine q_iload rfl rfl ?_
              have h_182 : c_168 s (4 * a2 + 1) = c s (4 * a2 + 1) := (hid kn_181)
              have kn_183 : Hid (c_158 s (4 * a3 + 1) = c s (4 * a3 + 1)) := hF_160 s (4 * a3 + 1) (by omega)
              have kn_184 : Hid (c_168 s (4 * a3 + 1) = c s (4 * a3 + 1)) := (hF_170 s (4 * a3 + 1) (by omega)).trans (hid kn_183)
              have h_185 : c_168 s (4 * a3 + 1) = c s (4 * a3 + 1) := (hid kn_184)
              refine v_cv rfl rfl rfl (ck_sh hs) (by omega) ⟨⟨rfl, rfl⟩, by decide, rfl⟩ (Nat.le_of_ble_eq_true rfl) (Nat.le_of_ble_eq_true rfl) (s_52 (a1 := a2) (a2 := a3) (a3 := 1) (a4 := (fal (c (P + 3) a1) (tb (c s 30) a1) 1 (c s (4 * a2 + 1)))) hI_169 hs (show 0 ≤ a2 ∧ a2 ≤ 5 from by omega) (show 0 ≤ a3 ∧ a3 ≤ 5 from by omega) (show 0 ≤ 1 ∧ 1 ≤ 3 from by omega) (show 0 ≤ (fal (c (P + 3) a1) (tb (c s 30) a1) 1 (c s (4 * a2 + 1))) ∧ (fal (c (P + 3) a1) (tb (c s 30) a1) 1 (c s (4 * a2 + 1))) ≤ 9999 from by omega) (by omega) (by omega) (by omega) (fun c_186 hI_187 hF_188 h_189 => ?_))
              refine bk_inl ?_
              have h_190 := ir_s_g hI_187 hs (j := 4 * a2 + 1) (by omega)
              have h_191 := ir_s_g hI_187 hs (j := 4 * a3 + 1) (by omega)
              refine q_aload_n rfl rfl ?_
              refine q_iload_n rfl rfl ?_
              refine q_iload rfl rfl ?_
              refine q_iload rfl rfl ?_
              refine q_aload_n rfl rfl ?_
              refine q_iload_n rfl rfl ?_
              refine q_iload rfl rfl ?_
              refine v_cv rfl rfl rfl (ck_sh hs) (by omega) ⟨⟨rfl, rfl⟩, by decide, rfl⟩ (Nat.le_of_ble_eq_true rfl) (Nat.le_of_ble_eq_true rfl) (s_45 (v1 := c_186 s (4 * a2 + 1)) (r := c_186 s (4 * a2 + 1)) (a1 := a2) (a2 := 1) hI_187 hs (show 0 ≤ a2 ∧ a2 ≤ 5 from by omega) (show 0 ≤ 1 ∧ 1 ≤ 3 from by omega) (rfl) (by omega) ?_)
              refine bk_inl ?_
              have kn_192 : Hid (c_158 s (4 * a4 + 1) = c s (4 * a4 + 1)) := hF_160 s (4 * a4 + 1) (by omega)
              have kn_193 : Hid (c_168 s (4 * a4 + 1) = c s (4 * a4 + 1)) := (hF_170 s (4 * a4 + 1) (by omega)).trans (hid kn_192)
              have kn_194 : Hid (c_186 s (4 * a4 + 1) = c s (4 * a4 + 1)) := (hF_188 s (4 * a4 + 1) (by omega)).trans (hid kn_193)
              have h_195 : c_186 s (4 * a4 + 1) = c s (4 * a4 + 1) := (hid kn_194)
              refine v_cv rfl rfl rfl (ck_sh hs) (by omega) ⟨⟨rfl, rfl⟩, by decide, rfl⟩ (Nat.le_of_ble_eq_true rfl) (Nat.le_of_ble_eq_true rfl) (s_52 (a1 := a2) (a2 := a4) (a3 := 1) (a4 := c_186 s (4 * a2 + 1)) hI_187 hs (show 0 ≤ a2 ∧ a2 ≤ 5 from by omega) (show 0 ≤ a4 ∧ a4 ≤ 5 from by omega) (show 0 ≤ 1 ∧ 1 ≤ 3 from by omega) (show 0 ≤ c_186 s (4 * a2 + 1) ∧ c_186 s (4 * a2 + 1) ≤ 9999 from by omega) (by omega) (by omega) (by omega) (fun c_196 hI_197 hF_198 h_199 => ?_))
              refine bk_inl ?_
              have h_200 := ir_s_g hI_197 hs (j := 4 * a2 + 1) (by omega)
              have h_201 := ir_s_g hI_197 hs (j := 4 * a4 + 1) (by omega)
              refine v_iinc (v := 2) rfl rfl (by decide) (by decide) ?_
              refine q_goto (t := 68) rfl (by decide) ?_
              refine q_iload rfl rfl ?_
              refine q_iconst rfl ?_
              refine v_ic_ge_f (t := 116) rfl (by decide) (by decide) ?_
              refine q_aload_n rfl rfl ?_
              refine q_iload_n rfl rfl ?_
              refine q_iload_n rfl rfl ?_
              refine q_iload rfl rfl ?_
              have kn_202 : Hid (c_186 (P + 3) a1 = c (P + 3) a1) := (hF_188 (P + 3) a1 (by omega)).trans (hid kn_177)
              have kn_203 : Hid (c_196 (P + 3) a1 = c (P + 3) a1) := (hF_198 (P + 3) a1 (by omega)).trans (hid kn_202)
              have kn_204 : Hid (c_186 s 30 = c s 30) := (hF_188 s 30 (by omega)).trans (hid kn_179)
              have kn_205 : Hid (c_196 s 30 = c s 30) := (hF_198 s 30 (by omega)).trans (hid kn_204)
              have kn_206 : Hid (c_158 s (4 * a2 + 2) = c s (4 * a2 + 2)) := hF_160 s (4 * a2 + 2) (by omega)
              have kn_207 : Hid (c_168 s (4 * a2 + 2) = c s (4 * a2 + 2)) := (hF_170 s (4 * a2 + 2) (by omega)).trans (hid kn_206)
              have kn_208 : Hid (c_186 s (4 * a2 + 2) = c s (4 * a2 + 2)) := (hF_188 s (4 * a2 + 2) (by omega)).trans (hid kn_207)
              have kn_209 : Hid (c_196 s (4 * a2 + 2) = c s (4 * a2 + 2)) := (hF_198 s (4 * a2 + 2) (by omega)).trans (hid kn_208)
              refine v_cv rfl rfl rfl (ck_sh hs) (by omega) ⟨⟨rfl, rfl⟩, by decide, rfl⟩ (Nat.le_of_ble_eq_true rfl) (Nat.le_of_ble_eq_true rfl) (s_48 (v1 := c (P + 3) a1) (v2 := c s 30) (v3 := c s (4 * a2 + 2)) (r := (fal (c (P + 3) a1) (tb (c s 30) a1) 2 (c s (4 * a2 + 2)))) (a1 := a1) (a2 := a2) (a3 := 2) hI_197 hs (show 0 ≤ a1 ∧ a1 ≤ 3 from by omega) (show 0 ≤ a2 ∧ a2 ≤ 5 from by omega) (show 0 ≤ 2 ∧ 2 ≤ 3 from by omega) ((hid kn_203)) ((hid kn_205)) ((hid kn_209)) rfl ?_)
              refine bk_inl ?_
              refine q_istore rfl (by decide) ?_
              refine q_aload_n rfl rfl ?_
              refine q_iload_n rfl rfl ?_
              refine q_iload_n rfl rfl ?_
              refine q_iload rfl rfl ?_
              refine q_iload rfl rfl ?_
              have h_210 : c_196 s (4 * a2 + 2) = c s (4 * a2 + 2) := (hid kn_209)
              have kn_211 : Hid (c_158 s (4 * a3 + 2) = c s (4 * a3 + 2)) := hF_160 s (4 * a3 + 2) (by omega)
              have kn_212 : Hid (c_168 s (4 * a3 + 2) = c s (4 * a3 + 2)) := (hF_170 s (4 * a3 + 2) (by omega)).trans (hid kn_211)
              have kn_213 : Hid (c_186 s (4 * a3 + 2) = c s (4 * a3 + 2)) := (hF_188 s (4 * a3 + 2) (by omega)).trans (hid kn_212)
              have kn_214 : Hid (c_196 s (4 * a3 + 2) = c s (4 * a3 + 2)) := (hF_198 s (4 * a3 + 2) (by omega)).trans (hid kn_213)
              have h_215 : c_196 s (4 * a3 + 2) = c s (4 * a3 + 2) := (hid kn_214)
              refine v_cv rfl rfl rfl (ck_sh hs) (by omega) ⟨⟨rfl, rfl⟩, by decide, rfl⟩ (Nat.le_of_ble_eq_true rfl) (Nat.le_of_ble_eq_true rfl) (s_52 (a1 := a2) (a2 := a3) (a3 := 2) (a4 := (fal (c (P + 3) a1) (tb (c s 30) a1) 2 (c s (4 * a2 + 2)))) hI_197 hs (show 0 ≤ a2 ∧ a2 ≤ 5 from by omega) (show 0 ≤ a3 ∧ a3 ≤ 5 from by omega) (show 0 ≤ 2 ∧ 2 ≤ 3 from by omega) (show 0 ≤ (fal (c (P + 3) a1) (tb (c s 30) a1) 2 (c s (4 * a2 + 2))) ∧ (fal (c (P + 3) a1) (tb (c s 30) a1) 2 (c s (4 * a2 + 2))) ≤ 9999 from by omega) (by omega) (by omega) (by omega) (fun c_216 hI_217 hF_218 h_219 => ?_))
              refine bk_inl ?_
              have h_220 := ir_s_g hI_217 hs (j := 4 * a2 + 2) (by omega)
              have h_221 := ir_s_g hI_217 hs (j := 4 * a3 + 2) (by omega)
              refine q_aload_n rfl rfl ?_
              refine q_iload_n rfl rfl ?_
              refine q_iload rfl rfl ?_
              refine q_iload rfl rfl ?_
              refine q_aload_n rfl rfl ?_
              refine q_iload_n rfl rfl ?_
              refine q_iload rfl rfl ?_
              refine v_cv rfl rfl rfl (ck_sh hs) (by omega) ⟨⟨rfl, rfl⟩, by decide, rfl⟩ (Nat.le_of_ble_eq_true rfl) (Nat.le_of_ble_eq_true rfl) (s_45 (v1 := c_216 s (4 * a2 + 2)) (r := c_216 s (4 * a2 + 2)) (a1 := a2) (a2 := 2) hI_217 hs (show 0 ≤ a2 ∧ a2 ≤ 5 from by omega) (show 0 ≤ 2 ∧ 2 ≤ 3 from by omega) (rfl) (by omega) ?_)
              refine bk_inl ?_
              have kn_222 : Hid (c_158 s (4 * a4 + 2) = c s (4 * a4 + 2)) := hF_160 s (4 * a4 + 2) (by omega)
              have kn_223 : Hid (c_168 s (4 * a4 + 2) = c s (4 * a4 + 2)) := (hF_170 s (4 * a4 + 2) (by omega)).trans (hid kn_222)
              have kn_224 : Hid (c_186 s (4 * a4 + 2) = c s (4 * a4 + 2)) := (hF_188 s (4 * a4 + 2) (by omega)).trans (hid kn_223)
              have kn_225 : Hid (c_196 s (4 * a4 + 2) = c s (4 * a4 + 2)) := (hF_198 s (4 * a4 + 2) (by omega)).trans (hid kn_224)
              have kn_226 : Hid (c_216 s (4 * a4 + 2) = c s (4 * a4 + 2)) := (hF_218 s (4 * a4 + 2) (by omega)).trans (hid kn_225)
              have h_227 : c_216 s (4 * a4 + 2) = c s (4 * a4 + 2) := (hid kn_226)
              refine v_cv rfl rfl rfl (ck_sh hs) (by omega) ⟨⟨rfl, rfl⟩, by decide, rfl⟩ (Nat.le_of_ble_eq_true rfl) (Nat.le_of_ble_eq_true rfl) (s_52 (a1 := a2) (a2 := a4) (a3 := 2) (a4 := c_216 s (4 * a2 + 2)) hI_217 hs (show 0 ≤ a2 ∧ a2 ≤ 5 from by omega) (show 0 ≤ a4 ∧ a4 ≤ 5 from by omega) (show 0 ≤ 2 ∧ 2 ≤ 3 from by omega) (show 0 ≤ c_216 s (4 * a2 + 2) ∧ c_216 s (4 * a2 + 2) ≤ 9999 from by omega) (by omega) (by omega) (by omega) (fun c_228 hI_229 hF_230 h_231 => ?_))
              refine bk_inl ?_
              have h_232 := ir_s_g hI_229 hs (j := 4 * a2 + 2) (by omega)
              have h_233 := ir_s_g hI_229 hs (j := 4 * a4 + 2) (by omega)
              refine v_iinc (v := 3) rfl rfl (by decide) (by decide) ?_
              refine q_goto (t := 68) rfl (by decide) ?_
              refine q_iload rfl rfl ?_
              refine q_iconst rfl ?_
              refine v_ic_ge_f (t := 116) rfl (by decide) (by decide) ?_
              refine q_aload_n rfl rfl ?_
              refine q_iload_n rfl rfl ?_
              refine q_iload_n rfl rfl ?_
              refine q_iload rfl rfl ?_
              have kn_234 : Hid (c_216 (P + 3) a1 = c (P + 3) a1) := (hF_218 (P + 3) a1 (by omega)).trans (hid kn_203)
              have kn_235 : Hid (c_228 (P + 3) a1 = c (P + 3) a1) := (hF_230 (P + 3) a1 (by omega)).trans (hid kn_234)
              have kn_236 : Hid (c_216 s 30 = c s 30) := (hF_218 s 30 (by omega)).trans (hid kn_205)
              have kn_237 : Hid (c_228 s 30 = c s 30) := (hF_230 s 30 (by omega)).trans (hid kn_236)
              have kn_238 : Hid (c_158 s (4 * a2 + 3) = c s (4 * a2 + 3)) := hF_160 s (4 * a2 + 3) (by omega)
              have kn_239 : Hid (c_168 s (4 * a2 + 3) = c s (4 * a2 + 3)) := (hF_170 s (4 * a2 + 3) (by omega)).trans (hid kn_238)
              have kn_240 : Hid (c_186 s (4 * a2 + 3) = c s (4 * a2 + 3)) := (hF_188 s (4 * a2 + 3) (by omega)).trans (hid kn_239)
              have kn_241 : Hid (c_196 s (4 * a2 + 3) = c s (4 * a2 + 3)) := (hF_198 s (4 * a2 + 3) (by omega)).trans (hid kn_240)
              have kn_242 : Hid (c_216 s (4 * a2 + 3) = c s (4 * a2 + 3)) := (hF_218 s (4 * a2 + 3) (by omega)).trans (hid kn_241)
              have kn_243 : Hid (c_228 s (4 * a2 + 3) = c s (4 * a2 + 3)) := (hF_230 s (4 * a2 + 3) (by omega)).trans (hid kn_242)
              refine v_cv rfl rfl rfl (ck_sh hs) (by omega) ⟨⟨rfl, rfl⟩, by decide, rfl⟩ (Nat.le_of_ble_eq_true rfl) (Nat.le_of_ble_eq_true rfl) (s_48 (v1 := c (P + 3) a1) (v2 := c s 30) (v3 := c s (4 * a2 + 3)) (r := (fal (c (P + 3) a1) (tb (c s 30) a1) 3 (c s (4 * a2 + 3)))) (a1 := a1) (a2 := a2) (a3 := 3) hI_229 hs (show 0 ≤ a1 ∧ a1 ≤ 3 from by omega) (show 0 ≤ a2 ∧ a2 ≤ 5 from by omega) (show 0 ≤ 3 ∧ 3 ≤ 3 from by omega) ((hid kn_235)) ((hid kn_237)) ((hid kn_243)) rfl ?_)
              refine bk_inl ?_
              refine q_istore rfl (by decide) ?_
              refine Wp_ls [(8, vi (fal (c (P + 3) a1) (tb (c s 30) a1) 3 (c s (4 * a2 + 3)))), (7, vi 3), (6, vi ((fal (c (P + 3) a1) (tb (c s 30) a1) 0 (c s (4 * a2))) + (fal (c (P + 3) a1) (tb (c s 30) a1) 1 (c s (4 * a2 + 1))) + (fal (c (P + 3) a1) (tb (c s 30) a1) 2 (c s (4 * a2 + 2))) + (fal (c (P + 3) a1) (tb (c s 30) a1) 3 (c s (4 * a2 + 3))))), (5, vi (c s (4 * a2 + 1) + c s (4 * a2 + 2) + c s (4 * a2 + 3) + c s (4 * a2))), (0, .ref sh), (1, vi a1), (2, vi a2), (3, vi a3), (4, vi a4)] (lsub_cons rfl (lsub_cons rfl (lsub_cons rfl (lsub_cons rfl (lsub_cons rfl (lsub_cons rfl (lsub_cons rfl (lsub_cons rfl (lsub_cons rfl lsub_nil))))))))) ?_
              refine q_aload_n rfl rfl ?_
              refine q_iload_n rfl rfl ?_
              refine q_iload_n rfl rfl ?_
              refine q_iload rfl rfl ?_
              refine q_iload rfl rfl ?_
              have h_244 : c_228 s (4 * a2 + 3) = c s (4 * a2 + 3) := (hid kn_243)
              have kn_245 : Hid (c_158 s (4 * a3 + 3) = c s (4 * a3 + 3)) := hF_160 s (4 * a3 + 3) (by omega)
              have kn_246 : Hid (c_168 s (4 * a3 + 3) = c s (4 * a3 + 3)) := (hF_170 s (4 * a3 + 3) (by omega)).trans (hid kn_245)
              have kn_247 : Hid (c_186 s (4 * a3 + 3) = c s (4 * a3 + 3)) := (hF_188 s (4 * a3 + 3) (by omega)).trans (hid kn_246)
              have kn_248 : Hid (c_196 s (4 * a3 + 3) = c s (4 * a3 + 3)) := (hF_198 s (4 * a3 + 3) (by omega)).trans (hid kn_247)
              have kn_249 : Hid (c_216 s (4 * a3 + 3) = c s (4 * a3 + 3)) := (hF_218 s (4 * a3 + 3) (by omega)).trans (hid kn_248)
              have kn_250 : Hid (c_228 s (4 * a3 + 3) = c s (4 * a3 + 3)) := (hF_230 s (4 * a3 + 3) (by omega)).trans (hid kn_249)
              have h_251 : c_228 s (4 * a3 + 3) = c s (4 * a3 + 3) := (hid kn_250)
              refine v_cv rfl rfl rfl (ck_sh hs) (by omega) ⟨⟨rfl, rfl⟩, by decide, rfl⟩ (Nat.le_of_ble_eq_true rfl) (Nat.le_of_ble_eq_true rfl) (s_52 (a1 := a2) (a2 := a3) (a3 := 3) (a4 := (fal (c (P + 3) a1) (tb (c s 30) a1) 3 (c s (4 * a2 + 3)))) hI_229 hs (show 0 ≤ a2 ∧ a2 ≤ 5 from by omega) (show 0 ≤ a3 ∧ a3 ≤ 5 from by omega) (show 0 ≤ 3 ∧ 3 ≤ 3 from by omega) (show 0 ≤ (fal (c (P + 3) a1) (tb (c s 30) a1) 3 (c s (4 * a2 + 3))) ∧ (fal (c (P + 3) a1) (tb (c s 30) a1) 3 (c s (4 * a2 + 3))) ≤ 9999 from by omega) (by omega) (by omega) (by omega) (fun c_252 hI_253 hF_254 h_255 => ?_))
              refine bk_inl ?_
              have h_256 := ir_s_g hI_253 hs (j := 4 * a2 + 3) (by omega)
              have h_257 := ir_s_g hI_253 hs (j := 4 * a3 + 3) (by omega)
              refine q_aload_n rfl rfl ?_
              refine q_iload_n rfl rfl ?_
              refine q_iload rfl rfl ?_
              refine q_iload rfl rfl ?_
              refine q_aload_n rfl rfl ?_
              refine q_iload_n rfl rfl ?_
              refine q_iload rfl rfl ?_
              refine v_cv rfl rfl rfl (ck_sh hs) (by omega) ⟨⟨rfl, rfl⟩, by decide, rfl⟩ (Nat.le_of_ble_eq_true rfl) (Nat.le_of_ble_eq_true rfl) (s_45 (v1 := c_252 s (4 * a2 + 3)) (r := c_252 s (4 * a2 + 3)) (a1 := a2) (a2 := 3) hI_253 hs (show 0 ≤ a2 ∧ a2 ≤ 5 from by omega) (show 0 ≤ 3 ∧ 3 ≤ 3 from by omega) (rfl) (by omega) ?_)
              refine bk_inl ?_
              have kn_258 : Hid (c_158 s (4 * a4 + 3) = c s (4 * a4 + 3)) := hF_160 s (4 * a4 + 3) (by omega)
              have kn_259 : Hid (c_168 s (4 * a4 + 3) = c s (4 * a4 + 3)) := (hF_170 s (4 * a4 + 3) (by omega)).trans (hid kn_258)
              have kn_260 : Hid (c_186 s (4 * a4 + 3) = c s (4 * a4 + 3)) := (hF_188 s (4 * a4 + 3) (by omega)).trans (hid kn_259)
              have kn_261 : Hid (c_196 s (4 * a4 + 3) = c s (4 * a4 + 3)) := (hF_198 s (4 * a4 + 3) (by omega)).trans (hid kn_260)
              have kn_262 : Hid (c_216 s (4 * a4 + 3) = c s (4 * a4 + 3)) := (hF_218 s (4 * a4 + 3) (by omega)).trans (hid kn_261)
              have kn_263 : Hid (c_228 s (4 * a4 + 3) = c s (4 * a4 + 3)) := (hF_230 s (4 * a4 + 3) (by omega)).trans (hid kn_262)
              have kn_264 : Hid (c_252 s (4 * a4 + 3) = c s (4 * a4 + 3)) := (hF_254 s (4 * a4 + 3) (by omega)).trans (hid kn_263)
              have h_265 : c_252 s (4 * a4 + 3) = c s (4 * a4 + 3) := (hid kn_264)
              refine v_cv rfl rfl rfl (ck_sh hs) (by omega) ⟨⟨rfl, rfl⟩, by decide, rfl⟩ (Nat.le_of_ble_eq_true rfl) (Nat.le_of_ble_eq_true rfl) (s_52 (a1 := a2) (a2 := a4) (a3 := 3) (a4 := c_252 s (4 * a2 + 3)) hI_253 hs (show 0 ≤ a2 ∧ a2 ≤ 5 from by omega) (show 0 ≤ a4 ∧ a4 ≤ 5 from by omega) (show 0 ≤ 3 ∧ 3 ≤ 3 from by omega) (show 0 ≤ c_252 s (4 * a2 + 3) ∧ c_252 s (4 * a2 + 3) ≤ 9999 from by omega) (by omega) (by omega) (by omega) (fun c_266 hI_267 hF_268 h_269 => ?_))
              refine bk_inl ?_
              have h_270 := ir_s_g hI_267 hs (j := 4 * a2 + 3) (by omega)
              have h_271 := ir_s_g hI_267 hs (j := 4 * a4 + 3) (by omega)
              refine v_iinc (v := 4) rfl rfl (by decide) (by decide) ?_
              refine q_goto (t := 68) rfl (by decide) ?_
              refine q_iload rfl rfl ?_
              refine q_iconst rfl ?_
              refine v_ic_ge_t (t := 116) rfl (by decide) (by decide) ?_
              refine q_aload_n rfl rfl ?_
              refine v_gr (t := s) rfl rfl (ck_sh hs) (by omega) rfl ?_
              refine v_bip rfl (by decide) ?_
              refine q_iload_n rfl rfl ?_
              refine v_iadd (v := a2 + 24) rfl (by omega) ?_
              refine q_iconst rfl ?_
              refine v_is rfl (ck_s hs) (by omega) (by decide) (by omega) ?_
              refine q_iconst rfl ?_
              refine v_zret rfl rfl (by omega) ?_
              have hI_272 := iw_row (a := s) (j := a2 + 24) (v := 0) hI_267 (by omega) (Or.inl rfl) ⟨by omega, by omega, by omega⟩
              have hr_273 : ∀ j : Int, rs s j → (up c_266 s (a2 + 24) 0) s j + (up c_266 s (a2 + 24) 0) s (j + 1) + (up c_266 s (a2 + 24) 0) s (j + 2) + (up c_266 s (a2 + 24) 0) s (j + 3) ≤ 9999 := by
                intro j9 hj9
                obtain ⟨k9, rfl, hk9⟩ := rs_s hs hj9
                by_cases e_274 : k9 = a2
                · skip
                  have kn_275 : Hid (c_186 s (4 * a2) = c_168 s (4 * a2)) := hF_188 s (4 * a2) (by omega)
                  have kn_276 : Hid (c_196 s (4 * a2) = c_168 s (4 * a2)) := (hF_198 s (4 * a2) (by omega)).trans (hid kn_275)
                  have kn_277 : Hid (c_216 s (4 * a2) = c_168 s (4 * a2)) := (hF_218 s (4 * a2) (by omega)).trans (hid kn_276)
                  have kn_278 : Hid (c_228 s (4 * a2) = c_168 s (4 * a2)) := (hF_230 s (4 * a2) (by omega)).trans (hid kn_277)
                  have kn_279 : Hid (c_252 s (4 * a2) = c_168 s (4 * a2)) := (hF_254 s (4 * a2) (by omega)).trans (hid kn_278)
                  have kn_280 : Hid (c_266 s (4 * a2) = c_168 s (4 * a2)) := (hF_268 s (4 * a2) (by omega)).trans (hid kn_279)
                  have h_281 : (up c_266 s (a2 + 24) 0) s (4 * k9) = c_168 s (4 * a2) := (congrArg ((up c_266 s (a2 + 24) 0) s) (show 4 * k9 = 4 * a2 from by omega)).trans ((up_n (by omega)).trans (hid kn_280))
                  have kn_282 : Hid (c_216 s (4 * a2 + 1) = c_196 s (4 * a2 + 1)) := hF_218 s (4 * a2 + 1) (by omega)
                  have kn_283 : Hid (c_228 s (4 * a2 + 1) = c_196 s (4 * a2 + 1)) := (hF_230 s (4 * a2 + 1) (by omega)).trans (hid kn_282)
                  have kn_284 : Hid (c_252 s (4 * a2 + 1) = c_196 s (4 * a2 + 1)) := (hF_254 s (4 * a2 + 1) (by omega)).trans (hid kn_283)
                  have kn_285 : Hid (c_266 s (4 * a2 + 1) = c_196 s (4 * a2 + 1)) := (hF_268 s (4 * a2 + 1) (by omega)).trans (hid kn_284)
                  have h_286 : (up c_266 s (a2 + 24) 0) s (4 * k9 + 1) = c_196 s (4 * a2 + 1) := (congrArg ((up c_266 s (a2 + 24) 0) s) (show 4 * k9 + 1 = 4 * a2 + 1 from by omega)).trans ((up_n (by omega)).trans (hid kn_285))
                  have kn_287 : Hid (c_252 s (4 * a2 + 2) = c_228 s (4 * a2 + 2)) := hF_254 s (4 * a2 + 2) (by omega)
                  have kn_288 : Hid (c_266 s (4 * a2 + 2) = c_228 s (4 * a2 + 2)) := (hF_268 s (4 * a2 + 2) (by omega)).trans (hid kn_287)
                  have h_289 : (up c_266 s (a2 + 24) 0) s (4 * k9 + 2) = c_228 s (4 * a2 + 2) := (congrArg ((up c_266 s (a2 + 24) 0) s) (show 4 * k9 + 2 = 4 * a2 + 2 from by omega)).trans ((up_n (by omega)).trans (hid kn_288))
                  have h_290 : (up c_266 s (a2 + 24) 0) s (4 * k9 + 3) = c_266 s (4 * a2 + 3) := (congrArg ((up c_266 s (a2 + 24) 0) s) (show 4 * k9 + 3 = 4 * a2 + 3 from by omega)).trans (up_n (by omega))
                  omega
                by_cases e_291 : k9 = a3
                · skip
                  have kn_292 : Hid (c_168 s (4 * a3) = c_158 s (4 * a3)) := hF_170 s (4 * a3) (by omega)
                  have kn_293 : Hid (c_186 s (4 * a3) = c_158 s (4 * a3)) := (hF_188 s (4 * a3) (by omega)).trans (hid kn_292)
                  have kn_294 : Hid (c_196 s (4 * a3) = c_158 s (4 * a3)) := (hF_198 s (4 * a3) (by omega)).trans (hid kn_293)
                  have kn_295 : Hid (c_216 s (4 * a3) = c_158 s (4 * a3)) := (hF_218 s (4 * a3) (by omega)).trans (hid kn_294)
                  have kn_296 : Hid (c_228 s (4 * a3) = c_158 s (4 * a3)) := (hF_230 s (4 * a3) (by omega)).trans (hid kn_295)
                  have kn_297 : Hid (c_252 s (4 * a3) = c_158 s (4 * a3)) := (hF_254 s (4 * a3) (by omega)).trans (hid kn_296)
                  have kn_298 : Hid (c_266 s (4 * a3) = c_158 s (4 * a3)) := (hF_268 s (4 * a3) (by omega)).trans (hid kn_297)
                  have h_299 : (up c_266 s (a2 + 24) 0) s (4 * k9) = c_158 s (4 * a3) := (congrArg ((up c_266 s (a2 + 24) 0) s) (show 4 * k9 = 4 * a3 from by omega)).trans ((up_n (by omega)).trans (hid kn_298))
                  have kn_300 : Hid (c_196 s (4 * a3 + 1) = c_186 s (4 * a3 + 1)) := hF_198 s (4 * a3 + 1) (by omega)
                  have kn_301 : Hid (c_216 s (4 * a3 + 1) = c_186 s (4 * a3 + 1)) := (hF_218 s (4 * a3 + 1) (by omega)).trans (hid kn_300)
                  have kn_302 : Hid (c_228 s (4 * a3 + 1) = c_186 s (4 * a3 + 1)) := (hF_230 s (4 * a3 + 1) (by omega)).trans (hid kn_301)
                  have kn_303 : Hid (c_252 s (4 * a3 + 1) = c_186 s (4 * a3 + 1)) := (hF_254 s (4 * a3 + 1) (by omega)).trans (hid kn_302)
                  have kn_304 : Hid (c_266 s (4 * a3 + 1) = c_186 s (4 * a3 + 1)) := (hF_268 s (4 * a3 + 1) (by omega)).trans (hid kn_303)
                  have h_305 : (up c_266 s (a2 + 24) 0) s (4 * k9 + 1) = c_186 s (4 * a3 + 1) := (congrArg ((up c_266 s (a2 + 24) 0) s) (show 4 * k9 + 1 = 4 * a3 + 1 from by omega)).trans ((up_n (by omega)).trans (hid kn_304))
                  have kn_306 : Hid (c_228 s (4 * a3 + 2) = c_216 s (4 * a3 + 2)) := hF_230 s (4 * a3 + 2) (by omega)
                  have kn_307 : Hid (c_252 s (4 * a3 + 2) = c_216 s (4 * a3 + 2)) := (hF_254 s (4 * a3 + 2) (by omega)).trans (hid kn_306)
                  have kn_308 : Hid (c_266 s (4 * a3 + 2) = c_216 s (4 * a3 + 2)) := (hF_268 s (4 * a3 + 2) (by omega)).trans (hid kn_307)
                  have h_309 : (up c_266 s (a2 + 24) 0) s (4 * k9 + 2) = c_216 s (4 * a3 + 2) := (congrArg ((up c_266 s (a2 + 24) 0) s) (show 4 * k9 + 2 = 4 * a3 + 2 from by omega)).trans ((up_n (by omega)).trans (hid kn_308))
                  have kn_310 : Hid (c_266 s (4 * a3 + 3) = c_252 s (4 * a3 + 3)) := hF_268 s (4 * a3 + 3) (by omega)
                  have h_311 : (up c_266 s (a2 + 24) 0) s (4 * k9 + 3) = c_252 s (4 * a3 + 3) := (congrArg ((up c_266 s (a2 + 24) 0) s) (show 4 * k9 + 3 = 4 * a3 + 3 from by omega)).trans ((up_n (by omega)).trans (hid kn_310))
                  omega
                by_cases e_312 : k9 = a4
                · skip
                  have kn_313 : Hid (c_186 s (4 * a4) = c_168 s (4 * a4)) := hF_188 s (4 * a4) (by omega)
                  have kn_314 : Hid (c_196 s (4 * a4) = c_168 s (4 * a4)) := (hF_198 s (4 * a4) (by omega)).trans (hid kn_313)
                  have kn_315 : Hid (c_216 s (4 * a4) = c_168 s (4 * a4)) := (hF_218 s (4 * a4) (by omega)).trans (hid kn_314)
                  have kn_316 : Hid (c_228 s (4 * a4) = c_168 s (4 * a4)) := (hF_230 s (4 * a4) (by omega)).trans (hid kn_315)
                  have kn_317 : Hid (c_252 s (4 * a4) = c_168 s (4 * a4)) := (hF_254 s (4 * a4) (by omega)).trans (hid kn_316)
                  have kn_318 : Hid (c_266 s (4 * a4) = c_168 s (4 * a4)) := (hF_268 s (4 * a4) (by omega)).trans (hid kn_317)
                  have h_319 : (up c_266 s (a2 + 24) 0) s (4 * k9) = c_168 s (4 * a4) := (congrArg ((up c_266 s (a2 + 24) 0) s) (show 4 * k9 = 4 * a4 from by omega)).trans ((up_n (by omega)).trans (hid kn_318))
                  have kn_320 : Hid (c_216 s (4 * a4 + 1) = c_196 s (4 * a4 + 1)) := hF_218 s (4 * a4 + 1) (by omega)
                  have kn_321 : Hid (c_228 s (4 * a4 + 1) = c_196 s (4 * a4 + 1)) := (hF_230 s (4 * a4 + 1) (by omega)).trans (hid kn_320)
                  have kn_322 : Hid (c_252 s (4 * a4 + 1) = c_196 s (4 * a4 + 1)) := (hF_254 s (4 * a4 + 1) (by omega)).trans (hid kn_321)
                  have kn_323 : Hid (c_266 s (4 * a4 + 1) = c_196 s (4 * a4 + 1)) := (hF_268 s (4 * a4 + 1) (by omega)).trans (hid kn_322)
                  have h_324 : (up c_266 s (a2 + 24) 0) s (4 * k9 + 1) = c_196 s (4 * a4 + 1) := (congrArg ((up c_266 s (a2 + 24) 0) s) (show 4 * k9 + 1 = 4 * a4 + 1 from by omega)).trans ((up_n (by omega)).trans (hid kn_323))
                  have kn_325 : Hid (c_252 s (4 * a4 + 2) = c_228 s (4 * a4 + 2)) := hF_254 s (4 * a4 + 2) (by omega)
                  have kn_326 : Hid (c_266 s (4 * a4 + 2) = c_228 s (4 * a4 + 2)) := (hF_268 s (4 * a4 + 2) (by omega)).trans (hid kn_325)
                  have h_327 : (up c_266 s (a2 + 24) 0) s (4 * k9 + 2) = c_228 s (4 * a4 + 2) := (congrArg ((up c_266 s (a2 + 24) 0) s) (show 4 * k9 + 2 = 4 * a4 + 2 from by omega)).trans ((up_n (by omega)).trans (hid kn_326))
                  have h_328 : (up c_266 s (a2 + 24) 0) s (4 * k9 + 3) = c_266 s (4 * a4 + 3) := (congrArg ((up c_266 s (a2 + 24) 0) s) (show 4 * k9 + 3 = 4 * a4 + 3 from by omega)).trans (up_n (by omega))
                  omega
                have h_329 := iv_r hI s (4 * k9) hj9 (by omega)
                have h_330 := ir_s_g hI hs (j := 4 * k9) (by omega)
                have kn_331 : Hid (c_158 s (4 * k9) = c s (4 * k9)) := hF_160 s (4 * k9) (by omega)
                have kn_332 : Hid (c_168 s (4 * k9) = c s (4 * k9)) := (hF_170 s (4 * k9) (by omega)).trans (hid kn_331)
                have kn_333 : Hid (c_186 s (4 * k9) = c s (4 * k9)) := (hF_188 s (4 * k9) (by omega)).trans (hid kn_332)
                have kn_334 : Hid (c_196 s (4 * k9) = c s (4 * k9)) := (hF_198 s (4 * k9) (by omega)).trans (hid kn_333)
                have kn_335 : Hid (c_216 s (4 * k9) = c s (4 * k9)) := (hF_218 s (4 * k9) (by omega)).trans (hid kn_334)
                have kn_336 : Hid (c_228 s (4 * k9) = c s (4 * k9)) := (hF_230 s (4 * k9) (by omega)).trans (hid kn_335)
                have kn_337 : Hid (c_252 s (4 * k9) = c s (4 * k9)) := (hF_254 s (4 * k9) (by omega)).trans (hid kn_336)
                have kn_338 : Hid (c_266 s (4 * k9) = c s (4 * k9)) := (hF_268 s (4 * k9) (by omega)).trans (hid kn_337)
                have h_339 : (up c_266 s (a2 + 24) 0) s (4 * k9) = c s (4 * k9) := ((up_n (by omega)).trans (hid kn_338))
                have h_340 := ir_s_g hI hs (j := 4 * k9 + 1) (by omega)
                have kn_341 : Hid (c_158 s (4 * k9 + 1) = c s (4 * k9 + 1)) := hF_160 s (4 * k9 + 1) (by omega)
                have kn_342 : Hid (c_168 s (4 * k9 + 1) = c s (4 * k9 + 1)) := (hF_170 s (4 * k9 + 1) (by omega)).trans (hid kn_341)
                have kn_343 : Hid (c_186 s (4 * k9 + 1) = c s (4 * k9 + 1)) := (hF_188 s (4 * k9 + 1) (by omega)).trans (hid kn_342)
                have kn_344 : Hid (c_196 s (4 * k9 + 1) = c s (4 * k9 + 1)) := (hF_198 s (4 * k9 + 1) (by omega)).trans (hid kn_343)
                have kn_345 : Hid (c_216 s (4 * k9 + 1) = c s (4 * k9 + 1)) := (hF_218 s (4 * k9 + 1) (by omega)).trans (hid kn_344)
                have kn_346 : Hid (c_228 s (4 * k9 + 1) = c s (4 * k9 + 1)) := (hF_230 s (4 * k9 + 1) (by omega)).trans (hid kn_345)
                have kn_347 : Hid (c_252 s (4 * k9 + 1) = c s (4 * k9 + 1)) := (hF_254 s (4 * k9 + 1) (by omega)).trans (hid kn_346)
                have kn_348 : Hid (c_266 s (4 * k9 + 1) = c s (4 * k9 + 1)) := (hF_268 s (4 * k9 + 1) (by omega)).trans (hid kn_347)
                have h_349 : (up c_266 s (a2 + 24) 0) s (4 * k9 + 1) = c s (4 * k9 + 1) := ((up_n (by omega)).trans (hid kn_348))
                have h_350 := ir_s_g hI hs (j := 4 * k9 + 2) (by omega)
                have kn_351 : Hid (c_158 s (4 * k9 + 2) = c s (4 * k9 + 2)) := hF_160 s (4 * k9 + 2) (by omega)
                have kn_352 : Hid (c_168 s (4 * k9 + 2) = c s (4 * k9 + 2)) := (hF_170 s (4 * k9 + 2) (by omega)).trans (hid kn_351)
                have kn_353 : Hid (c_186 s (4 * k9 + 2) = c s (4 * k9 + 2)) := (hF_188 s (4 * k9 + 2) (by omega)).trans (hid kn_352)
                have kn_354 : Hid (c_196 s (4 * k9 + 2) = c s (4 * k9 + 2)) := (hF_198 s (4 * k9 + 2) (by omega)).trans (hid kn_353)
                have kn_355 : Hid (c_216 s (4 * k9 + 2) = c s (4 * k9 + 2)) := (hF_218 s (4 * k9 + 2) (by omega)).trans (hid kn_354)
                have kn_356 : Hid (c_228 s (4 * k9 + 2) = c s (4 * k9 + 2)) := (hF_230 s (4 * k9 + 2) (by omega)).trans (hid kn_355)
                have kn_357 : Hid (c_252 s (4 * k9 + 2) = c s (4 * k9 + 2)) := (hF_254 s (4 * k9 + 2) (by omega)).trans (hid kn_356)
                have kn_358 : Hid (c_266 s (4 * k9 + 2) = c s (4 * k9 + 2)) := (hF_268 s (4 * k9 + 2) (by omega)).trans (hid kn_357)
                have h_359 : (up c_266 s (a2 + 24) 0) s (4 * k9 + 2) = c s (4 * k9 + 2) := ((up_n (by omega)).trans (hid kn_358))
                have h_360 := ir_s_g hI hs (j := 4 * k9 + 3) (by omega)
                have kn_361 : Hid (c_158 s (4 * k9 + 3) = c s (4 * k9 + 3)) := hF_160 s (4 * k9 + 3) (by omega)
                have kn_362 : Hid (c_168 s (4 * k9 + 3) = c s (4 * k9 + 3)) := (hF_170 s (4 * k9 + 3) (by omega)).trans (hid kn_361)
                have kn_363 : Hid (c_186 s (4 * k9 + 3) = c s (4 * k9 + 3)) := (hF_188 s (4 * k9 + 3) (by omega)).trans (hid kn_362)
                have kn_364 : Hid (c_196 s (4 * k9 + 3) = c s (4 * k9 + 3)) := (hF_198 s (4 * k9 + 3) (by omega)).trans (hid kn_363)
                have kn_365 : Hid (c_216 s (4 * k9 + 3) = c s (4 * k9 + 3)) := (hF_218 s (4 * k9 + 3) (by omega)).trans (hid kn_364)
                have kn_366 : Hid (c_228 s (4 * k9 + 3) = c s (4 * k9 + 3)) := (hF_230 s (4 * k9 + 3) (by omega)).trans (hid kn_365)
                have kn_367 : Hid (c_252 s (4 * k9 + 3) = c s (4 * k9 + 3)) := (hF_254 s (4 * k9 + 3) (by omega)).trans (hid kn_366)
                have kn_368 : Hid (c_266 s (4 * k9 + 3) = c s (4 * k9 + 3)) := (hF_268 s (4 * k9 + 3) (by omega)).trans (hid kn_367)
                have h_369 : (up c_266 s (a2 + 24) 0) s (4 * k9 + 3) = c s (4 * k9 + 3) := ((up_n (by omega)).trans (hid kn_368))
                omega
              have hI_370 := iv_close hI_272 hr_273
              exact K (up c_266 s (a2 + 24) 0) 1 hI_370 (fun a j hm => (up_b (by omega)).trans ((hF_268 a j (by omega)).trans ((hF_254 a j (by omega)).trans ((hF_230 a j (by omega)).trans ((hF_218 a j (by omega)).trans ((hF_198 a j (by omega)).trans ((hF_188 a j (by omega)).trans ((hF_170 a j (by omega)).trans (hF_160 a j (by omega)))))))))) ⟨by decide, by decide⟩
      · refine v_ic_ne_f (t := 19) rfl (by decide) (by omega) ?_
        refine q_iconst rfl ?_
        refine v_zret rfl rfl (by omega) ?_
        have hr_371 : ∀ j : Int, rs s j → c s j + c s (j + 1) + c s (j + 2) + c s (j + 3) ≤ 9999 := by
          intro j9 hj9
          obtain ⟨k9, rfl, hk9⟩ := rs_s hs hj9
          by_cases e_372 : k9 = a2
          · skip
            have h_373 : c s (4 * k9) = c s (4 * a2) := (congrArg (c s) (show 4 * k9 = 4 * a2 from by omega))
            have h_374 : c s (4 * k9 + 1) = c s (4 * a2 + 1) := (congrArg (c s) (show 4 * k9 + 1 = 4 * a2 + 1 from by omega))
            have h_375 : c s (4 * k9 + 2) = c s (4 * a2 + 2) := (congrArg (c s) (show 4 * k9 + 2 = 4 * a2 + 2 from by omega))
            have h_376 : c s (4 * k9 + 3) = c s (4 * a2 + 3) := (congrArg (c s) (show 4 * k9 + 3 = 4 * a2 + 3 from by omega))
            omega
          by_cases e_377 : k9 = a3
          · skip
            have h_378 : c s (4 * k9) = c s (4 * a3) := (congrArg (c s) (show 4 * k9 = 4 * a3 from by omega))
            have h_379 : c s (4 * k9 + 1) = c s (4 * a3 + 1) := (congrArg (c s) (show 4 * k9 + 1 = 4 * a3 + 1 from by omega))
            have h_380 : c s (4 * k9 + 2) = c s (4 * a3 + 2) := (congrArg (c s) (show 4 * k9 + 2 = 4 * a3 + 2 from by omega))
            have h_381 : c s (4 * k9 + 3) = c s (4 * a3 + 3) := (congrArg (c s) (show 4 * k9 + 3 = 4 * a3 + 3 from by omega))
            omega
          by_cases e_382 : k9 = a4
          · skip
            have h_383 : c s (4 * k9) = c s (4 * a4) := (congrArg (c s) (show 4 * k9 = 4 * a4 from by omega))
            have h_384 : c s (4 * k9 + 1) = c s (4 * a4 + 1) := (congrArg (c s) (show 4 * k9 + 1 = 4 * a4 + 1 from by omega))
            have h_385 : c s (4 * k9 + 2) = c s (4 * a4 + 2) := (congrArg (c s) (show 4 * k9 + 2 = 4 * a4 + 2 from by omega))
            have h_386 : c s (4 * k9 + 3) = c s (4 * a4 + 3) := (congrArg (c s) (show 4 * k9 + 3 = 4 * a4 + 3 from by omega))
            omega
          have h_387 := iv_r hI s (4 * k9) hj9 (by omega)
          have h_388 := ir_s_g hI hs (j := 4 * k9) (by omega)
          have h_389 : c s (4 * k9) = c s (4 * k9) := rfl
          have h_390 := ir_s_g hI hs (j := 4 * k9 + 1) (by omega)
          have h_391 : c s (4 * k9 + 1) = c s (4 * k9 + 1) := rfl
          have h_392 := ir_s_g hI hs (j := 4 * k9 + 2) (by omega)
          have h_393 : c s (4 * k9 + 2) = c s (4 * k9 + 2) := rfl
          have h_394 := ir_s_g hI hs (j := 4 * k9 + 3) (by omega)
          have h_395 : c s (4 * k9 + 3) = c s (4 * k9 + 3) := rfl
          omega
        have hI_396 := iv_close hIo hr_371
        exact K c 0 hI_396 (fun a j hm => rfl) ⟨by decide, by decide⟩

