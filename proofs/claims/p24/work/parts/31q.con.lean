/-! ===== contracts 17 ===== -/
set_option maxRecDepth 100000 in
set_option maxHeartbeats 4000000 in
theorem s_194 {sc : List Int32} {d P Q : Nat} {c : ME} {a1 : Int} {a2 : Int} {a3 : Int} {Z : AR → Prop} (hI : Iv 0 (-1) P Q c) (ha1 : 0 ≤ a1 ∧ a1 ≤ 5) (ha2 : 0 ≤ a2 ∧ a2 ≤ 5) (ha3 : 0 ≤ a3 ∧ a3 ≤ 99999) (K : ∀ (c2 : ME) (y : Int), Iv 0 (-1) P Q c2 → (∀ (a : Nat) (j : Int), ¬ (a = 59) → c2 a j = c a j) → 0 ≤ y ∧ y ≤ 1 → Z (.inl (some (vi y)), Wd P Q P P c2, 0, 0)) : Wp sc (d + 8) 194 0 [(0, .ref 41), (1, vi a1), (2, vi a2), (3, vi a3)] [] (Wd P Q P P c) 0 0 Z := by
  have hP := iv_P hI
  have hQ := iv_Q hI
  have hIo : Iv 59 (-1) P Q c := iv_open hI
  have hsum_1 := ir_59_r hI (by decide) (j := a1) (by omega)
  have h_2 := ir_59_g hI (j := 4 * a1) (by omega)
  have h_3 := ir_59_g hI (j := 4 * a1 + 1) (by omega)
  have h_4 := ir_59_g hI (j := 4 * a1 + 2) (by omega)
  have h_5 := ir_59_g hI (j := 4 * a1 + 3) (by omega)
  have hsum_6 := ir_59_r hI (by decide) (j := a2) (by omega)
  have h_7 := ir_59_g hI (j := 4 * a2) (by omega)
  have h_8 := ir_59_g hI (j := 4 * a2 + 1) (by omega)
  have h_9 := ir_59_g hI (j := 4 * a2 + 2) (by omega)
  have h_10 := ir_59_g hI (j := 4 * a2 + 3) (by omega)
  refine q_iload_n rfl rfl ?_
  by_cases h_11 : a3 = 0
  · refine v_if_eq_t (t := 31) rfl (by decide) (by omega) ?_
    refine q_iconst rfl ?_
    refine v_zret rfl rfl (by omega) ?_
    have hr_12 : ∀ j : Int, rs 59 j → c 59 j + c 59 (j + 1) + c 59 (j + 2) + c 59 (j + 3) ≤ 9999 := by
      intro j9 hj9
      obtain ⟨k9, rfl, hk9⟩ := rs_59 hj9
      by_cases e_13 : k9 = a1
      · skip
        have h_14 : c 59 (4 * k9) = c 59 (4 * a1) := (congrArg (c 59) (show 4 * k9 = 4 * a1 from by omega))
        have h_15 : c 59 (4 * k9 + 1) = c 59 (4 * a1 + 1) := (congrArg (c 59) (show 4 * k9 + 1 = 4 * a1 + 1 from by omega))
        have h_16 : c 59 (4 * k9 + 2) = c 59 (4 * a1 + 2) := (congrArg (c 59) (show 4 * k9 + 2 = 4 * a1 + 2 from by omega))
        have h_17 : c 59 (4 * k9 + 3) = c 59 (4 * a1 + 3) := (congrArg (c 59) (show 4 * k9 + 3 = 4 * a1 + 3 from by omega))
        omega
      by_cases e_18 : k9 = a2
      · skip
        have h_19 : c 59 (4 * k9) = c 59 (4 * a2) := (congrArg (c 59) (show 4 * k9 = 4 * a2 from by omega))
        have h_20 : c 59 (4 * k9 + 1) = c 59 (4 * a2 + 1) := (congrArg (c 59) (show 4 * k9 + 1 = 4 * a2 + 1 from by omega))
        have h_21 : c 59 (4 * k9 + 2) = c 59 (4 * a2 + 2) := (congrArg (c 59) (show 4 * k9 + 2 = 4 * a2 + 2 from by omega))
        have h_22 : c 59 (4 * k9 + 3) = c 59 (4 * a2 + 3) := (congrArg (c 59) (show 4 * k9 + 3 = 4 * a2 + 3 from by omega))
        omega
      have h_23 := iv_r hI 59 (4 * k9) hj9 (by omega)
      have h_24 := ir_59_g hI (j := 4 * k9) (by omega)
      have h_25 : c 59 (4 * k9) = c 59 (4 * k9) := rfl
      have h_26 := ir_59_g hI (j := 4 * k9 + 1) (by omega)
      have h_27 : c 59 (4 * k9 + 1) = c 59 (4 * k9 + 1) := rfl
      have h_28 := ir_59_g hI (j := 4 * k9 + 2) (by omega)
      have h_29 : c 59 (4 * k9 + 2) = c 59 (4 * k9 + 2) := rfl
      have h_30 := ir_59_g hI (j := 4 * k9 + 3) (by omega)
      have h_31 : c 59 (4 * k9 + 3) = c 59 (4 * k9 + 3) := rfl
      omega
    have hI_32 := iv_close hIo hr_12
    exact K c 0 hI_32 (fun a j hm => rfl) ⟨by decide, by decide⟩
  · refine v_if_eq_f (t := 31) rfl (by decide) (by omega) ?_
    refine q_aload_n rfl rfl ?_
    refine q_iload_n rfl rfl ?_
    refine v_cv rfl rfl rfl rfl (by decide) ⟨⟨rfl, rfl⟩, by decide, rfl⟩ (Nat.le_of_ble_eq_true rfl) (Nat.le_of_ble_eq_true rfl) (s_187 (v1 := c 59 (4 * a1)) (v2 := c 59 (4 * a1 + 1)) (v3 := c 59 (4 * a1 + 2)) (v4 := c 59 (4 * a1 + 3)) (r := c 59 (4 * a1 + 1) + c 59 (4 * a1 + 2) + c 59 (4 * a1 + 3) + c 59 (4 * a1)) (a1 := a1) hIo (show 0 ≤ a1 ∧ a1 ≤ 5 from by omega) (rfl) (rfl) (rfl) (rfl) (by omega) ?_)
    refine bk_inl ?_
    refine q_iload_n rfl rfl ?_
    by_cases h_33 : c 59 (4 * a1 + 1) + c 59 (4 * a1 + 2) + c 59 (4 * a1 + 3) + c 59 (4 * a1) < a3
    · refine v_ic_lt_t (t := 31) rfl (by decide) (by omega) ?_
      refine q_iconst rfl ?_
      refine v_zret rfl rfl (by omega) ?_
      have hr_34 : ∀ j : Int, rs 59 j → c 59 j + c 59 (j + 1) + c 59 (j + 2) + c 59 (j + 3) ≤ 9999 := by
        intro j9 hj9
        obtain ⟨k9, rfl, hk9⟩ := rs_59 hj9
        by_cases e_35 : k9 = a1
        · skip
          have h_36 : c 59 (4 * k9) = c 59 (4 * a1) := (congrArg (c 59) (show 4 * k9 = 4 * a1 from by omega))
          have h_37 : c 59 (4 * k9 + 1) = c 59 (4 * a1 + 1) := (congrArg (c 59) (show 4 * k9 + 1 = 4 * a1 + 1 from by omega))
          have h_38 : c 59 (4 * k9 + 2) = c 59 (4 * a1 + 2) := (congrArg (c 59) (show 4 * k9 + 2 = 4 * a1 + 2 from by omega))
          have h_39 : c 59 (4 * k9 + 3) = c 59 (4 * a1 + 3) := (congrArg (c 59) (show 4 * k9 + 3 = 4 * a1 + 3 from by omega))
          omega
        by_cases e_40 : k9 = a2
        · skip
          have h_41 : c 59 (4 * k9) = c 59 (4 * a2) := (congrArg (c 59) (show 4 * k9 = 4 * a2 from by omega))
          have h_42 : c 59 (4 * k9 + 1) = c 59 (4 * a2 + 1) := (congrArg (c 59) (show 4 * k9 + 1 = 4 * a2 + 1 from by omega))
          have h_43 : c 59 (4 * k9 + 2) = c 59 (4 * a2 + 2) := (congrArg (c 59) (show 4 * k9 + 2 = 4 * a2 + 2 from by omega))
          have h_44 : c 59 (4 * k9 + 3) = c 59 (4 * a2 + 3) := (congrArg (c 59) (show 4 * k9 + 3 = 4 * a2 + 3 from by omega))
          omega
        have h_45 := iv_r hI 59 (4 * k9) hj9 (by omega)
        have h_46 := ir_59_g hI (j := 4 * k9) (by omega)
        have h_47 : c 59 (4 * k9) = c 59 (4 * k9) := rfl
        have h_48 := ir_59_g hI (j := 4 * k9 + 1) (by omega)
        have h_49 : c 59 (4 * k9 + 1) = c 59 (4 * k9 + 1) := rfl
        have h_50 := ir_59_g hI (j := 4 * k9 + 2) (by omega)
        have h_51 : c 59 (4 * k9 + 2) = c 59 (4 * k9 + 2) := rfl
        have h_52 := ir_59_g hI (j := 4 * k9 + 3) (by omega)
        have h_53 : c 59 (4 * k9 + 3) = c 59 (4 * k9 + 3) := rfl
        omega
      have hI_54 := iv_close hIo hr_34
      exact K c 0 hI_54 (fun a j hm => rfl) ⟨by decide, by decide⟩
    · refine v_ic_lt_f (t := 31) rfl (by decide) (by omega) ?_
      refine q_iload_n rfl rfl ?_
      refine q_iload_n rfl rfl ?_
      by_cases h_55 : a1 = a2
      · refine v_ic_eq_t (t := 31) rfl (by decide) (by omega) ?_
        refine q_iconst rfl ?_
        refine v_zret rfl rfl (by omega) ?_
        have hr_56 : ∀ j : Int, rs 59 j → c 59 j + c 59 (j + 1) + c 59 (j + 2) + c 59 (j + 3) ≤ 9999 := by
          intro j9 hj9
          obtain ⟨k9, rfl, hk9⟩ := rs_59 hj9
          by_cases e_57 : k9 = a1
          · skip
            have h_58 : c 59 (4 * k9) = c 59 (4 * a1) := (congrArg (c 59) (show 4 * k9 = 4 * a1 from by omega))
            have h_59 : c 59 (4 * k9 + 1) = c 59 (4 * a1 + 1) := (congrArg (c 59) (show 4 * k9 + 1 = 4 * a1 + 1 from by omega))
            have h_60 : c 59 (4 * k9 + 2) = c 59 (4 * a1 + 2) := (congrArg (c 59) (show 4 * k9 + 2 = 4 * a1 + 2 from by omega))
            have h_61 : c 59 (4 * k9 + 3) = c 59 (4 * a1 + 3) := (congrArg (c 59) (show 4 * k9 + 3 = 4 * a1 + 3 from by omega))
            omega
          by_cases e_62 : k9 = a2
          · skip
            have h_63 : c 59 (4 * k9) = c 59 (4 * a2) := (congrArg (c 59) (show 4 * k9 = 4 * a2 from by omega))
            have h_64 : c 59 (4 * k9 + 1) = c 59 (4 * a2 + 1) := (congrArg (c 59) (show 4 * k9 + 1 = 4 * a2 + 1 from by omega))
            have h_65 : c 59 (4 * k9 + 2) = c 59 (4 * a2 + 2) := (congrArg (c 59) (show 4 * k9 + 2 = 4 * a2 + 2 from by omega))
            have h_66 : c 59 (4 * k9 + 3) = c 59 (4 * a2 + 3) := (congrArg (c 59) (show 4 * k9 + 3 = 4 * a2 + 3 from by omega))
            omega
          have h_67 := iv_r hI 59 (4 * k9) hj9 (by omega)
          have h_68 := ir_59_g hI (j := 4 * k9) (by omega)
          have h_69 : c 59 (4 * k9) = c 59 (4 * k9) := rfl
          have h_70 := ir_59_g hI (j := 4 * k9 + 1) (by omega)
          have h_71 : c 59 (4 * k9 + 1) = c 59 (4 * k9 + 1) := rfl
          have h_72 := ir_59_g hI (j := 4 * k9 + 2) (by omega)
          have h_73 : c 59 (4 * k9 + 2) = c 59 (4 * k9 + 2) := rfl
          have h_74 := ir_59_g hI (j := 4 * k9 + 3) (by omega)
          have h_75 : c 59 (4 * k9 + 3) = c 59 (4 * k9 + 3) := rfl
          omega
        have hI_76 := iv_close hIo hr_56
        exact K c 0 hI_76 (fun a j hm => rfl) ⟨by decide, by decide⟩
      · refine v_ic_eq_f (t := 31) rfl (by decide) (by omega) ?_
        refine q_aload_n rfl rfl ?_
        refine q_iload_n rfl rfl ?_
        refine v_cv rfl rfl rfl rfl (by decide) ⟨⟨rfl, rfl⟩, by decide, rfl⟩ (Nat.le_of_ble_eq_true rfl) (Nat.le_of_ble_eq_true rfl) (s_187 (v1 := c 59 (4 * a2)) (v2 := c 59 (4 * a2 + 1)) (v3 := c 59 (4 * a2 + 2)) (v4 := c 59 (4 * a2 + 3)) (r := c 59 (4 * a2 + 1) + c 59 (4 * a2 + 2) + c 59 (4 * a2 + 3) + c 59 (4 * a2)) (a1 := a2) hIo (show 0 ≤ a2 ∧ a2 ≤ 5 from by omega) (rfl) (rfl) (rfl) (rfl) (by omega) ?_)
        refine bk_inl ?_
        refine q_iload_n rfl rfl ?_
        refine v_iadd (v := a3 + c 59 (4 * a2 + 1) + c 59 (4 * a2 + 2) + c 59 (4 * a2 + 3) + c 59 (4 * a2)) rfl (by omega) ?_
        refine v_sip rfl (by decide) ?_
        by_cases h_77 : a3 + c 59 (4 * a2 + 1) + c 59 (4 * a2 + 2) + c 59 (4 * a2 + 3) + c 59 (4 * a2) ≤ 9999
        · refine v_ic_le_t (t := 33) rfl (by decide) (by omega) ?_
          refine q_iload_n rfl rfl ?_
          refine q_istore rfl (by decide) ?_
          refine q_iconst rfl ?_
          refine q_istore rfl (by decide) ?_
          refine q_iload rfl rfl ?_
          refine q_iconst rfl ?_
          refine v_ic_ge_f (t := 124) rfl (by decide) (by decide) ?_
          refine q_aload_n rfl rfl ?_
          refine v_gr (t := 59) rfl rfl rfl (by decide) rfl ?_
          refine q_iconst rfl ?_
          refine q_iload_n rfl rfl ?_
          refine v_imul (v := 4 * a1) rfl (by omega) ?_
          refine q_iload rfl rfl ?_
          refine v_iadd (v := 4 * a1) rfl (by omega) ?_
          refine v_ia (v := c 59 (4 * a1)) rfl rfl (by decide) (by decide) (by omega) rfl ?_
          refine q_iload rfl rfl ?_
          by_cases h_78 : c 59 (4 * a1) ≥ a3
          · refine v_ic_ge_t (t := 75) rfl (by decide) (by omega) ?_
            refine q_iload rfl rfl ?_
            refine q_istore rfl (by decide) ?_
            refine q_aload_n rfl rfl ?_
            refine v_gr (t := 59) rfl rfl rfl (by decide) rfl ?_
            refine q_iconst rfl ?_
            refine q_iload_n rfl rfl ?_
            refine v_imul (v := 4 * a1) rfl (by omega) ?_
            refine q_iload rfl rfl ?_
            refine v_iadd (v := 4 * a1) rfl (by omega) ?_
            refine q_dup2 rfl ⟨rfl, rfl⟩ ?_
            refine v_ia (v := c 59 (4 * a1)) rfl rfl (by decide) (by decide) (by omega) rfl ?_
            refine q_iload rfl rfl ?_
            refine v_isub (v := c 59 (4 * a1) - a3) rfl (by omega) ?_
            refine v_is rfl rfl (by decide) (by decide) (by omega) ?_
            refine q_aload_n rfl rfl ?_
            refine v_gr (t := 59) rfl rfl rfl (by decide) rfl ?_
            refine q_iconst rfl ?_
            refine q_iload_n rfl rfl ?_
            refine v_imul (v := 4 * a2) rfl (by omega) ?_
            refine q_iload rfl rfl ?_
            refine v_iadd (v := 4 * a2) rfl (by omega) ?_
            refine q_dup2 rfl ⟨rfl, rfl⟩ ?_
            refine v_ia (v := c 59 (4 * a2)) rfl rfl (by decide) (by decide) (by omega) (up_n (by omega)) ?_
            refine q_iload rfl rfl ?_
            refine v_iadd (v := a3 + c 59 (4 * a2)) rfl (by omega) ?_
            refine v_is rfl rfl (by decide) (by decide) (by omega) ?_
            refine q_iload rfl rfl ?_
            refine q_iload rfl rfl ?_
            refine v_isub (v := 0) rfl (by decide) ?_
            refine q_istore rfl (by decide) ?_
            refine v_iinc (v := 1) rfl rfl (by decide) (by decide) ?_
            refine Wp_ls [(5, vi 1), (4, vi 0), (6, vi a3), (0, .ref 41), (1, vi a1), (2, vi a2), (3, vi a3)] (lsub_cons rfl (lsub_cons rfl (lsub_cons rfl (lsub_cons rfl (lsub_cons rfl (lsub_cons rfl (lsub_cons rfl lsub_nil))))))) ?_
            refine q_goto (t := 39) rfl (by decide) ?_
            refine q_iload rfl rfl ?_
            refine q_iconst rfl ?_
            refine v_ic_ge_f (t := 124) rfl (by decide) (by decide) ?_
            refine q_aload_n rfl rfl ?_
            refine v_gr (t := 59) rfl rfl rfl (by decide) rfl ?_
            refine q_iconst rfl ?_
            refine q_iload_n rfl rfl ?_
            refine v_imul (v := 4 * a1) rfl (by omega) ?_
            refine q_iload rfl rfl ?_
            refine v_iadd (v := 4 * a1 + 1) rfl (by omega) ?_
            refine v_ia (v := c 59 (4 * a1 + 1)) rfl rfl (by decide) (by decide) (by omega) ((up_n (by omega)).trans (up_n (by omega))) ?_
            refine q_iload rfl rfl ?_
            refine v_ic_ge_t (t := 75) rfl (by decide) (by omega) ?_
            refine q_iload rfl rfl ?_
            refine q_istore rfl (by decide) ?_
            refine q_aload_n rfl rfl ?_
            refine v_gr (t := 59) rfl rfl rfl (by decide) rfl ?_
            refine q_iconst rfl ?_
            refine q_iload_n rfl rfl ?_
            refine v_imul (v := 4 * a1) rfl (by omega) ?_
            refine q_iload rfl rfl ?_
            refine v_iadd (v := 4 * a1 + 1) rfl (by omega) ?_
            refine q_dup2 rfl ⟨rfl, rfl⟩ ?_
            refine v_ia (v := c 59 (4 * a1 + 1)) rfl rfl (by decide) (by decide) (by omega) ((up_n (by omega)).trans (up_n (by omega))) ?_
            refine q_iload rfl rfl ?_
            refine v_isub (v := c 59 (4 * a1 + 1)) rfl (by omega) ?_
            refine v_is rfl rfl (by decide) (by decide) (by omega) ?_
            refine q_aload_n rfl rfl ?_
            refine v_gr (t := 59) rfl rfl rfl (by decide) rfl ?_
            refine q_iconst rfl ?_
            refine q_iload_n rfl rfl ?_
            refine v_imul (v := 4 * a2) rfl (by omega) ?_
            refine q_iload rfl rfl ?_
            refine v_iadd (v := 4 * a2 + 1) rfl (by omega) ?_
            refine q_dup2 rfl ⟨rfl, rfl⟩ ?_
            refine v_ia (v := c 59 (4 * a2 + 1)) rfl rfl (by decide) (by decide) (by omega) ((up_n (by omega)).trans ((up_n (by omega)).trans (up_n (by omega)))) ?_
            refine q_iload rfl rfl ?_
            refine v_iadd (v := c 59 (4 * a2 + 1)) rfl (by omega) ?_
            refine v_is rfl rfl (by decide) (by decide) (by omega) ?_
            refine q_iload rfl rfl ?_
            refine q_iload rfl rfl ?_
            refine v_isub (v := 0) rfl (by decide) ?_
            refine q_istore rfl (by decide) ?_
            refine v_iinc (v := 2) rfl rfl (by decide) (by decide) ?_
            refine q_goto (t := 39) rfl (by decide) ?_
            refine q_iload rfl rfl ?_
            refine q_iconst rfl ?_
            refine v_ic_ge_f (t := 124) rfl (by decide) (by decide) ?_
            refine q_aload_n rfl rfl ?_
            refine v_gr (t := 59) rfl rfl rfl (by decide) rfl ?_
            refine q_iconst rfl ?_
            refine q_iload_n rfl rfl ?_
            refine v_imul (v := 4 * a1) rfl (by omega) ?_
            refine q_iload rfl rfl ?_
            refine v_iadd (v := 4 * a1 + 2) rfl (by omega) ?_
            refine v_ia (v := c 59 (4 * a1 + 2)) rfl rfl (by decide) (by decide) (by omega) ((up_n (by omega)).trans ((up_n (by omega)).trans ((up_n (by omega)).trans (up_n (by omega))))) ?_
            refine q_iload rfl rfl ?_
            refine v_ic_ge_t (t := 75) rfl (by decide) (by omega) ?_
            refine q_iload rfl rfl ?_
            refine q_istore rfl (by decide) ?_
            refine q_aload_n rfl rfl ?_
            refine v_gr (t := 59) rfl rfl rfl (by decide) rfl ?_
            refine q_iconst rfl ?_
            refine q_iload_n rfl rfl ?_
            refine v_imul (v := 4 * a1) rfl (by omega) ?_
            refine q_iload rfl rfl ?_
            refine v_iadd (v := 4 * a1 + 2) rfl (by omega) ?_
            refine q_dup2 rfl ⟨rfl, rfl⟩ ?_
            refine v_ia (v := c 59 (4 * a1 + 2)) rfl rfl (by decide) (by decide) (by omega) ((up_n (by omega)).trans ((up_n (by omega)).trans ((up_n (by omega)).trans (up_n (by omega))))) ?_
            refine q_iload rfl rfl ?_
            refine v_isub (v := c 59 (4 * a1 + 2)) rfl (by omega) ?_
            refine v_is rfl rfl (by decide) (by decide) (by omega) ?_
            refine q_aload_n rfl rfl ?_
            refine v_gr (t := 59) rfl rfl rfl (by decide) rfl ?_
            refine q_iconst rfl ?_
            refine q_iload_n rfl rfl ?_
            refine v_imul (v := 4 * a2) rfl (by omega) ?_
            refine q_iload rfl rfl ?_
            refine v_iadd (v := 4 * a2 + 2) rfl (by omega) ?_
            refine q_dup2 rfl ⟨rfl, rfl⟩ ?_
            refine v_ia (v := c 59 (4 * a2 + 2)) rfl rfl (by decide) (by decide) (by omega) ((up_n (by omega)).trans ((up_n (by omega)).trans ((up_n (by omega)).trans ((up_n (by omega)).trans (up_n (by omega)))))) ?_
            refine q_iload rfl rfl ?_
            refine v_iadd (v := c 59 (4 * a2 + 2)) rfl (by omega) ?_
            refine v_is rfl rfl (by decide) (by decide) (by omega) ?_
            refine q_iload rfl rfl ?_
            refine q_iload rfl rfl ?_
            refine v_isub (v := 0) rfl (by decide) ?_
            refine q_istore rfl (by decide) ?_
            refine Wp_ls [(4, vi 0), (6, vi 0), (5, vi 2), (0, .ref 41), (1, vi a1), (2, vi a2), (3, vi a3)] (lsub_cons rfl (lsub_cons rfl (lsub_cons rfl (lsub_cons rfl (lsub_cons rfl (lsub_cons rfl (lsub_cons rfl lsub_nil))))))) ?_
            refine v_iinc (v := 3) rfl rfl (by decide) (by decide) ?_
            refine q_goto (t := 39) rfl (by decide) ?_
            refine q_iload rfl rfl ?_
            refine q_iconst rfl ?_
            refine v_ic_ge_f (t := 124) rfl (by decide) (by decide) ?_
            refine q_aload_n rfl rfl ?_
            refine v_gr (t := 59) rfl rfl rfl (by decide) rfl ?_
            refine q_iconst rfl ?_
            refine q_iload_n rfl rfl ?_
            refine v_imul (v := 4 * a1) rfl (by omega) ?_
            refine q_iload rfl rfl ?_
            refine v_iadd (v := 4 * a1 + 3) rfl (by omega) ?_
            refine v_ia (v := c 59 (4 * a1 + 3)) rfl rfl (by decide) (by decide) (by omega) ((up_n (by omega)).trans ((up_n (by omega)).trans ((up_n (by omega)).trans ((up_n (by omega)).trans ((up_n (by omega)).trans (up_n (by omega))))))) ?_
            refine q_iload rfl rfl ?_
            refine v_ic_ge_t (t := 75) rfl (by decide) (by omega) ?_
            refine q_iload rfl rfl ?_
            refine q_istore rfl (by decide) ?_
            refine q_aload_n rfl rfl ?_
            refine v_gr (t := 59) rfl rfl rfl (by decide) rfl ?_
            refine q_iconst rfl ?_
            refine q_iload_n rfl rfl ?_
            refine v_imul (v := 4 * a1) rfl (by omega) ?_
            refine q_iload rfl rfl ?_
            refine v_iadd (v := 4 * a1 + 3) rfl (by omega) ?_
            refine q_dup2 rfl ⟨rfl, rfl⟩ ?_
            refine v_ia (v := c 59 (4 * a1 + 3)) rfl rfl (by decide) (by decide) (by omega) ((up_n (by omega)).trans ((up_n (by omega)).trans ((up_n (by omega)).trans ((up_n (by omega)).trans ((up_n (by omega)).trans (up_n (by omega))))))) ?_
            refine q_iload rfl rfl ?_
            refine v_isub (v := c 59 (4 * a1 + 3)) rfl (by omega) ?_
            refine v_is rfl rfl (by decide) (by decide) (by omega) ?_
            refine q_aload_n rfl rfl ?_
            refine v_gr (t := 59) rfl rfl rfl (by decide) rfl ?_
            refine q_iconst rfl ?_
            refine q_iload_n rfl rfl ?_
            refine v_imul (v := 4 * a2) rfl (by omega) ?_
            refine q_iload rfl rfl ?_
            refine v_iadd (v := 4 * a2 + 3) rfl (by omega) ?_
            refine q_dup2 rfl ⟨rfl, rfl⟩ ?_
            refine v_ia (v := c 59 (4 * a2 + 3)) rfl rfl (by decide) (by decide) (by omega) ((up_n (by omega)).trans ((up_n (by omega)).trans ((up_n (by omega)).trans ((up_n (by omega)).trans ((up_n (by omega)).trans ((up_n (by omega)).trans (up_n (by omega)))))))) ?_
            refine q_iload rfl rfl ?_
            refine v_iadd (v := c 59 (4 * a2 + 3)) rfl (by omega) ?_
            refine v_is rfl rfl (by decide) (by decide) (by omega) ?_
            refine q_iload rfl rfl ?_
            refine q_iload rfl rfl ?_
            refine v_isub (v := 0) rfl (by decide) ?_
            refine q_istore rfl (by decide) ?_
            refine v_iinc (v := 4) rfl rfl (by decide) (by decide) ?_
            refine q_goto (t := 39) rfl (by decide) ?_
            refine q_iload rfl rfl ?_
            refine q_iconst rfl ?_
            refine v_ic_ge_t (t := 124) rfl (by decide) (by decide) ?_
            refine q_aload_n rfl rfl ?_
            refine q_iload_n rfl rfl ?_
            refine q_aload_n rfl rfl ?_
            refine v_gr (t := 59) rfl rfl rfl (by decide) rfl ?_
            refine v_bip rfl (by decide) ?_
            refine q_iload_n rfl rfl ?_
            refine v_iadd (v := a1 + 24) rfl (by omega) ?_
            have h_79 := ir_59 hI (a1 + 24)
            refine v_ia (v := c 59 (a1 + 24)) rfl rfl (by decide) (by decide) (by omega) ((up_n (by omega)).trans ((up_n (by omega)).trans ((up_n (by omega)).trans ((up_n (by omega)).trans ((up_n (by omega)).trans ((up_n (by omega)).trans ((up_n (by omega)).trans (up_n (by omega))))))))) ?_
            have hI_80 := iw_row (a := 59) (j := 4 * a1) (v := c 59 (4 * a1) - a3) hIo (by omega) (Or.inl rfl) ⟨by omega, by omega, by omega⟩
            have hI_81 := iw_row (a := 59) (j := 4 * a2) (v := a3 + c 59 (4 * a2)) hI_80 (by omega) (Or.inl rfl) ⟨by omega, by omega, by omega⟩
            have hI_82 := iw_row (a := 59) (j := 4 * a1 + 1) (v := c 59 (4 * a1 + 1)) hI_81 (by omega) (Or.inl rfl) ⟨by omega, by omega, by omega⟩
            have hI_83 := iw_row (a := 59) (j := 4 * a2 + 1) (v := c 59 (4 * a2 + 1)) hI_82 (by omega) (Or.inl rfl) ⟨by omega, by omega, by omega⟩
            have hI_84 := iw_row (a := 59) (j := 4 * a1 + 2) (v := c 59 (4 * a1 + 2)) hI_83 (by omega) (Or.inl rfl) ⟨by omega, by omega, by omega⟩
            have hI_85 := iw_row (a := 59) (j := 4 * a2 + 2) (v := c 59 (4 * a2 + 2)) hI_84 (by omega) (Or.inl rfl) ⟨by omega, by omega, by omega⟩
            have hI_86 := iw_row (a := 59) (j := 4 * a1 + 3) (v := c 59 (4 * a1 + 3)) hI_85 (by omega) (Or.inl rfl) ⟨by omega, by omega, by omega⟩
            have hI_87 := iw_row (a := 59) (j := 4 * a2 + 3) (v := c 59 (4 * a2 + 3)) hI_86 (by omega) (Or.inl rfl) ⟨by omega, by omega, by omega⟩
            refine v_cv rfl rfl rfl rfl (by decide) ⟨⟨rfl, rfl⟩, by decide, rfl⟩ (Nat.le_of_ble_eq_true rfl) (Nat.le_of_ble_eq_true rfl) (s_191 (a1 := a2) (a2 := c 59 (a1 + 24)) hI_87 (show 0 ≤ a2 ∧ a2 ≤ 5 from by omega) (show (-2147483648) ≤ c 59 (a1 + 24) ∧ c 59 (a1 + 24) ≤ 2147483647 from by omega) (fun c_88 hI_89 hF_90 => ?_))
            refine bk_inl ?_
            refine q_aload_n rfl rfl ?_
            refine q_iload_n rfl rfl ?_
            have kn_91 : Hid (c_88 59 (4 * a1) = c 59 (4 * a1) - a3) := (hF_90 59 (4 * a1) (by omega)).trans ((up_n (by omega)).trans ((up_n (by omega)).trans ((up_n (by omega)).trans ((up_n (by omega)).trans ((up_n (by omega)).trans ((up_n (by omega)).trans ((up_n (by omega)).trans (up_e rfl))))))))
            have kn_92 : Hid (c_88 59 (4 * a1 + 1) = c 59 (4 * a1 + 1)) := (hF_90 59 (4 * a1 + 1) (by omega)).trans ((up_n (by omega)).trans ((up_n (by omega)).trans ((up_n (by omega)).trans ((up_n (by omega)).trans ((up_n (by omega)).trans (up_e rfl))))))
            have kn_93 : Hid (c_88 59 (4 * a1 + 2) = c 59 (4 * a1 + 2)) := (hF_90 59 (4 * a1 + 2) (by omega)).trans ((up_n (by omega)).trans ((up_n (by omega)).trans ((up_n (by omega)).trans (up_e rfl))))
            have kn_94 : Hid (c_88 59 (4 * a1 + 3) = c 59 (4 * a1 + 3)) := (hF_90 59 (4 * a1 + 3) (by omega)).trans ((up_n (by omega)).trans (up_e rfl))
            refine v_cv rfl rfl rfl rfl (by decide) ⟨⟨rfl, rfl⟩, by decide, rfl⟩ (Nat.le_of_ble_eq_true rfl) (Nat.le_of_ble_eq_true rfl) (s_187 (v1 := c 59 (4 * a1) - a3) (v2 := c 59 (4 * a1 + 1)) (v3 := c 59 (4 * a1 + 2)) (v4 := c 59 (4 * a1 + 3)) (r := c 59 (4 * a1 + 1) + c 59 (4 * a1 + 2) + c 59 (4 * a1 + 3) + c 59 (4 * a1) - a3) (a1 := a1) hI_89 (show 0 ≤ a1 ∧ a1 ≤ 5 from by omega) ((hid kn_91)) ((hid kn_92)) ((hid kn_93)) ((hid kn_94)) (by omega) ?_)
            refine bk_inl ?_
            by_cases h_95 : c 59 (4 * a1 + 1) + c 59 (4 * a1 + 2) + c 59 (4 * a1 + 3) + c 59 (4 * a1) - a3 ≠ 0
            · refine v_if_ne_t (t := 151) rfl (by decide) (by omega) ?_
              refine q_iconst rfl ?_
              refine v_zret rfl rfl (by omega) ?_
              have hr_96 : ∀ j : Int, rs 59 j → c_88 59 j + c_88 59 (j + 1) + c_88 59 (j + 2) + c_88 59 (j + 3) ≤ 9999 := by
                intro j9 hj9
                obtain ⟨k9, rfl, hk9⟩ := rs_59 hj9
                by_cases e_97 : k9 = a1
                · skip
                  have h_98 : c_88 59 (4 * k9) = c 59 (4 * a1) - a3 := (congrArg (c_88 59) (show 4 * k9 = 4 * a1 from by omega)).trans (hid kn_91)
                  have h_99 : c_88 59 (4 * k9 + 1) = c 59 (4 * a1 + 1) := (congrArg (c_88 59) (show 4 * k9 + 1 = 4 * a1 + 1 from by omega)).trans (hid kn_92)
                  have h_100 : c_88 59 (4 * k9 + 2) = c 59 (4 * a1 + 2) := (congrArg (c_88 59) (show 4 * k9 + 2 = 4 * a1 + 2 from by omega)).trans (hid kn_93)
                  have h_101 : c_88 59 (4 * k9 + 3) = c 59 (4 * a1 + 3) := (congrArg (c_88 59) (show 4 * k9 + 3 = 4 * a1 + 3 from by omega)).trans (hid kn_94)
                  omega
                by_cases e_102 : k9 = a2
                · skip
                  have kn_103 : Hid (c_88 59 (4 * a2) = a3 + c 59 (4 * a2)) := (hF_90 59 (4 * a2) (by omega)).trans ((up_n (by omega)).trans ((up_n (by omega)).trans ((up_n (by omega)).trans ((up_n (by omega)).trans ((up_n (by omega)).trans ((up_n (by omega)).trans (up_e rfl)))))))
                  have h_104 : c_88 59 (4 * k9) = a3 + c 59 (4 * a2) := (congrArg (c_88 59) (show 4 * k9 = 4 * a2 from by omega)).trans (hid kn_103)
                  have kn_105 : Hid (c_88 59 (4 * a2 + 1) = c 59 (4 * a2 + 1)) := (hF_90 59 (4 * a2 + 1) (by omega)).trans ((up_n (by omega)).trans ((up_n (by omega)).trans ((up_n (by omega)).trans ((up_n (by omega)).trans (up_e rfl)))))
                  have h_106 : c_88 59 (4 * k9 + 1) = c 59 (4 * a2 + 1) := (congrArg (c_88 59) (show 4 * k9 + 1 = 4 * a2 + 1 from by omega)).trans (hid kn_105)
                  have kn_107 : Hid (c_88 59 (4 * a2 + 2) = c 59 (4 * a2 + 2)) := (hF_90 59 (4 * a2 + 2) (by omega)).trans ((up_n (by omega)).trans ((up_n (by omega)).trans (up_e rfl)))
                  have h_108 : c_88 59 (4 * k9 + 2) = c 59 (4 * a2 + 2) := (congrArg (c_88 59) (show 4 * k9 + 2 = 4 * a2 + 2 from by omega)).trans (hid kn_107)
                  have kn_109 : Hid (c_88 59 (4 * a2 + 3) = c 59 (4 * a2 + 3)) := (hF_90 59 (4 * a2 + 3) (by omega)).trans (up_e rfl)
                  have h_110 : c_88 59 (4 * k9 + 3) = c 59 (4 * a2 + 3) := (congrArg (c_88 59) (show 4 * k9 + 3 = 4 * a2 + 3 from by omega)).trans (hid kn_109)
                  omega
                have h_111 := iv_r hI 59 (4 * k9) hj9 (by omega)
                have h_112 := ir_59_g hI (j := 4 * k9) (by omega)
                have kn_113 : Hid (c_88 59 (4 * k9) = c 59 (4 * k9)) := (hF_90 59 (4 * k9) (by omega)).trans ((up_n (by omega)).trans ((up_n (by omega)).trans ((up_n (by omega)).trans ((up_n (by omega)).trans ((up_n (by omega)).trans ((up_n (by omega)).trans ((up_n (by omega)).trans (up_n (by omega)))))))))
                have h_114 : c_88 59 (4 * k9) = c 59 (4 * k9) := (hid kn_113)
                have h_115 := ir_59_g hI (j := 4 * k9 + 1) (by omega)
                have kn_116 : Hid (c_88 59 (4 * k9 + 1) = c 59 (4 * k9 + 1)) := (hF_90 59 (4 * k9 + 1) (by omega)).trans ((up_n (by omega)).trans ((up_n (by omega)).trans ((up_n (by omega)).trans ((up_n (by omega)).trans ((up_n (by omega)).trans ((up_n (by omega)).trans ((up_n (by omega)).trans (up_n (by omega)))))))))
                have h_117 : c_88 59 (4 * k9 + 1) = c 59 (4 * k9 + 1) := (hid kn_116)
                have h_118 := ir_59_g hI (j := 4 * k9 + 2) (by omega)
                have kn_119 : Hid (c_88 59 (4 * k9 + 2) = c 59 (4 * k9 + 2)) := (hF_90 59 (4 * k9 + 2) (by omega)).trans ((up_n (by omega)).trans ((up_n (by omega)).trans ((up_n (by omega)).trans ((up_n (by omega)).trans ((up_n (by omega)).trans ((up_n (by omega)).trans ((up_n (by omega)).trans (up_n (by omega)))))))))
                have h_120 : c_88 59 (4 * k9 + 2) = c 59 (4 * k9 + 2) := (hid kn_119)
                have h_121 := ir_59_g hI (j := 4 * k9 + 3) (by omega)
                have kn_122 : Hid (c_88 59 (4 * k9 + 3) = c 59 (4 * k9 + 3)) := (hF_90 59 (4 * k9 + 3) (by omega)).trans ((up_n (by omega)).trans ((up_n (by omega)).trans ((up_n (by omega)).trans ((up_n (by omega)).trans ((up_n (by omega)).trans ((up_n (by omega)).trans ((up_n (by omega)).trans (up_n (by omega)))))))))
                have h_123 : c_88 59 (4 * k9 + 3) = c 59 (4 * k9 + 3) := (hid kn_122)
                omega
              have hI_124 := iv_close hI_89 hr_96
              exact K c_88 1 hI_124 (fun a j hm => (hF_90 a j (by omega)).trans ((up_b (by omega)).trans ((up_b (by omega)).trans ((up_b (by omega)).trans ((up_b (by omega)).trans ((up_b (by omega)).trans ((up_b (by omega)).trans ((up_b (by omega)).trans (up_b (by omega)))))))))) ⟨by decide, by decide⟩
            · refine v_if_ne_f (t := 151) rfl (by decide) (by omega) ?_
              refine q_aload_n rfl rfl ?_
              refine q_iload_n rfl rfl ?_
              refine v_cv rfl rfl rfl rfl (by decide) ⟨⟨rfl, rfl⟩, by decide, rfl⟩ (Nat.le_of_ble_eq_true rfl) (Nat.le_of_ble_eq_true rfl) (s_192 (a1 := a1) hI_89 (show 0 ≤ a1 ∧ a1 ≤ 5 from by omega) (fun c_125 hI_126 hF_127 h_128 => ?_))
              refine bk_inl ?_
              have h_129 := ir_59_g hI_126 (j := 4 * a1 + 1) (by omega)
              have h_130 := ir_59_g hI_126 (j := 4 * a1 + 2) (by omega)
              have h_131 := ir_59_g hI_126 (j := 4 * a1 + 3) (by omega)
              have h_132 := ir_59_g hI_126 (j := 4 * a1) (by omega)
              refine q_iconst rfl ?_
              refine v_zret rfl rfl (by omega) ?_
              have hr_133 : ∀ j : Int, rs 59 j → c_125 59 j + c_125 59 (j + 1) + c_125 59 (j + 2) + c_125 59 (j + 3) ≤ 9999 := by
                intro j9 hj9
                obtain ⟨k9, rfl, hk9⟩ := rs_59 hj9
                by_cases e_134 : k9 = a1
                · skip
                  have h_135 : c_125 59 (4 * k9) = c_125 59 (4 * a1) := (congrArg (c_125 59) (show 4 * k9 = 4 * a1 from by omega))
                  have h_136 : c_125 59 (4 * k9 + 1) = c_125 59 (4 * a1 + 1) := (congrArg (c_125 59) (show 4 * k9 + 1 = 4 * a1 + 1 from by omega))
                  have h_137 : c_125 59 (4 * k9 + 2) = c_125 59 (4 * a1 + 2) := (congrArg (c_125 59) (show 4 * k9 + 2 = 4 * a1 + 2 from by omega))
                  have h_138 : c_125 59 (4 * k9 + 3) = c_125 59 (4 * a1 + 3) := (congrArg (c_125 59) (show 4 * k9 + 3 = 4 * a1 + 3 from by omega))
                  omega
                by_cases e_139 : k9 = a2
                · skip
                  have kn_140 : Hid (c_88 59 (4 * a2) = a3 + c 59 (4 * a2)) := (hF_90 59 (4 * a2) (by omega)).trans ((up_n (by omega)).trans ((up_n (by omega)).trans ((up_n (by omega)).trans ((up_n (by omega)).trans ((up_n (by omega)).trans ((up_n (by omega)).trans (up_e rfl)))))))
                  have kn_141 : Hid (c_125 59 (4 * a2) = a3 + c 59 (4 * a2)) := (hF_127 59 (4 * a2) (by omega)).trans (hid kn_140)
                  have h_142 : c_125 59 (4 * k9) = a3 + c 59 (4 * a2) := (congrArg (c_125 59) (show 4 * k9 = 4 * a2 from by omega)).trans (hid kn_141)
                  have kn_143 : Hid (c_88 59 (4 * a2 + 1) = c 59 (4 * a2 + 1)) := (hF_90 59 (4 * a2 + 1) (by omega)).trans ((up_n (by omega)).trans ((up_n (by omega)).trans ((up_n (by omega)).trans ((up_n (by omega)).trans (up_e rfl)))))
                  have kn_144 : Hid (c_125 59 (4 * a2 + 1) = c 59 (4 * a2 + 1)) := (hF_127 59 (4 * a2 + 1) (by omega)).trans (hid kn_143)
                  have h_145 : c_125 59 (4 * k9 + 1) = c 59 (4 * a2 + 1) := (congrArg (c_125 59) (show 4 * k9 + 1 = 4 * a2 + 1 from by omega)).trans (hid kn_144)
                  have kn_146 : Hid (c_88 59 (4 * a2 + 2) = c 59 (4 * a2 + 2)) := (hF_90 59 (4 * a2 + 2) (by omega)).trans ((up_n (by omega)).trans ((up_n (by omega)).trans (up_e rfl)))
                  have kn_147 : Hid (c_125 59 (4 * a2 + 2) = c 59 (4 * a2 + 2)) := (hF_127 59 (4 * a2 + 2) (by omega)).trans (hid kn_146)
                  have h_148 : c_125 59 (4 * k9 + 2) = c 59 (4 * a2 + 2) := (congrArg (c_125 59) (show 4 * k9 + 2 = 4 * a2 + 2 from by omega)).trans (hid kn_147)
                  have kn_149 : Hid (c_88 59 (4 * a2 + 3) = c 59 (4 * a2 + 3)) := (hF_90 59 (4 * a2 + 3) (by omega)).trans (up_e rfl)
                  have kn_150 : Hid (c_125 59 (4 * a2 + 3) = c 59 (4 * a2 + 3)) := (hF_127 59 (4 * a2 + 3) (by omega)).trans (hid kn_149)
                  have h_151 : c_125 59 (4 * k9 + 3) = c 59 (4 * a2 + 3) := (congrArg (c_125 59) (show 4 * k9 + 3 = 4 * a2 + 3 from by omega)).trans (hid kn_150)
                  omega
                have h_152 := iv_r hI 59 (4 * k9) hj9 (by omega)
                have h_153 := ir_59_g hI (j := 4 * k9) (by omega)
                have kn_154 : Hid (c_88 59 (4 * k9) = c 59 (4 * k9)) := (hF_90 59 (4 * k9) (by omega)).trans ((up_n (by omega)).trans ((up_n (by omega)).trans ((up_n (by omega)).trans ((up_n (by omega)).trans ((up_n (by omega)).trans ((up_n (by omega)).trans ((up_n (by omega)).trans (up_n (by omega)))))))))
                have kn_155 : Hid (c_125 59 (4 * k9) = c 59 (4 * k9)) := (hF_127 59 (4 * k9) (by omega)).trans (hid kn_154)
                have h_156 : c_125 59 (4 * k9) = c 59 (4 * k9) := (hid kn_155)
                have h_157 := ir_59_g hI (j := 4 * k9 + 1) (by omega)
                have kn_158 : Hid (c_88 59 (4 * k9 + 1) = c 59 (4 * k9 + 1)) := (hF_90 59 (4 * k9 + 1) (by omega)).trans ((up_n (by omega)).trans ((up_n (by omega)).trans ((up_n (by omega)).trans ((up_n (by omega)).trans ((up_n (by omega)).trans ((up_n (by omega)).trans ((up_n (by omega)).trans (up_n (by omega)))))))))
                have kn_159 : Hid (c_125 59 (4 * k9 + 1) = c 59 (4 * k9 + 1)) := (hF_127 59 (4 * k9 + 1) (by omega)).trans (hid kn_158)
                have h_160 : c_125 59 (4 * k9 + 1) = c 59 (4 * k9 + 1) := (hid kn_159)
                have h_161 := ir_59_g hI (j := 4 * k9 + 2) (by omega)
                have kn_162 : Hid (c_88 59 (4 * k9 + 2) = c 59 (4 * k9 + 2)) := (hF_90 59 (4 * k9 + 2) (by omega)).trans ((up_n (by omega)).trans ((up_n (by omega)).trans ((up_n (by omega)).trans ((up_n (by omega)).trans ((up_n (by omega)).trans ((up_n (by omega)).trans ((up_n (by omega)).trans (up_n (by omega)))))))))
                have kn_163 : Hid (c_125 59 (4 * k9 + 2) = c 59 (4 * k9 + 2)) := (hF_127 59 (4 * k9 + 2) (by omega)).trans (hid kn_162)
                have h_164 : c_125 59 (4 * k9 + 2) = c 59 (4 * k9 + 2) := (hid kn_163)
                have h_165 := ir_59_g hI (j := 4 * k9 + 3) (by omega)
                have kn_166 : Hid (c_88 59 (4 * k9 + 3) = c 59 (4 * k9 + 3)) := (hF_90 59 (4 * k9 + 3) (by omega)).trans ((up_n (by omega)).trans ((up_n (by omega)).trans ((up_n (by omega)).trans ((up_n (by omega)).trans ((up_n (by omega)).trans ((up_n (by omega)).trans ((up_n (by omega)).trans (up_n (by omega)))))))))
                have kn_167 : Hid (c_125 59 (4 * k9 + 3) = c 59 (4 * k9 + 3)) := (hF_127 59 (4 * k9 + 3) (by omega)).trans (hid kn_166)
                have h_168 : c_125 59 (4 * k9 + 3) = c 59 (4 * k9 + 3) := (hid kn_167)
                omega
              have hI_169 := iv_close hI_126 hr_133
              exact K c_125 1 hI_169 (fun a j hm => (hF_127 a j (by omega)).trans ((hF_90 a j (by omega)).trans ((up_b (by omega)).trans ((up_b (by omega)).trans ((up_b (by omega)).trans ((up_b (by omega)).trans ((up_b (by omega)).trans ((up_b (by omega)).trans ((up_b (by omega)).trans (up_b (by omega))))))))))) ⟨by decide, by decide⟩
          · refine v_ic_ge_f (t := 75) rfl (by decide) (by omega) ?_
            refine q_aload_n rfl rfl ?_
            refine v_gr (t := 59) rfl rfl rfl (by decide) rfl ?_
            refine q_iconst rfl ?_
            refine q_iload_n rfl rfl ?_
            refine v_imul (v := 4 * a1) rfl (by omega) ?_
            refine q_iload rfl rfl ?_
            refine v_iadd (v := 4 * a1) rfl (by omega) ?_
            refine v_ia (v := c 59 (4 * a1)) rfl rfl (by decide) (by decide) (by omega) rfl ?_
            refine q_goto (t := 77) rfl (by decide) ?_
            refine q_istore rfl (by decide) ?_
            refine q_aload_n rfl rfl ?_
            refine v_gr (t := 59) rfl rfl rfl (by decide) rfl ?_
            refine q_iconst rfl ?_
            refine q_iload_n rfl rfl ?_
            refine v_imul (v := 4 * a1) rfl (by omega) ?_
            refine q_iload rfl rfl ?_
            refine v_iadd (v := 4 * a1) rfl (by omega) ?_
            refine q_dup2 rfl ⟨rfl, rfl⟩ ?_
            refine v_ia (v := c 59 (4 * a1)) rfl rfl (by decide) (by decide) (by omega) rfl ?_
            refine q_iload rfl rfl ?_
            refine v_isub (v := 0) rfl (by decide) ?_
            refine v_is rfl rfl (by decide) (by decide) (by omega) ?_
            refine q_aload_n rfl rfl ?_
            refine v_gr (t := 59) rfl rfl rfl (by decide) rfl ?_
            refine q_iconst rfl ?_
            refine q_iload_n rfl rfl ?_
            refine v_imul (v := 4 * a2) rfl (by omega) ?_
            refine q_iload rfl rfl ?_
            refine v_iadd (v := 4 * a2) rfl (by omega) ?_
            refine q_dup2 rfl ⟨rfl, rfl⟩ ?_
            refine v_ia (v := c 59 (4 * a2)) rfl rfl (by decide) (by decide) (by omega) (up_n (by omega)) ?_
            refine q_iload rfl rfl ?_
            refine v_iadd (v := c 59 (4 * a1) + c 59 (4 * a2)) rfl (by omega) ?_
            refine v_is rfl rfl (by decide) (by decide) (by omega) ?_
            refine q_iload rfl rfl ?_
            refine q_iload rfl rfl ?_
            refine v_isub (v := a3 - c 59 (4 * a1)) rfl (by omega) ?_
            refine q_istore rfl (by decide) ?_
            refine v_iinc (v := 1) rfl rfl (by decide) (by decide) ?_
            refine Wp_ls [(5, vi 1), (4, vi (a3 - c 59 (4 * a1))), (6, vi (c 59 (4 * a1))), (0, .ref 41), (1, vi a1), (2, vi a2), (3, vi a3)] (lsub_cons rfl (lsub_cons rfl (lsub_cons rfl (lsub_cons rfl (lsub_cons rfl (lsub_cons rfl (lsub_cons rfl lsub_nil))))))) ?_
            refine q_goto (t := 39) rfl (by decide) ?_
            refine q_iload rfl rfl ?_
            refine q_iconst rfl ?_
            refine v_ic_ge_f (t := 124) rfl (by decide) (by decide) ?_
            refine q_aload_n rfl rfl ?_
            refine v_gr (t := 59) rfl rfl rfl (by decide) rfl ?_
            refine q_iconst rfl ?_
            refine q_iload_n rfl rfl ?_
            refine v_imul (v := 4 * a1) rfl (by omega) ?_
            refine q_iload rfl rfl ?_
            refine v_iadd (v := 4 * a1 + 1) rfl (by omega) ?_
            refine v_ia (v := c 59 (4 * a1 + 1)) rfl rfl (by decide) (by decide) (by omega) ((up_n (by omega)).trans (up_n (by omega))) ?_
            refine q_iload rfl rfl ?_
            by_cases h_170 : c 59 (4 * a1 + 1) ≥ a3 - c 59 (4 * a1)
            · refine v_ic_ge_t (t := 75) rfl (by decide) (by omega) ?_
              refine q_iload rfl rfl ?_
              refine q_istore rfl (by decide) ?_
              refine q_aload_n rfl rfl ?_
              refine v_gr (t := 59) rfl rfl rfl (by decide) rfl ?_
              refine q_iconst rfl ?_
              refine q_iload_n rfl rfl ?_
              refine v_imul (v := 4 * a1) rfl (by omega) ?_
              refine q_iload rfl rfl ?_
              refine v_iadd (v := 4 * a1 + 1) rfl (by omega) ?_
              refine q_dup2 rfl ⟨rfl, rfl⟩ ?_
              refine v_ia (v := c 59 (4 * a1 + 1)) rfl rfl (by decide) (by decide) (by omega) ((up_n (by omega)).trans (up_n (by omega))) ?_
              refine q_iload rfl rfl ?_
              refine v_isub (v := c 59 (4 * a1 + 1) + c 59 (4 * a1) - a3) rfl (by omega) ?_
              refine v_is rfl rfl (by decide) (by decide) (by omega) ?_
              refine q_aload_n rfl rfl ?_
              refine v_gr (t := 59) rfl rfl rfl (by decide) rfl ?_
              refine q_iconst rfl ?_
              refine q_iload_n rfl rfl ?_
              refine v_imul (v := 4 * a2) rfl (by omega) ?_
              refine q_iload rfl rfl ?_
              refine v_iadd (v := 4 * a2 + 1) rfl (by omega) ?_
              refine q_dup2 rfl ⟨rfl, rfl⟩ ?_
              refine v_ia (v := c 59 (4 * a2 + 1)) rfl rfl (by decide) (by decide) (by omega) ((up_n (by omega)).trans ((up_n (by omega)).trans (up_n (by omega)))) ?_
              refine q_iload rfl rfl ?_
              refine v_iadd (v := a3 + c 59 (4 * a2 + 1) - c 59 (4 * a1)) rfl (by omega) ?_
              refine v_is rfl rfl (by decide) (by decide) (by omega) ?_
              refine q_iload rfl rfl ?_
              refine q_iload rfl rfl ?_
              refine v_isub (v := 0) rfl (by decide) ?_
              refine q_istore rfl (by decide) ?_
              refine v_iinc (v := 2) rfl rfl (by decide) (by decide) ?_
              refine q_goto (t := 39) rfl (by decide) ?_
              refine q_iload rfl rfl ?_
              refine q_iconst rfl ?_
              refine v_ic_ge_f (t := 124) rfl (by decide) (by decide) ?_
              refine q_aload_n rfl rfl ?_
              refine v_gr (t := 59) rfl rfl rfl (by decide) rfl ?_
              refine q_iconst rfl ?_
              refine q_iload_n rfl rfl ?_
              refine v_imul (v := 4 * a1) rfl (by omega) ?_
              refine q_iload rfl rfl ?_
              refine v_iadd (v := 4 * a1 + 2) rfl (by omega) ?_
              refine v_ia (v := c 59 (4 * a1 + 2)) rfl rfl (by decide) (by decide) (by omega) ((up_n (by omega)).trans ((up_n (by omega)).trans ((up_n (by omega)).trans (up_n (by omega))))) ?_
              refine q_iload rfl rfl ?_
              refine v_ic_ge_t (t := 75) rfl (by decide) (by omega) ?_
              refine q_iload rfl rfl ?_
              refine q_istore rfl (by decide) ?_
              refine q_aload_n rfl rfl ?_
              refine v_gr (t := 59) rfl rfl rfl (by decide) rfl ?_
              refine q_iconst rfl ?_
              refine q_iload_n rfl rfl ?_
              refine v_imul (v := 4 * a1) rfl (by omega) ?_
              refine q_iload rfl rfl ?_
              refine v_iadd (v := 4 * a1 + 2) rfl (by omega) ?_
              refine q_dup2 rfl ⟨rfl, rfl⟩ ?_
              refine v_ia (v := c 59 (4 * a1 + 2)) rfl rfl (by decide) (by decide) (by omega) ((up_n (by omega)).trans ((up_n (by omega)).trans ((up_n (by omega)).trans (up_n (by omega))))) ?_
              refine q_iload rfl rfl ?_
              refine v_isub (v := c 59 (4 * a1 + 2)) rfl (by omega) ?_
              refine v_is rfl rfl (by decide) (by decide) (by omega) ?_
              refine q_aload_n rfl rfl ?_
              refine v_gr (t := 59) rfl rfl rfl (by decide) rfl ?_
              refine q_iconst rfl ?_
              refine q_iload_n rfl rfl ?_
              refine v_imul (v := 4 * a2) rfl (by omega) ?_
              refine q_iload rfl rfl ?_
              refine v_iadd (v := 4 * a2 + 2) rfl (by omega) ?_
              refine q_dup2 rfl ⟨rfl, rfl⟩ ?_
              refine v_ia (v := c 59 (4 * a2 + 2)) rfl rfl (by decide) (by decide) (by omega) ((up_n (by omega)).trans ((up_n (by omega)).trans ((up_n (by omega)).trans ((up_n (by omega)).trans (up_n (by omega)))))) ?_
              refine q_iload rfl rfl ?_
              refine v_iadd (v := c 59 (4 * a2 + 2)) rfl (by omega) ?_
              refine v_is rfl rfl (by decide) (by decide) (by omega) ?_
              refine q_iload rfl rfl ?_
              refine q_iload rfl rfl ?_
              refine v_isub (v := 0) rfl (by decide) ?_
              refine q_istore rfl (by decide) ?_
              refine Wp_ls [(4, vi 0), (6, vi 0), (5, vi 2), (0, .ref 41), (1, vi a1), (2, vi a2), (3, vi a3)] (lsub_cons rfl (lsub_cons rfl (lsub_cons rfl (lsub_cons rfl (lsub_cons rfl (lsub_cons rfl (lsub_cons rfl lsub_nil))))))) ?_
              refine v_iinc (v := 3) rfl rfl (by decide) (by decide) ?_
              refine q_goto (t := 39) rfl (by decide) ?_
              refine q_iload rfl rfl ?_
              refine q_iconst rfl ?_
              refine v_ic_ge_f (t := 124) rfl (by decide) (by decide) ?_
              refine q_aload_n rfl rfl ?_
              refine v_gr (t := 59) rfl rfl rfl (by decide) rfl ?_
              refine q_iconst rfl ?_
              refine q_iload_n rfl rfl ?_
              refine v_imul (v := 4 * a1) rfl (by omega) ?_
              refine q_iload rfl rfl ?_
              refine v_iadd (v := 4 * a1 + 3) rfl (by omega) ?_
              refine v_ia (v := c 59 (4 * a1 + 3)) rfl rfl (by decide) (by decide) (by omega) ((up_n (by omega)).trans ((up_n (by omega)).trans ((up_n (by omega)).trans ((up_n (by omega)).trans ((up_n (by omega)).trans (up_n (by omega))))))) ?_
              refine q_iload rfl rfl ?_
              refine v_ic_ge_t (t := 75) rfl (by decide) (by omega) ?_
              refine q_iload rfl rfl ?_
              refine q_istore rfl (by decide) ?_
              refine q_aload_n rfl rfl ?_
              refine v_gr (t := 59) rfl rfl rfl (by decide) rfl ?_
              refine q_iconst rfl ?_
              refine q_iload_n rfl rfl ?_
              refine v_imul (v := 4 * a1) rfl (by omega) ?_
              refine q_iload rfl rfl ?_
              refine v_iadd (v := 4 * a1 + 3) rfl (by omega) ?_
              refine q_dup2 rfl ⟨rfl, rfl⟩ ?_
              refine v_ia (v := c 59 (4 * a1 + 3)) rfl rfl (by decide) (by decide) (by omega) ((up_n (by omega)).trans ((up_n (by omega)).trans ((up_n (by omega)).trans ((up_n (by omega)).trans ((up_n (by omega)).trans (up_n (by omega))))))) ?_
              refine q_iload rfl rfl ?_
              refine v_isub (v := c 59 (4 * a1 + 3)) rfl (by omega) ?_
              refine v_is rfl rfl (by decide) (by decide) (by omega) ?_
              refine q_aload_n rfl rfl ?_
              refine v_gr (t := 59) rfl rfl rfl (by decide) rfl ?_
              refine q_iconst rfl ?_
              refine q_iload_n rfl rfl ?_
              refine v_imul (v := 4 * a2) rfl (by omega) ?_
              refine q_iload rfl rfl ?_
              refine v_iadd (v := 4 * a2 + 3) rfl (by omega) ?_
              refine q_dup2 rfl ⟨rfl, rfl⟩ ?_
              refine v_ia (v := c 59 (4 * a2 + 3)) rfl rfl (by decide) (by decide) (by omega) ((up_n (by omega)).trans ((up_n (by omega)).trans ((up_n (by omega)).trans ((up_n (by omega)).trans ((up_n (by omega)).trans ((up_n (by omega)).trans (up_n (by omega)))))))) ?_
              refine q_iload rfl rfl ?_
              refine v_iadd (v := c 59 (4 * a2 + 3)) rfl (by omega) ?_
              refine v_is rfl rfl (by decide) (by decide) (by omega) ?_
              refine q_iload rfl rfl ?_
              refine q_iload rfl rfl ?_
              refine v_isub (v := 0) rfl (by decide) ?_
              refine q_istore rfl (by decide) ?_
              refine v_iinc (v := 4) rfl rfl (by decide) (by decide) ?_
              refine q_goto (t := 39) rfl (by decide) ?_
              refine q_iload rfl rfl ?_
              refine q_iconst rfl ?_
              refine v_ic_ge_t (t := 124) rfl (by decide) (by decide) ?_
              refine q_aload_n rfl rfl ?_
              refine q_iload_n rfl rfl ?_
              refine q_aload_n rfl rfl ?_
              refine v_gr (t := 59) rfl rfl rfl (by decide) rfl ?_
              refine v_bip rfl (by decide) ?_
              refine q_iload_n rfl rfl ?_
              refine v_iadd (v := a1 + 24) rfl (by omega) ?_
              have h_171 := ir_59 hI (a1 + 24)
              refine v_ia (v := c 59 (a1 + 24)) rfl rfl (by decide) (by decide) (by omega) ((up_n (by omega)).trans ((up_n (by omega)).trans ((up_n (by omega)).trans ((up_n (by omega)).trans ((up_n (by omega)).trans ((up_n (by omega)).trans ((up_n (by omega)).trans (up_n (by omega))))))))) ?_
              have hI_172 := iw_row (a := 59) (j := 4 * a1) (v := 0) hIo (by omega) (Or.inl rfl) ⟨by omega, by omega, by omega⟩
              have hI_173 := iw_row (a := 59) (j := 4 * a2) (v := c 59 (4 * a1) + c 59 (4 * a2)) hI_172 (by omega) (Or.inl rfl) ⟨by omega, by omega, by omega⟩
              have hI_174 := iw_row (a := 59) (j := 4 * a1 + 1) (v := c 59 (4 * a1 + 1) + c 59 (4 * a1) - a3) hI_173 (by omega) (Or.inl rfl) ⟨by omega, by omega, by omega⟩
              have hI_175 := iw_row (a := 59) (j := 4 * a2 + 1) (v := a3 + c 59 (4 * a2 + 1) - c 59 (4 * a1)) hI_174 (by omega) (Or.inl rfl) ⟨by omega, by omega, by omega⟩
              have hI_176 := iw_row (a := 59) (j := 4 * a1 + 2) (v := c 59 (4 * a1 + 2)) hI_175 (by omega) (Or.inl rfl) ⟨by omega, by omega, by omega⟩
              have hI_177 := iw_row (a := 59) (j := 4 * a2 + 2) (v := c 59 (4 * a2 + 2)) hI_176 (by omega) (Or.inl rfl) ⟨by omega, by omega, by omega⟩
              have hI_178 := iw_row (a := 59) (j := 4 * a1 + 3) (v := c 59 (4 * a1 + 3)) hI_177 (by omega) (Or.inl rfl) ⟨by omega, by omega, by omega⟩
              have hI_179 := iw_row (a := 59) (j := 4 * a2 + 3) (v := c 59 (4 * a2 + 3)) hI_178 (by omega) (Or.inl rfl) ⟨by omega, by omega, by omega⟩
              refine v_cv rfl rfl rfl rfl (by decide) ⟨⟨rfl, rfl⟩, by decide, rfl⟩ (Nat.le_of_ble_eq_true rfl) (Nat.le_of_ble_eq_true rfl) (s_191 (a1 := a2) (a2 := c 59 (a1 + 24)) hI_179 (show 0 ≤ a2 ∧ a2 ≤ 5 from by omega) (show (-2147483648) ≤ c 59 (a1 + 24) ∧ c 59 (a1 + 24) ≤ 2147483647 from by omega) (fun c_180 hI_181 hF_182 => ?_))
              refine bk_inl ?_
              refine q_aload_n rfl rfl ?_
              refine q_iload_n rfl rfl ?_
              have kn_183 : Hid (c_180 59 (4 * a1) = 0) := (hF_182 59 (4 * a1) (by omega)).trans ((up_n (by omega)).trans ((up_n (by omega)).trans ((up_n (by omega)).trans ((up_n (by omega)).trans ((up_n (by omega)).trans ((up_n (by omega)).trans ((up_n (by omega)).trans (up_e rfl))))))))
              have kn_184 : Hid (c_180 59 (4 * a1 + 1) = c 59 (4 * a1 + 1) + c 59 (4 * a1) - a3) := (hF_182 59 (4 * a1 + 1) (by omega)).trans ((up_n (by omega)).trans ((up_n (by omega)).trans ((up_n (by omega)).trans ((up_n (by omega)).trans ((up_n (by omega)).trans (up_e rfl))))))
              have kn_185 : Hid (c_180 59 (4 * a1 + 2) = c 59 (4 * a1 + 2)) := (hF_182 59 (4 * a1 + 2) (by omega)).trans ((up_n (by omega)).trans ((up_n (by omega)).trans ((up_n (by omega)).trans (up_e rfl))))
              have kn_186 : Hid (c_180 59 (4 * a1 + 3) = c 59 (4 * a1 + 3)) := (hF_182 59 (4 * a1 + 3) (by omega)).trans ((up_n (by omega)).trans (up_e rfl))
              refine v_cv rfl rfl rfl rfl (by decide) ⟨⟨rfl, rfl⟩, by decide, rfl⟩ (Nat.le_of_ble_eq_true rfl) (Nat.le_of_ble_eq_true rfl) (s_187 (v1 := 0) (v2 := c 59 (4 * a1 + 1) + c 59 (4 * a1) - a3) (v3 := c 59 (4 * a1 + 2)) (v4 := c 59 (4 * a1 + 3)) (r := c 59 (4 * a1 + 1) + c 59 (4 * a1 + 2) + c 59 (4 * a1 + 3) + c 59 (4 * a1) - a3) (a1 := a1) hI_181 (show 0 ≤ a1 ∧ a1 ≤ 5 from by omega) ((hid kn_183)) ((hid kn_184)) ((hid kn_185)) ((hid kn_186)) (by omega) ?_)
              refine bk_inl ?_
              by_cases h_187 : c 59 (4 * a1 + 1) + c 59 (4 * a1 + 2) + c 59 (4 * a1 + 3) + c 59 (4 * a1) - a3 ≠ 0
              · refine v_if_ne_t (t := 151) rfl (by decide) (by omega) ?_
                refine q_iconst rfl ?_
                refine v_zret rfl rfl (by omega) ?_
                have hr_188 : ∀ j : Int, rs 59 j → c_180 59 j + c_180 59 (j + 1) + c_180 59 (j + 2) + c_180 59 (j + 3) ≤ 9999 := by
                  intro j9 hj9
                  obtain ⟨k9, rfl, hk9⟩ := rs_59 hj9
                  by_cases e_189 : k9 = a1
                  · skip
                    have h_190 : c_180 59 (4 * k9) = 0 := (congrArg (c_180 59) (show 4 * k9 = 4 * a1 from by omega)).trans (hid kn_183)
                    have h_191 : c_180 59 (4 * k9 + 1) = c 59 (4 * a1 + 1) + c 59 (4 * a1) - a3 := (congrArg (c_180 59) (show 4 * k9 + 1 = 4 * a1 + 1 from by omega)).trans (hid kn_184)
                    have h_192 : c_180 59 (4 * k9 + 2) = c 59 (4 * a1 + 2) := (congrArg (c_180 59) (show 4 * k9 + 2 = 4 * a1 + 2 from by omega)).trans (hid kn_185)
                    have h_193 : c_180 59 (4 * k9 + 3) = c 59 (4 * a1 + 3) := (congrArg (c_180 59) (show 4 * k9 + 3 = 4 * a1 + 3 from by omega)).trans (hid kn_186)
                    omega
                  by_cases e_194 : k9 = a2
                  · skip
                    have kn_195 : Hid (c_180 59 (4 * a2) = c 59 (4 * a1) + c 59 (4 * a2)) := (hF_182 59 (4 * a2) (by omega)).trans ((up_n (by omega)).trans ((up_n (by omega)).trans ((up_n (by omega)).trans ((up_n (by omega)).trans ((up_n (by omega)).trans ((up_n (by omega)).trans (up_e rfl)))))))
                    have h_196 : c_180 59 (4 * k9) = c 59 (4 * a1) + c 59 (4 * a2) := (congrArg (c_180 59) (show 4 * k9 = 4 * a2 from by omega)).trans (hid kn_195)
                    have kn_197 : Hid (c_180 59 (4 * a2 + 1) = a3 + c 59 (4 * a2 + 1) - c 59 (4 * a1)) := (hF_182 59 (4 * a2 + 1) (by omega)).trans ((up_n (by omega)).trans ((up_n (by omega)).trans ((up_n (by omega)).trans ((up_n (by omega)).trans (up_e rfl)))))
                    have h_198 : c_180 59 (4 * k9 + 1) = a3 + c 59 (4 * a2 + 1) - c 59 (4 * a1) := (congrArg (c_180 59) (show 4 * k9 + 1 = 4 * a2 + 1 from by omega)).trans (hid kn_197)
                    have kn_199 : Hid (c_180 59 (4 * a2 + 2) = c 59 (4 * a2 + 2)) := (hF_182 59 (4 * a2 + 2) (by omega)).trans ((up_n (by omega)).trans ((up_n (by omega)).trans (up_e rfl)))
                    have h_200 : c_180 59 (4 * k9 + 2) = c 59 (4 * a2 + 2) := (congrArg (c_180 59) (show 4 * k9 + 2 = 4 * a2 + 2 from by omega)).trans (hid kn_199)
                    have kn_201 : Hid (c_180 59 (4 * a2 + 3) = c 59 (4 * a2 + 3)) := (hF_182 59 (4 * a2 + 3) (by omega)).trans (up_e rfl)
                    have h_202 : c_180 59 (4 * k9 + 3) = c 59 (4 * a2 + 3) := (congrArg (c_180 59) (show 4 * k9 + 3 = 4 * a2 + 3 from by omega)).trans (hid kn_201)
                    omega
                  have h_203 := iv_r hI 59 (4 * k9) hj9 (by omega)
                  have h_204 := ir_59_g hI (j := 4 * k9) (by omega)
                  have kn_205 : Hid (c_180 59 (4 * k9) = c 59 (4 * k9)) := (hF_182 59 (4 * k9) (by omega)).trans ((up_n (by omega)).trans ((up_n (by omega)).trans ((up_n (by omega)).trans ((up_n (by omega)).trans ((up_n (by omega)).trans ((up_n (by omega)).trans ((up_n (by omega)).trans (up_n (by omega)))))))))
                  have h_206 : c_180 59 (4 * k9) = c 59 (4 * k9) := (hid kn_205)
                  have h_207 := ir_59_g hI (j := 4 * k9 + 1) (by omega)
                  have kn_208 : Hid (c_180 59 (4 * k9 + 1) = c 59 (4 * k9 + 1)) := (hF_182 59 (4 * k9 + 1) (by omega)).trans ((up_n (by omega)).trans ((up_n (by omega)).trans ((up_n (by omega)).trans ((up_n (by omega)).trans ((up_n (by omega)).trans ((up_n (by omega)).trans ((up_n (by omega)).trans (up_n (by omega)))))))))
                  have h_209 : c_180 59 (4 * k9 + 1) = c 59 (4 * k9 + 1) := (hid kn_208)
                  have h_210 := ir_59_g hI (j := 4 * k9 + 2) (by omega)
                  have kn_211 : Hid (c_180 59 (4 * k9 + 2) = c 59 (4 * k9 + 2)) := (hF_182 59 (4 * k9 + 2) (by omega)).trans ((up_n (by omega)).trans ((up_n (by omega)).trans ((up_n (by omega)).trans ((up_n (by omega)).trans ((up_n (by omega)).trans ((up_n (by omega)).trans ((up_n (by omega)).trans (up_n (by omega)))))))))
                  have h_212 : c_180 59 (4 * k9 + 2) = c 59 (4 * k9 + 2) := (hid kn_211)
                  have h_213 := ir_59_g hI (j := 4 * k9 + 3) (by omega)
                  have kn_214 : Hid (c_180 59 (4 * k9 + 3) = c 59 (4 * k9 + 3)) := (hF_182 59 (4 * k9 + 3) (by omega)).trans ((up_n (by omega)).trans ((up_n (by omega)).trans ((up_n (by omega)).trans ((up_n (by omega)).trans ((up_n (by omega)).trans ((up_n (by omega)).trans ((up_n (by omega)).trans (up_n (by omega)))))))))
                  have h_215 : c_180 59 (4 * k9 + 3) = c 59 (4 * k9 + 3) := (hid kn_214)
                  omega
                have hI_216 := iv_close hI_181 hr_188
                exact K c_180 1 hI_216 (fun a j hm => (hF_182 a j (by omega)).trans ((up_b (by omega)).trans ((up_b (by omega)).trans ((up_b (by omega)).trans ((up_b (by omega)).trans ((up_b (by omega)).trans ((up_b (by omega)).trans ((up_b (by omega)).trans (up_b (by omega)))))))))) ⟨by decide, by decide⟩
              · refine v_if_ne_f (t := 151) rfl (by decide) (by omega) ?_
                refine q_aload_n rfl rfl ?_
                refine q_iload_n rfl rfl ?_
                refine v_cv rfl rfl rfl rfl (by decide) ⟨⟨rfl, rfl⟩, by decide, rfl⟩ (Nat.le_of_ble_eq_true rfl) (Nat.le_of_ble_eq_true rfl) (s_192 (a1 := a1) hI_181 (show 0 ≤ a1 ∧ a1 ≤ 5 from by omega) (fun c_217 hI_218 hF_219 h_220 => ?_))
                refine bk_inl ?_
                have h_221 := ir_59_g hI_218 (j := 4 * a1 + 1) (by omega)
                have h_222 := ir_59_g hI_218 (j := 4 * a1 + 2) (by omega)
                have h_223 := ir_59_g hI_218 (j := 4 * a1 + 3) (by omega)
                have h_224 := ir_59_g hI_218 (j := 4 * a1) (by omega)
                refine q_iconst rfl ?_
                refine v_zret rfl rfl (by omega) ?_
                have hr_225 : ∀ j : Int, rs 59 j → c_217 59 j + c_217 59 (j + 1) + c_217 59 (j + 2) + c_217 59 (j + 3) ≤ 9999 := by
                  intro j9 hj9
                  obtain ⟨k9, rfl, hk9⟩ := rs_59 hj9
                  by_cases e_226 : k9 = a1
                  · skip
                    have h_227 : c_217 59 (4 * k9) = c_217 59 (4 * a1) := (congrArg (c_217 59) (show 4 * k9 = 4 * a1 from by omega))
                    have h_228 : c_217 59 (4 * k9 + 1) = c_217 59 (4 * a1 + 1) := (congrArg (c_217 59) (show 4 * k9 + 1 = 4 * a1 + 1 from by omega))
                    have h_229 : c_217 59 (4 * k9 + 2) = c_217 59 (4 * a1 + 2) := (congrArg (c_217 59) (show 4 * k9 + 2 = 4 * a1 + 2 from by omega))
                    have h_230 : c_217 59 (4 * k9 + 3) = c_217 59 (4 * a1 + 3) := (congrArg (c_217 59) (show 4 * k9 + 3 = 4 * a1 + 3 from by omega))
                    omega
                  by_cases e_231 : k9 = a2
                  · skip
                    have kn_232 : Hid (c_180 59 (4 * a2) = c 59 (4 * a1) + c 59 (4 * a2)) := (hF_182 59 (4 * a2) (by omega)).trans ((up_n (by omega)).trans ((up_n (by omega)).trans ((up_n (by omega)).trans ((up_n (by omega)).trans ((up_n (by omega)).trans ((up_n (by omega)).trans (up_e rfl)))))))
                    have kn_233 : Hid (c_217 59 (4 * a2) = c 59 (4 * a1) + c 59 (4 * a2)) := (hF_219 59 (4 * a2) (by omega)).trans (hid kn_232)
                    have h_234 : c_217 59 (4 * k9) = c 59 (4 * a1) + c 59 (4 * a2) := (congrArg (c_217 59) (show 4 * k9 = 4 * a2 from by omega)).trans (hid kn_233)
                    have kn_235 : Hid (c_180 59 (4 * a2 + 1) = a3 + c 59 (4 * a2 + 1) - c 59 (4 * a1)) := (hF_182 59 (4 * a2 + 1) (by omega)).trans ((up_n (by omega)).trans ((up_n (by omega)).trans ((up_n (by omega)).trans ((up_n (by omega)).trans (up_e rfl)))))
                    have kn_236 : Hid (c_217 59 (4 * a2 + 1) = a3 + c 59 (4 * a2 + 1) - c 59 (4 * a1)) := (hF_219 59 (4 * a2 + 1) (by omega)).trans (hid kn_235)
                    have h_237 : c_217 59 (4 * k9 + 1) = a3 + c 59 (4 * a2 + 1) - c 59 (4 * a1) := (congrArg (c_217 59) (show 4 * k9 + 1 = 4 * a2 + 1 from by omega)).trans (hid kn_236)
                    have kn_238 : Hid (c_180 59 (4 * a2 + 2) = c 59 (4 * a2 + 2)) := (hF_182 59 (4 * a2 + 2) (by omega)).trans ((up_n (by omega)).trans ((up_n (by omega)).trans (up_e rfl)))
                    have kn_239 : Hid (c_217 59 (4 * a2 + 2) = c 59 (4 * a2 + 2)) := (hF_219 59 (4 * a2 + 2) (by omega)).trans (hid kn_238)
                    have h_240 : c_217 59 (4 * k9 + 2) = c 59 (4 * a2 + 2) := (congrArg (c_217 59) (show 4 * k9 + 2 = 4 * a2 + 2 from by omega)).trans (hid kn_239)
                    have kn_241 : Hid (c_180 59 (4 * a2 + 3) = c 59 (4 * a2 + 3)) := (hF_182 59 (4 * a2 + 3) (by omega)).trans (up_e rfl)
                    have kn_242 : Hid (c_217 59 (4 * a2 + 3) = c 59 (4 * a2 + 3)) := (hF_219 59 (4 * a2 + 3) (by omega)).trans (hid kn_241)
                    have h_243 : c_217 59 (4 * k9 + 3) = c 59 (4 * a2 + 3) := (congrArg (c_217 59) (show 4 * k9 + 3 = 4 * a2 + 3 from by omega)).trans (hid kn_242)
                    omega
                  have h_244 := iv_r hI 59 (4 * k9) hj9 (by omega)
                  have h_245 := ir_59_g hI (j := 4 * k9) (by omega)
                  have kn_246 : Hid (c_180 59 (4 * k9) = c 59 (4 * k9)) := (hF_182 59 (4 * k9) (by omega)).trans ((up_n (by omega)).trans ((up_n (by omega)).trans ((up_n (by omega)).trans ((up_n (by omega)).trans ((up_n (by omega)).trans ((up_n (by omega)).trans ((up_n (by omega)).trans (up_n (by omega)))))))))
                  have kn_247 : Hid (c_217 59 (4 * k9) = c 59 (4 * k9)) := (hF_219 59 (4 * k9) (by omega)).trans (hid kn_246)
                  have h_248 : c_217 59 (4 * k9) = c 59 (4 * k9) := (hid kn_247)
                  have h_249 := ir_59_g hI (j := 4 * k9 + 1) (by omega)
                  have kn_250 : Hid (c_180 59 (4 * k9 + 1) = c 59 (4 * k9 + 1)) := (hF_182 59 (4 * k9 + 1) (by omega)).trans ((up_n (by omega)).trans ((up_n (by omega)).trans ((up_n (by omega)).trans ((up_n (by omega)).trans ((up_n (by omega)).trans ((up_n (by omega)).trans ((up_n (by omega)).trans (up_n (by omega)))))))))
                  have kn_251 : Hid (c_217 59 (4 * k9 + 1) = c 59 (4 * k9 + 1)) := (hF_219 59 (4 * k9 + 1) (by omega)).trans (hid kn_250)
                  have h_252 : c_217 59 (4 * k9 + 1) = c 59 (4 * k9 + 1) := (hid kn_251)
                  have h_253 := ir_59_g hI (j := 4 * k9 + 2) (by omega)
                  have kn_254 : Hid (c_180 59 (4 * k9 + 2) = c 59 (4 * k9 + 2)) := (hF_182 59 (4 * k9 + 2) (by omega)).trans ((up_n (by omega)).trans ((up_n (by omega)).trans ((up_n (by omega)).trans ((up_n (by omega)).trans ((up_n (by omega)).trans ((up_n (by omega)).trans ((up_n (by omega)).trans (up_n (by omega)))))))))
                  have kn_255 : Hid (c_217 59 (4 * k9 + 2) = c 59 (4 * k9 + 2)) := (hF_219 59 (4 * k9 + 2) (by omega)).trans (hid kn_254)
                  have h_256 : c_217 59 (4 * k9 + 2) = c 59 (4 * k9 + 2) := (hid kn_255)
                  have h_257 := ir_59_g hI (j := 4 * k9 + 3) (by omega)
                  have kn_258 : Hid (c_180 59 (4 * k9 + 3) = c 59 (4 * k9 + 3)) := (hF_182 59 (4 * k9 + 3) (by omega)).trans ((up_n (by omega)).trans ((up_n (by omega)).trans ((up_n (by omega)).trans ((up_n (by omega)).trans ((up_n (by omega)).trans ((up_n (by omega)).trans ((up_n (by omega)).trans (up_n (by omega)))))))))
                  have kn_259 : Hid (c_217 59 (4 * k9 + 3) = c 59 (4 * k9 + 3)) := (hF_219 59 (4 * k9 + 3) (by omega)).trans (hid kn_258)
                  have h_260 : c_217 59 (4 * k9 + 3) = c 59 (4 * k9 + 3) := (hid kn_259)
                  omega
                have hI_261 := iv_close hI_218 hr_225
                exact K c_217 1 hI_261 (fun a j hm => (hF_219 a j (by omega)).trans ((hF_182 a j (by omega)).trans ((up_b (by omega)).trans ((up_b (by omega)).trans ((up_b (by omega)).trans ((up_b (by omega)).trans ((up_b (by omega)).trans ((up_b (by omega)).trans ((up_b (by omega)).trans (up_b (by omega))))))))))) ⟨by decide, by decide⟩
            · refine v_ic_ge_f (t := 75) rfl (by decide) (by omega) ?_
              refine q_aload_n rfl rfl ?_
              refine v_gr (t := 59) rfl rfl rfl (by decide) rfl ?_
              refine q_iconst rfl ?_
              refine q_iload_n rfl rfl ?_
              refine v_imul (v := 4 * a1) rfl (by omega) ?_
              refine q_iload rfl rfl ?_
              refine v_iadd (v := 4 * a1 + 1) rfl (by omega) ?_
              refine v_ia (v := c 59 (4 * a1 + 1)) rfl rfl (by decide) (by decide) (by omega) ((up_n (by omega)).trans (up_n (by omega))) ?_
              refine q_goto (t := 77) rfl (by decide) ?_
              refine q_istore rfl (by decide) ?_
              refine q_aload_n rfl rfl ?_
              refine v_gr (t := 59) rfl rfl rfl (by decide) rfl ?_
              refine q_iconst rfl ?_
              refine q_iload_n rfl rfl ?_
              refine v_imul (v := 4 * a1) rfl (by omega) ?_
              refine q_iload rfl rfl ?_
              refine v_iadd (v := 4 * a1 + 1) rfl (by omega) ?_
              refine q_dup2 rfl ⟨rfl, rfl⟩ ?_
              refine v_ia (v := c 59 (4 * a1 + 1)) rfl rfl (by decide) (by decide) (by omega) ((up_n (by omega)).trans (up_n (by omega))) ?_
              refine q_iload rfl rfl ?_
              refine v_isub (v := 0) rfl (by decide) ?_
              refine v_is rfl rfl (by decide) (by decide) (by omega) ?_
              refine q_aload_n rfl rfl ?_
              refine v_gr (t := 59) rfl rfl rfl (by decide) rfl ?_
              refine q_iconst rfl ?_
              refine q_iload_n rfl rfl ?_
              refine v_imul (v := 4 * a2) rfl (by omega) ?_
              refine q_iload rfl rfl ?_
              refine v_iadd (v := 4 * a2 + 1) rfl (by omega) ?_
              refine q_dup2 rfl ⟨rfl, rfl⟩ ?_
              refine v_ia (v := c 59 (4 * a2 + 1)) rfl rfl (by decide) (by decide) (by omega) ((up_n (by omega)).trans ((up_n (by omega)).trans (up_n (by omega)))) ?_
              refine q_iload rfl rfl ?_
              refine v_iadd (v := c 59 (4 * a1 + 1) + c 59 (4 * a2 + 1)) rfl (by omega) ?_
              refine v_is rfl rfl (by decide) (by decide) (by omega) ?_
              refine q_iload rfl rfl ?_
              refine q_iload rfl rfl ?_
              refine v_isub (v := a3 - c 59 (4 * a1 + 1) - c 59 (4 * a1)) rfl (by omega) ?_
              refine q_istore rfl (by decide) ?_
              refine v_iinc (v := 2) rfl rfl (by decide) (by decide) ?_
              refine q_goto (t := 39) rfl (by decide) ?_
              refine q_iload rfl rfl ?_
              refine q_iconst rfl ?_
              refine v_ic_ge_f (t := 124) rfl (by decide) (by decide) ?_
              refine q_aload_n rfl rfl ?_
              refine v_gr (t := 59) rfl rfl rfl (by decide) rfl ?_
              refine q_iconst rfl ?_
              refine q_iload_n rfl rfl ?_
              refine v_imul (v := 4 * a1) rfl (by omega) ?_
              refine q_iload rfl rfl ?_
              refine v_iadd (v := 4 * a1 + 2) rfl (by omega) ?_
              refine v_ia (v := c 59 (4 * a1 + 2)) rfl rfl (by decide) (by decide) (by omega) ((up_n (by omega)).trans ((up_n (by omega)).trans ((up_n (by omega)).trans (up_n (by omega))))) ?_
              refine q_iload rfl rfl ?_
              by_cases h_262 : c 59 (4 * a1 + 2) ≥ a3 - c 59 (4 * a1 + 1) - c 59 (4 * a1)
              · refine v_ic_ge_t (t := 75) rfl (by decide) (by omega) ?_
                refine q_iload rfl rfl ?_
                refine q_istore rfl (by decide) ?_
                refine q_aload_n rfl rfl ?_
                refine v_gr (t := 59) rfl rfl rfl (by decide) rfl ?_
                refine q_iconst rfl ?_
                refine q_iload_n rfl rfl ?_
                refine v_imul (v := 4 * a1) rfl (by omega) ?_
                refine q_iload rfl rfl ?_
                refine v_iadd (v := 4 * a1 + 2) rfl (by omega) ?_
                refine q_dup2 rfl ⟨rfl, rfl⟩ ?_
                refine v_ia (v := c 59 (4 * a1 + 2)) rfl rfl (by decide) (by decide) (by omega) ((up_n (by omega)).trans ((up_n (by omega)).trans ((up_n (by omega)).trans (up_n (by omega))))) ?_
                refine q_iload rfl rfl ?_
                refine v_isub (v := c 59 (4 * a1 + 1) + c 59 (4 * a1 + 2) + c 59 (4 * a1) - a3) rfl (by omega) ?_
                refine v_is rfl rfl (by decide) (by decide) (by omega) ?_
                refine q_aload_n rfl rfl ?_
                refine v_gr (t := 59) rfl rfl rfl (by decide) rfl ?_
                refine q_iconst rfl ?_
                refine q_iload_n rfl rfl ?_
                refine v_imul (v := 4 * a2) rfl (by omega) ?_
                refine q_iload rfl rfl ?_
                refine v_iadd (v := 4 * a2 + 2) rfl (by omega) ?_
                refine q_dup2 rfl ⟨rfl, rfl⟩ ?_
                refine v_ia (v := c 59 (4 * a2 + 2)) rfl rfl (by decide) (by decide) (by omega) ((up_n (by omega)).trans ((up_n (by omega)).trans ((up_n (by omega)).trans ((up_n (by omega)).trans (up_n (by omega)))))) ?_
                refine q_iload rfl rfl ?_
                refine v_iadd (v := a3 + c 59 (4 * a2 + 2) - c 59 (4 * a1 + 1) - c 59 (4 * a1)) rfl (by omega) ?_
                refine v_is rfl rfl (by decide) (by decide) (by omega) ?_
                refine q_iload rfl rfl ?_
                refine q_iload rfl rfl ?_
                refine v_isub (v := 0) rfl (by decide) ?_
                refine q_istore rfl (by decide) ?_
                refine Wp_ls [(4, vi 0), (6, vi (a3 - c 59 (4 * a1 + 1) - c 59 (4 * a1))), (5, vi 2), (0, .ref 41), (1, vi a1), (2, vi a2), (3, vi a3)] (lsub_cons rfl (lsub_cons rfl (lsub_cons rfl (lsub_cons rfl (lsub_cons rfl (lsub_cons rfl (lsub_cons rfl lsub_nil))))))) ?_
                refine v_iinc (v := 3) rfl rfl (by decide) (by decide) ?_
                refine q_goto (t := 39) rfl (by decide) ?_
                refine q_iload rfl rfl ?_
                refine q_iconst rfl ?_
                refine v_ic_ge_f (t := 124) rfl (by decide) (by decide) ?_
                refine q_aload_n rfl rfl ?_
                refine v_gr (t := 59) rfl rfl rfl (by decide) rfl ?_
                refine q_iconst rfl ?_
                refine q_iload_n rfl rfl ?_
                refine v_imul (v := 4 * a1) rfl (by omega) ?_
                refine q_iload rfl rfl ?_
                refine v_iadd (v := 4 * a1 + 3) rfl (by omega) ?_
                refine v_ia (v := c 59 (4 * a1 + 3)) rfl rfl (by decide) (by decide) (by omega) ((up_n (by omega)).trans ((up_n (by omega)).trans ((up_n (by omega)).trans ((up_n (by omega)).trans ((up_n (by omega)).trans (up_n (by omega))))))) ?_
                refine q_iload rfl rfl ?_
                refine v_ic_ge_t (t := 75) rfl (by decide) (by omega) ?_
                refine q_iload rfl rfl ?_
                refine q_istore rfl (by decide) ?_
                refine q_aload_n rfl rfl ?_
                refine v_gr (t := 59) rfl rfl rfl (by decide) rfl ?_
                refine q_iconst rfl ?_
                refine q_iload_n rfl rfl ?_
                refine v_imul (v := 4 * a1) rfl (by omega) ?_
                refine q_iload rfl rfl ?_
                refine v_iadd (v := 4 * a1 + 3) rfl (by omega) ?_
                refine q_dup2 rfl ⟨rfl, rfl⟩ ?_
                refine v_ia (v := c 59 (4 * a1 + 3)) rfl rfl (by decide) (by decide) (by omega) ((up_n (by omega)).trans ((up_n (by omega)).trans ((up_n (by omega)).trans ((up_n (by omega)).trans ((up_n (by omega)).trans (up_n (by omega))))))) ?_
                refine q_iload rfl rfl ?_
                refine v_isub (v := c 59 (4 * a1 + 3)) rfl (by omega) ?_
                refine v_is rfl rfl (by decide) (by decide) (by omega) ?_
                refine q_aload_n rfl rfl ?_
                refine v_gr (t := 59) rfl rfl rfl (by decide) rfl ?_
                refine q_iconst rfl ?_
                refine q_iload_n rfl rfl ?_
                refine v_imul (v := 4 * a2) rfl (by omega) ?_
                refine q_iload rfl rfl ?_
                refine v_iadd (v := 4 * a2 + 3) rfl (by omega) ?_
                refine q_dup2 rfl ⟨rfl, rfl⟩ ?_
                refine v_ia (v := c 59 (4 * a2 + 3)) rfl rfl (by decide) (by decide) (by omega) ((up_n (by omega)).trans ((up_n (by omega)).trans ((up_n (by omega)).trans ((up_n (by omega)).trans ((up_n (by omega)).trans ((up_n (by omega)).trans (up_n (by omega)))))))) ?_
                refine q_iload rfl rfl ?_
                refine v_iadd (v := c 59 (4 * a2 + 3)) rfl (by omega) ?_
                refine v_is rfl rfl (by decide) (by decide) (by omega) ?_
                refine q_iload rfl rfl ?_
                refine q_iload rfl rfl ?_
                refine v_isub (v := 0) rfl (by decide) ?_
                refine q_istore rfl (by decide) ?_
                refine v_iinc (v := 4) rfl rfl (by decide) (by decide) ?_
                refine q_goto (t := 39) rfl (by decide) ?_
                refine q_iload rfl rfl ?_
                refine q_iconst rfl ?_
                refine v_ic_ge_t (t := 124) rfl (by decide) (by decide) ?_
                refine q_aload_n rfl rfl ?_
                refine q_iload_n rfl rfl ?_
                refine q_aload_n rfl rfl ?_
                refine v_gr (t := 59) rfl rfl rfl (by decide) rfl ?_
                refine v_bip rfl (by decide) ?_
                refine q_iload_n rfl rfl ?_
                refine v_iadd (v := a1 + 24) rfl (by omega) ?_
                have h_263 := ir_59 hI (a1 + 24)
                refine v_ia (v := c 59 (a1 + 24)) rfl rfl (by decide) (by decide) (by omega) ((up_n (by omega)).trans ((up_n (by omega)).trans ((up_n (by omega)).trans ((up_n (by omega)).trans ((up_n (by omega)).trans ((up_n (by omega)).trans ((up_n (by omega)).trans (up_n (by omega))))))))) ?_
                have hI_264 := iw_row (a := 59) (j := 4 * a1) (v := 0) hIo (by omega) (Or.inl rfl) ⟨by omega, by omega, by omega⟩
                have hI_265 := iw_row (a := 59) (j := 4 * a2) (v := c 59 (4 * a1) + c 59 (4 * a2)) hI_264 (by omega) (Or.inl rfl) ⟨by omega, by omega, by omega⟩
                have hI_266 := iw_row (a := 59) (j := 4 * a1 + 1) (v := 0) hI_265 (by omega) (Or.inl rfl) ⟨by omega, by omega, by omega⟩
                have hI_267 := iw_row (a := 59) (j := 4 * a2 + 1) (v := c 59 (4 * a1 + 1) + c 59 (4 * a2 + 1)) hI_266 (by omega) (Or.inl rfl) ⟨by omega, by omega, by omega⟩
                have hI_268 := iw_row (a := 59) (j := 4 * a1 + 2) (v := c 59 (4 * a1 + 1) + c 59 (4 * a1 + 2) + c 59 (4 * a1) - a3) hI_267 (by omega) (Or.inl rfl) ⟨by omega, by omega, by omega⟩
                have hI_269 := iw_row (a := 59) (j := 4 * a2 + 2) (v := a3 + c 59 (4 * a2 + 2) - c 59 (4 * a1 + 1) - c 59 (4 * a1)) hI_268 (by omega) (Or.inl rfl) ⟨by omega, by omega, by omega⟩
                have hI_270 := iw_row (a := 59) (j := 4 * a1 + 3) (v := c 59 (4 * a1 + 3)) hI_269 (by omega) (Or.inl rfl) ⟨by omega, by omega, by omega⟩
                have hI_271 := iw_row (a := 59) (j := 4 * a2 + 3) (v := c 59 (4 * a2 + 3)) hI_270 (by omega) (Or.inl rfl) ⟨by omega, by omega, by omega⟩
                refine v_cv rfl rfl rfl rfl (by decide) ⟨⟨rfl, rfl⟩, by decide, rfl⟩ (Nat.le_of_ble_eq_true rfl) (Nat.le_of_ble_eq_true rfl) (s_191 (a1 := a2) (a2 := c 59 (a1 + 24)) hI_271 (show 0 ≤ a2 ∧ a2 ≤ 5 from by omega) (show (-2147483648) ≤ c 59 (a1 + 24) ∧ c 59 (a1 + 24) ≤ 2147483647 from by omega) (fun c_272 hI_273 hF_274 => ?_))
                refine bk_inl ?_
                refine q_aload_n rfl rfl ?_
                refine q_iload_n rfl rfl ?_
                have kn_275 : Hid (c_272 59 (4 * a1) = 0) := (hF_274 59 (4 * a1) (by omega)).trans ((up_n (by omega)).trans ((up_n (by omega)).trans ((up_n (by omega)).trans ((up_n (by omega)).trans ((up_n (by omega)).trans ((up_n (by omega)).trans ((up_n (by omega)).trans (up_e rfl))))))))
                have kn_276 : Hid (c_272 59 (4 * a1 + 1) = 0) := (hF_274 59 (4 * a1 + 1) (by omega)).trans ((up_n (by omega)).trans ((up_n (by omega)).trans ((up_n (by omega)).trans ((up_n (by omega)).trans ((up_n (by omega)).trans (up_e rfl))))))
                have kn_277 : Hid (c_272 59 (4 * a1 + 2) = c 59 (4 * a1 + 1) + c 59 (4 * a1 + 2) + c 59 (4 * a1) - a3) := (hF_274 59 (4 * a1 + 2) (by omega)).trans ((up_n (by omega)).trans ((up_n (by omega)).trans ((up_n (by omega)).trans (up_e rfl))))
                have kn_278 : Hid (c_272 59 (4 * a1 + 3) = c 59 (4 * a1 + 3)) := (hF_274 59 (4 * a1 + 3) (by omega)).trans ((up_n (by omega)).trans (up_e rfl))
                refine v_cv rfl rfl rfl rfl (by decide) ⟨⟨rfl, rfl⟩, by decide, rfl⟩ (Nat.le_of_ble_eq_true rfl) (Nat.le_of_ble_eq_true rfl) (s_187 (v1 := 0) (v2 := 0) (v3 := c 59 (4 * a1 + 1) + c 59 (4 * a1 + 2) + c 59 (4 * a1) - a3) (v4 := c 59 (4 * a1 + 3)) (r := c 59 (4 * a1 + 1) + c 59 (4 * a1 + 2) + c 59 (4 * a1 + 3) + c 59 (4 * a1) - a3) (a1 := a1) hI_273 (show 0 ≤ a1 ∧ a1 ≤ 5 from by omega) ((hid kn_275)) ((hid kn_276)) ((hid kn_277)) ((hid kn_278)) (by omega) ?_)
                refine bk_inl ?_
                by_cases h_279 : c 59 (4 * a1 + 1) + c 59 (4 * a1 + 2) + c 59 (4 * a1 + 3) + c 59 (4 * a1) - a3 ≠ 0
                · refine v_if_ne_t (t := 151) rfl (by decide) (by omega) ?_
                  refine q_iconst rfl ?_
                  refine v_zret rfl rfl (by omega) ?_
                  have hr_280 : ∀ j : Int, rs 59 j → c_272 59 j + c_272 59 (j + 1) + c_272 59 (j + 2) + c_272 59 (j + 3) ≤ 9999 := by
                    intro j9 hj9
                    obtain ⟨k9, rfl, hk9⟩ := rs_59 hj9
                    by_cases e_281 : k9 = a1
                    · skip
                      have h_282 : c_272 59 (4 * k9) = 0 := (congrArg (c_272 59) (show 4 * k9 = 4 * a1 from by omega)).trans (hid kn_275)
                      have h_283 : c_272 59 (4 * k9 + 1) = 0 := (congrArg (c_272 59) (show 4 * k9 + 1 = 4 * a1 + 1 from by omega)).trans (hid kn_276)
                      have h_284 : c_272 59 (4 * k9 + 2) = c 59 (4 * a1 + 1) + c 59 (4 * a1 + 2) + c 59 (4 * a1) - a3 := (congrArg (c_272 59) (show 4 * k9 + 2 = 4 * a1 + 2 from by omega)).trans (hid kn_277)
                      have h_285 : c_272 59 (4 * k9 + 3) = c 59 (4 * a1 + 3) := (congrArg (c_272 59) (show 4 * k9 + 3 = 4 * a1 + 3 from by omega)).trans (hid kn_278)
                      omega
                    by_cases e_286 : k9 = a2
                    · skip
                      have kn_287 : Hid (c_272 59 (4 * a2) = c 59 (4 * a1) + c 59 (4 * a2)) := (hF_274 59 (4 * a2) (by omega)).trans ((up_n (by omega)).trans ((up_n (by omega)).trans ((up_n (by omega)).trans ((up_n (by omega)).trans ((up_n (by omega)).trans ((up_n (by omega)).trans (up_e rfl)))))))
                      have h_288 : c_272 59 (4 * k9) = c 59 (4 * a1) + c 59 (4 * a2) := (congrArg (c_272 59) (show 4 * k9 = 4 * a2 from by omega)).trans (hid kn_287)
                      have kn_289 : Hid (c_272 59 (4 * a2 + 1) = c 59 (4 * a1 + 1) + c 59 (4 * a2 + 1)) := (hF_274 59 (4 * a2 + 1) (by omega)).trans ((up_n (by omega)).trans ((up_n (by omega)).trans ((up_n (by omega)).trans ((up_n (by omega)).trans (up_e rfl)))))
                      have h_290 : c_272 59 (4 * k9 + 1) = c 59 (4 * a1 + 1) + c 59 (4 * a2 + 1) := (congrArg (c_272 59) (show 4 * k9 + 1 = 4 * a2 + 1 from by omega)).trans (hid kn_289)
                      have kn_291 : Hid (c_272 59 (4 * a2 + 2) = a3 + c 59 (4 * a2 + 2) - c 59 (4 * a1 + 1) - c 59 (4 * a1)) := (hF_274 59 (4 * a2 + 2) (by omega)).trans ((up_n (by omega)).trans ((up_n (by omega)).trans (up_e rfl)))
                      have h_292 : c_272 59 (4 * k9 + 2) = a3 + c 59 (4 * a2 + 2) - c 59 (4 * a1 + 1) - c 59 (4 * a1) := (congrArg (c_272 59) (show 4 * k9 + 2 = 4 * a2 + 2 from by omega)).trans (hid kn_291)
                      have kn_293 : Hid (c_272 59 (4 * a2 + 3) = c 59 (4 * a2 + 3)) := (hF_274 59 (4 * a2 + 3) (by omega)).trans (up_e rfl)
                      have h_294 : c_272 59 (4 * k9 + 3) = c 59 (4 * a2 + 3) := (congrArg (c_272 59) (show 4 * k9 + 3 = 4 * a2 + 3 from by omega)).trans (hid kn_293)
                      omega
                    have h_295 := iv_r hI 59 (4 * k9) hj9 (by omega)
                    have h_296 := ir_59_g hI (j := 4 * k9) (by omega)
                    have kn_297 : Hid (c_272 59 (4 * k9) = c 59 (4 * k9)) := (hF_274 59 (4 * k9) (by omega)).trans ((up_n (by omega)).trans ((up_n (by omega)).trans ((up_n (by omega)).trans ((up_n (by omega)).trans ((up_n (by omega)).trans ((up_n (by omega)).trans ((up_n (by omega)).trans (up_n (by omega)))))))))
                    have h_298 : c_272 59 (4 * k9) = c 59 (4 * k9) := (hid kn_297)
                    have h_299 := ir_59_g hI (j := 4 * k9 + 1) (by omega)
                    have kn_300 : Hid (c_272 59 (4 * k9 + 1) = c 59 (4 * k9 + 1)) := (hF_274 59 (4 * k9 + 1) (by omega)).trans ((up_n (by omega)).trans ((up_n (by omega)).trans ((up_n (by omega)).trans ((up_n (by omega)).trans ((up_n (by omega)).trans ((up_n (by omega)).trans ((up_n (by omega)).trans (up_n (by omega)))))))))
                    have h_301 : c_272 59 (4 * k9 + 1) = c 59 (4 * k9 + 1) := (hid kn_300)
                    have h_302 := ir_59_g hI (j := 4 * k9 + 2) (by omega)
                    have kn_303 : Hid (c_272 59 (4 * k9 + 2) = c 59 (4 * k9 + 2)) := (hF_274 59 (4 * k9 + 2) (by omega)).trans ((up_n (by omega)).trans ((up_n (by omega)).trans ((up_n (by omega)).trans ((up_n (by omega)).trans ((up_n (by omega)).trans ((up_n (by omega)).trans ((up_n (by omega)).trans (up_n (by omega)))))))))
                    have h_304 : c_272 59 (4 * k9 + 2) = c 59 (4 * k9 + 2) := (hid kn_303)
                    have h_305 := ir_59_g hI (j := 4 * k9 + 3) (by omega)
                    have kn_306 : Hid (c_272 59 (4 * k9 + 3) = c 59 (4 * k9 + 3)) := (hF_274 59 (4 * k9 + 3) (by omega)).trans ((up_n (by omega)).trans ((up_n (by omega)).trans ((up_n (by omega)).trans ((up_n (by omega)).trans ((up_n (by omega)).trans ((up_n (by omega)).trans ((up_n (by omega)).trans (up_n (by omega)))))))))
                    have h_307 : c_272 59 (4 * k9 + 3) = c 59 (4 * k9 + 3) := (hid kn_306)
                    omega
                  have hI_308 := iv_close hI_273 hr_280
                  exact K c_272 1 hI_308 (fun a j hm => (hF_274 a j (by omega)).trans ((up_b (by omega)).trans ((up_b (by omega)).trans ((up_b (by omega)).trans ((up_b (by omega)).trans ((up_b (by omega)).trans ((up_b (by omega)).trans ((up_b (by omega)).trans (up_b (by omega)))))))))) ⟨by decide, by decide⟩
                · refine v_if_ne_f (t := 151) rfl (by decide) (by omega) ?_
                  refine q_aload_n rfl rfl ?_
                  refine q_iload_n rfl rfl ?_
                  refine v_cv rfl rfl rfl rfl (by decide) ⟨⟨rfl, rfl⟩, by decide, rfl⟩ (Nat.le_of_ble_eq_true rfl) (Nat.le_of_ble_eq_true rfl) (s_192 (a1 := a1) hI_273 (show 0 ≤ a1 ∧ a1 ≤ 5 from by omega) (fun c_309 hI_310 hF_311 h_312 => ?_))
                  refine bk_inl ?_
                  have h_313 := ir_59_g hI_310 (j := 4 * a1 + 1) (by omega)
                  have h_314 := ir_59_g hI_310 (j := 4 * a1 + 2) (by omega)
                  have h_315 := ir_59_g hI_310 (j := 4 * a1 + 3) (by omega)
                  have h_316 := ir_59_g hI_310 (j := 4 * a1) (by omega)
                  refine q_iconst rfl ?_
                  refine v_zret rfl rfl (by omega) ?_
                  have hr_317 : ∀ j : Int, rs 59 j → c_309 59 j + c_309 59 (j + 1) + c_309 59 (j + 2) + c_309 59 (j + 3) ≤ 9999 := by
                    intro j9 hj9
                    obtain ⟨k9, rfl, hk9⟩ := rs_59 hj9
                    by_cases e_318 : k9 = a1
                    · skip
                      have h_319 : c_309 59 (4 * k9) = c_309 59 (4 * a1) := (congrArg (c_309 59) (show 4 * k9 = 4 * a1 from by omega))
                      have h_320 : c_309 59 (4 * k9 + 1) = c_309 59 (4 * a1 + 1) := (congrArg (c_309 59) (show 4 * k9 + 1 = 4 * a1 + 1 from by omega))
                      have h_321 : c_309 59 (4 * k9 + 2) = c_309 59 (4 * a1 + 2) := (congrArg (c_309 59) (show 4 * k9 + 2 = 4 * a1 + 2 from by omega))
                      have h_322 : c_309 59 (4 * k9 + 3) = c_309 59 (4 * a1 + 3) := (congrArg (c_309 59) (show 4 * k9 + 3 = 4 * a1 + 3 from by omega))
                      omega
                    by_cases e_323 : k9 = a2
                    · skip
                      have kn_324 : Hid (c_272 59 (4 * a2) = c 59 (4 * a1) + c 59 (4 * a2)) := (hF_274 59 (4 * a2) (by omega)).trans ((up_n (by omega)).trans ((up_n (by omega)).trans ((up_n (by omega)).trans ((up_n (by omega)).trans ((up_n (by omega)).trans ((up_n (by omega)).trans (up_e rfl)))))))
                      have kn_325 : Hid (c_309 59 (4 * a2) = c 59 (4 * a1) + c 59 (4 * a2)) := (hF_311 59 (4 * a2) (by omega)).trans (hid kn_324)
                      have h_326 : c_309 59 (4 * k9) = c 59 (4 * a1) + c 59 (4 * a2) := (congrArg (c_309 59) (show 4 * k9 = 4 * a2 from by omega)).trans (hid kn_325)
                      have kn_327 : Hid (c_272 59 (4 * a2 + 1) = c 59 (4 * a1 + 1) + c 59 (4 * a2 + 1)) := (hF_274 59 (4 * a2 + 1) (by omega)).trans ((up_n (by omega)).trans ((up_n (by omega)).trans ((up_n (by omega)).trans ((up_n (by omega)).trans (up_e rfl)))))
                      have kn_328 : Hid (c_309 59 (4 * a2 + 1) = c 59 (4 * a1 + 1) + c 59 (4 * a2 + 1)) := (hF_311 59 (4 * a2 + 1) (by omega)).trans (hid kn_327)
                      have h_329 : c_309 59 (4 * k9 + 1) = c 59 (4 * a1 + 1) + c 59 (4 * a2 + 1) := (congrArg (c_309 59) (show 4 * k9 + 1 = 4 * a2 + 1 from by omega)).trans (hid kn_328)
                      have kn_330 : Hid (c_272 59 (4 * a2 + 2) = a3 + c 59 (4 * a2 + 2) - c 59 (4 * a1 + 1) - c 59 (4 * a1)) := (hF_274 59 (4 * a2 + 2) (by omega)).trans ((up_n (by omega)).trans ((up_n (by omega)).trans (up_e rfl)))
                      have kn_331 : Hid (c_309 59 (4 * a2 + 2) = a3 + c 59 (4 * a2 + 2) - c 59 (4 * a1 + 1) - c 59 (4 * a1)) := (hF_311 59 (4 * a2 + 2) (by omega)).trans (hid kn_330)
                      have h_332 : c_309 59 (4 * k9 + 2) = a3 + c 59 (4 * a2 + 2) - c 59 (4 * a1 + 1) - c 59 (4 * a1) := (congrArg (c_309 59) (show 4 * k9 + 2 = 4 * a2 + 2 from by omega)).trans (hid kn_331)
                      have kn_333 : Hid (c_272 59 (4 * a2 + 3) = c 59 (4 * a2 + 3)) := (hF_274 59 (4 * a2 + 3) (by omega)).trans (up_e rfl)
                      have kn_334 : Hid (c_309 59 (4 * a2 + 3) = c 59 (4 * a2 + 3)) := (hF_311 59 (4 * a2 + 3) (by omega)).trans (hid kn_333)
                      have h_335 : c_309 59 (4 * k9 + 3) = c 59 (4 * a2 + 3) := (congrArg (c_309 59) (show 4 * k9 + 3 = 4 * a2 + 3 from by omega)).trans (hid kn_334)
                      omega
                    have h_336 := iv_r hI 59 (4 * k9) hj9 (by omega)
                    have h_337 := ir_59_g hI (j := 4 * k9) (by omega)
                    have kn_338 : Hid (c_272 59 (4 * k9) = c 59 (4 * k9)) := (hF_274 59 (4 * k9) (by omega)).trans ((up_n (by omega)).trans ((up_n (by omega)).trans ((up_n (by omega)).trans ((up_n (by omega)).trans ((up_n (by omega)).trans ((up_n (by omega)).trans ((up_n (by omega)).trans (up_n (by omega)))))))))
                    have kn_339 : Hid (c_309 59 (4 * k9) = c 59 (4 * k9)) := (hF_311 59 (4 * k9) (by omega)).trans (hid kn_338)
                    have h_340 : c_309 59 (4 * k9) = c 59 (4 * k9) := (hid kn_339)
                    have h_341 := ir_59_g hI (j := 4 * k9 + 1) (by omega)
                    have kn_342 : Hid (c_272 59 (4 * k9 + 1) = c 59 (4 * k9 + 1)) := (hF_274 59 (4 * k9 + 1) (by omega)).trans ((up_n (by omega)).trans ((up_n (by omega)).trans ((up_n (by omega)).trans ((up_n (by omega)).trans ((up_n (by omega)).trans ((up_n (by omega)).trans ((up_n (by omega)).trans (up_n (by omega)))))))))
                    have kn_343 : Hid (c_309 59 (4 * k9 + 1) = c 59 (4 * k9 + 1)) := (hF_311 59 (4 * k9 + 1) (by omega)).trans (hid kn_342)
                    have h_344 : c_309 59 (4 * k9 + 1) = c 59 (4 * k9 + 1) := (hid kn_343)
                    have h_345 := ir_59_g hI (j := 4 * k9 + 2) (by omega)
                    have kn_346 : Hid (c_272 59 (4 * k9 + 2) = c 59 (4 * k9 + 2)) := (hF_274 59 (4 * k9 + 2) (by omega)).trans ((up_n (by omega)).trans ((up_n (by omega)).trans ((up_n (by omega)).trans ((up_n (by omega)).trans ((up_n (by omega)).trans ((up_n (by omega)).trans ((up_n (by omega)).trans (up_n (by omega)))))))))
                    have kn_347 : Hid (c_309 59 (4 * k9 + 2) = c 59 (4 * k9 + 2)) := (hF_311 59 (4 * k9 + 2) (by omega)).trans (hid kn_346)
                    have h_348 : c_309 59 (4 * k9 + 2) = c 59 (4 * k9 + 2) := (hid kn_347)
                    have h_349 := ir_59_g hI (j := 4 * k9 + 3) (by omega)
                    have kn_350 : Hid (c_272 59 (4 * k9 + 3) = c 59 (4 * k9 + 3)) := (hF_274 59 (4 * k9 + 3) (by omega)).trans ((up_n (by omega)).trans ((up_n (by omega)).trans ((up_n (by omega)).trans ((up_n (by omega)).trans ((up_n (by omega)).trans ((up_n (by omega)).trans ((up_n (by omega)).trans (up_n (by omega)))))))))
                    have kn_351 : Hid (c_309 59 (4 * k9 + 3) = c 59 (4 * k9 + 3)) := (hF_311 59 (4 * k9 + 3) (by omega)).trans (hid kn_350)
                    have h_352 : c_309 59 (4 * k9 + 3) = c 59 (4 * k9 + 3) := (hid kn_351)
                    omega
                  have hI_353 := iv_close hI_310 hr_317
                  exact K c_309 1 hI_353 (fun a j hm => (hF_311 a j (by omega)).trans ((hF_274 a j (by omega)).trans ((up_b (by omega)).trans ((up_b (by omega)).trans ((up_b (by omega)).trans ((up_b (by omega)).trans ((up_b (by omega)).trans ((up_b (by omega)).trans ((up_b (by omega)).trans (up_b (by omega))))))))))) ⟨by decide, by decide⟩
              · refine v_ic_ge_f (t := 75) rfl (by decide) (by omega) ?_
                refine q_aload_n rfl rfl ?_
                refine v_gr (t := 59) rfl rfl rfl (by decide) rfl ?_
                refine q_iconst rfl ?_
                refine q_iload_n rfl rfl ?_
                refine v_imul (v := 4 * a1) rfl (by omega) ?_
                refine q_iload rfl rfl ?_
                refine v_iadd (v := 4 * a1 + 2) rfl (by omega) ?_
                refine v_ia (v := c 59 (4 * a1 + 2)) rfl rfl (by decide) (by decide) (by omega) ((up_n (by omega)).trans ((up_n (by omega)).trans ((up_n (by omega)).trans (up_n (by omega))))) ?_
                refine q_goto (t := 77) rfl (by decide) ?_
                refine q_istore rfl (by decide) ?_
                refine q_aload_n rfl rfl ?_
                refine v_gr (t := 59) rfl rfl rfl (by decide) rfl ?_
                refine q_iconst rfl ?_
                refine q_iload_n rfl rfl ?_
                refine v_imul (v := 4 * a1) rfl (by omega) ?_
                refine q_iload rfl rfl ?_
                refine v_iadd (v := 4 * a1 + 2) rfl (by omega) ?_
                refine q_dup2 rfl ⟨rfl, rfl⟩ ?_
                refine v_ia (v := c 59 (4 * a1 + 2)) rfl rfl (by decide) (by decide) (by omega) ((up_n (by omega)).trans ((up_n (by omega)).trans ((up_n (by omega)).trans (up_n (by omega))))) ?_
                refine q_iload rfl rfl ?_
                refine v_isub (v := 0) rfl (by decide) ?_
                refine v_is rfl rfl (by decide) (by decide) (by omega) ?_
                refine q_aload_n rfl rfl ?_
                refine v_gr (t := 59) rfl rfl rfl (by decide) rfl ?_
                refine q_iconst rfl ?_
                refine q_iload_n rfl rfl ?_
                refine v_imul (v := 4 * a2) rfl (by omega) ?_
                refine q_iload rfl rfl ?_
                refine v_iadd (v := 4 * a2 + 2) rfl (by omega) ?_
                refine q_dup2 rfl ⟨rfl, rfl⟩ ?_
                refine v_ia (v := c 59 (4 * a2 + 2)) rfl rfl (by decide) (by decide) (by omega) ((up_n (by omega)).trans ((up_n (by omega)).trans ((up_n (by omega)).trans ((up_n (by omega)).trans (up_n (by omega)))))) ?_
                refine q_iload rfl rfl ?_
                refine v_iadd (v := c 59 (4 * a1 + 2) + c 59 (4 * a2 + 2)) rfl (by omega) ?_
                refine v_is rfl rfl (by decide) (by decide) (by omega) ?_
                refine q_iload rfl rfl ?_
                refine q_iload rfl rfl ?_
                refine v_isub (v := a3 - c 59 (4 * a1 + 1) - c 59 (4 * a1 + 2) - c 59 (4 * a1)) rfl (by omega) ?_
                refine q_istore rfl (by decide) ?_
                refine Wp_ls [(4, vi (a3 - c 59 (4 * a1 + 1) - c 59 (4 * a1 + 2) - c 59 (4 * a1))), (6, vi (c 59 (4 * a1 + 2))), (5, vi 2), (0, .ref 41), (1, vi a1), (2, vi a2), (3, vi a3)] (lsub_cons rfl (lsub_cons rfl (lsub_cons rfl (lsub_cons rfl (lsub_cons rfl (lsub_cons rfl (lsub_cons rfl lsub_nil))))))) ?_
                refine v_iinc (v := 3) rfl rfl (by decide) (by decide) ?_
                refine q_goto (t := 39) rfl (by decide) ?_
                refine q_iload rfl rfl ?_
                refine q_iconst rfl ?_
                refine v_ic_ge_f (t := 124) rfl (by decide) (by decide) ?_
                refine q_aload_n rfl rfl ?_
                refine v_gr (t := 59) rfl rfl rfl (by decide) rfl ?_
                refine q_iconst rfl ?_
                refine q_iload_n rfl rfl ?_
                refine v_imul (v := 4 * a1) rfl (by omega) ?_
                refine q_iload rfl rfl ?_
                refine v_iadd (v := 4 * a1 + 3) rfl (by omega) ?_
                refine v_ia (v := c 59 (4 * a1 + 3)) rfl rfl (by decide) (by decide) (by omega) ((up_n (by omega)).trans ((up_n (by omega)).trans ((up_n (by omega)).trans ((up_n (by omega)).trans ((up_n (by omega)).trans (up_n (by omega))))))) ?_
                refine q_iload rfl rfl ?_
                refine v_ic_ge_t (t := 75) rfl (by decide) (by omega) ?_
                refine q_iload rfl rfl ?_
                refine q_istore rfl (by decide) ?_
                refine q_aload_n rfl rfl ?_
                refine v_gr (t := 59) rfl rfl rfl (by decide) rfl ?_
                refine q_iconst rfl ?_
                refine q_iload_n rfl rfl ?_
                refine v_imul (v := 4 * a1) rfl (by omega) ?_
                refine q_iload rfl rfl ?_
                refine v_iadd (v := 4 * a1 + 3) rfl (by omega) ?_
                refine q_dup2 rfl ⟨rfl, rfl⟩ ?_
                refine v_ia (v := c 59 (4 * a1 + 3)) rfl rfl (by decide) (by decide) (by omega) ((up_n (by omega)).trans ((up_n (by omega)).trans ((up_n (by omega)).trans ((up_n (by omega)).trans ((up_n (by omega)).trans (up_n (by omega))))))) ?_
                refine q_iload rfl rfl ?_
                refine v_isub (v := c 59 (4 * a1 + 1) + c 59 (4 * a1 + 2) + c 59 (4 * a1 + 3) + c 59 (4 * a1) - a3) rfl (by omega) ?_
                refine v_is rfl rfl (by decide) (by decide) (by omega) ?_
                refine q_aload_n rfl rfl ?_
                refine v_gr (t := 59) rfl rfl rfl (by decide) rfl ?_
                refine q_iconst rfl ?_
                refine q_iload_n rfl rfl ?_
                refine v_imul (v := 4 * a2) rfl (by omega) ?_
                refine q_iload rfl rfl ?_
                refine v_iadd (v := 4 * a2 + 3) rfl (by omega) ?_
                refine q_dup2 rfl ⟨rfl, rfl⟩ ?_
                refine v_ia (v := c 59 (4 * a2 + 3)) rfl rfl (by decide) (by decide) (by omega) ((up_n (by omega)).trans ((up_n (by omega)).trans ((up_n (by omega)).trans ((up_n (by omega)).trans ((up_n (by omega)).trans ((up_n (by omega)).trans (up_n (by omega)))))))) ?_
                refine q_iload rfl rfl ?_
                refine v_iadd (v := a3 + c 59 (4 * a2 + 3) - c 59 (4 * a1 + 1) - c 59 (4 * a1 + 2) - c 59 (4 * a1)) rfl (by omega) ?_
                refine v_is rfl rfl (by decide) (by decide) (by omega) ?_
                refine q_iload rfl rfl ?_
                refine q_iload rfl rfl ?_
                refine v_isub (v := 0) rfl (by decide) ?_
                refine q_istore rfl (by decide) ?_
                refine v_iinc (v := 4) rfl rfl (by decide) (by decide) ?_
                refine q_goto (t := 39) rfl (by decide) ?_
                refine q_iload rfl rfl ?_
                refine q_iconst rfl ?_
                refine v_ic_ge_t (t := 124) rfl (by decide) (by decide) ?_
                refine q_aload_n rfl rfl ?_
                refine q_iload_n rfl rfl ?_
                refine q_aload_n rfl rfl ?_
                refine v_gr (t := 59) rfl rfl rfl (by decide) rfl ?_
                refine v_bip rfl (by decide) ?_
                refine q_iload_n rfl rfl ?_
                refine v_iadd (v := a1 + 24) rfl (by omega) ?_
                have h_354 := ir_59 hI (a1 + 24)
                refine v_ia (v := c 59 (a1 + 24)) rfl rfl (by decide) (by decide) (by omega) ((up_n (by omega)).trans ((up_n (by omega)).trans ((up_n (by omega)).trans ((up_n (by omega)).trans ((up_n (by omega)).trans ((up_n (by omega)).trans ((up_n (by omega)).trans (up_n (by omega))))))))) ?_
                have hI_355 := iw_row (a := 59) (j := 4 * a1) (v := 0) hIo (by omega) (Or.inl rfl) ⟨by omega, by omega, by omega⟩
                have hI_356 := iw_row (a := 59) (j := 4 * a2) (v := c 59 (4 * a1) + c 59 (4 * a2)) hI_355 (by omega) (Or.inl rfl) ⟨by omega, by omega, by omega⟩
                have hI_357 := iw_row (a := 59) (j := 4 * a1 + 1) (v := 0) hI_356 (by omega) (Or.inl rfl) ⟨by omega, by omega, by omega⟩
                have hI_358 := iw_row (a := 59) (j := 4 * a2 + 1) (v := c 59 (4 * a1 + 1) + c 59 (4 * a2 + 1)) hI_357 (by omega) (Or.inl rfl) ⟨by omega, by omega, by omega⟩
                have hI_359 := iw_row (a := 59) (j := 4 * a1 + 2) (v := 0) hI_358 (by omega) (Or.inl rfl) ⟨by omega, by omega, by omega⟩
                have hI_360 := iw_row (a := 59) (j := 4 * a2 + 2) (v := c 59 (4 * a1 + 2) + c 59 (4 * a2 + 2)) hI_359 (by omega) (Or.inl rfl) ⟨by omega, by omega, by omega⟩
                have hI_361 := iw_row (a := 59) (j := 4 * a1 + 3) (v := c 59 (4 * a1 + 1) + c 59 (4 * a1 + 2) + c 59 (4 * a1 + 3) + c 59 (4 * a1) - a3) hI_360 (by omega) (Or.inl rfl) ⟨by omega, by omega, by omega⟩
                have hI_362 := iw_row (a := 59) (j := 4 * a2 + 3) (v := a3 + c 59 (4 * a2 + 3) - c 59 (4 * a1 + 1) - c 59 (4 * a1 + 2) - c 59 (4 * a1)) hI_361 (by omega) (Or.inl rfl) ⟨by omega, by omega, by omega⟩
                refine v_cv rfl rfl rfl rfl (by decide) ⟨⟨rfl, rfl⟩, by decide, rfl⟩ (Nat.le_of_ble_eq_true rfl) (Nat.le_of_ble_eq_true rfl) (s_191 (a1 := a2) (a2 := c 59 (a1 + 24)) hI_362 (show 0 ≤ a2 ∧ a2 ≤ 5 from by omega) (show (-2147483648) ≤ c 59 (a1 + 24) ∧ c 59 (a1 + 24) ≤ 2147483647 from by omega) (fun c_363 hI_364 hF_365 => ?_))
                refine bk_inl ?_
                refine q_aload_n rfl rfl ?_
                refine q_iload_n rfl rfl ?_
                have kn_366 : Hid (c_363 59 (4 * a1) = 0) := (hF_365 59 (4 * a1) (by omega)).trans ((up_n (by omega)).trans ((up_n (by omega)).trans ((up_n (by omega)).trans ((up_n (by omega)).trans ((up_n (by omega)).trans ((up_n (by omega)).trans ((up_n (by omega)).trans (up_e rfl))))))))
                have kn_367 : Hid (c_363 59 (4 * a1 + 1) = 0) := (hF_365 59 (4 * a1 + 1) (by omega)).trans ((up_n (by omega)).trans ((up_n (by omega)).trans ((up_n (by omega)).trans ((up_n (by omega)).trans ((up_n (by omega)).trans (up_e rfl))))))
                have kn_368 : Hid (c_363 59 (4 * a1 + 2) = 0) := (hF_365 59 (4 * a1 + 2) (by omega)).trans ((up_n (by omega)).trans ((up_n (by omega)).trans ((up_n (by omega)).trans (up_e rfl))))
                have kn_369 : Hid (c_363 59 (4 * a1 + 3) = c 59 (4 * a1 + 1) + c 59 (4 * a1 + 2) + c 59 (4 * a1 + 3) + c 59 (4 * a1) - a3) := (hF_365 59 (4 * a1 + 3) (by omega)).trans ((up_n (by omega)).trans (up_e rfl))
                refine v_cv rfl rfl rfl rfl (by decide) ⟨⟨rfl, rfl⟩, by decide, rfl⟩ (Nat.le_of_ble_eq_true rfl) (Nat.le_of_ble_eq_true rfl) (s_187 (v1 := 0) (v2 := 0) (v3 := 0) (v4 := c 59 (4 * a1 + 1) + c 59 (4 * a1 + 2) + c 59 (4 * a1 + 3) + c 59 (4 * a1) - a3) (r := c 59 (4 * a1 + 1) + c 59 (4 * a1 + 2) + c 59 (4 * a1 + 3) + c 59 (4 * a1) - a3) (a1 := a1) hI_364 (show 0 ≤ a1 ∧ a1 ≤ 5 from by omega) ((hid kn_366)) ((hid kn_367)) ((hid kn_368)) ((hid kn_369)) (by omega) ?_)
                refine bk_inl ?_
                by_cases h_370 : c 59 (4 * a1 + 1) + c 59 (4 * a1 + 2) + c 59 (4 * a1 + 3) + c 59 (4 * a1) - a3 ≠ 0
                · refine v_if_ne_t (t := 151) rfl (by decide) (by omega) ?_
                  refine q_iconst rfl ?_
                  refine v_zret rfl rfl (by omega) ?_
                  have hr_371 : ∀ j : Int, rs 59 j → c_363 59 j + c_363 59 (j + 1) + c_363 59 (j + 2) + c_363 59 (j + 3) ≤ 9999 := by
                    intro j9 hj9
                    obtain ⟨k9, rfl, hk9⟩ := rs_59 hj9
                    by_cases e_372 : k9 = a1
                    · skip
                      have h_373 : c_363 59 (4 * k9) = 0 := (congrArg (c_363 59) (show 4 * k9 = 4 * a1 from by omega)).trans (hid kn_366)
                      have h_374 : c_363 59 (4 * k9 + 1) = 0 := (congrArg (c_363 59) (show 4 * k9 + 1 = 4 * a1 + 1 from by omega)).trans (hid kn_367)
                      have h_375 : c_363 59 (4 * k9 + 2) = 0 := (congrArg (c_363 59) (show 4 * k9 + 2 = 4 * a1 + 2 from by omega)).trans (hid kn_368)
                      have h_376 : c_363 59 (4 * k9 + 3) = c 59 (4 * a1 + 1) + c 59 (4 * a1 + 2) + c 59 (4 * a1 + 3) + c 59 (4 * a1) - a3 := (congrArg (c_363 59) (show 4 * k9 + 3 = 4 * a1 + 3 from by omega)).trans (hid kn_369)
                      omega
                    by_cases e_377 : k9 = a2
                    · skip
                      have kn_378 : Hid (c_363 59 (4 * a2) = c 59 (4 * a1) + c 59 (4 * a2)) := (hF_365 59 (4 * a2) (by omega)).trans ((up_n (by omega)).trans ((up_n (by omega)).trans ((up_n (by omega)).trans ((up_n (by omega)).trans ((up_n (by omega)).trans ((up_n (by omega)).trans (up_e rfl)))))))
                      have h_379 : c_363 59 (4 * k9) = c 59 (4 * a1) + c 59 (4 * a2) := (congrArg (c_363 59) (show 4 * k9 = 4 * a2 from by omega)).trans (hid kn_378)
                      have kn_380 : Hid (c_363 59 (4 * a2 + 1) = c 59 (4 * a1 + 1) + c 59 (4 * a2 + 1)) := (hF_365 59 (4 * a2 + 1) (by omega)).trans ((up_n (by omega)).trans ((up_n (by omega)).trans ((up_n (by omega)).trans ((up_n (by omega)).trans (up_e rfl)))))
                      have h_381 : c_363 59 (4 * k9 + 1) = c 59 (4 * a1 + 1) + c 59 (4 * a2 + 1) := (congrArg (c_363 59) (show 4 * k9 + 1 = 4 * a2 + 1 from by omega)).trans (hid kn_380)
                      have kn_382 : Hid (c_363 59 (4 * a2 + 2) = c 59 (4 * a1 + 2) + c 59 (4 * a2 + 2)) := (hF_365 59 (4 * a2 + 2) (by omega)).trans ((up_n (by omega)).trans ((up_n (by omega)).trans (up_e rfl)))
                      have h_383 : c_363 59 (4 * k9 + 2) = c 59 (4 * a1 + 2) + c 59 (4 * a2 + 2) := (congrArg (c_363 59) (show 4 * k9 + 2 = 4 * a2 + 2 from by omega)).trans (hid kn_382)
                      have kn_384 : Hid (c_363 59 (4 * a2 + 3) = a3 + c 59 (4 * a2 + 3) - c 59 (4 * a1 + 1) - c 59 (4 * a1 + 2) - c 59 (4 * a1)) := (hF_365 59 (4 * a2 + 3) (by omega)).trans (up_e rfl)
                      have h_385 : c_363 59 (4 * k9 + 3) = a3 + c 59 (4 * a2 + 3) - c 59 (4 * a1 + 1) - c 59 (4 * a1 + 2) - c 59 (4 * a1) := (congrArg (c_363 59) (show 4 * k9 + 3 = 4 * a2 + 3 from by omega)).trans (hid kn_384)
                      omega
                    have h_386 := iv_r hI 59 (4 * k9) hj9 (by omega)
                    have h_387 := ir_59_g hI (j := 4 * k9) (by omega)
                    have kn_388 : Hid (c_363 59 (4 * k9) = c 59 (4 * k9)) := (hF_365 59 (4 * k9) (by omega)).trans ((up_n (by omega)).trans ((up_n (by omega)).trans ((up_n (by omega)).trans ((up_n (by omega)).trans ((up_n (by omega)).trans ((up_n (by omega)).trans ((up_n (by omega)).trans (up_n (by omega)))))))))
                    have h_389 : c_363 59 (4 * k9) = c 59 (4 * k9) := (hid kn_388)
                    have h_390 := ir_59_g hI (j := 4 * k9 + 1) (by omega)
                    have kn_391 : Hid (c_363 59 (4 * k9 + 1) = c 59 (4 * k9 + 1)) := (hF_365 59 (4 * k9 + 1) (by omega)).trans ((up_n (by omega)).trans ((up_n (by omega)).trans ((up_n (by omega)).trans ((up_n (by omega)).trans ((up_n (by omega)).trans ((up_n (by omega)).trans ((up_n (by omega)).trans (up_n (by omega)))))))))
                    have h_392 : c_363 59 (4 * k9 + 1) = c 59 (4 * k9 + 1) := (hid kn_391)
                    have h_393 := ir_59_g hI (j := 4 * k9 + 2) (by omega)
                    have kn_394 : Hid (c_363 59 (4 * k9 + 2) = c 59 (4 * k9 + 2)) := (hF_365 59 (4 * k9 + 2) (by omega)).trans ((up_n (by omega)).trans ((up_n (by omega)).trans ((up_n (by omega)).trans ((up_n (by omega)).trans ((up_n (by omega)).trans ((up_n (by omega)).trans ((up_n (by omega)).trans (up_n (by omega)))))))))
                    have h_395 : c_363 59 (4 * k9 + 2) = c 59 (4 * k9 + 2) := (hid kn_394)
                    have h_396 := ir_59_g hI (j := 4 * k9 + 3) (by omega)
                    have kn_397 : Hid (c_363 59 (4 * k9 + 3) = c 59 (4 * k9 + 3)) := (hF_365 59 (4 * k9 + 3) (by omega)).trans ((up_n (by omega)).trans ((up_n (by omega)).trans ((up_n (by omega)).trans ((up_n (by omega)).trans ((up_n (by omega)).trans ((up_n (by omega)).trans ((up_n (by omega)).trans (up_n (by omega)))))))))
                    have h_398 : c_363 59 (4 * k9 + 3) = c 59 (4 * k9 + 3) := (hid kn_397)
                    omega
                  have hI_399 := iv_close hI_364 hr_371
                  exact K c_363 1 hI_399 (fun a j hm => (hF_365 a j (by omega)).trans ((up_b (by omega)).trans ((up_b (by omega)).trans ((up_b (by omega)).trans ((up_b (by omega)).trans ((up_b (by omega)).trans ((up_b (by omega)).trans ((up_b (by omega)).trans (up_b (by omega)))))))))) ⟨by decide, by decide⟩
                · refine v_if_ne_f (t := 151) rfl (by decide) (by omega) ?_
                  refine q_aload_n rfl rfl ?_
                  refine q_iload_n rfl rfl ?_
                  refine v_cv rfl rfl rfl rfl (by decide) ⟨⟨rfl, rfl⟩, by decide, rfl⟩ (Nat.le_of_ble_eq_true rfl) (Nat.le_of_ble_eq_true rfl) (s_192 (a1 := a1) hI_364 (show 0 ≤ a1 ∧ a1 ≤ 5 from by omega) (fun c_400 hI_401 hF_402 h_403 => ?_))
                  refine bk_inl ?_
                  have h_404 := ir_59_g hI_401 (j := 4 * a1 + 1) (by omega)
                  have h_405 := ir_59_g hI_401 (j := 4 * a1 + 2) (by omega)
                  have h_406 := ir_59_g hI_401 (j := 4 * a1 + 3) (by omega)
                  have h_407 := ir_59_g hI_401 (j := 4 * a1) (by omega)
                  refine q_iconst rfl ?_
                  refine v_zret rfl rfl (by omega) ?_
                  have hr_408 : ∀ j : Int, rs 59 j → c_400 59 j + c_400 59 (j + 1) + c_400 59 (j + 2) + c_400 59 (j + 3) ≤ 9999 := by
                    intro j9 hj9
                    obtain ⟨k9, rfl, hk9⟩ := rs_59 hj9
                    by_cases e_409 : k9 = a1
                    · skip
                      have h_410 : c_400 59 (4 * k9) = c_400 59 (4 * a1) := (congrArg (c_400 59) (show 4 * k9 = 4 * a1 from by omega))
                      have h_411 : c_400 59 (4 * k9 + 1) = c_400 59 (4 * a1 + 1) := (congrArg (c_400 59) (show 4 * k9 + 1 = 4 * a1 + 1 from by omega))
                      have h_412 : c_400 59 (4 * k9 + 2) = c_400 59 (4 * a1 + 2) := (congrArg (c_400 59) (show 4 * k9 + 2 = 4 * a1 + 2 from by omega))
                      have h_413 : c_400 59 (4 * k9 + 3) = c_400 59 (4 * a1 + 3) := (congrArg (c_400 59) (show 4 * k9 + 3 = 4 * a1 + 3 from by omega))
                      omega
                    by_cases e_414 : k9 = a2
                    · skip
                      have kn_415 : Hid (c_363 59 (4 * a2) = c 59 (4 * a1) + c 59 (4 * a2)) := (hF_365 59 (4 * a2) (by omega)).trans ((up_n (by omega)).trans ((up_n (by omega)).trans ((up_n (by omega)).trans ((up_n (by omega)).trans ((up_n (by omega)).trans ((up_n (by omega)).trans (up_e rfl)))))))
                      have kn_416 : Hid (c_400 59 (4 * a2) = c 59 (4 * a1) + c 59 (4 * a2)) := (hF_402 59 (4 * a2) (by omega)).trans (hid kn_415)
                      have h_417 : c_400 59 (4 * k9) = c 59 (4 * a1) + c 59 (4 * a2) := (congrArg (c_400 59) (show 4 * k9 = 4 * a2 from by omega)).trans (hid kn_416)
                      have kn_418 : Hid (c_363 59 (4 * a2 + 1) = c 59 (4 * a1 + 1) + c 59 (4 * a2 + 1)) := (hF_365 59 (4 * a2 + 1) (by omega)).trans ((up_n (by omega)).trans ((up_n (by omega)).trans ((up_n (by omega)).trans ((up_n (by omega)).trans (up_e rfl)))))
                      have kn_419 : Hid (c_400 59 (4 * a2 + 1) = c 59 (4 * a1 + 1) + c 59 (4 * a2 + 1)) := (hF_402 59 (4 * a2 + 1) (by omega)).trans (hid kn_418)
                      have h_420 : c_400 59 (4 * k9 + 1) = c 59 (4 * a1 + 1) + c 59 (4 * a2 + 1) := (congrArg (c_400 59) (show 4 * k9 + 1 = 4 * a2 + 1 from by omega)).trans (hid kn_419)
                      have kn_421 : Hid (c_363 59 (4 * a2 + 2) = c 59 (4 * a1 + 2) + c 59 (4 * a2 + 2)) := (hF_365 59 (4 * a2 + 2) (by omega)).trans ((up_n (by omega)).trans ((up_n (by omega)).trans (up_e rfl)))
                      have kn_422 : Hid (c_400 59 (4 * a2 + 2) = c 59 (4 * a1 + 2) + c 59 (4 * a2 + 2)) := (hF_402 59 (4 * a2 + 2) (by omega)).trans (hid kn_421)
                      have h_423 : c_400 59 (4 * k9 + 2) = c 59 (4 * a1 + 2) + c 59 (4 * a2 + 2) := (congrArg (c_400 59) (show 4 * k9 + 2 = 4 * a2 + 2 from by omega)).trans (hid kn_422)
                      have kn_424 : Hid (c_363 59 (4 * a2 + 3) = a3 + c 59 (4 * a2 + 3) - c 59 (4 * a1 + 1) - c 59 (4 * a1 + 2) - c 59 (4 * a1)) := (hF_365 59 (4 * a2 + 3) (by omega)).trans (up_e rfl)
                      have kn_425 : Hid (c_400 59 (4 * a2 + 3) = a3 + c 59 (4 * a2 + 3) - c 59 (4 * a1 + 1) - c 59 (4 * a1 + 2) - c 59 (4 * a1)) := (hF_402 59 (4 * a2 + 3) (by omega)).trans (hid kn_424)
                      have h_426 : c_400 59 (4 * k9 + 3) = a3 + c 59 (4 * a2 + 3) - c 59 (4 * a1 + 1) - c 59 (4 * a1 + 2) - c 59 (4 * a1) := (congrArg (c_400 59) (show 4 * k9 + 3 = 4 * a2 + 3 from by omega)).trans (hid kn_425)
                      omega
                    have h_427 := iv_r hI 59 (4 * k9) hj9 (by omega)
                    have h_428 := ir_59_g hI (j := 4 * k9) (by omega)
                    have kn_429 : Hid (c_363 59 (4 * k9) = c 59 (4 * k9)) := (hF_365 59 (4 * k9) (by omega)).trans ((up_n (by omega)).trans ((up_n (by omega)).trans ((up_n (by omega)).trans ((up_n (by omega)).trans ((up_n (by omega)).trans ((up_n (by omega)).trans ((up_n (by omega)).trans (up_n (by omega)))))))))
                    have kn_430 : Hid (c_400 59 (4 * k9) = c 59 (4 * k9)) := (hF_402 59 (4 * k9) (by omega)).trans (hid kn_429)
                    have h_431 : c_400 59 (4 * k9) = c 59 (4 * k9) := (hid kn_430)
                    have h_432 := ir_59_g hI (j := 4 * k9 + 1) (by omega)
                    have kn_433 : Hid (c_363 59 (4 * k9 + 1) = c 59 (4 * k9 + 1)) := (hF_365 59 (4 * k9 + 1) (by omega)).trans ((up_n (by omega)).trans ((up_n (by omega)).trans ((up_n (by omega)).trans ((up_n (by omega)).trans ((up_n (by omega)).trans ((up_n (by omega)).trans ((up_n (by omega)).trans (up_n (by omega)))))))))
                    have kn_434 : Hid (c_400 59 (4 * k9 + 1) = c 59 (4 * k9 + 1)) := (hF_402 59 (4 * k9 + 1) (by omega)).trans (hid kn_433)
                    have h_435 : c_400 59 (4 * k9 + 1) = c 59 (4 * k9 + 1) := (hid kn_434)
                    have h_436 := ir_59_g hI (j := 4 * k9 + 2) (by omega)
                    have kn_437 : Hid (c_363 59 (4 * k9 + 2) = c 59 (4 * k9 + 2)) := (hF_365 59 (4 * k9 + 2) (by omega)).trans ((up_n (by omega)).trans ((up_n (by omega)).trans ((up_n (by omega)).trans ((up_n (by omega)).trans ((up_n (by omega)).trans ((up_n (by omega)).trans ((up_n (by omega)).trans (up_n (by omega)))))))))
                    have kn_438 : Hid (c_400 59 (4 * k9 + 2) = c 59 (4 * k9 + 2)) := (hF_402 59 (4 * k9 + 2) (by omega)).trans (hid kn_437)
                    have h_439 : c_400 59 (4 * k9 + 2) = c 59 (4 * k9 + 2) := (hid kn_438)
                    have h_440 := ir_59_g hI (j := 4 * k9 + 3) (by omega)
                    have kn_441 : Hid (c_363 59 (4 * k9 + 3) = c 59 (4 * k9 + 3)) := (hF_365 59 (4 * k9 + 3) (by omega)).trans ((up_n (by omega)).trans ((up_n (by omega)).trans ((up_n (by omega)).trans ((up_n (by omega)).trans ((up_n (by omega)).trans ((up_n (by omega)).trans ((up_n (by omega)).trans (up_n (by omega)))))))))
                    have kn_442 : Hid (c_400 59 (4 * k9 + 3) = c 59 (4 * k9 + 3)) := (hF_402 59 (4 * k9 + 3) (by omega)).trans (hid kn_441)
                    have h_443 : c_400 59 (4 * k9 + 3) = c 59 (4 * k9 + 3) := (hid kn_442)
                    omega
                  have hI_444 := iv_close hI_401 hr_408
                  exact K c_400 1 hI_444 (fun a j hm => (hF_402 a j (by omega)).trans ((hF_365 a j (by omega)).trans ((up_b (by omega)).trans ((up_b (by omega)).trans ((up_b (by omega)).trans ((up_b (by omega)).trans ((up_b (by omega)).trans ((up_b (by omega)).trans ((up_b (by omega)).trans (up_b (by omega))))))))))) ⟨by decide, by decide⟩
        · refine v_ic_le_f (t := 33) rfl (by decide) (by omega) ?_
          refine q_iconst rfl ?_
          refine v_zret rfl rfl (by omega) ?_
          have hr_445 : ∀ j : Int, rs 59 j → c 59 j + c 59 (j + 1) + c 59 (j + 2) + c 59 (j + 3) ≤ 9999 := by
            intro j9 hj9
            obtain ⟨k9, rfl, hk9⟩ := rs_59 hj9
            by_cases e_446 : k9 = a1
            · skip
              have h_447 : c 59 (4 * k9) = c 59 (4 * a1) := (congrArg (c 59) (show 4 * k9 = 4 * a1 from by omega))
              have h_448 : c 59 (4 * k9 + 1) = c 59 (4 * a1 + 1) := (congrArg (c 59) (show 4 * k9 + 1 = 4 * a1 + 1 from by omega))
              have h_449 : c 59 (4 * k9 + 2) = c 59 (4 * a1 + 2) := (congrArg (c 59) (show 4 * k9 + 2 = 4 * a1 + 2 from by omega))
              have h_450 : c 59 (4 * k9 + 3) = c 59 (4 * a1 + 3) := (congrArg (c 59) (show 4 * k9 + 3 = 4 * a1 + 3 from by omega))
              omega
            by_cases e_451 : k9 = a2
            · skip
              have h_452 : c 59 (4 * k9) = c 59 (4 * a2) := (congrArg (c 59) (show 4 * k9 = 4 * a2 from by omega))
              have h_453 : c 59 (4 * k9 + 1) = c 59 (4 * a2 + 1) := (congrArg (c 59) (show 4 * k9 + 1 = 4 * a2 + 1 from by omega))
              have h_454 : c 59 (4 * k9 + 2) = c 59 (4 * a2 + 2) := (congrArg (c 59) (show 4 * k9 + 2 = 4 * a2 + 2 from by omega))
              have h_455 : c 59 (4 * k9 + 3) = c 59 (4 * a2 + 3) := (congrArg (c 59) (show 4 * k9 + 3 = 4 * a2 + 3 from by omega))
              omega
            have h_456 := iv_r hI 59 (4 * k9) hj9 (by omega)
            have h_457 := ir_59_g hI (j := 4 * k9) (by omega)
            have h_458 : c 59 (4 * k9) = c 59 (4 * k9) := rfl
            have h_459 := ir_59_g hI (j := 4 * k9 + 1) (by omega)
            have h_460 : c 59 (4 * k9 + 1) = c 59 (4 * k9 + 1) := rfl
            have h_461 := ir_59_g hI (j := 4 * k9 + 2) (by omega)
            have h_462 : c 59 (4 * k9 + 2) = c 59 (4 * k9 + 2) := rfl
            have h_463 := ir_59_g hI (j := 4 * k9 + 3) (by omega)
            have h_464 : c 59 (4 * k9 + 3) = c 59 (4 * k9 + 3) := rfl
            omega
          have hI_465 := iv_close hIo hr_445
          exact K c 0 hI_465 (fun a j hm => rfl) ⟨by decide, by decide⟩

