/-! ===== contracts 16 ===== -/
set_option maxRecDepth 100000 in
set_option maxHeartbeats 4000000 in
theorem s_194 {sc : List Int32} {d P Q : Nat} {c : ME} {a1 : Int} {a2 : Int} {a3 : Int} {Z : AR → Prop} (hI : Iv 0 (-1) P Q c) (ha1 : 0 ≤ a1 ∧ a1 ≤ 5) (ha2 : 0 ≤ a2 ∧ a2 ≤ 5) (ha3 : 0 ≤ a3 ∧ a3 ≤ 99999) (K : ∀ (c2 : ME) (y : Int), Iv 0 (-1) P Q c2 → (∀ (a : Nat) (j : Int), ¬ (a = 59) → c2 a j = c a j) → 0 ≤ y ∧ y ≤ 1 → Z (.inl (some (vi y)), Wd P Q P P c2, 0, 0)) : Wp sc (d + 8) 194 0 [(0, .ref 41), (1, vi a1), (2, vi a2), (3, vi a3)] [] (Wd P Q P P c) 0 0 Z := by
  have hP := iv_P hI
  have hQ := iv_Q hI
  have hIo : Iv 59 (-1) P Q c := iv_open hI
  have hsum_1 := ir_59_r hI (by decide) (j := a1) (by omega)
  have h_2 := ir_59_g hI (j := 4 * a1) (by omega)
  have h_3 := ir_59_g hI (j := 4 * a1 + 1) (by omega)
  have h_4 := ir_59_g hI (j := 4 * a1 + 2) (by omega)
  have h_5 := ir_59_g hI (j := 4 * a1 + 3) (by omega)
  have hsum_6 := ir_59_r hI (by decide) (j := a2) (by omega)
  have h_7 := ir_59_g hI (j := 4 * a2) (by omega)
  have h_8 := ir_59_g hI (j := 4 * a2 + 1) (by omega)
  have h_9 := ir_59_g hI (j := 4 * a2 + 2) (by omega)
  have h_10 := ir_59_g hI (j := 4 * a2 + 3) (by omega)
  refine q_iload_n rfl rfl ?_
  by_cases h_11 : a3 = 0
  · refine v_if_eq_t (t := 31) rfl (by decide) (by omega) ?_
    refine q_iconst rfl ?_
    refine v_zret rfl rfl (by omega) ?_
    have hr_12 : ∀ j : Int, rs 59 j → c 59 j + c 59 (j + 1) + c 59 (j + 2) + c 59 (j + 3) ≤ 9999 := by
      intro j9 hj9
      obtain ⟨k9, rfl, hk9⟩ := rs_59 hj9
      by_cases e_13 : k9 = a1
      · skip
        have h_14 : c 59 (4 * k9) = c 59 (4 * a1) := (congrArg (c 59) (show 4 * k9 = 4 * a1 from by omega))
        have h_15 : c 59 (4 * k9 + 1) = c 59 (4 * a1 + 1) := (congrArg (c 59) (show 4 * k9 + 1 = 4 * a1 + 1 from by omega))
        have h_16 : c 59 (4 * k9 + 2) = c 59 (4 * a1 + 2) := (congrArg (c 59) (show 4 * k9 + 2 = 4 * a1 + 2 from by omega))
        have h_17 : c 59 (4 * k9 + 3) = c 59 (4 * a1 + 3) := (congrArg (c 59) (show 4 * k9 + 3 = 4 * a1 + 3 from by omega))
        omega
      by_cases e_18 : k9 = a2
      · skip
        have h_19 : c 59 (4 * k9) = c 59 (4 * a2) := (congrArg (c 59) (show 4 * k9 = 4 * a2 from by omega))
        have h_20 : c 59 (4 * k9 + 1) = c 59 (4 * a2 + 1) := (congrArg (c 59) (show 4 * k9 + 1 = 4 * a2 + 1 from by omega))
        have h_21 : c 59 (4 * k9 + 2) = c 59 (4 * a2 + 2) := (congrArg (c 59) (show 4 * k9 + 2 = 4 * a2 + 2 from by omega))
        have h_22 : c 59 (4 * k9 + 3) = c 59 (4 * a2 + 3) := (congrArg (c 59) (show 4 * k9 + 3 = 4 * a2 + 3 from by omega))
        omega
      have h_23 := iv_r hI 59 (4 * k9) hj9 (by omega)
      have h_24 := ir_59_g hI (j := 4 * k9) (by omega)
      have h_25 : c 59 (4 * k9) = c 59 (4 * k9) := rfl
      have h_26 := ir_59_g hI (j := 4 * k9 + 1) (by omega)
      have h_27 : c 59 (4 * k9 + 1) = c 59 (4 * k9 + 1) := rfl
      have h_28 := ir_59_g hI (j := 4 * k9 + 2) (by omega)
      have h_29 : c 59 (4 * k9 + 2) = c 59 (4 * k9 + 2) := rfl
      have h_30 := ir_59_g hI (j := 4 * k9 + 3) (by omega)
      have h_31 : c 59 (4 * k9 + 3) = c 59 (4 * k9 + 3) := rfl
      omega
    have hI_32 := iv_close hIo hr_12
    exact K c 0 hI_32 (fun a j hm => rfl) ⟨by decide, by decide⟩
  · refine v_if_eq_f (t := 31) rfl (by decide) (by omega) ?_
    refine q_aload_n rfl rfl ?_
    refine q_iload_n rfl rfl ?_
    refine v_cv rfl rfl rfl rfl (by decide) ⟨⟨rfl, rfl⟩, by decide, rfl⟩ (Nat.le_of_ble_eq_true rfl) (Nat.le_of_ble_eq_true rfl) (s_187 (v1 := c 59 (4 * a1)) (v2 := c 59 (4 * a1 + 1)) (v3 := c 59 (4 * a1 + 2)) (v4 := c 59 (4 * a1 + 3)) (r := c 59 (4 * a1 + 1) + c 59 (4 * a1 + 2) + c 59 (4 * a1 + 3) + c 59 (4 * a1)) (a1 := a1) hIo (show 0 ≤ a1 ∧ a1 ≤ 5 from by omega) (rfl) (rfl) (rfl) (rfl) (by omega) ?_)
    refine bk_inl ?_
    refine q_iload_n rfl rfl ?_
    by_cases h_33 : c 59 (4 * a1 + 1) + c 59 (4 * a1 + 2) + c 59 (4 * a1 + 3) + c 59 (4 * a1) < a3
    · refine v_ic_lt_t (t := 31) rfl (by decide) (by omega) ?_
      refine q_iconst rfl ?_
      refine v_zret rfl rfl (by omega) ?_
      have hr_34 : ∀ j : Int, rs 59 j → c 59 j + c 59 (j + 1) + c 59 (j + 2) + c 59 (j + 3) ≤ 9999 := by
        intro j9 hj9
        obtain ⟨k9, rfl, hk9⟩ := rs_59 hj9
        by_cases e_35 : k9 = a1
        · skip
          have h_36 : c 59 (4 * k9) = c 59 (4 * a1) := (congrArg (c 59) (show 4 * k9 = 4 * a1 from by omega))
          have h_37 : c 59 (4 * k9 + 1) = c 59 (4 * a1 + 1) := (congrArg (c 59) (show 4 * k9 + 1 = 4 * a1 + 1 from by omega))
          have h_38 : c 59 (4 * k9 + 2) = c 59 (4 * a1 + 2) := (congrArg (c 59) (show 4 * k9 + 2 = 4 * a1 + 2 from by omega))
          have h_39 : c 59 (4 * k9 + 3) = c 59 (4 * a1 + 3) := (congrArg (c 59) (show 4 * k9 + 3 = 4 * a1 + 3 from by omega))
          omega
        by_cases e_40 : k9 = a2
        · skip
          have h_41 : c 59 (4 * k9) = c 59 (4 * a2) := (congrArg (c 59) (show 4 * k9 = 4 * a2 from by omega))
          have h_42 : c 59 (4 * k9 + 1) = c 59 (4 * a2 + 1) := (congrArg (c 59) (show 4 * k9 + 1 = 4 * a2 + 1 from by omega))
          have h_43 : c 59 (4 * k9 + 2) = c 59 (4 * a2 + 2) := (congrArg (c 59) (show 4 * k9 + 2 = 4 * a2 + 2 from by omega))
          have h_44 : c 59 (4 * k9 + 3) = c 59 (4 * a2 + 3) := (congrArg (c 59) (show 4 * k9 + 3 = 4 * a2 + 3 from by omega))
          omega
        have h_45 := iv_r hI 59 (4 * k9) hj9 (by omega)
        have h_46 := ir_59_g hI (j := 4 * k9) (by omega)
        have h_47 : c 59 (4 * k9) = c 59 (4 * k9) := rfl
        have h_48 := ir_59_g hI (j := 4 * k9 + 1) (by omega)
        have h_49 : c 59 (4 * k9 + 1) = c 59 (4 * k9 + 1) := rfl
        have h_50 := ir_59_g hI (j := 4 * k9 + 2) (by omega)
        have h_51 : c 59 (4 * k9 + 2) = c 59 (4 * k9 + 2) := rfl
        have h_52 := ir_59_g hI (j := 4 * k9 + 3) (by omega)
        have h_53 : c 59 (4 * k9 + 3) = c 59 (4 * k9 + 3) := rfl
        omega
      have hI_54 := iv_close hIo hr_34
      exact K c 0 hI_54 (fun a j hm => rfl) ⟨by decide, by decide⟩
    · refine v_ic_lt_f (t := 31) rfl (by decide) (by omega) ?_
      refine q_iload_n rfl rfl ?_
      refine q_iload_n rfl rfl ?_
      by_cases h_55 : a1 = a2
      · refine v_ic_eq_t (t := 31) rfl (by decide) (by omega) ?_
        refine q_iconst rfl ?_
        refine v_zret rfl rfl (by omega) ?_
        have hr_56 : ∀ j : Int, rs 59 j → c 59 j + c 59 (j + 1) + c 59 (j + 2) + c 59 (j + 3) ≤ 9999 := by
          intro j9 hj9
          obtain ⟨k9, rfl, hk9⟩ := rs_59 hj9
          by_cases e_57 : k9 = a1
          · skip
            have h_58 : c 59 (4 * k9) = c 59 (4 * a1) := (congrArg (c 59) (show 4 * k9 = 4 * a1 from by omega))
            have h_59 : c 59 (4 * k9 + 1) = c 59 (4 * a1 + 1) := (congrArg (c 59) (show 4 * k9 + 1 = 4 * a1 + 1 from by omega))
            have h_60 : c 59 (4 * k9 + 2) = c 59 (4 * a1 + 2) := (congrArg (c 59) (show 4 * k9 + 2 = 4 * a1 + 2 from by omega))
            have h_61 : c 59 (4 * k9 + 3) = c 59 (4 * a1 + 3) := (congrArg (c 59) (show 4 * k9 + 3 = 4 * a1 + 3 from by omega))
            omega
          by_cases e_62 : k9 = a2
          · skip
            have h_63 : c 59 (4 * k9) = c 59 (4 * a2) := (congrArg (c 59) (show 4 * k9 = 4 * a2 from by omega))
            have h_64 : c 59 (4 * k9 + 1) = c 59 (4 * a2 + 1) := (congrArg (c 59) (show 4 * k9 + 1 = 4 * a2 + 1 from by omega))
            have h_65 : c 59 (4 * k9 + 2) = c 59 (4 * a2 + 2) := (congrArg (c 59) (show 4 * k9 + 2 = 4 * a2 + 2 from by omega))
            have h_66 : c 59 (4 * k9 + 3) = c 59 (4 * a2 + 3) := (congrArg (c 59) (show 4 * k9 + 3 = 4 * a2 + 3 from by omega))
            omega
          have h_67 := iv_r hI 59 (4 * k9) hj9 (by omega)
          have h_68 := ir_59_g hI (j := 4 * k9) (by omega)
          have h_69 : c 59 (4 * k9) = c 59 (4 * k9) := rfl
          have h_70 := ir_59_g hI (j := 4 * k9 + 1) (by omega)
          have h_71 : c 59 (4 * k9 + 1) = c 59 (4 * k9 + 1) := rfl
          have h_72 := ir_59_g hI (j := 4 * k9 + 2) (by omega)
          have h_73 : c 59 (4 * k9 + 2) = c 59 (4 * k9 + 2) := rfl
          have h_74 := ir_59_g hI (j := 4 * k9 + 3) (by omega)
          have h_75 : c 59 (4 * k9 + 3) = c 59 (4 * k9 + 3) := rfl
          omega
        have hI_76 := iv_close hIo hr_56
        exact K c 0 hI_76 (fun a j hm => rfl) ⟨by decide, by decide⟩
      · refine v_ic_eq_f (t := 31) rfl (by decide) (by omega) ?_
        refine q_aload_n rfl rfl ?_
        refine q_iload_n rfl rfl ?_
        refine v_cv rfl rfl rfl rfl (by decide) ⟨⟨rfl, rfl⟩, by decide, rfl⟩ (Nat.le_of_ble_eq_true rfl) (Nat.le_of_ble_eq_true rfl) (s_187 (v1 := c 59 (4 * a2)) (v2 := c 59 (4 * a2 + 1)) (v3 := c 59 (4 * a2 + 2)) (v4 := c 59 (4 * a2 + 3)) (r := c 59 (4 * a2 + 1) + c 59 (4 * a2 + 2) + c 59 (4 * a2 + 3) + c 59 (4 * a2)) (a1 := a2) hIo (show 0 ≤ a2 ∧ a2 ≤ 5 from by omega) (rfl) (rfl) (rfl) (rfl) (by omega) ?_)
        refine bk_inl ?_
        refine q_iload_n rfl rfl ?_
        refine v_iadd (v := a3 + c 59 (4 * a2 + 1) + c 59 (4 * a2 + 2) + c 59 (4 * a2 + 3) + c 59 (4 * a2)) rfl (by omega) ?_
        refine v_sip rfl (by decide) ?_
        by_cases h_77 : a3 + c 59 (4 * a2 + 1) + c 59 (4 * a2 + 2) + c 59 (4 * a2 + 3) + c 59 (4 * a2) ≤ 9999
        · refine v_ic_le_t (t := 33) rfl (by decide) (by omega) ?_
          refine q_iload_n rfl rfl ?_
          refine q_istore rfl (by decide) ?_
          refine q_iconst rfl ?_
          refine q_istore rfl (by decide) ?_
          refine q_iload rfl rfl ?_
          refine q_iconst rfl ?_
          refine v_ic_ge_f (t := 124) rfl (by decide) (by decide) ?_
          refine q_aload_n rfl rfl ?_
          refine v_gr (t := 59) rfl rfl rfl (by decide) rfl ?_
          refine q_iconst rfl ?_
          refine q_iload_n rfl rfl ?_
          refine v_imul (v := 4 * a1) rfl (by omega) ?_
          refine q_iload rfl rfl ?_
          refine v_iadd (v := 4 * a1) rfl (by omega) ?_
          refine v_ia (v := c 59 (4 * a1)) rfl rfl (by decide) (by decide) (by omega) rfl ?_
          refine q_iload rfl rfl ?_
          by_cases h_78 : c 59 (4 * a1) ≥ a3
          · refine v_ic_ge_t (t := 75) rfl (by decide) (by omega) ?_
            refine q_iload rfl rfl ?_
            refine q_istore rfl (by decide) ?_
            refine q_aload_n rfl rfl ?_
            refine v_gr (t := 59) rfl rfl rfl (by decide) rfl ?_
            refine q_iconst rfl ?_
            refine q_iload_n rfl rfl ?_
            refine v_imul (v := 4 * a1) rfl (by omega) ?_
            refine q_iload rfl rfl ?_
            refine v_iadd (v := 4 * a1) rfl (by omega) ?_
            refine q_dup2 rfl ⟨rfl, rfl⟩ ?_
            refine v_ia (v := c 59 (4 * a1)) rfl rfl (by decide) (by decide) (by omega) rfl ?_
            refine q_iload rfl rfl ?_
            refine v_isub (v := c 59 (4 * a1) - a3) rfl (by omega) ?_
            refine v_is rfl rfl (by decide) (by decide) (by omega) ?_
            refine q_aload_n rfl rfl ?_
            refine v_gr (t := 59) rfl rfl rfl (by decide) rfl ?_
            refine q_iconst rfl ?_
            refine q_iload_n rfl rfl ?_
            refine v_imul (v := 4 * a2) rfl (by omega) ?_
            refine q_iload rfl rfl ?_
            refine v_iadd (v := 4 * a2) rfl (by omega) ?_
            refine q_dup2 rfl ⟨rfl, rfl⟩ ?_
            refine v_ia (v := c 59 (4 * a2)) rfl rfl (by decide) (by decide) (by omega) (up_n (by omega)) ?_
            refine q_iload rfl rfl ?_
            refine v_iadd (v := a3 + c 59 (4 * a2)) rfl (by omega) ?_
            refine v_is rfl rfl (by decide) (by decide) (by omega) ?_
            refine q_iload rfl rfl ?_
            refine q_iload rfl rfl ?_
            refine v_isub (v := 0) rfl (by decide) ?_
            refine q_istore rfl (by decide) ?_
            refine v_iinc (v := 1) rfl rfl (by decide) (by decide) ?_
            refine Wp_ls [(5, vi 1), (4, vi 0), (6, vi a3), (0, .ref 41), (1, vi a1), (2, vi a2), (3, vi a3)] (lsub_cons rfl (lsub_cons rfl (lsub_cons rfl (lsub_cons rfl (lsub_cons rfl (lsub_cons rfl (lsub_cons rfl lsub_nil))))))) ?_
            refine q_goto (t := 39) rfl (by decide) ?_
            refine q_iload rfl rfl ?_
            refine q_iconst rfl ?_
            refine v_ic_ge_f (t := 124) rfl (by decide) (by decide) ?_
            refine q_aload_n rfl rfl ?_
            refine v_gr (t := 59) rfl rfl rfl (by decide) rfl ?_
            refine q_iconst rfl ?_
            refine q_iload_n rfl rfl ?_
            refine v_imul (v := 4 * a1) rfl (by omega) ?_
            refine q_iload rfl rfl ?_
            refine v_iadd (v := 4 * a1 + 1) rfl (by omega) ?_
            refine v_ia (v := c 59 (4 * a1 + 1)) rfl rfl (by decide) (by decide) (by omega) ((up_n (by omega)).trans (up_n (by omega))) ?_
            refine q_iload rfl rfl ?_
            refine v_ic_ge_t (t := 75) rfl (by decide) (by omega) ?_
            refine q_iload rfl rfl ?_
            refine q_istore rfl (by decide) ?_
            refine q_aload_n rfl rfl ?_
            refine v_gr (t := 59) rfl rfl rfl (by decide) rfl ?_
            refine q_iconst rfl ?_
            refine q_iload_n rfl rfl ?_
            refine v_imul (v := 4 * a1) rfl (by omega) ?_
            refine q_iload rfl rfl ?_
            refine v_iadd (v := 4 * a1 + 1) rfl (by omega) ?_
            refine q_dup2 rfl ⟨rfl, rfl⟩ ?_
            refine v_ia (v := c 59 (4 * a1 + 1)) rfl rfl (by decide) (by decide) (by omega) ((up_n (by omega)).trans (up_n (by omega))) ?_
            refine q_iload rfl rfl ?_
            refine v_isub (v := c 59 (4 * a1 + 1)) rfl (by omega) ?_
            refine v_is rfl rfl (by decide) (by decide) (by omega) ?_
            refine q_aload_n rfl rfl ?_
            refine v_gr (t := 59) rfl rfl rfl (by decide) rfl ?_
            refine q_iconst rfl ?_
            refine q_iload_n rfl rfl ?_
            refine v_imul (v := 4 * a2) rfl (by omega) ?_
            refine q_iload rfl rfl ?_
            refine v_iadd (v := 4 * a2 + 1) rfl (by omega) ?_
            refine q_dup2 rfl ⟨rfl, rfl⟩ ?_
            refine v_ia (v := c 59 (4 * a2 + 1)) rfl rfl (by decide) (by decide) (by omega) ((up_n (by omega)).trans ((up_n (by omega)).trans (up_n (by omega)))) ?_
            refine q_iload rfl rfl ?_
            refine v_iadd (v := c 59 (4 * a2 + 1)) rfl (by omega) ?_
            refine v_is rfl rfl (by decide) (by decide) (by omega) ?_
            refine q_iload rfl rfl ?_
            refine q_iload rfl rfl ?_
            refine v_isub (v := 0) rfl (by decide) ?_
            refine q_istore rfl (by decide) ?_
            refine v_iinc (v := 2) rfl rfl (by decide) (by decide) ?_
            refine q_goto (t := 39) rfl (by decide) ?_
            refine q_iload rfl rfl ?_
            refine q_iconst rfl ?_
            refine v_ic_ge_f (t := 124) rfl (by decide) (by decide) ?_
            refine q_aload_n rfl rfl ?_
            refine v_gr (t := 59) rfl rfl rfl (by decide) rfl ?_
            refine q_iconst rfl ?_
            refine q_iload_n rfl rfl ?_
            refine v_imul (v := 4 * a1) rfl (by omega) ?_
            refine q_iload rfl rfl ?_
            refine v_iadd (v := 4 * a1 + 2) rfl (by omega) ?_
            refine v_ia (v := c 59 (4 * a1 + 2)) rfl rfl (by decide) (by decide) (by omega) ((up_n (by omega)).trans ((up_n (by omega)).trans ((up_n (by omega)).trans (up_n (by omega))))) ?_
            refine q_iload rfl rfl ?_
            refine v_ic_ge_t (t := 75) rfl (by decide) (by omega) ?_
            refine q_iload rfl rfl ?_
            refine q_istore rfl (by decide) ?_
            refine q_aload_n rfl rfl ?_
            refine v_gr (t := 59) rfl rfl rfl (by decide) rfl ?_
            refine q_iconst rfl ?_
            refine q_iload_n rfl rfl ?_
            refine v_imul (v := 4 * a1) rfl (by omega) ?_
            refine q_iload rfl rfl ?_
            refine v_iadd (v := 4 * a1 + 2) rfl (by omega) ?_
            refine q_dup2 rfl ⟨rfl, rfl⟩ ?_
            refine v_ia (v := c 59 (4 * a1 + 2)) rfl rfl (by decide) (by decide) (by omega) ((up_n (by omega)).trans ((up_n (by omega)).trans ((up_n (by omega)).trans (up_n (by omega))))) ?_
            refine q_iload rfl rfl ?_
            refine v_isub (v := c 59 (4 * a1 + 2)) rfl (by omega) ?_
            refine v_is rfl rfl (by decide) (by decide) (by omega) ?_
            refine q_aload_n rfl rfl ?_
            refine v_gr (t := 59) rfl rfl rfl (by decide) rfl ?_
            refine q_iconst rfl ?_
            refine q_iload_n rfl rfl ?_
            refine v_imul (v := 4 * a2) rfl (by omega) ?_
            refine q_iload rfl rfl ?_
            refine v_iadd (v := 4 * a2 + 2) rfl (by omega) ?_
            refine q_dup2 rfl ⟨rfl, rfl⟩ ?_
            refine v_ia (v := c 59 (4 * a2 + 2)) rfl rfl (by decide) (by decide) (by omega) ((up_n (by omega)).trans ((up_n (by omega)).trans ((up_n (by omega)).trans ((up_n (by omega)).trans (up_n (by omega)))))) ?_
            refine q_iload rfl rfl ?_
            refine v_iadd (v := c 59 (4 * a2 + 2)) rfl (by omega) ?_
            refine v_is rfl rfl (by decide) (by decide) (by omega) ?_
            refine q_iload rfl rfl ?_
            refine q_iload rfl rfl ?_
            refine v_isub (v := 0) rfl (by decide) ?_
            refine q_istore rfl (by decide) ?_
            refine Wp_ls [(4, vi 0), (6, vi 0), (5, vi 2), (0, .ref 41), (1, vi a1), (2, vi a2), (3, vi a3)] (lsub_cons rfl (lsub_cons rfl (lsub_cons rfl (lsub_cons rfl (lsub_cons rfl (lsub_cons rfl (lsub_cons rfl lsub_nil))))))) ?_
            refine v_iinc (v := 3) rfl rfl (by decide) (by decide) ?_
            refine q_goto (t := 39) rfl (by decide) ?_
            refine q_iload rfl rfl ?_
            refine q_iconst rfl ?_
            refine v_ic_ge_f (t := 124) rfl (by decide) (by decide) ?_
            refine q_aload_n rfl rfl ?_
            refine v_gr (t := 59) rfl rfl rfl (by decide) rfl ?_
            refine q_iconst rfl ?_
            refine q_iload_n rfl rfl ?_
            refine v_imul (v := 4 * a1) rfl (by omega) ?_
            refine q_iload rfl rfl ?_
            refine v_iadd (v := 4 * a1 + 3) rfl (by omega) ?_
            refine v_ia (v := c 59 (4 * a1 + 3)) rfl rfl (by decide) (by decide) (by omega) ((up_n (by omega)).trans ((up_n (by omega)).trans ((up_n (by omega)).trans ((up_n (by omega)).trans ((up_n (by omega)).trans (up_n (by omega))))))) ?_
            refine q_iload rfl rfl ?_
            refine v_ic_ge_t (t := 75) rfl (by decide) (by omega) ?_
            refine q_iload rfl rfl ?_
            refine q_istore rfl (by decide) ?_
            refine q_aload_n rfl rfl ?_
            refine v_gr (t := 59) rfl rfl rfl (by decide) rfl ?_
            refine q_iconst rfl ?_
            refine q_iload_n rfl rfl ?_
            refine v_imul (v := 4 * a1) rfl (by omega) ?_
            refine q_iload rfl rfl ?_
            refine v_iadd (v := 4 * a1 + 3) rfl (by omega) ?_
            refine q_dup2 rfl ⟨rfl, rfl⟩ ?_
            refine v_ia (v := c 59 (4 * a1 + 3)) rfl rfl (by decide) (by decide) (by omega) ((up_n (by omega)).trans ((up_n (by omega)).trans ((up_n (by omega)).trans ((up_n (by omega)).trans ((up_n (by omega)).trans (up_n (by omega))))))) ?_
            refine q_iload rfl rfl ?_
            refine v_isub (v := c 59 (4 * a1 + 3)) rfl (by omega) ?_
            refine v_is rfl rfl (by decide) (by decide) (by omega) ?_
            refine q_aload_n rfl rfl ?_
            refine v_gr (t := 59) rfl rfl rfl (by decide) rfl ?_
            refine q_iconst rfl ?_
            refine q_iload_n rfl rfl ?_
            refine v_imul (v := 4 * a2) rfl (by omega) ?_
            refine q_iload rfl rfl ?_
            refine v_iadd (v := 4 * a2 + 3) rfl (by omega) ?_
            refine q_dup2 rfl ⟨rfl, rfl⟩ ?_
            refine v_ia (v := c 59 (4 * a2 + 3)) rfl rfl (by decide) (by decide) (by omega) ((up_n (by omega)).trans ((up_n (by omega)).trans ((up_n (by omega)).trans ((up_n (by omega)).trans ((up_n (by omega)).trans ((up_n (by omega)).trans (up_n (by omega)))))))) ?_
            refine q_iload rfl rfl ?_
            refine v_iadd (v := c 59 (4 * a2 + 3)) rfl (by omega) ?_
            refine v_is rfl rfl (by decide) (by decide) (by omega) ?_
            refine q_iload rfl rfl ?_
            refine q_iload rfl rfl ?_
            refine v_isub (v := 0) rfl (by decide) ?_
            refine q_istore rfl (by decide) ?_
            refine v_iinc (v := 4) rfl rfl (by decide) (by decide) ?_
            refine q_goto (t := 39) rfl (by decide) ?_
            refine q_iload rfl rfl ?_
            refine q_iconst rfl ?_
            refine v_ic_ge_t (t := 124) rfl (by decide) (by decide) ?_
            refine q_aload_n rfl rfl ?_
            refine q_iload_n rfl rfl ?_
            refine q_aload_n rfl rfl ?_
            refine v_gr (t := 59) rfl rfl rfl (by decide) rfl ?_
            refine v_bip rfl (by decide) ?_
            refine q_iload_n rfl rfl ?_
            refine v_iadd (v := a1 + 24) rfl (by omega) ?_
            have h_79 := ir_59 hI (a1 + 24)
            refine v_ia (v := c 59 (a1 + 24)) rfl rfl (by decide) (by decide) (by omega) ((up_n (by omega)).trans ((up_n (by omega)).trans ((up_n (by omega)).trans ((up_n (by omega)).trans ((up_n (by omega)).trans ((up_n (by omega)).trans ((up_n (by omega)).trans (up_n (by omega))))))))) ?_
            have hI_80 := iw_row (a := 59) (j := 4 * a1) (v := c 59 (4 * a1) - a3) hIo (by omega) (Or.inl rfl) ⟨by omega, by omega, by omega⟩
            have hI_81 := iw_row (a := 59) (j := 4 * a2) (v := a3 + c 59 (4 * a2)) hI_80 (by omega) (Or.inl rfl) ⟨by omega, by omega, by omega⟩
            have hI_82 := iw_row (a := 59) (j := 4 * a1 + 1) (v := c 59 (4 * a1 + 1)) hI_81 (by omega) (Or.inl rfl) ⟨by omega, by omega, by omega⟩
            have hI_83 := iw_row (a := 59) (j := 4 * a2 + 1) (v := c 59 (4 * a2 + 1)) hI_82 (by omega) (Or.inl rfl) ⟨by omega, by omega, by omega⟩
            have hI_84 := iw_row (a := 59) (j := 4 * a1 + 2) (v := c 59 (4 * a1 + 2)) hI_83 (by omega) (Or.inl rfl) ⟨by omega, by omega, by omega⟩
            have hI_85 := iw_row (a := 59) (j := 4 * a2 + 2) (v := c 59 (4 * a2 + 2)) hI_84 (by omega) (Or.inl rfl) ⟨by omega, by omega, by omega⟩
            have hI_86 := iw_row (a := 59) (j := 4 * a1 + 3) (v := c 59 (4 * a1 + 3)) hI_85 (by omega) (Or.inl rfl) ⟨by omega, by omega, by omega⟩
            have hI_87 := iw_row (a := 59) (j := 4 * a2 + 3) (v := c 59 (4 * a2 + 3)) hI_86 (by omega) (Or.inl rfl) ⟨by omega, by omega, by omega⟩
            refine v_cv rfl rfl rfl rfl (by decide) ⟨⟨rfl, rfl⟩, by decide, rfl⟩ (Nat.le_of_ble_eq_true rfl) (Nat.le_of_ble_eq_true rfl) (s_191 (a1 := a2) (a2 := c 59 (a1 + 24)) hI_87 (show 0 ≤ a2 ∧ a2 ≤ 5 from by omega) (show (-2147483648) ≤ c 59 (a1 + 24) ∧ c 59 (a1 + 24) ≤ 2147483647 from by omega) (fun c_88 hI_89 hF_90 => ?_))
            refine bk_inl ?_
            refine q_aload_n rfl rfl ?_
            refine q_iload_n rfl rfl ?_
            refine v_cv rfl rfl rfl rfl (by decide) ⟨⟨rfl, rfl⟩, by decide, rfl⟩ (Nat.le_of_ble_eq_true rfl) (Nat.le_of_ble_eq_true rfl) (s_187 (v1 := c 59 (4 * a1) - a3) (v2 := c 59 (4 * a1 + 1)) (v3 := c 59 (4 * a1 + 2)) (v4 := c 59 (4 * a1 + 3)) (r := c 59 (4 * a1 + 1) + c 59 (4 * a1 + 2) + c 59 (4 * a1 + 3) + c 59 (4 * a1) - a3) (a1 := a1) hI_89 (show 0 ≤ a1 ∧ a1 ≤ 5 from by omega) (((hF_90 59 (4 * a1) (by omega)).trans ((up_n (by omega)).trans ((up_n (by omega)).trans ((up_n (by omega)).trans ((up_n (by omega)).trans ((up_n (by omega)).trans ((up_n (by omega)).trans ((up_n (by omega)).trans (up_e rfl)))))))))) (((hF_90 59 (4 * a1 + 1) (by omega)).trans ((up_n (by omega)).trans ((up_n (by omega)).trans ((up_n (by omega)).trans ((up_n (by omega)).trans ((up_n (by omega)).trans (up_e rfl)))))))) (((hF_90 59 (4 * a1 + 2) (by omega)).trans ((up_n (by omega)).trans ((up_n (by omega)).trans ((up_n (by omega)).trans (up_e rfl)))))) (((hF_90 59 (4 * a1 + 3) (by omega)).trans ((up_n (by omega)).trans (up_e rfl)))) (by omega) ?_)
            refine bk_inl ?_
            by_cases h_91 : c 59 (4 * a1 + 1) + c 59 (4 * a1 + 2) + c 59 (4 * a1 + 3) + c 59 (4 * a1) - a3 ≠ 0
            · refine v_if_ne_t (t := 151) rfl (by decide) (by omega) ?_
              refine q_iconst rfl ?_
              refine v_zret rfl rfl (by omega) ?_
              have hr_92 : ∀ j : Int, rs 59 j → c_88 59 j + c_88 59 (j + 1) + c_88 59 (j + 2) + c_88 59 (j + 3) ≤ 9999 := by
                intro j9 hj9
                obtain ⟨k9, rfl, hk9⟩ := rs_59 hj9
                by_cases e_93 : k9 = a1
                · skip
                  have h_94 : c_88 59 (4 * k9) = c 59 (4 * a1) - a3 := (congrArg (c_88 59) (show 4 * k9 = 4 * a1 from by omega)).trans ((hF_90 59 (4 * a1) (by omega)).trans ((up_n (by omega)).trans ((up_n (by omega)).trans ((up_n (by omega)).trans ((up_n (by omega)).trans ((up_n (by omega)).trans ((up_n (by omega)).trans ((up_n (by omega)).trans (up_e rfl)))))))))
                  have h_95 : c_88 59 (4 * k9 + 1) = c 59 (4 * a1 + 1) := (congrArg (c_88 59) (show 4 * k9 + 1 = 4 * a1 + 1 from by omega)).trans ((hF_90 59 (4 * a1 + 1) (by omega)).trans ((up_n (by omega)).trans ((up_n (by omega)).trans ((up_n (by omega)).trans ((up_n (by omega)).trans ((up_n (by omega)).trans (up_e rfl)))))))
                  have h_96 : c_88 59 (4 * k9 + 2) = c 59 (4 * a1 + 2) := (congrArg (c_88 59) (show 4 * k9 + 2 = 4 * a1 + 2 from by omega)).trans ((hF_90 59 (4 * a1 + 2) (by omega)).trans ((up_n (by omega)).trans ((up_n (by omega)).trans ((up_n (by omega)).trans (up_e rfl)))))
                  have h_97 : c_88 59 (4 * k9 + 3) = c 59 (4 * a1 + 3) := (congrArg (c_88 59) (show 4 * k9 + 3 = 4 * a1 + 3 from by omega)).trans ((hF_90 59 (4 * a1 + 3) (by omega)).trans ((up_n (by omega)).trans (up_e rfl)))
                  omega
                by_cases e_98 : k9 = a2
                · skip
                  have h_99 : c_88 59 (4 * k9) = a3 + c 59 (4 * a2) := (congrArg (c_88 59) (show 4 * k9 = 4 * a2 from by omega)).trans ((hF_90 59 (4 * a2) (by omega)).trans ((up_n (by omega)).trans ((up_n (by omega)).trans ((up_n (by omega)).trans ((up_n (by omega)).trans ((up_n (by omega)).trans ((up_n (by omega)).trans (up_e rfl))))))))
                  have h_100 : c_88 59 (4 * k9 + 1) = c 59 (4 * a2 + 1) := (congrArg (c_88 59) (show 4 * k9 + 1 = 4 * a2 + 1 from by omega)).trans ((hF_90 59 (4 * a2 + 1) (by omega)).trans ((up_n (by omega)).trans ((up_n (by omega)).trans ((up_n (by omega)).trans ((up_n (by omega)).trans (up_e rfl))))))
                  have h_101 : c_88 59 (4 * k9 + 2) = c 59 (4 * a2 + 2) := (congrArg (c_88 59) (show 4 * k9 + 2 = 4 * a2 + 2 from by omega)).trans ((hF_90 59 (4 * a2 + 2) (by omega)).trans ((up_n (by omega)).trans ((up_n (by omega)).trans (up_e rfl))))
                  have h_102 : c_88 59 (4 * k9 + 3) = c 59 (4 * a2 + 3) := (congrArg (c_88 59) (show 4 * k9 + 3 = 4 * a2 + 3 from by omega)).trans ((hF_90 59 (4 * a2 + 3) (by omega)).trans (up_e rfl))
                  omega
                have h_103 := iv_r hI 59 (4 * k9) hj9 (by omega)
                have h_104 := ir_59_g hI (j := 4 * k9) (by omega)
                have h_105 : c_88 59 (4 * k9) = c 59 (4 * k9) := ((hF_90 59 (4 * k9) (by omega)).trans ((up_n (by omega)).trans ((up_n (by omega)).trans ((up_n (by omega)).trans ((up_n (by omega)).trans ((up_n (by omega)).trans ((up_n (by omega)).trans ((up_n (by omega)).trans (up_n (by omega))))))))))
                have h_106 := ir_59_g hI (j := 4 * k9 + 1) (by omega)
                have h_107 : c_88 59 (4 * k9 + 1) = c 59 (4 * k9 + 1) := ((hF_90 59 (4 * k9 + 1) (by omega)).trans ((up_n (by omega)).trans ((up_n (by omega)).trans ((up_n (by omega)).trans ((up_n (by omega)).trans ((up_n (by omega)).trans ((up_n (by omega)).trans ((up_n (by omega)).trans (up_n (by omega))))))))))
                have h_108 := ir_59_g hI (j := 4 * k9 + 2) (by omega)
                have h_109 : c_88 59 (4 * k9 + 2) = c 59 (4 * k9 + 2) := ((hF_90 59 (4 * k9 + 2) (by omega)).trans ((up_n (by omega)).trans ((up_n (by omega)).trans ((up_n (by omega)).trans ((up_n (by omega)).trans ((up_n (by omega)).trans ((up_n (by omega)).trans ((up_n (by omega)).trans (up_n (by omega))))))))))
                have h_110 := ir_59_g hI (j := 4 * k9 + 3) (by omega)
                have h_111 : c_88 59 (4 * k9 + 3) = c 59 (4 * k9 + 3) := ((hF_90 59 (4 * k9 + 3) (by omega)).trans ((up_n (by omega)).trans ((up_n (by omega)).trans ((up_n (by omega)).trans ((up_n (by omega)).trans ((up_n (by omega)).trans ((up_n (by omega)).trans ((up_n (by omega)).trans (up_n (by omega))))))))))
                omega
              have hI_112 := iv_close hI_89 hr_92
              exact K c_88 1 hI_112 (fun a j hm => (hF_90 a j (by omega)).trans ((up_b (by omega)).trans ((up_b (by omega)).trans ((up_b (by omega)).trans ((up_b (by omega)).trans ((up_b (by omega)).trans ((up_b (by omega)).trans ((up_b (by omega)).trans (up_b (by omega)))))))))) ⟨by decide, by decide⟩
            · refine v_if_ne_f (t := 151) rfl (by decide) (by omega) ?_
              refine q_aload_n rfl rfl ?_
              refine q_iload_n rfl rfl ?_
              refine v_cv rfl rfl rfl rfl (by decide) ⟨⟨rfl, rfl⟩, by decide, rfl⟩ (Nat.le_of_ble_eq_true rfl) (Nat.le_of_ble_eq_true rfl) (s_192 (a1 := a1) hI_89 (show 0 ≤ a1 ∧ a1 ≤ 5 from by omega) (fun c_113 hI_114 hF_115 h_116 => ?_))
              refine bk_inl ?_
              have h_117 := ir_59_g hI_114 (j := 4 * a1 + 1) (by omega)
              have h_118 := ir_59_g hI_114 (j := 4 * a1 + 2) (by omega)
              have h_119 := ir_59_g hI_114 (j := 4 * a1 + 3) (by omega)
              have h_120 := ir_59_g hI_114 (j := 4 * a1) (by omega)
              refine q_iconst rfl ?_
              refine v_zret rfl rfl (by omega) ?_
              have hr_121 : ∀ j : Int, rs 59 j → c_113 59 j + c_113 59 (j + 1) + c_113 59 (j + 2) + c_113 59 (j + 3) ≤ 9999 := by
                intro j9 hj9
                obtain ⟨k9, rfl, hk9⟩ := rs_59 hj9
                by_cases e_122 : k9 = a1
                · skip
                  have h_123 : c_113 59 (4 * k9) = c_113 59 (4 * a1) := (congrArg (c_113 59) (show 4 * k9 = 4 * a1 from by omega))
                  have h_124 : c_113 59 (4 * k9 + 1) = c_113 59 (4 * a1 + 1) := (congrArg (c_113 59) (show 4 * k9 + 1 = 4 * a1 + 1 from by omega))
                  have h_125 : c_113 59 (4 * k9 + 2) = c_113 59 (4 * a1 + 2) := (congrArg (c_113 59) (show 4 * k9 + 2 = 4 * a1 + 2 from by omega))
                  have h_126 : c_113 59 (4 * k9 + 3) = c_113 59 (4 * a1 + 3) := (congrArg (c_113 59) (show 4 * k9 + 3 = 4 * a1 + 3 from by omega))
                  omega
                by_cases e_127 : k9 = a2
                · skip
                  have h_128 : c_113 59 (4 * k9) = a3 + c 59 (4 * a2) := (congrArg (c_113 59) (show 4 * k9 = 4 * a2 from by omega)).trans ((hF_115 59 (4 * a2) (by omega)).trans ((hF_90 59 (4 * a2) (by omega)).trans ((up_n (by omega)).trans ((up_n (by omega)).trans ((up_n (by omega)).trans ((up_n (by omega)).trans ((up_n (by omega)).trans ((up_n (by omega)).trans (up_e rfl)))))))))
                  have h_129 : c_113 59 (4 * k9 + 1) = c 59 (4 * a2 + 1) := (congrArg (c_113 59) (show 4 * k9 + 1 = 4 * a2 + 1 from by omega)).trans ((hF_115 59 (4 * a2 + 1) (by omega)).trans ((hF_90 59 (4 * a2 + 1) (by omega)).trans ((up_n (by omega)).trans ((up_n (by omega)).trans ((up_n (by omega)).trans ((up_n (by omega)).trans (up_e rfl)))))))
                  have h_130 : c_113 59 (4 * k9 + 2) = c 59 (4 * a2 + 2) := (congrArg (c_113 59) (show 4 * k9 + 2 = 4 * a2 + 2 from by omega)).trans ((hF_115 59 (4 * a2 + 2) (by omega)).trans ((hF_90 59 (4 * a2 + 2) (by omega)).trans ((up_n (by omega)).trans ((up_n (by omega)).trans (up_e rfl)))))
                  have h_131 : c_113 59 (4 * k9 + 3) = c 59 (4 * a2 + 3) := (congrArg (c_113 59) (show 4 * k9 + 3 = 4 * a2 + 3 from by omega)).trans ((hF_115 59 (4 * a2 + 3) (by omega)).trans ((hF_90 59 (4 * a2 + 3) (by omega)).trans (up_e rfl)))
                  omega
                have h_132 := iv_r hI 59 (4 * k9) hj9 (by omega)
                have h_133 := ir_59_g hI (j := 4 * k9) (by omega)
                have h_134 : c_113 59 (4 * k9) = c 59 (4 * k9) := ((hF_115 59 (4 * k9) (by omega)).trans ((hF_90 59 (4 * k9) (by omega)).trans ((up_n (by omega)).trans ((up_n (by omega)).trans ((up_n (by omega)).trans ((up_n (by omega)).trans ((up_n (by omega)).trans ((up_n (by omega)).trans ((up_n (by omega)).trans (up_n (by omega)))))))))))
                have h_135 := ir_59_g hI (j := 4 * k9 + 1) (by omega)
                have h_136 : c_113 59 (4 * k9 + 1) = c 59 (4 * k9 + 1) := ((hF_115 59 (4 * k9 + 1) (by omega)).trans ((hF_90 59 (4 * k9 + 1) (by omega)).trans ((up_n (by omega)).trans ((up_n (by omega)).trans ((up_n (by omega)).trans ((up_n (by omega)).trans ((up_n (by omega)).trans ((up_n (by omega)).trans ((up_n (by omega)).trans (up_n (by omega)))))))))))
                have h_137 := ir_59_g hI (j := 4 * k9 + 2) (by omega)
                have h_138 : c_113 59 (4 * k9 + 2) = c 59 (4 * k9 + 2) := ((hF_115 59 (4 * k9 + 2) (by omega)).trans ((hF_90 59 (4 * k9 + 2) (by omega)).trans ((up_n (by omega)).trans ((up_n (by omega)).trans ((up_n (by omega)).trans ((up_n (by omega)).trans ((up_n (by omega)).trans ((up_n (by omega)).trans ((up_n (by omega)).trans (up_n (by omega)))))))))))
                have h_139 := ir_59_g hI (j := 4 * k9 + 3) (by omega)
                have h_140 : c_113 59 (4 * k9 + 3) = c 59 (4 * k9 + 3) := ((hF_115 59 (4 * k9 + 3) (by omega)).trans ((hF_90 59 (4 * k9 + 3) (by omega)).trans ((up_n (by omega)).trans ((up_n (by omega)).trans ((up_n (by omega)).trans ((up_n (by omega)).trans ((up_n (by omega)).trans ((up_n (by omega)).trans ((up_n (by omega)).trans (up_n (by omega)))))))))))
                omega
              have hI_141 := iv_close hI_114 hr_121
              exact K c_113 1 hI_141 (fun a j hm => (hF_115 a j (by omega)).trans ((hF_90 a j (by omega)).trans ((up_b (by omega)).trans ((up_b (by omega)).trans ((up_b (by omega)).trans ((up_b (by omega)).trans ((up_b (by omega)).trans ((up_b (by omega)).trans ((up_b (by omega)).trans (up_b (by omega))))))))))) ⟨by decide, by decide⟩
          · refine v_ic_ge_f (t := 75) rfl (by decide) (by omega) ?_
            refine q_aload_n rfl rfl ?_
            refine v_gr (t := 59) rfl rfl rfl (by decide) rfl ?_
            refine q_iconst rfl ?_
            refine q_iload_n rfl rfl ?_
            refine v_imul (v := 4 * a1) rfl (by omega) ?_
            refine q_iload rfl rfl ?_
            refine v_iadd (v := 4 * a1) rfl (by omega) ?_
            refine v_ia (v := c 59 (4 * a1)) rfl rfl (by decide) (by decide) (by omega) rfl ?_
            refine q_goto (t := 77) rfl (by decide) ?_
            refine q_istore rfl (by decide) ?_
            refine q_aload_n rfl rfl ?_
            refine v_gr (t := 59) rfl rfl rfl (by decide) rfl ?_
            refine q_iconst rfl ?_
            refine q_iload_n rfl rfl ?_
            refine v_imul (v := 4 * a1) rfl (by omega) ?_
            refine q_iload rfl rfl ?_
            refine v_iadd (v := 4 * a1) rfl (by omega) ?_
            refine q_dup2 rfl ⟨rfl, rfl⟩ ?_
            refine v_ia (v := c 59 (4 * a1)) rfl rfl (by decide) (by decide) (by omega) rfl ?_
            refine q_iload rfl rfl ?_
            refine v_isub (v := 0) rfl (by decide) ?_
            refine v_is rfl rfl (by decide) (by decide) (by omega) ?_
            refine q_aload_n rfl rfl ?_
            refine v_gr (t := 59) rfl rfl rfl (by decide) rfl ?_
            refine q_iconst rfl ?_
            refine q_iload_n rfl rfl ?_
            refine v_imul (v := 4 * a2) rfl (by omega) ?_
            refine q_iload rfl rfl ?_
            refine v_iadd (v := 4 * a2) rfl (by omega) ?_
            refine q_dup2 rfl ⟨rfl, rfl⟩ ?_
            refine v_ia (v := c 59 (4 * a2)) rfl rfl (by decide) (by decide) (by omega) (up_n (by omega)) ?_
            refine q_iload rfl rfl ?_
            refine v_iadd (v := c 59 (4 * a1) + c 59 (4 * a2)) rfl (by omega) ?_
            refine v_is rfl rfl (by decide) (by decide) (by omega) ?_
            refine q_iload rfl rfl ?_
            refine q_iload rfl rfl ?_
            refine v_isub (v := a3 - c 59 (4 * a1)) rfl (by omega) ?_
            refine q_istore rfl (by decide) ?_
            refine v_iinc (v := 1) rfl rfl (by decide) (by decide) ?_
            refine Wp_ls [(5, vi 1), (4, vi (a3 - c 59 (4 * a1))), (6, vi (c 59 (4 * a1))), (0, .ref 41), (1, vi a1), (2, vi a2), (3, vi a3)] (lsub_cons rfl (lsub_cons rfl (lsub_cons rfl (lsub_cons rfl (lsub_cons rfl (lsub_cons rfl (lsub_cons rfl lsub_nil))))))) ?_
            refine q_goto (t := 39) rfl (by decide) ?_
            refine q_iload rfl rfl ?_
            refine q_iconst rfl ?_
            refine v_ic_ge_f (t := 124) rfl (by decide) (by decide) ?_
            refine q_aload_n rfl rfl ?_
            refine v_gr (t := 59) rfl rfl rfl (by decide) rfl ?_
            refine q_iconst rfl ?_
            refine q_iload_n rfl rfl ?_
            refine v_imul (v := 4 * a1) rfl (by omega) ?_
            refine q_iload rfl rfl ?_
            refine v_iadd (v := 4 * a1 + 1) rfl (by omega) ?_
            refine v_ia (v := c 59 (4 * a1 + 1)) rfl rfl (by decide) (by decide) (by omega) ((up_n (by omega)).trans (up_n (by omega))) ?_
            refine q_iload rfl rfl ?_
            by_cases h_142 : c 59 (4 * a1 + 1) ≥ a3 - c 59 (4 * a1)
            · refine v_ic_ge_t (t := 75) rfl (by decide) (by omega) ?_
              refine q_iload rfl rfl ?_
              refine q_istore rfl (by decide) ?_
              refine q_aload_n rfl rfl ?_
              refine v_gr (t := 59) rfl rfl rfl (by decide) rfl ?_
              refine q_iconst rfl ?_
              refine q_iload_n rfl rfl ?_
              refine v_imul (v := 4 * a1) rfl (by omega) ?_
              refine q_iload rfl rfl ?_
              refine v_iadd (v := 4 * a1 + 1) rfl (by omega) ?_
              refine q_dup2 rfl ⟨rfl, rfl⟩ ?_
              refine v_ia (v := c 59 (4 * a1 + 1)) rfl rfl (by decide) (by decide) (by omega) ((up_n (by omega)).trans (up_n (by omega))) ?_
              refine q_iload rfl rfl ?_
              refine v_isub (v := c 59 (4 * a1 + 1) + c 59 (4 * a1) - a3) rfl (by omega) ?_
              refine v_is rfl rfl (by decide) (by decide) (by omega) ?_
              refine q_aload_n rfl rfl ?_
              refine v_gr (t := 59) rfl rfl rfl (by decide) rfl ?_
              refine q_iconst rfl ?_
              refine q_iload_n rfl rfl ?_
              refine v_imul (v := 4 * a2) rfl (by omega) ?_
              refine q_iload rfl rfl ?_
              refine v_iadd (v := 4 * a2 + 1) rfl (by omega) ?_
              refine q_dup2 rfl ⟨rfl, rfl⟩ ?_
              refine v_ia (v := c 59 (4 * a2 + 1)) rfl rfl (by decide) (by decide) (by omega) ((up_n (by omega)).trans ((up_n (by omega)).trans (up_n (by omega)))) ?_
              refine q_iload rfl rfl ?_
              refine v_iadd (v := a3 + c 59 (4 * a2 + 1) - c 59 (4 * a1)) rfl (by omega) ?_
              refine v_is rfl rfl (by decide) (by decide) (by omega) ?_
              refine q_iload rfl rfl ?_
              refine q_iload rfl rfl ?_
              refine v_isub (v := 0) rfl (by decide) ?_
              refine q_istore rfl (by decide) ?_
              refine v_iinc (v := 2) rfl rfl (by decide) (by decide) ?_
              refine q_goto (t := 39) rfl (by decide) ?_
              refine q_iload rfl rfl ?_
              refine q_iconst rfl ?_
              refine v_ic_ge_f (t := 124) rfl (by decide) (by decide) ?_
              refine q_aload_n rfl rfl ?_
              refine v_gr (t := 59) rfl rfl rfl (by decide) rfl ?_
              refine q_iconst rfl ?_
              refine q_iload_n rfl rfl ?_
              refine v_imul (v := 4 * a1) rfl (by omega) ?_
              refine q_iload rfl rfl ?_
              refine v_iadd (v := 4 * a1 + 2) rfl (by omega) ?_
              refine v_ia (v := c 59 (4 * a1 + 2)) rfl rfl (by decide) (by decide) (by omega) ((up_n (by omega)).trans ((up_n (by omega)).trans ((up_n (by omega)).trans (up_n (by omega))))) ?_
              refine q_iload rfl rfl ?_
              refine v_ic_ge_t (t := 75) rfl (by decide) (by omega) ?_
              refine q_iload rfl rfl ?_
              refine q_istore rfl (by decide) ?_
              refine q_aload_n rfl rfl ?_
              refine v_gr (t := 59) rfl rfl rfl (by decide) rfl ?_
              refine q_iconst rfl ?_
              refine q_iload_n rfl rfl ?_
              refine v_imul (v := 4 * a1) rfl (by omega) ?_
              refine q_iload rfl rfl ?_
              refine v_iadd (v := 4 * a1 + 2) rfl (by omega) ?_
              refine q_dup2 rfl ⟨rfl, rfl⟩ ?_
              refine v_ia (v := c 59 (4 * a1 + 2)) rfl rfl (by decide) (by decide) (by omega) ((up_n (by omega)).trans ((up_n (by omega)).trans ((up_n (by omega)).trans (up_n (by omega))))) ?_
              refine q_iload rfl rfl ?_
              refine v_isub (v := c 59 (4 * a1 + 2)) rfl (by omega) ?_
              refine v_is rfl rfl (by decide) (by decide) (by omega) ?_
              refine q_aload_n rfl rfl ?_
              refine v_gr (t := 59) rfl rfl rfl (by decide) rfl ?_
              refine q_iconst rfl ?_
              refine q_iload_n rfl rfl ?_
              refine v_imul (v := 4 * a2) rfl (by omega) ?_
              refine q_iload rfl rfl ?_
              refine v_iadd (v := 4 * a2 + 2) rfl (by omega) ?_
              refine q_dup2 rfl ⟨rfl, rfl⟩ ?_
              refine v_ia (v := c 59 (4 * a2 + 2)) rfl rfl (by decide) (by decide) (by omega) ((up_n (by omega)).trans ((up_n (by omega)).trans ((up_n (by omega)).trans ((up_n (by omega)).trans (up_n (by omega)))))) ?_
              refine q_iload rfl rfl ?_
              refine v_iadd (v := c 59 (4 * a2 + 2)) rfl (by omega) ?_
              refine v_is rfl rfl (by decide) (by decide) (by omega) ?_
              refine q_iload rfl rfl ?_
              refine q_iload rfl rfl ?_
              refine v_isub (v := 0) rfl (by decide) ?_
              refine q_istore rfl (by decide) ?_
              refine Wp_ls [(4, vi 0), (6, vi 0), (5, vi 2), (0, .ref 41), (1, vi a1), (2, vi a2), (3, vi a3)] (lsub_cons rfl (lsub_cons rfl (lsub_cons rfl (lsub_cons rfl (lsub_cons rfl (lsub_cons rfl (lsub_cons rfl lsub_nil))))))) ?_
              refine v_iinc (v := 3) rfl rfl (by decide) (by decide) ?_
              refine q_goto (t := 39) rfl (by decide) ?_
              refine q_iload rfl rfl ?_
              refine q_iconst rfl ?_
              refine v_ic_ge_f (t := 124) rfl (by decide) (by decide) ?_
              refine q_aload_n rfl rfl ?_
              refine v_gr (t := 59) rfl rfl rfl (by decide) rfl ?_
              refine q_iconst rfl ?_
              refine q_iload_n rfl rfl ?_
              refine v_imul (v := 4 * a1) rfl (by omega) ?_
              refine q_iload rfl rfl ?_
              refine v_iadd (v := 4 * a1 + 3) rfl (by omega) ?_
              refine v_ia (v := c 59 (4 * a1 + 3)) rfl rfl (by decide) (by decide) (by omega) ((up_n (by omega)).trans ((up_n (by omega)).trans ((up_n (by omega)).trans ((up_n (by omega)).trans ((up_n (by omega)).trans (up_n (by omega))))))) ?_
              refine q_iload rfl rfl ?_
              refine v_ic_ge_t (t := 75) rfl (by decide) (by omega) ?_
              refine q_iload rfl rfl ?_
              refine q_istore rfl (by decide) ?_
              refine q_aload_n rfl rfl ?_
              refine v_gr (t := 59) rfl rfl rfl (by decide) rfl ?_
              refine q_iconst rfl ?_
              refine q_iload_n rfl rfl ?_
              refine v_imul (v := 4 * a1) rfl (by omega) ?_
              refine q_iload rfl rfl ?_
              refine v_iadd (v := 4 * a1 + 3) rfl (by omega) ?_
              refine q_dup2 rfl ⟨rfl, rfl⟩ ?_
              refine v_ia (v := c 59 (4 * a1 + 3)) rfl rfl (by decide) (by decide) (by omega) ((up_n (by omega)).trans ((up_n (by omega)).trans ((up_n (by omega)).trans ((up_n (by omega)).trans ((up_n (by omega)).trans (up_n (by omega))))))) ?_
              refine q_iload rfl rfl ?_
              refine v_isub (v := c 59 (4 * a1 + 3)) rfl (by omega) ?_
              refine v_is rfl rfl (by decide) (by decide) (by omega) ?_
              refine q_aload_n rfl rfl ?_
              refine v_gr (t := 59) rfl rfl rfl (by decide) rfl ?_
              refine q_iconst rfl ?_
              refine q_iload_n rfl rfl ?_
              refine v_imul (v := 4 * a2) rfl (by omega) ?_
              refine q_iload rfl rfl ?_
              refine v_iadd (v := 4 * a2 + 3) rfl (by omega) ?_
              refine q_dup2 rfl ⟨rfl, rfl⟩ ?_
              refine v_ia (v := c 59 (4 * a2 + 3)) rfl rfl (by decide) (by decide) (by omega) ((up_n (by omega)).trans ((up_n (by omega)).trans ((up_n (by omega)).trans ((up_n (by omega)).trans ((up_n (by omega)).trans ((up_n (by omega)).trans (up_n (by omega)))))))) ?_
              refine q_iload rfl rfl ?_
              refine v_iadd (v := c 59 (4 * a2 + 3)) rfl (by omega) ?_
              refine v_is rfl rfl (by decide) (by decide) (by omega) ?_
              refine q_iload rfl rfl ?_
              refine q_iload rfl rfl ?_
              refine v_isub (v := 0) rfl (by decide) ?_
              refine q_istore rfl (by decide) ?_
              refine v_iinc (v := 4) rfl rfl (by decide) (by decide) ?_
              refine q_goto (t := 39) rfl (by decide) ?_
              refine q_iload rfl rfl ?_
              refine q_iconst rfl ?_
              refine v_ic_ge_t (t := 124) rfl (by decide) (by decide) ?_
              refine q_aload_n rfl rfl ?_
              refine q_iload_n rfl rfl ?_
              refine q_aload_n rfl rfl ?_
              refine v_gr (t := 59) rfl rfl rfl (by decide) rfl ?_
              refine v_bip rfl (by decide) ?_
              refine q_iload_n rfl rfl ?_
              refine v_iadd (v := a1 + 24) rfl (by omega) ?_
              have h_143 := ir_59 hI (a1 + 24)
              refine v_ia (v := c 59 (a1 + 24)) rfl rfl (by decide) (by decide) (by omega) ((up_n (by omega)).trans ((up_n (by omega)).trans ((up_n (by omega)).trans ((up_n (by omega)).trans ((up_n (by omega)).trans ((up_n (by omega)).trans ((up_n (by omega)).trans (up_n (by omega))))))))) ?_
              have hI_144 := iw_row (a := 59) (j := 4 * a1) (v := 0) hIo (by omega) (Or.inl rfl) ⟨by omega, by omega, by omega⟩
              have hI_145 := iw_row (a := 59) (j := 4 * a2) (v := c 59 (4 * a1) + c 59 (4 * a2)) hI_144 (by omega) (Or.inl rfl) ⟨by omega, by omega, by omega⟩
              have hI_146 := iw_row (a := 59) (j := 4 * a1 + 1) (v := c 59 (4 * a1 + 1) + c 59 (4 * a1) - a3) hI_145 (by omega) (Or.inl rfl) ⟨by omega, by omega, by omega⟩
              have hI_147 := iw_row (a := 59) (j := 4 * a2 + 1) (v := a3 + c 59 (4 * a2 + 1) - c 59 (4 * a1)) hI_146 (by omega) (Or.inl rfl) ⟨by omega, by omega, by omega⟩
              have hI_148 := iw_row (a := 59) (j := 4 * a1 + 2) (v := c 59 (4 * a1 + 2)) hI_147 (by omega) (Or.inl rfl) ⟨by omega, by omega, by omega⟩
              have hI_149 := iw_row (a := 59) (j := 4 * a2 + 2) (v := c 59 (4 * a2 + 2)) hI_148 (by omega) (Or.inl rfl) ⟨by omega, by omega, by omega⟩
              have hI_150 := iw_row (a := 59) (j := 4 * a1 + 3) (v := c 59 (4 * a1 + 3)) hI_149 (by omega) (Or.inl rfl) ⟨by omega, by omega, by omega⟩
              have hI_151 := iw_row (a := 59) (j := 4 * a2 + 3) (v := c 59 (4 * a2 + 3)) hI_150 (by omega) (Or.inl rfl) ⟨by omega, by omega, by omega⟩
              refine v_cv rfl rfl rfl rfl (by decide) ⟨⟨rfl, rfl⟩, by decide, rfl⟩ (Nat.le_of_ble_eq_true rfl) (Nat.le_of_ble_eq_true rfl) (s_191 (a1 := a2) (a2 := c 59 (a1 + 24)) hI_151 (show 0 ≤ a2 ∧ a2 ≤ 5 from by omega) (show (-2147483648) ≤ c 59 (a1 + 24) ∧ c 59 (a1 + 24) ≤ 2147483647 from by omega) (fun c_152 hI_153 hF_154 => ?_))
              refine bk_inl ?_
              refine q_aload_n rfl rfl ?_
              refine q_iload_n rfl rfl ?_
              refine v_cv rfl rfl rfl rfl (by decide) ⟨⟨rfl, rfl⟩, by decide, rfl⟩ (Nat.le_of_ble_eq_true rfl) (Nat.le_of_ble_eq_true rfl) (s_187 (v1 := 0) (v2 := c 59 (4 * a1 + 1) + c 59 (4 * a1) - a3) (v3 := c 59 (4 * a1 + 2)) (v4 := c 59 (4 * a1 + 3)) (r := c 59 (4 * a1 + 1) + c 59 (4 * a1 + 2) + c 59 (4 * a1 + 3) + c 59 (4 * a1) - a3) (a1 := a1) hI_153 (show 0 ≤ a1 ∧ a1 ≤ 5 from by omega) (((hF_154 59 (4 * a1) (by omega)).trans ((up_n (by omega)).trans ((up_n (by omega)).trans ((up_n (by omega)).trans ((up_n (by omega)).trans ((up_n (by omega)).trans ((up_n (by omega)).trans ((up_n (by omega)).trans (up_e rfl)))))))))) (((hF_154 59 (4 * a1 + 1) (by omega)).trans ((up_n (by omega)).trans ((up_n (by omega)).trans ((up_n (by omega)).trans ((up_n (by omega)).trans ((up_n (by omega)).trans (up_e rfl)))))))) (((hF_154 59 (4 * a1 + 2) (by omega)).trans ((up_n (by omega)).trans ((up_n (by omega)).trans ((up_n (by omega)).trans (up_e rfl)))))) (((hF_154 59 (4 * a1 + 3) (by omega)).trans ((up_n (by omega)).trans (up_e rfl)))) (by omega) ?_)
              refine bk_inl ?_
              by_cases h_155 : c 59 (4 * a1 + 1) + c 59 (4 * a1 + 2) + c 59 (4 * a1 + 3) + c 59 (4 * a1) - a3 ≠ 0
              · refine v_if_ne_t (t := 151) rfl (by decide) (by omega) ?_
                refine q_iconst rfl ?_
                refine v_zret rfl rfl (by omega) ?_
                have hr_156 : ∀ j : Int, rs 59 j → c_152 59 j + c_152 59 (j + 1) + c_152 59 (j + 2) + c_152 59 (j + 3) ≤ 9999 := by
                  intro j9 hj9
                  obtain ⟨k9, rfl, hk9⟩ := rs_59 hj9
                  by_cases e_157 : k9 = a1
                  · skip
                    have h_158 : c_152 59 (4 * k9) = 0 := (congrArg (c_152 59) (show 4 * k9 = 4 * a1 from by omega)).trans ((hF_154 59 (4 * a1) (by omega)).trans ((up_n (by omega)).trans ((up_n (by omega)).trans ((up_n (by omega)).trans ((up_n (by omega)).trans ((up_n (by omega)).trans ((up_n (by omega)).trans ((up_n (by omega)).trans (up_e rfl)))))))))
                    have h_159 : c_152 59 (4 * k9 + 1) = c 59 (4 * a1 + 1) + c 59 (4 * a1) - a3 := (congrArg (c_152 59) (show 4 * k9 + 1 = 4 * a1 + 1 from by omega)).trans ((hF_154 59 (4 * a1 + 1) (by omega)).trans ((up_n (by omega)).trans ((up_n (by omega)).trans ((up_n (by omega)).trans ((up_n (by omega)).trans ((up_n (by omega)).trans (up_e rfl)))))))
                    have h_160 : c_152 59 (4 * k9 + 2) = c 59 (4 * a1 + 2) := (congrArg (c_152 59) (show 4 * k9 + 2 = 4 * a1 + 2 from by omega)).trans ((hF_154 59 (4 * a1 + 2) (by omega)).trans ((up_n (by omega)).trans ((up_n (by omega)).trans ((up_n (by omega)).trans (up_e rfl)))))
                    have h_161 : c_152 59 (4 * k9 + 3) = c 59 (4 * a1 + 3) := (congrArg (c_152 59) (show 4 * k9 + 3 = 4 * a1 + 3 from by omega)).trans ((hF_154 59 (4 * a1 + 3) (by omega)).trans ((up_n (by omega)).trans (up_e rfl)))
                    omega
                  by_cases e_162 : k9 = a2
                  · skip
                    have h_163 : c_152 59 (4 * k9) = c 59 (4 * a1) + c 59 (4 * a2) := (congrArg (c_152 59) (show 4 * k9 = 4 * a2 from by omega)).trans ((hF_154 59 (4 * a2) (by omega)).trans ((up_n (by omega)).trans ((up_n (by omega)).trans ((up_n (by omega)).trans ((up_n (by omega)).trans ((up_n (by omega)).trans ((up_n (by omega)).trans (up_e rfl))))))))
                    have h_164 : c_152 59 (4 * k9 + 1) = a3 + c 59 (4 * a2 + 1) - c 59 (4 * a1) := (congrArg (c_152 59) (show 4 * k9 + 1 = 4 * a2 + 1 from by omega)).trans ((hF_154 59 (4 * a2 + 1) (by omega)).trans ((up_n (by omega)).trans ((up_n (by omega)).trans ((up_n (by omega)).trans ((up_n (by omega)).trans (up_e rfl))))))
                    have h_165 : c_152 59 (4 * k9 + 2) = c 59 (4 * a2 + 2) := (congrArg (c_152 59) (show 4 * k9 + 2 = 4 * a2 + 2 from by omega)).trans ((hF_154 59 (4 * a2 + 2) (by omega)).trans ((up_n (by omega)).trans ((up_n (by omega)).trans (up_e rfl))))
                    have h_166 : c_152 59 (4 * k9 + 3) = c 59 (4 * a2 + 3) := (congrArg (c_152 59) (show 4 * k9 + 3 = 4 * a2 + 3 from by omega)).trans ((hF_154 59 (4 * a2 + 3) (by omega)).trans (up_e rfl))
                    omega
                  have h_167 := iv_r hI 59 (4 * k9) hj9 (by omega)
                  have h_168 := ir_59_g hI (j := 4 * k9) (by omega)
                  have h_169 : c_152 59 (4 * k9) = c 59 (4 * k9) := ((hF_154 59 (4 * k9) (by omega)).trans ((up_n (by omega)).trans ((up_n (by omega)).trans ((up_n (by omega)).trans ((up_n (by omega)).trans ((up_n (by omega)).trans ((up_n (by omega)).trans ((up_n (by omega)).trans (up_n (by omega))))))))))
                  have h_170 := ir_59_g hI (j := 4 * k9 + 1) (by omega)
                  have h_171 : c_152 59 (4 * k9 + 1) = c 59 (4 * k9 + 1) := ((hF_154 59 (4 * k9 + 1) (by omega)).trans ((up_n (by omega)).trans ((up_n (by omega)).trans ((up_n (by omega)).trans ((up_n (by omega)).trans ((up_n (by omega)).trans ((up_n (by omega)).trans ((up_n (by omega)).trans (up_n (by omega))))))))))
                  have h_172 := ir_59_g hI (j := 4 * k9 + 2) (by omega)
                  have h_173 : c_152 59 (4 * k9 + 2) = c 59 (4 * k9 + 2) := ((hF_154 59 (4 * k9 + 2) (by omega)).trans ((up_n (by omega)).trans ((up_n (by omega)).trans ((up_n (by omega)).trans ((up_n (by omega)).trans ((up_n (by omega)).trans ((up_n (by omega)).trans ((up_n (by omega)).trans (up_n (by omega))))))))))
                  have h_174 := ir_59_g hI (j := 4 * k9 + 3) (by omega)
                  have h_175 : c_152 59 (4 * k9 + 3) = c 59 (4 * k9 + 3) := ((hF_154 59 (4 * k9 + 3) (by omega)).trans ((up_n (by omega)).trans ((up_n (by omega)).trans ((up_n (by omega)).trans ((up_n (by omega)).trans ((up_n (by omega)).trans ((up_n (by omega)).trans ((up_n (by omega)).trans (up_n (by omega))))))))))
                  omega
                have hI_176 := iv_close hI_153 hr_156
                exact K c_152 1 hI_176 (fun a j hm => (hF_154 a j (by omega)).trans ((up_b (by omega)).trans ((up_b (by omega)).trans ((up_b (by omega)).trans ((up_b (by omega)).trans ((up_b (by omega)).trans ((up_b (by omega)).trans ((up_b (by omega)).trans (up_b (by omega)))))))))) ⟨by decide, by decide⟩
              · refine v_if_ne_f (t := 151) rfl (by decide) (by omega) ?_
                refine q_aload_n rfl rfl ?_
                refine q_iload_n rfl rfl ?_
                refine v_cv rfl rfl rfl rfl (by decide) ⟨⟨rfl, rfl⟩, by decide, rfl⟩ (Nat.le_of_ble_eq_true rfl) (Nat.le_of_ble_eq_true rfl) (s_192 (a1 := a1) hI_153 (show 0 ≤ a1 ∧ a1 ≤ 5 from by omega) (fun c_177 hI_178 hF_179 h_180 => ?_))
                refine bk_inl ?_
                have h_181 := ir_59_g hI_178 (j := 4 * a1 + 1) (by omega)
                have h_182 := ir_59_g hI_178 (j := 4 * a1 + 2) (by omega)
                have h_183 := ir_59_g hI_178 (j := 4 * a1 + 3) (by omega)
                have h_184 := ir_59_g hI_178 (j := 4 * a1) (by omega)
                refine q_iconst rfl ?_
                refine v_zret rfl rfl (by omega) ?_
                have hr_185 : ∀ j : Int, rs 59 j → c_177 59 j + c_177 59 (j + 1) + c_177 59 (j + 2) + c_177 59 (j + 3) ≤ 9999 := by
                  intro j9 hj9
                  obtain ⟨k9, rfl, hk9⟩ := rs_59 hj9
                  by_cases e_186 : k9 = a1
                  · skip
                    have h_187 : c_177 59 (4 * k9) = c_177 59 (4 * a1) := (congrArg (c_177 59) (show 4 * k9 = 4 * a1 from by omega))
                    have h_188 : c_177 59 (4 * k9 + 1) = c_177 59 (4 * a1 + 1) := (congrArg (c_177 59) (show 4 * k9 + 1 = 4 * a1 + 1 from by omega))
                    have h_189 : c_177 59 (4 * k9 + 2) = c_177 59 (4 * a1 + 2) := (congrArg (c_177 59) (show 4 * k9 + 2 = 4 * a1 + 2 from by omega))
                    have h_190 : c_177 59 (4 * k9 + 3) = c_177 59 (4 * a1 + 3) := (congrArg (c_177 59) (show 4 * k9 + 3 = 4 * a1 + 3 from by omega))
                    omega
                  by_cases e_191 : k9 = a2
                  · skip
                    have h_192 : c_177 59 (4 * k9) = c 59 (4 * a1) + c 59 (4 * a2) := (congrArg (c_177 59) (show 4 * k9 = 4 * a2 from by omega)).trans ((hF_179 59 (4 * a2) (by omega)).trans ((hF_154 59 (4 * a2) (by omega)).trans ((up_n (by omega)).trans ((up_n (by omega)).trans ((up_n (by omega)).trans ((up_n (by omega)).trans ((up_n (by omega)).trans ((up_n (by omega)).trans (up_e rfl)))))))))
                    have h_193 : c_177 59 (4 * k9 + 1) = a3 + c 59 (4 * a2 + 1) - c 59 (4 * a1) := (congrArg (c_177 59) (show 4 * k9 + 1 = 4 * a2 + 1 from by omega)).trans ((hF_179 59 (4 * a2 + 1) (by omega)).trans ((hF_154 59 (4 * a2 + 1) (by omega)).trans ((up_n (by omega)).trans ((up_n (by omega)).trans ((up_n (by omega)).trans ((up_n (by omega)).trans (up_e rfl)))))))
                    have h_194 : c_177 59 (4 * k9 + 2) = c 59 (4 * a2 + 2) := (congrArg (c_177 59) (show 4 * k9 + 2 = 4 * a2 + 2 from by omega)).trans ((hF_179 59 (4 * a2 + 2) (by omega)).trans ((hF_154 59 (4 * a2 + 2) (by omega)).trans ((up_n (by omega)).trans ((up_n (by omega)).trans (up_e rfl)))))
                    have h_195 : c_177 59 (4 * k9 + 3) = c 59 (4 * a2 + 3) := (congrArg (c_177 59) (show 4 * k9 + 3 = 4 * a2 + 3 from by omega)).trans ((hF_179 59 (4 * a2 + 3) (by omega)).trans ((hF_154 59 (4 * a2 + 3) (by omega)).trans (up_e rfl)))
                    omega
                  have h_196 := iv_r hI 59 (4 * k9) hj9 (by omega)
                  have h_197 := ir_59_g hI (j := 4 * k9) (by omega)
                  have h_198 : c_177 59 (4 * k9) = c 59 (4 * k9) := ((hF_179 59 (4 * k9) (by omega)).trans ((hF_154 59 (4 * k9) (by omega)).trans ((up_n (by omega)).trans ((up_n (by omega)).trans ((up_n (by omega)).trans ((up_n (by omega)).trans ((up_n (by omega)).trans ((up_n (by omega)).trans ((up_n (by omega)).trans (up_n (by omega)))))))))))
                  have h_199 := ir_59_g hI (j := 4 * k9 + 1) (by omega)
                  have h_200 : c_177 59 (4 * k9 + 1) = c 59 (4 * k9 + 1) := ((hF_179 59 (4 * k9 + 1) (by omega)).trans ((hF_154 59 (4 * k9 + 1) (by omega)).trans ((up_n (by omega)).trans ((up_n (by omega)).trans ((up_n (by omega)).trans ((up_n (by omega)).trans ((up_n (by omega)).trans ((up_n (by omega)).trans ((up_n (by omega)).trans (up_n (by omega)))))))))))
                  have h_201 := ir_59_g hI (j := 4 * k9 + 2) (by omega)
                  have h_202 : c_177 59 (4 * k9 + 2) = c 59 (4 * k9 + 2) := ((hF_179 59 (4 * k9 + 2) (by omega)).trans ((hF_154 59 (4 * k9 + 2) (by omega)).trans ((up_n (by omega)).trans ((up_n (by omega)).trans ((up_n (by omega)).trans ((up_n (by omega)).trans ((up_n (by omega)).trans ((up_n (by omega)).trans ((up_n (by omega)).trans (up_n (by omega)))))))))))
                  have h_203 := ir_59_g hI (j := 4 * k9 + 3) (by omega)
                  have h_204 : c_177 59 (4 * k9 + 3) = c 59 (4 * k9 + 3) := ((hF_179 59 (4 * k9 + 3) (by omega)).trans ((hF_154 59 (4 * k9 + 3) (by omega)).trans ((up_n (by omega)).trans ((up_n (by omega)).trans ((up_n (by omega)).trans ((up_n (by omega)).trans ((up_n (by omega)).trans ((up_n (by omega)).trans ((up_n (by omega)).trans (up_n (by omega)))))))))))
                  omega
                have hI_205 := iv_close hI_178 hr_185
                exact K c_177 1 hI_205 (fun a j hm => (hF_179 a j (by omega)).trans ((hF_154 a j (by omega)).trans ((up_b (by omega)).trans ((up_b (by omega)).trans ((up_b (by omega)).trans ((up_b (by omega)).trans ((up_b (by omega)).trans ((up_b (by omega)).trans ((up_b (by omega)).trans (up_b (by omega))))))))))) ⟨by decide, by decide⟩
            · refine v_ic_ge_f (t := 75) rfl (by decide) (by omega) ?_
              refine q_aload_n rfl rfl ?_
              refine v_gr (t := 59) rfl rfl rfl (by decide) rfl ?_
              refine q_iconst rfl ?_
              refine q_iload_n rfl rfl ?_
              refine v_imul (v := 4 * a1) rfl (by omega) ?_
              refine q_iload rfl rfl ?_
              refine v_iadd (v := 4 * a1 + 1) rfl (by omega) ?_
              refine v_ia (v := c 59 (4 * a1 + 1)) rfl rfl (by decide) (by decide) (by omega) ((up_n (by omega)).trans (up_n (by omega))) ?_
              refine q_goto (t := 77) rfl (by decide) ?_
              refine q_istore rfl (by decide) ?_
              refine q_aload_n rfl rfl ?_
              refine v_gr (t := 59) rfl rfl rfl (by decide) rfl ?_
              refine q_iconst rfl ?_
              refine q_iload_n rfl rfl ?_
              refine v_imul (v := 4 * a1) rfl (by omega) ?_
              refine q_iload rfl rfl ?_
              refine v_iadd (v := 4 * a1 + 1) rfl (by omega) ?_
              refine q_dup2 rfl ⟨rfl, rfl⟩ ?_
              refine v_ia (v := c 59 (4 * a1 + 1)) rfl rfl (by decide) (by decide) (by omega) ((up_n (by omega)).trans (up_n (by omega))) ?_
              refine q_iload rfl rfl ?_
              refine v_isub (v := 0) rfl (by decide) ?_
              refine v_is rfl rfl (by decide) (by decide) (by omega) ?_
              refine q_aload_n rfl rfl ?_
              refine v_gr (t := 59) rfl rfl rfl (by decide) rfl ?_
              refine q_iconst rfl ?_
              refine q_iload_n rfl rfl ?_
              refine v_imul (v := 4 * a2) rfl (by omega) ?_
              refine q_iload rfl rfl ?_
              refine v_iadd (v := 4 * a2 + 1) rfl (by omega) ?_
              refine q_dup2 rfl ⟨rfl, rfl⟩ ?_
              refine v_ia (v := c 59 (4 * a2 + 1)) rfl rfl (by decide) (by decide) (by omega) ((up_n (by omega)).trans ((up_n (by omega)).trans (up_n (by omega)))) ?_
              refine q_iload rfl rfl ?_
              refine v_iadd (v := c 59 (4 * a1 + 1) + c 59 (4 * a2 + 1)) rfl (by omega) ?_
              refine v_is rfl rfl (by decide) (by decide) (by omega) ?_
              refine q_iload rfl rfl ?_
              refine q_iload rfl rfl ?_
              refine v_isub (v := a3 - c 59 (4 * a1 + 1) - c 59 (4 * a1)) rfl (by omega) ?_
              refine q_istore rfl (by decide) ?_
              refine v_iinc (v := 2) rfl rfl (by decide) (by decide) ?_
              refine q_goto (t := 39) rfl (by decide) ?_
              refine q_iload rfl rfl ?_
              refine q_iconst rfl ?_
              refine v_ic_ge_f (t := 124) rfl (by decide) (by decide) ?_
              refine q_aload_n rfl rfl ?_
              refine v_gr (t := 59) rfl rfl rfl (by decide) rfl ?_
              refine q_iconst rfl ?_
              refine q_iload_n rfl rfl ?_
              refine v_imul (v := 4 * a1) rfl (by omega) ?_
              refine q_iload rfl rfl ?_
              refine v_iadd (v := 4 * a1 + 2) rfl (by omega) ?_
              refine v_ia (v := c 59 (4 * a1 + 2)) rfl rfl (by decide) (by decide) (by omega) ((up_n (by omega)).trans ((up_n (by omega)).trans ((up_n (by omega)).trans (up_n (by omega))))) ?_
              refine q_iload rfl rfl ?_
              by_cases h_206 : c 59 (4 * a1 + 2) ≥ a3 - c 59 (4 * a1 + 1) - c 59 (4 * a1)
              · refine v_ic_ge_t (t := 75) rfl (by decide) (by omega) ?_
                refine q_iload rfl rfl ?_
                refine q_istore rfl (by decide) ?_
                refine q_aload_n rfl rfl ?_
                refine v_gr (t := 59) rfl rfl rfl (by decide) rfl ?_
                refine q_iconst rfl ?_
                refine q_iload_n rfl rfl ?_
                refine v_imul (v := 4 * a1) rfl (by omega) ?_
                refine q_iload rfl rfl ?_
                refine v_iadd (v := 4 * a1 + 2) rfl (by omega) ?_
                refine q_dup2 rfl ⟨rfl, rfl⟩ ?_
                refine v_ia (v := c 59 (4 * a1 + 2)) rfl rfl (by decide) (by decide) (by omega) ((up_n (by omega)).trans ((up_n (by omega)).trans ((up_n (by omega)).trans (up_n (by omega))))) ?_
                refine q_iload rfl rfl ?_
                refine v_isub (v := c 59 (4 * a1 + 1) + c 59 (4 * a1 + 2) + c 59 (4 * a1) - a3) rfl (by omega) ?_
                refine v_is rfl rfl (by decide) (by decide) (by omega) ?_
                refine q_aload_n rfl rfl ?_
                refine v_gr (t := 59) rfl rfl rfl (by decide) rfl ?_
                refine q_iconst rfl ?_
                refine q_iload_n rfl rfl ?_
                refine v_imul (v := 4 * a2) rfl (by omega) ?_
                refine q_iload rfl rfl ?_
                refine v_iadd (v := 4 * a2 + 2) rfl (by omega) ?_
                refine q_dup2 rfl ⟨rfl, rfl⟩ ?_
                refine v_ia (v := c 59 (4 * a2 + 2)) rfl rfl (by decide) (by decide) (by omega) ((up_n (by omega)).trans ((up_n (by omega)).trans ((up_n (by omega)).trans ((up_n (by omega)).trans (up_n (by omega)))))) ?_
                refine q_iload rfl rfl ?_
                refine v_iadd (v := a3 + c 59 (4 * a2 + 2) - c 59 (4 * a1 + 1) - c 59 (4 * a1)) rfl (by omega) ?_
                refine v_is rfl rfl (by decide) (by decide) (by omega) ?_
                refine q_iload rfl rfl ?_
                refine q_iload rfl rfl ?_
                refine v_isub (v := 0) rfl (by decide) ?_
                refine q_istore rfl (by decide) ?_
                refine Wp_ls [(4, vi 0), (6, vi (a3 - c 59 (4 * a1 + 1) - c 59 (4 * a1))), (5, vi 2), (0, .ref 41), (1, vi a1), (2, vi a2), (3, vi a3)] (lsub_cons rfl (lsub_cons rfl (lsub_cons rfl (lsub_cons rfl (lsub_cons rfl (lsub_cons rfl (lsub_cons rfl lsub_nil))))))) ?_
                refine v_iinc (v := 3) rfl rfl (by decide) (by decide) ?_
                refine q_goto (t := 39) rfl (by decide) ?_
                refine q_iload rfl rfl ?_
                refine q_iconst rfl ?_
                refine v_ic_ge_f (t := 124) rfl (by decide) (by decide) ?_
                refine q_aload_n rfl rfl ?_
                refine v_gr (t := 59) rfl rfl rfl (by decide) rfl ?_
                refine q_iconst rfl ?_
                refine q_iload_n rfl rfl ?_
                refine v_imul (v := 4 * a1) rfl (by omega) ?_
                refine q_iload rfl rfl ?_
                refine v_iadd (v := 4 * a1 + 3) rfl (by omega) ?_
                refine v_ia (v := c 59 (4 * a1 + 3)) rfl rfl (by decide) (by decide) (by omega) ((up_n (by omega)).trans ((up_n (by omega)).trans ((up_n (by omega)).trans ((up_n (by omega)).trans ((up_n (by omega)).trans (up_n (by omega))))))) ?_
                refine q_iload rfl rfl ?_
                refine v_ic_ge_t (t := 75) rfl (by decide) (by omega) ?_
                refine q_iload rfl rfl ?_
                refine q_istore rfl (by decide) ?_
                refine q_aload_n rfl rfl ?_
                refine v_gr (t := 59) rfl rfl rfl (by decide) rfl ?_
                refine q_iconst rfl ?_
                refine q_iload_n rfl rfl ?_
                refine v_imul (v := 4 * a1) rfl (by omega) ?_
                refine q_iload rfl rfl ?_
                refine v_iadd (v := 4 * a1 + 3) rfl (by omega) ?_
                refine q_dup2 rfl ⟨rfl, rfl⟩ ?_
                refine v_ia (v := c 59 (4 * a1 + 3)) rfl rfl (by decide) (by decide) (by omega) ((up_n (by omega)).trans ((up_n (by omega)).trans ((up_n (by omega)).trans ((up_n (by omega)).trans ((up_n (by omega)).trans (up_n (by omega))))))) ?_
                refine q_iload rfl rfl ?_
                refine v_isub (v := c 59 (4 * a1 + 3)) rfl (by omega) ?_
                refine v_is rfl rfl (by decide) (by decide) (by omega) ?_
                refine q_aload_n rfl rfl ?_
                refine v_gr (t := 59) rfl rfl rfl (by decide) rfl ?_
                refine q_iconst rfl ?_
                refine q_iload_n rfl rfl ?_
                refine v_imul (v := 4 * a2) rfl (by omega) ?_
                refine q_iload rfl rfl ?_
                refine v_iadd (v := 4 * a2 + 3) rfl (by omega) ?_
                refine q_dup2 rfl ⟨rfl, rfl⟩ ?_
                refine v_ia (v := c 59 (4 * a2 + 3)) rfl rfl (by decide) (by decide) (by omega) ((up_n (by omega)).trans ((up_n (by omega)).trans ((up_n (by omega)).trans ((up_n (by omega)).trans ((up_n (by omega)).trans ((up_n (by omega)).trans (up_n (by omega)))))))) ?_
                refine q_iload rfl rfl ?_
                refine v_iadd (v := c 59 (4 * a2 + 3)) rfl (by omega) ?_
                refine v_is rfl rfl (by decide) (by decide) (by omega) ?_
                refine q_iload rfl rfl ?_
                refine q_iload rfl rfl ?_
                refine v_isub (v := 0) rfl (by decide) ?_
                refine q_istore rfl (by decide) ?_
                refine v_iinc (v := 4) rfl rfl (by decide) (by decide) ?_
                refine q_goto (t := 39) rfl (by decide) ?_
                refine q_iload rfl rfl ?_
                refine q_iconst rfl ?_
                refine v_ic_ge_t (t := 124) rfl (by decide) (by decide) ?_
                refine q_aload_n rfl rfl ?_
                refine q_iload_n rfl rfl ?_
                refine q_aload_n rfl rfl ?_
                refine v_gr (t := 59) rfl rfl rfl (by decide) rfl ?_
                refine v_bip rfl (by decide) ?_
                refine q_iload_n rfl rfl ?_
                refine v_iadd (v := a1 + 24) rfl (by omega) ?_
                have h_207 := ir_59 hI (a1 + 24)
                refine v_ia (v := c 59 (a1 + 24)) rfl rfl (by decide) (by decide) (by omega) ((up_n (by omega)).trans ((up_n (by omega)).trans ((up_n (by omega)).trans ((up_n (by omega)).trans ((up_n (by omega)).trans ((up_n (by omega)).trans ((up_n (by omega)).trans (up_n (by omega))))))))) ?_
                have hI_208 := iw_row (a := 59) (j := 4 * a1) (v := 0) hIo (by omega) (Or.inl rfl) ⟨by omega, by omega, by omega⟩
                have hI_209 := iw_row (a := 59) (j := 4 * a2) (v := c 59 (4 * a1) + c 59 (4 * a2)) hI_208 (by omega) (Or.inl rfl) ⟨by omega, by omega, by omega⟩
                have hI_210 := iw_row (a := 59) (j := 4 * a1 + 1) (v := 0) hI_209 (by omega) (Or.inl rfl) ⟨by omega, by omega, by omega⟩
                have hI_211 := iw_row (a := 59) (j := 4 * a2 + 1) (v := c 59 (4 * a1 + 1) + c 59 (4 * a2 + 1)) hI_210 (by omega) (Or.inl rfl) ⟨by omega, by omega, by omega⟩
                have hI_212 := iw_row (a := 59) (j := 4 * a1 + 2) (v := c 59 (4 * a1 + 1) + c 59 (4 * a1 + 2) + c 59 (4 * a1) - a3) hI_211 (by omega) (Or.inl rfl) ⟨by omega, by omega, by omega⟩
                have hI_213 := iw_row (a := 59) (j := 4 * a2 + 2) (v := a3 + c 59 (4 * a2 + 2) - c 59 (4 * a1 + 1) - c 59 (4 * a1)) hI_212 (by omega) (Or.inl rfl) ⟨by omega, by omega, by omega⟩
                have hI_214 := iw_row (a := 59) (j := 4 * a1 + 3) (v := c 59 (4 * a1 + 3)) hI_213 (by omega) (Or.inl rfl) ⟨by omega, by omega, by omega⟩
                have hI_215 := iw_row (a := 59) (j := 4 * a2 + 3) (v := c 59 (4 * a2 + 3)) hI_214 (by omega) (Or.inl rfl) ⟨by omega, by omega, by omega⟩
                refine v_cv rfl rfl rfl rfl (by decide) ⟨⟨rfl, rfl⟩, by decide, rfl⟩ (Nat.le_of_ble_eq_true rfl) (Nat.le_of_ble_eq_true rfl) (s_191 (a1 := a2) (a2 := c 59 (a1 + 24)) hI_215 (show 0 ≤ a2 ∧ a2 ≤ 5 from by omega) (show (-2147483648) ≤ c 59 (a1 + 24) ∧ c 59 (a1 + 24) ≤ 2147483647 from by omega) (fun c_216 hI_217 hF_218 => ?_))
                refine bk_inl ?_
                refine q_aload_n rfl rfl ?_
                refine q_iload_n rfl rfl ?_
                refine v_cv rfl rfl rfl rfl (by decide) ⟨⟨rfl, rfl⟩, by decide, rfl⟩ (Nat.le_of_ble_eq_true rfl) (Nat.le_of_ble_eq_true rfl) (s_187 (v1 := 0) (v2 := 0) (v3 := c 59 (4 * a1 + 1) + c 59 (4 * a1 + 2) + c 59 (4 * a1) - a3) (v4 := c 59 (4 * a1 + 3)) (r := c 59 (4 * a1 + 1) + c 59 (4 * a1 + 2) + c 59 (4 * a1 + 3) + c 59 (4 * a1) - a3) (a1 := a1) hI_217 (show 0 ≤ a1 ∧ a1 ≤ 5 from by omega) (((hF_218 59 (4 * a1) (by omega)).trans ((up_n (by omega)).trans ((up_n (by omega)).trans ((up_n (by omega)).trans ((up_n (by omega)).trans ((up_n (by omega)).trans ((up_n (by omega)).trans ((up_n (by omega)).trans (up_e rfl)))))))))) (((hF_218 59 (4 * a1 + 1) (by omega)).trans ((up_n (by omega)).trans ((up_n (by omega)).trans ((up_n (by omega)).trans ((up_n (by omega)).trans ((up_n (by omega)).trans (up_e rfl)))))))) (((hF_218 59 (4 * a1 + 2) (by omega)).trans ((up_n (by omega)).trans ((up_n (by omega)).trans ((up_n (by omega)).trans (up_e rfl)))))) (((hF_218 59 (4 * a1 + 3) (by omega)).trans ((up_n (by omega)).trans (up_e rfl)))) (by omega) ?_)
                refine bk_inl ?_
                by_cases h_219 : c 59 (4 * a1 + 1) + c 59 (4 * a1 + 2) + c 59 (4 * a1 + 3) + c 59 (4 * a1) - a3 ≠ 0
                · refine v_if_ne_t (t := 151) rfl (by decide) (by omega) ?_
                  refine q_iconst rfl ?_
                  refine v_zret rfl rfl (by omega) ?_
                  have hr_220 : ∀ j : Int, rs 59 j → c_216 59 j + c_216 59 (j + 1) + c_216 59 (j + 2) + c_216 59 (j + 3) ≤ 9999 := by
                    intro j9 hj9
                    obtain ⟨k9, rfl, hk9⟩ := rs_59 hj9
                    by_cases e_221 : k9 = a1
                    · skip
                      have h_222 : c_216 59 (4 * k9) = 0 := (congrArg (c_216 59) (show 4 * k9 = 4 * a1 from by omega)).trans ((hF_218 59 (4 * a1) (by omega)).trans ((up_n (by omega)).trans ((up_n (by omega)).trans ((up_n (by omega)).trans ((up_n (by omega)).trans ((up_n (by omega)).trans ((up_n (by omega)).trans ((up_n (by omega)).trans (up_e rfl)))))))))
                      have h_223 : c_216 59 (4 * k9 + 1) = 0 := (congrArg (c_216 59) (show 4 * k9 + 1 = 4 * a1 + 1 from by omega)).trans ((hF_218 59 (4 * a1 + 1) (by omega)).trans ((up_n (by omega)).trans ((up_n (by omega)).trans ((up_n (by omega)).trans ((up_n (by omega)).trans ((up_n (by omega)).trans (up_e rfl)))))))
                      have h_224 : c_216 59 (4 * k9 + 2) = c 59 (4 * a1 + 1) + c 59 (4 * a1 + 2) + c 59 (4 * a1) - a3 := (congrArg (c_216 59) (show 4 * k9 + 2 = 4 * a1 + 2 from by omega)).trans ((hF_218 59 (4 * a1 + 2) (by omega)).trans ((up_n (by omega)).trans ((up_n (by omega)).trans ((up_n (by omega)).trans (up_e rfl)))))
                      have h_225 : c_216 59 (4 * k9 + 3) = c 59 (4 * a1 + 3) := (congrArg (c_216 59) (show 4 * k9 + 3 = 4 * a1 + 3 from by omega)).trans ((hF_218 59 (4 * a1 + 3) (by omega)).trans ((up_n (by omega)).trans (up_e rfl)))
                      omega
                    by_cases e_226 : k9 = a2
                    · skip
                      have h_227 : c_216 59 (4 * k9) = c 59 (4 * a1) + c 59 (4 * a2) := (congrArg (c_216 59) (show 4 * k9 = 4 * a2 from by omega)).trans ((hF_218 59 (4 * a2) (by omega)).trans ((up_n (by omega)).trans ((up_n (by omega)).trans ((up_n (by omega)).trans ((up_n (by omega)).trans ((up_n (by omega)).trans ((up_n (by omega)).trans (up_e rfl))))))))
                      have h_228 : c_216 59 (4 * k9 + 1) = c 59 (4 * a1 + 1) + c 59 (4 * a2 + 1) := (congrArg (c_216 59) (show 4 * k9 + 1 = 4 * a2 + 1 from by omega)).trans ((hF_218 59 (4 * a2 + 1) (by omega)).trans ((up_n (by omega)).trans ((up_n (by omega)).trans ((up_n (by omega)).trans ((up_n (by omega)).trans (up_e rfl))))))
                      have h_229 : c_216 59 (4 * k9 + 2) = a3 + c 59 (4 * a2 + 2) - c 59 (4 * a1 + 1) - c 59 (4 * a1) := (congrArg (c_216 59) (show 4 * k9 + 2 = 4 * a2 + 2 from by omega)).trans ((hF_218 59 (4 * a2 + 2) (by omega)).trans ((up_n (by omega)).trans ((up_n (by omega)).trans (up_e rfl))))
                      have h_230 : c_216 59 (4 * k9 + 3) = c 59 (4 * a2 + 3) := (congrArg (c_216 59) (show 4 * k9 + 3 = 4 * a2 + 3 from by omega)).trans ((hF_218 59 (4 * a2 + 3) (by omega)).trans (up_e rfl))
                      omega
                    have h_231 := iv_r hI 59 (4 * k9) hj9 (by omega)
                    have h_232 := ir_59_g hI (j := 4 * k9) (by omega)
                    have h_233 : c_216 59 (4 * k9) = c 59 (4 * k9) := ((hF_218 59 (4 * k9) (by omega)).trans ((up_n (by omega)).trans ((up_n (by omega)).trans ((up_n (by omega)).trans ((up_n (by omega)).trans ((up_n (by omega)).trans ((up_n (by omega)).trans ((up_n (by omega)).trans (up_n (by omega))))))))))
                    have h_234 := ir_59_g hI (j := 4 * k9 + 1) (by omega)
                    have h_235 : c_216 59 (4 * k9 + 1) = c 59 (4 * k9 + 1) := ((hF_218 59 (4 * k9 + 1) (by omega)).trans ((up_n (by omega)).trans ((up_n (by omega)).trans ((up_n (by omega)).trans ((up_n (by omega)).trans ((up_n (by omega)).trans ((up_n (by omega)).trans ((up_n (by omega)).trans (up_n (by omega))))))))))
                    have h_236 := ir_59_g hI (j := 4 * k9 + 2) (by omega)
                    have h_237 : c_216 59 (4 * k9 + 2) = c 59 (4 * k9 + 2) := ((hF_218 59 (4 * k9 + 2) (by omega)).trans ((up_n (by omega)).trans ((up_n (by omega)).trans ((up_n (by omega)).trans ((up_n (by omega)).trans ((up_n (by omega)).trans ((up_n (by omega)).trans ((up_n (by omega)).trans (up_n (by omega))))))))))
                    have h_238 := ir_59_g hI (j := 4 * k9 + 3) (by omega)
                    have h_239 : c_216 59 (4 * k9 + 3) = c 59 (4 * k9 + 3) := ((hF_218 59 (4 * k9 + 3) (by omega)).trans ((up_n (by omega)).trans ((up_n (by omega)).trans ((up_n (by omega)).trans ((up_n (by omega)).trans ((up_n (by omega)).trans ((up_n (by omega)).trans ((up_n (by omega)).trans (up_n (by omega))))))))))
                    omega
                  have hI_240 := iv_close hI_217 hr_220
                  exact K c_216 1 hI_240 (fun a j hm => (hF_218 a j (by omega)).trans ((up_b (by omega)).trans ((up_b (by omega)).trans ((up_b (by omega)).trans ((up_b (by omega)).trans ((up_b (by omega)).trans ((up_b (by omega)).trans ((up_b (by omega)).trans (up_b (by omega)))))))))) ⟨by decide, by decide⟩
                · refine v_if_ne_f (t := 151) rfl (by decide) (by omega) ?_
                  refine q_aload_n rfl rfl ?_
                  refine q_iload_n rfl rfl ?_
                  refine v_cv rfl rfl rfl rfl (by decide) ⟨⟨rfl, rfl⟩, by decide, rfl⟩ (Nat.le_of_ble_eq_true rfl) (Nat.le_of_ble_eq_true rfl) (s_192 (a1 := a1) hI_217 (show 0 ≤ a1 ∧ a1 ≤ 5 from by omega) (fun c_241 hI_242 hF_243 h_244 => ?_))
                  refine bk_inl ?_
                  have h_245 := ir_59_g hI_242 (j := 4 * a1 + 1) (by omega)
                  have h_246 := ir_59_g hI_242 (j := 4 * a1 + 2) (by omega)
                  have h_247 := ir_59_g hI_242 (j := 4 * a1 + 3) (by omega)
                  have h_248 := ir_59_g hI_242 (j := 4 * a1) (by omega)
                  refine q_iconst rfl ?_
                  refine v_zret rfl rfl (by omega) ?_
                  have hr_249 : ∀ j : Int, rs 59 j → c_241 59 j + c_241 59 (j + 1) + c_241 59 (j + 2) + c_241 59 (j + 3) ≤ 9999 := by
                    intro j9 hj9
                    obtain ⟨k9, rfl, hk9⟩ := rs_59 hj9
                    by_cases e_250 : k9 = a1
                    · skip
                      have h_251 : c_241 59 (4 * k9) = c_241 59 (4 * a1) := (congrArg (c_241 59) (show 4 * k9 = 4 * a1 from by omega))
                      have h_252 : c_241 59 (4 * k9 + 1) = c_241 59 (4 * a1 + 1) := (congrArg (c_241 59) (show 4 * k9 + 1 = 4 * a1 + 1 from by omega))
                      have h_253 : c_241 59 (4 * k9 + 2) = c_241 59 (4 * a1 + 2) := (congrArg (c_241 59) (show 4 * k9 + 2 = 4 * a1 + 2 from by omega))
                      have h_254 : c_241 59 (4 * k9 + 3) = c_241 59 (4 * a1 + 3) := (congrArg (c_241 59) (show 4 * k9 + 3 = 4 * a1 + 3 from by omega))
                      omega
                    by_cases e_255 : k9 = a2
                    · skip
                      have h_256 : c_241 59 (4 * k9) = c 59 (4 * a1) + c 59 (4 * a2) := (congrArg (c_241 59) (show 4 * k9 = 4 * a2 from by omega)).trans ((hF_243 59 (4 * a2) (by omega)).trans ((hF_218 59 (4 * a2) (by omega)).trans ((up_n (by omega)).trans ((up_n (by omega)).trans ((up_n (by omega)).trans ((up_n (by omega)).trans ((up_n (by omega)).trans ((up_n (by omega)).trans (up_e rfl)))))))))
                      have h_257 : c_241 59 (4 * k9 + 1) = c 59 (4 * a1 + 1) + c 59 (4 * a2 + 1) := (congrArg (c_241 59) (show 4 * k9 + 1 = 4 * a2 + 1 from by omega)).trans ((hF_243 59 (4 * a2 + 1) (by omega)).trans ((hF_218 59 (4 * a2 + 1) (by omega)).trans ((up_n (by omega)).trans ((up_n (by omega)).trans ((up_n (by omega)).trans ((up_n (by omega)).trans (up_e rfl)))))))
                      have h_258 : c_241 59 (4 * k9 + 2) = a3 + c 59 (4 * a2 + 2) - c 59 (4 * a1 + 1) - c 59 (4 * a1) := (congrArg (c_241 59) (show 4 * k9 + 2 = 4 * a2 + 2 from by omega)).trans ((hF_243 59 (4 * a2 + 2) (by omega)).trans ((hF_218 59 (4 * a2 + 2) (by omega)).trans ((up_n (by omega)).trans ((up_n (by omega)).trans (up_e rfl)))))
                      have h_259 : c_241 59 (4 * k9 + 3) = c 59 (4 * a2 + 3) := (congrArg (c_241 59) (show 4 * k9 + 3 = 4 * a2 + 3 from by omega)).trans ((hF_243 59 (4 * a2 + 3) (by omega)).trans ((hF_218 59 (4 * a2 + 3) (by omega)).trans (up_e rfl)))
                      omega
                    have h_260 := iv_r hI 59 (4 * k9) hj9 (by omega)
                    have h_261 := ir_59_g hI (j := 4 * k9) (by omega)
                    have h_262 : c_241 59 (4 * k9) = c 59 (4 * k9) := ((hF_243 59 (4 * k9) (by omega)).trans ((hF_218 59 (4 * k9) (by omega)).trans ((up_n (by omega)).trans ((up_n (by omega)).trans ((up_n (by omega)).trans ((up_n (by omega)).trans ((up_n (by omega)).trans ((up_n (by omega)).trans ((up_n (by omega)).trans (up_n (by omega)))))))))))
                    have h_263 := ir_59_g hI (j := 4 * k9 + 1) (by omega)
                    have h_264 : c_241 59 (4 * k9 + 1) = c 59 (4 * k9 + 1) := ((hF_243 59 (4 * k9 + 1) (by omega)).trans ((hF_218 59 (4 * k9 + 1) (by omega)).trans ((up_n (by omega)).trans ((up_n (by omega)).trans ((up_n (by omega)).trans ((up_n (by omega)).trans ((up_n (by omega)).trans ((up_n (by omega)).trans ((up_n (by omega)).trans (up_n (by omega)))))))))))
                    have h_265 := ir_59_g hI (j := 4 * k9 + 2) (by omega)
                    have h_266 : c_241 59 (4 * k9 + 2) = c 59 (4 * k9 + 2) := ((hF_243 59 (4 * k9 + 2) (by omega)).trans ((hF_218 59 (4 * k9 + 2) (by omega)).trans ((up_n (by omega)).trans ((up_n (by omega)).trans ((up_n (by omega)).trans ((up_n (by omega)).trans ((up_n (by omega)).trans ((up_n (by omega)).trans ((up_n (by omega)).trans (up_n (by omega)))))))))))
                    have h_267 := ir_59_g hI (j := 4 * k9 + 3) (by omega)
                    have h_268 : c_241 59 (4 * k9 + 3) = c 59 (4 * k9 + 3) := ((hF_243 59 (4 * k9 + 3) (by omega)).trans ((hF_218 59 (4 * k9 + 3) (by omega)).trans ((up_n (by omega)).trans ((up_n (by omega)).trans ((up_n (by omega)).trans ((up_n (by omega)).trans ((up_n (by omega)).trans ((up_n (by omega)).trans ((up_n (by omega)).trans (up_n (by omega)))))))))))
                    omega
                  have hI_269 := iv_close hI_242 hr_249
                  exact K c_241 1 hI_269 (fun a j hm => (hF_243 a j (by omega)).trans ((hF_218 a j (by omega)).trans ((up_b (by omega)).trans ((up_b (by omega)).trans ((up_b (by omega)).trans ((up_b (by omega)).trans ((up_b (by omega)).trans ((up_b (by omega)).trans ((up_b (by omega)).trans (up_b (by omega))))))))))) ⟨by decide, by decide⟩
              · refine v_ic_ge_f (t := 75) rfl (by decide) (by omega) ?_
                refine q_aload_n rfl rfl ?_
                refine v_gr (t := 59) rfl rfl rfl (by decide) rfl ?_
                refine q_iconst rfl ?_
                refine q_iload_n rfl rfl ?_
                refine v_imul (v := 4 * a1) rfl (by omega) ?_
                refine q_iload rfl rfl ?_
                refine v_iadd (v := 4 * a1 + 2) rfl (by omega) ?_
                refine v_ia (v := c 59 (4 * a1 + 2)) rfl rfl (by decide) (by decide) (by omega) ((up_n (by omega)).trans ((up_n (by omega)).trans ((up_n (by omega)).trans (up_n (by omega))))) ?_
                refine q_goto (t := 77) rfl (by decide) ?_
                refine q_istore rfl (by decide) ?_
                refine q_aload_n rfl rfl ?_
                refine v_gr (t := 59) rfl rfl rfl (by decide) rfl ?_
                refine q_iconst rfl ?_
                refine q_iload_n rfl rfl ?_
                refine v_imul (v := 4 * a1) rfl (by omega) ?_
                refine q_iload rfl rfl ?_
                refine v_iadd (v := 4 * a1 + 2) rfl (by omega) ?_
                refine q_dup2 rfl ⟨rfl, rfl⟩ ?_
                refine v_ia (v := c 59 (4 * a1 + 2)) rfl rfl (by decide) (by decide) (by omega) ((up_n (by omega)).trans ((up_n (by omega)).trans ((up_n (by omega)).trans (up_n (by omega))))) ?_
                refine q_iload rfl rfl ?_
                refine v_isub (v := 0) rfl (by decide) ?_
                refine v_is rfl rfl (by decide) (by decide) (by omega) ?_
                refine q_aload_n rfl rfl ?_
                refine v_gr (t := 59) rfl rfl rfl (by decide) rfl ?_
                refine q_iconst rfl ?_
                refine q_iload_n rfl rfl ?_
                refine v_imul (v := 4 * a2) rfl (by omega) ?_
                refine q_iload rfl rfl ?_
                refine v_iadd (v := 4 * a2 + 2) rfl (by omega) ?_
                refine q_dup2 rfl ⟨rfl, rfl⟩ ?_
                refine v_ia (v := c 59 (4 * a2 + 2)) rfl rfl (by decide) (by decide) (by omega) ((up_n (by omega)).trans ((up_n (by omega)).trans ((up_n (by omega)).trans ((up_n (by omega)).trans (up_n (by omega)))))) ?_
                refine q_iload rfl rfl ?_
                refine v_iadd (v := c 59 (4 * a1 + 2) + c 59 (4 * a2 + 2)) rfl (by omega) ?_
                refine v_is rfl rfl (by decide) (by decide) (by omega) ?_
                refine q_iload rfl rfl ?_
                refine q_iload rfl rfl ?_
                refine v_isub (v := a3 - c 59 (4 * a1 + 1) - c 59 (4 * a1 + 2) - c 59 (4 * a1)) rfl (by omega) ?_
                refine q_istore rfl (by decide) ?_
                refine Wp_ls [(4, vi (a3 - c 59 (4 * a1 + 1) - c 59 (4 * a1 + 2) - c 59 (4 * a1))), (6, vi (c 59 (4 * a1 + 2))), (5, vi 2), (0, .ref 41), (1, vi a1), (2, vi a2), (3, vi a3)] (lsub_cons rfl (lsub_cons rfl (lsub_cons rfl (lsub_cons rfl (lsub_cons rfl (lsub_cons rfl (lsub_cons rfl lsub_nil))))))) ?_
                refine v_iinc (v := 3) rfl rfl (by decide) (by decide) ?_
                refine q_goto (t := 39) rfl (by decide) ?_
                refine q_iload rfl rfl ?_
                refine q_iconst rfl ?_
                refine v_ic_ge_f (t := 124) rfl (by decide) (by decide) ?_
                refine q_aload_n rfl rfl ?_
                refine v_gr (t := 59) rfl rfl rfl (by decide) rfl ?_
                refine q_iconst rfl ?_
                refine q_iload_n rfl rfl ?_
                refine v_imul (v := 4 * a1) rfl (by omega) ?_
                refine q_iload rfl rfl ?_
                refine v_iadd (v := 4 * a1 + 3) rfl (by omega) ?_
                refine v_ia (v := c 59 (4 * a1 + 3)) rfl rfl (by decide) (by decide) (by omega) ((up_n (by omega)).trans ((up_n (by omega)).trans ((up_n (by omega)).trans ((up_n (by omega)).trans ((up_n (by omega)).trans (up_n (by omega))))))) ?_
                refine q_iload rfl rfl ?_
                refine v_ic_ge_t (t := 75) rfl (by decide) (by omega) ?_
                refine q_iload rfl rfl ?_
                refine q_istore rfl (by decide) ?_
                refine q_aload_n rfl rfl ?_
                refine v_gr (t := 59) rfl rfl rfl (by decide) rfl ?_
                refine q_iconst rfl ?_
                refine q_iload_n rfl rfl ?_
                refine v_imul (v := 4 * a1) rfl (by omega) ?_
                refine q_iload rfl rfl ?_
                refine v_iadd (v := 4 * a1 + 3) rfl (by omega) ?_
                refine q_dup2 rfl ⟨rfl, rfl⟩ ?_
                refine v_ia (v := c 59 (4 * a1 + 3)) rfl rfl (by decide) (by decide) (by omega) ((up_n (by omega)).trans ((up_n (by omega)).trans ((up_n (by omega)).trans ((up_n (by omega)).trans ((up_n (by omega)).trans (up_n (by omega))))))) ?_
                refine q_iload rfl rfl ?_
                refine v_isub (v := c 59 (4 * a1 + 1) + c 59 (4 * a1 + 2) + c 59 (4 * a1 + 3) + c 59 (4 * a1) - a3) rfl (by omega) ?_
                refine v_is rfl rfl (by decide) (by decide) (by omega) ?_
                refine q_aload_n rfl rfl ?_
                refine v_gr (t := 59) rfl rfl rfl (by decide) rfl ?_
                refine q_iconst rfl ?_
                refine q_iload_n rfl rfl ?_
                refine v_imul (v := 4 * a2) rfl (by omega) ?_
                refine q_iload rfl rfl ?_
                refine v_iadd (v := 4 * a2 + 3) rfl (by omega) ?_
                refine q_dup2 rfl ⟨rfl, rfl⟩ ?_
                refine v_ia (v := c 59 (4 * a2 + 3)) rfl rfl (by decide) (by decide) (by omega) ((up_n (by omega)).trans ((up_n (by omega)).trans ((up_n (by omega)).trans ((up_n (by omega)).trans ((up_n (by omega)).trans ((up_n (by omega)).trans (up_n (by omega)))))))) ?_
                refine q_iload rfl rfl ?_
                refine v_iadd (v := a3 + c 59 (4 * a2 + 3) - c 59 (4 * a1 + 1) - c 59 (4 * a1 + 2) - c 59 (4 * a1)) rfl (by omega) ?_
                refine v_is rfl rfl (by decide) (by decide) (by omega) ?_
                refine q_iload rfl rfl ?_
                refine q_iload rfl rfl ?_
                refine v_isub (v := 0) rfl (by decide) ?_
                refine q_istore rfl (by decide) ?_
                refine v_iinc (v := 4) rfl rfl (by decide) (by decide) ?_
                refine q_goto (t := 39) rfl (by decide) ?_
                refine q_iload rfl rfl ?_
                refine q_iconst rfl ?_
                refine v_ic_ge_t (t := 124) rfl (by decide) (by decide) ?_
                refine q_aload_n rfl rfl ?_
                refine q_iload_n rfl rfl ?_
                refine q_aload_n rfl rfl ?_
                refine v_gr (t := 59) rfl rfl rfl (by decide) rfl ?_
                refine v_bip rfl (by decide) ?_
                refine q_iload_n rfl rfl ?_
                refine v_iadd (v := a1 + 24) rfl (by omega) ?_
                have h_270 := ir_59 hI (a1 + 24)
                refine v_ia (v := c 59 (a1 + 24)) rfl rfl (by decide) (by decide) (by omega) ((up_n (by omega)).trans ((up_n (by omega)).trans ((up_n (by omega)).trans ((up_n (by omega)).trans ((up_n (by omega)).trans ((up_n (by omega)).trans ((up_n (by omega)).trans (up_n (by omega))))))))) ?_
                have hI_271 := iw_row (a := 59) (j := 4 * a1) (v := 0) hIo (by omega) (Or.inl rfl) ⟨by omega, by omega, by omega⟩
                have hI_272 := iw_row (a := 59) (j := 4 * a2) (v := c 59 (4 * a1) + c 59 (4 * a2)) hI_271 (by omega) (Or.inl rfl) ⟨by omega, by omega, by omega⟩
                have hI_273 := iw_row (a := 59) (j := 4 * a1 + 1) (v := 0) hI_272 (by omega) (Or.inl rfl) ⟨by omega, by omega, by omega⟩
                have hI_274 := iw_row (a := 59) (j := 4 * a2 + 1) (v := c 59 (4 * a1 + 1) + c 59 (4 * a2 + 1)) hI_273 (by omega) (Or.inl rfl) ⟨by omega, by omega, by omega⟩
                have hI_275 := iw_row (a := 59) (j := 4 * a1 + 2) (v := 0) hI_274 (by omega) (Or.inl rfl) ⟨by omega, by omega, by omega⟩
                have hI_276 := iw_row (a := 59) (j := 4 * a2 + 2) (v := c 59 (4 * a1 + 2) + c 59 (4 * a2 + 2)) hI_275 (by omega) (Or.inl rfl) ⟨by omega, by omega, by omega⟩
                have hI_277 := iw_row (a := 59) (j := 4 * a1 + 3) (v := c 59 (4 * a1 + 1) + c 59 (4 * a1 + 2) + c 59 (4 * a1 + 3) + c 59 (4 * a1) - a3) hI_276 (by omega) (Or.inl rfl) ⟨by omega, by omega, by omega⟩
                have hI_278 := iw_row (a := 59) (j := 4 * a2 + 3) (v := a3 + c 59 (4 * a2 + 3) - c 59 (4 * a1 + 1) - c 59 (4 * a1 + 2) - c 59 (4 * a1)) hI_277 (by omega) (Or.inl rfl) ⟨by omega, by omega, by omega⟩
                refine v_cv rfl rfl rfl rfl (by decide) ⟨⟨rfl, rfl⟩, by decide, rfl⟩ (Nat.le_of_ble_eq_true rfl) (Nat.le_of_ble_eq_true rfl) (s_191 (a1 := a2) (a2 := c 59 (a1 + 24)) hI_278 (show 0 ≤ a2 ∧ a2 ≤ 5 from by omega) (show (-2147483648) ≤ c 59 (a1 + 24) ∧ c 59 (a1 + 24) ≤ 2147483647 from by omega) (fun c_279 hI_280 hF_281 => ?_))
                refine bk_inl ?_
                refine q_aload_n rfl rfl ?_
                refine q_iload_n rfl rfl ?_
                refine v_cv rfl rfl rfl rfl (by decide) ⟨⟨rfl, rfl⟩, by decide, rfl⟩ (Nat.le_of_ble_eq_true rfl) (Nat.le_of_ble_eq_true rfl) (s_187 (v1 := 0) (v2 := 0) (v3 := 0) (v4 := c 59 (4 * a1 + 1) + c 59 (4 * a1 + 2) + c 59 (4 * a1 + 3) + c 59 (4 * a1) - a3) (r := c 59 (4 * a1 + 1) + c 59 (4 * a1 + 2) + c 59 (4 * a1 + 3) + c 59 (4 * a1) - a3) (a1 := a1) hI_280 (show 0 ≤ a1 ∧ a1 ≤ 5 from by omega) (((hF_281 59 (4 * a1) (by omega)).trans ((up_n (by omega)).trans ((up_n (by omega)).trans ((up_n (by omega)).trans ((up_n (by omega)).trans ((up_n (by omega)).trans ((up_n (by omega)).trans ((up_n (by omega)).trans (up_e rfl)))))))))) (((hF_281 59 (4 * a1 + 1) (by omega)).trans ((up_n (by omega)).trans ((up_n (by omega)).trans ((up_n (by omega)).trans ((up_n (by omega)).trans ((up_n (by omega)).trans (up_e rfl)))))))) (((hF_281 59 (4 * a1 + 2) (by omega)).trans ((up_n (by omega)).trans ((up_n (by omega)).trans ((up_n (by omega)).trans (up_e rfl)))))) (((hF_281 59 (4 * a1 + 3) (by omega)).trans ((up_n (by omega)).trans (up_e rfl)))) (by omega) ?_)
                refine bk_inl ?_
                by_cases h_282 : c 59 (4 * a1 + 1) + c 59 (4 * a1 + 2) + c 59 (4 * a1 + 3) + c 59 (4 * a1) - a3 ≠ 0
                · refine v_if_ne_t (t := 151) rfl (by decide) (by omega) ?_
                  refine q_iconst rfl ?_
                  refine v_zret rfl rfl (by omega) ?_
                  have hr_283 : ∀ j : Int, rs 59 j → c_279 59 j + c_279 59 (j + 1) + c_279 59 (j + 2) + c_279 59 (j + 3) ≤ 9999 := by
                    intro j9 hj9
                    obtain ⟨k9, rfl, hk9⟩ := rs_59 hj9
                    by_cases e_284 : k9 = a1
                    · skip
                      have h_285 : c_279 59 (4 * k9) = 0 := (congrArg (c_279 59) (show 4 * k9 = 4 * a1 from by omega)).trans ((hF_281 59 (4 * a1) (by omega)).trans ((up_n (by omega)).trans ((up_n (by omega)).trans ((up_n (by omega)).trans ((up_n (by omega)).trans ((up_n (by omega)).trans ((up_n (by omega)).trans ((up_n (by omega)).trans (up_e rfl)))))))))
                      have h_286 : c_279 59 (4 * k9 + 1) = 0 := (congrArg (c_279 59) (show 4 * k9 + 1 = 4 * a1 + 1 from by omega)).trans ((hF_281 59 (4 * a1 + 1) (by omega)).trans ((up_n (by omega)).trans ((up_n (by omega)).trans ((up_n (by omega)).trans ((up_n (by omega)).trans ((up_n (by omega)).trans (up_e rfl)))))))
                      have h_287 : c_279 59 (4 * k9 + 2) = 0 := (congrArg (c_279 59) (show 4 * k9 + 2 = 4 * a1 + 2 from by omega)).trans ((hF_281 59 (4 * a1 + 2) (by omega)).trans ((up_n (by omega)).trans ((up_n (by omega)).trans ((up_n (by omega)).trans (up_e rfl)))))
                      have h_288 : c_279 59 (4 * k9 + 3) = c 59 (4 * a1 + 1) + c 59 (4 * a1 + 2) + c 59 (4 * a1 + 3) + c 59 (4 * a1) - a3 := (congrArg (c_279 59) (show 4 * k9 + 3 = 4 * a1 + 3 from by omega)).trans ((hF_281 59 (4 * a1 + 3) (by omega)).trans ((up_n (by omega)).trans (up_e rfl)))
                      omega
                    by_cases e_289 : k9 = a2
                    · skip
                      have h_290 : c_279 59 (4 * k9) = c 59 (4 * a1) + c 59 (4 * a2) := (congrArg (c_279 59) (show 4 * k9 = 4 * a2 from by omega)).trans ((hF_281 59 (4 * a2) (by omega)).trans ((up_n (by omega)).trans ((up_n (by omega)).trans ((up_n (by omega)).trans ((up_n (by omega)).trans ((up_n (by omega)).trans ((up_n (by omega)).trans (up_e rfl))))))))
                      have h_291 : c_279 59 (4 * k9 + 1) = c 59 (4 * a1 + 1) + c 59 (4 * a2 + 1) := (congrArg (c_279 59) (show 4 * k9 + 1 = 4 * a2 + 1 from by omega)).trans ((hF_281 59 (4 * a2 + 1) (by omega)).trans ((up_n (by omega)).trans ((up_n (by omega)).trans ((up_n (by omega)).trans ((up_n (by omega)).trans (up_e rfl))))))
                      have h_292 : c_279 59 (4 * k9 + 2) = c 59 (4 * a1 + 2) + c 59 (4 * a2 + 2) := (congrArg (c_279 59) (show 4 * k9 + 2 = 4 * a2 + 2 from by omega)).trans ((hF_281 59 (4 * a2 + 2) (by omega)).trans ((up_n (by omega)).trans ((up_n (by omega)).trans (up_e rfl))))
                      have h_293 : c_279 59 (4 * k9 + 3) = a3 + c 59 (4 * a2 + 3) - c 59 (4 * a1 + 1) - c 59 (4 * a1 + 2) - c 59 (4 * a1) := (congrArg (c_279 59) (show 4 * k9 + 3 = 4 * a2 + 3 from by omega)).trans ((hF_281 59 (4 * a2 + 3) (by omega)).trans (up_e rfl))
                      omega
                    have h_294 := iv_r hI 59 (4 * k9) hj9 (by omega)
                    have h_295 := ir_59_g hI (j := 4 * k9) (by omega)
                    have h_296 : c_279 59 (4 * k9) = c 59 (4 * k9) := ((hF_281 59 (4 * k9) (by omega)).trans ((up_n (by omega)).trans ((up_n (by omega)).trans ((up_n (by omega)).trans ((up_n (by omega)).trans ((up_n (by omega)).trans ((up_n (by omega)).trans ((up_n (by omega)).trans (up_n (by omega))))))))))
                    have h_297 := ir_59_g hI (j := 4 * k9 + 1) (by omega)
                    have h_298 : c_279 59 (4 * k9 + 1) = c 59 (4 * k9 + 1) := ((hF_281 59 (4 * k9 + 1) (by omega)).trans ((up_n (by omega)).trans ((up_n (by omega)).trans ((up_n (by omega)).trans ((up_n (by omega)).trans ((up_n (by omega)).trans ((up_n (by omega)).trans ((up_n (by omega)).trans (up_n (by omega))))))))))
                    have h_299 := ir_59_g hI (j := 4 * k9 + 2) (by omega)
                    have h_300 : c_279 59 (4 * k9 + 2) = c 59 (4 * k9 + 2) := ((hF_281 59 (4 * k9 + 2) (by omega)).trans ((up_n (by omega)).trans ((up_n (by omega)).trans ((up_n (by omega)).trans ((up_n (by omega)).trans ((up_n (by omega)).trans ((up_n (by omega)).trans ((up_n (by omega)).trans (up_n (by omega))))))))))
                    have h_301 := ir_59_g hI (j := 4 * k9 + 3) (by omega)
                    have h_302 : c_279 59 (4 * k9 + 3) = c 59 (4 * k9 + 3) := ((hF_281 59 (4 * k9 + 3) (by omega)).trans ((up_n (by omega)).trans ((up_n (by omega)).trans ((up_n (by omega)).trans ((up_n (by omega)).trans ((up_n (by omega)).trans ((up_n (by omega)).trans ((up_n (by omega)).trans (up_n (by omega))))))))))
                    omega
                  have hI_303 := iv_close hI_280 hr_283
                  exact K c_279 1 hI_303 (fun a j hm => (hF_281 a j (by omega)).trans ((up_b (by omega)).trans ((up_b (by omega)).trans ((up_b (by omega)).trans ((up_b (by omega)).trans ((up_b (by omega)).trans ((up_b (by omega)).trans ((up_b (by omega)).trans (up_b (by omega)))))))))) ⟨by decide, by decide⟩
                · refine v_if_ne_f (t := 151) rfl (by decide) (by omega) ?_
                  refine q_aload_n rfl rfl ?_
                  refine q_iload_n rfl rfl ?_
                  refine v_cv rfl rfl rfl rfl (by decide) ⟨⟨rfl, rfl⟩, by decide, rfl⟩ (Nat.le_of_ble_eq_true rfl) (Nat.le_of_ble_eq_true rfl) (s_192 (a1 := a1) hI_280 (show 0 ≤ a1 ∧ a1 ≤ 5 from by omega) (fun c_304 hI_305 hF_306 h_307 => ?_))
                  refine bk_inl ?_
                  have h_308 := ir_59_g hI_305 (j := 4 * a1 + 1) (by omega)
                  have h_309 := ir_59_g hI_305 (j := 4 * a1 + 2) (by omega)
                  have h_310 := ir_59_g hI_305 (j := 4 * a1 + 3) (by omega)
                  have h_311 := ir_59_g hI_305 (j := 4 * a1) (by omega)
                  refine q_iconst rfl ?_
                  refine v_zret rfl rfl (by omega) ?_
                  have hr_312 : ∀ j : Int, rs 59 j → c_304 59 j + c_304 59 (j + 1) + c_304 59 (j + 2) + c_304 59 (j + 3) ≤ 9999 := by
                    intro j9 hj9
                    obtain ⟨k9, rfl, hk9⟩ := rs_59 hj9
                    by_cases e_313 : k9 = a1
                    · skip
                      have h_314 : c_304 59 (4 * k9) = c_304 59 (4 * a1) := (congrArg (c_304 59) (show 4 * k9 = 4 * a1 from by omega))
                      have h_315 : c_304 59 (4 * k9 + 1) = c_304 59 (4 * a1 + 1) := (congrArg (c_304 59) (show 4 * k9 + 1 = 4 * a1 + 1 from by omega))
                      have h_316 : c_304 59 (4 * k9 + 2) = c_304 59 (4 * a1 + 2) := (congrArg (c_304 59) (show 4 * k9 + 2 = 4 * a1 + 2 from by omega))
                      have h_317 : c_304 59 (4 * k9 + 3) = c_304 59 (4 * a1 + 3) := (congrArg (c_304 59) (show 4 * k9 + 3 = 4 * a1 + 3 from by omega))
                      omega
                    by_cases e_318 : k9 = a2
                    · skip
                      have h_319 : c_304 59 (4 * k9) = c 59 (4 * a1) + c 59 (4 * a2) := (congrArg (c_304 59) (show 4 * k9 = 4 * a2 from by omega)).trans ((hF_306 59 (4 * a2) (by omega)).trans ((hF_281 59 (4 * a2) (by omega)).trans ((up_n (by omega)).trans ((up_n (by omega)).trans ((up_n (by omega)).trans ((up_n (by omega)).trans ((up_n (by omega)).trans ((up_n (by omega)).trans (up_e rfl)))))))))
                      have h_320 : c_304 59 (4 * k9 + 1) = c 59 (4 * a1 + 1) + c 59 (4 * a2 + 1) := (congrArg (c_304 59) (show 4 * k9 + 1 = 4 * a2 + 1 from by omega)).trans ((hF_306 59 (4 * a2 + 1) (by omega)).trans ((hF_281 59 (4 * a2 + 1) (by omega)).trans ((up_n (by omega)).trans ((up_n (by omega)).trans ((up_n (by omega)).trans ((up_n (by omega)).trans (up_e rfl)))))))
                      have h_321 : c_304 59 (4 * k9 + 2) = c 59 (4 * a1 + 2) + c 59 (4 * a2 + 2) := (congrArg (c_304 59) (show 4 * k9 + 2 = 4 * a2 + 2 from by omega)).trans ((hF_306 59 (4 * a2 + 2) (by omega)).trans ((hF_281 59 (4 * a2 + 2) (by omega)).trans ((up_n (by omega)).trans ((up_n (by omega)).trans (up_e rfl)))))
                      have h_322 : c_304 59 (4 * k9 + 3) = a3 + c 59 (4 * a2 + 3) - c 59 (4 * a1 + 1) - c 59 (4 * a1 + 2) - c 59 (4 * a1) := (congrArg (c_304 59) (show 4 * k9 + 3 = 4 * a2 + 3 from by omega)).trans ((hF_306 59 (4 * a2 + 3) (by omega)).trans ((hF_281 59 (4 * a2 + 3) (by omega)).trans (up_e rfl)))
                      omega
                    have h_323 := iv_r hI 59 (4 * k9) hj9 (by omega)
                    have h_324 := ir_59_g hI (j := 4 * k9) (by omega)
                    have h_325 : c_304 59 (4 * k9) = c 59 (4 * k9) := ((hF_306 59 (4 * k9) (by omega)).trans ((hF_281 59 (4 * k9) (by omega)).trans ((up_n (by omega)).trans ((up_n (by omega)).trans ((up_n (by omega)).trans ((up_n (by omega)).trans ((up_n (by omega)).trans ((up_n (by omega)).trans ((up_n (by omega)).trans (up_n (by omega)))))))))))
                    have h_326 := ir_59_g hI (j := 4 * k9 + 1) (by omega)
                    have h_327 : c_304 59 (4 * k9 + 1) = c 59 (4 * k9 + 1) := ((hF_306 59 (4 * k9 + 1) (by omega)).trans ((hF_281 59 (4 * k9 + 1) (by omega)).trans ((up_n (by omega)).trans ((up_n (by omega)).trans ((up_n (by omega)).trans ((up_n (by omega)).trans ((up_n (by omega)).trans ((up_n (by omega)).trans ((up_n (by omega)).trans (up_n (by omega)))))))))))
                    have h_328 := ir_59_g hI (j := 4 * k9 + 2) (by omega)
                    have h_329 : c_304 59 (4 * k9 + 2) = c 59 (4 * k9 + 2) := ((hF_306 59 (4 * k9 + 2) (by omega)).trans ((hF_281 59 (4 * k9 + 2) (by omega)).trans ((up_n (by omega)).trans ((up_n (by omega)).trans ((up_n (by omega)).trans ((up_n (by omega)).trans ((up_n (by omega)).trans ((up_n (by omega)).trans ((up_n (by omega)).trans (up_n (by omega)))))))))))
                    have h_330 := ir_59_g hI (j := 4 * k9 + 3) (by omega)
                    have h_331 : c_304 59 (4 * k9 + 3) = c 59 (4 * k9 + 3) := ((hF_306 59 (4 * k9 + 3) (by omega)).trans ((hF_281 59 (4 * k9 + 3) (by omega)).trans ((up_n (by omega)).trans ((up_n (by omega)).trans ((up_n (by omega)).trans ((up_n (by omega)).trans ((up_n (by omega)).trans ((up_n (by omega)).trans ((up_n (by omega)).trans (up_n (by omega)))))))))))
                    omega
                  have hI_332 := iv_close hI_305 hr_312
                  exact K c_304 1 hI_332 (fun a j hm => (hF_306 a j (by omega)).trans ((hF_281 a j (by omega)).trans ((up_b (by omega)).trans ((up_b (by omega)).trans ((up_b (by omega)).trans ((up_b (by omega)).trans ((up_b (by omega)).trans ((up_b (by omega)).trans ((up_b (by omega)).trans (up_b (by omega))))))))))) ⟨by decide, by decide⟩
        · refine v_ic_le_f (t := 33) rfl (by decide) (by omega) ?_
          refine q_iconst rfl ?_
          refine v_zret rfl rfl (by omega) ?_
          have hr_333 : ∀ j : Int, rs 59 j → c 59 j + c 59 (j + 1) + c 59 (j + 2) + c 59 (j + 3) ≤ 9999 := by
            intro j9 hj9
            obtain ⟨k9, rfl, hk9⟩ := rs_59 hj9
            by_cases e_334 : k9 = a1
            · skip
              have h_335 : c 59 (4 * k9) = c 59 (4 * a1) := (congrArg (c 59) (show 4 * k9 = 4 * a1 from by omega))
              have h_336 : c 59 (4 * k9 + 1) = c 59 (4 * a1 + 1) := (congrArg (c 59) (show 4 * k9 + 1 = 4 * a1 + 1 from by omega))
              have h_337 : c 59 (4 * k9 + 2) = c 59 (4 * a1 + 2) := (congrArg (c 59) (show 4 * k9 + 2 = 4 * a1 + 2 from by omega))
              have h_338 : c 59 (4 * k9 + 3) = c 59 (4 * a1 + 3) := (congrArg (c 59) (show 4 * k9 + 3 = 4 * a1 + 3 from by omega))
              omega
            by_cases e_339 : k9 = a2
            · skip
              have h_340 : c 59 (4 * k9) = c 59 (4 * a2) := (congrArg (c 59) (show 4 * k9 = 4 * a2 from by omega))
              have h_341 : c 59 (4 * k9 + 1) = c 59 (4 * a2 + 1) := (congrArg (c 59) (show 4 * k9 + 1 = 4 * a2 + 1 from by omega))
              have h_342 : c 59 (4 * k9 + 2) = c 59 (4 * a2 + 2) := (congrArg (c 59) (show 4 * k9 + 2 = 4 * a2 + 2 from by omega))
              have h_343 : c 59 (4 * k9 + 3) = c 59 (4 * a2 + 3) := (congrArg (c 59) (show 4 * k9 + 3 = 4 * a2 + 3 from by omega))
              omega
            have h_344 := iv_r hI 59 (4 * k9) hj9 (by omega)
            have h_345 := ir_59_g hI (j := 4 * k9) (by omega)
            have h_346 : c 59 (4 * k9) = c 59 (4 * k9) := rfl
            have h_347 := ir_59_g hI (j := 4 * k9 + 1) (by omega)
            have h_348 : c 59 (4 * k9 + 1) = c 59 (4 * k9 + 1) := rfl
            have h_349 := ir_59_g hI (j := 4 * k9 + 2) (by omega)
            have h_350 : c 59 (4 * k9 + 2) = c 59 (4 * k9 + 2) := rfl
            have h_351 := ir_59_g hI (j := 4 * k9 + 3) (by omega)
            have h_352 : c 59 (4 * k9 + 3) = c 59 (4 * k9 + 3) := rfl
            omega
          have hI_353 := iv_close hIo hr_333
          exact K c 0 hI_353 (fun a j hm => rfl) ⟨by decide, by decide⟩

