/-! ===== contracts 10 ===== -/
set_option maxRecDepth 100000 in
set_option maxHeartbeats 4000000 in
theorem s_194 {sc : List Int32} {d P Q : Nat} {c : ME} {a1 : Int} {a2 : Int} {a3 : Int} {Z : AR → Prop} (hI : Iv 0 (-1) P Q c) (ha1 : 0 ≤ a1 ∧ a1 ≤ 5) (ha2 : 0 ≤ a2 ∧ a2 ≤ 5) (ha3 : 0 ≤ a3 ∧ a3 ≤ 99999) (K : ∀ (c2 : ME) (y : Int), Iv 0 (-1) P Q c2 → (∀ (a : Nat) (j : Int), ¬ (a = 59) → c2 a j = c a j) → 0 ≤ y ∧ y ≤ 1 → Z (.inl (some (vi y)), Wd P Q P P c2, 0, 0)) : Wp sc (d + 8) 194 0 [(0, .ref 41), (1, vi a1), (2, vi a2), (3, vi a3)] [] (Wd P Q P P c) 0 0 Z := by
  have hP := iv_P hI
  have hQ := iv_Q hI
  have hIo : Iv 59 (-1) P Q c := iv_open hI
  have hsum_1 := ir_59_r hI (by decide) (j := a1) (by omega)
  have h_2 := ir_59_g hI (j := 4 * a1) (by omega)
  have h_3 := ir_59_g hI (j := 4 * a1 + 1) (by omega)
  have h_4 := ir_59_g hI (j := 4 * a1 + 2) (by omega)
  have h_5 := ir_59_g hI (j := 4 * a1 + 3) (by omega)
  have hsum_6 := ir_59_r hI (by decide) (j := a2) (by omega)
  have h_7 := ir_59_g hI (j := 4 * a2) (by omega)
  have h_8 := ir_59_g hI (j := 4 * a2 + 1) (by omega)
  have h_9 := ir_59_g hI (j := 4 * a2 + 2) (by omega)
  have h_10 := ir_59_g hI (j := 4 * a2 + 3) (by omega)
  refine q_iload_n rfl rfl ?_
  by_cases h_11 : a3 = 0
  · refine v_if_eq_t (t := 31) rfl (by decide) (by omega) ?_
    refine q_iconst rfl ?_
    refine v_zret rfl rfl (by omega) ?_
    have hr_12 : ∀ j : Int, rs 59 j → c 59 j + c 59 (j + 1) + c 59 (j + 2) + c 59 (j + 3) ≤ 9999 := by
      intro j9 hj9
      obtain ⟨k9, rfl, hk9⟩ := rs_59 hj9
      by_cases e_13 : k9 = a1
      · skip
        have h_14 : c 59 (4 * k9) = c 59 (4 * a1) := (congrArg (c 59) (show 4 * k9 = 4 * a1 from by omega))
        have h_15 : c 59 (4 * k9 + 1) = c 59 (4 * a1 + 1) := (congrArg (c 59) (show 4 * k9 + 1 = 4 * a1 + 1 from by omega))
        have h_16 : c 59 (4 * k9 + 2) = c 59 (4 * a1 + 2) := (congrArg (c 59) (show 4 * k9 + 2 = 4 * a1 + 2 from by omega))
        have h_17 : c 59 (4 * k9 + 3) = c 59 (4 * a1 + 3) := (congrArg (c 59) (show 4 * k9 + 3 = 4 * a1 + 3 from by omega))
        omega
      by_cases e_18 : k9 = a2
      · skip
        have h_19 : c 59 (4 * k9) = c 59 (4 * a2) := (congrArg (c 59) (show 4 * k9 = 4 * a2 from by omega))
        have h_20 : c 59 (4 * k9 + 1) = c 59 (4 * a2 + 1) := (congrArg (c 59) (show 4 * k9 + 1 = 4 * a2 + 1 from by omega))
        have h_21 : c 59 (4 * k9 + 2) = c 59 (4 * a2 + 2) := (congrArg (c 59) (show 4 * k9 + 2 = 4 * a2 + 2 from by omega))
        have h_22 : c 59 (4 * k9 + 3) = c 59 (4 * a2 + 3) := (congrArg (c 59) (show 4 * k9 + 3 = 4 * a2 + 3 from by omega))
        omega
      have h_23 := iv_r hI 59 (4 * k9) hj9 (by omega)
      have h_24 := ir_59_g hI (j := 4 * k9) (by omega)
      have h_25 : c 59 (4 * k9) = c 59 (4 * k9) := rfl
      have h_26 := ir_59_g hI (j := 4 * k9 + 1) (by omega)
      have h_27 : c 59 (4 * k9 + 1) = c 59 (4 * k9 + 1) := rfl
      have h_28 := ir_59_g hI (j := 4 * k9 + 2) (by omega)
      have h_29 : c 59 (4 * k9 + 2) = c 59 (4 * k9 + 2) := rfl
      have h_30 := ir_59_g hI (j := 4 * k9 + 3) (by omega)
      have h_31 : c 59 (4 * k9 + 3) = c 59 (4 * k9 + 3) := rfl
      omega
    have hI_32 := iv_close hIo hr_12
    exact K c 0 hI_32 (fun a j hm => rfl) ⟨by decide, by decide⟩
  · refine v_if_eq_f (t := 31) rfl (by decide) (by omega) ?_
    refine q_aload_n rfl rfl ?_
    refine q_iload_n rfl rfl ?_
    refine v_cv rfl rfl rfl rfl (by decide) ⟨⟨rfl, rfl⟩, by decide, rfl⟩ (Nat.le_of_ble_eq_true rfl) (Nat.le_of_ble_eq_true rfl) (s_187 (v1 := c 59 (4 * a1)) (v2 := c 59 (4 * a1 + 1)) (v3 := c 59 (4 * a1 + 2)) (v4 := c 59 (4 * a1 + 3)) (r := c 59 (4 * a1 + 1) + c 59 (4 * a1 + 2) + c 59 (4 * a1 + 3) + c 59 (4 * a1)) (a1 := a1) hIo (show 0 ≤ a1 ∧ a1 ≤ 5 from by omega) (rfl) (rfl) (rfl) (rfl) (by omega) ?_)
    refine bk_inl ?_
    refine q_iload_n rfl rfl ?_
    by_cases h_33 : c 59 (4 * a1 + 1) + c 59 (4 * a1 + 2) + c 59 (4 * a1 + 3) + c 59 (4 * a1) < a3
    · refine v_ic_lt_t (t := 31) rfl (by decide) (by omega) ?_
      refine q_iconst rfl ?_
      refine v_zret rfl rfl (by omega) ?_
      have hr_34 : ∀ j : Int, rs 59 j → c 59 j + c 59 (j + 1) + c 59 (j + 2) + c 59 (j + 3) ≤ 9999 := by
        intro j9 hj9
        obtain ⟨k9, rfl, hk9⟩ := rs_59 hj9
        by_cases e_35 : k9 = a1
        · skip
          have h_36 : c 59 (4 * k9) = c 59 (4 * a1) := (congrArg (c 59) (show 4 * k9 = 4 * a1 from by omega))
          have h_37 : c 59 (4 * k9 + 1) = c 59 (4 * a1 + 1) := (congrArg (c 59) (show 4 * k9 + 1 = 4 * a1 + 1 from by omega))
          have h_38 : c 59 (4 * k9 + 2) = c 59 (4 * a1 + 2) := (congrArg (c 59) (show 4 * k9 + 2 = 4 * a1 + 2 from by omega))
          have h_39 : c 59 (4 * k9 + 3) = c 59 (4 * a1 + 3) := (congrArg (c 59) (show 4 * k9 + 3 = 4 * a1 + 3 from by omega))
          omega
        by_cases e_40 : k9 = a2
        · skip
          have h_41 : c 59 (4 * k9) = c 59 (4 * a2) := (congrArg (c 59) (show 4 * k9 = 4 * a2 from by omega))
          have h_42 : c 59 (4 * k9 + 1) = c 59 (4 * a2 + 1) := (congrArg (c 59) (show 4 * k9 + 1 = 4 * a2 + 1 from by omega))
          have h_43 : c 59 (4 * k9 + 2) = c 59 (4 * a2 + 2) := (congrArg (c 59) (show 4 * k9 + 2 = 4 * a2 + 2 from by omega))
          have h_44 : c 59 (4 * k9 + 3) = c 59 (4 * a2 + 3) := (congrArg (c 59) (show 4 * k9 + 3 = 4 * a2 + 3 from by omega))
          omega
        have h_45 := iv_r hI 59 (4 * k9) hj9 (by omega)
        have h_46 := ir_59_g hI (j := 4 * k9) (by omega)
        have h_47 : c 59 (4 * k9) = c 59 (4 * k9) := rfl
        have h_48 := ir_59_g hI (j := 4 * k9 + 1) (by omega)
        have h_49 : c 59 (4 * k9 + 1) = c 59 (4 * k9 + 1) := rfl
        have h_50 := ir_59_g hI (j := 4 * k9 + 2) (by omega)
        have h_51 : c 59 (4 * k9 + 2) = c 59 (4 * k9 + 2) := rfl
        have h_52 := ir_59_g hI (j := 4 * k9 + 3) (by omega)
        have h_53 : c 59 (4 * k9 + 3) = c 59 (4 * k9 + 3) := rfl
        omega
      have hI_54 := iv_close hIo hr_34
      exact K c 0 hI_54 (fun a j hm => rfl) ⟨by decide, by decide⟩
    · refine v_ic_lt_f (t := 31) rfl (by decide) (by omega) ?_
      refine q_iload_n rfl rfl ?_
      refine q_iload_n rfl rfl ?_
      by_cases h_55 : a1 = a2
      · refine v_ic_eq_t (t := 31) rfl (by decide) (by omega) ?_
        refine q_iconst rfl ?_
        refine v_zret rfl rfl (by omega) ?_
        have hr_56 : ∀ j : Int, rs 59 j → c 59 j + c 59 (j + 1) + c 59 (j + 2) + c 59 (j + 3) ≤ 9999 := by
          intro j9 hj9
          obtain ⟨k9, rfl, hk9⟩ := rs_59 hj9
          by_cases e_57 : k9 = a1
          · skip
            have h_58 : c 59 (4 * k9) = c 59 (4 * a1) := (congrArg (c 59) (show 4 * k9 = 4 * a1 from by omega))
            have h_59 : c 59 (4 * k9 + 1) = c 59 (4 * a1 + 1) := (congrArg (c 59) (show 4 * k9 + 1 = 4 * a1 + 1 from by omega))
            have h_60 : c 59 (4 * k9 + 2) = c 59 (4 * a1 + 2) := (congrArg (c 59) (show 4 * k9 + 2 = 4 * a1 + 2 from by omega))
            have h_61 : c 59 (4 * k9 + 3) = c 59 (4 * a1 + 3) := (congrArg (c 59) (show 4 * k9 + 3 = 4 * a1 + 3 from by omega))
            omega
          by_cases e_62 : k9 = a2
          · skip
            have h_63 : c 59 (4 * k9) = c 59 (4 * a2) := (congrArg (c 59) (show 4 * k9 = 4 * a2 from by omega))
            have h_64 : c 59 (4 * k9 + 1) = c 59 (4 * a2 + 1) := (congrArg (c 59) (show 4 * k9 + 1 = 4 * a2 + 1 from by omega))
            have h_65 : c 59 (4 * k9 + 2) = c 59 (4 * a2 + 2) := (congrArg (c 59) (show 4 * k9 + 2 = 4 * a2 + 2 from by omega))
            have h_66 : c 59 (4 * k9 + 3) = c 59 (4 * a2 + 3) := (congrArg (c 59) (show 4 * k9 + 3 = 4 * a2 + 3 from by omega))
            omega
          have h_67 := iv_r hI 59 (4 * k9) hj9 (by omega)
          have h_68 := ir_59_g hI (j := 4 * k9) (by omega)
          have h_69 : c 59 (4 * k9) = c 59 (4 * k9) := rfl
          have h_70 := ir_59_g hI (j := 4 * k9 + 1) (by omega)
          have h_71 : c 59 (4 * k9 + 1) = c 59 (4 * k9 + 1) := rfl
          have h_72 := ir_59_g hI (j := 4 * k9 + 2) (by omega)
          have h_73 : c 59 (4 * k9 + 2) = c 59 (4 * k9 + 2) := rfl
          have h_74 := ir_59_g hI (j := 4 * k9 + 3) (by omega)
          have h_75 : c 59 (4 * k9 + 3) = c 59 (4 * k9 + 3) := rfl
          omega
        have hI_76 := iv_close hIo hr_56
        exact K c 0 hI_76 (fun a j hm => rfl) ⟨by decide, by decide⟩
      · refine v_ic_eq_f (t := 31) rfl (by decide) (by omega) ?_
        refine q_aload_n rfl rfl ?_
        refine q_iload_n rfl rfl ?_
        refine v_cv rfl rfl rfl rfl (by decide) ⟨⟨rfl, rfl⟩, by decide, rfl⟩ (Nat.le_of_ble_eq_true rfl) (Nat.le_of_ble_eq_true rfl) (s_187 (v1 := c 59 (4 * a2)) (v2 := c 59 (4 * a2 + 1)) (v3 := c 59 (4 * a2 + 2)) (v4 := c 59 (4 * a2 + 3)) (r := c 59 (4 * a2 + 1) + c 59 (4 * a2 + 2) + c 59 (4 * a2 + 3) + c 59 (4 * a2)) (a1 := a2) hIo (show 0 ≤ a2 ∧ a2 ≤ 5 from by omega) (rfl) (rfl) (rfl) (rfl) (by omega) ?_)
        refine bk_inl ?_
        refine q_iload_n rfl rfl ?_
        refine v_iadd (v := a3 + c 59 (4 * a2 + 1) + c 59 (4 * a2 + 2) + c 59 (4 * a2 + 3) + c 59 (4 * a2)) rfl (by omega) ?_
        refine v_sip rfl (by decide) ?_
        by_cases h_77 : a3 + c 59 (4 * a2 + 1) + c 59 (4 * a2 + 2) + c 59 (4 * a2 + 3) + c 59 (4 * a2) ≤ 9999
        · refine v_ic_le_t (t := 33) rfl (by decide) (by omega) ?_
          refine q_iload_n rfl rfl ?_
          refine q_istore rfl (by decide) ?_
          refine q_iconst rfl ?_
          refine q_istore rfl (by decide) ?_
          refine q_iload rfl rfl ?_
          refine q_iconst rfl ?_
          refine v_ic_ge_f (t := 124) rfl (by decide) (by decide) ?_
          refine q_aload_n rfl rfl ?_
          refine v_gr (t := 59) rfl rfl rfl (by decide) rfl ?_
          refine q_iconst rfl ?_
          refine q_iload_n rfl rfl ?_
          refine v_imul (v := 4 * a1) rfl (by omega) ?_
          refine q_iload rfl rfl ?_
          refine v_iadd (v := 4 * a1) rfl (by omega) ?_
          refine v_ia (v := c 59 (4 * a1)) rfl rfl (by decide) (by decide) (by omega) rfl ?_
          refine q_iload rfl rfl ?_
          by_cases h_78 : c 59 (4 * a1) ≥ a3
          · refine v_ic_ge_t (t := 75) rfl (by decide) (by omega) ?_
            refine q_iload rfl rfl ?_
            refine q_istore rfl (by decide) ?_
            refine q_aload_n rfl rfl ?_
            refine v_gr (t := 59) rfl rfl rfl (by decide) rfl ?_
            refine q_iconst rfl ?_
            refine q_iload_n rfl rfl ?_
            refine v_imul (v := 4 * a1) rfl (by omega) ?_
            refine q_iload rfl rfl ?_
            refine v_iadd (v := 4 * a1) rfl (by omega) ?_
            refine q_dup2 rfl ⟨rfl, rfl⟩ ?_
            refine v_ia (v := c 59 (4 * a1)) rfl rfl (by decide) (by decide) (by omega) rfl ?_
            refine q_iload rfl rfl ?_
            refine v_isub (v := c 59 (4 * a1) - a3) rfl (by omega) ?_
            refine v_is rfl rfl (by decide) (by decide) (by omega) ?_
            refine q_aload_n rfl rfl ?_
            refine v_gr (t := 59) rfl rfl rfl (by decide) rfl ?_
            refine q_iconst rfl ?_
            refine q_iload_n rfl rfl ?_
            refine v_imul (v := 4 * a2) rfl (by omega) ?_
            refine q_iload rfl rfl ?_
            refine v_iadd (v := 4 * a2) rfl (by omega) ?_
            refine q_dup2 rfl ⟨rfl, rfl⟩ ?_
            refine v_ia (v := c 59 (4 * a2)) rfl rfl (by decide) (by decide) (by omega) (up_n (by omega)) ?_
            refine q_iload rfl rfl ?_
            refine v_iadd (v := a3 + c 59 (4 * a2)) rfl (by omega) ?_
            refine v_is rfl rfl (by decide) (by decide) (by omega) ?_
            refine q_iload rfl rfl ?_
            refine q_iload rfl rfl ?_
            refine v_isub (v := 0) rfl (by decide) ?_
            refine q_istore rfl (by decide) ?_
            refine v_iinc (v := 1) rfl rfl (by decide) (by decide) ?_
            refine Wp_ls [(5, vi 1), (4, vi 0), (6, vi a3), (0, .ref 41), (1, vi a1), (2, vi a2), (3, vi a3)] (lsub_cons rfl (lsub_cons rfl (lsub_cons rfl (lsub_cons rfl (lsub_cons rfl (lsub_cons rfl (lsub_cons rfl lsub_nil))))))) ?_
            refine q_goto (t := 39) rfl (by decide) ?_
            refine q_iload rfl rfl ?_
            refine q_iconst rfl ?_
            refine v_ic_ge_f (t := 124) rfl (by decide) (by decide) ?_
            refine q_aload_n rfl rfl ?_
            refine v_gr (t := 59) rfl rfl rfl (by decide) rfl ?_
            refine q_iconst rfl ?_
            refine q_iload_n rfl rfl ?_
            refine v_imul (v := 4 * a1) rfl (by omega) ?_
            refine q_iload rfl rfl ?_
            refine v_iadd (v := 4 * a1 + 1) rfl (by omega) ?_
            refine v_ia (v := c 59 (4 * a1 + 1)) rfl rfl (by decide) (by decide) (by omega) ((up_n (by omega)).trans (up_n (by omega))) ?_
            refine q_iload rfl rfl ?_
            refine v_ic_ge_t (t := 75) rfl (by decide) (by omega) ?_
            refine q_iload rfl rfl ?_
            refine q_istore rfl (by decide) ?_
            refine q_aload_n rfl rfl ?_
            refine v_gr (t := 59) rfl rfl rfl (by decide) rfl ?_
            refine q_iconst rfl ?_
            refine q_iload_n rfl rfl ?_
            refine v_imul (v := 4 * a1) rfl (by omega) ?_
            refine q_iload rfl rfl ?_
            refine v_iadd (v := 4 * a1 + 1) rfl (by omega) ?_
            refine q_dup2 rfl ⟨rfl, rfl⟩ ?_
            refine v_ia (v := c 59 (4 * a1 + 1)) rfl rfl (by decide) (by decide) (by omega) ((up_n (by omega)).trans (up_n (by omega))) ?_
            refine q_iload rfl rfl ?_
            refine v_isub (v := c 59 (4 * a1 + 1)) rfl (by omega) ?_
            refine v_is rfl rfl (by decide) (by decide) (by omega) ?_
            refine q_aload_n rfl rfl ?_
            refine v_gr (t := 59) rfl rfl rfl (by decide) rfl ?_
            refine q_iconst rfl ?_
            refine q_iload_n rfl rfl ?_
            refine v_imul (v := 4 * a2) rfl (by omega) ?_
            refine q_iload rfl rfl ?_
            refine v_iadd (v := 4 * a2 + 1) rfl (by omega) ?_
            refine q_dup2 rfl ⟨rfl, rfl⟩ ?_
            refine v_ia (v := c 59 (4 * a2 + 1)) rfl rfl (by decide) (by decide) (by omega) ((up_n (by omega)).trans ((up_n (by omega)).trans (up_n (by omega)))) ?_
            refine q_iload rfl rfl ?_
            refine v_iadd (v := c 59 (4 * a2 + 1)) rfl (by omega) ?_
            refine v_is rfl rfl (by decide) (by decide) (by omega) ?_
            refine q_iload rfl rfl ?_
            refine q_iload rfl rfl ?_
            refine v_isub (v := 0) rfl (by decide) ?_
            refine q_istore rfl (by decide) ?_
            refine v_iinc (v := 2) rfl rfl (by decide) (by decide) ?_
            refine q_goto (t := 39) rfl (by decide) ?_
            refine q_iload rfl rfl ?_
            refine q_iconst rfl ?_
            refine v_ic_ge_f (t := 124) rfl (by decide) (by decide) ?_
            refine q_aload_n rfl rfl ?_
            refine v_gr (t := 59) rfl rfl rfl (by decide) rfl ?_
            refine q_iconst rfl ?_
            refine q_iload_n rfl rfl ?_
            refine v_imul (v := 4 * a1) rfl (by omega) ?_
            refine q_iload rfl rfl ?_
            refine v_iadd (v := 4 * a1 + 2) rfl (by omega) ?_
            refine v_ia (v := c 59 (4 * a1 + 2)) rfl rfl (by decide) (by decide) (by omega) ((up_n (by omega)).trans ((up_n (by omega)).trans ((up_n (by omega)).trans (up_n (by omega))))) ?_
            refine q_iload rfl rfl ?_
            refine v_ic_ge_t (t := 75) rfl (by decide) (by omega) ?_
            refine q_iload rfl rfl ?_
            refine q_istore rfl (by decide) ?_
            refine q_aload_n rfl rfl ?_
            refine v_gr (t := 59) rfl rfl rfl (by decide) rfl ?_
            refine q_iconst rfl ?_
            refine q_iload_n rfl rfl ?_
            refine v_imul (v := 4 * a1) rfl (by omega) ?_
            refine q_iload rfl rfl ?_
            refine v_iadd (v := 4 * a1 + 2) rfl (by omega) ?_
            refine q_dup2 rfl ⟨rfl, rfl⟩ ?_
            refine v_ia (v := c 59 (4 * a1 + 2)) rfl rfl (by decide) (by decide) (by omega) ((up_n (by omega)).trans ((up_n (by omega)).trans ((up_n (by omega)).trans (up_n (by omega))))) ?_
            refine q_iload rfl rfl ?_
            refine v_isub (v := c 59 (4 * a1 + 2)) rfl (by omega) ?_
            refine v_is rfl rfl (by decide) (by decide) (by omega) ?_
            refine q_aload_n rfl rfl ?_
            refine v_gr (t := 59) rfl rfl rfl (by decide) rfl ?_
            refine q_iconst rfl ?_
            refine q_iload_n rfl rfl ?_
            refine v_imul (v := 4 * a2) rfl (by omega) ?_
            refine q_iload rfl rfl ?_
            refine v_iadd (v := 4 * a2 + 2) rfl (by omega) ?_
            refine q_dup2 rfl ⟨rfl, rfl⟩ ?_
            refine v_ia (v := c 59 (4 * a2 + 2)) rfl rfl (by decide) (by decide) (by omega) ((up_n (by omega)).trans ((up_n (by omega)).trans ((up_n (by omega)).trans ((up_n (by omega)).trans (up_n (by omega)))))) ?_
            refine q_iload rfl rfl ?_
            refine v_iadd (v := c 59 (4 * a2 + 2)) rfl (by omega) ?_
            refine v_is rfl rfl (by decide) (by decide) (by omega) ?_
            refine q_iload rfl rfl ?_
            refine q_iload rfl rfl ?_
            refine v_isub (v := 0) rfl (by decide) ?_
            refine q_istore rfl (by decide) ?_
            refine Wp_ls [(4, vi 0), (6, vi 0), (5, vi 2), (0, .ref 41), (1, vi a1), (2, vi a2), (3, vi a3)] (lsub_cons rfl (lsub_cons rfl (lsub_cons rfl (lsub_cons rfl (lsub_cons rfl (lsub_cons rfl (lsub_cons rfl lsub_nil))))))) ?_
            refine v_iinc (v := 3) rfl rfl (by decide) (by decide) ?_
            refine q_goto (t := 39) rfl (by decide) ?_
            refine q_iload rfl rfl ?_
            refine q_iconst rfl ?_
            refine v_ic_ge_f (t := 124) rfl (by decide) (by decide) ?_
            refine q_aload_n rfl rfl ?_
            refine v_gr (t := 59) rfl rfl rfl (by decide) rfl ?_
            refine q_iconst rfl ?_
            refine q_iload_n rfl rfl ?_
            refine v_imul (v := 4 * a1) rfl (by omega) ?_
            refine q_iload rfl rfl ?_
            refine v_iadd (v := 4 * a1 + 3) rfl (by omega) ?_
            refine v_ia (v := c 59 (4 * a1 + 3)) rfl rfl (by decide) (by decide) (by omega) ((up_n (by omega)).trans ((up_n (by omega)).trans ((up_n (by omega)).trans ((up_n (by omega)).trans ((up_n (by omega)).trans (up_n (by omega))))))) ?_
            refine q_iload rfl rfl ?_
            refine v_ic_ge_t (t := 75) rfl (by decide) (by omega) ?_
            refine q_iload rfl rfl ?_
            refine q_istore rfl (by decide) ?_
            refine q_aload_n rfl rfl ?_
            refine v_gr (t := 59) rfl rfl rfl (by decide) rfl ?_
            refine q_iconst rfl ?_
            refine q_iload_n rfl rfl ?_
            refine v_imul (v := 4 * a1) rfl (by omega) ?_
            refine q_iload rfl rfl ?_
            refine v_iadd (v := 4 * a1 + 3) rfl (by omega) ?_
            refine q_dup2 rfl ⟨rfl, rfl⟩ ?_
            refine v_ia (v := c 59 (4 * a1 + 3)) rfl rfl (by decide) (by decide) (by omega) ((up_n (by omega)).trans ((up_n (by omega)).trans ((up_n (by omega)).trans ((up_n (by omega)).trans ((up_n (by omega)).trans (up_n (by omega))))))) ?_
            refine q_iload rfl rfl ?_
            refine v_isub (v := c 59 (4 * a1 + 3)) rfl (by omega) ?_
            refine v_is rfl rfl (by decide) (by decide) (by omega) ?_
            refine q_aload_n rfl rfl ?_
            refine v_gr (t := 59) rfl rfl rfl (by decide) rfl ?_
            refine q_iconst rfl ?_
            refine q_iload_n rfl rfl ?_
            refine v_imul (v := 4 * a2) rfl (by omega) ?_
            refine q_iload rfl rfl ?_
            refine v_iadd (v := 4 * a2 + 3) rfl (by omega) ?_
            refine q_dup2 rfl ⟨rfl, rfl⟩ ?_
            refine v_ia (v := c 59 (4 * a2 + 3)) rfl rfl (by decide) (by decide) (by omega) ((up_n (by omega)).trans ((up_n (by omega)).trans ((up_n (by omega)).trans ((up_n (by omega)).trans ((up_n (by omega)).trans ((up_n (by omega)).trans (up_n (by omega)))))))) ?_
            refine q_iload rfl rfl ?_
            refine v_iadd (v := c 59 (4 * a2 + 3)) rfl (by omega) ?_
            refine v_is rfl rfl (by decide) (by decide) (by omega) ?_
            refine q_iload rfl rfl ?_
            refine q_iload rfl rfl ?_
            refine v_isub (v := 0) rfl (by decide) ?_
            refine q_istore rfl (by decide) ?_
            refine v_iinc (v := 4) rfl rfl (by decide) (by decide) ?_
            refine q_goto (t := 39) rfl (by decide) ?_
            refine q_iload rfl rfl ?_
            refine q_iconst rfl ?_
            refine v_ic_ge_t (t := 124) rfl (by decide) (by decide) ?_
            refine q_aload_n rfl rfl ?_
            refine q_iload_n rfl rfl ?_
            refine q_aload_n rfl rfl ?_
            refine v_gr (t := 59) rfl rfl rfl (by decide) rfl ?_
            refine v_bip rfl (by decide) ?_
            refine q_iload_n rfl rfl ?_
            refine v_iadd (v := a1 + 24) rfl (by omega) ?_
            have h_79 := ir_59 hI (a1 + 24)
            refine v_ia (v := c 59 (a1 + 24)) rfl rfl (by decide) (by decide) (by omega) ((up_n (by omega)).trans ((up_n (by omega)).trans ((up_n (by omega)).trans ((up_n (by omega)).trans ((up_n (by omega)).trans ((up_n (by omega)).trans ((up_n (by omega)).trans (up_n (by omega))))))))) ?_
            have hI_80 := iw_row (a := 59) (j := 4 * a1) (v := c 59 (4 * a1) - a3) hIo (by omega) (Or.inl rfl) ⟨by omega, by omega, by omega⟩
            have hI_81 := iw_row (a := 59) (j := 4 * a2) (v := a3 + c 59 (4 * a2)) hI_80 (by omega) (Or.inl rfl) ⟨by omega, by omega, by omega⟩
            have hI_82 := iw_row (a := 59) (j := 4 * a1 + 1) (v := c 59 (4 * a1 + 1)) hI_81 (by omega) (Or.inl rfl) ⟨by omega, by omega, by omega⟩
            have hI_83 := iw_row (a := 59) (j := 4 * a2 + 1) (v := c 59 (4 * a2 + 1)) hI_82 (by omega) (Or.inl rfl) ⟨by omega, by omega, by omega⟩
            have hI_84 := iw_row (a := 59) (j := 4 * a1 + 2) (v := c 59 (4 * a1 + 2)) hI_83 (by omega) (Or.inl rfl) ⟨by omega, by omega, by omega⟩
            have hI_85 := iw_row (a := 59) (j := 4 * a2 + 2) (v := c 59 (4 * a2 + 2)) hI_84 (by omega) (Or.inl rfl) ⟨by omega, by omega, by omega⟩
            have hI_86 := iw_row (a := 59) (j := 4 * a1 + 3) (v := c 59 (4 * a1 + 3)) hI_85 (by omega) (Or.inl rfl) ⟨by omega, by omega, by omega⟩
            have hI_87 := iw_row (a := 59) (j := 4 * a2 + 3) (v := c 59 (4 * a2 + 3)) hI_86 (by omega) (Or.inl rfl) ⟨by omega, by omega, by omega⟩
            refine v_cv rfl rfl rfl rfl (by decide) ⟨⟨rfl, rfl⟩, by decide, rfl⟩ (Nat.le_of_ble_eq_true rfl) (Nat.le_of_ble_eq_true rfl) (s_191 (a1 := a2) (a2 := c 59 (a1 + 24)) hI_87 (show 0 ≤ a2 ∧ a2 ≤ 5 from by omega) (show (-2147483648) ≤ c 59 (a1 + 24) ∧ c 59 (a1 + 24) ≤ 2147483647 from by omega) (fun c_88 hI_89 hF_90 => ?_))
            refine bk_inl ?_
            refine q_aload_n rfl rfl ?_
            refine q_iload_n rfl rfl ?_
            refine v_cv rfl rfl rfl rfl (by decide) ⟨⟨rfl, rfl⟩, by decide, rfl⟩ (Nat.le_of_ble_eq_true rfl) (Nat.le_of_ble_eq_true rfl) (s_187 (v1 := c 59 (4 * a1) - a3) (v2 := c 59 (4 * a1 + 1)) (v3 := c 59 (4 * a1 + 2)) (v4 := c 59 (4 * a1 + 3)) (r := c 59 (4 * a1 + 1) + c 59 (4 * a1 + 2) + c 59 (4 * a1 + 3) + c 59 (4 * a1) - a3) (a1 := a1) hI_89 (show 0 ≤ a1 ∧ a1 ≤ 5 from by omega) (((hF_90 59 (4 * a1) (by omega)).trans ((up_n (by omega)).trans ((up_n (by omega)).trans ((up_n (by omega)).trans ((up_n (by omega)).trans ((up_n (by omega)).trans ((up_n (by omega)).trans ((up_n (by omega)).trans (up_e rfl)))))))))) (((hF_90 59 (4 * a1 + 1) (by omega)).trans ((up_n (by omega)).trans ((up_n (by omega)).trans ((up_n (by omega)).trans ((up_n (by omega)).trans ((up_n (by omega)).trans (up_e rfl)))))))) (((hF_90 59 (4 * a1 + 2) (by omega)).trans ((up_n (by omega)).trans ((up_n (by omega)).trans ((up_n (by omega)).trans (up_e rfl)))))) (((hF_90 59 (4 * a1 + 3) (by omega)).trans ((up_n (by omega)).trans (up_e rfl)))) (by omega) ?_)
            refine bk_inl ?_
            by_cases h_91 : c 59 (4 * a1 + 1) + c 59 (4 * a1 + 2) + c 59 (4 * a1 + 3) + c 59 (4 * a1) - a3 ≠ 0
            · refine v_if_ne_t (t := 151) rfl (by decide) (by omega) ?_
              refine q_iconst rfl ?_
              refine v_zret rfl rfl (by omega) ?_
              have hr_92 : ∀ j : Int, rs 59 j → c_88 59 j + c_88 59 (j + 1) + c_88 59 (j + 2) + c_88 59 (j + 3) ≤ 9999 := by
                intro j9 hj9
                obtain ⟨k9, rfl, hk9⟩ := rs_59 hj9
                by_cases e_93 : k9 = a1
                · skip
                  have h_94 : c_88 59 (4 * k9) = c 59 (4 * a1) - a3 := (congrArg (c_88 59) (show 4 * k9 = 4 * a1 from by omega)).trans ((hF_90 59 (4 * a1) (by omega)).trans ((up_n (by omega)).trans ((up_n (by omega)).trans ((up_n (by omega)).trans ((up_n (by omega)).trans ((up_n (by omega)).trans ((up_n (by omega)).trans ((up_n (by omega)).trans (up_e rfl)))))))))
                  have h_95 : c_88 59 (4 * k9 + 1) = c 59 (4 * a1 + 1) := (congrArg (c_88 59) (show 4 * k9 + 1 = 4 * a1 + 1 from by omega)).trans ((hF_90 59 (4 * a1 + 1) (by omega)).trans ((up_n (by omega)).trans ((up_n (by omega)).trans ((up_n (by omega)).trans ((up_n (by omega)).trans ((up_n (by omega)).trans (up_e rfl)))))))
                  have h_96 : c_88 59 (4 * k9 + 2) = c 59 (4 * a1 + 2) := (congrArg (c_88 59) (show 4 * k9 + 2 = 4 * a1 + 2 from by omega)).trans ((hF_90 59 (4 * a1 + 2) (by omega)).trans ((up_n (by omega)).trans ((up_n (by omega)).trans ((up_n (by omega)).trans (up_e rfl)))))
                  have h_97 : c_88 59 (4 * k9 + 3) = c 59 (4 * a1 + 3) := (congrArg (c_88 59) (show 4 * k9 + 3 = 4 * a1 + 3 from by omega)).trans ((hF_90 59 (4 * a1 + 3) (by omega)).trans ((up_n (by omega)).trans (up_e rfl)))
                  omega
                by_cases e_98 : k9 = a2
                · skip
                  have h_99 : c_88 59 (4 * k9) = a3 + c 59 (4 * a2) := (congrArg (c_88 59) (show 4 * k9 = 4 * a2 from by omega)).trans ((hF_90 59 (4 * a2) (by omega)).trans ((up_n (by omega)).trans ((up_n (by omega)).trans ((up_n (by omega)).trans ((up_n (by omega)).trans ((up_n (by omega)).trans ((up_n (by omega)).trans (up_e rfl))))))))
                  have h_100 : c_88 59 (4 * k9 + 1) = c 59 (4 * a2 + 1) := (congrArg (c_88 59) (show 4 * k9 + 1 = 4 * a2 + 1 from by omega)).trans ((hF_90 59 (4 * a2 + 1) (by omega)).trans ((up_n (by omega)).trans ((up_n (by omega)).trans ((up_n (by omega)).trans ((up_n (by omega)).trans (up_e rfl))))))
                  have h_101 : c_88 59 (4 * k9 + 2) = c 59 (4 * a2 + 2) := (congrArg (c_88 59) (show 4 * k9 + 2 = 4 * a2 + 2 from by omega)).trans ((hF_90 59 (4 * a2 + 2) (by omega)).trans ((up_n (by omega)).trans ((up_n (by omega)).trans (up_e rfl))))
                  have h_102 : c_88 59 (4 * k9 + 3) = c 59 (4 * a2 + 3) := (congrArg (c_88 59) (show 4 * k9 + 3 = 4 * a2 + 3 from by omega)).trans ((hF_90 59 (4 * a2 + 3) (by omega)).trans (up_e rfl))
                  omega
                have h_103 := iv_r hI 59 (4 * k9) hj9 (by omega)
                have h_104 := ir_59_g hI (j := 4 * k9) (by omega)
                have h_105 : c_88 59 (4 * k9) = c 59 (4 * k9) := ((hF_90 59 (4 * k9) (by omega)).trans ((up_n (by omega)).trans ((up_n (by omega)).trans ((up_n (by omega)).trans ((up_n (by omega)).trans ((up_n (by omega)).trans ((up_n (by omega)).trans ((up_n (by omega)).trans (up_n (by omega))))))))))
                have h_106 := ir_59_g hI (j := 4 * k9 + 1) (by omega)
                have h_107 : c_88 59 (4 * k9 + 1) = c 59 (4 * k9 + 1) := ((hF_90 59 (4 * k9 + 1) (by omega)).trans ((up_n (by omega)).trans ((up_n (by omega)).trans ((up_n (by omega)).trans ((up_n (by omega)).trans ((up_n (by omega)).trans ((up_n (by omega)).trans ((up_n (by omega)).trans (up_n (by omega))))))))))
                have h_108 := ir_59_g hI (j := 4 * k9 + 2) (by omega)
                have h_109 : c_88 59 (4 * k9 + 2) = c 59 (4 * k9 + 2) := ((hF_90 59 (4 * k9 + 2) (by omega)).trans ((up_n (by omega)).trans ((up_n (by omega)).trans ((up_n (by omega)).trans ((up_n (by omega)).trans ((up_n (by omega)).trans ((up_n (by omega)).trans ((up_n (by omega)).trans (up_n (by omega))))))))))
                have h_110 := ir_59_g hI (j := 4 * k9 + 3) (by omega)
                have h_111 : c_88 59 (4 * k9 + 3) = c 59 (4 * k9 + 3) := ((hF_90 59 (4 * k9 + 3) (by omega)).trans ((up_n (by omega)).trans ((up_n (by omega)).trans ((up_n (by omega)).trans ((up_n (by omega)).trans ((up_n (by omega)).trans ((up_n (by omega)).trans ((up_n (by omega)).trans (up_n (by omega))))))))))
                omega
              have hI_112 := iv_close hI_89 hr_92
              exact K c_88 1 hI_112 (fun a j hm => (hF_90 a j (by omega)).trans ((up_b (by omega)).trans ((up_b (by omega)).trans ((up_b (by omega)).trans ((up_b (by omega)).trans ((up_b (by omega)).trans ((up_b (by omega)).trans ((up_b (by omega)).trans (up_b (by omega)))))))))) ⟨by decide, by decide⟩
            · refine v_if_ne_f (t := 151) rfl (by decide) (by omega) ?_
              refine q_aload_n rfl rfl ?_
              refine q_iload_n rfl rfl ?_
              refine v_cv rfl rfl rfl rfl (by decide) ⟨⟨rfl, rfl⟩, by decide, rfl⟩ (Nat.le_of_ble_eq_true rfl) (Nat.le_of_ble_eq_true rfl) (s_192 (a1 := a1) hI_89 (show 0 ≤ a1 ∧ a1 ≤ 5 from by omega) (fun c_113 hI_114 hF_115 h_116 => ?_))
              refine bk_inl ?_
              have h_117 := ir_59_g hI_114 (j := 4 * a1 + 1) (by omega)
              have h_118 := ir_59_g hI_114 (j := 4 * a1 + 2) (by omega)
              have h_119 := ir_59_g hI_114 (j := 4 * a1 + 3) (by omega)
              have h_120 := ir_59_g hI_114 (j := 4 * a1) (by omega)
              refine q_iconst rfl ?_
              refine v_zret rfl rfl (by omega) ?_
              have hr_121 : ∀ j : Int, rs 59 j → c_113 59 j + c_113 59 (j + 1) + c_113 59 (j + 2) + c_113 59 (j + 3) ≤ 9999 := by
                intro j9 hj9
                obtain ⟨k9, rfl, hk9⟩ := rs_59 hj9
                by_cases e_122 : k9 = a1
                · skip
                  have h_123 : c_113 59 (4 * k9) = c_113 59 (4 * a1) := (congrArg (c_113 59) (show 4 * k9 = 4 * a1 from by omega))
                  have h_124 : c_113 59 (4 * k9 + 1) = c_113 59 (4 * a1 + 1) := (congrArg (c_113 59) (show 4 * k9 + 1 = 4 * a1 + 1 from by omega))
                  have h_125 : c_113 59 (4 * k9 + 2) = c_113 59 (4 * a1 + 2) := (congrArg (c_113 59) (show 4 * k9 + 2 = 4 * a1 + 2 from by omega))
                  have h_126 : c_113 59 (4 * k9 + 3) = c_113 59 (4 * a1 + 3) := (congrArg (c_113 59) (show 4 * k9 + 3 = 4 * a1 + 3 from by omega))
                  omega
                by_cases e_127 : k9 = a2
                · skip
                  have h_128 : c_113 59 (4 * k9) = a3 + c 59 (4 * a2) := (congrArg (c_113 59) (show 4 * k9 = 4 * a2 from by omega)).trans ((hF_115 59 (4 * a2) (by omega)).trans ((hF_90 59 (4 * a2) (by omega)).trans ((up_n (by omega)).trans ((up_n (by omega)).trans ((up_n (by omega)).trans ((up_n (by omega)).trans ((up_n (by omega)).trans ((up_n (by omega)).trans (up_e rfl)))))))))
                  have h_129 : c_113 59 (4 * k9 + 1) = c 59 (4 * a2 + 1) := (congrArg (c_113 59) (show 4 * k9 + 1 = 4 * a2 + 1 from by omega)).trans ((hF_115 59 (4 * a2 + 1) (by omega)).trans ((hF_90 59 (4 * a2 + 1) (by omega)).trans ((up_n (by omega)).trans ((up_n (by omega)).trans ((up_n (by omega)).trans ((up_n (by omega)).trans (up_e rfl)))))))
                  have h_130 : c_113 59 (4 * k9 + 2) = c 59 (4 * a2 + 2) := (congrArg (c_113 59) (show 4 * k9 + 2 = 4 * a2 + 2 from by omega)).trans ((hF_115 59 (4 * a2 + 2) (by omega)).trans ((hF_90 59 (4 * a2 + 2) (by omega)).trans ((up_n (by omega)).trans ((up_n (by omega)).trans (up_e rfl)))))
                  have h_131 : c_113 59 (4 * k9 + 3) = c 59 (4 * a2 + 3) := (congrArg (c_113 59) (show 4 * k9 + 3 = 4 * a2 + 3 from by omega)).trans ((hF_115 59 (4 * a2 + 3) (by omega)).trans ((hF_90 59 (4 * a2 + 3) (by omega)).trans (up_e rfl)))
                  omega
                have h_132 := iv_r hI 59 (4 * k9) hj9 (by omega)
                have h_133 := ir_59_g hI (j := 4 * k9) (by omega)
                have h_134 : c_113 59 (4 * k9) = c 59 (4 * k9) := ((hF_115 59 (4 * k9) (by omega)).trans ((hF_90 59 (4 * k9) (by omega)).trans ((up_n (by omega)).trans ((up_n (by omega)).trans ((up_n (by omega)).trans ((up_n (by omega)).trans ((up_n (by omega)).trans ((up_n (by omega)).trans ((up_n (by omega)).trans (up_n (by omega)))))))))))
                have h_135 := ir_59_g hI (j := 4 * k9 + 1) (by omega)
                have h_136 : c_113 59 (4 * k9 + 1) = c 59 (4 * k9 + 1) := ((hF_115 59 (4 * k9 + 1) (by omega)).trans ((hF_90 59 (4 * k9 + 1) (by omega)).trans ((up_n (by omega)).trans ((up_n (by omega)).trans ((up_n (by omega)).trans ((up_n (by omega)).trans ((up_n (by omega)).trans ((up_n (by omega)).trans ((up_n (by omega)).trans (up_n (by omega)))))))))))
                have h_137 := ir_59_g hI (j := 4 * k9 + 2) (by omega)
                have h_138 : c_113 59 (4 * k9 + 2) = c 59 (4 * k9 + 2) := ((hF_115 59 (4 * k9 + 2) (by omega)).trans ((hF_90 59 (4 * k9 + 2) (by omega)).trans ((up_n (by omega)).trans ((up_n (by omega)).trans ((up_n (by omega)).trans ((up_n (by omega)).trans ((up_n (by omega)).trans ((up_n (by omega)).trans ((up_n (by omega)).trans (up_n (by omega)))))))))))
                have h_139 := ir_59_g hI (j := 4 * k9 + 3) (by omega)
                have h_140 : c_113 59 (4 * k9 + 3) = c 59 (4 * k9 + 3) := ((hF_115 59 (4 * k9 + 3) (by omega)).trans ((hF_90 59 (4 * k9 + 3) (by omega)).trans ((up_n (by omega)).trans ((up_n (by omega)).trans ((up_n (by omega)).trans ((up_n (by omega)).trans ((up_n (by omega)).trans ((up_n (by omega)).trans ((up_n (by omega)).trans (up_n (by omega)))))))))))
                omega
              have hI_141 := iv_close hI_114 hr_121
              exact K c_113 1 hI_141 (fun a j hm => (hF_115 a j (by omega)).trans ((hF_90 a j (by omega)).trans ((up_b (by omega)).trans ((up_b (by omega)).trans ((up_b (by omega)).trans ((up_b (by omega)).trans ((up_b (by omega)).trans ((up_b (by omega)).trans ((up_b (by omega)).trans (up_b (by omega))))))))))) ⟨by decide, by decide⟩
          · refine v_ic_ge_f (t := 75) rfl (by decide) (by omega) ?_
            refine q_aload_n rfl rfl ?_
            refine v_gr (t := 59) rfl rfl rfl (by decide) rfl ?_
            refine q_iconst rfl ?_
            refine q_iload_n rfl rfl ?_
            refine v_imul (v := 4 * a1) rfl (by omega) ?_
            refine q_iload rfl rfl ?_
            refine v_iadd (v := 4 * a1) rfl (by omega) ?_
            refine v_ia (v := c 59 (4 * a1)) rfl rfl (by decide) (by decide) (by omega) rfl ?_
            refine q_goto (t := 77) rfl (by decide) ?_
            refine q_istore rfl (by decide) ?_
            refine q_aload_n rfl rfl ?_
            refine v_gr (t := 59) rfl rfl rfl (by decide) rfl ?_
            refine q_iconst rfl ?_
            refine q_iload_n rfl rfl ?_
            refine v_imul (v := 4 * a1) rfl (by omega) ?_
            refine q_iload rfl rfl ?_
            refine v_iadd (v := 4 * a1) rfl (by omega) ?_
            refine q_dup2 rfl ⟨rfl, rfl⟩ ?_
            refine v_ia (v := c 59 (4 * a1)) rfl rfl (by decide) (by decide) (by omega) rfl ?_
            refine q_iload rfl rfl ?_
            refine v_isub (v := 0) rfl (by decide) ?_
            refine v_is rfl rfl (by decide) (by decide) (by omega) ?_
            refine q_aload_n rfl rfl ?_
            refine v_gr (t := 59) rfl rfl rfl (by decide) rfl ?_
            refine q_iconst rfl ?_
            refine q_iload_n rfl rfl ?_
            refine v_imul (v := 4 * a2) rfl (by omega) ?_
            refine q_iload rfl rfl ?_
            refine v_iadd (v := 4 * a2) rfl (by omega) ?_
            refine q_dup2 rfl ⟨rfl, rfl⟩ ?_
            refine v_ia (v := c 59 (4 * a2)) rfl rfl (by decide) (by decide) (by omega) (up_n (by omega)) ?_
            refine q_iload rfl rfl ?_
            refine v_iadd (v := c 59 (4 * a1) + c 59 (4 * a2)) rfl (by omega) ?_
            refine v_is rfl rfl (by decide) (by decide) (by omega) ?_
            refine q_iload rfl rfl ?_
            refine q_iload rfl rfl ?_
            refine v_isub (v := a3 - c 59 (4 * a1)) rfl (by omega) ?_
            refine q_istore rfl (by decide) ?_
            refine v_iinc (v := 1) rfl rfl (by decide) (by decide) ?_
            refine Wp_ls [(5, vi 1), (4, vi (a3 - c 59 (4 * a1))), (6, vi (c 59 (4 * a1))), (0, .ref 41), (1, vi a1), (2, vi a2), (3, vi a3)] (lsub_cons rfl (lsub_cons rfl (lsub_cons rfl (lsub_cons rfl (lsub_cons rfl (lsub_cons rfl (lsub_cons rfl lsub_nil))))))) ?_
            refine q_goto (t := 39) rfl (by decide) ?_
            refine q_iload rfl rfl ?_
            refine q_iconst rfl ?_
            refine v_ic_ge_f (t := 124) rfl (by decide) (by decide) ?_
            refine q_aload_n rfl rfl ?_
            refine v_gr (t := 59) rfl rfl rfl (by decide) rfl ?_
            refine q_iconst rfl ?_
            refine q_iload_n rfl rfl ?_
            refine v_imul (v := 4 * a1) rfl (by omega) ?_
            refine q_iload rfl rfl ?_
            refine v_iadd (v := 4 * a1 + 1) rfl (by omega) ?_
            refine v_ia (v := c 59 (4 * a1 + 1)) rfl rfl (by decide) (by decide) (by omega) ((up_n (by omega)).trans (up_n (by omega))) ?_
            refine q_iload rfl rfl ?_
            by_cases h_142 : c 59 (4 * a1 + 1) ≥ a3 - c 59 (4 * a1)
            · refine v_ic_ge_t (t := 75) rfl (by decide) (by omega) ?_
              refine q_iload rfl rfl ?_
              refine q_istore rfl (by decide) ?_
              refine q_aload_n rfl rfl ?_
              refine v_gr (t := 59) rfl rfl rfl (by decide) rfl ?_
              refine q_iconst rfl ?_
              refine q_iload_n rfl rfl ?_
              refine v_imul (v := 4 * a1) rfl (by omega) ?_
              refine q_iload rfl rfl ?_
              refine v_iadd (v := 4 * a1 + 1) rfl (by omega) ?_
              refine q_dup2 rfl ⟨rfl, rfl⟩ ?_
              refine v_ia (v := c 59 (4 * a1 + 1)) rfl rfl (by decide) (by decide) (by omega) ((up_n (by omega)).trans (up_n (by omega))) ?_
              refine q_iload rfl rfl ?_
              refine v_isub (v := c 59 (4 * a1 + 1) + c 59 (4 * a1) - a3) rfl (by omega) ?_
              refine v_is rfl rfl (by decide) (by decide) (by omega) ?_
              refine q_aload_n rfl rfl ?_
              refine v_gr (t := 59) rfl rfl rfl (by decide) rfl ?_
              refine q_iconst rfl ?_
              refine q_iload_n rfl rfl ?_
              refine v_imul (v := 4 * a2) rfl (by omega) ?_
              refine q_iload rfl rfl ?_
              refine v_iadd (v := 4 * a2 + 1) rfl (by omega) ?_
              refine q_dup2 rfl ⟨rfl, rfl⟩ ?_
              refine v_ia (v := c 59 (4 * a2 + 1)) rfl rfl (by decide) (by decide) (by omega) ((up_n (by omega)).trans ((up_n (by omega)).trans (up_n (by omega)))) ?_
              refine q_iload rfl rfl ?_
              refine v_iadd (v := a3 + c 59 (4 * a2 + 1) - c 59 (4 * a1)) rfl (by omega) ?_
              refine v_is rfl rfl (by decide) (by decide) (by omega) ?_
              refine q_iload rfl rfl ?_
              refine q_iload rfl rfl ?_
              refine v_isub (v := 0) rfl (by decide) ?_
              refine q_istore rfl (by decide) ?_
              refine v_iinc (v := 2) rfl rfl (by decide) (by decide) ?_
              refine q_goto (t := 39) rfl (by decide) ?_
              refine q_iload rfl rfl ?_
              refine q_iconst rfl ?_
              refine v_ic_ge_f (t := 124) rfl (by decide) (by decide) ?_
              refine q_aload_n rfl rfl ?_
              refine v_gr (t := 59) rfl rfl rfl (by decide) rfl ?_
              refine q_iconst rfl ?_
              refine q_iload_n rfl rfl ?_
              refine v_imul (v := 4 * a1) rfl (by omega) ?_
              refine q_iload rfl rfl ?_
              refine v_iadd (v := 4 * a1 + 2) rfl (by omega) ?_
              refine v_ia (v := c 59 (4 * a1 + 2)) rfl rfl (by decide) (by decide) (by omega) ((up_n (by omega)).trans ((up_n (by omega)).trans ((up_n (by omega)).trans (up_n (by omega))))) ?_
              refine q_iload rfl rfl ?_
              refine v_ic_ge_t (t := 75) rfl (by decide) (by omega) ?_
              refine q_iload rfl rfl ?_
              refine q_istore rfl (by decide) ?_
              refine q_aload_n rfl rfl ?_
              refine v_gr (t := 59) rfl rfl rfl (by decide) rfl ?_
              refine q_iconst rfl ?_
              refine q_iload_n rfl rfl ?_
              refine v_imul (v := 4 * a1) rfl (by omega) ?_
              refine q_iload rfl rfl ?_
              refine v_iadd (v := 4 * a1 + 2) rfl (by omega) ?_
              refine q_dup2 rfl ⟨rfl, rfl⟩ ?_
              refine v_ia (v := c 59 (4 * a1 + 2)) rfl rfl (by decide) (by decide) (by omega) ((up_n (by omega)).trans ((up_n (by omega)).trans ((up_n (by omega)).trans (up_n (by omega))))) ?_
              refine q_iload rfl rfl ?_
              refine v_isub (v := c 59 (4 * a1 + 2)) rfl (by omega) ?_
              refine v_is rfl rfl (by decide) (by decide) (by omega) ?_
              refine q_aload_n rfl rfl ?_
              refine v_gr (t := 59) rfl rfl rfl (by decide) rfl ?_
              refine q_iconst rfl ?_
              refine q_iload_n rfl rfl ?_
              refine v_imul (v := 4 * a2) rfl (by omega) ?_
              refine q_iload rfl rfl ?_
              refine v_iadd (v := 4 * a2 + 2) rfl (by omega) ?_
              refine q_dup2 rfl ⟨rfl, rfl⟩ ?_
              refine v_ia (v := c 59 (4 * a2 + 2)) rfl rfl (by decide) (by decide) (by omega) ((up_n (by omega)).trans ((up_n (by omega)).trans ((up_n (by omega)).trans ((up_n (by omega)).trans (up_n (by omega)))))) ?_
              refine q_iload rfl rfl ?_
              refine v_iadd (v := c 59 (4 * a2 + 2)) rfl (by omega) ?_
              refine v_is rfl rfl (by decide) (by decide) (by omega) ?_
              refine q_iload rfl rfl ?_
              refine q_iload rfl rfl ?_
              refine v_isub (v := 0) rfl (by decide) ?_
              refine q_istore rfl (by decide) ?_
              refine Wp_ls [(4, vi 0), (6, vi 0), (5, vi 2), (0, .ref 41), (1, vi a1), (2, vi a2), (3, vi a3)] (lsub_cons rfl (lsub_cons rfl (lsub_cons rfl (lsub_cons rfl (lsub_cons rfl (lsub_cons rfl (lsub_cons rfl lsub_nil))))))) ?_
              refine v_iinc (v := 3) rfl rfl (by decide) (by decide) ?_
              refine q_goto (t := 39) rfl (by decide) ?_
              refine q_iload rfl rfl ?_
              refine q_iconst rfl ?_
              refine v_ic_ge_f (t := 124) rfl (by decide) (by decide) ?_
              refine q_aload_n rfl rfl ?_
              refine v_gr (t := 59) rfl rfl rfl (by decide) rfl ?_
              refine q_iconst rfl ?_
              refine q_iload_n rfl rfl ?_
              refine v_imul (v := 4 * a1) rfl (by omega) ?_
              refine q_iload rfl rfl ?_
              refine v_iadd (v := 4 * a1 + 3) rfl (by omega) ?_
              refine v_ia (v := c 59 (4 * a1 + 3)) rfl rfl (by decide) (by decide) (by omega) ((up_n (by omega)).trans ((up_n (by omega)).trans ((up_n (by omega)).trans ((up_n (by omega)).trans ((up_n (by omega)).trans (up_n (by omega))))))) ?_
              refine q_iload rfl rfl ?_
              refine v_ic_ge_t (t := 75) rfl (by decide) (by omega) ?_
              refine q_iload rfl rfl ?_
              refine q_istore rfl (by decide) ?_
              refine q_aload_n rfl rfl ?_
              refine v_gr (t := 59) rfl rfl rfl (by decide) rfl ?_
              refine q_iconst rfl ?_
              refine q_iload_n rfl rfl ?_
              refine v_imul (v := 4 * a1) rfl (by omega) ?_
              refine q_iload rfl rfl ?_
              refine v_iadd (v := 4 * a1 + 3) rfl (by omega) ?_
              refine q_dup2 rfl ⟨rfl, rfl⟩ ?_
              refine v_ia (v := c 59 (4 * a1 + 3)) rfl rfl (by decide) (by decide) (by omega) ((up_n (by omega)).trans ((up_n (by omega)).trans ((up_n (by omega)).trans ((up_n (by omega)).trans ((up_n (by omega)).trans (up_n (by omega))))))) ?_
              refine q_iload rfl rfl ?_
              refine v_isub (v := c 59 (4 * a1 + 3)) rfl (by omega) ?_
              refine v_is rfl rfl (by decide) (by decide) (by omega) ?_
              refine q_aload_n rfl rfl ?_
              refine v_gr (t := 59) rfl rfl rfl (by decide) rfl ?_
              refine q_iconst rfl ?_
              refine q_iload_n rfl rfl ?_
              refine v_imul (v := 4 * a2) rfl (by omega) ?_
              refine q_iload rfl rfl ?_
              refine v_iadd (v := 4 * a2 + 3) rfl (by omega) ?_
              refine q_dup2 rfl ⟨rfl, rfl⟩ ?_
              refine v_ia (v := c 59 (4 * a2 + 3)) rfl rfl (by decide) (by decide) (by omega) ((up_n (by omega)).trans ((up_n (by omega)).trans ((up_n (by omega)).trans ((up_n (by omega)).trans ((up_n (by omega)).trans ((up_n (by omega)).trans (up_n (by omega)))))))) ?_
              refine q_iload rfl rfl ?_
              refine v_iadd (v := c 59 (4 * a2 + 3)) rfl (by omega) ?_
              refine v_is rfl rfl (by decide) (by decide) (by omega) ?_
              refine q_iload rfl rfl ?_
              refine q_iload rfl rfl ?_
              refine v_isub (v := 0) rfl (by decide) ?_
              refine q_istore rfl (by decide) ?_
              refine v_iinc (v := 4) rfl rfl (by decide) (by decide) ?_
              refine q_goto (t := 39) rfl (by decide) ?_
              refine q_iload rfl rfl ?_
              refine q_iconst rfl ?_
              refine v_ic_ge_t (t := 124) rfl (by decide) (by decide) ?_
              refine q_aload_n rfl rfl ?_
              refine q_iload_n rfl rfl ?_
              refine q_aload_n rfl rfl ?_
              refine v_gr (t := 59) rfl rfl rfl (by decide) rfl ?_
              refine v_bip rfl (by decide) ?_
              refine q_iload_n rfl rfl ?_
              refine v_iadd (v := a1 + 24) rfl (by omega) ?_
              have h_143 := ir_59 hI (a1 + 24)
              refine v_ia (v := c 59 (a1 + 24)) rfl rfl (by decide) (by decide) (by omega) ((up_n (by omega)).trans ((up_n (by omega)).trans ((up_n (by omega)).trans ((up_n (by omega)).trans ((up_n (by omega)).trans ((up_n (by omega)).trans ((up_n (by omega)).trans (up_n (by omega))))))))) ?_
              have hI_144 := iw_row (a := 59) (j := 4 * a1) (v := 0) hIo (by omega) (Or.inl rfl) ⟨by omega, by omega, by omega⟩
              have hI_145 := iw_row (a := 59) (j := 4 * a2) (v := c 59 (4 * a1) + c 59 (4 * a2)) hI_144 (by omega) (Or.inl rfl) ⟨by omega, by omega, by omega⟩
              have hI_146 := iw_row (a := 59) (j := 4 * a1 + 1) (v := c 59 (4 * a1 + 1) + c 59 (4 * a1) - a3) hI_145 (by omega) (Or.inl rfl) ⟨by omega, by omega, by omega⟩
              have hI_147 := iw_row (a := 59) (j := 4 * a2 + 1) (v := a3 + c 59 (4 * a2 + 1) - c 59 (4 * a1)) hI_146 (by omega) (Or.inl rfl) ⟨by omega, by omega, by omega⟩
              have hI_148 := iw_row (a := 59) (j := 4 * a1 + 2) (v := c 59 (4 * a1 + 2)) hI_147 (by omega) (Or.inl rfl) ⟨by omega, by omega, by omega⟩
              have hI_149 := iw_row (a := 59) (j := 4 * a2 + 2) (v := c 59 (4 * a2 + 2)) hI_148 (by omega) (Or.inl rfl) ⟨by omega, by omega, by omega⟩
              have hI_150 := iw_row (a := 59) (j := 4 * a1 + 3) (v := c 59 (4 * a1 + 3)) hI_149 (by omega) (Or.inl rfl) ⟨by omega, by omega, by omega⟩
              have hI_151 := iw_row (a := 59) (j := 4 * a2 + 3) (v := c 59 (4 * a2 + 3)) hI_150 (by omega) (Or.inl rfl) ⟨by omega, by omega, by omega⟩
              refine v_cv rfl rfl rfl rfl (by decide) ⟨⟨rfl, rfl⟩, by decide, rfl⟩ (Nat.le_of_ble_eq_true rfl) (Nat.le_of_ble_eq_true rfl) (s_191 (a1 := a2) (a2 := c 59 (a1 + 24)) hI_151 (show 0 ≤ a2 ∧ a2 ≤ 5 from by omega) (show (-2147483648) ≤ c 59 (a1 + 24) ∧ c 59 (a1 + 24) ≤ 2147483647 from by omega) (fun c_152 hI_153 hF_154 => ?_))
              refine bk_inl ?_
              refine q_aload_n rfl rfl ?_
              refine q_iload_n rfl rfl ?_
              refine v_cv rfl rfl rfl rfl (by decide) ⟨⟨rfl, rfl⟩, by decide, rfl⟩ (Nat.le_of_ble_eq_true rfl) (Nat.le_of_ble_eq_true rfl) (s_187 (v1 := 0) (v2 := c 59 (4 * a1 + 1) + c 59 (4 * a1) - a3) (v3 := c 59 (4 * a1 + 2)) (v4 := c 59 (4 * a1 + 3)) (r := c 59 (4 * a1 + 1) + c 59 (4 * a1 + 2) + c 59 (4 * a1 + 3) + c 59 (4 * a1) - a3) (a1 := a1) hI_153 (show 0 ≤ a1 ∧ a1 ≤ 5 from by omega) (((hF_154 59 (4 * a1) (by omega)).trans ((up_n (by omega)).trans ((up_n (by omega)).trans ((up_n (by omega)).trans ((up_n (by omega)).trans ((up_n (by omega)).trans ((up_n (by omega)).trans ((up_n (by omega)).trans (up_e rfl)))))))))) (((hF_154 59 (4 * a1 + 1) (by omega)).trans ((up_n (by omega)).trans ((up_n (by omega)).trans ((up_n (by omega)).trans ((up_n (by omega)).trans ((up_n (by omega)).trans (up_e rfl)))))))) (((hF_154 59 (4 * a1 + 2) (by omega)).trans ((up_n (by omega)).trans ((up_n (by omega)).trans ((up_n (by omega)).trans (up_e rfl)))))) (((hF_154 59 (4 * a1 + 3) (by omega)).trans ((up_n (by omega)).trans (up_e rfl)))) (by omega) ?_)
              refine bk_inl ?_
              by_cases h_155 : c 59 (4 * a1 + 1) + c 59 (4 * a1 + 2) + c 59 (4 * a1 + 3) + c 59 (4 * a1) - a3 ≠ 0
              · refine v_if_ne_t (t := 151) rfl (by decide) (by omega) ?_
                refine q_iconst rfl ?_
                refine v_zret rfl rfl (by omega) ?_
                have hr_156 : ∀ j : Int, rs 59 j → c_152 59 j + c_152 59 (j + 1) + c_152 59 (j + 2) + c_152 59 (j + 3) ≤ 9999 := by
                  intro j9 hj9
                  obtain ⟨k9, rfl, hk9⟩ := rs_59 hj9
                  by_cases e_157 : k9 = a1
                  · skip
                    have h_158 : c_152 59 (4 * k9) = 0 := (congrArg (c_152 59) (show 4 * k9 = 4 * a1 from by omega)).trans ((hF_154 59 (4 * a1) (by omega)).trans ((up_n (by omega)).trans ((up_n (by omega)).trans ((up_n (by omega)).trans ((up_n (by omega)).trans ((up_n (by omega)).trans ((up_n (by omega)).trans ((up_n (by omega)).trans (up_e rfl)))))))))
                    have h_159 : c_152 59 (4 * k9 + 1) = c 59 (4 * a1 + 1) + c 59 (4 * a1) - a3 := (congrArg (c_152 59) (show 4 * k9 + 1 = 4 * a1 + 1 from by omega)).trans ((hF_154 59 (4 * a1 + 1) (by omega)).trans ((up_n (by omega)).trans ((up_n (by omega)).trans ((up_n (by omega)).trans ((up_n (by omega)).trans ((up_n (by omega)).trans (up_e rfl)))))))
                    have h_160 : c_152 59 (4 * k9 + 2) = c 59 (4 * a1 + 2) := (congrArg (c_152 59) (show 4 * k9 + 2 = 4 * a1 + 2 from by omega)).trans ((hF_154 59 (4 * a1 + 2) (by omega)).trans ((up_n (by omega)).trans ((up_n (by omega)).trans ((up_n (by omega)).trans (up_e rfl)))))
                    have h_161 : c_152 59 (4 * k9 + 3) = c 59 (4 * a1 + 3) := (congrArg (c_152 59) (show 4 * k9 + 3 = 4 * a1 + 3 from by omega)).trans ((hF_154 59 (4 * a1 + 3) (by omega)).trans ((up_n (by omega)).trans (up_e rfl)))
                    omega
                  by_cases e_162 : k9 = a2
                  · skip
                    have h_163 : c_152 59 (4 * k9) = c 59 (4 * a1) + c 59 (4 * a2) := (congrArg (c_152 59) (show 4 * k9 = 4 * a2 from by omega)).trans ((hF_154 59 (4 * a2) (by omega)).trans ((up_n (by omega)).trans ((up_n (by omega)).trans ((up_n (by omega)).trans ((up_n (by omega)).trans ((up_n (by omega)).trans ((up_n (by omega)).trans (up_e rfl))))))))
                    have h_164 : c_152 59 (4 * k9 + 1) = a3 + c 59 (4 * a2 + 1) - c 59 (4 * a1) := (congrArg (c_152 59) (show 4 * k9 + 1 = 4 * a2 + 1 from by omega)).trans ((hF_154 59 (4 * a2 + 1) (by omega)).trans ((up_n (by omega)).trans ((up_n (by omega)).trans ((up_n (by omega)).trans ((up_n (by omega)).trans (up_e rfl))))))
                    have h_165 : c_152 59 (4 * k9 + 2) = c 59 (4 * a2 + 2) := (congrArg (c_152 59) (show 4 * k9 + 2 = 4 * a2 + 2 from by omega)).trans ((hF_154 59 (4 * a2 + 2) (by omega)).trans ((up_n (by omega)).trans ((up_n (by omega)).trans (up_e rfl))))
                    have h_166 : c_152 59 (4 * k9 + 3) = c 59 (4 * a2 + 3) := (congrArg (c_152 59) (show 4 * k9 + 3 = 4 * a2 + 3 from by omega)).trans ((hF_154 59 (4 * a2 + 3) (by omega)).trans (up_e rfl))
                    omega
                  have h_167 := iv_r hI 59 (4 * k9) hj9 (by omega)
                  have h_168 := ir_59_g hI (j := 4 * k9) (by omega)
                  have h_169 : c_152 59 (4 * k9) = c 59 (4 * k9) := ((hF_154 59 (4 * k9) (by omega)).trans ((up_n (by omega)).trans ((up_n (by omega)).trans ((up_n (by omega)).trans ((up_n (by omega)).trans ((up_n (by omega)).trans ((up_n (by omega)).trans ((up_n (by omega)).trans (up_n (by omega))))))))))
                  have h_170 := ir_59_g hI (j := 4 * k9 + 1) (by omega)
                  have h_171 : c_152 59 (4 * k9 + 1) = c 59 (4 * k9 + 1) := ((hF_154 59 (4 * k9 + 1) (by omega)).trans ((up_n (by omega)).trans ((up_n (by omega)).trans ((up_n (by omega)).trans ((up_n (by omega)).trans ((up_n (by omega)).trans ((up_n (by omega)).trans ((up_n (by omega)).trans (up_n (by omega))))))))))
                  have h_172 := ir_59_g hI (j := 4 * k9 + 2) (by omega)
                  have h_173 : c_152 59 (4 * k9 + 2) = c 59 (4 * k9 + 2) := ((hF_154 59 (4 * k9 + 2) (by omega)).trans ((up_n (by omega)).trans ((up_n (by omega)).trans ((up_n (by omega)).trans ((up_n (by omega)).trans ((up_n (by omega)).trans ((up_n (by omega)).trans ((up_n (by omega)).trans (up_n (by omega))))))))))
                  have h_174 := ir_59_g hI (j := 4 * k9 + 3) (by omega)
                  have h_175 : c_152 59 (4 * k9 + 3) = c 59 (4 * k9 + 3) := ((hF_154 59 (4 * k9 + 3) (by omega)).trans ((up_n (by omega)).trans ((up_n (by omega)).trans ((up_n (by omega)).trans ((up_n (by omega)).trans ((up_n (by omega)).trans ((up_n (by omega)).trans ((up_n (by omega)).trans (up_n (by omega))))))))))
                  omega
                have hI_176 := iv_close hI_153 hr_156
                exact K c_152 1 hI_176 (fun a j hm => (hF_154 a j (by omega)).trans ((up_b (by omega)).trans ((up_b (by omega)).trans ((up_b (by omega)).trans ((up_b (by omega)).trans ((up_b (by omega)).trans ((up_b (by omega)).trans ((up_b (by omega)).trans (up_b (by omega)))))))))) ⟨by decide, by decide⟩
              · refine v_if_ne_f (t := 151) rfl (by decide) (by omega) ?_
                refine q_aload_n rfl rfl ?_
                refine q_iload_n rfl rfl ?_
                refine v_cv rfl rfl rfl rfl (by decide) ⟨⟨rfl, rfl⟩, by decide, rfl⟩ (Nat.le_of_ble_eq_true rfl) (Nat.le_of_ble_eq_true rfl) (s_192 (a1 := a1) hI_153 (show 0 ≤ a1 ∧ a1 ≤ 5 from by omega) (fun c_177 hI_178 hF_179 h_180 => ?_))
                refine bk_inl ?_
                have h_181 := ir_59_g hI_178 (j := 4 * a1 + 1) (by omega)
                have h_182 := ir_59_g hI_178 (j := 4 * a1 + 2) (by omega)
                have h_183 := ir_59_g hI_178 (j := 4 * a1 + 3) (by omega)
                have h_184 := ir_59_g hI_178 (j := 4 * a1) (by omega)
                refine q_iconst rfl ?_
                refine v_zret rfl rfl (by omega) ?_
                have hr_185 : ∀ j : Int, rs 59 j → c_177 59 j + c_177 59 (j + 1) + c_177 59 (j + 2) + c_177 59 (j + 3) ≤ 9999 := by
                  intro j9 hj9
                  obtain ⟨k9, rfl, hk9⟩ := rs_59 hj9
                  by_cases e_186 : k9 = a1
                  · skip
                    have h_187 : c_177 59 (4 * k9) = c_177 59 (4 * a1) := (congrArg (c_177 59) (show 4 * k9 = 4 * a1 from by omega))
                    have h_188 : c_177 59 (4 * k9 + 1) = c_177 59 (4 * a1 + 1) := (congrArg (c_177 59) (show 4 * k9 + 1 = 4 * a1 + 1 from by omega))
                    have h_189 : c_177 59 (4 * k9 + 2) = c_177 59 (4 * a1 + 2) := (congrArg (c_177 59) (show 4 * k9 + 2 = 4 * a1 + 2 from by omega))
                    have h_190 : c_177 59 (4 * k9 + 3) = c_177 59 (4 * a1 + 3) := (congrArg (c_177 59) (show 4 * k9 + 3 = 4 * a1 + 3 from by omega))
                    omega
                  by_cases e_191 : k9 = a2
                  · skip
                    have h_192 : c_177 59 (4 * k9) = c 59 (4 * a1) + c 59 (4 * a2) := (congrArg (c_177 59) (show 4 * k9 = 4 * a2 from by omega)).trans ((hF_179 59 (4 * a2) (by omega)).trans ((hF_154 59 (4 * a2) (by omega)).trans ((up_n (by omega)).trans ((up_n (by omega)).trans ((up_n (by omega)).trans ((up_n (by omega)).trans ((up_n (by omega)).trans ((up_n (by omega)).trans (up_e rfl)))))))))
                    have h_193 : c_177 59 (4 * k9 + 1) = a3 + c 59 (4 * a2 + 1) - c 59 (4 * a1) := (congrArg (c_177 59) (show 4 * k9 + 1 = 4 * a2 + 1 from by omega)).trans ((hF_179 59 (4 * a2 + 1) (by omega)).trans ((hF_154 59 (4 * a2 + 1) (by omega)).trans ((up_n (by omega)).trans ((up_n (by omega)).trans ((up_n (by omega)).trans ((up_n (by omega)).trans (up_e rfl)))))))
                    have h_194 : c_177 59 (4 * k9 + 2) = c 59 (4 * a2 + 2) := (congrArg (c_177 59) (show 4 * k9 + 2 = 4 * a2 + 2 from by omega)).trans ((hF_179 59 (4 * a2 + 2) (by omega)).trans ((hF_154 59 (4 * a2 + 2) (by omega)).trans ((up_n (by omega)).trans ((up_n (by omega)).trans (up_e rfl)))))
                    have h_195 : c_177 59 (4 * k9 + 3) = c 59 (4 * a2 + 3) := (congrArg (c_177 59) (show 4 * k9 + 3 = 4 * a2 + 3 from by omega)).trans ((hF_179 59 (4 * a2 + 3) (by omega)).trans ((hF_154 59 (4 * a2 + 3) (by omega)).trans (up_e rfl)))
                    omega
                  have h_196 := iv_r hI 59 (4 * k9) hj9 (by omega)
                  have h_197 := ir_59_g hI (j := 4 * k9) (by omega)
                  have h_198 : c_177 59 (4 * k9) = c 59 (4 * k9) := ((hF_179 59 (4 * k9) (by omega)).trans ((hF_154 59 (4 * k9) (by omega)).trans ((up_n (by omega)).trans ((up_n (by omega)).trans ((up_n (by omega)).trans ((up_n (by omega)).trans ((up_n (by omega)).trans ((up_n (by omega)).trans ((up_n (by omega)).trans (up_n (by omega)))))))))))
                  have h_199 := ir_59_g hI (j := 4 * k9 + 1) (by omega)
                  have h_200 : c_177 59 (4 * k9 + 1) = c 59 (4 * k9 + 1) := ((hF_179 59 (4 * k9 + 1) (by omega)).trans ((hF_154 59 (4 * k9 + 1) (by omega)).trans ((up_n (by omega)).trans ((up_n (by omega)).trans ((up_n (by omega)).trans ((up_n (by omega)).trans ((up_n (by omega)).trans ((up_n (by omega)).trans ((up_n (by omega)).trans (up_n (by omega)))))))))))
                  have h_201 := ir_59_g hI (j := 4 * k9 + 2) (by omega)
                  have h_202 : c_177 59 (4 * k9 + 2) = c 59 (4 * k9 + 2) := ((hF_179 59 (4 * k9 + 2) (by omega)).trans ((hF_154 59 (4 * k9 + 2) (by omega)).trans ((up_n (by omega)).trans ((up_n (by omega)).trans ((up_n (by omega)).trans ((up_n (by omega)).trans ((up_n (by omega)).trans ((up_n (by omega)).trans ((up_n (by omega)).trans (up_n (by omega)))))))))))
                  have h_203 := ir_59_g hI (j := 4 * k9 + 3) (by omega)
                  have h_204 : c_177 59 (4 * k9 + 3) = c 59 (4 * k9 + 3) := ((hF_179 59 (4 * k9 + 3) (by omega)).trans ((hF_154 59 (4 * k9 + 3) (by omega)).trans ((up_n (by omega)).trans ((up_n (by omega)).trans ((up_n (by omega)).trans ((up_n (by omega)).trans ((up_n (by omega)).trans ((up_n (by omega)).trans ((up_n (by omega)).trans (up_n (by omega)))))))))))
                  omega
                have hI_205 := iv_close hI_178 hr_185
                exact K c_177 1 hI_205 (fun a j hm => (hF_179 a j (by omega)).trans ((hF_154 a j (by omega)).trans ((up_b (by omega)).trans ((up_b (by omega)).trans ((up_b (by omega)).trans ((up_b (by omega)).trans ((up_b (by omega)).trans ((up_b (by omega)).trans ((up_b (by omega)).trans (up_b (by omega))))))))))) ⟨by decide, by decide⟩
            · refine v_ic_ge_f (t := 75) rfl (by decide) (by omega) ?_
              refine q_aload_n rfl rfl ?_
              refine v_gr (t := 59) rfl rfl rfl (by decide) rfl ?_
              refine q_iconst rfl ?_
              refine q_iload_n rfl rfl ?_
              refine v_imul (v := 4 * a1) rfl (by omega) ?_
              refine q_iload rfl rfl ?_
              refine v_iadd (v := 4 * a1 + 1) rfl (by omega) ?_
              refine v_ia (v := c 59 (4 * a1 + 1)) rfl rfl (by decide) (by decide) (by omega) ((up_n (by omega)).trans (up_n (by omega))) ?_
              refine q_goto (t := 77) rfl (by decide) ?_
              refine q_istore rfl (by decide) ?_
              refine q_aload_n rfl rfl ?_
              refine v_gr (t := 59) rfl rfl rfl (by decide) rfl ?_
              refine q_iconst rfl ?_
              refine q_iload_n rfl rfl ?_
              refine v_imul (v := 4 * a1) rfl (by omega) ?_
              refine q_iload rfl rfl ?_
              refine v_iadd (v := 4 * a1 + 1) rfl (by omega) ?_
              refine q_dup2 rfl ⟨rfl, rfl⟩ ?_
              refine v_ia (v := c 59 (4 * a1 + 1)) rfl rfl (by decide) (by decide) (by omega) ((up_n (by omega)).trans (up_n (by omega))) ?_
              refine q_iload rfl rfl ?_
              refine v_isub (v := 0) rfl (by decide) ?_
              refine v_is rfl rfl (by decide) (by decide) (by omega) ?_
              refine q_aload_n rfl rfl ?_
              refine v_gr (t := 59) rfl rfl rfl (by decide) rfl ?_
              refine q_iconst rfl ?_
              refine q_iload_n rfl rfl ?_
              refine v_imul (v := 4 * a2) rfl (by omega) ?_
              refine q_iload rfl rfl ?_
              refine v_iadd (v := 4 * a2 + 1) rfl (by omega) ?_
              refine q_dup2 rfl ⟨rfl, rfl⟩ ?_
              refine v_ia (v := c 59 (4 * a2 + 1)) rfl rfl (by decide) (by decide) (by omega) ((up_n (by omega)).trans ((up_n (by omega)).trans (up_n (by omega)))) ?_
              refine q_iload rfl rfl ?_
              refine v_iadd (v := c 59 (4 * a1 + 1) + c 59 (4 * a2 + 1)) rfl (by omega) ?_
              refine v_is rfl rfl (by decide) (by decide) (by omega) ?_
              refine q_iload rfl rfl ?_
              refine q_iload rfl rfl ?_
              refine v_isub (v := a3 - c 59 (4 * a1 + 1) - c 59 (4 * a1)) rfl (by omega) ?_
              refine q_istore rfl (by decide) ?_
              refine v_iinc (v := 2) rfl rfl (by decide) (by decide) ?_
              refine q_goto (t := 39) rfl (by decide) ?_
              refine q_iload rfl rfl ?_
              refine q_iconst rfl ?_
              refine v_ic_ge_f (t := 124) rfl (by decide) (by decide) ?_
              refine q_aload_n rfl rfl ?_
              refine v_gr (t := 59) rfl rfl rfl (by decide) rfl ?_
              refine q_iconst rfl ?_
              refine q_iload_n rfl rfl ?_
              refine v_imul (v := 4 * a1) rfl (by omega) ?_
              refine q_iload rfl rfl ?_
              refine v_iadd (v := 4 * a1 + 2) rfl (by omega) ?_
              refine v_ia (v := c 59 (4 * a1 + 2)) rfl rfl (by decide) (by decide) (by omega) ((up_n (by omega)).trans ((up_n (by omega)).trans ((up_n (by omega)).trans (up_n (by omega))))) ?_
              refine q_iload rfl rfl ?_
              by_cases h_206 : c 59 (4 * a1 + 2) ≥ a3 - c 59 (4 * a1 + 1) - c 59 (4 * a1)
              · refine v_ic_ge_t (t := 75) rfl (by decide) (by omega) ?_
                refine q_iload rfl rfl ?_
                refine q_istore rfl (by decide) ?_
                refine q_aload_n rfl rfl ?_
                refine v_gr (t := 59) rfl rfl rfl (by decide) rfl ?_
                refine q_iconst rfl ?_
                refine q_iload_n rfl rfl ?_
                refine v_imul (v := 4 * a1) rfl (by omega) ?_
                refine q_iload rfl rfl ?_
                refine v_iadd (v := 4 * a1 + 2) rfl (by omega) ?_
                refine q_dup2 rfl ⟨rfl, rfl⟩ ?_
                refine v_ia (v := c 59 (4 * a1 + 2)) rfl rfl (by decide) (by decide) (by omega) ((up_n (by omega)).trans ((up_n (by omega)).trans ((up_n (by omega)).trans (up_n (by omega))))) ?_
                refine q_iload rfl rfl ?_
                refine v_isub (v := c 59 (4 * a1 + 1) + c 59 (4 * a1 + 2) + c 59 (4 * a1) - a3) rfl (by omega) ?_
                refine v_is rfl rfl (by decide) (by decide) (by omega) ?_
                refine q_aload_n rfl rfl ?_
                refine v_gr (t := 59) rfl rfl rfl (by decide) rfl ?_
                refine q_iconst rfl ?_
                refine q_iload_n rfl rfl ?_
                refine v_imul (v := 4 * a2) rfl (by omega) ?_
                refine q_iload rfl rfl ?_
                refine v_iadd (v := 4 * a2 + 2) rfl (by omega) ?_
                refine q_dup2 rfl ⟨rfl, rfl⟩ ?_
                refine v_ia (v := c 59 (4 * a2 + 2)) rfl rfl (by decide) (by decide) (by omega) ((up_n (by omega)).trans ((up_n (by omega)).trans ((up_n (by omega)).trans ((up_n (by omega)).trans (up_n (by omega)))))) ?_
                refine q_iload rfl rfl ?_
                refine v_iadd (v := a3 + c 59 (4 * a2 + 2) - c 59 (4 * a1 + 1) - c 59 (4 * a1)) rfl (by omega) ?_
                refine v_is rfl rfl (by decide) (by decide) (by omega) ?_
                refine q_iload rfl rfl ?_
                refine q_iload rfl rfl ?_
                refine v_isub (v := 0) rfl (by decide) ?_
                refine q_istore rfl (by decide) ?_
                refine Wp_ls [(4, vi 0), (6, vi (a3 - c 59 (4 * a1 + 1) - c 59 (4 * a1))), (5, vi 2), (0, .ref 41), (1, vi a1), (2, vi a2), (3, vi a3)] (lsub_cons rfl (lsub_cons rfl (lsub_cons rfl (lsub_cons rfl (lsub_cons rfl (lsub_cons rfl (lsub_cons rfl lsub_nil))))))) ?_
                refine v_iinc (v := 3) rfl rfl (by decide) (by decide) ?_
                refine q_goto (t := 39) rfl (by decide) ?_
                refine q_iload rfl rfl ?_
                refine q_iconst rfl ?_
                refine v_ic_ge_f (t := 124) rfl (by decide) (by decide) ?_
                refine q_aload_n rfl rfl ?_
                refine v_gr (t := 59) rfl rfl rfl (by decide) rfl ?_
                refine q_iconst rfl ?_
                refine q_iload_n rfl rfl ?_
                refine v_imul (v := 4 * a1) rfl (by omega) ?_
                refine q_iload rfl rfl ?_
                refine v_iadd (v := 4 * a1 + 3) rfl (by omega) ?_
                refine v_ia (v := c 59 (4 * a1 + 3)) rfl rfl (by decide) (by decide) (by omega) ((up_n (by omega)).trans ((up_n (by omega)).trans ((up_n (by omega)).trans ((up_n (by omega)).trans ((up_n (by omega)).trans (up_n (by omega))))))) ?_
                refine q_iload rfl rfl ?_
                refine v_ic_ge_t (t := 75) rfl (by decide) (by omega) ?_
                refine q_iload rfl rfl ?_
                refine q_istore rfl (by decide) ?_
                refine q_aload_n rfl rfl ?_
                refine v_gr (t := 59) rfl rfl rfl (by decide) rfl ?_
                refine q_iconst rfl ?_
                refine q_iload_n rfl rfl ?_
                refine v_imul (v := 4 * a1) rfl (by omega) ?_
                refine q_iload rfl rfl ?_
                refine v_iadd (v := 4 * a1 + 3) rfl (by omega) ?_
                refine q_dup2 rfl ⟨rfl, rfl⟩ ?_
                refine v_ia (v := c 59 (4 * a1 + 3)) rfl rfl (by decide) (by decide) (by omega) ((up_n (by omega)).trans ((up_n (by omega)).trans ((up_n (by omega)).trans ((up_n (by omega)).trans ((up_n (by omega)).trans (up_n (by omega))))))) ?_
                refine q_iload rfl rfl ?_
                refine v_isub (v := c 59 (4 * a1 + 3)) rfl (by omega) ?_
                refine v_is rfl rfl (by decide) (by decide) (by omega) ?_
                refine q_aload_n rfl rfl ?_
                refine v_gr (t := 59) rfl rfl rfl (by decide) rfl ?_
                refine q_iconst rfl ?_
                refine q_iload_n rfl rfl ?_
                refine v_imul (v := 4 * a2) rfl (by omega) ?_
                refine q_iload rfl rfl ?_
                refine v_iadd (v := 4 * a2 + 3) rfl (by omega) ?_
                refine q_dup2 rfl ⟨rfl, rfl⟩ ?_
                refine v_ia (v := c 59 (4 * a2 + 3)) rfl rfl (by decide) (by decide) (by omega) ((up_n (by omega)).trans ((up_n (by omega)).trans ((up_n (by omega)).trans ((up_n (by omega)).trans ((up_n (by omega)).trans ((up_n (by omega)).trans (up_n (by omega)))))))) ?_
                refine q_iload rfl rfl ?_
                refine v_iadd (v := c 59 (4 * a2 + 3)) rfl (by omega) ?_
                refine v_is rfl rfl (by decide) (by decide) (by omega) ?_
                refine q_iload rfl rfl ?_
                refine q_iload rfl rfl ?_
                refine v_isub (v := 0) rfl (by decide) ?_
                refine q_istore rfl (by decide) ?_
                refine v_iinc (v := 4) rfl rfl (by decide) (by decide) ?_
                refine q_goto (t := 39) rfl (by decide) ?_
                refine q_iload rfl rfl ?_
                refine q_iconst rfl ?_
                refine v_ic_ge_t (t := 124) rfl (by decide) (by decide) ?_
                refine q_aload_n rfl rfl ?_
                refine q_iload_n rfl rfl ?_
                refine q_aload_n rfl rfl ?_
                refine v_gr (t := 59) rfl rfl rfl (by decide) rfl ?_
                refine v_bip rfl (by decide) ?_
                refine q_iload_n rfl rfl ?_
                refine v_iadd (v := a1 + 24) rfl (by omega) ?_
                have h_207 := ir_59 hI (a1 + 24)
                refine v_ia (v := c 59 (a1 + 24)) rfl rfl (by decide) (by decide) (by omega) ((up_n (by omega)).trans ((up_n (by omega)).trans ((up_n (by omega)).trans ((up_n (by omega)).trans ((up_n (by omega)).trans ((up_n (by omega)).trans ((up_n (by omega)).trans (up_n (by omega))))))))) ?_
                have hI_208 := iw_row (a := 59) (j := 4 * a1) (v := 0) hIo (by omega) (Or.inl rfl) ⟨by omega, by omega, by omega⟩
                have hI_209 := iw_row (a := 59) (j := 4 * a2) (v := c 59 (4 * a1) + c 59 (4 * a2)) hI_208 (by omega) (Or.inl rfl) ⟨by omega, by omega, by omega⟩
                have hI_210 := iw_row (a := 59) (j := 4 * a1 + 1) (v := 0) hI_209 (by omega) (Or.inl rfl) ⟨by omega, by omega, by omega⟩
                have hI_211 := iw_row (a := 59) (j := 4 * a2 + 1) (v := c 59 (4 * a1 + 1) + c 59 (4 * a2 + 1)) hI_210 (by omega) (Or.inl rfl) ⟨by omega, by omega, by omega⟩
                have hI_212 := iw_row (a := 59) (j := 4 * a1 + 2) (v := c 59 (4 * a1 + 1) + c 59 (4 * a1 + 2) + c 59 (4 * a1) - a3) hI_211 (by omega) (Or.inl rfl) ⟨by omega, by omega, by omega⟩
                have hI_213 := iw_row (a := 59) (j := 4 * a2 + 2) (v := a3 + c 59 (4 * a2 + 2) - c 59 (4 * a1 + 1) - c 59 (4 * a1)) hI_212 (by omega) (Or.inl rfl) ⟨by omega, by omega, by omega⟩
                have hI_214 := iw_row (a := 59) (j := 4 * a1 + 3) (v := c 59 (4 * a1 + 3)) hI_213 (by omega) (Or.inl rfl) ⟨by omega, by omega, by omega⟩
                have hI_215 := iw_row (a := 59) (j := 4 * a2 + 3) (v := c 59 (4 * a2 + 3)) hI_214 (by omega) (Or.inl rfl) ⟨by omega, by omega, by omega⟩
                refine v_cv rfl rfl rfl rfl (by decide) ⟨⟨rfl, rfl⟩, by decide, rfl⟩ (Nat.le_of_ble_eq_true rfl) (Nat.le_of_ble_eq_true rfl) (s_191 (a1 := a2) (a2 := c 59 (a1 + 24)) hI_215 (show 0 ≤ a2 ∧ a2 ≤ 5 from by omega) (show (-2147483648) ≤ c 59 (a1 + 24) ∧ c 59 (a1 + 24) ≤ 2147483647 from by omega) (fun c_216 hI_217 hF_218 => ?_))
                refine bk_inl ?_
                refine q_aload_n rfl rfl ?_
                refine q_iload_n rfl rfl ?_
                refine v_cv rfl rfl rfl rfl (by decide) ⟨⟨rfl, rfl⟩, by decide, rfl⟩ (Nat.le_of_ble_eq_true rfl) (Nat.le_of_ble_eq_true rfl) (s_187 (v1 := 0) (v2 := 0) (v3 := c 59 (4 * a1 + 1) + c 59 (4 * a1 + 2) + c 59 (4 * a1) - a3) (v4 := c 59 (4 * a1 + 3)) (r := c 59 (4 * a1 + 1) + c 59 (4 * a1 + 2) + c 59 (4 * a1 + 3) + c 59 (4 * a1) - a3) (a1 := a1) hI_217 (show 0 ≤ a1 ∧ a1 ≤ 5 from by omega) (((hF_218 59 (4 * a1) (by omega)).trans ((up_n (by omega)).trans ((up_n (by omega)).trans ((up_n (by omega)).trans ((up_n (by omega)).trans ((up_n (by omega)).trans ((up_n (by omega)).trans ((up_n (by omega)).trans (up_e rfl)))))))))) (((hF_218 59 (4 * a1 + 1) (by omega)).trans ((up_n (by omega)).trans ((up_n (by omega)).trans ((up_n (by omega)).trans ((up_n (by omega)).trans ((up_n (by omega)).trans (up_e rfl)))))))) (((hF_218 59 (4 * a1 + 2) (by omega)).trans ((up_n (by omega)).trans ((up_n (by omega)).trans ((up_n (by omega)).trans (up_e rfl)))))) (((hF_218 59 (4 * a1 + 3) (by omega)).trans ((up_n (by omega)).trans (up_e rfl)))) (by omega) ?_)
                refine bk_inl ?_
                by_cases h_219 : c 59 (4 * a1 + 1) + c 59 (4 * a1 + 2) + c 59 (4 * a1 + 3) + c 59 (4 * a1) - a3 ≠ 0
                · refine v_if_ne_t (t := 151) rfl (by decide) (by omega) ?_
                  refine q_iconst rfl ?_
                  refine v_zret rfl rfl (by omega) ?_
                  have hr_220 : ∀ j : Int, rs 59 j → c_216 59 j + c_216 59 (j + 1) + c_216 59 (j + 2) + c_216 59 (j + 3) ≤ 9999 := by
                    intro j9 hj9
                    obtain ⟨k9, rfl, hk9⟩ := rs_59 hj9
                    by_cases e_221 : k9 = a1
                    · skip
                      have h_222 : c_216 59 (4 * k9) = 0 := (congrArg (c_216 59) (show 4 * k9 = 4 * a1 from by omega)).trans ((hF_218 59 (4 * a1) (by omega)).trans ((up_n (by omega)).trans ((up_n (by omega)).trans ((up_n (by omega)).trans ((up_n (by omega)).trans ((up_n (by omega)).trans ((up_n (by omega)).trans ((up_n (by omega)).trans (up_e rfl)))))))))
                      have h_223 : c_216 59 (4 * k9 + 1) = 0 := (congrArg (c_216 59) (show 4 * k9 + 1 = 4 * a1 + 1 from by omega)).trans ((hF_218 59 (4 * a1 + 1) (by omega)).trans ((up_n (by omega)).trans ((up_n (by omega)).trans ((up_n (by omega)).trans ((up_n (by omega)).trans ((up_n (by omega)).trans (up_e rfl)))))))
                      have h_224 : c_216 59 (4 * k9 + 2) = c 59 (4 * a1 + 1) + c 59 (4 * a1 + 2) + c 59 (4 * a1) - a3 := (congrArg (c_216 59) (show 4 * k9 + 2 = 4 * a1 + 2 from by omega)).trans ((hF_218 59 (4 * a1 + 2) (by omega)).trans ((up_n (by omega)).trans ((up_n (by omega)).trans ((up_n (by omega)).trans (up_e rfl)))))
                      have h_225 : c_216 59 (4 * k9 + 3) = c 59 (4 * a1 + 3) := (congrArg (c_216 59) (show 4 * k9 + 3 = 4 * a1 + 3 from by omega)).trans ((hF_218 59 (4 * a1 + 3) (by omega)).trans ((up_n (by omega)).trans (up_e rfl)))
                      omega
                    by_cases e_226 : k9 = a2
                    · skip
                      have h_227 : c_216 59 (4 * k9) = c 59 (4 * a1) + c 59 (4 * a2) := (congrArg (c_216 59) (show 4 * k9 = 4 * a2 from by omega)).trans ((hF_218 59 (4 * a2) (by omega)).trans ((up_n (by omega)).trans ((up_n (by omega)).trans ((up_n (by omega)).trans ((up_n (by omega)).trans ((up_n (by omega)).trans ((up_n (by omega)).trans (up_e rfl))))))))
                      have h_228 : c_216 59 (4 * k9 + 1) = c 59 (4 * a1 + 1) + c 59 (4 * a2 + 1) := (congrArg (c_216 59) (show 4 * k9 + 1 = 4 * a2 + 1 from by omega)).trans ((hF_218 59 (4 * a2 + 1) (by omega)).trans ((up_n (by omega)).trans ((up_n (by omega)).trans ((up_n (by omega)).trans ((up_n (by omega)).trans (up_e rfl))))))
                      have h_229 : c_216 59 (4 * k9 + 2) = a3 + c 59 (4 * a2 + 2) - c 59 (4 * a1 + 1) - c 59 (4 * a1) := (congrArg (c_216 59) (show 4 * k9 + 2 = 4 * a2 + 2 from by omega)).trans ((hF_218 59 (4 * a2 + 2) (by omega)).trans ((up_n (by omega)).trans ((up_n (by omega)).trans (up_e rfl))))
                      have h_230 : c_216 59 (4 * k9 + 3) = c 59 (4 * a2 + 3) := (congrArg (c_216 59) (show 4 * k9 + 3 = 4 * a2 + 3 from by omega)).trans ((hF_218 59 (4 * a2 + 3) (by omega)).trans (up_e rfl))
                      omega
                    have h_231 := iv_r hI 59 (4 * k9) hj9 (by omega)
                    have h_232 := ir_59_g hI (j := 4 * k9) (by omega)
                    have h_233 : c_216 59 (4 * k9) = c 59 (4 * k9) := ((hF_218 59 (4 * k9) (by omega)).trans ((up_n (by omega)).trans ((up_n (by omega)).trans ((up_n (by omega)).trans ((up_n (by omega)).trans ((up_n (by omega)).trans ((up_n (by omega)).trans ((up_n (by omega)).trans (up_n (by omega))))))))))
                    have h_234 := ir_59_g hI (j := 4 * k9 + 1) (by omega)
                    have h_235 : c_216 59 (4 * k9 + 1) = c 59 (4 * k9 + 1) := ((hF_218 59 (4 * k9 + 1) (by omega)).trans ((up_n (by omega)).trans ((up_n (by omega)).trans ((up_n (by omega)).trans ((up_n (by omega)).trans ((up_n (by omega)).trans ((up_n (by omega)).trans ((up_n (by omega)).trans (up_n (by omega))))))))))
                    have h_236 := ir_59_g hI (j := 4 * k9 + 2) (by omega)
                    have h_237 : c_216 59 (4 * k9 + 2) = c 59 (4 * k9 + 2) := ((hF_218 59 (4 * k9 + 2) (by omega)).trans ((up_n (by omega)).trans ((up_n (by omega)).trans ((up_n (by omega)).trans ((up_n (by omega)).trans ((up_n (by omega)).trans ((up_n (by omega)).trans ((up_n (by omega)).trans (up_n (by omega))))))))))
                    have h_238 := ir_59_g hI (j := 4 * k9 + 3) (by omega)
                    have h_239 : c_216 59 (4 * k9 + 3) = c 59 (4 * k9 + 3) := ((hF_218 59 (4 * k9 + 3) (by omega)).trans ((up_n (by omega)).trans ((up_n (by omega)).trans ((up_n (by omega)).trans ((up_n (by omega)).trans ((up_n (by omega)).trans ((up_n (by omega)).trans ((up_n (by omega)).trans (up_n (by omega))))))))))
                    omega
                  have hI_240 := iv_close hI_217 hr_220
                  exact K c_216 1 hI_240 (fun a j hm => (hF_218 a j (by omega)).trans ((up_b (by omega)).trans ((up_b (by omega)).trans ((up_b (by omega)).trans ((up_b (by omega)).trans ((up_b (by omega)).trans ((up_b (by omega)).trans ((up_b (by omega)).trans (up_b (by omega)))))))))) ⟨by decide, by decide⟩
                · refine v_if_ne_f (t := 151) rfl (by decide) (by omega) ?_
                  refine q_aload_n rfl rfl ?_
                  refine q_iload_n rfl rfl ?_
                  refine v_cv rfl rfl rfl rfl (by decide) ⟨⟨rfl, rfl⟩, by decide, rfl⟩ (Nat.le_of_ble_eq_true rfl) (Nat.le_of_ble_eq_true rfl) (s_192 (a1 := a1) hI_217 (show 0 ≤ a1 ∧ a1 ≤ 5 from by omega) (fun c_241 hI_242 hF_243 h_244 => ?_))
                  refine bk_inl ?_
                  have h_245 := ir_59_g hI_242 (j := 4 * a1 + 1) (by omega)
                  have h_246 := ir_59_g hI_242 (j := 4 * a1 + 2) (by omega)
                  have h_247 := ir_59_g hI_242 (j := 4 * a1 + 3) (by omega)
                  have h_248 := ir_59_g hI_242 (j := 4 * a1) (by omega)
                  refine q_iconst rfl ?_
                  refine v_zret rfl rfl (by omega) ?_
                  have hr_249 : ∀ j : Int, rs 59 j → c_241 59 j + c_241 59 (j + 1) + c_241 59 (j + 2) + c_241 59 (j + 3) ≤ 9999 := by
                    intro j9 hj9
                    obtain ⟨k9, rfl, hk9⟩ := rs_59 hj9
                    by_cases e_250 : k9 = a1
                    · skip
                      have h_251 : c_241 59 (4 * k9) = c_241 59 (4 * a1) := (congrArg (c_241 59) (show 4 * k9 = 4 * a1 from by omega))
                      have h_252 : c_241 59 (4 * k9 + 1) = c_241 59 (4 * a1 + 1) := (congrArg (c_241 59) (show 4 * k9 + 1 = 4 * a1 + 1 from by omega))
                      have h_253 : c_241 59 (4 * k9 + 2) = c_241 59 (4 * a1 + 2) := (congrArg (c_241 59) (show 4 * k9 + 2 = 4 * a1 + 2 from by omega))
                      have h_254 : c_241 59 (4 * k9 + 3) = c_241 59 (4 * a1 + 3) := (congrArg (c_241 59) (show 4 * k9 + 3 = 4 * a1 + 3 from by omega))
                      omega
                    by_cases e_255 : k9 = a2
                    · skip
                      have h_256 : c_241 59 (4 * k9) = c 59 (4 * a1) + c 59 (4 * a2) := (congrArg (c_241 59) (show 4 * k9 = 4 * a2 from by omega)).trans ((hF_243 59 (4 * a2) (by omega)).trans ((hF_218 59 (4 * a2) (by omega)).trans ((up_n (by omega)).trans ((up_n (by omega)).trans ((up_n (by omega)).trans ((up_n (by omega)).trans ((up_n (by omega)).trans ((up_n (by omega)).trans (up_e rfl)))))))))
                      have h_257 : c_241 59 (4 * k9 + 1) = c 59 (4 * a1 + 1) + c 59 (4 * a2 + 1) := (congrArg (c_241 59) (show 4 * k9 + 1 = 4 * a2 + 1 from by omega)).trans ((hF_243 59 (4 * a2 + 1) (by omega)).trans ((hF_218 59 (4 * a2 + 1) (by omega)).trans ((up_n (by omega)).trans ((up_n (by omega)).trans ((up_n (by omega)).trans ((up_n (by omega)).trans (up_e rfl)))))))
                      have h_258 : c_241 59 (4 * k9 + 2) = a3 + c 59 (4 * a2 + 2) - c 59 (4 * a1 + 1) - c 59 (4 * a1) := (congrArg (c_241 59) (show 4 * k9 + 2 = 4 * a2 + 2 from by omega)).trans ((hF_243 59 (4 * a2 + 2) (by omega)).trans ((hF_218 59 (4 * a2 + 2) (by omega)).trans ((up_n (by omega)).trans ((up_n (by omega)).trans (up_e rfl)))))
                      have h_259 : c_241 59 (4 * k9 + 3) = c 59 (4 * a2 + 3) := (congrArg (c_241 59) (show 4 * k9 + 3 = 4 * a2 + 3 from by omega)).trans ((hF_243 59 (4 * a2 + 3) (by omega)).trans ((hF_218 59 (4 * a2 + 3) (by omega)).trans (up_e rfl)))
                      omega
                    have h_260 := iv_r hI 59 (4 * k9) hj9 (by omega)
                    have h_261 := ir_59_g hI (j := 4 * k9) (by omega)
                    have h_262 : c_241 59 (4 * k9) = c 59 (4 * k9) := ((hF_243 59 (4 * k9) (by omega)).trans ((hF_218 59 (4 * k9) (by omega)).trans ((up_n (by omega)).trans ((up_n (by omega)).trans ((up_n (by omega)).trans ((up_n (by omega)).trans ((up_n (by omega)).trans ((up_n (by omega)).trans ((up_n (by omega)).trans (up_n (by omega)))))))))))
                    have h_263 := ir_59_g hI (j := 4 * k9 + 1) (by omega)
                    have h_264 : c_241 59 (4 * k9 + 1) = c 59 (4 * k9 + 1) := ((hF_243 59 (4 * k9 + 1) (by omega)).trans ((hF_218 59 (4 * k9 + 1) (by omega)).trans ((up_n (by omega)).trans ((up_n (by omega)).trans ((up_n (by omega)).trans ((up_n (by omega)).trans ((up_n (by omega)).trans ((up_n (by omega)).trans ((up_n (by omega)).trans (up_n (by omega)))))))))))
                    have h_265 := ir_59_g hI (j := 4 * k9 + 2) (by omega)
                    have h_266 : c_241 59 (4 * k9 + 2) = c 59 (4 * k9 + 2) := ((hF_243 59 (4 * k9 + 2) (by omega)).trans ((hF_218 59 (4 * k9 + 2) (by omega)).trans ((up_n (by omega)).trans ((up_n (by omega)).trans ((up_n (by omega)).trans ((up_n (by omega)).trans ((up_n (by omega)).trans ((up_n (by omega)).trans ((up_n (by omega)).trans (up_n (by omega)))))))))))
                    have h_267 := ir_59_g hI (j := 4 * k9 + 3) (by omega)
                    have h_268 : c_241 59 (4 * k9 + 3) = c 59 (4 * k9 + 3) := ((hF_243 59 (4 * k9 + 3) (by omega)).trans ((hF_218 59 (4 * k9 + 3) (by omega)).trans ((up_n (by omega)).trans ((up_n (by omega)).trans ((up_n (by omega)).trans ((up_n (by omega)).trans ((up_n (by omega)).trans ((up_n (by omega)).trans ((up_n (by omega)).trans (up_n (by omega)))))))))))
                    omega
                  have hI_269 := iv_close hI_242 hr_249
                  exact K c_241 1 hI_269 (fun a j hm => (hF_243 a j (by omega)).trans ((hF_218 a j (by omega)).trans ((up_b (by omega)).trans ((up_b (by omega)).trans ((up_b (by omega)).trans ((up_b (by omega)).trans ((up_b (by omega)).trans ((up_b (by omega)).trans ((up_b (by omega)).trans (up_b (by omega))))))))))) ⟨by decide, by decide⟩
              · refine v_ic_ge_f (t := 75) rfl (by decide) (by omega) ?_
                refine q_aload_n rfl rfl ?_
                refine v_gr (t := 59) rfl rfl rfl (by decide) rfl ?_
                refine q_iconst rfl ?_
                refine q_iload_n rfl rfl ?_
                refine v_imul (v := 4 * a1) rfl (by omega) ?_
                refine q_iload rfl rfl ?_
                refine v_iadd (v := 4 * a1 + 2) rfl (by omega) ?_
                refine v_ia (v := c 59 (4 * a1 + 2)) rfl rfl (by decide) (by decide) (by omega) ((up_n (by omega)).trans ((up_n (by omega)).trans ((up_n (by omega)).trans (up_n (by omega))))) ?_
                refine q_goto (t := 77) rfl (by decide) ?_
                refine q_istore rfl (by decide) ?_
                refine q_aload_n rfl rfl ?_
                refine v_gr (t := 59) rfl rfl rfl (by decide) rfl ?_
                refine q_iconst rfl ?_
                refine q_iload_n rfl rfl ?_
                refine v_imul (v := 4 * a1) rfl (by omega) ?_
                refine q_iload rfl rfl ?_
                refine v_iadd (v := 4 * a1 + 2) rfl (by omega) ?_
                refine q_dup2 rfl ⟨rfl, rfl⟩ ?_
                refine v_ia (v := c 59 (4 * a1 + 2)) rfl rfl (by decide) (by decide) (by omega) ((up_n (by omega)).trans ((up_n (by omega)).trans ((up_n (by omega)).trans (up_n (by omega))))) ?_
                refine q_iload rfl rfl ?_
                refine v_isub (v := 0) rfl (by decide) ?_
                refine v_is rfl rfl (by decide) (by decide) (by omega) ?_
                refine q_aload_n rfl rfl ?_
                refine v_gr (t := 59) rfl rfl rfl (by decide) rfl ?_
                refine q_iconst rfl ?_
                refine q_iload_n rfl rfl ?_
                refine v_imul (v := 4 * a2) rfl (by omega) ?_
                refine q_iload rfl rfl ?_
                refine v_iadd (v := 4 * a2 + 2) rfl (by omega) ?_
                refine q_dup2 rfl ⟨rfl, rfl⟩ ?_
                refine v_ia (v := c 59 (4 * a2 + 2)) rfl rfl (by decide) (by decide) (by omega) ((up_n (by omega)).trans ((up_n (by omega)).trans ((up_n (by omega)).trans ((up_n (by omega)).trans (up_n (by omega)))))) ?_
                refine q_iload rfl rfl ?_
                refine v_iadd (v := c 59 (4 * a1 + 2) + c 59 (4 * a2 + 2)) rfl (by omega) ?_
                refine v_is rfl rfl (by decide) (by decide) (by omega) ?_
                refine q_iload rfl rfl ?_
                refine q_iload rfl rfl ?_
                refine v_isub (v := a3 - c 59 (4 * a1 + 1) - c 59 (4 * a1 + 2) - c 59 (4 * a1)) rfl (by omega) ?_
                refine q_istore rfl (by decide) ?_
                refine Wp_ls [(4, vi (a3 - c 59 (4 * a1 + 1) - c 59 (4 * a1 + 2) - c 59 (4 * a1))), (6, vi (c 59 (4 * a1 + 2))), (5, vi 2), (0, .ref 41), (1, vi a1), (2, vi a2), (3, vi a3)] (lsub_cons rfl (lsub_cons rfl (lsub_cons rfl (lsub_cons rfl (lsub_cons rfl (lsub_cons rfl (lsub_cons rfl lsub_nil))))))) ?_
                refine v_iinc (v := 3) rfl rfl (by decide) (by decide) ?_
                refine q_goto (t := 39) rfl (by decide) ?_
                refine q_iload rfl rfl ?_
                refine q_iconst rfl ?_
                refine v_ic_ge_f (t := 124) rfl (by decide) (by decide) ?_
                refine q_aload_n rfl rfl ?_
                refine v_gr (t := 59) rfl rfl rfl (by decide) rfl ?_
                refine q_iconst rfl ?_
                refine q_iload_n rfl rfl ?_
                refine v_imul (v := 4 * a1) rfl (by omega) ?_
                refine q_iload rfl rfl ?_
                refine v_iadd (v := 4 * a1 + 3) rfl (by omega) ?_
                refine v_ia (v := c 59 (4 * a1 + 3)) rfl rfl (by decide) (by decide) (by omega) ((up_n (by omega)).trans ((up_n (by omega)).trans ((up_n (by omega)).trans ((up_n (by omega)).trans ((up_n (by omega)).trans (up_n (by omega))))))) ?_
                refine q_iload rfl rfl ?_
                refine v_ic_ge_t (t := 75) rfl (by decide) (by omega) ?_
                refine q_iload rfl rfl ?_
                refine q_istore rfl (by decide) ?_
                refine q_aload_n rfl rfl ?_
                refine v_gr (t := 59) rfl rfl rfl (by decide) rfl ?_
                refine q_iconst rfl ?_
                refine q_iload_n rfl rfl ?_
                refine v_imul (v := 4 * a1) rfl (by omega) ?_
                refine q_iload rfl rfl ?_
                refine v_iadd (v := 4 * a1 + 3) rfl (by omega) ?_
                refine q_dup2 rfl ⟨rfl, rfl⟩ ?_
                refine v_ia (v := c 59 (4 * a1 + 3)) rfl rfl (by decide) (by decide) (by omega) ((up_n (by omega)).trans ((up_n (by omega)).trans ((up_n (by omega)).trans ((up_n (by omega)).trans ((up_n (by omega)).trans (up_n (by omega))))))) ?_
                refine q_iload rfl rfl ?_
                refine v_isub (v := c 59 (4 * a1 + 1) + c 59 (4 * a1 + 2) + c 59 (4 * a1 + 3) + c 59 (4 * a1) - a3) rfl (by omega) ?_
                refine v_is rfl rfl (by decide) (by decide) (by omega) ?_
                refine q_aload_n rfl rfl ?_
                refine v_gr (t := 59) rfl rfl rfl (by decide) rfl ?_
                refine q_iconst rfl ?_
                refine q_iload_n rfl rfl ?_
                refine v_imul (v := 4 * a2) rfl (by omega) ?_
                refine q_iload rfl rfl ?_
                refine v_iadd (v := 4 * a2 + 3) rfl (by omega) ?_
                refine q_dup2 rfl ⟨rfl, rfl⟩ ?_
                refine v_ia (v := c 59 (4 * a2 + 3)) rfl rfl (by decide) (by decide) (by omega) ((up_n (by omega)).trans ((up_n (by omega)).trans ((up_n (by omega)).trans ((up_n (by omega)).trans ((up_n (by omega)).trans ((up_n (by omega)).trans (up_n (by omega)))))))) ?_
                refine q_iload rfl rfl ?_
                refine v_iadd (v := a3 + c 59 (4 * a2 + 3) - c 59 (4 * a1 + 1) - c 59 (4 * a1 + 2) - c 59 (4 * a1)) rfl (by omega) ?_
                refine v_is rfl rfl (by decide) (by decide) (by omega) ?_
                refine q_iload rfl rfl ?_
                refine q_iload rfl rfl ?_
                refine v_isub (v := 0) rfl (by decide) ?_
                refine q_istore rfl (by decide) ?_
                refine v_iinc (v := 4) rfl rfl (by decide) (by decide) ?_
                refine q_goto (t := 39) rfl (by decide) ?_
                refine q_iload rfl rfl ?_
                refine q_iconst rfl ?_
                refine v_ic_ge_t (t := 124) rfl (by decide) (by decide) ?_
                refine q_aload_n rfl rfl ?_
                refine q_iload_n rfl rfl ?_
                refine q_aload_n rfl rfl ?_
                refine v_gr (t := 59) rfl rfl rfl (by decide) rfl ?_
                refine v_bip rfl (by decide) ?_
                refine q_iload_n rfl rfl ?_
                refine v_iadd (v := a1 + 24) rfl (by omega) ?_
                have h_270 := ir_59 hI (a1 + 24)
                refine v_ia (v := c 59 (a1 + 24)) rfl rfl (by decide) (by decide) (by omega) ((up_n (by omega)).trans ((up_n (by omega)).trans ((up_n (by omega)).trans ((up_n (by omega)).trans ((up_n (by omega)).trans ((up_n (by omega)).trans ((up_n (by omega)).trans (up_n (by omega))))))))) ?_
                have hI_271 := iw_row (a := 59) (j := 4 * a1) (v := 0) hIo (by omega) (Or.inl rfl) ⟨by omega, by omega, by omega⟩
                have hI_272 := iw_row (a := 59) (j := 4 * a2) (v := c 59 (4 * a1) + c 59 (4 * a2)) hI_271 (by omega) (Or.inl rfl) ⟨by omega, by omega, by omega⟩
                have hI_273 := iw_row (a := 59) (j := 4 * a1 + 1) (v := 0) hI_272 (by omega) (Or.inl rfl) ⟨by omega, by omega, by omega⟩
                have hI_274 := iw_row (a := 59) (j := 4 * a2 + 1) (v := c 59 (4 * a1 + 1) + c 59 (4 * a2 + 1)) hI_273 (by omega) (Or.inl rfl) ⟨by omega, by omega, by omega⟩
                have hI_275 := iw_row (a := 59) (j := 4 * a1 + 2) (v := 0) hI_274 (by omega) (Or.inl rfl) ⟨by omega, by omega, by omega⟩
                have hI_276 := iw_row (a := 59) (j := 4 * a2 + 2) (v := c 59 (4 * a1 + 2) + c 59 (4 * a2 + 2)) hI_275 (by omega) (Or.inl rfl) ⟨by omega, by omega, by omega⟩
                have hI_277 := iw_row (a := 59) (j := 4 * a1 + 3) (v := c 59 (4 * a1 + 1) + c 59 (4 * a1 + 2) + c 59 (4 * a1 + 3) + c 59 (4 * a1) - a3) hI_276 (by omega) (Or.inl rfl) ⟨by omega, by omega, by omega⟩
                have hI_278 := iw_row (a := 59) (j := 4 * a2 + 3) (v := a3 + c 59 (4 * a2 + 3) - c 59 (4 * a1 + 1) - c 59 (4 * a1 + 2) - c 59 (4 * a1)) hI_277 (by omega) (Or.inl rfl) ⟨by omega, by omega, by omega⟩
                refine v_cv rfl rfl rfl rfl (by decide) ⟨⟨rfl, rfl⟩, by decide, rfl⟩ (Nat.le_of_ble_eq_true rfl) (Nat.le_of_ble_eq_true rfl) (s_191 (a1 := a2) (a2 := c 59 (a1 + 24)) hI_278 (show 0 ≤ a2 ∧ a2 ≤ 5 from by omega) (show (-2147483648) ≤ c 59 (a1 + 24) ∧ c 59 (a1 + 24) ≤ 2147483647 from by omega) (fun c_279 hI_280 hF_281 => ?_))
                refine bk_inl ?_
                refine q_aload_n rfl rfl ?_
                refine q_iload_n rfl rfl ?_
                refine v_cv rfl rfl rfl rfl (by decide) ⟨⟨rfl, rfl⟩, by decide, rfl⟩ (Nat.le_of_ble_eq_true rfl) (Nat.le_of_ble_eq_true rfl) (s_187 (v1 := 0) (v2 := 0) (v3 := 0) (v4 := c 59 (4 * a1 + 1) + c 59 (4 * a1 + 2) + c 59 (4 * a1 + 3) + c 59 (4 * a1) - a3) (r := c 59 (4 * a1 + 1) + c 59 (4 * a1 + 2) + c 59 (4 * a1 + 3) + c 59 (4 * a1) - a3) (a1 := a1) hI_280 (show 0 ≤ a1 ∧ a1 ≤ 5 from by omega) (((hF_281 59 (4 * a1) (by omega)).trans ((up_n (by omega)).trans ((up_n (by omega)).trans ((up_n (by omega)).trans ((up_n (by omega)).trans ((up_n (by omega)).trans ((up_n (by omega)).trans ((up_n (by omega)).trans (up_e rfl)))))))))) (((hF_281 59 (4 * a1 + 1) (by omega)).trans ((up_n (by omega)).trans ((up_n (by omega)).trans ((up_n (by omega)).trans ((up_n (by omega)).trans ((up_n (by omega)).trans (up_e rfl)))))))) (((hF_281 59 (4 * a1 + 2) (by omega)).trans ((up_n (by omega)).trans ((up_n (by omega)).trans ((up_n (by omega)).trans (up_e rfl)))))) (((hF_281 59 (4 * a1 + 3) (by omega)).trans ((up_n (by omega)).trans (up_e rfl)))) (by omega) ?_)
                refine bk_inl ?_
                by_cases h_282 : c 59 (4 * a1 + 1) + c 59 (4 * a1 + 2) + c 59 (4 * a1 + 3) + c 59 (4 * a1) - a3 ≠ 0
                · refine v_if_ne_t (t := 151) rfl (by decide) (by omega) ?_
                  refine q_iconst rfl ?_
                  refine v_zret rfl rfl (by omega) ?_
                  have hr_283 : ∀ j : Int, rs 59 j → c_279 59 j + c_279 59 (j + 1) + c_279 59 (j + 2) + c_279 59 (j + 3) ≤ 9999 := by
                    intro j9 hj9
                    obtain ⟨k9, rfl, hk9⟩ := rs_59 hj9
                    by_cases e_284 : k9 = a1
                    · skip
                      have h_285 : c_279 59 (4 * k9) = 0 := (congrArg (c_279 59) (show 4 * k9 = 4 * a1 from by omega)).trans ((hF_281 59 (4 * a1) (by omega)).trans ((up_n (by omega)).trans ((up_n (by omega)).trans ((up_n (by omega)).trans ((up_n (by omega)).trans ((up_n (by omega)).trans ((up_n (by omega)).trans ((up_n (by omega)).trans (up_e rfl)))))))))
                      have h_286 : c_279 59 (4 * k9 + 1) = 0 := (congrArg (c_279 59) (show 4 * k9 + 1 = 4 * a1 + 1 from by omega)).trans ((hF_281 59 (4 * a1 + 1) (by omega)).trans ((up_n (by omega)).trans ((up_n (by omega)).trans ((up_n (by omega)).trans ((up_n (by omega)).trans ((up_n (by omega)).trans (up_e rfl)))))))
                      have h_287 : c_279 59 (4 * k9 + 2) = 0 := (congrArg (c_279 59) (show 4 * k9 + 2 = 4 * a1 + 2 from by omega)).trans ((hF_281 59 (4 * a1 + 2) (by omega)).trans ((up_n (by omega)).trans ((up_n (by omega)).trans ((up_n (by omega)).trans (up_e rfl)))))
                      have h_288 : c_279 59 (4 * k9 + 3) = c 59 (4 * a1 + 1) + c 59 (4 * a1 + 2) + c 59 (4 * a1 + 3) + c 59 (4 * a1) - a3 := (congrArg (c_279 59) (show 4 * k9 + 3 = 4 * a1 + 3 from by omega)).trans ((hF_281 59 (4 * a1 + 3) (by omega)).trans ((up_n (by omega)).trans (up_e rfl)))
                      omega
                    by_cases e_289 : k9 = a2
                    · skip
                      have h_290 : c_279 59 (4 * k9) = c 59 (4 * a1) + c 59 (4 * a2) := (congrArg (c_279 59) (show 4 * k9 = 4 * a2 from by omega)).trans ((hF_281 59 (4 * a2) (by omega)).trans ((up_n (by omega)).trans ((up_n (by omega)).trans ((up_n (by omega)).trans ((up_n (by omega)).trans ((up_n (by omega)).trans ((up_n (by omega)).trans (up_e rfl))))))))
                      have h_291 : c_279 59 (4 * k9 + 1) = c 59 (4 * a1 + 1) + c 59 (4 * a2 + 1) := (congrArg (c_279 59) (show 4 * k9 + 1 = 4 * a2 + 1 from by omega)).trans ((hF_281 59 (4 * a2 + 1) (by omega)).trans ((up_n (by omega)).trans ((up_n (by omega)).trans ((up_n (by omega)).trans ((up_n (by omega)).trans (up_e rfl))))))
                      have h_292 : c_279 59 (4 * k9 + 2) = c 59 (4 * a1 + 2) + c 59 (4 * a2 + 2) := (congrArg (c_279 59) (show 4 * k9 + 2 = 4 * a2 + 2 from by omega)).trans ((hF_281 59 (4 * a2 + 2) (by omega)).trans ((up_n (by omega)).trans ((up_n (by omega)).trans (up_e rfl))))
                      have h_293 : c_279 59 (4 * k9 + 3) = a3 + c 59 (4 * a2 + 3) - c 59 (4 * a1 + 1) - c 59 (4 * a1 + 2) - c 59 (4 * a1) := (congrArg (c_279 59) (show 4 * k9 + 3 = 4 * a2 + 3 from by omega)).trans ((hF_281 59 (4 * a2 + 3) (by omega)).trans (up_e rfl))
                      omega
                    have h_294 := iv_r hI 59 (4 * k9) hj9 (by omega)
                    have h_295 := ir_59_g hI (j := 4 * k9) (by omega)
                    have h_296 : c_279 59 (4 * k9) = c 59 (4 * k9) := ((hF_281 59 (4 * k9) (by omega)).trans ((up_n (by omega)).trans ((up_n (by omega)).trans ((up_n (by omega)).trans ((up_n (by omega)).trans ((up_n (by omega)).trans ((up_n (by omega)).trans ((up_n (by omega)).trans (up_n (by omega))))))))))
                    have h_297 := ir_59_g hI (j := 4 * k9 + 1) (by omega)
                    have h_298 : c_279 59 (4 * k9 + 1) = c 59 (4 * k9 + 1) := ((hF_281 59 (4 * k9 + 1) (by omega)).trans ((up_n (by omega)).trans ((up_n (by omega)).trans ((up_n (by omega)).trans ((up_n (by omega)).trans ((up_n (by omega)).trans ((up_n (by omega)).trans ((up_n (by omega)).trans (up_n (by omega))))))))))
                    have h_299 := ir_59_g hI (j := 4 * k9 + 2) (by omega)
                    have h_300 : c_279 59 (4 * k9 + 2) = c 59 (4 * k9 + 2) := ((hF_281 59 (4 * k9 + 2) (by omega)).trans ((up_n (by omega)).trans ((up_n (by omega)).trans ((up_n (by omega)).trans ((up_n (by omega)).trans ((up_n (by omega)).trans ((up_n (by omega)).trans ((up_n (by omega)).trans (up_n (by omega))))))))))
                    have h_301 := ir_59_g hI (j := 4 * k9 + 3) (by omega)
                    have h_302 : c_279 59 (4 * k9 + 3) = c 59 (4 * k9 + 3) := ((hF_281 59 (4 * k9 + 3) (by omega)).trans ((up_n (by omega)).trans ((up_n (by omega)).trans ((up_n (by omega)).trans ((up_n (by omega)).trans ((up_n (by omega)).trans ((up_n (by omega)).trans ((up_n (by omega)).trans (up_n (by omega))))))))))
                    omega
                  have hI_303 := iv_close hI_280 hr_283
                  exact K c_279 1 hI_303 (fun a j hm => (hF_281 a j (by omega)).trans ((up_b (by omega)).trans ((up_b (by omega)).trans ((up_b (by omega)).trans ((up_b (by omega)).trans ((up_b (by omega)).trans ((up_b (by omega)).trans ((up_b (by omega)).trans (up_b (by omega)))))))))) ⟨by decide, by decide⟩
                · refine v_if_ne_f (t := 151) rfl (by decide) (by omega) ?_
                  refine q_aload_n rfl rfl ?_
                  refine q_iload_n rfl rfl ?_
                  refine v_cv rfl rfl rfl rfl (by decide) ⟨⟨rfl, rfl⟩, by decide, rfl⟩ (Nat.le_of_ble_eq_true rfl) (Nat.le_of_ble_eq_true rfl) (s_192 (a1 := a1) hI_280 (show 0 ≤ a1 ∧ a1 ≤ 5 from by omega) (fun c_304 hI_305 hF_306 h_307 => ?_))
                  refine bk_inl ?_
                  have h_308 := ir_59_g hI_305 (j := 4 * a1 + 1) (by omega)
                  have h_309 := ir_59_g hI_305 (j := 4 * a1 + 2) (by omega)
                  have h_310 := ir_59_g hI_305 (j := 4 * a1 + 3) (by omega)
                  have h_311 := ir_59_g hI_305 (j := 4 * a1) (by omega)
                  refine q_iconst rfl ?_
                  refine v_zret rfl rfl (by omega) ?_
                  have hr_312 : ∀ j : Int, rs 59 j → c_304 59 j + c_304 59 (j + 1) + c_304 59 (j + 2) + c_304 59 (j + 3) ≤ 9999 := by
                    intro j9 hj9
                    obtain ⟨k9, rfl, hk9⟩ := rs_59 hj9
                    by_cases e_313 : k9 = a1
                    · skip
                      have h_314 : c_304 59 (4 * k9) = c_304 59 (4 * a1) := (congrArg (c_304 59) (show 4 * k9 = 4 * a1 from by omega))
                      have h_315 : c_304 59 (4 * k9 + 1) = c_304 59 (4 * a1 + 1) := (congrArg (c_304 59) (show 4 * k9 + 1 = 4 * a1 + 1 from by omega))
                      have h_316 : c_304 59 (4 * k9 + 2) = c_304 59 (4 * a1 + 2) := (congrArg (c_304 59) (show 4 * k9 + 2 = 4 * a1 + 2 from by omega))
                      have h_317 : c_304 59 (4 * k9 + 3) = c_304 59 (4 * a1 + 3) := (congrArg (c_304 59) (show 4 * k9 + 3 = 4 * a1 + 3 from by omega))
                      omega
                    by_cases e_318 : k9 = a2
                    · skip
                      have h_319 : c_304 59 (4 * k9) = c 59 (4 * a1) + c 59 (4 * a2) := (congrArg (c_304 59) (show 4 * k9 = 4 * a2 from by omega)).trans ((hF_306 59 (4 * a2) (by omega)).trans ((hF_281 59 (4 * a2) (by omega)).trans ((up_n (by omega)).trans ((up_n (by omega)).trans ((up_n (by omega)).trans ((up_n (by omega)).trans ((up_n (by omega)).trans ((up_n (by omega)).trans (up_e rfl)))))))))
                      have h_320 : c_304 59 (4 * k9 + 1) = c 59 (4 * a1 + 1) + c 59 (4 * a2 + 1) := (congrArg (c_304 59) (show 4 * k9 + 1 = 4 * a2 + 1 from by omega)).trans ((hF_306 59 (4 * a2 + 1) (by omega)).trans ((hF_281 59 (4 * a2 + 1) (by omega)).trans ((up_n (by omega)).trans ((up_n (by omega)).trans ((up_n (by omega)).trans ((up_n (by omega)).trans (up_e rfl)))))))
                      have h_321 : c_304 59 (4 * k9 + 2) = c 59 (4 * a1 + 2) + c 59 (4 * a2 + 2) := (congrArg (c_304 59) (show 4 * k9 + 2 = 4 * a2 + 2 from by omega)).trans ((hF_306 59 (4 * a2 + 2) (by omega)).trans ((hF_281 59 (4 * a2 + 2) (by omega)).trans ((up_n (by omega)).trans ((up_n (by omega)).trans (up_e rfl)))))
                      have h_322 : c_304 59 (4 * k9 + 3) = a3 + c 59 (4 * a2 + 3) - c 59 (4 * a1 + 1) - c 59 (4 * a1 + 2) - c 59 (4 * a1) := (congrArg (c_304 59) (show 4 * k9 + 3 = 4 * a2 + 3 from by omega)).trans ((hF_306 59 (4 * a2 + 3) (by omega)).trans ((hF_281 59 (4 * a2 + 3) (by omega)).trans (up_e rfl)))
                      omega
                    have h_323 := iv_r hI 59 (4 * k9) hj9 (by omega)
                    have h_324 := ir_59_g hI (j := 4 * k9) (by omega)
                    have h_325 : c_304 59 (4 * k9) = c 59 (4 * k9) := ((hF_306 59 (4 * k9) (by omega)).trans ((hF_281 59 (4 * k9) (by omega)).trans ((up_n (by omega)).trans ((up_n (by omega)).trans ((up_n (by omega)).trans ((up_n (by omega)).trans ((up_n (by omega)).trans ((up_n (by omega)).trans ((up_n (by omega)).trans (up_n (by omega)))))))))))
                    have h_326 := ir_59_g hI (j := 4 * k9 + 1) (by omega)
                    have h_327 : c_304 59 (4 * k9 + 1) = c 59 (4 * k9 + 1) := ((hF_306 59 (4 * k9 + 1) (by omega)).trans ((hF_281 59 (4 * k9 + 1) (by omega)).trans ((up_n (by omega)).trans ((up_n (by omega)).trans ((up_n (by omega)).trans ((up_n (by omega)).trans ((up_n (by omega)).trans ((up_n (by omega)).trans ((up_n (by omega)).trans (up_n (by omega)))))))))))
                    have h_328 := ir_59_g hI (j := 4 * k9 + 2) (by omega)
                    have h_329 : c_304 59 (4 * k9 + 2) = c 59 (4 * k9 + 2) := ((hF_306 59 (4 * k9 + 2) (by omega)).trans ((hF_281 59 (4 * k9 + 2) (by omega)).trans ((up_n (by omega)).trans ((up_n (by omega)).trans ((up_n (by omega)).trans ((up_n (by omega)).trans ((up_n (by omega)).trans ((up_n (by omega)).trans ((up_n (by omega)).trans (up_n (by omega)))))))))))
                    have h_330 := ir_59_g hI (j := 4 * k9 + 3) (by omega)
                    have h_331 : c_304 59 (4 * k9 + 3) = c 59 (4 * k9 + 3) := ((hF_306 59 (4 * k9 + 3) (by omega)).trans ((hF_281 59 (4 * k9 + 3) (by omega)).trans ((up_n (by omega)).trans ((up_n (by omega)).trans ((up_n (by omega)).trans ((up_n (by omega)).trans ((up_n (by omega)).trans ((up_n (by omega)).trans ((up_n (by omega)).trans (up_n (by omega)))))))))))
                    omega
                  have hI_332 := iv_close hI_305 hr_312
                  exact K c_304 1 hI_332 (fun a j hm => (hF_306 a j (by omega)).trans ((hF_281 a j (by omega)).trans ((up_b (by omega)).trans ((up_b (by omega)).trans ((up_b (by omega)).trans ((up_b (by omega)).trans ((up_b (by omega)).trans ((up_b (by omega)).trans ((up_b (by omega)).trans (up_b (by omega))))))))))) ⟨by decide, by decide⟩
        · refine v_ic_le_f (t := 33) rfl (by decide) (by omega) ?_
          refine q_iconst rfl ?_
          refine v_zret rfl rfl (by omega) ?_
          have hr_333 : ∀ j : Int, rs 59 j → c 59 j + c 59 (j + 1) + c 59 (j + 2) + c 59 (j + 3) ≤ 9999 := by
            intro j9 hj9
            obtain ⟨k9, rfl, hk9⟩ := rs_59 hj9
            by_cases e_334 : k9 = a1
            · skip
              have h_335 : c 59 (4 * k9) = c 59 (4 * a1) := (congrArg (c 59) (show 4 * k9 = 4 * a1 from by omega))
              have h_336 : c 59 (4 * k9 + 1) = c 59 (4 * a1 + 1) := (congrArg (c 59) (show 4 * k9 + 1 = 4 * a1 + 1 from by omega))
              have h_337 : c 59 (4 * k9 + 2) = c 59 (4 * a1 + 2) := (congrArg (c 59) (show 4 * k9 + 2 = 4 * a1 + 2 from by omega))
              have h_338 : c 59 (4 * k9 + 3) = c 59 (4 * a1 + 3) := (congrArg (c 59) (show 4 * k9 + 3 = 4 * a1 + 3 from by omega))
              omega
            by_cases e_339 : k9 = a2
            · skip
              have h_340 : c 59 (4 * k9) = c 59 (4 * a2) := (congrArg (c 59) (show 4 * k9 = 4 * a2 from by omega))
              have h_341 : c 59 (4 * k9 + 1) = c 59 (4 * a2 + 1) := (congrArg (c 59) (show 4 * k9 + 1 = 4 * a2 + 1 from by omega))
              have h_342 : c 59 (4 * k9 + 2) = c 59 (4 * a2 + 2) := (congrArg (c 59) (show 4 * k9 + 2 = 4 * a2 + 2 from by omega))
              have h_343 : c 59 (4 * k9 + 3) = c 59 (4 * a2 + 3) := (congrArg (c 59) (show 4 * k9 + 3 = 4 * a2 + 3 from by omega))
              omega
            have h_344 := iv_r hI 59 (4 * k9) hj9 (by omega)
            have h_345 := ir_59_g hI (j := 4 * k9) (by omega)
            have h_346 : c 59 (4 * k9) = c 59 (4 * k9) := rfl
            have h_347 := ir_59_g hI (j := 4 * k9 + 1) (by omega)
            have h_348 : c 59 (4 * k9 + 1) = c 59 (4 * k9 + 1) := rfl
            have h_349 := ir_59_g hI (j := 4 * k9 + 2) (by omega)
            have h_350 : c 59 (4 * k9 + 2) = c 59 (4 * k9 + 2) := rfl
            have h_351 := ir_59_g hI (j := 4 * k9 + 3) (by omega)
            have h_352 : c 59 (4 * k9 + 3) = c 59 (4 * k9 + 3) := rfl
            omega
          have hI_353 := iv_close hIo hr_333
          exact K c 0 hI_353 (fun a j hm => rfl) ⟨by decide, by decide⟩

set_option maxRecDepth 100000 in
set_option maxHeartbeats 4000000 in
theorem s_195 {sc : List Int32} {e : Int} {d u P Q : Nat} {c : ME} {a1 : Int} {a2 : Int} {a3 : Int} {a4 : Int} {a5 : Int} {a6 : Int} {a7 : Int} {Z : AR → Prop} (hI : Iv u e P Q c) (ha1 : 0 ≤ a1 ∧ a1 ≤ 9999) (ha2 : 0 ≤ a2 ∧ a2 ≤ 9999) (ha3 : 0 ≤ a3 ∧ a3 ≤ 9999) (ha4 : 0 ≤ a4 ∧ a4 ≤ 9999) (ha5 : (-2147483648) ≤ a5 ∧ a5 ≤ 2147483647) (ha6 : (-2147483648) ≤ a6 ∧ a6 ≤ 2147483647) (ha7 : (-2147483648) ≤ a7 ∧ a7 ≤ 2147483647) (K : ∀ (c2 : ME) (y : Int), Iv u e P Q c2 → (∀ (a : Nat) (j : Int), ¬ (a = 54 ∨ a = 55) → c2 a j = c a j) → 0 ≤ y ∧ y ≤ 99 → Z (.inl (some (vi y)), Wd P Q P P c2, 0, 0)) : Wp sc (d + 10) 195 0 [(0, .ref 41), (1, vi a1), (2, vi a2), (3, vi a3), (4, vi a4), (5, vi a5), (6, vi a6), (7, vi a7)] [] (Wd P Q P P c) 0 0 Z := by
  have hP := iv_P hI
  have hQ := iv_Q hI
  refine q_aload_n rfl rfl ?_
  refine v_gr (t := 55) rfl rfl rfl (by decide) rfl ?_
  refine q_iconst rfl ?_
  refine q_iload_n rfl rfl ?_
  refine v_is rfl rfl (by decide) (by decide) (by decide) ?_
  refine q_aload_n rfl rfl ?_
  refine v_gr (t := 55) rfl rfl rfl (by decide) rfl ?_
  refine q_iconst rfl ?_
  refine q_iload_n rfl rfl ?_
  refine v_is rfl rfl (by decide) (by decide) (by decide) ?_
  refine q_aload_n rfl rfl ?_
  refine v_gr (t := 55) rfl rfl rfl (by decide) rfl ?_
  refine q_iconst rfl ?_
  refine q_iload_n rfl rfl ?_
  refine v_is rfl rfl (by decide) (by decide) (by decide) ?_
  refine q_aload_n rfl rfl ?_
  refine v_gr (t := 55) rfl rfl rfl (by decide) rfl ?_
  refine q_iconst rfl ?_
  refine q_iload rfl rfl ?_
  refine v_is rfl rfl (by decide) (by decide) (by decide) ?_
  refine q_aload_n rfl rfl ?_
  refine v_gr (t := 55) rfl rfl rfl (by decide) rfl ?_
  refine q_iconst rfl ?_
  refine q_iload_n rfl rfl ?_
  refine q_iload_n rfl rfl ?_
  refine v_iadd (v := a1 + a2) rfl (by omega) ?_
  refine q_iload_n rfl rfl ?_
  refine v_iadd (v := a1 + a2 + a3) rfl (by omega) ?_
  refine q_iload rfl rfl ?_
  refine v_iadd (v := a1 + a2 + a3 + a4) rfl (by omega) ?_
  refine v_is rfl rfl (by decide) (by decide) (by decide) ?_
  refine q_aload_n rfl rfl ?_
  refine v_gr (t := 55) rfl rfl rfl (by decide) rfl ?_
  refine q_iconst rfl ?_
  refine q_iload rfl rfl ?_
  refine v_is rfl rfl (by decide) (by decide) (by decide) ?_
  refine q_aload_n rfl rfl ?_
  refine v_gr (t := 55) rfl rfl rfl (by decide) rfl ?_
  refine v_bip rfl (by decide) ?_
  refine q_iload rfl rfl ?_
  refine v_is rfl rfl (by decide) (by decide) (by decide) ?_
  refine q_aload_n rfl rfl ?_
  refine v_gr (t := 55) rfl rfl rfl (by decide) rfl ?_
  refine v_bip rfl (by decide) ?_
  refine q_iload rfl rfl ?_
  refine v_is rfl rfl (by decide) (by decide) (by decide) ?_
  refine q_aload_n rfl rfl ?_
  have hI_1 := iw_55 (j := 0) (v := a1) hI ⟨by omega, by omega⟩
  have hI_2 := iw_55 (j := 1) (v := a2) hI_1 ⟨by omega, by omega⟩
  have hI_3 := iw_55 (j := 2) (v := a3) hI_2 ⟨by omega, by omega⟩
  have hI_4 := iw_55 (j := 3) (v := a4) hI_3 ⟨by omega, by omega⟩
  have hI_5 := iw_55 (j := 4) (v := a1 + a2 + a3 + a4) hI_4 ⟨by omega, by omega⟩
  have hI_6 := iw_55 (j := 5) (v := a5) hI_5 ⟨by omega, by omega⟩
  have hI_7 := iw_55 (j := 6) (v := a6) hI_6 ⟨by omega, by omega⟩
  have hI_8 := iw_55 (j := 7) (v := a7) hI_7 ⟨by omega, by omega⟩
  have h_9 : (up (up (up (up (up (up (up (up c 55 0 a1) 55 1 a2) 55 2 a3) 55 3 a4) 55 4 (a1 + a2 + a3 + a4)) 55 5 a5) 55 6 a6) 55 7 a7) 55 4 = a1 + a2 + a3 + a4 := ((up_n (by decide)).trans ((up_n (by decide)).trans ((up_n (by decide)).trans (up_e rfl))))
  have h_10 : (up (up (up (up (up (up (up (up c 55 0 a1) 55 1 a2) 55 2 a3) 55 3 a4) 55 4 (a1 + a2 + a3 + a4)) 55 5 a5) 55 6 a6) 55 7 a7) 55 0 = a1 := ((up_n (by decide)).trans ((up_n (by decide)).trans ((up_n (by decide)).trans ((up_n (by decide)).trans ((up_n (by decide)).trans ((up_n (by decide)).trans ((up_n (by decide)).trans (up_e rfl))))))))
  refine v_cv rfl rfl rfl rfl (by decide) ⟨⟨rfl, rfl⟩, by decide, rfl⟩ (Nat.le_of_ble_eq_true rfl) (Nat.le_of_ble_eq_true rfl) (s_180 hI_8 (by omega) (by omega) (fun c_11 y_14 hI_12 hF_13 hy_14 => ?_))
  refine bk_inl ?_
  refine q_iret rfl rfl ?_
  exact K c_11 y_14 hI_12 (fun a j hm => (hF_13 a j (by omega)).trans ((up_b (by omega)).trans ((up_b (by omega)).trans ((up_b (by omega)).trans ((up_b (by omega)).trans ((up_b (by omega)).trans ((up_b (by omega)).trans ((up_b (by omega)).trans (up_b (by omega)))))))))) ⟨by omega, by omega⟩

set_option maxRecDepth 100000 in
set_option maxHeartbeats 4000000 in
theorem s_196 {sc : List Int32} {e : Int} {d u P Q : Nat} {c : ME} {a1 : Int} {Z : AR → Prop} (hI : Iv u e P Q c) (ha1 : 0 ≤ a1 ∧ a1 ≤ 5) (K : ∀ (c2 : ME) (y : Int), Iv u e P Q c2 → (∀ (a : Nat) (j : Int), ¬ (a = 54 ∨ a = 55) → c2 a j = c a j) → 0 ≤ y ∧ y ≤ 99 → Z (.inl (some (vi y)), Wd P Q P P c2, 0, 0)) : Wp sc (d + 11) 196 0 [(0, .ref 41), (1, vi a1)] [] (Wd P Q P P c) 0 0 Z := by
  have hP := iv_P hI
  have hQ := iv_Q hI
  refine q_aload_n rfl rfl ?_
  refine q_aload_n rfl rfl ?_
  refine v_gr (t := 59) rfl rfl rfl (by decide) rfl ?_
  refine q_iconst rfl ?_
  refine q_iload_n rfl rfl ?_
  refine v_imul (v := 4 * a1) rfl (by omega) ?_
  have h_1 := ir_59_g hI (j := 4 * a1) (by omega)
  refine v_ia (v := c 59 (4 * a1)) rfl rfl (by decide) (by decide) (by omega) rfl ?_
  refine q_aload_n rfl rfl ?_
  refine v_gr (t := 59) rfl rfl rfl (by decide) rfl ?_
  refine q_iconst rfl ?_
  refine q_iload_n rfl rfl ?_
  refine v_imul (v := 4 * a1) rfl (by omega) ?_
  refine q_iconst rfl ?_
  refine v_iadd (v := 4 * a1 + 1) rfl (by omega) ?_
  have h_2 := ir_59_g hI (j := 4 * a1 + 1) (by omega)
  refine v_ia (v := c 59 (4 * a1 + 1)) rfl rfl (by decide) (by decide) (by omega) rfl ?_
  refine q_aload_n rfl rfl ?_
  refine v_gr (t := 59) rfl rfl rfl (by decide) rfl ?_
  refine q_iconst rfl ?_
  refine q_iload_n rfl rfl ?_
  refine v_imul (v := 4 * a1) rfl (by omega) ?_
  refine q_iconst rfl ?_
  refine v_iadd (v := 4 * a1 + 2) rfl (by omega) ?_
  have h_3 := ir_59_g hI (j := 4 * a1 + 2) (by omega)
  refine v_ia (v := c 59 (4 * a1 + 2)) rfl rfl (by decide) (by decide) (by omega) rfl ?_
  refine q_aload_n rfl rfl ?_
  refine v_gr (t := 59) rfl rfl rfl (by decide) rfl ?_
  refine q_iconst rfl ?_
  refine q_iload_n rfl rfl ?_
  refine v_imul (v := 4 * a1) rfl (by omega) ?_
  refine q_iconst rfl ?_
  refine v_iadd (v := 4 * a1 + 3) rfl (by omega) ?_
  have h_4 := ir_59_g hI (j := 4 * a1 + 3) (by omega)
  refine v_ia (v := c 59 (4 * a1 + 3)) rfl rfl (by decide) (by decide) (by omega) rfl ?_
  refine q_aload_n rfl rfl ?_
  refine v_gr (t := 59) rfl rfl rfl (by decide) rfl ?_
  refine v_bip rfl (by decide) ?_
  refine q_iload_n rfl rfl ?_
  refine v_iadd (v := a1 + 24) rfl (by omega) ?_
  have h_5 := ir_59 hI (a1 + 24)
  refine v_ia (v := c 59 (a1 + 24)) rfl rfl (by decide) (by decide) (by omega) rfl ?_
  refine q_aload_n rfl rfl ?_
  refine v_gr (t := 59) rfl rfl rfl (by decide) rfl ?_
  refine v_bip rfl (by decide) ?_
  have h_6 := ir_59 hI 34
  refine v_ia (v := c 59 34) rfl rfl (by decide) (by decide) (by decide) rfl ?_
  refine q_iload_n rfl rfl ?_
  refine v_cv rfl rfl rfl rfl (by decide) ⟨⟨rfl, rfl⟩, by decide, rfl⟩ (Nat.le_of_ble_eq_true rfl) (Nat.le_of_ble_eq_true rfl) (s_195 (a1 := c 59 (4 * a1)) (a2 := c 59 (4 * a1 + 1)) (a3 := c 59 (4 * a1 + 2)) (a4 := c 59 (4 * a1 + 3)) (a5 := c 59 (a1 + 24)) (a6 := c 59 34) (a7 := a1) hI (show 0 ≤ c 59 (4 * a1) ∧ c 59 (4 * a1) ≤ 9999 from by omega) (show 0 ≤ c 59 (4 * a1 + 1) ∧ c 59 (4 * a1 + 1) ≤ 9999 from by omega) (show 0 ≤ c 59 (4 * a1 + 2) ∧ c 59 (4 * a1 + 2) ≤ 9999 from by omega) (show 0 ≤ c 59 (4 * a1 + 3) ∧ c 59 (4 * a1 + 3) ≤ 9999 from by omega) (show (-2147483648) ≤ c 59 (a1 + 24) ∧ c 59 (a1 + 24) ≤ 2147483647 from by omega) (show (-2147483648) ≤ c 59 34 ∧ c 59 34 ≤ 2147483647 from by omega) (show (-2147483648) ≤ a1 ∧ a1 ≤ 2147483647 from by omega) (fun c_7 y_10 hI_8 hF_9 hy_10 => ?_))
  refine bk_inl ?_
  refine q_iret rfl rfl ?_
  exact K c_7 y_10 hI_8 (fun a j hm => hF_9 a j (by omega)) ⟨by omega, by omega⟩

set_option maxRecDepth 100000 in
set_option maxHeartbeats 4000000 in
theorem s_197 {sc : List Int32} {e : Int} {d u P Q : Nat} {c : ME} {a1 : Int} {Z : AR → Prop} (hI : Iv u e P Q c) (ha1 : 0 ≤ a1 ∧ a1 ≤ 5) (K : ∀ (c2 : ME) (y : Int), Iv u e P Q c2 → (∀ (a : Nat) (j : Int), ¬ (a = 54 ∨ a = 55) → c2 a j = c a j) → 0 ≤ y ∧ y ≤ 1 → Z (.inl (some (vi y)), Wd P Q P P c2, 0, 0)) : Wp sc (d + 12) 197 0 [(0, .ref 41), (1, vi a1)] [] (Wd P Q P P c) 0 0 Z := by
  have hP := iv_P hI
  have hQ := iv_Q hI
  refine q_aload_n rfl rfl ?_
  refine q_iload_n rfl rfl ?_
  have h_1 := ir_59_g hI (j := 4 * a1) (by omega)
  have h_2 := ir_59_g hI (j := 4 * a1 + 1) (by omega)
  have h_3 := ir_59_g hI (j := 4 * a1 + 2) (by omega)
  have h_4 := ir_59_g hI (j := 4 * a1 + 3) (by omega)
  refine v_cv rfl rfl rfl rfl (by decide) ⟨⟨rfl, rfl⟩, by decide, rfl⟩ (Nat.le_of_ble_eq_true rfl) (Nat.le_of_ble_eq_true rfl) (s_187 (v1 := c 59 (4 * a1)) (v2 := c 59 (4 * a1 + 1)) (v3 := c 59 (4 * a1 + 2)) (v4 := c 59 (4 * a1 + 3)) (r := c 59 (4 * a1 + 1) + c 59 (4 * a1 + 2) + c 59 (4 * a1 + 3) + c 59 (4 * a1)) (a1 := a1) hI (show 0 ≤ a1 ∧ a1 ≤ 5 from by omega) (rfl) (rfl) (rfl) (rfl) (by omega) ?_)
  refine bk_inl ?_
  by_cases h_5 : c 59 (4 * a1 + 1) + c 59 (4 * a1 + 2) + c 59 (4 * a1 + 3) + c 59 (4 * a1) ≤ 0
  · refine v_if_le_t (t := 22) rfl (by decide) (by omega) ?_
    refine q_iconst rfl ?_
    refine v_zret rfl rfl (by omega) ?_
    exact K c 0 hI (fun a j hm => rfl) ⟨by decide, by decide⟩
  · refine v_if_le_f (t := 22) rfl (by decide) (by omega) ?_
    refine q_aload_n rfl rfl ?_
    refine q_iload_n rfl rfl ?_
    refine v_cv rfl rfl rfl rfl (by decide) ⟨⟨rfl, rfl⟩, by decide, rfl⟩ (Nat.le_of_ble_eq_true rfl) (Nat.le_of_ble_eq_true rfl) (s_196 (a1 := a1) hI (show 0 ≤ a1 ∧ a1 ≤ 5 from by omega) (fun c_6 y_9 hI_7 hF_8 hy_9 => ?_))
    refine bk_inl ?_
    refine v_bip rfl (by decide) ?_
    by_cases h_10 : y_9 < 50
    · refine v_ic_lt_t (t := 22) rfl (by decide) (by omega) ?_
      refine q_iconst rfl ?_
      refine v_zret rfl rfl (by omega) ?_
      exact K c_6 0 hI_7 (fun a j hm => hF_8 a j (by omega)) ⟨by decide, by decide⟩
    · refine v_ic_lt_f (t := 22) rfl (by decide) (by omega) ?_
      refine q_iconst rfl ?_
      refine q_goto (t := 23) rfl (by decide) ?_
      refine v_zret rfl rfl (by omega) ?_
      exact K c_6 1 hI_7 (fun a j hm => hF_8 a j (by omega)) ⟨by decide, by decide⟩

set_option maxRecDepth 100000 in
set_option maxHeartbeats 4000000 in
theorem s_198 {sc : List Int32} {d P Q : Nat} {c : ME} {a1 : Int} {Z : AR → Prop} (hI : Iv 0 (-1) P Q c) (ha1 : 0 ≤ a1 ∧ a1 ≤ 5) (K : ∀ (c2 : ME) (y : Int), Iv 0 (-1) P Q c2 → (∀ (a : Nat) (j : Int), ¬ (a = 59 ∨ a = 54 ∨ a = 55) → c2 a j = c a j) → 0 ≤ y ∧ y ≤ 1 → Z (.inl (some (vi y)), Wd P Q P P c2, 0, 0)) : Wp sc (d + 13) 198 0 [(0, .ref 41), (1, vi a1)] [] (Wd P Q P P c) 0 0 Z := by
  have hP := iv_P hI
  have hQ := iv_Q hI
  have hIo : Iv 59 (-1) P Q c := iv_open hI
  have hsum_1 := ir_59_r hI (by decide) (j := a1) (by omega)
  have h_2 := ir_59_g hI (j := 4 * a1) (by omega)
  have h_3 := ir_59_g hI (j := 4 * a1 + 1) (by omega)
  have h_4 := ir_59_g hI (j := 4 * a1 + 2) (by omega)
  have h_5 := ir_59_g hI (j := 4 * a1 + 3) (by omega)
  refine q_aload_n rfl rfl ?_
  refine q_iload_n rfl rfl ?_
  refine v_cv rfl rfl rfl rfl (by decide) ⟨⟨rfl, rfl⟩, by decide, rfl⟩ (Nat.le_of_ble_eq_true rfl) (Nat.le_of_ble_eq_true rfl) (s_197 (a1 := a1) hIo (show 0 ≤ a1 ∧ a1 ≤ 5 from by omega) (fun c_6 y_9 hI_7 hF_8 hy_9 => ?_))
  refine bk_inl ?_
  by_cases h_10 : y_9 ≠ 0
  · refine v_if_ne_t (t := 10) rfl (by decide) (by omega) ?_
    refine q_aload_n rfl rfl ?_
    refine v_gr (t := 59) rfl rfl rfl (by decide) rfl ?_
    refine v_bip rfl (by decide) ?_
    refine q_dup2 rfl ⟨rfl, rfl⟩ ?_
    have h_11 := ir_59 hI 36
    refine v_ia (v := c 59 36) rfl rfl (by decide) (by decide) (by decide) (hF_8 59 36 (by omega)) ?_
    refine q_aload_n rfl rfl ?_
    refine q_iload_n rfl rfl ?_
    refine v_cv rfl rfl rfl rfl (by decide) ⟨⟨rfl, rfl⟩, by decide, rfl⟩ (Nat.le_of_ble_eq_true rfl) (Nat.le_of_ble_eq_true rfl) (s_187 (v1 := c 59 (4 * a1)) (v2 := c 59 (4 * a1 + 1)) (v3 := c 59 (4 * a1 + 2)) (v4 := c 59 (4 * a1 + 3)) (r := c 59 (4 * a1 + 1) + c 59 (4 * a1 + 2) + c 59 (4 * a1 + 3) + c 59 (4 * a1)) (a1 := a1) hI_7 (show 0 ≤ a1 ∧ a1 ≤ 5 from by omega) ((hF_8 59 (4 * a1) (by omega))) ((hF_8 59 (4 * a1 + 1) (by omega))) ((hF_8 59 (4 * a1 + 2) (by omega))) ((hF_8 59 (4 * a1 + 3) (by omega))) (by omega) ?_)
    refine bk_inl ?_
    refine v_bip rfl (by decide) ?_
    refine v_idiv (v := ((c 59 (4 * a1 + 1) + c 59 (4 * a1 + 2) + c 59 (4 * a1 + 3) + c 59 (4 * a1)) / 10)) rfl (by omega) rfl ?_
    refine v_iadd (v := ((c 59 (4 * a1 + 1) + c 59 (4 * a1 + 2) + c 59 (4 * a1 + 3) + c 59 (4 * a1)) / 10) + c 59 36) rfl (by omega) ?_
    refine v_nrm (fun y_12 hy_12 => ?_)
    refine v_is rfl rfl (by decide) (by decide) (by decide) ?_
    refine q_aload_n rfl rfl ?_
    refine q_iload_n rfl rfl ?_
    have hI_13 := iw_row (a := 59) (j := 36) (v := y_12) hI_7 (by omega) (Or.inr (by omega)) ⟨by omega, by omega, by omega⟩
    refine v_cv rfl rfl rfl rfl (by decide) ⟨⟨rfl, rfl⟩, by decide, rfl⟩ (Nat.le_of_ble_eq_true rfl) (Nat.le_of_ble_eq_true rfl) (s_192 (a1 := a1) hI_13 (show 0 ≤ a1 ∧ a1 ≤ 5 from by omega) (fun c_14 hI_15 hF_16 h_17 => ?_))
    refine bk_inl ?_
    have h_18 := ir_59_g hI_15 (j := 4 * a1 + 1) (by omega)
    have h_19 := ir_59_g hI_15 (j := 4 * a1 + 2) (by omega)
    have h_20 := ir_59_g hI_15 (j := 4 * a1 + 3) (by omega)
    have h_21 := ir_59_g hI_15 (j := 4 * a1) (by omega)
    refine q_iconst rfl ?_
    refine v_zret rfl rfl (by omega) ?_
    have hr_22 : ∀ j : Int, rs 59 j → c_14 59 j + c_14 59 (j + 1) + c_14 59 (j + 2) + c_14 59 (j + 3) ≤ 9999 := by
      intro j9 hj9
      obtain ⟨k9, rfl, hk9⟩ := rs_59 hj9
      by_cases e_23 : k9 = a1
      · skip
        have h_24 : c_14 59 (4 * k9) = c_14 59 (4 * a1) := (congrArg (c_14 59) (show 4 * k9 = 4 * a1 from by omega))
        have h_25 : c_14 59 (4 * k9 + 1) = c_14 59 (4 * a1 + 1) := (congrArg (c_14 59) (show 4 * k9 + 1 = 4 * a1 + 1 from by omega))
        have h_26 : c_14 59 (4 * k9 + 2) = c_14 59 (4 * a1 + 2) := (congrArg (c_14 59) (show 4 * k9 + 2 = 4 * a1 + 2 from by omega))
        have h_27 : c_14 59 (4 * k9 + 3) = c_14 59 (4 * a1 + 3) := (congrArg (c_14 59) (show 4 * k9 + 3 = 4 * a1 + 3 from by omega))
        omega
      have h_28 := iv_r hI 59 (4 * k9) hj9 (by omega)
      have h_29 := ir_59_g hI (j := 4 * k9) (by omega)
      have h_30 : c_14 59 (4 * k9) = c 59 (4 * k9) := ((hF_16 59 (4 * k9) (by omega)).trans ((up_n (by omega)).trans (hF_8 59 (4 * k9) (by omega))))
      have h_31 := ir_59_g hI (j := 4 * k9 + 1) (by omega)
      have h_32 : c_14 59 (4 * k9 + 1) = c 59 (4 * k9 + 1) := ((hF_16 59 (4 * k9 + 1) (by omega)).trans ((up_n (by omega)).trans (hF_8 59 (4 * k9 + 1) (by omega))))
      have h_33 := ir_59_g hI (j := 4 * k9 + 2) (by omega)
      have h_34 : c_14 59 (4 * k9 + 2) = c 59 (4 * k9 + 2) := ((hF_16 59 (4 * k9 + 2) (by omega)).trans ((up_n (by omega)).trans (hF_8 59 (4 * k9 + 2) (by omega))))
      have h_35 := ir_59_g hI (j := 4 * k9 + 3) (by omega)
      have h_36 : c_14 59 (4 * k9 + 3) = c 59 (4 * k9 + 3) := ((hF_16 59 (4 * k9 + 3) (by omega)).trans ((up_n (by omega)).trans (hF_8 59 (4 * k9 + 3) (by omega))))
      omega
    have hI_37 := iv_close hI_15 hr_22
    exact K c_14 1 hI_37 (fun a j hm => (hF_16 a j (by omega)).trans ((up_b (by omega)).trans (hF_8 a j (by omega)))) ⟨by decide, by decide⟩
  · refine v_if_ne_f (t := 10) rfl (by decide) (by omega) ?_
    refine q_iconst rfl ?_
    refine v_zret rfl rfl (by omega) ?_
    have hr_38 : ∀ j : Int, rs 59 j → c_6 59 j + c_6 59 (j + 1) + c_6 59 (j + 2) + c_6 59 (j + 3) ≤ 9999 := by
      intro j9 hj9
      obtain ⟨k9, rfl, hk9⟩ := rs_59 hj9
      by_cases e_39 : k9 = a1
      · skip
        have h_40 : c_6 59 (4 * k9) = c 59 (4 * a1) := (congrArg (c_6 59) (show 4 * k9 = 4 * a1 from by omega)).trans (hF_8 59 (4 * a1) (by omega))
        have h_41 : c_6 59 (4 * k9 + 1) = c 59 (4 * a1 + 1) := (congrArg (c_6 59) (show 4 * k9 + 1 = 4 * a1 + 1 from by omega)).trans (hF_8 59 (4 * a1 + 1) (by omega))
        have h_42 : c_6 59 (4 * k9 + 2) = c 59 (4 * a1 + 2) := (congrArg (c_6 59) (show 4 * k9 + 2 = 4 * a1 + 2 from by omega)).trans (hF_8 59 (4 * a1 + 2) (by omega))
        have h_43 : c_6 59 (4 * k9 + 3) = c 59 (4 * a1 + 3) := (congrArg (c_6 59) (show 4 * k9 + 3 = 4 * a1 + 3 from by omega)).trans (hF_8 59 (4 * a1 + 3) (by omega))
        omega
      have h_44 := iv_r hI 59 (4 * k9) hj9 (by omega)
      have h_45 := ir_59_g hI (j := 4 * k9) (by omega)
      have h_46 : c_6 59 (4 * k9) = c 59 (4 * k9) := (hF_8 59 (4 * k9) (by omega))
      have h_47 := ir_59_g hI (j := 4 * k9 + 1) (by omega)
      have h_48 : c_6 59 (4 * k9 + 1) = c 59 (4 * k9 + 1) := (hF_8 59 (4 * k9 + 1) (by omega))
      have h_49 := ir_59_g hI (j := 4 * k9 + 2) (by omega)
      have h_50 : c_6 59 (4 * k9 + 2) = c 59 (4 * k9 + 2) := (hF_8 59 (4 * k9 + 2) (by omega))
      have h_51 := ir_59_g hI (j := 4 * k9 + 3) (by omega)
      have h_52 : c_6 59 (4 * k9 + 3) = c 59 (4 * k9 + 3) := (hF_8 59 (4 * k9 + 3) (by omega))
      omega
    have hI_53 := iv_close hI_7 hr_38
    exact K c_6 0 hI_53 (fun a j hm => hF_8 a j (by omega)) ⟨by decide, by decide⟩

set_option maxRecDepth 100000 in
set_option maxHeartbeats 4000000 in
theorem s_199_l {sc : List Int32} {e : Int} {d u P Q : Nat} {c : ME} {Z : AR → Prop} (hI : Iv u e P Q c)  (K : ∀ (c2 : ME), Iv u e P Q c2 → (∀ (a : Nat) (j : Int), ¬ (a = 59) → c2 a j = c a j) → Z (.inl (none), Wd P Q P P c2, 0, 0)) : ∀ n : Nat, (∀ (c2 : ME) (v1 : Int), Iv u e P Q c2 → (∀ (a : Nat) (j : Int), ¬ (a = 59) → c2 a j = c a j) → 0 ≤ v1 ∧ v1 ≤ 6 → 13 - 2 * v1 < (n : Int) → Wp sc (d + 8) 199 2 [(0, .ref 41), (1, vi v1)] [] (Wd P Q P P c2) 0 0 Z)
  | 0 => by intro c2 v1 hI2 hF hv1 hm9; have hP := iv_P hI; have hQ := iv_Q hI; exfalso; omega
  | n + 1 => by
    have hP := iv_P hI
    have hQ := iv_Q hI
    have ih := s_199_l (sc := sc) (d := d) hI K n
    intro c2 v1 hI2 hF hv1 hm9
    refine q_iload_n rfl rfl ?_
    refine q_aload_n rfl rfl ?_
    have h_1 := ir_41_20 hI
    refine v_gi (z := 20) (v := c 41 20) rfl rfl rfl (by decide) rfl rfl (hF 41 20 (by omega)) ?_
    by_cases h_2 : v1 ≥ c 41 20
    · refine v_ic_ge_t (t := 41) rfl (by decide) (by omega) ?_
      refine q_aload_n rfl rfl ?_
      refine v_gr (t := 59) rfl rfl rfl (by decide) rfl ?_
      refine v_bip rfl (by decide) ?_
      refine q_dup2 rfl ⟨rfl, rfl⟩ ?_
      have h_3 := ir_59 hI2 34
      refine v_ia (v := c2 59 34) rfl rfl (by decide) (by decide) (by decide) rfl ?_
      refine q_iconst rfl ?_
      refine v_iadd (v := c2 59 34 + 1) rfl (by omega) ?_
      refine v_nrm (fun y_4 hy_4 => ?_)
      refine v_is rfl rfl (by decide) (by decide) (by decide) ?_
      refine q_vret rfl rfl ?_
      have hI_5 := iw_row (a := 59) (j := 34) (v := y_4) hI2 (by omega) (Or.inr (by omega)) ⟨by omega, by omega, by omega⟩
      exact K (up c2 59 34 y_4) hI_5 (fun a j hm => (up_b (by omega)).trans (hF a j (by omega)))
    · refine v_ic_ge_f (t := 41) rfl (by decide) (by omega) ?_
      refine q_aload_n rfl rfl ?_
      refine v_gr (t := 59) rfl rfl rfl (by decide) rfl ?_
      refine v_bip rfl (by decide) ?_
      refine q_iload_n rfl rfl ?_
      refine v_iadd (v := v1 + 24) rfl (by omega) ?_
      refine q_dup2 rfl ⟨rfl, rfl⟩ ?_
      have h_6 := ir_59 hI2 (v1 + 24)
      refine v_ia (v := c2 59 (v1 + 24)) rfl rfl (by decide) (by decide) (by omega) rfl ?_
      refine q_aload_n rfl rfl ?_
      refine q_iload_n rfl rfl ?_
      have h_7 := ir_59_g hI2 (j := 4 * v1) (by omega)
      have h_8 := ir_59_g hI2 (j := 4 * v1 + 1) (by omega)
      have h_9 := ir_59_g hI2 (j := 4 * v1 + 2) (by omega)
      have h_10 := ir_59_g hI2 (j := 4 * v1 + 3) (by omega)
      refine v_cv rfl rfl rfl rfl (by decide) ⟨⟨rfl, rfl⟩, by decide, rfl⟩ (Nat.le_of_ble_eq_true rfl) (Nat.le_of_ble_eq_true rfl) (s_187 (v1 := c2 59 (4 * v1)) (v2 := c2 59 (4 * v1 + 1)) (v3 := c2 59 (4 * v1 + 2)) (v4 := c2 59 (4 * v1 + 3)) (r := c2 59 (4 * v1 + 1) + c2 59 (4 * v1 + 2) + c2 59 (4 * v1 + 3) + c2 59 (4 * v1)) (a1 := v1) hI2 (show 0 ≤ v1 ∧ v1 ≤ 5 from by omega) (rfl) (rfl) (rfl) (rfl) (by omega) ?_)
      refine bk_inl ?_
      by_cases h_11 : c2 59 (4 * v1 + 1) + c2 59 (4 * v1 + 2) + c2 59 (4 * v1 + 3) + c2 59 (4 * v1) ≤ 0
      · refine v_if_le_t (t := 32) rfl (by decide) (by omega) ?_
        refine q_iconst rfl ?_
        refine v_iadd (v := c2 59 (v1 + 24)) rfl (by omega) ?_
        refine v_is rfl rfl (by decide) (by decide) (by omega) ?_
        refine v_iinc (v := v1 + 1) rfl rfl (by decide) (by omega) ?_
        refine q_goto (t := 2) rfl (by decide) ?_
        have hI_12 := iw_row (a := 59) (j := v1 + 24) (v := c2 59 (v1 + 24)) hI2 (by omega) (Or.inr (by omega)) ⟨by omega, by omega, by omega⟩
        refine Wp_ls [(0, .ref 41), (1, vi (v1 + 1))] (lsub_cons rfl (lsub_cons rfl lsub_nil)) ?_
        exact ih (up c2 59 (v1 + 24) (c2 59 (v1 + 24))) (v1 + 1) hI_12 (fun a j hm => (up_b (by omega)).trans (hF a j (by omega))) ⟨by omega, by omega⟩ (by omega)
      · refine v_if_le_f (t := 32) rfl (by decide) (by omega) ?_
        refine q_iconst rfl ?_
        refine q_goto (t := 33) rfl (by decide) ?_
        refine v_iadd (v := c2 59 (v1 + 24) + 1) rfl (by omega) ?_
        refine v_nrm (fun y_13 hy_13 => ?_)
        refine v_is rfl rfl (by decide) (by decide) (by omega) ?_
        refine v_iinc (v := v1 + 1) rfl rfl (by decide) (by omega) ?_
        refine q_goto (t := 2) rfl (by decide) ?_
        have hI_14 := iw_row (a := 59) (j := v1 + 24) (v := y_13) hI2 (by omega) (Or.inr (by omega)) ⟨by omega, by omega, by omega⟩
        refine Wp_ls [(0, .ref 41), (1, vi (v1 + 1))] (lsub_cons rfl (lsub_cons rfl lsub_nil)) ?_
        exact ih (up c2 59 (v1 + 24) y_13) (v1 + 1) hI_14 (fun a j hm => (up_b (by omega)).trans (hF a j (by omega))) ⟨by omega, by omega⟩ (by omega)
set_option maxRecDepth 100000 in
set_option maxHeartbeats 4000000 in
theorem s_199 {sc : List Int32} {e : Int} {d u P Q : Nat} {c : ME} {Z : AR → Prop} (hI : Iv u e P Q c)  (K : ∀ (c2 : ME), Iv u e P Q c2 → (∀ (a : Nat) (j : Int), ¬ (a = 59) → c2 a j = c a j) → Z (.inl (none), Wd P Q P P c2, 0, 0)) : Wp sc (d + 8) 199 0 [(0, .ref 41)] [] (Wd P Q P P c) 0 0 Z := by
  have hP := iv_P hI
  have hQ := iv_Q hI
  refine q_iconst rfl ?_
  refine q_istore_n rfl (by decide) ?_
  refine Wp_ls [(0, .ref 41), (1, vi 0)] (lsub_cons rfl (lsub_cons rfl lsub_nil)) ?_
  exact (s_199_l (sc := sc) (d := d) hI K 16) c 0 hI (fun a j hm => rfl) ⟨by decide, by decide⟩ (by omega)

set_option maxRecDepth 100000 in
set_option maxHeartbeats 4000000 in
theorem s_200 {sc : List Int32} {d P Q : Nat} {c : ME} {t : Int} {Z : AR → Prop} (hI : Iv 0 (-1) P Q c) (ht : 0 ≤ t ∧ t ≤ 49) (K : ∀ (c2 : ME) (y : Int), Iv 0 (-1) P Q c2 → (∀ (a : Nat) (j : Int), ¬ (a = 59 ∨ a = 54 ∨ a = 55) → c2 a j = c a j) → 0 ≤ y ∧ y ≤ 1 → Z (.inl (some (vi y)), Wd P Q P P c2, 0, 0)) : Wp sc (d + 14) 200 0 [(0, .ref 41), (1, vi (5 * t))] [] (Wd P Q P P c) 0 0 Z := by
  have hP := iv_P hI
  have hQ := iv_Q hI
  have h_1 := ir_57 hI (5 * t)
  have h_2 := ir_57 hI (5 * t + 1)
  have h_3 := ir_57 hI (5 * t + 2)
  have h_4 := ir_57 hI (5 * t + 3)
  have h_5 := ir_57 hI (5 * t + 4)
  have hso := ir_so (a := 57) hI (by unfold Sg; omega) (t := t) (by omega) (by omega)
  refine q_aload_n rfl rfl ?_
  refine v_gr (t := 57) rfl rfl rfl (by decide) rfl ?_
  refine q_iload_n rfl rfl ?_
  refine v_ia (v := c 57 (5 * t)) rfl rfl (by decide) (by decide) (by omega) rfl ?_
  refine q_istore_n rfl (by decide) ?_
  refine q_aload_n rfl rfl ?_
  refine v_gr (t := 57) rfl rfl rfl (by decide) rfl ?_
  refine q_iload_n rfl rfl ?_
  refine q_iconst rfl ?_
  refine v_iadd (v := 5 * t + 1) rfl (by omega) ?_
  refine v_ia (v := c 57 (5 * t + 1)) rfl rfl (by decide) (by decide) (by omega) rfl ?_
  refine q_istore_n rfl (by decide) ?_
  refine q_aload_n rfl rfl ?_
  refine v_gr (t := 57) rfl rfl rfl (by decide) rfl ?_
  refine q_iload_n rfl rfl ?_
  refine q_iconst rfl ?_
  refine v_iadd (v := 5 * t + 2) rfl (by omega) ?_
  refine v_ia (v := c 57 (5 * t + 2)) rfl rfl (by decide) (by decide) (by omega) rfl ?_
  refine q_istore rfl (by decide) ?_
  refine q_aload_n rfl rfl ?_
  refine v_gr (t := 57) rfl rfl rfl (by decide) rfl ?_
  refine q_iload_n rfl rfl ?_
  refine q_iconst rfl ?_
  refine v_iadd (v := 5 * t + 3) rfl (by omega) ?_
  refine v_ia (v := c 57 (5 * t + 3)) rfl rfl (by decide) (by decide) (by omega) rfl ?_
  refine q_istore rfl (by decide) ?_
  refine q_iload_n rfl rfl ?_
  by_cases h_6 : c 57 (5 * t) ≠ 0
  · refine v_if_ne_t (t := 48) rfl (by decide) (by omega) ?_
    refine q_iload_n rfl rfl ?_
    refine q_iconst rfl ?_
    by_cases h_7 : c 57 (5 * t) ≠ 1
    · refine v_ic_ne_t (t := 71) rfl (by decide) (by omega) ?_
      refine q_iload_n rfl rfl ?_
      refine q_iconst rfl ?_
      by_cases h_8 : c 57 (5 * t) ≠ 2
      · refine v_ic_ne_t (t := 89) rfl (by decide) (by omega) ?_
        refine q_iload_n rfl rfl ?_
        refine q_iconst rfl ?_
        by_cases h_9 : c 57 (5 * t) ≠ 3
        · refine v_ic_ne_t (t := 104) rfl (by decide) (by omega) ?_
          refine q_iload_n rfl rfl ?_
          refine q_iconst rfl ?_
          by_cases h_10 : c 57 (5 * t) ≠ 5
          · refine v_ic_ne_t (t := 115) rfl (by decide) (by omega) ?_
            refine q_iload_n rfl rfl ?_
            refine v_bip rfl (by decide) ?_
            by_cases h_11 : c 57 (5 * t) ≠ 6
            · refine v_ic_ne_t (t := 136) rfl (by decide) (by omega) ?_
              refine q_iload_n rfl rfl ?_
              refine q_iconst rfl ?_
              by_cases h_12 : c 57 (5 * t) ≠ 4
              · refine v_ic_ne_t (t := 164) rfl (by decide) (by omega) ?_
                refine q_aload_n rfl rfl ?_
                refine v_cv rfl rfl rfl rfl (by decide) ⟨⟨rfl, rfl⟩, by decide, rfl⟩ (Nat.le_of_ble_eq_true rfl) (Nat.le_of_ble_eq_true rfl) (s_199 hI (fun c_13 hI_14 hF_15 => ?_))
                refine bk_inl ?_
                refine q_iconst rfl ?_
                refine v_zret rfl rfl (by omega) ?_
                exact K c_13 1 hI_14 (fun a j hm => hF_15 a j (by omega)) ⟨by decide, by decide⟩
              · refine v_ic_ne_f (t := 164) rfl (by decide) (by omega) ?_
                refine q_aload_n rfl rfl ?_
                refine v_gr (t := 59) rfl rfl rfl (by decide) rfl ?_
                refine v_bip rfl (by decide) ?_
                refine q_iload_n rfl rfl ?_
                refine v_iadd (v := c 57 (5 * t + 1) + 30) rfl (by omega) ?_
                refine q_iconst rfl ?_
                refine q_aload_n rfl rfl ?_
                refine v_gr (t := 59) rfl rfl rfl (by decide) rfl ?_
                refine v_bip rfl (by decide) ?_
                refine q_iload_n rfl rfl ?_
                refine v_iadd (v := c 57 (5 * t + 1) + 30) rfl (by omega) ?_
                have h_16 := ir_59 hI (c 57 (5 * t + 1) + 30)
                refine v_ia (v := c 59 (c 57 (5 * t + 1) + 30)) rfl rfl (by decide) (by decide) (by omega) rfl ?_
                refine v_isub (v := 1 - c 59 (c 57 (5 * t + 1) + 30)) rfl (by omega) ?_
                refine v_nrm (fun y_17 hy_17 => ?_)
                refine v_is rfl rfl (by decide) (by decide) (by omega) ?_
                refine q_goto (t := 168) rfl (by decide) ?_
                refine q_iconst rfl ?_
                refine v_zret rfl rfl (by omega) ?_
                have hI_18 := iw_row (a := 59) (j := c 57 (5 * t + 1) + 30) (v := y_17) hI (by omega) (Or.inr (by omega)) ⟨by omega, by omega, by omega⟩
                exact K (up c 59 (c 57 (5 * t + 1) + 30) y_17) 1 hI_18 (fun a j hm => up_b (by omega)) ⟨by decide, by decide⟩
            · refine v_ic_ne_f (t := 136) rfl (by decide) (by omega) ?_
              refine q_aload_n rfl rfl ?_
              refine v_gr (t := 59) rfl rfl rfl (by decide) rfl ?_
              refine v_bip rfl (by decide) ?_
              have h_19 := ir_59 hI 34
              refine v_ia (v := c 59 34) rfl rfl (by decide) (by decide) (by decide) rfl ?_
              refine v_sip rfl (by decide) ?_
              by_cases h_20 : c 59 34 < 400
              · refine v_ic_lt_t (t := 136) rfl (by decide) (by omega) ?_
                refine q_iload_n rfl rfl ?_
                refine q_iconst rfl ?_
                refine v_ic_ne_t (t := 164) rfl (by decide) (by omega) ?_
                refine q_aload_n rfl rfl ?_
                refine v_cv rfl rfl rfl rfl (by decide) ⟨⟨rfl, rfl⟩, by decide, rfl⟩ (Nat.le_of_ble_eq_true rfl) (Nat.le_of_ble_eq_true rfl) (s_199 hI (fun c_21 hI_22 hF_23 => ?_))
                refine bk_inl ?_
                refine q_iconst rfl ?_
                refine v_zret rfl rfl (by omega) ?_
                exact K c_21 1 hI_22 (fun a j hm => hF_23 a j (by omega)) ⟨by decide, by decide⟩
              · refine v_ic_lt_f (t := 136) rfl (by decide) (by omega) ?_
                refine q_iconst rfl ?_
                refine v_zret rfl rfl (by omega) ?_
                exact K c 0 hI (fun a j hm => rfl) ⟨by decide, by decide⟩
          · refine v_ic_ne_f (t := 115) rfl (by decide) (by omega) ?_
            refine q_aload_n rfl rfl ?_
            refine q_iload_n rfl rfl ?_
            refine v_cv rfl rfl rfl rfl (by decide) ⟨⟨rfl, rfl⟩, by decide, rfl⟩ (Nat.le_of_ble_eq_true rfl) (Nat.le_of_ble_eq_true rfl) (s_198 (a1 := c 57 (5 * t + 1)) hI (show 0 ≤ c 57 (5 * t + 1) ∧ c 57 (5 * t + 1) ≤ 5 from by omega) (fun c_24 y_27 hI_25 hF_26 hy_27 => ?_))
            refine bk_inl ?_
            refine v_zret rfl rfl (by omega) ?_
            exact K c_24 y_27 hI_25 (fun a j hm => hF_26 a j (by omega)) ⟨by omega, by omega⟩
        · refine v_ic_ne_f (t := 104) rfl (by decide) (by omega) ?_
          refine q_aload_n rfl rfl ?_
          refine q_iload_n rfl rfl ?_
          refine q_iload rfl rfl ?_
          refine q_iload rfl rfl ?_
          refine v_cv rfl rfl rfl rfl (by decide) ⟨⟨rfl, rfl⟩, by decide, rfl⟩ (Nat.le_of_ble_eq_true rfl) (Nat.le_of_ble_eq_true rfl) (s_194 (a1 := c 57 (5 * t + 1)) (a2 := c 57 (5 * t + 2)) (a3 := c 57 (5 * t + 3)) hI (show 0 ≤ c 57 (5 * t + 1) ∧ c 57 (5 * t + 1) ≤ 5 from by omega) (show 0 ≤ c 57 (5 * t + 2) ∧ c 57 (5 * t + 2) ≤ 5 from by omega) (show 0 ≤ c 57 (5 * t + 3) ∧ c 57 (5 * t + 3) ≤ 99999 from by omega) (fun c_28 y_31 hI_29 hF_30 hy_31 => ?_))
          refine bk_inl ?_
          refine v_zret rfl rfl (by omega) ?_
          exact K c_28 y_31 hI_29 (fun a j hm => hF_30 a j (by omega)) ⟨by omega, by omega⟩
      · refine v_ic_ne_f (t := 89) rfl (by decide) (by omega) ?_
        refine q_aload_n rfl rfl ?_
        refine q_iload_n rfl rfl ?_
        refine q_iload rfl rfl ?_
        refine q_aload_n rfl rfl ?_
        refine q_iload_n rfl rfl ?_
        have h_32 := ir_59_g hI (j := 4 * c 57 (5 * t + 1)) (by omega)
        have h_33 := ir_59_g hI (j := 4 * c 57 (5 * t + 1) + 1) (by omega)
        have h_34 := ir_59_g hI (j := 4 * c 57 (5 * t + 1) + 2) (by omega)
        have h_35 := ir_59_g hI (j := 4 * c 57 (5 * t + 1) + 3) (by omega)
        refine v_cv rfl rfl rfl rfl (by decide) ⟨⟨rfl, rfl⟩, by decide, rfl⟩ (Nat.le_of_ble_eq_true rfl) (Nat.le_of_ble_eq_true rfl) (s_187 (v1 := c 59 (4 * c 57 (5 * t + 1))) (v2 := c 59 (4 * c 57 (5 * t + 1) + 1)) (v3 := c 59 (4 * c 57 (5 * t + 1) + 2)) (v4 := c 59 (4 * c 57 (5 * t + 1) + 3)) (r := c 59 (4 * c 57 (5 * t + 1) + 1) + c 59 (4 * c 57 (5 * t + 1) + 2) + c 59 (4 * c 57 (5 * t + 1) + 3) + c 59 (4 * c 57 (5 * t + 1))) (a1 := c 57 (5 * t + 1)) hI (show 0 ≤ c 57 (5 * t + 1) ∧ c 57 (5 * t + 1) ≤ 5 from by omega) ((congrArg (c 59) (show 4 * (c 57 (5 * t + 1)) = 4 * c 57 (5 * t + 1) from by omega))) ((congrArg (c 59) (show 4 * (c 57 (5 * t + 1)) + 1 = 4 * c 57 (5 * t + 1) + 1 from by omega))) ((congrArg (c 59) (show 4 * (c 57 (5 * t + 1)) + 2 = 4 * c 57 (5 * t + 1) + 2 from by omega))) ((congrArg (c 59) (show 4 * (c 57 (5 * t + 1)) + 3 = 4 * c 57 (5 * t + 1) + 3 from by omega))) (by omega) ?_)
        refine bk_inl ?_
        refine v_cv rfl rfl rfl rfl (by decide) ⟨⟨rfl, rfl⟩, by decide, rfl⟩ (Nat.le_of_ble_eq_true rfl) (Nat.le_of_ble_eq_true rfl) (s_194 (a1 := c 57 (5 * t + 1)) (a2 := c 57 (5 * t + 2)) (a3 := c 59 (4 * c 57 (5 * t + 1) + 1) + c 59 (4 * c 57 (5 * t + 1) + 2) + c 59 (4 * c 57 (5 * t + 1) + 3) + c 59 (4 * c 57 (5 * t + 1))) hI (show 0 ≤ c 57 (5 * t + 1) ∧ c 57 (5 * t + 1) ≤ 5 from by omega) (show 0 ≤ c 57 (5 * t + 2) ∧ c 57 (5 * t + 2) ≤ 5 from by omega) (show 0 ≤ c 59 (4 * c 57 (5 * t + 1) + 1) + c 59 (4 * c 57 (5 * t + 1) + 2) + c 59 (4 * c 57 (5 * t + 1) + 3) + c 59 (4 * c 57 (5 * t + 1)) ∧ c 59 (4 * c 57 (5 * t + 1) + 1) + c 59 (4 * c 57 (5 * t + 1) + 2) + c 59 (4 * c 57 (5 * t + 1) + 3) + c 59 (4 * c 57 (5 * t + 1)) ≤ 99999 from by omega) (fun c_36 y_39 hI_37 hF_38 hy_39 => ?_))
        refine bk_inl ?_
        refine v_zret rfl rfl (by omega) ?_
        exact K c_36 y_39 hI_37 (fun a j hm => hF_38 a j (by omega)) ⟨by omega, by omega⟩
    · refine v_ic_ne_f (t := 71) rfl (by decide) (by omega) ?_
      refine q_aload_n rfl rfl ?_
      refine q_iload_n rfl rfl ?_
      refine q_iload rfl rfl ?_
      refine q_iload rfl rfl ?_
      refine q_aload_n rfl rfl ?_
      refine v_gr (t := 57) rfl rfl rfl (by decide) rfl ?_
      refine q_iload_n rfl rfl ?_
      refine q_iconst rfl ?_
      refine v_iadd (v := 5 * t + 4) rfl (by omega) ?_
      refine v_ia (v := c 57 (5 * t + 4)) rfl rfl (by decide) (by decide) (by omega) rfl ?_
      refine v_cv rfl rfl rfl rfl (by decide) ⟨⟨rfl, rfl⟩, by decide, rfl⟩ (Nat.le_of_ble_eq_true rfl) (Nat.le_of_ble_eq_true rfl) (s_193 (a1 := c 57 (5 * t + 1)) (a2 := c 57 (5 * t + 2)) (a3 := c 57 (5 * t + 3)) (a4 := c 57 (5 * t + 4)) hI (show 0 ≤ c 57 (5 * t + 1) ∧ c 57 (5 * t + 1) ≤ 3 from by omega) (show 0 ≤ c 57 (5 * t + 2) ∧ c 57 (5 * t + 2) ≤ 5 from by omega) (show 0 ≤ c 57 (5 * t + 3) ∧ c 57 (5 * t + 3) ≤ 5 from by omega) (show 0 ≤ c 57 (5 * t + 4) ∧ c 57 (5 * t + 4) ≤ 5 from by omega) (fun c_40 y_43 hI_41 hF_42 hy_43 => ?_))
      refine bk_inl ?_
      refine v_zret rfl rfl (by omega) ?_
      exact K c_40 y_43 hI_41 (fun a j hm => hF_42 a j (by omega)) ⟨by omega, by omega⟩
  · refine v_if_ne_f (t := 48) rfl (by decide) (by omega) ?_
    refine q_aload_n rfl rfl ?_
    refine q_iload_n rfl rfl ?_
    refine q_iload rfl rfl ?_
    refine v_cv rfl rfl rfl rfl (by decide) ⟨⟨rfl, rfl⟩, by decide, rfl⟩ (Nat.le_of_ble_eq_true rfl) (Nat.le_of_ble_eq_true rfl) (s_188 (a1 := c 57 (5 * t + 1)) (a2 := c 57 (5 * t + 2)) hI (show 0 ≤ c 57 (5 * t + 1) ∧ c 57 (5 * t + 1) ≤ 3 from by omega) (show 0 ≤ c 57 (5 * t + 2) ∧ c 57 (5 * t + 2) ≤ 5 from by omega) (fun c_44 y_47 hI_45 hF_46 hy_47 => ?_))
    refine bk_inl ?_
    refine v_zret rfl rfl (by omega) ?_
    exact K c_44 y_47 hI_45 (fun a j hm => hF_46 a j (by omega)) ⟨by omega, by omega⟩

set_option maxRecDepth 100000 in
set_option maxHeartbeats 4000000 in
theorem s_203_l {sc : List Int32} {e : Int} {d u P Q : Nat} {c : ME} {Z : AR → Prop} (hI : Iv u e P Q c)  (K : ∀ (y : Int), (-2147483648) ≤ y ∧ y ≤ 2147483647 → Z (.inl (some (vi y)), Wd P Q P P c, 0, 0)) : ∀ n : Nat, (∀ (v1 : Int) (v2 : Int), (-2147483648) ≤ v1 ∧ v1 ≤ 2147483647 → 0 ≤ v2 ∧ v2 ≤ 6 → 13 - 2 * v2 < (n : Int) → Wp sc (d + 8) 203 4 [(0, .ref 41), (1, vi v1), (2, vi v2)] [] (Wd P Q P P c) 0 0 Z)
  | 0 => by intro v1 v2 hv1 hv2 hm9; have hP := iv_P hI; have hQ := iv_Q hI; exfalso; omega
  | n + 1 => by
    have hP := iv_P hI
    have hQ := iv_Q hI
    have ih := s_203_l (sc := sc) (d := d) hI K n
    intro v1 v2 hv1 hv2 hm9
    refine q_iload_n rfl rfl ?_
    refine q_aload_n rfl rfl ?_
    have h_1 := ir_41_20 hI
    refine v_gi (z := 20) (v := c 41 20) rfl rfl rfl (by decide) rfl rfl rfl ?_
    by_cases h_2 : v2 ≥ c 41 20
    · refine v_ic_ge_t (t := 26) rfl (by decide) (by omega) ?_
      refine q_iload_n rfl rfl ?_
      refine q_iret rfl rfl ?_
      exact K v1 ⟨by omega, by omega⟩
    · refine v_ic_ge_f (t := 26) rfl (by decide) (by omega) ?_
      refine q_iload_n rfl rfl ?_
      refine q_aload_n rfl rfl ?_
      refine q_iload_n rfl rfl ?_
      have h_3 := ir_59_g hI (j := 4 * v2) (by omega)
      have h_4 := ir_59_g hI (j := 4 * v2 + 1) (by omega)
      have h_5 := ir_59_g hI (j := 4 * v2 + 2) (by omega)
      have h_6 := ir_59_g hI (j := 4 * v2 + 3) (by omega)
      refine v_cv rfl rfl rfl rfl (by decide) ⟨⟨rfl, rfl⟩, by decide, rfl⟩ (Nat.le_of_ble_eq_true rfl) (Nat.le_of_ble_eq_true rfl) (s_187 (v1 := c 59 (4 * v2)) (v2 := c 59 (4 * v2 + 1)) (v3 := c 59 (4 * v2 + 2)) (v4 := c 59 (4 * v2 + 3)) (r := c 59 (4 * v2 + 1) + c 59 (4 * v2 + 2) + c 59 (4 * v2 + 3) + c 59 (4 * v2)) (a1 := v2) hI (show 0 ≤ v2 ∧ v2 ≤ 5 from by omega) (rfl) (rfl) (rfl) (rfl) (by omega) ?_)
      refine bk_inl ?_
      refine v_iadd (v := c 59 (4 * v2 + 1) + c 59 (4 * v2 + 2) + c 59 (4 * v2 + 3) + c 59 (4 * v2) + v1) rfl (by omega) ?_
      refine v_nrm (fun y_7 hy_7 => ?_)
      refine q_istore_n rfl (by decide) ?_
      refine v_iinc (v := v2 + 1) rfl rfl (by decide) (by omega) ?_
      refine q_goto (t := 4) rfl (by decide) ?_
      refine Wp_ls [(0, .ref 41), (1, vi y_7), (2, vi (v2 + 1))] (lsub_cons rfl (lsub_cons rfl (lsub_cons rfl lsub_nil))) ?_
      exact ih y_7 (v2 + 1) ⟨by omega, by omega⟩ ⟨by omega, by omega⟩ (by omega)
set_option maxRecDepth 100000 in
set_option maxHeartbeats 4000000 in
theorem s_203 {sc : List Int32} {e : Int} {d u P Q : Nat} {c : ME} {Z : AR → Prop} (hI : Iv u e P Q c)  (K : ∀ (y : Int), (-2147483648) ≤ y ∧ y ≤ 2147483647 → Z (.inl (some (vi y)), Wd P Q P P c, 0, 0)) : Wp sc (d + 8) 203 0 [(0, .ref 41)] [] (Wd P Q P P c) 0 0 Z := by
  have hP := iv_P hI
  have hQ := iv_Q hI
  refine q_iconst rfl ?_
  refine q_istore_n rfl (by decide) ?_
  refine q_iconst rfl ?_
  refine q_istore_n rfl (by decide) ?_
  refine Wp_ls [(0, .ref 41), (1, vi 0), (2, vi 0)] (lsub_cons rfl (lsub_cons rfl (lsub_cons rfl lsub_nil))) ?_
  exact (s_203_l (sc := sc) (d := d) hI K 16) 0 0 ⟨by decide, by decide⟩ ⟨by decide, by decide⟩ (by omega)

set_option maxRecDepth 100000 in
set_option maxHeartbeats 4000000 in
theorem s_204 {sc : List Int32} {e : Int} {d u P Q : Nat} {c : ME} {a1 : Int} {Z : AR → Prop} (hI : Iv u e P Q c) (ha1 : 0 ≤ a1 ∧ a1 ≤ 5) (K : ∀ (y : Int), (-2147483648) ≤ y ∧ y ≤ 2147483647 → Z (.inl (some (vi y)), Wd P Q P P c, 0, 0)) : Wp sc (d + 8) 204 0 [(0, .ref 41), (1, vi a1)] [] (Wd P Q P P c) 0 0 Z := by
  have hP := iv_P hI
  have hQ := iv_Q hI
  refine q_aload_n rfl rfl ?_
  refine q_iload_n rfl rfl ?_
  have h_1 := ir_59_g hI (j := 4 * a1) (by omega)
  have h_2 := ir_59_g hI (j := 4 * a1 + 1) (by omega)
  have h_3 := ir_59_g hI (j := 4 * a1 + 2) (by omega)
  have h_4 := ir_59_g hI (j := 4 * a1 + 3) (by omega)
  refine v_cv rfl rfl rfl rfl (by decide) ⟨⟨rfl, rfl⟩, by decide, rfl⟩ (Nat.le_of_ble_eq_true rfl) (Nat.le_of_ble_eq_true rfl) (s_187 (v1 := c 59 (4 * a1)) (v2 := c 59 (4 * a1 + 1)) (v3 := c 59 (4 * a1 + 2)) (v4 := c 59 (4 * a1 + 3)) (r := c 59 (4 * a1 + 1) + c 59 (4 * a1 + 2) + c 59 (4 * a1 + 3) + c 59 (4 * a1)) (a1 := a1) hI (show 0 ≤ a1 ∧ a1 ≤ 5 from by omega) (rfl) (rfl) (rfl) (rfl) (by omega) ?_)
  refine bk_inl ?_
  by_cases h_5 : c 59 (4 * a1 + 1) + c 59 (4 * a1 + 2) + c 59 (4 * a1 + 3) + c 59 (4 * a1) ≠ 0
  · refine v_if_ne_t (t := 12) rfl (by decide) (by omega) ?_
    refine v_sip rfl (by decide) ?_
    refine q_aload_n rfl rfl ?_
    refine v_gr (t := 59) rfl rfl rfl (by decide) rfl ?_
    refine q_iconst rfl ?_
    refine q_iload_n rfl rfl ?_
    refine v_imul (v := 4 * a1) rfl (by omega) ?_
    refine v_ia (v := c 59 (4 * a1)) rfl rfl (by decide) (by decide) (by omega) rfl ?_
    refine v_imul (v := 1000 * c 59 (4 * a1)) rfl (by omega) ?_
    refine q_aload_n rfl rfl ?_
    refine q_iload_n rfl rfl ?_
    refine v_cv rfl rfl rfl rfl (by decide) ⟨⟨rfl, rfl⟩, by decide, rfl⟩ (Nat.le_of_ble_eq_true rfl) (Nat.le_of_ble_eq_true rfl) (s_187 (v1 := c 59 (4 * a1)) (v2 := c 59 (4 * a1 + 1)) (v3 := c 59 (4 * a1 + 2)) (v4 := c 59 (4 * a1 + 3)) (r := c 59 (4 * a1 + 1) + c 59 (4 * a1 + 2) + c 59 (4 * a1 + 3) + c 59 (4 * a1)) (a1 := a1) hI (show 0 ≤ a1 ∧ a1 ≤ 5 from by omega) (rfl) (rfl) (rfl) (rfl) (by omega) ?_)
    refine bk_inl ?_
    refine v_idivx rfl ⟨by omega, by omega, by omega⟩ (fun y_6 hy_6 => ?_)
    refine q_iret rfl rfl ?_
    exact K y_6 ⟨by omega, by omega⟩
  · refine v_if_ne_f (t := 12) rfl (by decide) (by omega) ?_
    refine q_iconst rfl ?_
    refine q_goto (t := 30) rfl (by decide) ?_
    refine q_iret rfl rfl ?_
    exact K 0 ⟨by decide, by decide⟩

set_option maxRecDepth 100000 in
set_option maxHeartbeats 4000000 in
theorem s_206_l {sc : List Int32} {e : Int} {d u P Q : Nat} {c : ME} {a1 : Int} {Z : AR → Prop} (hI : Iv u e P Q c) (ha1 : (-2147483648) ≤ a1 ∧ a1 ≤ 2147483647) (K : ∀ (c2 : ME) (y : Int), Iv u e P Q c2 → (∀ (a : Nat) (j : Int), ¬ ((a = 41 ∧ j = 0) ∨ a = 42 ∨ (a = 41 ∧ j = 2) ∨ (a = 41 ∧ j = 3) ∨ (a = 41 ∧ j = 4) ∨ (a = 41 ∧ j = 5) ∨ (a = 41 ∧ j = 6) ∨ (a = 41 ∧ j = 7) ∨ (a = 41 ∧ j = 8) ∨ (a = 41 ∧ j = 47) ∨ a = 61 ∨ a = 62) → c2 a j = c a j) → (-2147483648) ≤ y ∧ y ≤ 2147483647 → Z (.inl (some (vi y)), Wd P Q P P c2, 0, 0)) : ∀ n : Nat, (∀ (c2 : ME) (v2 : Int), Iv u e P Q c2 → (∀ (a : Nat) (j : Int), ¬ ((a = 41 ∧ j = 0) ∨ a = 42 ∨ (a = 41 ∧ j = 2) ∨ (a = 41 ∧ j = 3) ∨ (a = 41 ∧ j = 4) ∨ (a = 41 ∧ j = 5) ∨ (a = 41 ∧ j = 6) ∨ (a = 41 ∧ j = 7) ∨ (a = 41 ∧ j = 8) ∨ (a = 41 ∧ j = 47) ∨ a = 61 ∨ a = 62) → c2 a j = c a j) → 0 ≤ v2 ∧ v2 ≤ 8 → ((c 41 3 = c 41 3)) → 1211 - 2 * c2 41 4 < (n : Int) → Wp sc (d + 9) 206 22 [(0, .ref 41), (1, vi a1), (2, vi v2)] [] (Wd P Q P P c2) 0 0 Z)
  | 0 => by intro c2 v2 hI2 hF hv2 hx0 hm9; have hP := iv_P hI; have hQ := iv_Q hI; have h_92 := ir_41_4 hI2; exfalso; omega
  | n + 1 => by
    have hP := iv_P hI
    have hQ := iv_Q hI
    have ih := s_206_l (sc := sc) (d := d) hI ha1 K n
    intro c2 v2 hI2 hF hv2 hx0 hm9
    have h_1 := ir_41_3 hI
    have h_2 := ir_41_4 hI2
    refine q_aload_n rfl rfl ?_
    refine v_cv rfl rfl rfl rfl (by decide) ⟨⟨rfl, rfl⟩, by decide, rfl⟩ (Nat.le_of_ble_eq_true rfl) (Nat.le_of_ble_eq_true rfl) ?_
    refine q_aload_n rfl rfl ?_
    have h_3 := ir_41_5 hI2
    refine v_gi (z := 5) (v := c2 41 5) rfl rfl rfl (by decide) rfl rfl rfl ?_
    refine q_iconst rfl ?_
    by_cases h_4 : c2 41 5 ≠ (-1)
    · refine v_ic_ne_t (t := 12) rfl (by decide) (by omega) ?_
      refine q_iconst rfl ?_
      refine v_zret rfl rfl (by omega) ?_
      refine bk_inl ?_
      refine v_if_eq_t (t := 103) rfl (by decide) (by decide) ?_
      refine q_aload_n rfl rfl ?_
      refine q_iload_n rfl rfl ?_
      refine v_cv rfl rfl rfl rfl (by decide) ⟨⟨rfl, rfl⟩, by decide, rfl⟩ (Nat.le_of_ble_eq_true rfl) (Nat.le_of_ble_eq_true rfl) (s_164 (a1 := v2) hI2 (show (-2147483648) ≤ v2 ∧ v2 ≤ 2147483647 from by omega) (fun c_5 y_8 hI_6 hF_7 hy_8 => ?_))
      refine bk_inl ?_
      refine q_istore_n rfl (by decide) ?_
      refine q_aload_n rfl rfl ?_
      refine v_gi (z := 5) (v := c2 41 5) rfl rfl rfl (by decide) rfl rfl (hF_7 41 5 (by omega)) ?_
      refine q_iconst rfl ?_
      refine v_ic_eq_f (t := 119) rfl (by decide) (by omega) ?_
      refine q_iload_n rfl rfl ?_
      refine q_iret rfl rfl ?_
      exact K c_5 y_8 hI_6 (fun a j hm => (hF_7 a j (by omega)).trans (hF a j (by omega))) ⟨by omega, by omega⟩
    · refine v_ic_ne_f (t := 12) rfl (by decide) (by omega) ?_
      refine q_iconst rfl ?_
      refine q_goto (t := 13) rfl (by decide) ?_
      refine v_zret rfl rfl (by omega) ?_
      refine bk_inl ?_
      refine v_if_eq_f (t := 103) rfl (by decide) (by decide) ?_
      refine q_aload_n rfl rfl ?_
      have h_9 := ir_41_3 hI2
      refine v_cv rfl rfl rfl rfl (by decide) ⟨⟨rfl, rfl⟩, by decide, rfl⟩ (Nat.le_of_ble_eq_true rfl) (Nat.le_of_ble_eq_true rfl) (s_162 hI2 (fun c_10 y_13 hI_11 hF_12 hy_13 h_14 h_15 h_16 => ?_))
      refine bk_inl ?_
      have h_17 := ir_41_4 hI_11
      by_cases h_18 : y_13 = 0
      · refine v_if_eq_t (t := 103) rfl (by decide) (by omega) ?_
        refine q_aload_n rfl rfl ?_
        refine q_iload_n rfl rfl ?_
        refine v_cv rfl rfl rfl rfl (by decide) ⟨⟨rfl, rfl⟩, by decide, rfl⟩ (Nat.le_of_ble_eq_true rfl) (Nat.le_of_ble_eq_true rfl) (s_164 (a1 := v2) hI_11 (show (-2147483648) ≤ v2 ∧ v2 ≤ 2147483647 from by omega) (fun c_19 y_22 hI_20 hF_21 hy_22 => ?_))
        refine bk_inl ?_
        refine q_istore_n rfl (by decide) ?_
        refine q_aload_n rfl rfl ?_
        refine v_gi (z := 5) (v := c2 41 5) rfl rfl rfl (by decide) rfl rfl ((hF_21 41 5 (by omega)).trans (hF_12 41 5 (by omega))) ?_
        refine q_iconst rfl ?_
        refine v_ic_eq_t (t := 119) rfl (by decide) (by omega) ?_
        refine q_aload_n rfl rfl ?_
        refine q_iload_n rfl rfl ?_
        refine v_pi (z := 47) rfl rfl rfl (by decide) rfl rfl rfl (by decide) ?_
        refine q_aload_n rfl rfl ?_
        refine q_aload_n rfl rfl ?_
        refine v_gr (t := 61) rfl rfl rfl (by decide) rfl ?_
        refine q_aload_n rfl rfl ?_
        refine v_gr (t := 62) rfl rfl rfl (by decide) rfl ?_
        refine v_bip rfl (by decide) ?_
        refine v_cv rfl rfl rfl rfl (by decide) ⟨⟨rfl, rfl⟩, by decide, rfl⟩ (Nat.le_of_ble_eq_true rfl) (Nat.le_of_ble_eq_true rfl) (s_148 (f := 61) (t := 62) (nf := 8) (nt := 8) (n := 8) rfl rfl (by decide) (by decide) (by decide) (by decide) (by decide) (by omega) ?_)
        refine bk_inl ?_
        refine q_iload_n rfl rfl ?_
        refine q_iret rfl rfl ?_
        have hI_23 := iw_41_47 (v := v2) hI_20 ⟨by omega, by omega⟩
        have hI_24 := cp_61_62 hI_23
        exact K (upc (up c_19 41 47 v2) 61 0 62 0 8) y_22 hI_24 (fun a j hm => (upc_c (by omega)).trans ((up_b (by omega)).trans ((hF_21 a j (by omega)).trans ((hF_12 a j (by omega)).trans (hF a j (by omega)))))) ⟨by omega, by omega⟩
      · refine v_if_eq_f (t := 103) rfl (by decide) (by omega) ?_
        refine q_aload_n rfl rfl ?_
        refine v_gi (z := 4) (v := c_10 41 4) rfl rfl rfl (by decide) rfl rfl rfl ?_
        refine q_istore_n rfl (by decide) ?_
        refine q_aload_n rfl rfl ?_
        refine q_iconst rfl ?_
        refine q_aload_n rfl rfl ?_
        have h_25 := ir_41_22 hI
        refine v_gi (z := 22) (v := c 41 22) rfl rfl rfl (by decide) rfl rfl ((hF_12 41 22 (by omega)).trans (hF 41 22 (by omega))) ?_
        refine q_iconst rfl ?_
        refine v_isub (v := c 41 22 - 1) rfl (by omega) ?_
        have h_26 : c_10 41 3 = c2 41 3 := (hF_12 41 3 (by omega))
        have h_27 : c_10 41 5 = c2 41 5 := (hF_12 41 5 (by omega))
        refine v_cv rfl rfl rfl rfl (by decide) ⟨⟨rfl, rfl⟩, by decide, rfl⟩ (Nat.le_of_ble_eq_true rfl) (Nat.le_of_ble_eq_true rfl) (s_160 (a1 := 0) (a2 := c 41 22 - 1) hI_11 (show 0 ≤ 0 ∧ 0 ≤ 1 from by omega) (show (-1) ≤ c 41 22 - 1 ∧ c 41 22 - 1 ≤ 9999 from by omega) (fun c_28 y_31 hI_29 hF_30 hy_31 h_32 h_33 h_34 h_35 h_36 => ?_))
        refine bk_inl ?_
        have h_37 := ir_41_4 hI_29
        have h_38 := ir_41_5 hI_29
        refine q_istore rfl (by decide) ?_
        refine q_aload_n rfl rfl ?_
        refine v_cv rfl rfl rfl rfl (by decide) ⟨⟨rfl, rfl⟩, by decide, rfl⟩ (Nat.le_of_ble_eq_true rfl) (Nat.le_of_ble_eq_true rfl) ?_
        refine q_aload_n rfl rfl ?_
        refine v_gi (z := 5) (v := c_28 41 5) rfl rfl rfl (by decide) rfl rfl rfl ?_
        refine q_iconst rfl ?_
        by_cases h_39 : c_28 41 5 ≠ (-1)
        · refine v_ic_ne_t (t := 12) rfl (by decide) (by omega) ?_
          refine q_iconst rfl ?_
          refine v_zret rfl rfl (by omega) ?_
          refine bk_inl ?_
          refine v_if_eq_t (t := 73) rfl (by decide) (by decide) ?_
          refine q_aload_n rfl rfl ?_
          refine v_bip rfl (by decide) ?_
          have h_40 : c_28 41 3 = c2 41 3 := ((hF_30 41 3 (by omega)).trans (hF_12 41 3 (by omega)))
          refine v_cv rfl rfl rfl rfl (by decide) ⟨⟨rfl, rfl⟩, by decide, rfl⟩ (Nat.le_of_ble_eq_true rfl) (Nat.le_of_ble_eq_true rfl) (s_161 (a1 := 59) hI_29 (show 1 ≤ 59 ∧ 59 ≤ 255 from by omega) (fun c_41 hI_42 hF_43 h_44 h_45 h_46 h_47 => ?_))
          refine bk_inl ?_
          have h_48 := ir_41_4 hI_42
          have h_49 := ir_41_5 hI_42
          refine q_aload_n rfl rfl ?_
          refine v_cv rfl rfl rfl rfl (by decide) ⟨⟨rfl, rfl⟩, by decide, rfl⟩ (Nat.le_of_ble_eq_true rfl) (Nat.le_of_ble_eq_true rfl) ?_
          refine q_aload_n rfl rfl ?_
          refine v_gi (z := 5) (v := c_41 41 5) rfl rfl rfl (by decide) rfl rfl rfl ?_
          refine q_iconst rfl ?_
          refine v_ic_ne_t (t := 12) rfl (by decide) (by omega) ?_
          refine q_iconst rfl ?_
          refine v_zret rfl rfl (by omega) ?_
          refine bk_inl ?_
          refine v_if_ne_f (t := 89) rfl (by decide) (by decide) ?_
          refine q_goto (t := 103) rfl (by decide) ?_
          refine q_aload_n rfl rfl ?_
          refine q_iload_n rfl rfl ?_
          refine v_cv rfl rfl rfl rfl (by decide) ⟨⟨rfl, rfl⟩, by decide, rfl⟩ (Nat.le_of_ble_eq_true rfl) (Nat.le_of_ble_eq_true rfl) (s_164 (a1 := v2) hI_42 (show (-2147483648) ≤ v2 ∧ v2 ≤ 2147483647 from by omega) (fun c_50 y_53 hI_51 hF_52 hy_53 => ?_))
          refine bk_inl ?_
          refine q_istore_n rfl (by decide) ?_
          refine q_aload_n rfl rfl ?_
          refine v_gi (z := 5) (v := c_41 41 5) rfl rfl rfl (by decide) rfl rfl (hF_52 41 5 (by omega)) ?_
          refine q_iconst rfl ?_
          refine v_ic_eq_f (t := 119) rfl (by decide) (by omega) ?_
          refine q_iload_n rfl rfl ?_
          refine q_iret rfl rfl ?_
          exact K c_50 y_53 hI_51 (fun a j hm => (hF_52 a j (by omega)).trans ((hF_43 a j (by omega)).trans ((hF_30 a j (by omega)).trans ((hF_12 a j (by omega)).trans (hF a j (by omega)))))) ⟨by omega, by omega⟩
        · refine v_ic_ne_f (t := 12) rfl (by decide) (by omega) ?_
          refine q_iconst rfl ?_
          refine q_goto (t := 13) rfl (by decide) ?_
          refine v_zret rfl rfl (by omega) ?_
          refine bk_inl ?_
          refine v_if_eq_f (t := 73) rfl (by decide) (by decide) ?_
          refine q_iload_n rfl rfl ?_
          refine v_bip rfl (by decide) ?_
          by_cases h_54 : v2 ≠ 8
          · refine v_ic_ne_t (t := 73) rfl (by decide) (by omega) ?_
            refine q_aload_n rfl rfl ?_
            refine v_bip rfl (by decide) ?_
            have h_55 : c_28 41 3 = c2 41 3 := ((hF_30 41 3 (by omega)).trans (hF_12 41 3 (by omega)))
            refine v_cv rfl rfl rfl rfl (by decide) ⟨⟨rfl, rfl⟩, by decide, rfl⟩ (Nat.le_of_ble_eq_true rfl) (Nat.le_of_ble_eq_true rfl) (s_161 (a1 := 59) hI_29 (show 1 ≤ 59 ∧ 59 ≤ 255 from by omega) (fun c_56 hI_57 hF_58 h_59 h_60 h_61 h_62 => ?_))
            refine bk_inl ?_
            have h_63 := ir_41_4 hI_57
            have h_64 := ir_41_5 hI_57
            refine q_aload_n rfl rfl ?_
            refine v_cv rfl rfl rfl rfl (by decide) ⟨⟨rfl, rfl⟩, by decide, rfl⟩ (Nat.le_of_ble_eq_true rfl) (Nat.le_of_ble_eq_true rfl) ?_
            refine q_aload_n rfl rfl ?_
            refine v_gi (z := 5) (v := c_56 41 5) rfl rfl rfl (by decide) rfl rfl rfl ?_
            refine q_iconst rfl ?_
            by_cases h_65 : c_56 41 5 ≠ (-1)
            · refine v_ic_ne_t (t := 12) rfl (by decide) (by omega) ?_
              refine q_iconst rfl ?_
              refine v_zret rfl rfl (by omega) ?_
              refine bk_inl ?_
              refine v_if_ne_f (t := 89) rfl (by decide) (by decide) ?_
              refine q_goto (t := 103) rfl (by decide) ?_
              refine q_aload_n rfl rfl ?_
              refine q_iload_n rfl rfl ?_
              refine v_cv rfl rfl rfl rfl (by decide) ⟨⟨rfl, rfl⟩, by decide, rfl⟩ (Nat.le_of_ble_eq_true rfl) (Nat.le_of_ble_eq_true rfl) (s_164 (a1 := v2) hI_57 (show (-2147483648) ≤ v2 ∧ v2 ≤ 2147483647 from by omega) (fun c_66 y_69 hI_67 hF_68 hy_69 => ?_))
              refine bk_inl ?_
              refine q_istore_n rfl (by decide) ?_
              refine q_aload_n rfl rfl ?_
              refine v_gi (z := 5) (v := c_56 41 5) rfl rfl rfl (by decide) rfl rfl (hF_68 41 5 (by omega)) ?_
              refine q_iconst rfl ?_
              refine v_ic_eq_f (t := 119) rfl (by decide) (by omega) ?_
              refine q_iload_n rfl rfl ?_
              refine q_iret rfl rfl ?_
              exact K c_66 y_69 hI_67 (fun a j hm => (hF_68 a j (by omega)).trans ((hF_58 a j (by omega)).trans ((hF_30 a j (by omega)).trans ((hF_12 a j (by omega)).trans (hF a j (by omega)))))) ⟨by omega, by omega⟩
            · refine v_ic_ne_f (t := 12) rfl (by decide) (by omega) ?_
              refine q_iconst rfl ?_
              refine q_goto (t := 13) rfl (by decide) ?_
              refine v_zret rfl rfl (by omega) ?_
              refine bk_inl ?_
              refine v_if_ne_t (t := 89) rfl (by decide) (by decide) ?_
              refine q_aload_n rfl rfl ?_
              refine v_gr (t := 61) rfl rfl rfl (by decide) rfl ?_
              refine q_iload_n rfl rfl ?_
              refine q_iload rfl rfl ?_
              refine v_is rfl rfl (by decide) (by decide) (by omega) ?_
              refine v_iinc (v := v2 + 1) rfl rfl (by decide) (by omega) ?_
              refine q_goto (t := 22) rfl (by decide) ?_
              have hI_70 := iw_61 (j := v2) (v := y_31) hI_57 ⟨by omega, by omega⟩
              refine Wp_ls [(0, .ref 41), (1, vi a1), (2, vi (v2 + 1))] (lsub_cons rfl (lsub_cons rfl (lsub_cons rfl lsub_nil))) ?_
              have h_71 : (up c_56 61 v2 y_31) 41 4 = c_56 41 4 := (up_c (by decide))
              exact ih (up c_56 61 v2 y_31) (v2 + 1) hI_70 (fun a j hm => (up_b (by omega)).trans ((hF_58 a j (by omega)).trans ((hF_30 a j (by omega)).trans ((hF_12 a j (by omega)).trans (hF a j (by omega)))))) ⟨by omega, by omega⟩ (by omega) (by omega)
          · refine v_ic_ne_f (t := 73) rfl (by decide) (by omega) ?_
            refine q_aload_n rfl rfl ?_
            refine q_iconst rfl ?_
            refine q_iload_n rfl rfl ?_
            refine v_cv rfl rfl rfl rfl (by decide) ⟨⟨rfl, rfl⟩, by decide, rfl⟩ (Nat.le_of_ble_eq_true rfl) (Nat.le_of_ble_eq_true rfl) (s_153 (a1 := 3) (a2 := c_10 41 4) hI_29 (show 1 ≤ 3 ∧ 3 ≤ 3 from by omega) (show 0 ≤ c_10 41 4 ∧ c_10 41 4 ≤ 605 from by omega) (fun c_72 hI_73 hF_74 h_75 => ?_))
            refine bk_inl ?_
            have h_76 := ir_41_5 hI_73
            refine q_aload_n rfl rfl ?_
            refine v_bip rfl (by decide) ?_
            have h_77 : c_72 41 4 = c_28 41 4 := (hF_74 41 4 (by omega))
            have h_78 : c_72 41 3 = c2 41 3 := ((hF_74 41 3 (by omega)).trans ((hF_30 41 3 (by omega)).trans (hF_12 41 3 (by omega))))
            refine v_cv rfl rfl rfl rfl (by decide) ⟨⟨rfl, rfl⟩, by decide, rfl⟩ (Nat.le_of_ble_eq_true rfl) (Nat.le_of_ble_eq_true rfl) (s_161 (a1 := 59) hI_73 (show 1 ≤ 59 ∧ 59 ≤ 255 from by omega) (fun c_79 hI_80 hF_81 h_82 h_83 h_84 h_85 => ?_))
            refine bk_inl ?_
            have h_86 := ir_41_4 hI_80
            have h_87 := ir_41_5 hI_80
            refine q_aload_n rfl rfl ?_
            refine v_cv rfl rfl rfl rfl (by decide) ⟨⟨rfl, rfl⟩, by decide, rfl⟩ (Nat.le_of_ble_eq_true rfl) (Nat.le_of_ble_eq_true rfl) ?_
            refine q_aload_n rfl rfl ?_
            refine v_gi (z := 5) (v := c_79 41 5) rfl rfl rfl (by decide) rfl rfl rfl ?_
            refine q_iconst rfl ?_
            refine v_ic_ne_t (t := 12) rfl (by decide) (by omega) ?_
            refine q_iconst rfl ?_
            refine v_zret rfl rfl (by omega) ?_
            refine bk_inl ?_
            refine v_if_ne_f (t := 89) rfl (by decide) (by decide) ?_
            refine q_goto (t := 103) rfl (by decide) ?_
            refine q_aload_n rfl rfl ?_
            refine q_iload_n rfl rfl ?_
            refine v_cv rfl rfl rfl rfl (by decide) ⟨⟨rfl, rfl⟩, by decide, rfl⟩ (Nat.le_of_ble_eq_true rfl) (Nat.le_of_ble_eq_true rfl) (s_164 (a1 := v2) hI_80 (show (-2147483648) ≤ v2 ∧ v2 ≤ 2147483647 from by omega) (fun c_88 y_91 hI_89 hF_90 hy_91 => ?_))
            refine bk_inl ?_
            refine q_istore_n rfl (by decide) ?_
            refine q_aload_n rfl rfl ?_
            refine v_gi (z := 5) (v := c_79 41 5) rfl rfl rfl (by decide) rfl rfl (hF_90 41 5 (by omega)) ?_
            refine q_iconst rfl ?_
            refine v_ic_eq_f (t := 119) rfl (by decide) (by omega) ?_
            refine q_iload_n rfl rfl ?_
            refine q_iret rfl rfl ?_
            exact K c_88 y_91 hI_89 (fun a j hm => (hF_90 a j (by omega)).trans ((hF_81 a j (by omega)).trans ((hF_74 a j (by omega)).trans ((hF_30 a j (by omega)).trans ((hF_12 a j (by omega)).trans (hF a j (by omega))))))) ⟨by omega, by omega⟩
set_option maxRecDepth 100000 in
set_option maxHeartbeats 4000000 in
theorem s_206 {sc : List Int32} {e : Int} {d u P Q : Nat} {c : ME} {a1 : Int} {Z : AR → Prop} (hI : Iv u e P Q c) (ha1 : (-2147483648) ≤ a1 ∧ a1 ≤ 2147483647) (K : ∀ (c2 : ME) (y : Int), Iv u e P Q c2 → (∀ (a : Nat) (j : Int), ¬ ((a = 41 ∧ j = 0) ∨ a = 42 ∨ (a = 41 ∧ j = 2) ∨ (a = 41 ∧ j = 3) ∨ (a = 41 ∧ j = 4) ∨ (a = 41 ∧ j = 5) ∨ (a = 41 ∧ j = 6) ∨ (a = 41 ∧ j = 7) ∨ (a = 41 ∧ j = 8) ∨ (a = 41 ∧ j = 47) ∨ a = 61 ∨ a = 62) → c2 a j = c a j) → (-2147483648) ≤ y ∧ y ≤ 2147483647 → Z (.inl (some (vi y)), Wd P Q P P c2, 0, 0)) : Wp sc (d + 9) 206 0 [(0, .ref 41), (1, vi a1)] [] (Wd P Q P P c) 0 0 Z := by
  have hP := iv_P hI
  have hQ := iv_Q hI
  refine q_aload_n rfl rfl ?_
  refine q_iconst rfl ?_
  refine v_pi (z := 0) rfl rfl rfl (by decide) rfl rfl rfl (by decide) ?_
  refine q_aload_n rfl rfl ?_
  refine q_iload_n rfl rfl ?_
  refine v_cv rfl rfl rfl rfl (by decide) ⟨⟨rfl, rfl⟩, by decide, rfl⟩ (Nat.le_of_ble_eq_true rfl) (Nat.le_of_ble_eq_true rfl) ?_
  refine q_aload_n rfl rfl ?_
  refine q_iload_n rfl rfl ?_
  by_cases h_93 : a1 < 0
  · refine v_if_lt_t (t := 23) rfl (by decide) (by omega) ?_
    refine q_iconst rfl ?_
    refine q_iconst rfl ?_
    refine q_iconst rfl ?_
    refine v_cv rfl rfl rfl rfl (by decide) ⟨⟨rfl, rfl⟩, by decide, rfl⟩ (Nat.le_of_ble_eq_true rfl) (Nat.le_of_ble_eq_true rfl) ?_
    refine q_iload_n rfl rfl ?_
    refine v_if_ne_f (t := 26) rfl (by decide) (by decide) ?_
    refine q_aload_n rfl rfl ?_
    refine v_gi (z := 0) (v := 0) rfl rfl rfl (by decide) rfl rfl (up_e rfl) ?_
    refine v_if_ne_f (t := 26) rfl (by decide) (by decide) ?_
    refine q_aload_n rfl rfl ?_
    refine q_iload_n rfl rfl ?_
    refine v_pi (z := 0) rfl rfl rfl (by decide) rfl rfl rfl (by decide) ?_
    refine q_aload_n rfl rfl ?_
    refine v_gr (t := 42) rfl rfl rfl (by decide) rfl ?_
    refine q_iload_n rfl rfl ?_
    refine q_dup2 rfl ⟨rfl, rfl⟩ ?_
    have h_94 := ir_42 hI 1
    refine v_ia (v := c 42 1) rfl rfl (by decide) (by decide) (by decide) ((up_c (by decide)).trans (up_c (by decide))) ?_
    refine q_iconst rfl ?_
    refine v_iadd (v := c 42 1 + 1) rfl (by omega) ?_
    refine v_nrm (fun y_95 hy_95 => ?_)
    refine v_is rfl rfl (by decide) (by decide) (by decide) ?_
    refine q_aload_n rfl rfl ?_
    refine v_gi (z := 0) (v := 1) rfl rfl rfl (by decide) rfl rfl ((up_c (by decide)).trans (up_e rfl)) ?_
    refine v_if_ne_t (t := 37) rfl (by decide) (by decide) ?_
    refine q_iconst rfl ?_
    refine v_zret rfl rfl (by omega) ?_
    refine bk_inl ?_
    refine v_zret rfl rfl (by omega) ?_
    refine bk_inl ?_
    refine v_if_ne_f (t := 15) rfl (by decide) (by decide) ?_
    refine q_iconst rfl ?_
    refine q_iret rfl rfl ?_
    have hI_96 := iw_41_0 (v := 0) hI ⟨by decide, by decide⟩
    have hI_97 := iw_41_0 (v := 1) hI_96 ⟨by decide, by decide⟩
    have hI_98 := iw_42 (j := 1) (v := y_95) hI_97 ⟨by omega, by omega⟩
    exact K (up (up (up c 41 0 0) 41 0 1) 42 1 y_95) 0 hI_98 (fun a j hm => (up_b (by omega)).trans ((up_b (by omega)).trans (up_b (by omega)))) ⟨by decide, by decide⟩
  · refine v_if_lt_f (t := 23) rfl (by decide) (by omega) ?_
    refine q_iload_n rfl rfl ?_
    refine q_aload_n rfl rfl ?_
    have h_99 := ir_41_2 hI
    refine v_gi (z := 2) (v := c 41 2) rfl rfl rfl (by decide) rfl rfl (up_n (by decide)) ?_
    by_cases h_100 : a1 > c 41 2
    · refine v_ic_gt_t (t := 23) rfl (by decide) (by omega) ?_
      refine q_iconst rfl ?_
      refine q_iconst rfl ?_
      refine q_iconst rfl ?_
      refine v_cv rfl rfl rfl rfl (by decide) ⟨⟨rfl, rfl⟩, by decide, rfl⟩ (Nat.le_of_ble_eq_true rfl) (Nat.le_of_ble_eq_true rfl) ?_
      refine q_iload_n rfl rfl ?_
      refine v_if_ne_f (t := 26) rfl (by decide) (by decide) ?_
      refine q_aload_n rfl rfl ?_
      refine v_gi (z := 0) (v := 0) rfl rfl rfl (by decide) rfl rfl (up_e rfl) ?_
      refine v_if_ne_f (t := 26) rfl (by decide) (by decide) ?_
      refine q_aload_n rfl rfl ?_
      refine q_iload_n rfl rfl ?_
      refine v_pi (z := 0) rfl rfl rfl (by decide) rfl rfl rfl (by decide) ?_
      refine q_aload_n rfl rfl ?_
      refine v_gr (t := 42) rfl rfl rfl (by decide) rfl ?_
      refine q_iload_n rfl rfl ?_
      refine q_dup2 rfl ⟨rfl, rfl⟩ ?_
      have h_101 := ir_42 hI 1
      refine v_ia (v := c 42 1) rfl rfl (by decide) (by decide) (by decide) ((up_c (by decide)).trans (up_c (by decide))) ?_
      refine q_iconst rfl ?_
      refine v_iadd (v := c 42 1 + 1) rfl (by omega) ?_
      refine v_nrm (fun y_102 hy_102 => ?_)
      refine v_is rfl rfl (by decide) (by decide) (by decide) ?_
      refine q_aload_n rfl rfl ?_
      refine v_gi (z := 0) (v := 1) rfl rfl rfl (by decide) rfl rfl ((up_c (by decide)).trans (up_e rfl)) ?_
      refine v_if_ne_t (t := 37) rfl (by decide) (by decide) ?_
      refine q_iconst rfl ?_
      refine v_zret rfl rfl (by omega) ?_
      refine bk_inl ?_
      refine v_zret rfl rfl (by omega) ?_
      refine bk_inl ?_
      refine v_if_ne_f (t := 15) rfl (by decide) (by decide) ?_
      refine q_iconst rfl ?_
      refine q_iret rfl rfl ?_
      have hI_103 := iw_41_0 (v := 0) hI ⟨by decide, by decide⟩
      have hI_104 := iw_41_0 (v := 1) hI_103 ⟨by decide, by decide⟩
      have hI_105 := iw_42 (j := 1) (v := y_102) hI_104 ⟨by omega, by omega⟩
      exact K (up (up (up c 41 0 0) 41 0 1) 42 1 y_102) 0 hI_105 (fun a j hm => (up_b (by omega)).trans ((up_b (by omega)).trans (up_b (by omega)))) ⟨by decide, by decide⟩
    · refine v_ic_gt_f (t := 23) rfl (by decide) (by omega) ?_
      refine q_iload_n rfl rfl ?_
      refine v_bip rfl (by decide) ?_
      by_cases h_106 : a1 > 60
      · refine v_ic_gt_t (t := 23) rfl (by decide) (by omega) ?_
        refine q_iconst rfl ?_
        refine q_iconst rfl ?_
        refine q_iconst rfl ?_
        refine v_cv rfl rfl rfl rfl (by decide) ⟨⟨rfl, rfl⟩, by decide, rfl⟩ (Nat.le_of_ble_eq_true rfl) (Nat.le_of_ble_eq_true rfl) ?_
        refine q_iload_n rfl rfl ?_
        refine v_if_ne_f (t := 26) rfl (by decide) (by decide) ?_
        refine q_aload_n rfl rfl ?_
        refine v_gi (z := 0) (v := 0) rfl rfl rfl (by decide) rfl rfl (up_e rfl) ?_
        refine v_if_ne_f (t := 26) rfl (by decide) (by decide) ?_
        refine q_aload_n rfl rfl ?_
        refine q_iload_n rfl rfl ?_
        refine v_pi (z := 0) rfl rfl rfl (by decide) rfl rfl rfl (by decide) ?_
        refine q_aload_n rfl rfl ?_
        refine v_gr (t := 42) rfl rfl rfl (by decide) rfl ?_
        refine q_iload_n rfl rfl ?_
        refine q_dup2 rfl ⟨rfl, rfl⟩ ?_
        have h_107 := ir_42 hI 1
        refine v_ia (v := c 42 1) rfl rfl (by decide) (by decide) (by decide) ((up_c (by decide)).trans (up_c (by decide))) ?_
        refine q_iconst rfl ?_
        refine v_iadd (v := c 42 1 + 1) rfl (by omega) ?_
        refine v_nrm (fun y_108 hy_108 => ?_)
        refine v_is rfl rfl (by decide) (by decide) (by decide) ?_
        refine q_aload_n rfl rfl ?_
        refine v_gi (z := 0) (v := 1) rfl rfl rfl (by decide) rfl rfl ((up_c (by decide)).trans (up_e rfl)) ?_
        refine v_if_ne_t (t := 37) rfl (by decide) (by decide) ?_
        refine q_iconst rfl ?_
        refine v_zret rfl rfl (by omega) ?_
        refine bk_inl ?_
        refine v_zret rfl rfl (by omega) ?_
        refine bk_inl ?_
        refine v_if_ne_f (t := 15) rfl (by decide) (by decide) ?_
        refine q_iconst rfl ?_
        refine q_iret rfl rfl ?_
        have hI_109 := iw_41_0 (v := 0) hI ⟨by decide, by decide⟩
        have hI_110 := iw_41_0 (v := 1) hI_109 ⟨by decide, by decide⟩
        have hI_111 := iw_42 (j := 1) (v := y_108) hI_110 ⟨by omega, by omega⟩
        exact K (up (up (up c 41 0 0) 41 0 1) 42 1 y_108) 0 hI_111 (fun a j hm => (up_b (by omega)).trans ((up_b (by omega)).trans (up_b (by omega)))) ⟨by decide, by decide⟩
      · refine v_ic_gt_f (t := 23) rfl (by decide) (by omega) ?_
        refine q_iconst rfl ?_
        refine q_goto (t := 24) rfl (by decide) ?_
        refine q_iconst rfl ?_
        refine q_iconst rfl ?_
        refine v_cv rfl rfl rfl rfl (by decide) ⟨⟨rfl, rfl⟩, by decide, rfl⟩ (Nat.le_of_ble_eq_true rfl) (Nat.le_of_ble_eq_true rfl) ?_
        refine q_iload_n rfl rfl ?_
        refine v_if_ne_t (t := 26) rfl (by decide) (by decide) ?_
        refine q_aload_n rfl rfl ?_
        refine v_gi (z := 0) (v := 0) rfl rfl rfl (by decide) rfl rfl (up_e rfl) ?_
        refine v_if_ne_f (t := 37) rfl (by decide) (by decide) ?_
        refine q_iconst rfl ?_
        refine q_goto (t := 38) rfl (by decide) ?_
        refine v_zret rfl rfl (by omega) ?_
        refine bk_inl ?_
        refine v_zret rfl rfl (by omega) ?_
        refine bk_inl ?_
        refine v_if_ne_t (t := 15) rfl (by decide) (by decide) ?_
        refine q_aload_n rfl rfl ?_
        refine q_iload_n rfl rfl ?_
        have hI_112 := iw_41_0 (v := 0) hI ⟨by decide, by decide⟩
        refine v_cv rfl rfl rfl rfl (by decide) ⟨⟨rfl, rfl⟩, by decide, rfl⟩ (Nat.le_of_ble_eq_true rfl) (Nat.le_of_ble_eq_true rfl) (s_163 (a1 := a1) hI_112 (show 0 ≤ a1 ∧ a1 ≤ 600 from by omega) (fun c_113 hI_114 hF_115 h_116 => ?_))
        refine bk_inl ?_
        have h_117 := ir_41_2 hI_114
        have h_118 := ir_41_3 hI_114
        have h_119 := ir_41_4 hI_114
        have h_120 := ir_41_5 hI_114
        have h_121 := ir_41_7 hI_114
        refine q_iconst rfl ?_
        refine q_istore_n rfl (by decide) ?_
        refine Wp_ls [(0, .ref 41), (1, vi a1), (2, vi 0)] (lsub_cons rfl (lsub_cons rfl (lsub_cons rfl lsub_nil))) ?_
        exact (s_206_l (sc := sc) (d := d) hI ha1 K 1214) c_113 0 hI_114 (fun a j hm => (hF_115 a j (by omega)).trans (up_b (by omega))) ⟨by decide, by decide⟩ (by omega) (by omega)

