/-! ===== contracts 13 ===== -/
set_option maxRecDepth 100000 in
set_option maxHeartbeats 4000000 in
theorem s_176 {sc : List Int32} {e : Int} {d u P Q : Nat} {c : ME} {o : Int} {Z : AR → Prop} (hI : Iv u e P Q c) (ho : 0 ≤ o ∧ o ≤ 6) (hW : Nw c) (hq0 : (c 41 5 = (-1))) (hq1 : (c 41 4 ≤ c 41 3)) (hq2 : (c 41 3 ≤ 150)) (hq3 : (c 41 29 ≤ c 41 4)) (hq4 : (c 41 7 = o)) (H174 : ∀ (d9 : Nat) (c : ME) (Z : AR → Prop), d ≤ d9 → o + 1 ≤ 6 → Iv u e P Q c → Nw c → ((c 41 5 = (-1))) → ((c 41 4 ≤ c 41 3)) → ((c 41 3 ≤ 150)) → ((c 41 29 ≤ c 41 4)) → (c 41 7 = o + 1) → (∀ c2 : ME, Iv u e P Q c2 → (∀ (a : Nat) (j : Int), ¬ ((a = 41 ∧ j = 4) ∨ (a = 41 ∧ j = 5) ∨ (a = 41 ∧ j = 6) ∨ (a = 41 ∧ j = 7) ∨ (a = 41 ∧ j = 29) ∨ a = 50 ∨ a = 51) → c2 a j = c a j) → Nw c2 → ((c2 41 4 ≥ c 41 4)) → ((c2 41 7 = c 41 7)) → ((c 41 4 + c2 41 29 ≤ c 41 29 + c2 41 4)) → ((c2 41 5 < (-1)) ∨ (c2 41 5 > (-1)) ∨ (c2 41 4 ≤ c 41 3)) → ((c2 41 5 < (-1)) ∨ (c2 41 5 > (-1)) ∨ (Nh c2 = Nh c + 1)) → Z (.inl none, Wd P Q P P c2, 0, 0)) → Wp sc (d9 + 12) 174 0 [(0, .ref 41)] [] (Wd P Q P P c) 0 0 Z) (K : ∀ (c2 : ME), Iv u e P Q c2 → (∀ (a : Nat) (j : Int), ¬ ((a = 41 ∧ j = 4) ∨ (a = 41 ∧ j = 5) ∨ (a = 41 ∧ j = 6) ∨ (a = 41 ∧ j = 7) ∨ (a = 41 ∧ j = 29) ∨ a = 50 ∨ a = 51) → c2 a j = c a j) → Nw c2 → ((c2 41 4 ≥ c 41 4)) → ((c2 41 7 = c 41 7)) → ((c 41 4 + c2 41 29 ≤ c 41 29 + c2 41 4)) → ((c2 41 5 < (-1)) ∨ (c2 41 5 > (-1)) ∨ (c2 41 4 ≤ c 41 3)) → ((c2 41 5 < (-1)) ∨ (c2 41 5 > (-1)) ∨ (Nh c2 = Nh c + 1)) → Z (.inl (none), Wd P Q P P c2, 0, 0)) : Wp sc (d + 14) 176 0 [(0, .ref 41)] [] (Wd P Q P P c) 0 0 Z := by
  have hP := iv_P hI
  have hQ := iv_Q hI
  have h_1 := ir_41_5 hI
  have h_2 := ir_41_3 hI
  have h_3 := ir_41_4 hI
  have h_4 := ir_41_29 hI
  have h_5 := ir_41_7 hI
  refine q_aload_n rfl rfl ?_
  refine v_cv rfl rfl rfl rfl (by decide) ⟨⟨rfl, rfl⟩, by decide, rfl⟩ (Nat.le_of_ble_eq_true rfl) (Nat.le_of_ble_eq_true rfl) ?_
  refine q_aload_n rfl rfl ?_
  refine v_gi (z := 5) (v := c 41 5) rfl rfl rfl (by decide) rfl rfl rfl ?_
  refine q_iconst rfl ?_
  refine v_ic_ne_f (t := 12) rfl (by decide) (by omega) ?_
  refine q_iconst rfl ?_
  refine q_goto (t := 13) rfl (by decide) ?_
  refine v_zret rfl rfl (by omega) ?_
  refine bk_inl ?_
  refine v_if_ne_t (t := 8) rfl (by decide) (by decide) ?_
  refine q_aload_n rfl rfl ?_
  refine v_cv rfl rfl rfl rfl (by decide) ⟨⟨rfl, rfl⟩, by decide, rfl⟩ (Nat.le_of_ble_eq_true rfl) (Nat.le_of_ble_eq_true rfl) (s_154 hI (fun c_6 y_9 hI_7 hF_8 hy_9 h_10 h_11 h_12 h_13 => ?_))
  refine bk_inl ?_
  have h_14 := ir_41_4 hI_7
  have h_15 := ir_43 hI (c_6 41 4)
  refine v_bip rfl (by decide) ?_
  by_cases h_16 : y_9 ≠ 40
  · refine v_ic_ne_t (t := 45) rfl (by decide) (by omega) ?_
    refine q_aload_n rfl rfl ?_
    have h_17 : c_6 41 3 = c 41 3 := (hF_8 41 3 (by omega))
    refine v_cv rfl rfl rfl rfl (by decide) ⟨⟨rfl, rfl⟩, by decide, rfl⟩ (Nat.le_of_ble_eq_true rfl) (Nat.le_of_ble_eq_true rfl) (s_154 hI_7 (fun c_18 y_21 hI_19 hF_20 hy_21 h_22 h_23 h_24 h_25 => ?_))
    refine bk_inl ?_
    have h_26 := ir_41_4 hI_19
    have h_27 := ir_43 hI (c_18 41 4)
    have h_28 : c_6 43 (c_18 41 4) = c 43 (c_18 41 4) := (hF_8 43 (c_18 41 4) (by omega))
    refine q_call rfl rfl rfl rfl ?_
    refine q_iload_n rfl rfl ?_
    refine v_bip rfl (by decide) ?_
    by_cases h_29 : y_21 < 48
    · refine v_ic_lt_t (t := 16) rfl (by decide) (by omega) ?_
      refine q_iconst rfl ?_
      refine v_zret rfl rfl (by omega) ?_
      refine bk_inl ?_
      refine v_if_eq_t (t := 71) rfl (by decide) (by decide) ?_
      refine q_aload_n rfl rfl ?_
      have h_30 : c_18 41 3 = c 41 3 := ((hF_20 41 3 (by omega)).trans (hF_8 41 3 (by omega)))
      refine v_cv rfl rfl rfl rfl (by decide) ⟨⟨rfl, rfl⟩, by decide, rfl⟩ (Nat.le_of_ble_eq_true rfl) (Nat.le_of_ble_eq_true rfl) (s_157 hI_19 (fun c_31 y_34 hI_32 hF_33 hy_34 h_35 h_36 h_37 h_38 h_39 => ?_))
      refine bk_inl ?_
      have h_40 := ir_41_4 hI_32
      have h_41 := ir_43 hI (c_31 41 4)
      have h_42 : c_18 43 (c_31 41 4) = c 43 (c_31 41 4) := ((hF_20 43 (c_31 41 4) (by omega)).trans (hF_8 43 (c_31 41 4) (by omega)))
      have h_43 := ir_43 hI (c_31 41 4 + 1)
      have h_44 : c_18 43 (c_31 41 4 + 1) = c 43 (c_31 41 4 + 1) := ((hF_20 43 (c_31 41 4 + 1) (by omega)).trans (hF_8 43 (c_31 41 4 + 1) (by omega)))
      have h_45 := ir_43 hI (c_31 41 4 + 2)
      have h_46 : c_18 43 (c_31 41 4 + 2) = c 43 (c_31 41 4 + 2) := ((hF_20 43 (c_31 41 4 + 2) (by omega)).trans (hF_8 43 (c_31 41 4 + 2) (by omega)))
      refine q_ldc_w_s rfl rfl rfl (by decide) ?_
      refine q_call rfl rfl rfl rfl (s_158_20 ?_)
      refine bk_inl ?_
      by_cases h_47 : y_34 ≠ 12748404
      · refine v_ic_ne_t (t := 94) rfl (by decide) (by omega) ?_
        refine q_aload_n rfl rfl ?_
        have h_48 : c_31 41 3 = c 41 3 := ((hF_33 41 3 (by omega)).trans ((hF_20 41 3 (by omega)).trans (hF_8 41 3 (by omega))))
        refine v_cv rfl rfl rfl rfl (by decide) ⟨⟨rfl, rfl⟩, by decide, rfl⟩ (Nat.le_of_ble_eq_true rfl) (Nat.le_of_ble_eq_true rfl) (s_157 hI_32 (fun c_49 y_52 hI_50 hF_51 hy_52 h_53 h_54 h_55 h_56 h_57 => ?_))
        refine bk_inl ?_
        have h_58 := ir_41_4 hI_50
        have h_59 := ir_43 hI (c_49 41 4)
        have h_60 : c_31 43 (c_49 41 4) = c 43 (c_49 41 4) := ((hF_33 43 (c_49 41 4) (by omega)).trans ((hF_20 43 (c_49 41 4) (by omega)).trans (hF_8 43 (c_49 41 4) (by omega))))
        have h_61 := ir_43 hI (c_49 41 4 + 1)
        have h_62 : c_31 43 (c_49 41 4 + 1) = c 43 (c_49 41 4 + 1) := ((hF_33 43 (c_49 41 4 + 1) (by omega)).trans ((hF_20 43 (c_49 41 4 + 1) (by omega)).trans (hF_8 43 (c_49 41 4 + 1) (by omega))))
        have h_63 := ir_43 hI (c_49 41 4 + 2)
        have h_64 : c_31 43 (c_49 41 4 + 2) = c 43 (c_49 41 4 + 2) := ((hF_33 43 (c_49 41 4 + 2) (by omega)).trans ((hF_20 43 (c_49 41 4 + 2) (by omega)).trans (hF_8 43 (c_49 41 4 + 2) (by omega))))
        refine q_ldc_w_s rfl rfl rfl (by decide) ?_
        refine q_call rfl rfl rfl rfl (s_158_21 ?_)
        refine bk_inl ?_
        by_cases h_65 : y_52 ≠ 441972
        · refine v_ic_ne_t (t := 117) rfl (by decide) (by omega) ?_
          refine q_aload_n rfl rfl ?_
          have h_66 : c_49 41 3 = c 41 3 := ((hF_51 41 3 (by omega)).trans ((hF_33 41 3 (by omega)).trans ((hF_20 41 3 (by omega)).trans (hF_8 41 3 (by omega)))))
          refine v_cv rfl rfl rfl rfl (by decide) ⟨⟨rfl, rfl⟩, by decide, rfl⟩ (Nat.le_of_ble_eq_true rfl) (Nat.le_of_ble_eq_true rfl) (s_172 hI_50 (fun c_67 y_70 hI_68 hF_69 hy_70 h_71 h_72 h_73 h_74 => ?_))
          refine bk_inl ?_
          have h_75 := ir_41_4 hI_68
          have h_76 := ir_43 hI (c_67 41 4)
          have h_77 : c_49 43 (c_67 41 4) = c 43 (c_67 41 4) := ((hF_51 43 (c_67 41 4) (by omega)).trans ((hF_33 43 (c_67 41 4) (by omega)).trans ((hF_20 43 (c_67 41 4) (by omega)).trans (hF_8 43 (c_67 41 4) (by omega)))))
          refine q_istore_n rfl (by decide) ?_
          refine q_iload_n rfl rfl ?_
          refine q_iconst rfl ?_
          by_cases h_78 : y_70 ≠ (-1)
          · refine v_ic_ne_t (t := 136) rfl (by decide) (by omega) ?_
            refine q_aload_n rfl rfl ?_
            refine v_cv rfl rfl rfl rfl (by decide) ⟨⟨rfl, rfl⟩, by decide, rfl⟩ (Nat.le_of_ble_eq_true rfl) (Nat.le_of_ble_eq_true rfl) ?_
            refine q_aload_n rfl rfl ?_
            refine v_gi (z := 5) (v := c 41 5) rfl rfl rfl (by decide) rfl rfl ((hF_69 41 5 (by omega)).trans ((hF_51 41 5 (by omega)).trans ((hF_33 41 5 (by omega)).trans ((hF_20 41 5 (by omega)).trans (hF_8 41 5 (by omega)))))) ?_
            refine q_iconst rfl ?_
            refine v_ic_ne_f (t := 12) rfl (by decide) (by omega) ?_
            refine q_iconst rfl ?_
            refine q_goto (t := 13) rfl (by decide) ?_
            refine v_zret rfl rfl (by omega) ?_
            refine bk_inl ?_
            refine v_if_ne_t (t := 144) rfl (by decide) (by decide) ?_
            refine q_aload_n rfl rfl ?_
            have h_79 : c_67 41 3 = c 41 3 := ((hF_69 41 3 (by omega)).trans ((hF_51 41 3 (by omega)).trans ((hF_33 41 3 (by omega)).trans ((hF_20 41 3 (by omega)).trans (hF_8 41 3 (by omega))))))
            have h_80 : c_67 43 (c_67 41 4) = c 43 (c_67 41 4) := ((hF_69 43 (c_67 41 4) (by omega)).trans ((hF_51 43 (c_67 41 4) (by omega)).trans ((hF_33 43 (c_67 41 4) (by omega)).trans ((hF_20 43 (c_67 41 4) (by omega)).trans (hF_8 43 (c_67 41 4) (by omega))))))
            have h_81 := ir_43 hI (c_67 41 4 + 1)
            have h_82 : c_67 43 (c_67 41 4 + 1) = c 43 (c_67 41 4 + 1) := ((hF_69 43 (c_67 41 4 + 1) (by omega)).trans ((hF_51 43 (c_67 41 4 + 1) (by omega)).trans ((hF_33 43 (c_67 41 4 + 1) (by omega)).trans ((hF_20 43 (c_67 41 4 + 1) (by omega)).trans (hF_8 43 (c_67 41 4 + 1) (by omega))))))
            have h_83 := ir_43 hI (c_67 41 4 + 2)
            have h_84 : c_67 43 (c_67 41 4 + 2) = c 43 (c_67 41 4 + 2) := ((hF_69 43 (c_67 41 4 + 2) (by omega)).trans ((hF_51 43 (c_67 41 4 + 2) (by omega)).trans ((hF_33 43 (c_67 41 4 + 2) (by omega)).trans ((hF_20 43 (c_67 41 4 + 2) (by omega)).trans (hF_8 43 (c_67 41 4 + 2) (by omega))))))
            refine v_cv rfl rfl rfl rfl (by decide) ⟨⟨rfl, rfl⟩, by decide, rfl⟩ (Nat.le_of_ble_eq_true rfl) (Nat.le_of_ble_eq_true rfl) (s_159 hI_68 (fun c_85 hI_86 hF_87 h_88 h_89 h_90 h_91 => ?_))
            refine bk_inl ?_
            have h_92 := ir_41_4 hI_86
            refine q_aload_n rfl rfl ?_
            refine q_iconst rfl ?_
            refine q_iload_n rfl rfl ?_
            have h_93 : c_85 41 29 = c 41 29 := ((hF_87 41 29 (by omega)).trans ((hF_69 41 29 (by omega)).trans ((hF_51 41 29 (by omega)).trans ((hF_33 41 29 (by omega)).trans ((hF_20 41 29 (by omega)).trans (hF_8 41 29 (by omega)))))))
            have h_94 : c_85 41 5 = c 41 5 := ((hF_87 41 5 (by omega)).trans ((hF_69 41 5 (by omega)).trans ((hF_51 41 5 (by omega)).trans ((hF_33 41 5 (by omega)).trans ((hF_20 41 5 (by omega)).trans (hF_8 41 5 (by omega)))))))
            obtain ⟨hW_95, hN_96⟩ : Nw c_85 ∧ Nh c_85 = Nh c := nh_fr hW (fun j => (hF_87 50 j (by omega)).trans ((hF_69 50 j (by omega)).trans ((hF_51 50 j (by omega)).trans ((hF_33 50 j (by omega)).trans ((hF_20 50 j (by omega)).trans (hF_8 50 j (by omega))))))) (fun j => (hF_87 51 j (by omega)).trans ((hF_69 51 j (by omega)).trans ((hF_51 51 j (by omega)).trans ((hF_33 51 j (by omega)).trans ((hF_20 51 j (by omega)).trans (hF_8 51 j (by omega))))))) ((hF_87 41 29 (by omega)).trans ((hF_69 41 29 (by omega)).trans ((hF_51 41 29 (by omega)).trans ((hF_33 41 29 (by omega)).trans ((hF_20 41 29 (by omega)).trans (hF_8 41 29 (by omega)))))))
            refine v_cv rfl rfl rfl rfl (by decide) ⟨⟨rfl, rfl⟩, by decide, rfl⟩ (Nat.le_of_ble_eq_true rfl) (Nat.le_of_ble_eq_true rfl) (s_170 (a1 := 1) (a2 := y_70) hI_86 (show 0 ≤ 1 ∧ 1 ≤ 8 from by omega) (show 0 ≤ y_70 ∧ y_70 ≤ 999 from by omega) hW_95 (by omega) (by omega) (by omega) (fun c_97 hI_98 hF_99 hW_100 h_101 h_102 h_103 h_104 => ?_))
            refine bk_inl ?_
            have h_105 := ir_41_29 hI_98
            refine q_vret rfl rfl ?_
            have h_106 : c_97 41 4 = c_85 41 4 := (hF_99 41 4 (by omega))
            have h_107 : c_97 41 5 = c 41 5 := ((hF_99 41 5 (by omega)).trans ((hF_87 41 5 (by omega)).trans ((hF_69 41 5 (by omega)).trans ((hF_51 41 5 (by omega)).trans ((hF_33 41 5 (by omega)).trans ((hF_20 41 5 (by omega)).trans (hF_8 41 5 (by omega))))))))
            have h_108 : c_97 41 7 = c 41 7 := ((hF_99 41 7 (by omega)).trans ((hF_87 41 7 (by omega)).trans ((hF_69 41 7 (by omega)).trans ((hF_51 41 7 (by omega)).trans ((hF_33 41 7 (by omega)).trans ((hF_20 41 7 (by omega)).trans (hF_8 41 7 (by omega))))))))
            exact K c_97 hI_98 (fun a j hm => (hF_99 a j (by omega)).trans ((hF_87 a j (by omega)).trans ((hF_69 a j (by omega)).trans ((hF_51 a j (by omega)).trans ((hF_33 a j (by omega)).trans ((hF_20 a j (by omega)).trans (hF_8 a j (by omega)))))))) hW_100 (by omega) (by omega) (by omega) (by omega) (by omega)
          · refine v_ic_ne_f (t := 136) rfl (by decide) (by omega) ?_
            refine q_aload_n rfl rfl ?_
            refine q_iconst rfl ?_
            refine q_aload_n rfl rfl ?_
            refine v_gi (z := 4) (v := c_67 41 4) rfl rfl rfl (by decide) rfl rfl rfl ?_
            refine v_cv rfl rfl rfl rfl (by decide) ⟨⟨rfl, rfl⟩, by decide, rfl⟩ (Nat.le_of_ble_eq_true rfl) (Nat.le_of_ble_eq_true rfl) (s_153 (a1 := 1) (a2 := c_67 41 4) hI_68 (show 1 ≤ 1 ∧ 1 ≤ 3 from by omega) (show 0 ≤ c_67 41 4 ∧ c_67 41 4 ≤ 605 from by omega) (fun c_109 hI_110 hF_111 h_112 => ?_))
            refine bk_inl ?_
            have h_113 := ir_41_5 hI_110
            refine q_aload_n rfl rfl ?_
            refine v_cv rfl rfl rfl rfl (by decide) ⟨⟨rfl, rfl⟩, by decide, rfl⟩ (Nat.le_of_ble_eq_true rfl) (Nat.le_of_ble_eq_true rfl) ?_
            refine q_aload_n rfl rfl ?_
            refine v_gi (z := 5) (v := c_109 41 5) rfl rfl rfl (by decide) rfl rfl rfl ?_
            refine q_iconst rfl ?_
            refine v_ic_ne_t (t := 12) rfl (by decide) (by omega) ?_
            refine q_iconst rfl ?_
            refine v_zret rfl rfl (by omega) ?_
            refine bk_inl ?_
            refine v_if_ne_f (t := 144) rfl (by decide) (by decide) ?_
            refine q_vret rfl rfl ?_
            obtain ⟨hW_114, hN_115⟩ : Nw c_109 ∧ Nh c_109 = Nh c := nh_fr hW (fun j => (hF_111 50 j (by omega)).trans ((hF_69 50 j (by omega)).trans ((hF_51 50 j (by omega)).trans ((hF_33 50 j (by omega)).trans ((hF_20 50 j (by omega)).trans (hF_8 50 j (by omega))))))) (fun j => (hF_111 51 j (by omega)).trans ((hF_69 51 j (by omega)).trans ((hF_51 51 j (by omega)).trans ((hF_33 51 j (by omega)).trans ((hF_20 51 j (by omega)).trans (hF_8 51 j (by omega))))))) ((hF_111 41 29 (by omega)).trans ((hF_69 41 29 (by omega)).trans ((hF_51 41 29 (by omega)).trans ((hF_33 41 29 (by omega)).trans ((hF_20 41 29 (by omega)).trans (hF_8 41 29 (by omega)))))))
            have h_116 : c_109 41 29 = c 41 29 := ((hF_111 41 29 (by omega)).trans ((hF_69 41 29 (by omega)).trans ((hF_51 41 29 (by omega)).trans ((hF_33 41 29 (by omega)).trans ((hF_20 41 29 (by omega)).trans (hF_8 41 29 (by omega)))))))
            have h_117 : c_109 41 4 = c_67 41 4 := (hF_111 41 4 (by omega))
            have h_118 : c_109 41 7 = c 41 7 := ((hF_111 41 7 (by omega)).trans ((hF_69 41 7 (by omega)).trans ((hF_51 41 7 (by omega)).trans ((hF_33 41 7 (by omega)).trans ((hF_20 41 7 (by omega)).trans (hF_8 41 7 (by omega)))))))
            exact K c_109 hI_110 (fun a j hm => (hF_111 a j (by omega)).trans ((hF_69 a j (by omega)).trans ((hF_51 a j (by omega)).trans ((hF_33 a j (by omega)).trans ((hF_20 a j (by omega)).trans (hF_8 a j (by omega))))))) hW_114 (by omega) (by omega) (by omega) (by omega) (by omega)
        · refine v_ic_ne_f (t := 117) rfl (by decide) (by omega) ?_
          refine q_aload_n rfl rfl ?_
          refine q_iconst rfl ?_
          refine v_bip rfl (by decide) ?_
          have h_119 : c_49 41 5 = c 41 5 := ((hF_51 41 5 (by omega)).trans ((hF_33 41 5 (by omega)).trans ((hF_20 41 5 (by omega)).trans (hF_8 41 5 (by omega)))))
          have h_120 : c_49 41 3 = c 41 3 := ((hF_51 41 3 (by omega)).trans ((hF_33 41 3 (by omega)).trans ((hF_20 41 3 (by omega)).trans (hF_8 41 3 (by omega)))))
          have h_121 : c_49 41 29 = c 41 29 := ((hF_51 41 29 (by omega)).trans ((hF_33 41 29 (by omega)).trans ((hF_20 41 29 (by omega)).trans (hF_8 41 29 (by omega)))))
          have h_122 : c_49 41 7 = c 41 7 := ((hF_51 41 7 (by omega)).trans ((hF_33 41 7 (by omega)).trans ((hF_20 41 7 (by omega)).trans (hF_8 41 7 (by omega)))))
          obtain ⟨hW_123, hN_124⟩ : Nw c_49 ∧ Nh c_49 = Nh c := nh_fr hW (fun j => (hF_51 50 j (by omega)).trans ((hF_33 50 j (by omega)).trans ((hF_20 50 j (by omega)).trans (hF_8 50 j (by omega))))) (fun j => (hF_51 51 j (by omega)).trans ((hF_33 51 j (by omega)).trans ((hF_20 51 j (by omega)).trans (hF_8 51 j (by omega))))) ((hF_51 41 29 (by omega)).trans ((hF_33 41 29 (by omega)).trans ((hF_20 41 29 (by omega)).trans (hF_8 41 29 (by omega)))))
          refine v_cv rfl rfl rfl rfl (by decide) ⟨⟨rfl, rfl⟩, by decide, rfl⟩ (Nat.le_of_ble_eq_true rfl) (Nat.le_of_ble_eq_true rfl) (s_175 (o := o) (a1 := 4) (a2 := 7) hI_50 (show 0 ≤ o ∧ o ≤ 6 from by omega) (show 4 ≤ 4 ∧ 4 ≤ 5 from by omega) (show 6 ≤ 7 ∧ 7 ≤ 7 from by omega) hW_123 (by omega) (by omega) (by omega) (by omega) (by omega) (by omega) H174 (fun c_125 hI_126 hF_127 hW_128 h_129 h_130 h_131 h_132 h_133 => ?_))
          refine bk_inl ?_
          have h_134 := ir_41_4 hI_126
          have h_135 := ir_41_7 hI_126
          have h_136 := ir_41_29 hI_126
          have h_137 := ir_41_5 hI_126
          refine q_goto (t := 154) rfl (by decide) ?_
          refine q_vret rfl rfl ?_
          exact K c_125 hI_126 (fun a j hm => (hF_127 a j (by omega)).trans ((hF_51 a j (by omega)).trans ((hF_33 a j (by omega)).trans ((hF_20 a j (by omega)).trans (hF_8 a j (by omega)))))) hW_128 (by omega) (by omega) (by omega) (by omega) (by omega)
      · refine v_ic_ne_f (t := 94) rfl (by decide) (by omega) ?_
        refine q_aload_n rfl rfl ?_
        refine q_iconst rfl ?_
        refine v_bip rfl (by decide) ?_
        have h_138 : c_31 41 5 = c 41 5 := ((hF_33 41 5 (by omega)).trans ((hF_20 41 5 (by omega)).trans (hF_8 41 5 (by omega))))
        have h_139 : c_31 41 3 = c 41 3 := ((hF_33 41 3 (by omega)).trans ((hF_20 41 3 (by omega)).trans (hF_8 41 3 (by omega))))
        have h_140 : c_31 41 29 = c 41 29 := ((hF_33 41 29 (by omega)).trans ((hF_20 41 29 (by omega)).trans (hF_8 41 29 (by omega))))
        have h_141 : c_31 41 7 = c 41 7 := ((hF_33 41 7 (by omega)).trans ((hF_20 41 7 (by omega)).trans (hF_8 41 7 (by omega))))
        obtain ⟨hW_142, hN_143⟩ : Nw c_31 ∧ Nh c_31 = Nh c := nh_fr hW (fun j => (hF_33 50 j (by omega)).trans ((hF_20 50 j (by omega)).trans (hF_8 50 j (by omega)))) (fun j => (hF_33 51 j (by omega)).trans ((hF_20 51 j (by omega)).trans (hF_8 51 j (by omega)))) ((hF_33 41 29 (by omega)).trans ((hF_20 41 29 (by omega)).trans (hF_8 41 29 (by omega))))
        refine v_cv rfl rfl rfl rfl (by decide) ⟨⟨rfl, rfl⟩, by decide, rfl⟩ (Nat.le_of_ble_eq_true rfl) (Nat.le_of_ble_eq_true rfl) (s_175 (o := o) (a1 := 5) (a2 := 6) hI_32 (show 0 ≤ o ∧ o ≤ 6 from by omega) (show 4 ≤ 5 ∧ 5 ≤ 5 from by omega) (show 6 ≤ 6 ∧ 6 ≤ 7 from by omega) hW_142 (by omega) (by omega) (by omega) (by omega) (by omega) (by omega) H174 (fun c_144 hI_145 hF_146 hW_147 h_148 h_149 h_150 h_151 h_152 => ?_))
        refine bk_inl ?_
        have h_153 := ir_41_4 hI_145
        have h_154 := ir_41_7 hI_145
        have h_155 := ir_41_29 hI_145
        have h_156 := ir_41_5 hI_145
        refine q_goto (t := 154) rfl (by decide) ?_
        refine q_vret rfl rfl ?_
        exact K c_144 hI_145 (fun a j hm => (hF_146 a j (by omega)).trans ((hF_33 a j (by omega)).trans ((hF_20 a j (by omega)).trans (hF_8 a j (by omega))))) hW_147 (by omega) (by omega) (by omega) (by omega) (by omega)
    · refine v_ic_lt_f (t := 16) rfl (by decide) (by omega) ?_
      refine q_iload_n rfl rfl ?_
      refine v_bip rfl (by decide) ?_
      by_cases h_157 : y_21 > 57
      · refine v_ic_gt_t (t := 16) rfl (by decide) (by omega) ?_
        refine q_iconst rfl ?_
        refine v_zret rfl rfl (by omega) ?_
        refine bk_inl ?_
        refine v_if_eq_t (t := 71) rfl (by decide) (by decide) ?_
        refine q_aload_n rfl rfl ?_
        have h_158 : c_18 41 3 = c 41 3 := ((hF_20 41 3 (by omega)).trans (hF_8 41 3 (by omega)))
        refine v_cv rfl rfl rfl rfl (by decide) ⟨⟨rfl, rfl⟩, by decide, rfl⟩ (Nat.le_of_ble_eq_true rfl) (Nat.le_of_ble_eq_true rfl) (s_157 hI_19 (fun c_159 y_162 hI_160 hF_161 hy_162 h_163 h_164 h_165 h_166 h_167 => ?_))
        refine bk_inl ?_
        have h_168 := ir_41_4 hI_160
        have h_169 := ir_43 hI (c_159 41 4)
        have h_170 : c_18 43 (c_159 41 4) = c 43 (c_159 41 4) := ((hF_20 43 (c_159 41 4) (by omega)).trans (hF_8 43 (c_159 41 4) (by omega)))
        have h_171 := ir_43 hI (c_159 41 4 + 1)
        have h_172 : c_18 43 (c_159 41 4 + 1) = c 43 (c_159 41 4 + 1) := ((hF_20 43 (c_159 41 4 + 1) (by omega)).trans (hF_8 43 (c_159 41 4 + 1) (by omega)))
        have h_173 := ir_43 hI (c_159 41 4 + 2)
        have h_174 : c_18 43 (c_159 41 4 + 2) = c 43 (c_159 41 4 + 2) := ((hF_20 43 (c_159 41 4 + 2) (by omega)).trans (hF_8 43 (c_159 41 4 + 2) (by omega)))
        refine q_ldc_w_s rfl rfl rfl (by decide) ?_
        refine q_call rfl rfl rfl rfl (s_158_20 ?_)
        refine bk_inl ?_
        by_cases h_175 : y_162 ≠ 12748404
        · refine v_ic_ne_t (t := 94) rfl (by decide) (by omega) ?_
          refine q_aload_n rfl rfl ?_
          have h_176 : c_159 41 3 = c 41 3 := ((hF_161 41 3 (by omega)).trans ((hF_20 41 3 (by omega)).trans (hF_8 41 3 (by omega))))
          refine v_cv rfl rfl rfl rfl (by decide) ⟨⟨rfl, rfl⟩, by decide, rfl⟩ (Nat.le_of_ble_eq_true rfl) (Nat.le_of_ble_eq_true rfl) (s_157 hI_160 (fun c_177 y_180 hI_178 hF_179 hy_180 h_181 h_182 h_183 h_184 h_185 => ?_))
          refine bk_inl ?_
          have h_186 := ir_41_4 hI_178
          have h_187 := ir_43 hI (c_177 41 4)
          have h_188 : c_159 43 (c_177 41 4) = c 43 (c_177 41 4) := ((hF_161 43 (c_177 41 4) (by omega)).trans ((hF_20 43 (c_177 41 4) (by omega)).trans (hF_8 43 (c_177 41 4) (by omega))))
          have h_189 := ir_43 hI (c_177 41 4 + 1)
          have h_190 : c_159 43 (c_177 41 4 + 1) = c 43 (c_177 41 4 + 1) := ((hF_161 43 (c_177 41 4 + 1) (by omega)).trans ((hF_20 43 (c_177 41 4 + 1) (by omega)).trans (hF_8 43 (c_177 41 4 + 1) (by omega))))
          have h_191 := ir_43 hI (c_177 41 4 + 2)
          have h_192 : c_159 43 (c_177 41 4 + 2) = c 43 (c_177 41 4 + 2) := ((hF_161 43 (c_177 41 4 + 2) (by omega)).trans ((hF_20 43 (c_177 41 4 + 2) (by omega)).trans (hF_8 43 (c_177 41 4 + 2) (by omega))))
          refine q_ldc_w_s rfl rfl rfl (by decide) ?_
          refine q_call rfl rfl rfl rfl (s_158_21 ?_)
          refine bk_inl ?_
          by_cases h_193 : y_180 ≠ 441972
          · refine v_ic_ne_t (t := 117) rfl (by decide) (by omega) ?_
            refine q_aload_n rfl rfl ?_
            have h_194 : c_177 41 3 = c 41 3 := ((hF_179 41 3 (by omega)).trans ((hF_161 41 3 (by omega)).trans ((hF_20 41 3 (by omega)).trans (hF_8 41 3 (by omega)))))
            refine v_cv rfl rfl rfl rfl (by decide) ⟨⟨rfl, rfl⟩, by decide, rfl⟩ (Nat.le_of_ble_eq_true rfl) (Nat.le_of_ble_eq_true rfl) (s_172 hI_178 (fun c_195 y_198 hI_196 hF_197 hy_198 h_199 h_200 h_201 h_202 => ?_))
            refine bk_inl ?_
            have h_203 := ir_41_4 hI_196
            have h_204 := ir_43 hI (c_195 41 4)
            have h_205 : c_177 43 (c_195 41 4) = c 43 (c_195 41 4) := ((hF_179 43 (c_195 41 4) (by omega)).trans ((hF_161 43 (c_195 41 4) (by omega)).trans ((hF_20 43 (c_195 41 4) (by omega)).trans (hF_8 43 (c_195 41 4) (by omega)))))
            refine q_istore_n rfl (by decide) ?_
            refine q_iload_n rfl rfl ?_
            refine q_iconst rfl ?_
            by_cases h_206 : y_198 ≠ (-1)
            · refine v_ic_ne_t (t := 136) rfl (by decide) (by omega) ?_
              refine q_aload_n rfl rfl ?_
              refine v_cv rfl rfl rfl rfl (by decide) ⟨⟨rfl, rfl⟩, by decide, rfl⟩ (Nat.le_of_ble_eq_true rfl) (Nat.le_of_ble_eq_true rfl) ?_
              refine q_aload_n rfl rfl ?_
              refine v_gi (z := 5) (v := c 41 5) rfl rfl rfl (by decide) rfl rfl ((hF_197 41 5 (by omega)).trans ((hF_179 41 5 (by omega)).trans ((hF_161 41 5 (by omega)).trans ((hF_20 41 5 (by omega)).trans (hF_8 41 5 (by omega)))))) ?_
              refine q_iconst rfl ?_
              refine v_ic_ne_f (t := 12) rfl (by decide) (by omega) ?_
              refine q_iconst rfl ?_
              refine q_goto (t := 13) rfl (by decide) ?_
              refine v_zret rfl rfl (by omega) ?_
              refine bk_inl ?_
              refine v_if_ne_t (t := 144) rfl (by decide) (by decide) ?_
              refine q_aload_n rfl rfl ?_
              have h_207 : c_195 41 3 = c 41 3 := ((hF_197 41 3 (by omega)).trans ((hF_179 41 3 (by omega)).trans ((hF_161 41 3 (by omega)).trans ((hF_20 41 3 (by omega)).trans (hF_8 41 3 (by omega))))))
              have h_208 : c_195 43 (c_195 41 4) = c 43 (c_195 41 4) := ((hF_197 43 (c_195 41 4) (by omega)).trans ((hF_179 43 (c_195 41 4) (by omega)).trans ((hF_161 43 (c_195 41 4) (by omega)).trans ((hF_20 43 (c_195 41 4) (by omega)).trans (hF_8 43 (c_195 41 4) (by omega))))))
              have h_209 := ir_43 hI (c_195 41 4 + 1)
              have h_210 : c_195 43 (c_195 41 4 + 1) = c 43 (c_195 41 4 + 1) := ((hF_197 43 (c_195 41 4 + 1) (by omega)).trans ((hF_179 43 (c_195 41 4 + 1) (by omega)).trans ((hF_161 43 (c_195 41 4 + 1) (by omega)).trans ((hF_20 43 (c_195 41 4 + 1) (by omega)).trans (hF_8 43 (c_195 41 4 + 1) (by omega))))))
              have h_211 := ir_43 hI (c_195 41 4 + 2)
              have h_212 : c_195 43 (c_195 41 4 + 2) = c 43 (c_195 41 4 + 2) := ((hF_197 43 (c_195 41 4 + 2) (by omega)).trans ((hF_179 43 (c_195 41 4 + 2) (by omega)).trans ((hF_161 43 (c_195 41 4 + 2) (by omega)).trans ((hF_20 43 (c_195 41 4 + 2) (by omega)).trans (hF_8 43 (c_195 41 4 + 2) (by omega))))))
              refine v_cv rfl rfl rfl rfl (by decide) ⟨⟨rfl, rfl⟩, by decide, rfl⟩ (Nat.le_of_ble_eq_true rfl) (Nat.le_of_ble_eq_true rfl) (s_159 hI_196 (fun c_213 hI_214 hF_215 h_216 h_217 h_218 h_219 => ?_))
              refine bk_inl ?_
              have h_220 := ir_41_4 hI_214
              refine q_aload_n rfl rfl ?_
              refine q_iconst rfl ?_
              refine q_iload_n rfl rfl ?_
              have h_221 : c_213 41 29 = c 41 29 := ((hF_215 41 29 (by omega)).trans ((hF_197 41 29 (by omega)).trans ((hF_179 41 29 (by omega)).trans ((hF_161 41 29 (by omega)).trans ((hF_20 41 29 (by omega)).trans (hF_8 41 29 (by omega)))))))
              have h_222 : c_213 41 5 = c 41 5 := ((hF_215 41 5 (by omega)).trans ((hF_197 41 5 (by omega)).trans ((hF_179 41 5 (by omega)).trans ((hF_161 41 5 (by omega)).trans ((hF_20 41 5 (by omega)).trans (hF_8 41 5 (by omega)))))))
              obtain ⟨hW_223, hN_224⟩ : Nw c_213 ∧ Nh c_213 = Nh c := nh_fr hW (fun j => (hF_215 50 j (by omega)).trans ((hF_197 50 j (by omega)).trans ((hF_179 50 j (by omega)).trans ((hF_161 50 j (by omega)).trans ((hF_20 50 j (by omega)).trans (hF_8 50 j (by omega))))))) (fun j => (hF_215 51 j (by omega)).trans ((hF_197 51 j (by omega)).trans ((hF_179 51 j (by omega)).trans ((hF_161 51 j (by omega)).trans ((hF_20 51 j (by omega)).trans (hF_8 51 j (by omega))))))) ((hF_215 41 29 (by omega)).trans ((hF_197 41 29 (by omega)).trans ((hF_179 41 29 (by omega)).trans ((hF_161 41 29 (by omega)).trans ((hF_20 41 29 (by omega)).trans (hF_8 41 29 (by omega)))))))
              refine v_cv rfl rfl rfl rfl (by decide) ⟨⟨rfl, rfl⟩, by decide, rfl⟩ (Nat.le_of_ble_eq_true rfl) (Nat.le_of_ble_eq_true rfl) (s_170 (a1 := 1) (a2 := y_198) hI_214 (show 0 ≤ 1 ∧ 1 ≤ 8 from by omega) (show 0 ≤ y_198 ∧ y_198 ≤ 999 from by omega) hW_223 (by omega) (by omega) (by omega) (fun c_225 hI_226 hF_227 hW_228 h_229 h_230 h_231 h_232 => ?_))
              refine bk_inl ?_
              have h_233 := ir_41_29 hI_226
              refine q_vret rfl rfl ?_
              have h_234 : c_225 41 4 = c_213 41 4 := (hF_227 41 4 (by omega))
              have h_235 : c_225 41 5 = c 41 5 := ((hF_227 41 5 (by omega)).trans ((hF_215 41 5 (by omega)).trans ((hF_197 41 5 (by omega)).trans ((hF_179 41 5 (by omega)).trans ((hF_161 41 5 (by omega)).trans ((hF_20 41 5 (by omega)).trans (hF_8 41 5 (by omega))))))))
              have h_236 : c_225 41 7 = c 41 7 := ((hF_227 41 7 (by omega)).trans ((hF_215 41 7 (by omega)).trans ((hF_197 41 7 (by omega)).trans ((hF_179 41 7 (by omega)).trans ((hF_161 41 7 (by omega)).trans ((hF_20 41 7 (by omega)).trans (hF_8 41 7 (by omega))))))))
              exact K c_225 hI_226 (fun a j hm => (hF_227 a j (by omega)).trans ((hF_215 a j (by omega)).trans ((hF_197 a j (by omega)).trans ((hF_179 a j (by omega)).trans ((hF_161 a j (by omega)).trans ((hF_20 a j (by omega)).trans (hF_8 a j (by omega)))))))) hW_228 (by omega) (by omega) (by omega) (by omega) (by omega)
            · refine v_ic_ne_f (t := 136) rfl (by decide) (by omega) ?_
              refine q_aload_n rfl rfl ?_
              refine q_iconst rfl ?_
              refine q_aload_n rfl rfl ?_
              refine v_gi (z := 4) (v := c_195 41 4) rfl rfl rfl (by decide) rfl rfl rfl ?_
              refine v_cv rfl rfl rfl rfl (by decide) ⟨⟨rfl, rfl⟩, by decide, rfl⟩ (Nat.le_of_ble_eq_true rfl) (Nat.le_of_ble_eq_true rfl) (s_153 (a1 := 1) (a2 := c_195 41 4) hI_196 (show 1 ≤ 1 ∧ 1 ≤ 3 from by omega) (show 0 ≤ c_195 41 4 ∧ c_195 41 4 ≤ 605 from by omega) (fun c_237 hI_238 hF_239 h_240 => ?_))
              refine bk_inl ?_
              have h_241 := ir_41_5 hI_238
              refine q_aload_n rfl rfl ?_
              refine v_cv rfl rfl rfl rfl (by decide) ⟨⟨rfl, rfl⟩, by decide, rfl⟩ (Nat.le_of_ble_eq_true rfl) (Nat.le_of_ble_eq_true rfl) ?_
              refine q_aload_n rfl rfl ?_
              refine v_gi (z := 5) (v := c_237 41 5) rfl rfl rfl (by decide) rfl rfl rfl ?_
              refine q_iconst rfl ?_
              refine v_ic_ne_t (t := 12) rfl (by decide) (by omega) ?_
              refine q_iconst rfl ?_
              refine v_zret rfl rfl (by omega) ?_
              refine bk_inl ?_
              refine v_if_ne_f (t := 144) rfl (by decide) (by decide) ?_
              refine q_vret rfl rfl ?_
              obtain ⟨hW_242, hN_243⟩ : Nw c_237 ∧ Nh c_237 = Nh c := nh_fr hW (fun j => (hF_239 50 j (by omega)).trans ((hF_197 50 j (by omega)).trans ((hF_179 50 j (by omega)).trans ((hF_161 50 j (by omega)).trans ((hF_20 50 j (by omega)).trans (hF_8 50 j (by omega))))))) (fun j => (hF_239 51 j (by omega)).trans ((hF_197 51 j (by omega)).trans ((hF_179 51 j (by omega)).trans ((hF_161 51 j (by omega)).trans ((hF_20 51 j (by omega)).trans (hF_8 51 j (by omega))))))) ((hF_239 41 29 (by omega)).trans ((hF_197 41 29 (by omega)).trans ((hF_179 41 29 (by omega)).trans ((hF_161 41 29 (by omega)).trans ((hF_20 41 29 (by omega)).trans (hF_8 41 29 (by omega)))))))
              have h_244 : c_237 41 29 = c 41 29 := ((hF_239 41 29 (by omega)).trans ((hF_197 41 29 (by omega)).trans ((hF_179 41 29 (by omega)).trans ((hF_161 41 29 (by omega)).trans ((hF_20 41 29 (by omega)).trans (hF_8 41 29 (by omega)))))))
              have h_245 : c_237 41 4 = c_195 41 4 := (hF_239 41 4 (by omega))
              have h_246 : c_237 41 7 = c 41 7 := ((hF_239 41 7 (by omega)).trans ((hF_197 41 7 (by omega)).trans ((hF_179 41 7 (by omega)).trans ((hF_161 41 7 (by omega)).trans ((hF_20 41 7 (by omega)).trans (hF_8 41 7 (by omega)))))))
              exact K c_237 hI_238 (fun a j hm => (hF_239 a j (by omega)).trans ((hF_197 a j (by omega)).trans ((hF_179 a j (by omega)).trans ((hF_161 a j (by omega)).trans ((hF_20 a j (by omega)).trans (hF_8 a j (by omega))))))) hW_242 (by omega) (by omega) (by omega) (by omega) (by omega)
          · refine v_ic_ne_f (t := 117) rfl (by decide) (by omega) ?_
            refine q_aload_n rfl rfl ?_
            refine q_iconst rfl ?_
            refine v_bip rfl (by decide) ?_
            have h_247 : c_177 41 5 = c 41 5 := ((hF_179 41 5 (by omega)).trans ((hF_161 41 5 (by omega)).trans ((hF_20 41 5 (by omega)).trans (hF_8 41 5 (by omega)))))
            have h_248 : c_177 41 3 = c 41 3 := ((hF_179 41 3 (by omega)).trans ((hF_161 41 3 (by omega)).trans ((hF_20 41 3 (by omega)).trans (hF_8 41 3 (by omega)))))
            have h_249 : c_177 41 29 = c 41 29 := ((hF_179 41 29 (by omega)).trans ((hF_161 41 29 (by omega)).trans ((hF_20 41 29 (by omega)).trans (hF_8 41 29 (by omega)))))
            have h_250 : c_177 41 7 = c 41 7 := ((hF_179 41 7 (by omega)).trans ((hF_161 41 7 (by omega)).trans ((hF_20 41 7 (by omega)).trans (hF_8 41 7 (by omega)))))
            obtain ⟨hW_251, hN_252⟩ : Nw c_177 ∧ Nh c_177 = Nh c := nh_fr hW (fun j => (hF_179 50 j (by omega)).trans ((hF_161 50 j (by omega)).trans ((hF_20 50 j (by omega)).trans (hF_8 50 j (by omega))))) (fun j => (hF_179 51 j (by omega)).trans ((hF_161 51 j (by omega)).trans ((hF_20 51 j (by omega)).trans (hF_8 51 j (by omega))))) ((hF_179 41 29 (by omega)).trans ((hF_161 41 29 (by omega)).trans ((hF_20 41 29 (by omega)).trans (hF_8 41 29 (by omega)))))
            refine v_cv rfl rfl rfl rfl (by decide) ⟨⟨rfl, rfl⟩, by decide, rfl⟩ (Nat.le_of_ble_eq_true rfl) (Nat.le_of_ble_eq_true rfl) (s_175 (o := o) (a1 := 4) (a2 := 7) hI_178 (show 0 ≤ o ∧ o ≤ 6 from by omega) (show 4 ≤ 4 ∧ 4 ≤ 5 from by omega) (show 6 ≤ 7 ∧ 7 ≤ 7 from by omega) hW_251 (by omega) (by omega) (by omega) (by omega) (by omega) (by omega) H174 (fun c_253 hI_254 hF_255 hW_256 h_257 h_258 h_259 h_260 h_261 => ?_))
            refine bk_inl ?_
            have h_262 := ir_41_4 hI_254
            have h_263 := ir_41_7 hI_254
            have h_264 := ir_41_29 hI_254
            have h_265 := ir_41_5 hI_254
            refine q_goto (t := 154) rfl (by decide) ?_
            refine q_vret rfl rfl ?_
            exact K c_253 hI_254 (fun a j hm => (hF_255 a j (by omega)).trans ((hF_179 a j (by omega)).trans ((hF_161 a j (by omega)).trans ((hF_20 a j (by omega)).trans (hF_8 a j (by omega)))))) hW_256 (by omega) (by omega) (by omega) (by omega) (by omega)
        · refine v_ic_ne_f (t := 94) rfl (by decide) (by omega) ?_
          refine q_aload_n rfl rfl ?_
          refine q_iconst rfl ?_
          refine v_bip rfl (by decide) ?_
          have h_266 : c_159 41 5 = c 41 5 := ((hF_161 41 5 (by omega)).trans ((hF_20 41 5 (by omega)).trans (hF_8 41 5 (by omega))))
          have h_267 : c_159 41 3 = c 41 3 := ((hF_161 41 3 (by omega)).trans ((hF_20 41 3 (by omega)).trans (hF_8 41 3 (by omega))))
          have h_268 : c_159 41 29 = c 41 29 := ((hF_161 41 29 (by omega)).trans ((hF_20 41 29 (by omega)).trans (hF_8 41 29 (by omega))))
          have h_269 : c_159 41 7 = c 41 7 := ((hF_161 41 7 (by omega)).trans ((hF_20 41 7 (by omega)).trans (hF_8 41 7 (by omega))))
          obtain ⟨hW_270, hN_271⟩ : Nw c_159 ∧ Nh c_159 = Nh c := nh_fr hW (fun j => (hF_161 50 j (by omega)).trans ((hF_20 50 j (by omega)).trans (hF_8 50 j (by omega)))) (fun j => (hF_161 51 j (by omega)).trans ((hF_20 51 j (by omega)).trans (hF_8 51 j (by omega)))) ((hF_161 41 29 (by omega)).trans ((hF_20 41 29 (by omega)).trans (hF_8 41 29 (by omega))))
          refine v_cv rfl rfl rfl rfl (by decide) ⟨⟨rfl, rfl⟩, by decide, rfl⟩ (Nat.le_of_ble_eq_true rfl) (Nat.le_of_ble_eq_true rfl) (s_175 (o := o) (a1 := 5) (a2 := 6) hI_160 (show 0 ≤ o ∧ o ≤ 6 from by omega) (show 4 ≤ 5 ∧ 5 ≤ 5 from by omega) (show 6 ≤ 6 ∧ 6 ≤ 7 from by omega) hW_270 (by omega) (by omega) (by omega) (by omega) (by omega) (by omega) H174 (fun c_272 hI_273 hF_274 hW_275 h_276 h_277 h_278 h_279 h_280 => ?_))
          refine bk_inl ?_
          have h_281 := ir_41_4 hI_273
          have h_282 := ir_41_7 hI_273
          have h_283 := ir_41_29 hI_273
          have h_284 := ir_41_5 hI_273
          refine q_goto (t := 154) rfl (by decide) ?_
          refine q_vret rfl rfl ?_
          exact K c_272 hI_273 (fun a j hm => (hF_274 a j (by omega)).trans ((hF_161 a j (by omega)).trans ((hF_20 a j (by omega)).trans (hF_8 a j (by omega))))) hW_275 (by omega) (by omega) (by omega) (by omega) (by omega)
      · refine v_ic_gt_f (t := 16) rfl (by decide) (by omega) ?_
        refine q_iconst rfl ?_
        refine q_goto (t := 17) rfl (by decide) ?_
        refine v_zret rfl rfl (by omega) ?_
        refine bk_inl ?_
        refine v_if_eq_f (t := 71) rfl (by decide) (by decide) ?_
        refine q_aload_n rfl rfl ?_
        refine q_iconst rfl ?_
        refine q_aload_n rfl rfl ?_
        refine q_iconst rfl ?_
        refine v_sip rfl (by decide) ?_
        have h_285 : c_18 41 3 = c 41 3 := ((hF_20 41 3 (by omega)).trans (hF_8 41 3 (by omega)))
        have h_286 : c_18 41 5 = c 41 5 := ((hF_20 41 5 (by omega)).trans (hF_8 41 5 (by omega)))
        refine v_cv rfl rfl rfl rfl (by decide) ⟨⟨rfl, rfl⟩, by decide, rfl⟩ (Nat.le_of_ble_eq_true rfl) (Nat.le_of_ble_eq_true rfl) (s_160 (a1 := 0) (a2 := 999) hI_19 (show 0 ≤ 0 ∧ 0 ≤ 1 from by omega) (show (-1) ≤ 999 ∧ 999 ≤ 9999 from by omega) (fun c_287 y_290 hI_288 hF_289 hy_290 h_291 h_292 h_293 h_294 h_295 => ?_))
        refine bk_inl ?_
        have h_296 := ir_41_4 hI_288
        have h_297 := ir_41_5 hI_288
        have h_298 : c_287 41 29 = c 41 29 := ((hF_289 41 29 (by omega)).trans ((hF_20 41 29 (by omega)).trans (hF_8 41 29 (by omega))))
        obtain ⟨hW_299, hN_300⟩ : Nw c_287 ∧ Nh c_287 = Nh c := nh_fr hW (fun j => (hF_289 50 j (by omega)).trans ((hF_20 50 j (by omega)).trans (hF_8 50 j (by omega)))) (fun j => (hF_289 51 j (by omega)).trans ((hF_20 51 j (by omega)).trans (hF_8 51 j (by omega)))) ((hF_289 41 29 (by omega)).trans ((hF_20 41 29 (by omega)).trans (hF_8 41 29 (by omega))))
        refine v_cv rfl rfl rfl rfl (by decide) ⟨⟨rfl, rfl⟩, by decide, rfl⟩ (Nat.le_of_ble_eq_true rfl) (Nat.le_of_ble_eq_true rfl) (s_170 (a1 := 0) (a2 := y_290) hI_288 (show 0 ≤ 0 ∧ 0 ≤ 8 from by omega) (show 0 ≤ y_290 ∧ y_290 ≤ 999 from by omega) hW_299 (by omega) (by omega) (by omega) (fun c_301 hI_302 hF_303 hW_304 h_305 h_306 h_307 h_308 => ?_))
        refine bk_inl ?_
        have h_309 := ir_41_29 hI_302
        refine q_goto (t := 154) rfl (by decide) ?_
        refine q_vret rfl rfl ?_
        have h_310 : c_301 41 4 = c_287 41 4 := (hF_303 41 4 (by omega))
        have h_311 : c_301 41 5 = c_287 41 5 := (hF_303 41 5 (by omega))
        have h_312 : c_301 41 7 = c 41 7 := ((hF_303 41 7 (by omega)).trans ((hF_289 41 7 (by omega)).trans ((hF_20 41 7 (by omega)).trans (hF_8 41 7 (by omega)))))
        exact K c_301 hI_302 (fun a j hm => (hF_303 a j (by omega)).trans ((hF_289 a j (by omega)).trans ((hF_20 a j (by omega)).trans (hF_8 a j (by omega))))) hW_304 (by omega) (by omega) (by omega) (by omega) (by omega)
  · refine v_ic_ne_f (t := 45) rfl (by decide) (by omega) ?_
    refine q_aload_n rfl rfl ?_
    refine q_iconst rfl ?_
    have h_313 : c_6 41 7 = c 41 7 := (hF_8 41 7 (by omega))
    have h_314 : c_6 41 5 = c 41 5 := (hF_8 41 5 (by omega))
    refine v_cv rfl rfl rfl rfl (by decide) ⟨⟨rfl, rfl⟩, by decide, rfl⟩ (Nat.le_of_ble_eq_true rfl) (Nat.le_of_ble_eq_true rfl) (s_171 (a1 := 1) hI_7 (show 1 ≤ 1 ∧ 1 ≤ 5 from by omega) (by omega) (by omega) (fun c_315 hI_316 hF_317 h_318 h_319 h_320 h_321 => ?_))
    refine bk_inl ?_
    have h_322 := ir_41_4 hI_316
    have h_323 := ir_41_7 hI_316
    have h_324 := ir_41_5 hI_316
    refine q_aload_n rfl rfl ?_
    by_cases h_325 : c_315 41 5 = -1
    · skip
      have h_326 : c_315 41 3 = c 41 3 := ((hF_317 41 3 (by omega)).trans (hF_8 41 3 (by omega)))
      have h_327 : c_315 41 29 = c 41 29 := ((hF_317 41 29 (by omega)).trans (hF_8 41 29 (by omega)))
      obtain ⟨hW_328, hN_329⟩ : Nw c_315 ∧ Nh c_315 = Nh c := nh_fr hW (fun j => (hF_317 50 j (by omega)).trans (hF_8 50 j (by omega))) (fun j => (hF_317 51 j (by omega)).trans (hF_8 51 j (by omega))) ((hF_317 41 29 (by omega)).trans (hF_8 41 29 (by omega)))
      refine v_cv rfl rfl rfl rfl (by decide) ⟨⟨rfl, rfl⟩, by decide, rfl⟩ (Nat.le_of_ble_eq_true rfl) (Nat.le_of_ble_eq_true rfl) (H174 _ _ _ (by omega) (by omega) hI_316 hW_328 (by omega) (by omega) (by omega) (by omega) (by omega) (fun c_330 hI_331 hF_332 hW_333 h_334 h_335 h_336 h_337 h_338 => ?_))
      refine bk_inl ?_
      have h_339 := ir_41_4 hI_331
      have h_340 := ir_41_7 hI_331
      have h_341 := ir_41_29 hI_331
      have h_342 := ir_41_5 hI_331
      refine q_aload_n rfl rfl ?_
      refine v_bip rfl (by decide) ?_
      have h_343 : c_330 41 3 = c 41 3 := ((hF_332 41 3 (by omega)).trans ((hF_317 41 3 (by omega)).trans (hF_8 41 3 (by omega))))
      refine v_cv rfl rfl rfl rfl (by decide) ⟨⟨rfl, rfl⟩, by decide, rfl⟩ (Nat.le_of_ble_eq_true rfl) (Nat.le_of_ble_eq_true rfl) (s_161 (a1 := 41) hI_331 (show 1 ≤ 41 ∧ 41 ≤ 255 from by omega) (fun c_344 hI_345 hF_346 h_347 h_348 h_349 h_350 => ?_))
      refine bk_inl ?_
      have h_351 := ir_41_4 hI_345
      have h_352 := ir_41_5 hI_345
      refine q_aload_n rfl rfl ?_
      refine q_dup rfl rfl ?_
      refine v_gi (z := 7) (v := c_330 41 7) rfl rfl rfl (by decide) rfl rfl (hF_346 41 7 (by omega)) ?_
      refine q_iconst rfl ?_
      refine v_isub (v := c_330 41 7 - 1) rfl (by omega) ?_
      refine v_pi (z := 7) rfl rfl rfl (by decide) rfl rfl rfl (by decide) ?_
      refine q_goto (t := 154) rfl (by decide) ?_
      refine q_vret rfl rfl ?_
      have hI_353 := iw_41_7 (v := c_330 41 7 - 1) hI_345 ⟨by omega, by omega⟩
      obtain ⟨hW_354, hN_355⟩ : Nw (up c_344 41 7 (c_330 41 7 - 1)) ∧ Nh (up c_344 41 7 (c_330 41 7 - 1)) = Nh c_330 := nh_fr hW_333 (fun j => (up_c (by omega)).trans (hF_346 50 j (by omega))) (fun j => (up_c (by omega)).trans (hF_346 51 j (by omega))) ((up_n (by decide)).trans (hF_346 41 29 (by omega)))
      have h_356 : (up c_344 41 7 (c_330 41 7 - 1)) 41 29 = c_330 41 29 := ((up_n (by decide)).trans (hF_346 41 29 (by omega)))
      have h_357 : (up c_344 41 7 (c_330 41 7 - 1)) 41 4 = c_344 41 4 := (up_n (by decide))
      have h_358 : (up c_344 41 7 (c_330 41 7 - 1)) 41 5 = c_344 41 5 := (up_n (by decide))
      have h_359 : (up c_344 41 7 (c_330 41 7 - 1)) 41 7 = c_330 41 7 - 1 := (up_e rfl)
      exact K (up c_344 41 7 (c_330 41 7 - 1)) hI_353 (fun a j hm => (up_b (by omega)).trans ((hF_346 a j (by omega)).trans ((hF_332 a j (by omega)).trans ((hF_317 a j (by omega)).trans (hF_8 a j (by omega)))))) hW_354 (by omega) (by omega) (by omega) (by omega) (by omega)
    · skip
      have h_360 : ¬ c_315 41 5 = -1 := by rw [show c_315 41 5 = c_315 41 5 from rfl]; omega
      refine v_cv rfl rfl rfl rfl (by decide) ⟨⟨rfl, rfl⟩, by decide, rfl⟩ (Nat.le_of_ble_eq_true rfl) (Nat.le_of_ble_eq_true rfl) (n_174 hI_316 (by omega) ?_)
      refine bk_inl ?_
      refine q_aload_n rfl rfl ?_
      refine v_bip rfl (by decide) ?_
      have h_361 : c_315 41 3 = c 41 3 := ((hF_317 41 3 (by omega)).trans (hF_8 41 3 (by omega)))
      refine v_cv rfl rfl rfl rfl (by decide) ⟨⟨rfl, rfl⟩, by decide, rfl⟩ (Nat.le_of_ble_eq_true rfl) (Nat.le_of_ble_eq_true rfl) (s_161 (a1 := 41) hI_316 (show 1 ≤ 41 ∧ 41 ≤ 255 from by omega) (fun c_362 hI_363 hF_364 h_365 h_366 h_367 h_368 => ?_))
      refine bk_inl ?_
      have h_369 := ir_41_4 hI_363
      have h_370 := ir_41_5 hI_363
      refine q_aload_n rfl rfl ?_
      refine q_dup rfl rfl ?_
      refine v_gi (z := 7) (v := c_315 41 7) rfl rfl rfl (by decide) rfl rfl (hF_364 41 7 (by omega)) ?_
      refine q_iconst rfl ?_
      refine v_isub (v := c_315 41 7 - 1) rfl (by omega) ?_
      refine v_pi (z := 7) rfl rfl rfl (by decide) rfl rfl rfl (by decide) ?_
      refine q_goto (t := 154) rfl (by decide) ?_
      refine q_vret rfl rfl ?_
      have hI_371 := iw_41_7 (v := c_315 41 7 - 1) hI_363 ⟨by omega, by omega⟩
      obtain ⟨hW_372, hN_373⟩ : Nw (up c_362 41 7 (c_315 41 7 - 1)) ∧ Nh (up c_362 41 7 (c_315 41 7 - 1)) = Nh c := nh_fr hW (fun j => (up_c (by omega)).trans ((hF_364 50 j (by omega)).trans ((hF_317 50 j (by omega)).trans (hF_8 50 j (by omega))))) (fun j => (up_c (by omega)).trans ((hF_364 51 j (by omega)).trans ((hF_317 51 j (by omega)).trans (hF_8 51 j (by omega))))) ((up_n (by decide)).trans ((hF_364 41 29 (by omega)).trans ((hF_317 41 29 (by omega)).trans (hF_8 41 29 (by omega)))))
      have h_374 : (up c_362 41 7 (c_315 41 7 - 1)) 41 29 = c 41 29 := ((up_n (by decide)).trans ((hF_364 41 29 (by omega)).trans ((hF_317 41 29 (by omega)).trans (hF_8 41 29 (by omega)))))
      have h_375 : (up c_362 41 7 (c_315 41 7 - 1)) 41 4 = c_362 41 4 := (up_n (by decide))
      have h_376 : (up c_362 41 7 (c_315 41 7 - 1)) 41 5 = c_362 41 5 := (up_n (by decide))
      have h_377 : (up c_362 41 7 (c_315 41 7 - 1)) 41 7 = c_315 41 7 - 1 := (up_e rfl)
      exact K (up c_362 41 7 (c_315 41 7 - 1)) hI_371 (fun a j hm => (up_b (by omega)).trans ((hF_364 a j (by omega)).trans ((hF_317 a j (by omega)).trans (hF_8 a j (by omega))))) hW_372 (by omega) (by omega) (by omega) (by omega) (by omega)

set_option maxRecDepth 100000 in
set_option maxHeartbeats 4000000 in
theorem s_173_l {sc : List Int32} {e : Int} {d u P Q : Nat} {c : ME} {o : Int} {Z : AR → Prop} (hI : Iv u e P Q c) (ho : 0 ≤ o ∧ o ≤ 6) (hW : Nw c) (hq0 : (c 41 5 = (-1))) (hq1 : (c 41 4 ≤ c 41 3)) (hq2 : (c 41 3 ≤ 150)) (hq3 : (c 41 29 ≤ c 41 4)) (hq4 : (c 41 7 = o)) (H174 : ∀ (d9 : Nat) (c : ME) (Z : AR → Prop), d ≤ d9 → o + 1 ≤ 6 → Iv u e P Q c → Nw c → ((c 41 5 = (-1))) → ((c 41 4 ≤ c 41 3)) → ((c 41 3 ≤ 150)) → ((c 41 29 ≤ c 41 4)) → (c 41 7 = o + 1) → (∀ c2 : ME, Iv u e P Q c2 → (∀ (a : Nat) (j : Int), ¬ ((a = 41 ∧ j = 4) ∨ (a = 41 ∧ j = 5) ∨ (a = 41 ∧ j = 6) ∨ (a = 41 ∧ j = 7) ∨ (a = 41 ∧ j = 29) ∨ a = 50 ∨ a = 51) → c2 a j = c a j) → Nw c2 → ((c2 41 4 ≥ c 41 4)) → ((c2 41 7 = c 41 7)) → ((c 41 4 + c2 41 29 ≤ c 41 29 + c2 41 4)) → ((c2 41 5 < (-1)) ∨ (c2 41 5 > (-1)) ∨ (c2 41 4 ≤ c 41 3)) → ((c2 41 5 < (-1)) ∨ (c2 41 5 > (-1)) ∨ (Nh c2 = Nh c + 1)) → Z (.inl none, Wd P Q P P c2, 0, 0)) → Wp sc (d9 + 12) 174 0 [(0, .ref 41)] [] (Wd P Q P P c) 0 0 Z) (K : ∀ (c2 : ME), Iv u e P Q c2 → (∀ (a : Nat) (j : Int), ¬ ((a = 41 ∧ j = 4) ∨ (a = 41 ∧ j = 5) ∨ (a = 41 ∧ j = 6) ∨ (a = 41 ∧ j = 7) ∨ (a = 41 ∧ j = 29) ∨ a = 50 ∨ a = 51) → c2 a j = c a j) → Nw c2 → ((c2 41 4 ≥ c 41 4)) → ((c2 41 7 = c 41 7)) → ((c 41 4 + c2 41 29 ≤ c 41 29 + c2 41 4)) → ((c2 41 5 < (-1)) ∨ (c2 41 5 > (-1)) ∨ (c2 41 4 ≤ c 41 3)) → ((c2 41 5 < (-1)) ∨ (c2 41 5 > (-1)) ∨ (Nh c2 = Nh c + 1)) → Z (.inl (none), Wd P Q P P c2, 0, 0)) : ∀ n : Nat, (∀ (c2 : ME), Iv u e P Q c2 → (∀ (a : Nat) (j : Int), ¬ ((a = 41 ∧ j = 4) ∨ (a = 41 ∧ j = 5) ∨ (a = 41 ∧ j = 6) ∨ (a = 41 ∧ j = 7) ∨ (a = 41 ∧ j = 29) ∨ a = 50 ∨ a = 51) → c2 a j = c a j) → Nw c2 → ((c2 41 4 ≥ c 41 4)) → ((c2 41 7 = c 41 7)) → ((c 41 4 + c2 41 29 ≤ c 41 29 + c2 41 4)) → ((c2 41 5 < (-1)) ∨ (c2 41 5 > (-1)) ∨ (c2 41 4 ≤ c 41 3)) → ((c2 41 5 < (-1)) ∨ (c2 41 5 > (-1)) ∨ (Nh c2 = Nh c + 1)) → 1211 - 2 * c2 41 4 < (n : Int) → Wp sc (d + 15) 173 4 [(0, .ref 41)] [] (Wd P Q P P c2) 0 0 Z)
  | 0 => by intro c2 hI2 hF hW2 hx0 hx1 hx2 hx3 hx4 hm9; have hP := iv_P hI; have hQ := iv_Q hI; have h_429 := ir_41_4 hI2; exfalso; omega
  | n + 1 => by
    have hP := iv_P hI
    have hQ := iv_Q hI
    have ih := s_173_l (sc := sc) (d := d) hI ho hW hq0 hq1 hq2 hq3 hq4 H174 K n
    intro c2 hI2 hF hW2 hx0 hx1 hx2 hx3 hx4 hm9
    have h_1 := ir_41_4 hI
    have h_2 := ir_41_4 hI2
    have h_3 := ir_41_7 hI
    have h_4 := ir_41_7 hI2
    have h_5 := ir_41_29 hI
    have h_6 := ir_41_29 hI2
    have h_7 := ir_41_3 hI
    have h_8 := ir_41_5 hI2
    refine q_aload_n rfl rfl ?_
    refine v_cv rfl rfl rfl rfl (by decide) ⟨⟨rfl, rfl⟩, by decide, rfl⟩ (Nat.le_of_ble_eq_true rfl) (Nat.le_of_ble_eq_true rfl) ?_
    refine q_aload_n rfl rfl ?_
    refine v_gi (z := 5) (v := c2 41 5) rfl rfl rfl (by decide) rfl rfl rfl ?_
    refine q_iconst rfl ?_
    by_cases h_9 : c2 41 5 ≠ (-1)
    · refine v_ic_ne_t (t := 12) rfl (by decide) (by omega) ?_
      refine q_iconst rfl ?_
      refine v_zret rfl rfl (by omega) ?_
      refine bk_inl ?_
      refine v_if_eq_t (t := 90) rfl (by decide) (by decide) ?_
      refine q_vret rfl rfl ?_
      exact K c2 hI2 (fun a j hm => hF a j (by omega)) hW2 (by omega) (by omega) (by omega) (by omega) (by omega)
    · refine v_ic_ne_f (t := 12) rfl (by decide) (by omega) ?_
      refine q_iconst rfl ?_
      refine q_goto (t := 13) rfl (by decide) ?_
      refine v_zret rfl rfl (by omega) ?_
      refine bk_inl ?_
      refine v_if_eq_f (t := 90) rfl (by decide) (by decide) ?_
      refine q_aload_n rfl rfl ?_
      have h_10 : c2 41 3 = c 41 3 := (hF 41 3 (by omega))
      refine v_cv rfl rfl rfl rfl (by decide) ⟨⟨rfl, rfl⟩, by decide, rfl⟩ (Nat.le_of_ble_eq_true rfl) (Nat.le_of_ble_eq_true rfl) (s_154 hI2 (fun c_11 y_14 hI_12 hF_13 hy_14 h_15 h_16 h_17 h_18 => ?_))
      refine bk_inl ?_
      have h_19 := ir_41_4 hI_12
      have h_20 := ir_43 hI (c_11 41 4)
      have h_21 : c2 43 (c_11 41 4) = c 43 (c_11 41 4) := (hF 43 (c_11 41 4) (by omega))
      refine v_bip rfl (by decide) ?_
      by_cases h_22 : y_14 = 42
      · refine v_ic_eq_t (t := 38) rfl (by decide) (by omega) ?_
        refine q_aload_n rfl rfl ?_
        have h_23 : c_11 41 3 = c 41 3 := ((hF_13 41 3 (by omega)).trans (hF 41 3 (by omega)))
        refine v_cv rfl rfl rfl rfl (by decide) ⟨⟨rfl, rfl⟩, by decide, rfl⟩ (Nat.le_of_ble_eq_true rfl) (Nat.le_of_ble_eq_true rfl) (s_154 hI_12 (fun c_24 y_27 hI_25 hF_26 hy_27 h_28 h_29 h_30 h_31 => ?_))
        refine bk_inl ?_
        have h_32 := ir_41_4 hI_25
        have h_33 := ir_43 hI (c_24 41 4)
        have h_34 : c_11 43 (c_24 41 4) = c 43 (c_24 41 4) := ((hF_13 43 (c_24 41 4) (by omega)).trans (hF 43 (c_24 41 4) (by omega)))
        refine v_bip rfl (by decide) ?_
        by_cases h_35 : y_27 ≠ 42
        · refine v_ic_ne_t (t := 51) rfl (by decide) (by omega) ?_
          refine q_aload_n rfl rfl ?_
          have h_36 : c_24 41 3 = c 41 3 := ((hF_26 41 3 (by omega)).trans ((hF_13 41 3 (by omega)).trans (hF 41 3 (by omega))))
          refine v_cv rfl rfl rfl rfl (by decide) ⟨⟨rfl, rfl⟩, by decide, rfl⟩ (Nat.le_of_ble_eq_true rfl) (Nat.le_of_ble_eq_true rfl) (s_154 hI_25 (fun c_37 y_40 hI_38 hF_39 hy_40 h_41 h_42 h_43 h_44 => ?_))
          refine bk_inl ?_
          have h_45 := ir_41_4 hI_38
          have h_46 := ir_43 hI (c_37 41 4)
          have h_47 : c_24 43 (c_37 41 4) = c 43 (c_37 41 4) := ((hF_26 43 (c_37 41 4) (by omega)).trans ((hF_13 43 (c_37 41 4) (by omega)).trans (hF 43 (c_37 41 4) (by omega))))
          refine v_bip rfl (by decide) ?_
          by_cases h_48 : y_40 ≠ 47
          · refine v_ic_ne_t (t := 64) rfl (by decide) (by omega) ?_
            refine v_bip rfl (by decide) ?_
            refine q_istore_n rfl (by decide) ?_
            refine q_aload_n rfl rfl ?_
            refine q_dup rfl rfl ?_
            refine v_gi (z := 4) (v := c_37 41 4) rfl rfl rfl (by decide) rfl rfl rfl ?_
            refine q_iconst rfl ?_
            refine v_iadd (v := c_37 41 4 + 1) rfl (by omega) ?_
            refine v_pi (z := 4) rfl rfl rfl (by decide) rfl rfl rfl (by decide) ?_
            refine q_aload_n rfl rfl ?_
            have hI_49 := iw_41_4 (v := c_37 41 4 + 1) hI_38 ⟨by omega, by omega⟩
            have h_50 : (up c_37 41 4 (c_37 41 4 + 1)) 41 5 = c2 41 5 := ((up_n (by decide)).trans ((hF_39 41 5 (by omega)).trans ((hF_26 41 5 (by omega)).trans (hF_13 41 5 (by omega)))))
            have h_51 : (up c_37 41 4 (c_37 41 4 + 1)) 41 3 = c 41 3 := ((up_n (by decide)).trans ((hF_39 41 3 (by omega)).trans ((hF_26 41 3 (by omega)).trans ((hF_13 41 3 (by omega)).trans (hF 41 3 (by omega))))))
            have h_52 : (up c_37 41 4 (c_37 41 4 + 1)) 41 4 = c_37 41 4 + 1 := (up_e rfl)
            have h_53 : (up c_37 41 4 (c_37 41 4 + 1)) 41 29 = c2 41 29 := ((up_n (by decide)).trans ((hF_39 41 29 (by omega)).trans ((hF_26 41 29 (by omega)).trans (hF_13 41 29 (by omega)))))
            have h_54 : (up c_37 41 4 (c_37 41 4 + 1)) 41 7 = c2 41 7 := ((up_n (by decide)).trans ((hF_39 41 7 (by omega)).trans ((hF_26 41 7 (by omega)).trans (hF_13 41 7 (by omega)))))
            obtain ⟨hW_55, hN_56⟩ : Nw (up c_37 41 4 (c_37 41 4 + 1)) ∧ Nh (up c_37 41 4 (c_37 41 4 + 1)) = Nh c2 := nh_fr hW2 (fun j => (up_c (by omega)).trans ((hF_39 50 j (by omega)).trans ((hF_26 50 j (by omega)).trans (hF_13 50 j (by omega))))) (fun j => (up_c (by omega)).trans ((hF_39 51 j (by omega)).trans ((hF_26 51 j (by omega)).trans (hF_13 51 j (by omega))))) ((up_n (by decide)).trans ((hF_39 41 29 (by omega)).trans ((hF_26 41 29 (by omega)).trans (hF_13 41 29 (by omega)))))
            refine v_cv rfl rfl rfl rfl (by decide) ⟨⟨rfl, rfl⟩, by decide, rfl⟩ (Nat.le_of_ble_eq_true rfl) (Nat.le_of_ble_eq_true rfl) (s_176 (o := o) hI_49 (show 0 ≤ o ∧ o ≤ 6 from by omega) hW_55 (by omega) (by omega) (by omega) (by omega) (by omega) H174 (fun c_57 hI_58 hF_59 hW_60 h_61 h_62 h_63 h_64 h_65 => ?_))
            refine bk_inl ?_
            have h_66 := ir_41_4 hI_58
            have h_67 := ir_41_7 hI_58
            have h_68 := ir_41_29 hI_58
            have h_69 := ir_41_5 hI_58
            refine q_aload_n rfl rfl ?_
            refine q_iload_n rfl rfl ?_
            refine q_iconst rfl ?_
            refine v_cv rfl rfl rfl rfl (by decide) ⟨⟨rfl, rfl⟩, by decide, rfl⟩ (Nat.le_of_ble_eq_true rfl) (Nat.le_of_ble_eq_true rfl) (s_170 (a1 := 8) (a2 := 0) hI_58 (show 0 ≤ 8 ∧ 8 ≤ 8 from by omega) (show 0 ≤ 0 ∧ 0 ≤ 999 from by omega) hW_60 (by omega) (by omega) (by omega) (fun c_70 hI_71 hF_72 hW_73 h_74 h_75 h_76 h_77 => ?_))
            refine bk_inl ?_
            have h_78 := ir_41_29 hI_71
            refine q_goto (t := 4) rfl (by decide) ?_
            refine Wp_ls [(0, .ref 41)] (lsub_cons rfl lsub_nil) ?_
            have h_79 : c_70 41 4 = c_57 41 4 := (hF_72 41 4 (by omega))
            have h_80 : c_70 41 5 = c_57 41 5 := (hF_72 41 5 (by omega))
            have h_81 : c_70 41 7 = c_57 41 7 := (hF_72 41 7 (by omega))
            exact ih c_70 hI_71 (fun a j hm => (hF_72 a j (by omega)).trans ((hF_59 a j (by omega)).trans ((up_b (by omega)).trans ((hF_39 a j (by omega)).trans ((hF_26 a j (by omega)).trans ((hF_13 a j (by omega)).trans (hF a j (by omega)))))))) hW_73 (by omega) (by omega) (by omega) (by omega) (by omega) (by omega)
          · refine v_ic_ne_f (t := 64) rfl (by decide) (by omega) ?_
            refine q_iconst rfl ?_
            refine q_goto (t := 66) rfl (by decide) ?_
            refine q_istore_n rfl (by decide) ?_
            refine q_aload_n rfl rfl ?_
            refine q_dup rfl rfl ?_
            refine v_gi (z := 4) (v := c_37 41 4) rfl rfl rfl (by decide) rfl rfl rfl ?_
            refine q_iconst rfl ?_
            refine v_iadd (v := c_37 41 4 + 1) rfl (by omega) ?_
            refine v_pi (z := 4) rfl rfl rfl (by decide) rfl rfl rfl (by decide) ?_
            refine q_aload_n rfl rfl ?_
            have hI_82 := iw_41_4 (v := c_37 41 4 + 1) hI_38 ⟨by omega, by omega⟩
            have h_83 : (up c_37 41 4 (c_37 41 4 + 1)) 41 5 = c2 41 5 := ((up_n (by decide)).trans ((hF_39 41 5 (by omega)).trans ((hF_26 41 5 (by omega)).trans (hF_13 41 5 (by omega)))))
            have h_84 : (up c_37 41 4 (c_37 41 4 + 1)) 41 3 = c 41 3 := ((up_n (by decide)).trans ((hF_39 41 3 (by omega)).trans ((hF_26 41 3 (by omega)).trans ((hF_13 41 3 (by omega)).trans (hF 41 3 (by omega))))))
            have h_85 : (up c_37 41 4 (c_37 41 4 + 1)) 41 4 = c_37 41 4 + 1 := (up_e rfl)
            have h_86 : (up c_37 41 4 (c_37 41 4 + 1)) 41 29 = c2 41 29 := ((up_n (by decide)).trans ((hF_39 41 29 (by omega)).trans ((hF_26 41 29 (by omega)).trans (hF_13 41 29 (by omega)))))
            have h_87 : (up c_37 41 4 (c_37 41 4 + 1)) 41 7 = c2 41 7 := ((up_n (by decide)).trans ((hF_39 41 7 (by omega)).trans ((hF_26 41 7 (by omega)).trans (hF_13 41 7 (by omega)))))
            obtain ⟨hW_88, hN_89⟩ : Nw (up c_37 41 4 (c_37 41 4 + 1)) ∧ Nh (up c_37 41 4 (c_37 41 4 + 1)) = Nh c2 := nh_fr hW2 (fun j => (up_c (by omega)).trans ((hF_39 50 j (by omega)).trans ((hF_26 50 j (by omega)).trans (hF_13 50 j (by omega))))) (fun j => (up_c (by omega)).trans ((hF_39 51 j (by omega)).trans ((hF_26 51 j (by omega)).trans (hF_13 51 j (by omega))))) ((up_n (by decide)).trans ((hF_39 41 29 (by omega)).trans ((hF_26 41 29 (by omega)).trans (hF_13 41 29 (by omega)))))
            refine v_cv rfl rfl rfl rfl (by decide) ⟨⟨rfl, rfl⟩, by decide, rfl⟩ (Nat.le_of_ble_eq_true rfl) (Nat.le_of_ble_eq_true rfl) (s_176 (o := o) hI_82 (show 0 ≤ o ∧ o ≤ 6 from by omega) hW_88 (by omega) (by omega) (by omega) (by omega) (by omega) H174 (fun c_90 hI_91 hF_92 hW_93 h_94 h_95 h_96 h_97 h_98 => ?_))
            refine bk_inl ?_
            have h_99 := ir_41_4 hI_91
            have h_100 := ir_41_7 hI_91
            have h_101 := ir_41_29 hI_91
            have h_102 := ir_41_5 hI_91
            refine q_aload_n rfl rfl ?_
            refine q_iload_n rfl rfl ?_
            refine q_iconst rfl ?_
            refine v_cv rfl rfl rfl rfl (by decide) ⟨⟨rfl, rfl⟩, by decide, rfl⟩ (Nat.le_of_ble_eq_true rfl) (Nat.le_of_ble_eq_true rfl) (s_170 (a1 := 5) (a2 := 0) hI_91 (show 0 ≤ 5 ∧ 5 ≤ 8 from by omega) (show 0 ≤ 0 ∧ 0 ≤ 999 from by omega) hW_93 (by omega) (by omega) (by omega) (fun c_103 hI_104 hF_105 hW_106 h_107 h_108 h_109 h_110 => ?_))
            refine bk_inl ?_
            have h_111 := ir_41_29 hI_104
            refine q_goto (t := 4) rfl (by decide) ?_
            refine Wp_ls [(0, .ref 41)] (lsub_cons rfl lsub_nil) ?_
            have h_112 : c_103 41 4 = c_90 41 4 := (hF_105 41 4 (by omega))
            have h_113 : c_103 41 5 = c_90 41 5 := (hF_105 41 5 (by omega))
            have h_114 : c_103 41 7 = c_90 41 7 := (hF_105 41 7 (by omega))
            exact ih c_103 hI_104 (fun a j hm => (hF_105 a j (by omega)).trans ((hF_92 a j (by omega)).trans ((up_b (by omega)).trans ((hF_39 a j (by omega)).trans ((hF_26 a j (by omega)).trans ((hF_13 a j (by omega)).trans (hF a j (by omega)))))))) hW_106 (by omega) (by omega) (by omega) (by omega) (by omega) (by omega)
        · refine v_ic_ne_f (t := 51) rfl (by decide) (by omega) ?_
          refine q_iconst rfl ?_
          refine q_goto (t := 66) rfl (by decide) ?_
          refine q_istore_n rfl (by decide) ?_
          refine q_aload_n rfl rfl ?_
          refine q_dup rfl rfl ?_
          refine v_gi (z := 4) (v := c_24 41 4) rfl rfl rfl (by decide) rfl rfl rfl ?_
          refine q_iconst rfl ?_
          refine v_iadd (v := c_24 41 4 + 1) rfl (by omega) ?_
          refine v_pi (z := 4) rfl rfl rfl (by decide) rfl rfl rfl (by decide) ?_
          refine q_aload_n rfl rfl ?_
          have hI_115 := iw_41_4 (v := c_24 41 4 + 1) hI_25 ⟨by omega, by omega⟩
          have h_116 : (up c_24 41 4 (c_24 41 4 + 1)) 41 5 = c2 41 5 := ((up_n (by decide)).trans ((hF_26 41 5 (by omega)).trans (hF_13 41 5 (by omega))))
          have h_117 : (up c_24 41 4 (c_24 41 4 + 1)) 41 3 = c 41 3 := ((up_n (by decide)).trans ((hF_26 41 3 (by omega)).trans ((hF_13 41 3 (by omega)).trans (hF 41 3 (by omega)))))
          have h_118 : (up c_24 41 4 (c_24 41 4 + 1)) 41 4 = c_24 41 4 + 1 := (up_e rfl)
          have h_119 : (up c_24 41 4 (c_24 41 4 + 1)) 41 29 = c2 41 29 := ((up_n (by decide)).trans ((hF_26 41 29 (by omega)).trans (hF_13 41 29 (by omega))))
          have h_120 : (up c_24 41 4 (c_24 41 4 + 1)) 41 7 = c2 41 7 := ((up_n (by decide)).trans ((hF_26 41 7 (by omega)).trans (hF_13 41 7 (by omega))))
          obtain ⟨hW_121, hN_122⟩ : Nw (up c_24 41 4 (c_24 41 4 + 1)) ∧ Nh (up c_24 41 4 (c_24 41 4 + 1)) = Nh c2 := nh_fr hW2 (fun j => (up_c (by omega)).trans ((hF_26 50 j (by omega)).trans (hF_13 50 j (by omega)))) (fun j => (up_c (by omega)).trans ((hF_26 51 j (by omega)).trans (hF_13 51 j (by omega)))) ((up_n (by decide)).trans ((hF_26 41 29 (by omega)).trans (hF_13 41 29 (by omega))))
          refine v_cv rfl rfl rfl rfl (by decide) ⟨⟨rfl, rfl⟩, by decide, rfl⟩ (Nat.le_of_ble_eq_true rfl) (Nat.le_of_ble_eq_true rfl) (s_176 (o := o) hI_115 (show 0 ≤ o ∧ o ≤ 6 from by omega) hW_121 (by omega) (by omega) (by omega) (by omega) (by omega) H174 (fun c_123 hI_124 hF_125 hW_126 h_127 h_128 h_129 h_130 h_131 => ?_))
          refine bk_inl ?_
          have h_132 := ir_41_4 hI_124
          have h_133 := ir_41_7 hI_124
          have h_134 := ir_41_29 hI_124
          have h_135 := ir_41_5 hI_124
          refine q_aload_n rfl rfl ?_
          refine q_iload_n rfl rfl ?_
          refine q_iconst rfl ?_
          refine v_cv rfl rfl rfl rfl (by decide) ⟨⟨rfl, rfl⟩, by decide, rfl⟩ (Nat.le_of_ble_eq_true rfl) (Nat.le_of_ble_eq_true rfl) (s_170 (a1 := 4) (a2 := 0) hI_124 (show 0 ≤ 4 ∧ 4 ≤ 8 from by omega) (show 0 ≤ 0 ∧ 0 ≤ 999 from by omega) hW_126 (by omega) (by omega) (by omega) (fun c_136 hI_137 hF_138 hW_139 h_140 h_141 h_142 h_143 => ?_))
          refine bk_inl ?_
          have h_144 := ir_41_29 hI_137
          refine q_goto (t := 4) rfl (by decide) ?_
          refine Wp_ls [(0, .ref 41)] (lsub_cons rfl lsub_nil) ?_
          have h_145 : c_136 41 4 = c_123 41 4 := (hF_138 41 4 (by omega))
          have h_146 : c_136 41 5 = c_123 41 5 := (hF_138 41 5 (by omega))
          have h_147 : c_136 41 7 = c_123 41 7 := (hF_138 41 7 (by omega))
          exact ih c_136 hI_137 (fun a j hm => (hF_138 a j (by omega)).trans ((hF_125 a j (by omega)).trans ((up_b (by omega)).trans ((hF_26 a j (by omega)).trans ((hF_13 a j (by omega)).trans (hF a j (by omega))))))) hW_139 (by omega) (by omega) (by omega) (by omega) (by omega) (by omega)
      · refine v_ic_eq_f (t := 38) rfl (by decide) (by omega) ?_
        refine q_aload_n rfl rfl ?_
        have h_148 : c_11 41 3 = c 41 3 := ((hF_13 41 3 (by omega)).trans (hF 41 3 (by omega)))
        refine v_cv rfl rfl rfl rfl (by decide) ⟨⟨rfl, rfl⟩, by decide, rfl⟩ (Nat.le_of_ble_eq_true rfl) (Nat.le_of_ble_eq_true rfl) (s_154 hI_12 (fun c_149 y_152 hI_150 hF_151 hy_152 h_153 h_154 h_155 h_156 => ?_))
        refine bk_inl ?_
        have h_157 := ir_41_4 hI_150
        have h_158 := ir_43 hI (c_149 41 4)
        have h_159 : c_11 43 (c_149 41 4) = c 43 (c_149 41 4) := ((hF_13 43 (c_149 41 4) (by omega)).trans (hF 43 (c_149 41 4) (by omega)))
        refine v_bip rfl (by decide) ?_
        by_cases h_160 : y_152 = 47
        · refine v_ic_eq_t (t := 38) rfl (by decide) (by omega) ?_
          refine q_aload_n rfl rfl ?_
          have h_161 : c_149 41 3 = c 41 3 := ((hF_151 41 3 (by omega)).trans ((hF_13 41 3 (by omega)).trans (hF 41 3 (by omega))))
          refine v_cv rfl rfl rfl rfl (by decide) ⟨⟨rfl, rfl⟩, by decide, rfl⟩ (Nat.le_of_ble_eq_true rfl) (Nat.le_of_ble_eq_true rfl) (s_154 hI_150 (fun c_162 y_165 hI_163 hF_164 hy_165 h_166 h_167 h_168 h_169 => ?_))
          refine bk_inl ?_
          have h_170 := ir_41_4 hI_163
          have h_171 := ir_43 hI (c_162 41 4)
          have h_172 : c_149 43 (c_162 41 4) = c 43 (c_162 41 4) := ((hF_151 43 (c_162 41 4) (by omega)).trans ((hF_13 43 (c_162 41 4) (by omega)).trans (hF 43 (c_162 41 4) (by omega))))
          refine v_bip rfl (by decide) ?_
          by_cases h_173 : y_165 ≠ 42
          · refine v_ic_ne_t (t := 51) rfl (by decide) (by omega) ?_
            refine q_aload_n rfl rfl ?_
            have h_174 : c_162 41 3 = c 41 3 := ((hF_164 41 3 (by omega)).trans ((hF_151 41 3 (by omega)).trans ((hF_13 41 3 (by omega)).trans (hF 41 3 (by omega)))))
            refine v_cv rfl rfl rfl rfl (by decide) ⟨⟨rfl, rfl⟩, by decide, rfl⟩ (Nat.le_of_ble_eq_true rfl) (Nat.le_of_ble_eq_true rfl) (s_154 hI_163 (fun c_175 y_178 hI_176 hF_177 hy_178 h_179 h_180 h_181 h_182 => ?_))
            refine bk_inl ?_
            have h_183 := ir_41_4 hI_176
            have h_184 := ir_43 hI (c_175 41 4)
            have h_185 : c_162 43 (c_175 41 4) = c 43 (c_175 41 4) := ((hF_164 43 (c_175 41 4) (by omega)).trans ((hF_151 43 (c_175 41 4) (by omega)).trans ((hF_13 43 (c_175 41 4) (by omega)).trans (hF 43 (c_175 41 4) (by omega)))))
            refine v_bip rfl (by decide) ?_
            by_cases h_186 : y_178 ≠ 47
            · refine v_ic_ne_t (t := 64) rfl (by decide) (by omega) ?_
              refine v_bip rfl (by decide) ?_
              refine q_istore_n rfl (by decide) ?_
              refine q_aload_n rfl rfl ?_
              refine q_dup rfl rfl ?_
              refine v_gi (z := 4) (v := c_175 41 4) rfl rfl rfl (by decide) rfl rfl rfl ?_
              refine q_iconst rfl ?_
              refine v_iadd (v := c_175 41 4 + 1) rfl (by omega) ?_
              refine v_pi (z := 4) rfl rfl rfl (by decide) rfl rfl rfl (by decide) ?_
              refine q_aload_n rfl rfl ?_
              have hI_187 := iw_41_4 (v := c_175 41 4 + 1) hI_176 ⟨by omega, by omega⟩
              have h_188 : (up c_175 41 4 (c_175 41 4 + 1)) 41 5 = c2 41 5 := ((up_n (by decide)).trans ((hF_177 41 5 (by omega)).trans ((hF_164 41 5 (by omega)).trans ((hF_151 41 5 (by omega)).trans (hF_13 41 5 (by omega))))))
              have h_189 : (up c_175 41 4 (c_175 41 4 + 1)) 41 3 = c 41 3 := ((up_n (by decide)).trans ((hF_177 41 3 (by omega)).trans ((hF_164 41 3 (by omega)).trans ((hF_151 41 3 (by omega)).trans ((hF_13 41 3 (by omega)).trans (hF 41 3 (by omega)))))))
              have h_190 : (up c_175 41 4 (c_175 41 4 + 1)) 41 4 = c_175 41 4 + 1 := (up_e rfl)
              have h_191 : (up c_175 41 4 (c_175 41 4 + 1)) 41 29 = c2 41 29 := ((up_n (by decide)).trans ((hF_177 41 29 (by omega)).trans ((hF_164 41 29 (by omega)).trans ((hF_151 41 29 (by omega)).trans (hF_13 41 29 (by omega))))))
              have h_192 : (up c_175 41 4 (c_175 41 4 + 1)) 41 7 = c2 41 7 := ((up_n (by decide)).trans ((hF_177 41 7 (by omega)).trans ((hF_164 41 7 (by omega)).trans ((hF_151 41 7 (by omega)).trans (hF_13 41 7 (by omega))))))
              obtain ⟨hW_193, hN_194⟩ : Nw (up c_175 41 4 (c_175 41 4 + 1)) ∧ Nh (up c_175 41 4 (c_175 41 4 + 1)) = Nh c2 := nh_fr hW2 (fun j => (up_c (by omega)).trans ((hF_177 50 j (by omega)).trans ((hF_164 50 j (by omega)).trans ((hF_151 50 j (by omega)).trans (hF_13 50 j (by omega)))))) (fun j => (up_c (by omega)).trans ((hF_177 51 j (by omega)).trans ((hF_164 51 j (by omega)).trans ((hF_151 51 j (by omega)).trans (hF_13 51 j (by omega)))))) ((up_n (by decide)).trans ((hF_177 41 29 (by omega)).trans ((hF_164 41 29 (by omega)).trans ((hF_151 41 29 (by omega)).trans (hF_13 41 29 (by omega))))))
              refine v_cv rfl rfl rfl rfl (by decide) ⟨⟨rfl, rfl⟩, by decide, rfl⟩ (Nat.le_of_ble_eq_true rfl) (Nat.le_of_ble_eq_true rfl) (s_176 (o := o) hI_187 (show 0 ≤ o ∧ o ≤ 6 from by omega) hW_193 (by omega) (by omega) (by omega) (by omega) (by omega) H174 (fun c_195 hI_196 hF_197 hW_198 h_199 h_200 h_201 h_202 h_203 => ?_))
              refine bk_inl ?_
              have h_204 := ir_41_4 hI_196
              have h_205 := ir_41_7 hI_196
              have h_206 := ir_41_29 hI_196
              have h_207 := ir_41_5 hI_196
              refine q_aload_n rfl rfl ?_
              refine q_iload_n rfl rfl ?_
              refine q_iconst rfl ?_
              refine v_cv rfl rfl rfl rfl (by decide) ⟨⟨rfl, rfl⟩, by decide, rfl⟩ (Nat.le_of_ble_eq_true rfl) (Nat.le_of_ble_eq_true rfl) (s_170 (a1 := 8) (a2 := 0) hI_196 (show 0 ≤ 8 ∧ 8 ≤ 8 from by omega) (show 0 ≤ 0 ∧ 0 ≤ 999 from by omega) hW_198 (by omega) (by omega) (by omega) (fun c_208 hI_209 hF_210 hW_211 h_212 h_213 h_214 h_215 => ?_))
              refine bk_inl ?_
              have h_216 := ir_41_29 hI_209
              refine q_goto (t := 4) rfl (by decide) ?_
              refine Wp_ls [(0, .ref 41)] (lsub_cons rfl lsub_nil) ?_
              have h_217 : c_208 41 4 = c_195 41 4 := (hF_210 41 4 (by omega))
              have h_218 : c_208 41 5 = c_195 41 5 := (hF_210 41 5 (by omega))
              have h_219 : c_208 41 7 = c_195 41 7 := (hF_210 41 7 (by omega))
              exact ih c_208 hI_209 (fun a j hm => (hF_210 a j (by omega)).trans ((hF_197 a j (by omega)).trans ((up_b (by omega)).trans ((hF_177 a j (by omega)).trans ((hF_164 a j (by omega)).trans ((hF_151 a j (by omega)).trans ((hF_13 a j (by omega)).trans (hF a j (by omega))))))))) hW_211 (by omega) (by omega) (by omega) (by omega) (by omega) (by omega)
            · refine v_ic_ne_f (t := 64) rfl (by decide) (by omega) ?_
              refine q_iconst rfl ?_
              refine q_goto (t := 66) rfl (by decide) ?_
              refine q_istore_n rfl (by decide) ?_
              refine q_aload_n rfl rfl ?_
              refine q_dup rfl rfl ?_
              refine v_gi (z := 4) (v := c_175 41 4) rfl rfl rfl (by decide) rfl rfl rfl ?_
              refine q_iconst rfl ?_
              refine v_iadd (v := c_175 41 4 + 1) rfl (by omega) ?_
              refine v_pi (z := 4) rfl rfl rfl (by decide) rfl rfl rfl (by decide) ?_
              refine q_aload_n rfl rfl ?_
              have hI_220 := iw_41_4 (v := c_175 41 4 + 1) hI_176 ⟨by omega, by omega⟩
              have h_221 : (up c_175 41 4 (c_175 41 4 + 1)) 41 5 = c2 41 5 := ((up_n (by decide)).trans ((hF_177 41 5 (by omega)).trans ((hF_164 41 5 (by omega)).trans ((hF_151 41 5 (by omega)).trans (hF_13 41 5 (by omega))))))
              have h_222 : (up c_175 41 4 (c_175 41 4 + 1)) 41 3 = c 41 3 := ((up_n (by decide)).trans ((hF_177 41 3 (by omega)).trans ((hF_164 41 3 (by omega)).trans ((hF_151 41 3 (by omega)).trans ((hF_13 41 3 (by omega)).trans (hF 41 3 (by omega)))))))
              have h_223 : (up c_175 41 4 (c_175 41 4 + 1)) 41 4 = c_175 41 4 + 1 := (up_e rfl)
              have h_224 : (up c_175 41 4 (c_175 41 4 + 1)) 41 29 = c2 41 29 := ((up_n (by decide)).trans ((hF_177 41 29 (by omega)).trans ((hF_164 41 29 (by omega)).trans ((hF_151 41 29 (by omega)).trans (hF_13 41 29 (by omega))))))
              have h_225 : (up c_175 41 4 (c_175 41 4 + 1)) 41 7 = c2 41 7 := ((up_n (by decide)).trans ((hF_177 41 7 (by omega)).trans ((hF_164 41 7 (by omega)).trans ((hF_151 41 7 (by omega)).trans (hF_13 41 7 (by omega))))))
              obtain ⟨hW_226, hN_227⟩ : Nw (up c_175 41 4 (c_175 41 4 + 1)) ∧ Nh (up c_175 41 4 (c_175 41 4 + 1)) = Nh c2 := nh_fr hW2 (fun j => (up_c (by omega)).trans ((hF_177 50 j (by omega)).trans ((hF_164 50 j (by omega)).trans ((hF_151 50 j (by omega)).trans (hF_13 50 j (by omega)))))) (fun j => (up_c (by omega)).trans ((hF_177 51 j (by omega)).trans ((hF_164 51 j (by omega)).trans ((hF_151 51 j (by omega)).trans (hF_13 51 j (by omega)))))) ((up_n (by decide)).trans ((hF_177 41 29 (by omega)).trans ((hF_164 41 29 (by omega)).trans ((hF_151 41 29 (by omega)).trans (hF_13 41 29 (by omega))))))
              refine v_cv rfl rfl rfl rfl (by decide) ⟨⟨rfl, rfl⟩, by decide, rfl⟩ (Nat.le_of_ble_eq_true rfl) (Nat.le_of_ble_eq_true rfl) (s_176 (o := o) hI_220 (show 0 ≤ o ∧ o ≤ 6 from by omega) hW_226 (by omega) (by omega) (by omega) (by omega) (by omega) H174 (fun c_228 hI_229 hF_230 hW_231 h_232 h_233 h_234 h_235 h_236 => ?_))
              refine bk_inl ?_
              have h_237 := ir_41_4 hI_229
              have h_238 := ir_41_7 hI_229
              have h_239 := ir_41_29 hI_229
              have h_240 := ir_41_5 hI_229
              refine q_aload_n rfl rfl ?_
              refine q_iload_n rfl rfl ?_
              refine q_iconst rfl ?_
              refine v_cv rfl rfl rfl rfl (by decide) ⟨⟨rfl, rfl⟩, by decide, rfl⟩ (Nat.le_of_ble_eq_true rfl) (Nat.le_of_ble_eq_true rfl) (s_170 (a1 := 5) (a2 := 0) hI_229 (show 0 ≤ 5 ∧ 5 ≤ 8 from by omega) (show 0 ≤ 0 ∧ 0 ≤ 999 from by omega) hW_231 (by omega) (by omega) (by omega) (fun c_241 hI_242 hF_243 hW_244 h_245 h_246 h_247 h_248 => ?_))
              refine bk_inl ?_
              have h_249 := ir_41_29 hI_242
              refine q_goto (t := 4) rfl (by decide) ?_
              refine Wp_ls [(0, .ref 41)] (lsub_cons rfl lsub_nil) ?_
              have h_250 : c_241 41 4 = c_228 41 4 := (hF_243 41 4 (by omega))
              have h_251 : c_241 41 5 = c_228 41 5 := (hF_243 41 5 (by omega))
              have h_252 : c_241 41 7 = c_228 41 7 := (hF_243 41 7 (by omega))
              exact ih c_241 hI_242 (fun a j hm => (hF_243 a j (by omega)).trans ((hF_230 a j (by omega)).trans ((up_b (by omega)).trans ((hF_177 a j (by omega)).trans ((hF_164 a j (by omega)).trans ((hF_151 a j (by omega)).trans ((hF_13 a j (by omega)).trans (hF a j (by omega))))))))) hW_244 (by omega) (by omega) (by omega) (by omega) (by omega) (by omega)
          · refine v_ic_ne_f (t := 51) rfl (by decide) (by omega) ?_
            refine q_iconst rfl ?_
            refine q_goto (t := 66) rfl (by decide) ?_
            refine q_istore_n rfl (by decide) ?_
            refine q_aload_n rfl rfl ?_
            refine q_dup rfl rfl ?_
            refine v_gi (z := 4) (v := c_162 41 4) rfl rfl rfl (by decide) rfl rfl rfl ?_
            refine q_iconst rfl ?_
            refine v_iadd (v := c_162 41 4 + 1) rfl (by omega) ?_
            refine v_pi (z := 4) rfl rfl rfl (by decide) rfl rfl rfl (by decide) ?_
            refine q_aload_n rfl rfl ?_
            have hI_253 := iw_41_4 (v := c_162 41 4 + 1) hI_163 ⟨by omega, by omega⟩
            have h_254 : (up c_162 41 4 (c_162 41 4 + 1)) 41 5 = c2 41 5 := ((up_n (by decide)).trans ((hF_164 41 5 (by omega)).trans ((hF_151 41 5 (by omega)).trans (hF_13 41 5 (by omega)))))
            have h_255 : (up c_162 41 4 (c_162 41 4 + 1)) 41 3 = c 41 3 := ((up_n (by decide)).trans ((hF_164 41 3 (by omega)).trans ((hF_151 41 3 (by omega)).trans ((hF_13 41 3 (by omega)).trans (hF 41 3 (by omega))))))
            have h_256 : (up c_162 41 4 (c_162 41 4 + 1)) 41 4 = c_162 41 4 + 1 := (up_e rfl)
            have h_257 : (up c_162 41 4 (c_162 41 4 + 1)) 41 29 = c2 41 29 := ((up_n (by decide)).trans ((hF_164 41 29 (by omega)).trans ((hF_151 41 29 (by omega)).trans (hF_13 41 29 (by omega)))))
            have h_258 : (up c_162 41 4 (c_162 41 4 + 1)) 41 7 = c2 41 7 := ((up_n (by decide)).trans ((hF_164 41 7 (by omega)).trans ((hF_151 41 7 (by omega)).trans (hF_13 41 7 (by omega)))))
            obtain ⟨hW_259, hN_260⟩ : Nw (up c_162 41 4 (c_162 41 4 + 1)) ∧ Nh (up c_162 41 4 (c_162 41 4 + 1)) = Nh c2 := nh_fr hW2 (fun j => (up_c (by omega)).trans ((hF_164 50 j (by omega)).trans ((hF_151 50 j (by omega)).trans (hF_13 50 j (by omega))))) (fun j => (up_c (by omega)).trans ((hF_164 51 j (by omega)).trans ((hF_151 51 j (by omega)).trans (hF_13 51 j (by omega))))) ((up_n (by decide)).trans ((hF_164 41 29 (by omega)).trans ((hF_151 41 29 (by omega)).trans (hF_13 41 29 (by omega)))))
            refine v_cv rfl rfl rfl rfl (by decide) ⟨⟨rfl, rfl⟩, by decide, rfl⟩ (Nat.le_of_ble_eq_true rfl) (Nat.le_of_ble_eq_true rfl) (s_176 (o := o) hI_253 (show 0 ≤ o ∧ o ≤ 6 from by omega) hW_259 (by omega) (by omega) (by omega) (by omega) (by omega) H174 (fun c_261 hI_262 hF_263 hW_264 h_265 h_266 h_267 h_268 h_269 => ?_))
            refine bk_inl ?_
            have h_270 := ir_41_4 hI_262
            have h_271 := ir_41_7 hI_262
            have h_272 := ir_41_29 hI_262
            have h_273 := ir_41_5 hI_262
            refine q_aload_n rfl rfl ?_
            refine q_iload_n rfl rfl ?_
            refine q_iconst rfl ?_
            refine v_cv rfl rfl rfl rfl (by decide) ⟨⟨rfl, rfl⟩, by decide, rfl⟩ (Nat.le_of_ble_eq_true rfl) (Nat.le_of_ble_eq_true rfl) (s_170 (a1 := 4) (a2 := 0) hI_262 (show 0 ≤ 4 ∧ 4 ≤ 8 from by omega) (show 0 ≤ 0 ∧ 0 ≤ 999 from by omega) hW_264 (by omega) (by omega) (by omega) (fun c_274 hI_275 hF_276 hW_277 h_278 h_279 h_280 h_281 => ?_))
            refine bk_inl ?_
            have h_282 := ir_41_29 hI_275
            refine q_goto (t := 4) rfl (by decide) ?_
            refine Wp_ls [(0, .ref 41)] (lsub_cons rfl lsub_nil) ?_
            have h_283 : c_274 41 4 = c_261 41 4 := (hF_276 41 4 (by omega))
            have h_284 : c_274 41 5 = c_261 41 5 := (hF_276 41 5 (by omega))
            have h_285 : c_274 41 7 = c_261 41 7 := (hF_276 41 7 (by omega))
            exact ih c_274 hI_275 (fun a j hm => (hF_276 a j (by omega)).trans ((hF_263 a j (by omega)).trans ((up_b (by omega)).trans ((hF_164 a j (by omega)).trans ((hF_151 a j (by omega)).trans ((hF_13 a j (by omega)).trans (hF a j (by omega)))))))) hW_277 (by omega) (by omega) (by omega) (by omega) (by omega) (by omega)
        · refine v_ic_eq_f (t := 38) rfl (by decide) (by omega) ?_
          refine q_aload_n rfl rfl ?_
          have h_286 : c_149 41 3 = c 41 3 := ((hF_151 41 3 (by omega)).trans ((hF_13 41 3 (by omega)).trans (hF 41 3 (by omega))))
          refine v_cv rfl rfl rfl rfl (by decide) ⟨⟨rfl, rfl⟩, by decide, rfl⟩ (Nat.le_of_ble_eq_true rfl) (Nat.le_of_ble_eq_true rfl) (s_154 hI_150 (fun c_287 y_290 hI_288 hF_289 hy_290 h_291 h_292 h_293 h_294 => ?_))
          refine bk_inl ?_
          have h_295 := ir_41_4 hI_288
          have h_296 := ir_43 hI (c_287 41 4)
          have h_297 : c_149 43 (c_287 41 4) = c 43 (c_287 41 4) := ((hF_151 43 (c_287 41 4) (by omega)).trans ((hF_13 43 (c_287 41 4) (by omega)).trans (hF 43 (c_287 41 4) (by omega))))
          refine v_bip rfl (by decide) ?_
          by_cases h_298 : y_290 ≠ 37
          · refine v_ic_ne_t (t := 90) rfl (by decide) (by omega) ?_
            refine q_vret rfl rfl ?_
            obtain ⟨hW_299, hN_300⟩ : Nw c_287 ∧ Nh c_287 = Nh c2 := nh_fr hW2 (fun j => (hF_289 50 j (by omega)).trans ((hF_151 50 j (by omega)).trans (hF_13 50 j (by omega)))) (fun j => (hF_289 51 j (by omega)).trans ((hF_151 51 j (by omega)).trans (hF_13 51 j (by omega)))) ((hF_289 41 29 (by omega)).trans ((hF_151 41 29 (by omega)).trans (hF_13 41 29 (by omega))))
            have h_301 : c_287 41 29 = c2 41 29 := ((hF_289 41 29 (by omega)).trans ((hF_151 41 29 (by omega)).trans (hF_13 41 29 (by omega))))
            have h_302 : c_287 41 5 = c2 41 5 := ((hF_289 41 5 (by omega)).trans ((hF_151 41 5 (by omega)).trans (hF_13 41 5 (by omega))))
            have h_303 : c_287 41 7 = c2 41 7 := ((hF_289 41 7 (by omega)).trans ((hF_151 41 7 (by omega)).trans (hF_13 41 7 (by omega))))
            exact K c_287 hI_288 (fun a j hm => (hF_289 a j (by omega)).trans ((hF_151 a j (by omega)).trans ((hF_13 a j (by omega)).trans (hF a j (by omega))))) hW_299 (by omega) (by omega) (by omega) (by omega) (by omega)
          · refine v_ic_ne_f (t := 90) rfl (by decide) (by omega) ?_
            refine q_aload_n rfl rfl ?_
            have h_304 : c_287 41 3 = c 41 3 := ((hF_289 41 3 (by omega)).trans ((hF_151 41 3 (by omega)).trans ((hF_13 41 3 (by omega)).trans (hF 41 3 (by omega)))))
            refine v_cv rfl rfl rfl rfl (by decide) ⟨⟨rfl, rfl⟩, by decide, rfl⟩ (Nat.le_of_ble_eq_true rfl) (Nat.le_of_ble_eq_true rfl) (s_154 hI_288 (fun c_305 y_308 hI_306 hF_307 hy_308 h_309 h_310 h_311 h_312 => ?_))
            refine bk_inl ?_
            have h_313 := ir_41_4 hI_306
            have h_314 := ir_43 hI (c_305 41 4)
            have h_315 : c_287 43 (c_305 41 4) = c 43 (c_305 41 4) := ((hF_289 43 (c_305 41 4) (by omega)).trans ((hF_151 43 (c_305 41 4) (by omega)).trans ((hF_13 43 (c_305 41 4) (by omega)).trans (hF 43 (c_305 41 4) (by omega)))))
            refine v_bip rfl (by decide) ?_
            by_cases h_316 : y_308 ≠ 42
            · refine v_ic_ne_t (t := 51) rfl (by decide) (by omega) ?_
              refine q_aload_n rfl rfl ?_
              have h_317 : c_305 41 3 = c 41 3 := ((hF_307 41 3 (by omega)).trans ((hF_289 41 3 (by omega)).trans ((hF_151 41 3 (by omega)).trans ((hF_13 41 3 (by omega)).trans (hF 41 3 (by omega))))))
              refine v_cv rfl rfl rfl rfl (by decide) ⟨⟨rfl, rfl⟩, by decide, rfl⟩ (Nat.le_of_ble_eq_true rfl) (Nat.le_of_ble_eq_true rfl) (s_154 hI_306 (fun c_318 y_321 hI_319 hF_320 hy_321 h_322 h_323 h_324 h_325 => ?_))
              refine bk_inl ?_
              have h_326 := ir_41_4 hI_319
              have h_327 := ir_43 hI (c_318 41 4)
              have h_328 : c_305 43 (c_318 41 4) = c 43 (c_318 41 4) := ((hF_307 43 (c_318 41 4) (by omega)).trans ((hF_289 43 (c_318 41 4) (by omega)).trans ((hF_151 43 (c_318 41 4) (by omega)).trans ((hF_13 43 (c_318 41 4) (by omega)).trans (hF 43 (c_318 41 4) (by omega))))))
              refine v_bip rfl (by decide) ?_
              by_cases h_329 : y_321 ≠ 47
              · refine v_ic_ne_t (t := 64) rfl (by decide) (by omega) ?_
                refine v_bip rfl (by decide) ?_
                refine q_istore_n rfl (by decide) ?_
                refine q_aload_n rfl rfl ?_
                refine q_dup rfl rfl ?_
                refine v_gi (z := 4) (v := c_318 41 4) rfl rfl rfl (by decide) rfl rfl rfl ?_
                refine q_iconst rfl ?_
                refine v_iadd (v := c_318 41 4 + 1) rfl (by omega) ?_
                refine v_pi (z := 4) rfl rfl rfl (by decide) rfl rfl rfl (by decide) ?_
                refine q_aload_n rfl rfl ?_
                have hI_330 := iw_41_4 (v := c_318 41 4 + 1) hI_319 ⟨by omega, by omega⟩
                have h_331 : (up c_318 41 4 (c_318 41 4 + 1)) 41 5 = c2 41 5 := ((up_n (by decide)).trans ((hF_320 41 5 (by omega)).trans ((hF_307 41 5 (by omega)).trans ((hF_289 41 5 (by omega)).trans ((hF_151 41 5 (by omega)).trans (hF_13 41 5 (by omega)))))))
                have h_332 : (up c_318 41 4 (c_318 41 4 + 1)) 41 3 = c 41 3 := ((up_n (by decide)).trans ((hF_320 41 3 (by omega)).trans ((hF_307 41 3 (by omega)).trans ((hF_289 41 3 (by omega)).trans ((hF_151 41 3 (by omega)).trans ((hF_13 41 3 (by omega)).trans (hF 41 3 (by omega))))))))
                have h_333 : (up c_318 41 4 (c_318 41 4 + 1)) 41 4 = c_318 41 4 + 1 := (up_e rfl)
                have h_334 : (up c_318 41 4 (c_318 41 4 + 1)) 41 29 = c2 41 29 := ((up_n (by decide)).trans ((hF_320 41 29 (by omega)).trans ((hF_307 41 29 (by omega)).trans ((hF_289 41 29 (by omega)).trans ((hF_151 41 29 (by omega)).trans (hF_13 41 29 (by omega)))))))
                have h_335 : (up c_318 41 4 (c_318 41 4 + 1)) 41 7 = c2 41 7 := ((up_n (by decide)).trans ((hF_320 41 7 (by omega)).trans ((hF_307 41 7 (by omega)).trans ((hF_289 41 7 (by omega)).trans ((hF_151 41 7 (by omega)).trans (hF_13 41 7 (by omega)))))))
                obtain ⟨hW_336, hN_337⟩ : Nw (up c_318 41 4 (c_318 41 4 + 1)) ∧ Nh (up c_318 41 4 (c_318 41 4 + 1)) = Nh c2 := nh_fr hW2 (fun j => (up_c (by omega)).trans ((hF_320 50 j (by omega)).trans ((hF_307 50 j (by omega)).trans ((hF_289 50 j (by omega)).trans ((hF_151 50 j (by omega)).trans (hF_13 50 j (by omega))))))) (fun j => (up_c (by omega)).trans ((hF_320 51 j (by omega)).trans ((hF_307 51 j (by omega)).trans ((hF_289 51 j (by omega)).trans ((hF_151 51 j (by omega)).trans (hF_13 51 j (by omega))))))) ((up_n (by decide)).trans ((hF_320 41 29 (by omega)).trans ((hF_307 41 29 (by omega)).trans ((hF_289 41 29 (by omega)).trans ((hF_151 41 29 (by omega)).trans (hF_13 41 29 (by omega)))))))
                refine v_cv rfl rfl rfl rfl (by decide) ⟨⟨rfl, rfl⟩, by decide, rfl⟩ (Nat.le_of_ble_eq_true rfl) (Nat.le_of_ble_eq_true rfl) (s_176 (o := o) hI_330 (show 0 ≤ o ∧ o ≤ 6 from by omega) hW_336 (by omega) (by omega) (by omega) (by omega) (by omega) H174 (fun c_338 hI_339 hF_340 hW_341 h_342 h_343 h_344 h_345 h_346 => ?_))
                refine bk_inl ?_
                have h_347 := ir_41_4 hI_339
                have h_348 := ir_41_7 hI_339
                have h_349 := ir_41_29 hI_339
                have h_350 := ir_41_5 hI_339
                refine q_aload_n rfl rfl ?_
                refine q_iload_n rfl rfl ?_
                refine q_iconst rfl ?_
                refine v_cv rfl rfl rfl rfl (by decide) ⟨⟨rfl, rfl⟩, by decide, rfl⟩ (Nat.le_of_ble_eq_true rfl) (Nat.le_of_ble_eq_true rfl) (s_170 (a1 := 8) (a2 := 0) hI_339 (show 0 ≤ 8 ∧ 8 ≤ 8 from by omega) (show 0 ≤ 0 ∧ 0 ≤ 999 from by omega) hW_341 (by omega) (by omega) (by omega) (fun c_351 hI_352 hF_353 hW_354 h_355 h_356 h_357 h_358 => ?_))
                refine bk_inl ?_
                have h_359 := ir_41_29 hI_352
                refine q_goto (t := 4) rfl (by decide) ?_
                refine Wp_ls [(0, .ref 41)] (lsub_cons rfl lsub_nil) ?_
                have h_360 : c_351 41 4 = c_338 41 4 := (hF_353 41 4 (by omega))
                have h_361 : c_351 41 5 = c_338 41 5 := (hF_353 41 5 (by omega))
                have h_362 : c_351 41 7 = c_338 41 7 := (hF_353 41 7 (by omega))
                exact ih c_351 hI_352 (fun a j hm => (hF_353 a j (by omega)).trans ((hF_340 a j (by omega)).trans ((up_b (by omega)).trans ((hF_320 a j (by omega)).trans ((hF_307 a j (by omega)).trans ((hF_289 a j (by omega)).trans ((hF_151 a j (by omega)).trans ((hF_13 a j (by omega)).trans (hF a j (by omega)))))))))) hW_354 (by omega) (by omega) (by omega) (by omega) (by omega) (by omega)
              · refine v_ic_ne_f (t := 64) rfl (by decide) (by omega) ?_
                refine q_iconst rfl ?_
                refine q_goto (t := 66) rfl (by decide) ?_
                refine q_istore_n rfl (by decide) ?_
                refine q_aload_n rfl rfl ?_
                refine q_dup rfl rfl ?_
                refine v_gi (z := 4) (v := c_318 41 4) rfl rfl rfl (by decide) rfl rfl rfl ?_
                refine q_iconst rfl ?_
                refine v_iadd (v := c_318 41 4 + 1) rfl (by omega) ?_
                refine v_pi (z := 4) rfl rfl rfl (by decide) rfl rfl rfl (by decide) ?_
                refine q_aload_n rfl rfl ?_
                have hI_363 := iw_41_4 (v := c_318 41 4 + 1) hI_319 ⟨by omega, by omega⟩
                have h_364 : (up c_318 41 4 (c_318 41 4 + 1)) 41 5 = c2 41 5 := ((up_n (by decide)).trans ((hF_320 41 5 (by omega)).trans ((hF_307 41 5 (by omega)).trans ((hF_289 41 5 (by omega)).trans ((hF_151 41 5 (by omega)).trans (hF_13 41 5 (by omega)))))))
                have h_365 : (up c_318 41 4 (c_318 41 4 + 1)) 41 3 = c 41 3 := ((up_n (by decide)).trans ((hF_320 41 3 (by omega)).trans ((hF_307 41 3 (by omega)).trans ((hF_289 41 3 (by omega)).trans ((hF_151 41 3 (by omega)).trans ((hF_13 41 3 (by omega)).trans (hF 41 3 (by omega))))))))
                have h_366 : (up c_318 41 4 (c_318 41 4 + 1)) 41 4 = c_318 41 4 + 1 := (up_e rfl)
                have h_367 : (up c_318 41 4 (c_318 41 4 + 1)) 41 29 = c2 41 29 := ((up_n (by decide)).trans ((hF_320 41 29 (by omega)).trans ((hF_307 41 29 (by omega)).trans ((hF_289 41 29 (by omega)).trans ((hF_151 41 29 (by omega)).trans (hF_13 41 29 (by omega)))))))
                have h_368 : (up c_318 41 4 (c_318 41 4 + 1)) 41 7 = c2 41 7 := ((up_n (by decide)).trans ((hF_320 41 7 (by omega)).trans ((hF_307 41 7 (by omega)).trans ((hF_289 41 7 (by omega)).trans ((hF_151 41 7 (by omega)).trans (hF_13 41 7 (by omega)))))))
                obtain ⟨hW_369, hN_370⟩ : Nw (up c_318 41 4 (c_318 41 4 + 1)) ∧ Nh (up c_318 41 4 (c_318 41 4 + 1)) = Nh c2 := nh_fr hW2 (fun j => (up_c (by omega)).trans ((hF_320 50 j (by omega)).trans ((hF_307 50 j (by omega)).trans ((hF_289 50 j (by omega)).trans ((hF_151 50 j (by omega)).trans (hF_13 50 j (by omega))))))) (fun j => (up_c (by omega)).trans ((hF_320 51 j (by omega)).trans ((hF_307 51 j (by omega)).trans ((hF_289 51 j (by omega)).trans ((hF_151 51 j (by omega)).trans (hF_13 51 j (by omega))))))) ((up_n (by decide)).trans ((hF_320 41 29 (by omega)).trans ((hF_307 41 29 (by omega)).trans ((hF_289 41 29 (by omega)).trans ((hF_151 41 29 (by omega)).trans (hF_13 41 29 (by omega)))))))
                refine v_cv rfl rfl rfl rfl (by decide) ⟨⟨rfl, rfl⟩, by decide, rfl⟩ (Nat.le_of_ble_eq_true rfl) (Nat.le_of_ble_eq_true rfl) (s_176 (o := o) hI_363 (show 0 ≤ o ∧ o ≤ 6 from by omega) hW_369 (by omega) (by omega) (by omega) (by omega) (by omega) H174 (fun c_371 hI_372 hF_373 hW_374 h_375 h_376 h_377 h_378 h_379 => ?_))
                refine bk_inl ?_
                have h_380 := ir_41_4 hI_372
                have h_381 := ir_41_7 hI_372
                have h_382 := ir_41_29 hI_372
                have h_383 := ir_41_5 hI_372
                refine q_aload_n rfl rfl ?_
                refine q_iload_n rfl rfl ?_
                refine q_iconst rfl ?_
                refine v_cv rfl rfl rfl rfl (by decide) ⟨⟨rfl, rfl⟩, by decide, rfl⟩ (Nat.le_of_ble_eq_true rfl) (Nat.le_of_ble_eq_true rfl) (s_170 (a1 := 5) (a2 := 0) hI_372 (show 0 ≤ 5 ∧ 5 ≤ 8 from by omega) (show 0 ≤ 0 ∧ 0 ≤ 999 from by omega) hW_374 (by omega) (by omega) (by omega) (fun c_384 hI_385 hF_386 hW_387 h_388 h_389 h_390 h_391 => ?_))
                refine bk_inl ?_
                have h_392 := ir_41_29 hI_385
                refine q_goto (t := 4) rfl (by decide) ?_
                refine Wp_ls [(0, .ref 41)] (lsub_cons rfl lsub_nil) ?_
                have h_393 : c_384 41 4 = c_371 41 4 := (hF_386 41 4 (by omega))
                have h_394 : c_384 41 5 = c_371 41 5 := (hF_386 41 5 (by omega))
                have h_395 : c_384 41 7 = c_371 41 7 := (hF_386 41 7 (by omega))
                exact ih c_384 hI_385 (fun a j hm => (hF_386 a j (by omega)).trans ((hF_373 a j (by omega)).trans ((up_b (by omega)).trans ((hF_320 a j (by omega)).trans ((hF_307 a j (by omega)).trans ((hF_289 a j (by omega)).trans ((hF_151 a j (by omega)).trans ((hF_13 a j (by omega)).trans (hF a j (by omega)))))))))) hW_387 (by omega) (by omega) (by omega) (by omega) (by omega) (by omega)
            · refine v_ic_ne_f (t := 51) rfl (by decide) (by omega) ?_
              refine q_iconst rfl ?_
              refine q_goto (t := 66) rfl (by decide) ?_
              refine q_istore_n rfl (by decide) ?_
              refine q_aload_n rfl rfl ?_
              refine q_dup rfl rfl ?_
              refine v_gi (z := 4) (v := c_305 41 4) rfl rfl rfl (by decide) rfl rfl rfl ?_
              refine q_iconst rfl ?_
              refine v_iadd (v := c_305 41 4 + 1) rfl (by omega) ?_
              refine v_pi (z := 4) rfl rfl rfl (by decide) rfl rfl rfl (by decide) ?_
              refine q_aload_n rfl rfl ?_
              have hI_396 := iw_41_4 (v := c_305 41 4 + 1) hI_306 ⟨by omega, by omega⟩
              have h_397 : (up c_305 41 4 (c_305 41 4 + 1)) 41 5 = c2 41 5 := ((up_n (by decide)).trans ((hF_307 41 5 (by omega)).trans ((hF_289 41 5 (by omega)).trans ((hF_151 41 5 (by omega)).trans (hF_13 41 5 (by omega))))))
              have h_398 : (up c_305 41 4 (c_305 41 4 + 1)) 41 3 = c 41 3 := ((up_n (by decide)).trans ((hF_307 41 3 (by omega)).trans ((hF_289 41 3 (by omega)).trans ((hF_151 41 3 (by omega)).trans ((hF_13 41 3 (by omega)).trans (hF 41 3 (by omega)))))))
              have h_399 : (up c_305 41 4 (c_305 41 4 + 1)) 41 4 = c_305 41 4 + 1 := (up_e rfl)
              have h_400 : (up c_305 41 4 (c_305 41 4 + 1)) 41 29 = c2 41 29 := ((up_n (by decide)).trans ((hF_307 41 29 (by omega)).trans ((hF_289 41 29 (by omega)).trans ((hF_151 41 29 (by omega)).trans (hF_13 41 29 (by omega))))))
              have h_401 : (up c_305 41 4 (c_305 41 4 + 1)) 41 7 = c2 41 7 := ((up_n (by decide)).trans ((hF_307 41 7 (by omega)).trans ((hF_289 41 7 (by omega)).trans ((hF_151 41 7 (by omega)).trans (hF_13 41 7 (by omega))))))
              obtain ⟨hW_402, hN_403⟩ : Nw (up c_305 41 4 (c_305 41 4 + 1)) ∧ Nh (up c_305 41 4 (c_305 41 4 + 1)) = Nh c2 := nh_fr hW2 (fun j => (up_c (by omega)).trans ((hF_307 50 j (by omega)).trans ((hF_289 50 j (by omega)).trans ((hF_151 50 j (by omega)).trans (hF_13 50 j (by omega)))))) (fun j => (up_c (by omega)).trans ((hF_307 51 j (by omega)).trans ((hF_289 51 j (by omega)).trans ((hF_151 51 j (by omega)).trans (hF_13 51 j (by omega)))))) ((up_n (by decide)).trans ((hF_307 41 29 (by omega)).trans ((hF_289 41 29 (by omega)).trans ((hF_151 41 29 (by omega)).trans (hF_13 41 29 (by omega))))))
              refine v_cv rfl rfl rfl rfl (by decide) ⟨⟨rfl, rfl⟩, by decide, rfl⟩ (Nat.le_of_ble_eq_true rfl) (Nat.le_of_ble_eq_true rfl) (s_176 (o := o) hI_396 (show 0 ≤ o ∧ o ≤ 6 from by omega) hW_402 (by omega) (by omega) (by omega) (by omega) (by omega) H174 (fun c_404 hI_405 hF_406 hW_407 h_408 h_409 h_410 h_411 h_412 => ?_))
              refine bk_inl ?_
              have h_413 := ir_41_4 hI_405
              have h_414 := ir_41_7 hI_405
              have h_415 := ir_41_29 hI_405
              have h_416 := ir_41_5 hI_405
              refine q_aload_n rfl rfl ?_
              refine q_iload_n rfl rfl ?_
              refine q_iconst rfl ?_
              refine v_cv rfl rfl rfl rfl (by decide) ⟨⟨rfl, rfl⟩, by decide, rfl⟩ (Nat.le_of_ble_eq_true rfl) (Nat.le_of_ble_eq_true rfl) (s_170 (a1 := 4) (a2 := 0) hI_405 (show 0 ≤ 4 ∧ 4 ≤ 8 from by omega) (show 0 ≤ 0 ∧ 0 ≤ 999 from by omega) hW_407 (by omega) (by omega) (by omega) (fun c_417 hI_418 hF_419 hW_420 h_421 h_422 h_423 h_424 => ?_))
              refine bk_inl ?_
              have h_425 := ir_41_29 hI_418
              refine q_goto (t := 4) rfl (by decide) ?_
              refine Wp_ls [(0, .ref 41)] (lsub_cons rfl lsub_nil) ?_
              have h_426 : c_417 41 4 = c_404 41 4 := (hF_419 41 4 (by omega))
              have h_427 : c_417 41 5 = c_404 41 5 := (hF_419 41 5 (by omega))
              have h_428 : c_417 41 7 = c_404 41 7 := (hF_419 41 7 (by omega))
              exact ih c_417 hI_418 (fun a j hm => (hF_419 a j (by omega)).trans ((hF_406 a j (by omega)).trans ((up_b (by omega)).trans ((hF_307 a j (by omega)).trans ((hF_289 a j (by omega)).trans ((hF_151 a j (by omega)).trans ((hF_13 a j (by omega)).trans (hF a j (by omega))))))))) hW_420 (by omega) (by omega) (by omega) (by omega) (by omega) (by omega)
set_option maxRecDepth 100000 in
set_option maxHeartbeats 4000000 in
theorem s_173 {sc : List Int32} {e : Int} {d u P Q : Nat} {c : ME} {o : Int} {Z : AR → Prop} (hI : Iv u e P Q c) (ho : 0 ≤ o ∧ o ≤ 6) (hW : Nw c) (hq0 : (c 41 5 = (-1))) (hq1 : (c 41 4 ≤ c 41 3)) (hq2 : (c 41 3 ≤ 150)) (hq3 : (c 41 29 ≤ c 41 4)) (hq4 : (c 41 7 = o)) (H174 : ∀ (d9 : Nat) (c : ME) (Z : AR → Prop), d ≤ d9 → o + 1 ≤ 6 → Iv u e P Q c → Nw c → ((c 41 5 = (-1))) → ((c 41 4 ≤ c 41 3)) → ((c 41 3 ≤ 150)) → ((c 41 29 ≤ c 41 4)) → (c 41 7 = o + 1) → (∀ c2 : ME, Iv u e P Q c2 → (∀ (a : Nat) (j : Int), ¬ ((a = 41 ∧ j = 4) ∨ (a = 41 ∧ j = 5) ∨ (a = 41 ∧ j = 6) ∨ (a = 41 ∧ j = 7) ∨ (a = 41 ∧ j = 29) ∨ a = 50 ∨ a = 51) → c2 a j = c a j) → Nw c2 → ((c2 41 4 ≥ c 41 4)) → ((c2 41 7 = c 41 7)) → ((c 41 4 + c2 41 29 ≤ c 41 29 + c2 41 4)) → ((c2 41 5 < (-1)) ∨ (c2 41 5 > (-1)) ∨ (c2 41 4 ≤ c 41 3)) → ((c2 41 5 < (-1)) ∨ (c2 41 5 > (-1)) ∨ (Nh c2 = Nh c + 1)) → Z (.inl none, Wd P Q P P c2, 0, 0)) → Wp sc (d9 + 12) 174 0 [(0, .ref 41)] [] (Wd P Q P P c) 0 0 Z) (K : ∀ (c2 : ME), Iv u e P Q c2 → (∀ (a : Nat) (j : Int), ¬ ((a = 41 ∧ j = 4) ∨ (a = 41 ∧ j = 5) ∨ (a = 41 ∧ j = 6) ∨ (a = 41 ∧ j = 7) ∨ (a = 41 ∧ j = 29) ∨ a = 50 ∨ a = 51) → c2 a j = c a j) → Nw c2 → ((c2 41 4 ≥ c 41 4)) → ((c2 41 7 = c 41 7)) → ((c 41 4 + c2 41 29 ≤ c 41 29 + c2 41 4)) → ((c2 41 5 < (-1)) ∨ (c2 41 5 > (-1)) ∨ (c2 41 4 ≤ c 41 3)) → ((c2 41 5 < (-1)) ∨ (c2 41 5 > (-1)) ∨ (Nh c2 = Nh c + 1)) → Z (.inl (none), Wd P Q P P c2, 0, 0)) : Wp sc (d + 15) 173 0 [(0, .ref 41)] [] (Wd P Q P P c) 0 0 Z := by
  have hP := iv_P hI
  have hQ := iv_Q hI
  have h_430 := ir_41_5 hI
  have h_431 := ir_41_3 hI
  have h_432 := ir_41_4 hI
  have h_433 := ir_41_29 hI
  have h_434 := ir_41_7 hI
  refine q_aload_n rfl rfl ?_
  refine v_cv rfl rfl rfl rfl (by decide) ⟨⟨rfl, rfl⟩, by decide, rfl⟩ (Nat.le_of_ble_eq_true rfl) (Nat.le_of_ble_eq_true rfl) (s_176 (o := o) hI (show 0 ≤ o ∧ o ≤ 6 from by omega) hW (by omega) (by omega) (by omega) (by omega) (by omega) H174 (fun c_435 hI_436 hF_437 hW_438 h_439 h_440 h_441 h_442 h_443 => ?_))
  refine bk_inl ?_
  have h_444 := ir_41_4 hI_436
  have h_445 := ir_41_7 hI_436
  have h_446 := ir_41_29 hI_436
  have h_447 := ir_41_5 hI_436
  refine Wp_ls [(0, .ref 41)] (lsub_cons rfl lsub_nil) ?_
  exact (s_173_l (sc := sc) (d := d) hI ho hW hq0 hq1 hq2 hq3 hq4 H174 K 1214) c_435 hI_436 (fun a j hm => hF_437 a j (by omega)) hW_438 (by omega) (by omega) (by omega) (by omega) (by omega) (by omega)

set_option maxRecDepth 100000 in
set_option maxHeartbeats 4000000 in
theorem s_174_l {sc : List Int32} {e : Int} {d u P Q : Nat} {c : ME} {o : Int} {Z : AR → Prop} (hI : Iv u e P Q c) (ho : 0 ≤ o ∧ o ≤ 6) (hW : Nw c) (hq0 : (c 41 5 = (-1))) (hq1 : (c 41 4 ≤ c 41 3)) (hq2 : (c 41 3 ≤ 150)) (hq3 : (c 41 29 ≤ c 41 4)) (hq4 : (c 41 7 = o)) (H174 : ∀ (d9 : Nat) (c : ME) (Z : AR → Prop), d ≤ d9 → o + 1 ≤ 6 → Iv u e P Q c → Nw c → ((c 41 5 = (-1))) → ((c 41 4 ≤ c 41 3)) → ((c 41 3 ≤ 150)) → ((c 41 29 ≤ c 41 4)) → (c 41 7 = o + 1) → (∀ c2 : ME, Iv u e P Q c2 → (∀ (a : Nat) (j : Int), ¬ ((a = 41 ∧ j = 4) ∨ (a = 41 ∧ j = 5) ∨ (a = 41 ∧ j = 6) ∨ (a = 41 ∧ j = 7) ∨ (a = 41 ∧ j = 29) ∨ a = 50 ∨ a = 51) → c2 a j = c a j) → Nw c2 → ((c2 41 4 ≥ c 41 4)) → ((c2 41 7 = c 41 7)) → ((c 41 4 + c2 41 29 ≤ c 41 29 + c2 41 4)) → ((c2 41 5 < (-1)) ∨ (c2 41 5 > (-1)) ∨ (c2 41 4 ≤ c 41 3)) → ((c2 41 5 < (-1)) ∨ (c2 41 5 > (-1)) ∨ (Nh c2 = Nh c + 1)) → Z (.inl none, Wd P Q P P c2, 0, 0)) → Wp sc (d9 + 12) 174 0 [(0, .ref 41)] [] (Wd P Q P P c) 0 0 Z) (K : ∀ (c2 : ME), Iv u e P Q c2 → (∀ (a : Nat) (j : Int), ¬ ((a = 41 ∧ j = 4) ∨ (a = 41 ∧ j = 5) ∨ (a = 41 ∧ j = 6) ∨ (a = 41 ∧ j = 7) ∨ (a = 41 ∧ j = 29) ∨ a = 50 ∨ a = 51) → c2 a j = c a j) → Nw c2 → ((c2 41 4 ≥ c 41 4)) → ((c2 41 7 = c 41 7)) → ((c 41 4 + c2 41 29 ≤ c 41 29 + c2 41 4)) → ((c2 41 5 < (-1)) ∨ (c2 41 5 > (-1)) ∨ (c2 41 4 ≤ c 41 3)) → ((c2 41 5 < (-1)) ∨ (c2 41 5 > (-1)) ∨ (Nh c2 = Nh c + 1)) → Z (.inl (none), Wd P Q P P c2, 0, 0)) : ∀ n : Nat, (∀ (c2 : ME), Iv u e P Q c2 → (∀ (a : Nat) (j : Int), ¬ ((a = 41 ∧ j = 4) ∨ (a = 41 ∧ j = 5) ∨ (a = 41 ∧ j = 6) ∨ (a = 41 ∧ j = 7) ∨ (a = 41 ∧ j = 29) ∨ a = 50 ∨ a = 51) → c2 a j = c a j) → Nw c2 → ((c2 41 4 ≥ c 41 4)) → ((c2 41 7 = c 41 7)) → ((c 41 4 + c2 41 29 ≤ c 41 29 + c2 41 4)) → ((c2 41 5 < (-1)) ∨ (c2 41 5 > (-1)) ∨ (c2 41 4 ≤ c 41 3)) → ((c2 41 5 < (-1)) ∨ (c2 41 5 > (-1)) ∨ (Nh c2 = Nh c + 1)) → 1211 - 2 * c2 41 4 < (n : Int) → Wp sc (d + 16) 174 4 [(0, .ref 41)] [] (Wd P Q P P c2) 0 0 Z)
  | 0 => by intro c2 hI2 hF hW2 hx0 hx1 hx2 hx3 hx4 hm9; have hP := iv_P hI; have hQ := iv_Q hI; have h_199 := ir_41_4 hI2; exfalso; omega
  | n + 1 => by
    have hP := iv_P hI
    have hQ := iv_Q hI
    have ih := s_174_l (sc := sc) (d := d) hI ho hW hq0 hq1 hq2 hq3 hq4 H174 K n
    intro c2 hI2 hF hW2 hx0 hx1 hx2 hx3 hx4 hm9
    have h_1 := ir_41_4 hI
    have h_2 := ir_41_4 hI2
    have h_3 := ir_41_7 hI
    have h_4 := ir_41_7 hI2
    have h_5 := ir_41_29 hI
    have h_6 := ir_41_29 hI2
    have h_7 := ir_41_3 hI
    have h_8 := ir_41_5 hI2
    refine q_aload_n rfl rfl ?_
    refine v_cv rfl rfl rfl rfl (by decide) ⟨⟨rfl, rfl⟩, by decide, rfl⟩ (Nat.le_of_ble_eq_true rfl) (Nat.le_of_ble_eq_true rfl) ?_
    refine q_aload_n rfl rfl ?_
    refine v_gi (z := 5) (v := c2 41 5) rfl rfl rfl (by decide) rfl rfl rfl ?_
    refine q_iconst rfl ?_
    by_cases h_9 : c2 41 5 ≠ (-1)
    · refine v_ic_ne_t (t := 12) rfl (by decide) (by omega) ?_
      refine q_iconst rfl ?_
      refine v_zret rfl rfl (by omega) ?_
      refine bk_inl ?_
      refine v_if_eq_t (t := 67) rfl (by decide) (by decide) ?_
      refine q_vret rfl rfl ?_
      exact K c2 hI2 (fun a j hm => hF a j (by omega)) hW2 (by omega) (by omega) (by omega) (by omega) (by omega)
    · refine v_ic_ne_f (t := 12) rfl (by decide) (by omega) ?_
      refine q_iconst rfl ?_
      refine q_goto (t := 13) rfl (by decide) ?_
      refine v_zret rfl rfl (by omega) ?_
      refine bk_inl ?_
      refine v_if_eq_f (t := 67) rfl (by decide) (by decide) ?_
      refine q_aload_n rfl rfl ?_
      have h_10 : c2 41 3 = c 41 3 := (hF 41 3 (by omega))
      refine v_cv rfl rfl rfl rfl (by decide) ⟨⟨rfl, rfl⟩, by decide, rfl⟩ (Nat.le_of_ble_eq_true rfl) (Nat.le_of_ble_eq_true rfl) (s_154 hI2 (fun c_11 y_14 hI_12 hF_13 hy_14 h_15 h_16 h_17 h_18 => ?_))
      refine bk_inl ?_
      have h_19 := ir_41_4 hI_12
      have h_20 := ir_43 hI (c_11 41 4)
      have h_21 : c2 43 (c_11 41 4) = c 43 (c_11 41 4) := (hF 43 (c_11 41 4) (by omega))
      refine v_bip rfl (by decide) ?_
      by_cases h_22 : y_14 = 43
      · refine v_ic_eq_t (t := 29) rfl (by decide) (by omega) ?_
        refine q_aload_n rfl rfl ?_
        have h_23 : c_11 41 3 = c 41 3 := ((hF_13 41 3 (by omega)).trans (hF 41 3 (by omega)))
        refine v_cv rfl rfl rfl rfl (by decide) ⟨⟨rfl, rfl⟩, by decide, rfl⟩ (Nat.le_of_ble_eq_true rfl) (Nat.le_of_ble_eq_true rfl) (s_154 hI_12 (fun c_24 y_27 hI_25 hF_26 hy_27 h_28 h_29 h_30 h_31 => ?_))
        refine bk_inl ?_
        have h_32 := ir_41_4 hI_25
        have h_33 := ir_43 hI (c_24 41 4)
        have h_34 : c_11 43 (c_24 41 4) = c 43 (c_24 41 4) := ((hF_13 43 (c_24 41 4) (by omega)).trans (hF 43 (c_24 41 4) (by omega)))
        refine v_bip rfl (by decide) ?_
        by_cases h_35 : y_27 ≠ 43
        · refine v_ic_ne_t (t := 42) rfl (by decide) (by omega) ?_
          refine q_iconst rfl ?_
          refine q_istore_n rfl (by decide) ?_
          refine q_aload_n rfl rfl ?_
          refine q_dup rfl rfl ?_
          refine v_gi (z := 4) (v := c_24 41 4) rfl rfl rfl (by decide) rfl rfl rfl ?_
          refine q_iconst rfl ?_
          refine v_iadd (v := c_24 41 4 + 1) rfl (by omega) ?_
          refine v_pi (z := 4) rfl rfl rfl (by decide) rfl rfl rfl (by decide) ?_
          refine q_aload_n rfl rfl ?_
          have hI_36 := iw_41_4 (v := c_24 41 4 + 1) hI_25 ⟨by omega, by omega⟩
          have h_37 : (up c_24 41 4 (c_24 41 4 + 1)) 41 5 = c2 41 5 := ((up_n (by decide)).trans ((hF_26 41 5 (by omega)).trans (hF_13 41 5 (by omega))))
          have h_38 : (up c_24 41 4 (c_24 41 4 + 1)) 41 3 = c 41 3 := ((up_n (by decide)).trans ((hF_26 41 3 (by omega)).trans ((hF_13 41 3 (by omega)).trans (hF 41 3 (by omega)))))
          have h_39 : (up c_24 41 4 (c_24 41 4 + 1)) 41 4 = c_24 41 4 + 1 := (up_e rfl)
          have h_40 : (up c_24 41 4 (c_24 41 4 + 1)) 41 29 = c2 41 29 := ((up_n (by decide)).trans ((hF_26 41 29 (by omega)).trans (hF_13 41 29 (by omega))))
          have h_41 : (up c_24 41 4 (c_24 41 4 + 1)) 41 7 = c2 41 7 := ((up_n (by decide)).trans ((hF_26 41 7 (by omega)).trans (hF_13 41 7 (by omega))))
          obtain ⟨hW_42, hN_43⟩ : Nw (up c_24 41 4 (c_24 41 4 + 1)) ∧ Nh (up c_24 41 4 (c_24 41 4 + 1)) = Nh c2 := nh_fr hW2 (fun j => (up_c (by omega)).trans ((hF_26 50 j (by omega)).trans (hF_13 50 j (by omega)))) (fun j => (up_c (by omega)).trans ((hF_26 51 j (by omega)).trans (hF_13 51 j (by omega)))) ((up_n (by decide)).trans ((hF_26 41 29 (by omega)).trans (hF_13 41 29 (by omega))))
          refine v_cv rfl rfl rfl rfl (by decide) ⟨⟨rfl, rfl⟩, by decide, rfl⟩ (Nat.le_of_ble_eq_true rfl) (Nat.le_of_ble_eq_true rfl) (s_173 (o := o) hI_36 (show 0 ≤ o ∧ o ≤ 6 from by omega) hW_42 (by omega) (by omega) (by omega) (by omega) (by omega) H174 (fun c_44 hI_45 hF_46 hW_47 h_48 h_49 h_50 h_51 h_52 => ?_))
          refine bk_inl ?_
          have h_53 := ir_41_4 hI_45
          have h_54 := ir_41_7 hI_45
          have h_55 := ir_41_29 hI_45
          have h_56 := ir_41_5 hI_45
          refine q_aload_n rfl rfl ?_
          refine q_iload_n rfl rfl ?_
          refine q_iconst rfl ?_
          refine v_cv rfl rfl rfl rfl (by decide) ⟨⟨rfl, rfl⟩, by decide, rfl⟩ (Nat.le_of_ble_eq_true rfl) (Nat.le_of_ble_eq_true rfl) (s_170 (a1 := 3) (a2 := 0) hI_45 (show 0 ≤ 3 ∧ 3 ≤ 8 from by omega) (show 0 ≤ 0 ∧ 0 ≤ 999 from by omega) hW_47 (by omega) (by omega) (by omega) (fun c_57 hI_58 hF_59 hW_60 h_61 h_62 h_63 h_64 => ?_))
          refine bk_inl ?_
          have h_65 := ir_41_29 hI_58
          refine q_goto (t := 4) rfl (by decide) ?_
          refine Wp_ls [(0, .ref 41)] (lsub_cons rfl lsub_nil) ?_
          have h_66 : c_57 41 4 = c_44 41 4 := (hF_59 41 4 (by omega))
          have h_67 : c_57 41 5 = c_44 41 5 := (hF_59 41 5 (by omega))
          have h_68 : c_57 41 7 = c_44 41 7 := (hF_59 41 7 (by omega))
          exact ih c_57 hI_58 (fun a j hm => (hF_59 a j (by omega)).trans ((hF_46 a j (by omega)).trans ((up_b (by omega)).trans ((hF_26 a j (by omega)).trans ((hF_13 a j (by omega)).trans (hF a j (by omega))))))) hW_60 (by omega) (by omega) (by omega) (by omega) (by omega) (by omega)
        · refine v_ic_ne_f (t := 42) rfl (by decide) (by omega) ?_
          refine q_iconst rfl ?_
          refine q_goto (t := 43) rfl (by decide) ?_
          refine q_istore_n rfl (by decide) ?_
          refine q_aload_n rfl rfl ?_
          refine q_dup rfl rfl ?_
          refine v_gi (z := 4) (v := c_24 41 4) rfl rfl rfl (by decide) rfl rfl rfl ?_
          refine q_iconst rfl ?_
          refine v_iadd (v := c_24 41 4 + 1) rfl (by omega) ?_
          refine v_pi (z := 4) rfl rfl rfl (by decide) rfl rfl rfl (by decide) ?_
          refine q_aload_n rfl rfl ?_
          have hI_69 := iw_41_4 (v := c_24 41 4 + 1) hI_25 ⟨by omega, by omega⟩
          have h_70 : (up c_24 41 4 (c_24 41 4 + 1)) 41 5 = c2 41 5 := ((up_n (by decide)).trans ((hF_26 41 5 (by omega)).trans (hF_13 41 5 (by omega))))
          have h_71 : (up c_24 41 4 (c_24 41 4 + 1)) 41 3 = c 41 3 := ((up_n (by decide)).trans ((hF_26 41 3 (by omega)).trans ((hF_13 41 3 (by omega)).trans (hF 41 3 (by omega)))))
          have h_72 : (up c_24 41 4 (c_24 41 4 + 1)) 41 4 = c_24 41 4 + 1 := (up_e rfl)
          have h_73 : (up c_24 41 4 (c_24 41 4 + 1)) 41 29 = c2 41 29 := ((up_n (by decide)).trans ((hF_26 41 29 (by omega)).trans (hF_13 41 29 (by omega))))
          have h_74 : (up c_24 41 4 (c_24 41 4 + 1)) 41 7 = c2 41 7 := ((up_n (by decide)).trans ((hF_26 41 7 (by omega)).trans (hF_13 41 7 (by omega))))
          obtain ⟨hW_75, hN_76⟩ : Nw (up c_24 41 4 (c_24 41 4 + 1)) ∧ Nh (up c_24 41 4 (c_24 41 4 + 1)) = Nh c2 := nh_fr hW2 (fun j => (up_c (by omega)).trans ((hF_26 50 j (by omega)).trans (hF_13 50 j (by omega)))) (fun j => (up_c (by omega)).trans ((hF_26 51 j (by omega)).trans (hF_13 51 j (by omega)))) ((up_n (by decide)).trans ((hF_26 41 29 (by omega)).trans (hF_13 41 29 (by omega))))
          refine v_cv rfl rfl rfl rfl (by decide) ⟨⟨rfl, rfl⟩, by decide, rfl⟩ (Nat.le_of_ble_eq_true rfl) (Nat.le_of_ble_eq_true rfl) (s_173 (o := o) hI_69 (show 0 ≤ o ∧ o ≤ 6 from by omega) hW_75 (by omega) (by omega) (by omega) (by omega) (by omega) H174 (fun c_77 hI_78 hF_79 hW_80 h_81 h_82 h_83 h_84 h_85 => ?_))
          refine bk_inl ?_
          have h_86 := ir_41_4 hI_78
          have h_87 := ir_41_7 hI_78
          have h_88 := ir_41_29 hI_78
          have h_89 := ir_41_5 hI_78
          refine q_aload_n rfl rfl ?_
          refine q_iload_n rfl rfl ?_
          refine q_iconst rfl ?_
          refine v_cv rfl rfl rfl rfl (by decide) ⟨⟨rfl, rfl⟩, by decide, rfl⟩ (Nat.le_of_ble_eq_true rfl) (Nat.le_of_ble_eq_true rfl) (s_170 (a1 := 2) (a2 := 0) hI_78 (show 0 ≤ 2 ∧ 2 ≤ 8 from by omega) (show 0 ≤ 0 ∧ 0 ≤ 999 from by omega) hW_80 (by omega) (by omega) (by omega) (fun c_90 hI_91 hF_92 hW_93 h_94 h_95 h_96 h_97 => ?_))
          refine bk_inl ?_
          have h_98 := ir_41_29 hI_91
          refine q_goto (t := 4) rfl (by decide) ?_
          refine Wp_ls [(0, .ref 41)] (lsub_cons rfl lsub_nil) ?_
          have h_99 : c_90 41 4 = c_77 41 4 := (hF_92 41 4 (by omega))
          have h_100 : c_90 41 5 = c_77 41 5 := (hF_92 41 5 (by omega))
          have h_101 : c_90 41 7 = c_77 41 7 := (hF_92 41 7 (by omega))
          exact ih c_90 hI_91 (fun a j hm => (hF_92 a j (by omega)).trans ((hF_79 a j (by omega)).trans ((up_b (by omega)).trans ((hF_26 a j (by omega)).trans ((hF_13 a j (by omega)).trans (hF a j (by omega))))))) hW_93 (by omega) (by omega) (by omega) (by omega) (by omega) (by omega)
      · refine v_ic_eq_f (t := 29) rfl (by decide) (by omega) ?_
        refine q_aload_n rfl rfl ?_
        have h_102 : c_11 41 3 = c 41 3 := ((hF_13 41 3 (by omega)).trans (hF 41 3 (by omega)))
        refine v_cv rfl rfl rfl rfl (by decide) ⟨⟨rfl, rfl⟩, by decide, rfl⟩ (Nat.le_of_ble_eq_true rfl) (Nat.le_of_ble_eq_true rfl) (s_154 hI_12 (fun c_103 y_106 hI_104 hF_105 hy_106 h_107 h_108 h_109 h_110 => ?_))
        refine bk_inl ?_
        have h_111 := ir_41_4 hI_104
        have h_112 := ir_43 hI (c_103 41 4)
        have h_113 : c_11 43 (c_103 41 4) = c 43 (c_103 41 4) := ((hF_13 43 (c_103 41 4) (by omega)).trans (hF 43 (c_103 41 4) (by omega)))
        refine v_bip rfl (by decide) ?_
        by_cases h_114 : y_106 ≠ 45
        · refine v_ic_ne_t (t := 67) rfl (by decide) (by omega) ?_
          refine q_vret rfl rfl ?_
          obtain ⟨hW_115, hN_116⟩ : Nw c_103 ∧ Nh c_103 = Nh c2 := nh_fr hW2 (fun j => (hF_105 50 j (by omega)).trans (hF_13 50 j (by omega))) (fun j => (hF_105 51 j (by omega)).trans (hF_13 51 j (by omega))) ((hF_105 41 29 (by omega)).trans (hF_13 41 29 (by omega)))
          have h_117 : c_103 41 29 = c2 41 29 := ((hF_105 41 29 (by omega)).trans (hF_13 41 29 (by omega)))
          have h_118 : c_103 41 5 = c2 41 5 := ((hF_105 41 5 (by omega)).trans (hF_13 41 5 (by omega)))
          have h_119 : c_103 41 7 = c2 41 7 := ((hF_105 41 7 (by omega)).trans (hF_13 41 7 (by omega)))
          exact K c_103 hI_104 (fun a j hm => (hF_105 a j (by omega)).trans ((hF_13 a j (by omega)).trans (hF a j (by omega)))) hW_115 (by omega) (by omega) (by omega) (by omega) (by omega)
        · refine v_ic_ne_f (t := 67) rfl (by decide) (by omega) ?_
          refine q_aload_n rfl rfl ?_
          have h_120 : c_103 41 3 = c 41 3 := ((hF_105 41 3 (by omega)).trans ((hF_13 41 3 (by omega)).trans (hF 41 3 (by omega))))
          refine v_cv rfl rfl rfl rfl (by decide) ⟨⟨rfl, rfl⟩, by decide, rfl⟩ (Nat.le_of_ble_eq_true rfl) (Nat.le_of_ble_eq_true rfl) (s_154 hI_104 (fun c_121 y_124 hI_122 hF_123 hy_124 h_125 h_126 h_127 h_128 => ?_))
          refine bk_inl ?_
          have h_129 := ir_41_4 hI_122
          have h_130 := ir_43 hI (c_121 41 4)
          have h_131 : c_103 43 (c_121 41 4) = c 43 (c_121 41 4) := ((hF_105 43 (c_121 41 4) (by omega)).trans ((hF_13 43 (c_121 41 4) (by omega)).trans (hF 43 (c_121 41 4) (by omega))))
          refine v_bip rfl (by decide) ?_
          by_cases h_132 : y_124 ≠ 43
          · refine v_ic_ne_t (t := 42) rfl (by decide) (by omega) ?_
            refine q_iconst rfl ?_
            refine q_istore_n rfl (by decide) ?_
            refine q_aload_n rfl rfl ?_
            refine q_dup rfl rfl ?_
            refine v_gi (z := 4) (v := c_121 41 4) rfl rfl rfl (by decide) rfl rfl rfl ?_
            refine q_iconst rfl ?_
            refine v_iadd (v := c_121 41 4 + 1) rfl (by omega) ?_
            refine v_pi (z := 4) rfl rfl rfl (by decide) rfl rfl rfl (by decide) ?_
            refine q_aload_n rfl rfl ?_
            have hI_133 := iw_41_4 (v := c_121 41 4 + 1) hI_122 ⟨by omega, by omega⟩
            have h_134 : (up c_121 41 4 (c_121 41 4 + 1)) 41 5 = c2 41 5 := ((up_n (by decide)).trans ((hF_123 41 5 (by omega)).trans ((hF_105 41 5 (by omega)).trans (hF_13 41 5 (by omega)))))
            have h_135 : (up c_121 41 4 (c_121 41 4 + 1)) 41 3 = c 41 3 := ((up_n (by decide)).trans ((hF_123 41 3 (by omega)).trans ((hF_105 41 3 (by omega)).trans ((hF_13 41 3 (by omega)).trans (hF 41 3 (by omega))))))
            have h_136 : (up c_121 41 4 (c_121 41 4 + 1)) 41 4 = c_121 41 4 + 1 := (up_e rfl)
            have h_137 : (up c_121 41 4 (c_121 41 4 + 1)) 41 29 = c2 41 29 := ((up_n (by decide)).trans ((hF_123 41 29 (by omega)).trans ((hF_105 41 29 (by omega)).trans (hF_13 41 29 (by omega)))))
            have h_138 : (up c_121 41 4 (c_121 41 4 + 1)) 41 7 = c2 41 7 := ((up_n (by decide)).trans ((hF_123 41 7 (by omega)).trans ((hF_105 41 7 (by omega)).trans (hF_13 41 7 (by omega)))))
            obtain ⟨hW_139, hN_140⟩ : Nw (up c_121 41 4 (c_121 41 4 + 1)) ∧ Nh (up c_121 41 4 (c_121 41 4 + 1)) = Nh c2 := nh_fr hW2 (fun j => (up_c (by omega)).trans ((hF_123 50 j (by omega)).trans ((hF_105 50 j (by omega)).trans (hF_13 50 j (by omega))))) (fun j => (up_c (by omega)).trans ((hF_123 51 j (by omega)).trans ((hF_105 51 j (by omega)).trans (hF_13 51 j (by omega))))) ((up_n (by decide)).trans ((hF_123 41 29 (by omega)).trans ((hF_105 41 29 (by omega)).trans (hF_13 41 29 (by omega)))))
            refine v_cv rfl rfl rfl rfl (by decide) ⟨⟨rfl, rfl⟩, by decide, rfl⟩ (Nat.le_of_ble_eq_true rfl) (Nat.le_of_ble_eq_true rfl) (s_173 (o := o) hI_133 (show 0 ≤ o ∧ o ≤ 6 from by omega) hW_139 (by omega) (by omega) (by omega) (by omega) (by omega) H174 (fun c_141 hI_142 hF_143 hW_144 h_145 h_146 h_147 h_148 h_149 => ?_))
            refine bk_inl ?_
            have h_150 := ir_41_4 hI_142
            have h_151 := ir_41_7 hI_142
            have h_152 := ir_41_29 hI_142
            have h_153 := ir_41_5 hI_142
            refine q_aload_n rfl rfl ?_
            refine q_iload_n rfl rfl ?_
            refine q_iconst rfl ?_
            refine v_cv rfl rfl rfl rfl (by decide) ⟨⟨rfl, rfl⟩, by decide, rfl⟩ (Nat.le_of_ble_eq_true rfl) (Nat.le_of_ble_eq_true rfl) (s_170 (a1 := 3) (a2 := 0) hI_142 (show 0 ≤ 3 ∧ 3 ≤ 8 from by omega) (show 0 ≤ 0 ∧ 0 ≤ 999 from by omega) hW_144 (by omega) (by omega) (by omega) (fun c_154 hI_155 hF_156 hW_157 h_158 h_159 h_160 h_161 => ?_))
            refine bk_inl ?_
            have h_162 := ir_41_29 hI_155
            refine q_goto (t := 4) rfl (by decide) ?_
            refine Wp_ls [(0, .ref 41)] (lsub_cons rfl lsub_nil) ?_
            have h_163 : c_154 41 4 = c_141 41 4 := (hF_156 41 4 (by omega))
            have h_164 : c_154 41 5 = c_141 41 5 := (hF_156 41 5 (by omega))
            have h_165 : c_154 41 7 = c_141 41 7 := (hF_156 41 7 (by omega))
            exact ih c_154 hI_155 (fun a j hm => (hF_156 a j (by omega)).trans ((hF_143 a j (by omega)).trans ((up_b (by omega)).trans ((hF_123 a j (by omega)).trans ((hF_105 a j (by omega)).trans ((hF_13 a j (by omega)).trans (hF a j (by omega)))))))) hW_157 (by omega) (by omega) (by omega) (by omega) (by omega) (by omega)
          · refine v_ic_ne_f (t := 42) rfl (by decide) (by omega) ?_
            refine q_iconst rfl ?_
            refine q_goto (t := 43) rfl (by decide) ?_
            refine q_istore_n rfl (by decide) ?_
            refine q_aload_n rfl rfl ?_
            refine q_dup rfl rfl ?_
            refine v_gi (z := 4) (v := c_121 41 4) rfl rfl rfl (by decide) rfl rfl rfl ?_
            refine q_iconst rfl ?_
            refine v_iadd (v := c_121 41 4 + 1) rfl (by omega) ?_
            refine v_pi (z := 4) rfl rfl rfl (by decide) rfl rfl rfl (by decide) ?_
            refine q_aload_n rfl rfl ?_
            have hI_166 := iw_41_4 (v := c_121 41 4 + 1) hI_122 ⟨by omega, by omega⟩
            have h_167 : (up c_121 41 4 (c_121 41 4 + 1)) 41 5 = c2 41 5 := ((up_n (by decide)).trans ((hF_123 41 5 (by omega)).trans ((hF_105 41 5 (by omega)).trans (hF_13 41 5 (by omega)))))
            have h_168 : (up c_121 41 4 (c_121 41 4 + 1)) 41 3 = c 41 3 := ((up_n (by decide)).trans ((hF_123 41 3 (by omega)).trans ((hF_105 41 3 (by omega)).trans ((hF_13 41 3 (by omega)).trans (hF 41 3 (by omega))))))
            have h_169 : (up c_121 41 4 (c_121 41 4 + 1)) 41 4 = c_121 41 4 + 1 := (up_e rfl)
            have h_170 : (up c_121 41 4 (c_121 41 4 + 1)) 41 29 = c2 41 29 := ((up_n (by decide)).trans ((hF_123 41 29 (by omega)).trans ((hF_105 41 29 (by omega)).trans (hF_13 41 29 (by omega)))))
            have h_171 : (up c_121 41 4 (c_121 41 4 + 1)) 41 7 = c2 41 7 := ((up_n (by decide)).trans ((hF_123 41 7 (by omega)).trans ((hF_105 41 7 (by omega)).trans (hF_13 41 7 (by omega)))))
            obtain ⟨hW_172, hN_173⟩ : Nw (up c_121 41 4 (c_121 41 4 + 1)) ∧ Nh (up c_121 41 4 (c_121 41 4 + 1)) = Nh c2 := nh_fr hW2 (fun j => (up_c (by omega)).trans ((hF_123 50 j (by omega)).trans ((hF_105 50 j (by omega)).trans (hF_13 50 j (by omega))))) (fun j => (up_c (by omega)).trans ((hF_123 51 j (by omega)).trans ((hF_105 51 j (by omega)).trans (hF_13 51 j (by omega))))) ((up_n (by decide)).trans ((hF_123 41 29 (by omega)).trans ((hF_105 41 29 (by omega)).trans (hF_13 41 29 (by omega)))))
            refine v_cv rfl rfl rfl rfl (by decide) ⟨⟨rfl, rfl⟩, by decide, rfl⟩ (Nat.le_of_ble_eq_true rfl) (Nat.le_of_ble_eq_true rfl) (s_173 (o := o) hI_166 (show 0 ≤ o ∧ o ≤ 6 from by omega) hW_172 (by omega) (by omega) (by omega) (by omega) (by omega) H174 (fun c_174 hI_175 hF_176 hW_177 h_178 h_179 h_180 h_181 h_182 => ?_))
            refine bk_inl ?_
            have h_183 := ir_41_4 hI_175
            have h_184 := ir_41_7 hI_175
            have h_185 := ir_41_29 hI_175
            have h_186 := ir_41_5 hI_175
            refine q_aload_n rfl rfl ?_
            refine q_iload_n rfl rfl ?_
            refine q_iconst rfl ?_
            refine v_cv rfl rfl rfl rfl (by decide) ⟨⟨rfl, rfl⟩, by decide, rfl⟩ (Nat.le_of_ble_eq_true rfl) (Nat.le_of_ble_eq_true rfl) (s_170 (a1 := 2) (a2 := 0) hI_175 (show 0 ≤ 2 ∧ 2 ≤ 8 from by omega) (show 0 ≤ 0 ∧ 0 ≤ 999 from by omega) hW_177 (by omega) (by omega) (by omega) (fun c_187 hI_188 hF_189 hW_190 h_191 h_192 h_193 h_194 => ?_))
            refine bk_inl ?_
            have h_195 := ir_41_29 hI_188
            refine q_goto (t := 4) rfl (by decide) ?_
            refine Wp_ls [(0, .ref 41)] (lsub_cons rfl lsub_nil) ?_
            have h_196 : c_187 41 4 = c_174 41 4 := (hF_189 41 4 (by omega))
            have h_197 : c_187 41 5 = c_174 41 5 := (hF_189 41 5 (by omega))
            have h_198 : c_187 41 7 = c_174 41 7 := (hF_189 41 7 (by omega))
            exact ih c_187 hI_188 (fun a j hm => (hF_189 a j (by omega)).trans ((hF_176 a j (by omega)).trans ((up_b (by omega)).trans ((hF_123 a j (by omega)).trans ((hF_105 a j (by omega)).trans ((hF_13 a j (by omega)).trans (hF a j (by omega)))))))) hW_190 (by omega) (by omega) (by omega) (by omega) (by omega) (by omega)
set_option maxRecDepth 100000 in
set_option maxHeartbeats 4000000 in
theorem s_174 {sc : List Int32} {e : Int} {d u P Q : Nat} {c : ME} {o : Int} {Z : AR → Prop} (hI : Iv u e P Q c) (ho : 0 ≤ o ∧ o ≤ 6) (hW : Nw c) (hq0 : (c 41 5 = (-1))) (hq1 : (c 41 4 ≤ c 41 3)) (hq2 : (c 41 3 ≤ 150)) (hq3 : (c 41 29 ≤ c 41 4)) (hq4 : (c 41 7 = o)) (H174 : ∀ (d9 : Nat) (c : ME) (Z : AR → Prop), d ≤ d9 → o + 1 ≤ 6 → Iv u e P Q c → Nw c → ((c 41 5 = (-1))) → ((c 41 4 ≤ c 41 3)) → ((c 41 3 ≤ 150)) → ((c 41 29 ≤ c 41 4)) → (c 41 7 = o + 1) → (∀ c2 : ME, Iv u e P Q c2 → (∀ (a : Nat) (j : Int), ¬ ((a = 41 ∧ j = 4) ∨ (a = 41 ∧ j = 5) ∨ (a = 41 ∧ j = 6) ∨ (a = 41 ∧ j = 7) ∨ (a = 41 ∧ j = 29) ∨ a = 50 ∨ a = 51) → c2 a j = c a j) → Nw c2 → ((c2 41 4 ≥ c 41 4)) → ((c2 41 7 = c 41 7)) → ((c 41 4 + c2 41 29 ≤ c 41 29 + c2 41 4)) → ((c2 41 5 < (-1)) ∨ (c2 41 5 > (-1)) ∨ (c2 41 4 ≤ c 41 3)) → ((c2 41 5 < (-1)) ∨ (c2 41 5 > (-1)) ∨ (Nh c2 = Nh c + 1)) → Z (.inl none, Wd P Q P P c2, 0, 0)) → Wp sc (d9 + 12) 174 0 [(0, .ref 41)] [] (Wd P Q P P c) 0 0 Z) (K : ∀ (c2 : ME), Iv u e P Q c2 → (∀ (a : Nat) (j : Int), ¬ ((a = 41 ∧ j = 4) ∨ (a = 41 ∧ j = 5) ∨ (a = 41 ∧ j = 6) ∨ (a = 41 ∧ j = 7) ∨ (a = 41 ∧ j = 29) ∨ a = 50 ∨ a = 51) → c2 a j = c a j) → Nw c2 → ((c2 41 4 ≥ c 41 4)) → ((c2 41 7 = c 41 7)) → ((c 41 4 + c2 41 29 ≤ c 41 29 + c2 41 4)) → ((c2 41 5 < (-1)) ∨ (c2 41 5 > (-1)) ∨ (c2 41 4 ≤ c 41 3)) → ((c2 41 5 < (-1)) ∨ (c2 41 5 > (-1)) ∨ (Nh c2 = Nh c + 1)) → Z (.inl (none), Wd P Q P P c2, 0, 0)) : Wp sc (d + 16) 174 0 [(0, .ref 41)] [] (Wd P Q P P c) 0 0 Z := by
  have hP := iv_P hI
  have hQ := iv_Q hI
  have h_200 := ir_41_5 hI
  have h_201 := ir_41_3 hI
  have h_202 := ir_41_4 hI
  have h_203 := ir_41_29 hI
  have h_204 := ir_41_7 hI
  refine q_aload_n rfl rfl ?_
  refine v_cv rfl rfl rfl rfl (by decide) ⟨⟨rfl, rfl⟩, by decide, rfl⟩ (Nat.le_of_ble_eq_true rfl) (Nat.le_of_ble_eq_true rfl) (s_173 (o := o) hI (show 0 ≤ o ∧ o ≤ 6 from by omega) hW (by omega) (by omega) (by omega) (by omega) (by omega) H174 (fun c_205 hI_206 hF_207 hW_208 h_209 h_210 h_211 h_212 h_213 => ?_))
  refine bk_inl ?_
  have h_214 := ir_41_4 hI_206
  have h_215 := ir_41_7 hI_206
  have h_216 := ir_41_29 hI_206
  have h_217 := ir_41_5 hI_206
  refine Wp_ls [(0, .ref 41)] (lsub_cons rfl lsub_nil) ?_
  exact (s_174_l (sc := sc) (d := d) hI ho hW hq0 hq1 hq2 hq3 hq4 H174 K 1214) c_205 hI_206 (fun a j hm => hF_207 a j (by omega)) hW_208 (by omega) (by omega) (by omega) (by omega) (by omega) (by omega)
set_option maxRecDepth 100000 in
set_option maxHeartbeats 4000000 in
theorem r_174_n {sc : List Int32} {e : Int} {u P Q : Nat} : ∀ (m : Nat) (d : Nat) (c : ME) (o : Int) (Z : AR → Prop), o + (m : Int) = 6 → 0 ≤ o → Iv u e P Q c → Nw c → ((c 41 5 = (-1))) → ((c 41 4 ≤ c 41 3)) → ((c 41 3 ≤ 150)) → ((c 41 29 ≤ c 41 4)) → (c 41 7 = o) → (∀ c2 : ME, Iv u e P Q c2 → (∀ (a : Nat) (j : Int), ¬ ((a = 41 ∧ j = 4) ∨ (a = 41 ∧ j = 5) ∨ (a = 41 ∧ j = 6) ∨ (a = 41 ∧ j = 7) ∨ (a = 41 ∧ j = 29) ∨ a = 50 ∨ a = 51) → c2 a j = c a j) → Nw c2 → ((c2 41 4 ≥ c 41 4)) → ((c2 41 7 = c 41 7)) → ((c 41 4 + c2 41 29 ≤ c 41 29 + c2 41 4)) → ((c2 41 5 < (-1)) ∨ (c2 41 5 > (-1)) ∨ (c2 41 4 ≤ c 41 3)) → ((c2 41 5 < (-1)) ∨ (c2 41 5 > (-1)) ∨ (Nh c2 = Nh c + 1)) → Z (.inl none, Wd P Q P P c2, 0, 0)) → Wp sc (d + 4 * m + 16) 174 0 [(0, .ref 41)] [] (Wd P Q P P c) 0 0 Z
  | 0, d, c, o, Z, hm, h0, hI, hW, p0, p1, p2, p3, p4, K => s_174 (d := d) (o := o) hI ⟨by omega, by omega⟩ hW p0 p1 p2 p3 p4 (fun d9 c9 Z9 hd hc => absurd hc (by omega)) K
  | m + 1, d, c, o, Z, hm, h0, hI, hW, p0, p1, p2, p3, p4, K => by
    rw [show d + 4 * (m + 1) + 16 = (d + 4 * m + 4) + 16 by omega]
    refine s_174 (d := d + 4 * m + 4) (o := o) hI ⟨by omega, by omega⟩ hW p0 p1 p2 p3 p4 (fun d9 c9 Z9 hd hc hI9 hW9 q0 q1 q2 q3 q4 K9 => ?_) K
    have r := r_174_n (sc := sc) m (d9 - 4 * m - 4) c9 (o + 1) Z9 (by omega) (by omega) hI9 hW9 q0 q1 q2 q3 q4 K9
    rw [show d9 - 4 * m - 4 + 4 * m + 16 = d9 + 12 by omega] at r
    exact r
set_option maxRecDepth 100000 in
set_option maxHeartbeats 4000000 in
theorem r_174 {sc : List Int32} {e : Int} {d u P Q : Nat} {c : ME} {o : Int} {Z : AR → Prop} (hI : Iv u e P Q c) (ho : 0 ≤ o ∧ o ≤ 6) (hW : Nw c) (p0 : ((c 41 5 = (-1)))) (p1 : ((c 41 4 ≤ c 41 3))) (p2 : ((c 41 3 ≤ 150))) (p3 : ((c 41 29 ≤ c 41 4))) (p4 : c 41 7 = o) (K : (∀ c2 : ME, Iv u e P Q c2 → (∀ (a : Nat) (j : Int), ¬ ((a = 41 ∧ j = 4) ∨ (a = 41 ∧ j = 5) ∨ (a = 41 ∧ j = 6) ∨ (a = 41 ∧ j = 7) ∨ (a = 41 ∧ j = 29) ∨ a = 50 ∨ a = 51) → c2 a j = c a j) → Nw c2 → ((c2 41 4 ≥ c 41 4)) → ((c2 41 7 = c 41 7)) → ((c 41 4 + c2 41 29 ≤ c 41 29 + c2 41 4)) → ((c2 41 5 < (-1)) ∨ (c2 41 5 > (-1)) ∨ (c2 41 4 ≤ c 41 3)) → ((c2 41 5 < (-1)) ∨ (c2 41 5 > (-1)) ∨ (Nh c2 = Nh c + 1)) → Z (.inl none, Wd P Q P P c2, 0, 0))) : Wp sc (d + 40) 174 0 [(0, .ref 41)] [] (Wd P Q P P c) 0 0 Z := by
  obtain ⟨m, hm⟩ : ∃ m : Nat, (m : Int) = 6 - o := ⟨(6 - o).toNat, by omega⟩
  rw [show d + 40 = (d + 24 - 4 * m) + 4 * m + 16 by omega]
  exact r_174_n m _ c o Z (by omega) (by omega) hI hW p0 p1 p2 p3 p4 K

set_option maxRecDepth 100000 in
set_option maxHeartbeats 4000000 in
theorem s_177 {sc : List Int32} {e : Int} {d u P Q : Nat} {c : ME} {a1 : Int} {Z : AR → Prop} (hI : Iv u e P Q c) (ha1 : (-2147483648) ≤ a1 ∧ a1 ≤ 2147483647) (K : ∀ (c2 : ME) (y : Int), Iv u e P Q c2 → (∀ (a : Nat) (j : Int), ¬ ((a = 41 ∧ j = 0) ∨ a = 42 ∨ (a = 41 ∧ j = 2) ∨ (a = 41 ∧ j = 3) ∨ (a = 41 ∧ j = 4) ∨ (a = 41 ∧ j = 5) ∨ (a = 41 ∧ j = 6) ∨ (a = 41 ∧ j = 7) ∨ (a = 41 ∧ j = 8) ∨ (a = 41 ∧ j = 29) ∨ (a = 41 ∧ j = 30) ∨ a = 50 ∨ a = 51 ∨ a = 52 ∨ a = 53) → c2 a j = c a j) → (-2147483648) ≤ y ∧ y ≤ 2147483647 → Z (.inl (some (vi y)), Wd P Q P P c2, 0, 0)) : Wp sc (d + 41) 177 0 [(0, .ref 41), (1, vi a1)] [] (Wd P Q P P c) 0 0 Z := by
  have hP := iv_P hI
  have hQ := iv_Q hI
  refine q_aload_n rfl rfl ?_
  refine q_iconst rfl ?_
  refine v_pi (z := 0) rfl rfl rfl (by decide) rfl rfl rfl (by decide) ?_
  refine q_aload_n rfl rfl ?_
  refine q_iload_n rfl rfl ?_
  by_cases h_1 : a1 < 0
  · refine v_if_lt_t (t := 29) rfl (by decide) (by omega) ?_
    refine q_iconst rfl ?_
    refine q_iconst rfl ?_
    refine q_iconst rfl ?_
    refine v_cv rfl rfl rfl rfl (by decide) ⟨⟨rfl, rfl⟩, by decide, rfl⟩ (Nat.le_of_ble_eq_true rfl) (Nat.le_of_ble_eq_true rfl) ?_
    refine q_iload_n rfl rfl ?_
    refine v_if_ne_f (t := 26) rfl (by decide) (by decide) ?_
    refine q_aload_n rfl rfl ?_
    refine v_gi (z := 0) (v := 0) rfl rfl rfl (by decide) rfl rfl (up_e rfl) ?_
    refine v_if_ne_f (t := 26) rfl (by decide) (by decide) ?_
    refine q_aload_n rfl rfl ?_
    refine q_iload_n rfl rfl ?_
    refine v_pi (z := 0) rfl rfl rfl (by decide) rfl rfl rfl (by decide) ?_
    refine q_aload_n rfl rfl ?_
    refine v_gr (t := 42) rfl rfl rfl (by decide) rfl ?_
    refine q_iload_n rfl rfl ?_
    refine q_dup2 rfl ⟨rfl, rfl⟩ ?_
    have h_2 := ir_42 hI 1
    refine v_ia (v := c 42 1) rfl rfl (by decide) (by decide) (by decide) ((up_c (by decide)).trans (up_c (by decide))) ?_
    refine q_iconst rfl ?_
    refine v_iadd (v := c 42 1 + 1) rfl (by omega) ?_
    refine v_nrm (fun y_3 hy_3 => ?_)
    refine v_is rfl rfl (by decide) (by decide) (by decide) ?_
    refine q_aload_n rfl rfl ?_
    refine v_gi (z := 0) (v := 1) rfl rfl rfl (by decide) rfl rfl ((up_c (by decide)).trans (up_e rfl)) ?_
    refine v_if_ne_t (t := 37) rfl (by decide) (by decide) ?_
    refine q_iconst rfl ?_
    refine v_zret rfl rfl (by omega) ?_
    refine bk_inl ?_
    refine v_if_ne_f (t := 40) rfl (by decide) (by decide) ?_
    refine q_iconst rfl ?_
    refine q_iret rfl rfl ?_
    have hI_4 := iw_41_0 (v := 0) hI ⟨by decide, by decide⟩
    have hI_5 := iw_41_0 (v := 1) hI_4 ⟨by decide, by decide⟩
    have hI_6 := iw_42 (j := 1) (v := y_3) hI_5 ⟨by omega, by omega⟩
    exact K (up (up (up c 41 0 0) 41 0 1) 42 1 y_3) 0 hI_6 (fun a j hm => (up_b (by omega)).trans ((up_b (by omega)).trans (up_b (by omega)))) ⟨by decide, by decide⟩
  · refine v_if_lt_f (t := 29) rfl (by decide) (by omega) ?_
    refine q_iload_n rfl rfl ?_
    refine q_aload_n rfl rfl ?_
    have h_7 := ir_41_2 hI
    refine v_gi (z := 2) (v := c 41 2) rfl rfl rfl (by decide) rfl rfl (up_n (by decide)) ?_
    by_cases h_8 : a1 > c 41 2
    · refine v_ic_gt_t (t := 29) rfl (by decide) (by omega) ?_
      refine q_iconst rfl ?_
      refine q_iconst rfl ?_
      refine q_iconst rfl ?_
      refine v_cv rfl rfl rfl rfl (by decide) ⟨⟨rfl, rfl⟩, by decide, rfl⟩ (Nat.le_of_ble_eq_true rfl) (Nat.le_of_ble_eq_true rfl) ?_
      refine q_iload_n rfl rfl ?_
      refine v_if_ne_f (t := 26) rfl (by decide) (by decide) ?_
      refine q_aload_n rfl rfl ?_
      refine v_gi (z := 0) (v := 0) rfl rfl rfl (by decide) rfl rfl (up_e rfl) ?_
      refine v_if_ne_f (t := 26) rfl (by decide) (by decide) ?_
      refine q_aload_n rfl rfl ?_
      refine q_iload_n rfl rfl ?_
      refine v_pi (z := 0) rfl rfl rfl (by decide) rfl rfl rfl (by decide) ?_
      refine q_aload_n rfl rfl ?_
      refine v_gr (t := 42) rfl rfl rfl (by decide) rfl ?_
      refine q_iload_n rfl rfl ?_
      refine q_dup2 rfl ⟨rfl, rfl⟩ ?_
      have h_9 := ir_42 hI 1
      refine v_ia (v := c 42 1) rfl rfl (by decide) (by decide) (by decide) ((up_c (by decide)).trans (up_c (by decide))) ?_
      refine q_iconst rfl ?_
      refine v_iadd (v := c 42 1 + 1) rfl (by omega) ?_
      refine v_nrm (fun y_10 hy_10 => ?_)
      refine v_is rfl rfl (by decide) (by decide) (by decide) ?_
      refine q_aload_n rfl rfl ?_
      refine v_gi (z := 0) (v := 1) rfl rfl rfl (by decide) rfl rfl ((up_c (by decide)).trans (up_e rfl)) ?_
      refine v_if_ne_t (t := 37) rfl (by decide) (by decide) ?_
      refine q_iconst rfl ?_
      refine v_zret rfl rfl (by omega) ?_
      refine bk_inl ?_
      refine v_if_ne_f (t := 40) rfl (by decide) (by decide) ?_
      refine q_iconst rfl ?_
      refine q_iret rfl rfl ?_
      have hI_11 := iw_41_0 (v := 0) hI ⟨by decide, by decide⟩
      have hI_12 := iw_41_0 (v := 1) hI_11 ⟨by decide, by decide⟩
      have hI_13 := iw_42 (j := 1) (v := y_10) hI_12 ⟨by omega, by omega⟩
      exact K (up (up (up c 41 0 0) 41 0 1) 42 1 y_10) 0 hI_13 (fun a j hm => (up_b (by omega)).trans ((up_b (by omega)).trans (up_b (by omega)))) ⟨by decide, by decide⟩
    · refine v_ic_gt_f (t := 29) rfl (by decide) (by omega) ?_
      refine q_iload_n rfl rfl ?_
      refine v_sip rfl (by decide) ?_
      by_cases h_14 : a1 > 150
      · refine v_ic_gt_t (t := 29) rfl (by decide) (by omega) ?_
        refine q_iconst rfl ?_
        refine q_iconst rfl ?_
        refine q_iconst rfl ?_
        refine v_cv rfl rfl rfl rfl (by decide) ⟨⟨rfl, rfl⟩, by decide, rfl⟩ (Nat.le_of_ble_eq_true rfl) (Nat.le_of_ble_eq_true rfl) ?_
        refine q_iload_n rfl rfl ?_
        refine v_if_ne_f (t := 26) rfl (by decide) (by decide) ?_
        refine q_aload_n rfl rfl ?_
        refine v_gi (z := 0) (v := 0) rfl rfl rfl (by decide) rfl rfl (up_e rfl) ?_
        refine v_if_ne_f (t := 26) rfl (by decide) (by decide) ?_
        refine q_aload_n rfl rfl ?_
        refine q_iload_n rfl rfl ?_
        refine v_pi (z := 0) rfl rfl rfl (by decide) rfl rfl rfl (by decide) ?_
        refine q_aload_n rfl rfl ?_
        refine v_gr (t := 42) rfl rfl rfl (by decide) rfl ?_
        refine q_iload_n rfl rfl ?_
        refine q_dup2 rfl ⟨rfl, rfl⟩ ?_
        have h_15 := ir_42 hI 1
        refine v_ia (v := c 42 1) rfl rfl (by decide) (by decide) (by decide) ((up_c (by decide)).trans (up_c (by decide))) ?_
        refine q_iconst rfl ?_
        refine v_iadd (v := c 42 1 + 1) rfl (by omega) ?_
        refine v_nrm (fun y_16 hy_16 => ?_)
        refine v_is rfl rfl (by decide) (by decide) (by decide) ?_
        refine q_aload_n rfl rfl ?_
        refine v_gi (z := 0) (v := 1) rfl rfl rfl (by decide) rfl rfl ((up_c (by decide)).trans (up_e rfl)) ?_
        refine v_if_ne_t (t := 37) rfl (by decide) (by decide) ?_
        refine q_iconst rfl ?_
        refine v_zret rfl rfl (by omega) ?_
        refine bk_inl ?_
        refine v_if_ne_f (t := 40) rfl (by decide) (by decide) ?_
        refine q_iconst rfl ?_
        refine q_iret rfl rfl ?_
        have hI_17 := iw_41_0 (v := 0) hI ⟨by decide, by decide⟩
        have hI_18 := iw_41_0 (v := 1) hI_17 ⟨by decide, by decide⟩
        have hI_19 := iw_42 (j := 1) (v := y_16) hI_18 ⟨by omega, by omega⟩
        exact K (up (up (up c 41 0 0) 41 0 1) 42 1 y_16) 0 hI_19 (fun a j hm => (up_b (by omega)).trans ((up_b (by omega)).trans (up_b (by omega)))) ⟨by decide, by decide⟩
      · refine v_ic_gt_f (t := 29) rfl (by decide) (by omega) ?_
        refine q_iconst rfl ?_
        refine q_goto (t := 30) rfl (by decide) ?_
        refine q_iconst rfl ?_
        refine q_iconst rfl ?_
        refine v_cv rfl rfl rfl rfl (by decide) ⟨⟨rfl, rfl⟩, by decide, rfl⟩ (Nat.le_of_ble_eq_true rfl) (Nat.le_of_ble_eq_true rfl) ?_
        refine q_iload_n rfl rfl ?_
        refine v_if_ne_t (t := 26) rfl (by decide) (by decide) ?_
        refine q_aload_n rfl rfl ?_
        refine v_gi (z := 0) (v := 0) rfl rfl rfl (by decide) rfl rfl (up_e rfl) ?_
        refine v_if_ne_f (t := 37) rfl (by decide) (by decide) ?_
        refine q_iconst rfl ?_
        refine q_goto (t := 38) rfl (by decide) ?_
        refine v_zret rfl rfl (by omega) ?_
        refine bk_inl ?_
        refine v_if_ne_t (t := 40) rfl (by decide) (by decide) ?_
        refine q_aload_n rfl rfl ?_
        refine q_iload_n rfl rfl ?_
        have hI_20 := iw_41_0 (v := 0) hI ⟨by decide, by decide⟩
        refine v_cv rfl rfl rfl rfl (by decide) ⟨⟨rfl, rfl⟩, by decide, rfl⟩ (Nat.le_of_ble_eq_true rfl) (Nat.le_of_ble_eq_true rfl) (s_163 (a1 := a1) hI_20 (show 0 ≤ a1 ∧ a1 ≤ 600 from by omega) (fun c_21 hI_22 hF_23 h_24 => ?_))
        refine bk_inl ?_
        have h_25 := ir_41_2 hI_22
        have h_26 := ir_41_3 hI_22
        have h_27 := ir_41_4 hI_22
        have h_28 := ir_41_5 hI_22
        have h_29 := ir_41_7 hI_22
        refine q_aload_n rfl rfl ?_
        refine q_iconst rfl ?_
        refine v_pi (z := 29) rfl rfl rfl (by decide) rfl rfl rfl (by decide) ?_
        refine q_aload_n rfl rfl ?_
        have hI_30 := iw_41_29 (v := 0) hI_22 ⟨by decide, by decide⟩
        have h_31 : (up c_21 41 29 0) 41 5 = c_21 41 5 := (up_n (by decide))
        have h_32 : (up c_21 41 29 0) 41 3 = c_21 41 3 := (up_n (by decide))
        have h_33 : (up c_21 41 29 0) 41 4 = c_21 41 4 := (up_n (by decide))
        have h_34 : (up c_21 41 29 0) 41 29 = 0 := (up_e rfl)
        have h_35 : (up c_21 41 29 0) 41 7 = c_21 41 7 := (up_n (by decide))
        obtain ⟨hW_36, hN_37⟩ := nw_zero (c := up c_21 41 29 0) ((up_e rfl))
        refine v_cv rfl rfl rfl rfl (by decide) ⟨⟨rfl, rfl⟩, by decide, rfl⟩ (Nat.le_of_ble_eq_true rfl) (Nat.le_of_ble_eq_true rfl) (r_174 (o := 0) hI_30 (show 0 ≤ 0 ∧ 0 ≤ 6 from by omega) hW_36 (by omega) (by omega) (by omega) (by omega) (by omega) (fun c_38 hI_39 hF_40 hW_41 h_42 h_43 h_44 h_45 h_46 => ?_))
        refine bk_inl ?_
        have h_47 := ir_41_4 hI_39
        have h_48 := ir_41_7 hI_39
        have h_49 := ir_41_29 hI_39
        have h_50 := ir_41_5 hI_39
        refine q_aload_n rfl rfl ?_
        refine v_cv rfl rfl rfl rfl (by decide) ⟨⟨rfl, rfl⟩, by decide, rfl⟩ (Nat.le_of_ble_eq_true rfl) (Nat.le_of_ble_eq_true rfl) ?_
        refine q_aload_n rfl rfl ?_
        refine v_gi (z := 5) (v := c_38 41 5) rfl rfl rfl (by decide) rfl rfl rfl ?_
        refine q_iconst rfl ?_
        by_cases h_51 : c_38 41 5 ≠ (-1)
        · refine v_ic_ne_t (t := 12) rfl (by decide) (by omega) ?_
          refine q_iconst rfl ?_
          refine v_zret rfl rfl (by omega) ?_
          refine bk_inl ?_
          refine v_if_eq_t (t := 77) rfl (by decide) (by decide) ?_
          refine q_aload_n rfl rfl ?_
          refine q_iconst rfl ?_
          refine v_cv rfl rfl rfl rfl (by decide) ⟨⟨rfl, rfl⟩, by decide, rfl⟩ (Nat.le_of_ble_eq_true rfl) (Nat.le_of_ble_eq_true rfl) (s_164 (a1 := 1) hI_39 (show (-2147483648) ≤ 1 ∧ 1 ≤ 2147483647 from by omega) (fun c_52 y_55 hI_53 hF_54 hy_55 => ?_))
          refine bk_inl ?_
          refine q_istore_n rfl (by decide) ?_
          refine q_aload_n rfl rfl ?_
          refine v_gi (z := 5) (v := c_38 41 5) rfl rfl rfl (by decide) rfl rfl (hF_54 41 5 (by omega)) ?_
          refine q_iconst rfl ?_
          refine v_ic_eq_f (t := 93) rfl (by decide) (by omega) ?_
          refine q_iload_n rfl rfl ?_
          refine q_iret rfl rfl ?_
          exact K c_52 y_55 hI_53 (fun a j hm => (hF_54 a j (by omega)).trans ((hF_40 a j (by omega)).trans ((up_b (by omega)).trans ((hF_23 a j (by omega)).trans (up_b (by omega)))))) ⟨by omega, by omega⟩
        · refine v_ic_ne_f (t := 12) rfl (by decide) (by omega) ?_
          refine q_iconst rfl ?_
          refine q_goto (t := 13) rfl (by decide) ?_
          refine v_zret rfl rfl (by omega) ?_
          refine bk_inl ?_
          refine v_if_eq_f (t := 77) rfl (by decide) (by decide) ?_
          refine q_aload_n rfl rfl ?_
          have h_56 : c_38 41 3 = c_21 41 3 := ((hF_40 41 3 (by omega)).trans (up_n (by decide)))
          refine v_cv rfl rfl rfl rfl (by decide) ⟨⟨rfl, rfl⟩, by decide, rfl⟩ (Nat.le_of_ble_eq_true rfl) (Nat.le_of_ble_eq_true rfl) (s_162 hI_39 (fun c_57 y_60 hI_58 hF_59 hy_60 h_61 h_62 h_63 => ?_))
          refine bk_inl ?_
          have h_64 := ir_41_4 hI_58
          by_cases h_65 : y_60 = 0
          · refine v_if_eq_t (t := 77) rfl (by decide) (by omega) ?_
            refine q_aload_n rfl rfl ?_
            refine q_iconst rfl ?_
            refine v_cv rfl rfl rfl rfl (by decide) ⟨⟨rfl, rfl⟩, by decide, rfl⟩ (Nat.le_of_ble_eq_true rfl) (Nat.le_of_ble_eq_true rfl) (s_164 (a1 := 1) hI_58 (show (-2147483648) ≤ 1 ∧ 1 ≤ 2147483647 from by omega) (fun c_66 y_69 hI_67 hF_68 hy_69 => ?_))
            refine bk_inl ?_
            refine q_istore_n rfl (by decide) ?_
            refine q_aload_n rfl rfl ?_
            refine v_gi (z := 5) (v := c_38 41 5) rfl rfl rfl (by decide) rfl rfl ((hF_68 41 5 (by omega)).trans (hF_59 41 5 (by omega))) ?_
            refine q_iconst rfl ?_
            refine v_ic_eq_t (t := 93) rfl (by decide) (by omega) ?_
            refine q_aload_n rfl rfl ?_
            refine q_aload_n rfl rfl ?_
            refine v_gi (z := 29) (v := c_38 41 29) rfl rfl rfl (by decide) rfl rfl ((hF_68 41 29 (by omega)).trans (hF_59 41 29 (by omega))) ?_
            refine v_pi (z := 30) rfl rfl rfl (by decide) rfl rfl rfl (by decide) ?_
            refine q_aload_n rfl rfl ?_
            refine q_aload_n rfl rfl ?_
            refine v_gr (t := 50) rfl rfl rfl (by decide) rfl ?_
            refine q_aload_n rfl rfl ?_
            refine v_gr (t := 52) rfl rfl rfl (by decide) rfl ?_
            refine q_aload_n rfl rfl ?_
            refine v_gi (z := 29) (v := c_38 41 29) rfl rfl rfl (by decide) rfl rfl ((up_n (by decide)).trans ((hF_68 41 29 (by omega)).trans (hF_59 41 29 (by omega)))) ?_
            obtain ⟨hW_70, hN_71⟩ : Nw c_66 ∧ Nh c_66 = Nh c_38 := nh_fr hW_41 (fun j => (hF_68 50 j (by omega)).trans (hF_59 50 j (by omega))) (fun j => (hF_68 51 j (by omega)).trans (hF_59 51 j (by omega))) ((hF_68 41 29 (by omega)).trans (hF_59 41 29 (by omega)))
            refine v_cv rfl rfl rfl rfl (by decide) ⟨⟨rfl, rfl⟩, by decide, rfl⟩ (Nat.le_of_ble_eq_true rfl) (Nat.le_of_ble_eq_true rfl) (s_148 (f := 50) (t := 52) (nf := 150) (nt := 150) (n := c_38 41 29) rfl rfl (by decide) (by decide) (by decide) (by decide) (by decide) (by omega) ?_)
            refine bk_inl ?_
            refine q_aload_n rfl rfl ?_
            refine q_aload_n rfl rfl ?_
            refine v_gr (t := 51) rfl rfl rfl (by decide) rfl ?_
            refine q_aload_n rfl rfl ?_
            refine v_gr (t := 53) rfl rfl rfl (by decide) rfl ?_
            refine q_aload_n rfl rfl ?_
            refine v_gi (z := 29) (v := c_38 41 29) rfl rfl rfl (by decide) rfl rfl ((upc_c (by omega)).trans ((up_n (by decide)).trans ((hF_68 41 29 (by omega)).trans (hF_59 41 29 (by omega))))) ?_
            refine v_cv rfl rfl rfl rfl (by decide) ⟨⟨rfl, rfl⟩, by decide, rfl⟩ (Nat.le_of_ble_eq_true rfl) (Nat.le_of_ble_eq_true rfl) (s_148 (f := 51) (t := 53) (nf := 150) (nt := 150) (n := c_38 41 29) rfl rfl (by decide) (by decide) (by decide) (by decide) (by decide) (by omega) ?_)
            refine bk_inl ?_
            refine q_iload_n rfl rfl ?_
            refine q_iret rfl rfl ?_
            have hI_72 : Iv u e P Q (upc (upc (up c_66 41 30 (c_38 41 29)) 50 0 52 0 (c_38 41 29)) 51 0 53 0 (c_38 41 29)) := iv_law (n := c_38 41 29) hI_67 hW_70 (show c_66 41 29 = c_38 41 29 from ((hF_68 41 29 (by omega)).trans (hF_59 41 29 (by omega)))) (by omega)
            exact K (upc (upc (up c_66 41 30 (c_38 41 29)) 50 0 52 0 (c_38 41 29)) 51 0 53 0 (c_38 41 29)) y_69 hI_72 (fun a j hm => (upc_c (by omega)).trans ((upc_c (by omega)).trans ((up_b (by omega)).trans ((hF_68 a j (by omega)).trans ((hF_59 a j (by omega)).trans ((hF_40 a j (by omega)).trans ((up_b (by omega)).trans ((hF_23 a j (by omega)).trans (up_b (by omega)))))))))) ⟨by omega, by omega⟩
          · refine v_if_eq_f (t := 77) rfl (by decide) (by omega) ?_
            refine q_aload_n rfl rfl ?_
            refine q_iconst rfl ?_
            refine q_aload_n rfl rfl ?_
            refine v_gi (z := 4) (v := c_57 41 4) rfl rfl rfl (by decide) rfl rfl rfl ?_
            refine v_cv rfl rfl rfl rfl (by decide) ⟨⟨rfl, rfl⟩, by decide, rfl⟩ (Nat.le_of_ble_eq_true rfl) (Nat.le_of_ble_eq_true rfl) (s_153 (a1 := 1) (a2 := c_57 41 4) hI_58 (show 1 ≤ 1 ∧ 1 ≤ 3 from by omega) (show 0 ≤ c_57 41 4 ∧ c_57 41 4 ≤ 605 from by omega) (fun c_73 hI_74 hF_75 h_76 => ?_))
            refine bk_inl ?_
            have h_77 := ir_41_5 hI_74
            refine q_aload_n rfl rfl ?_
            refine q_iconst rfl ?_
            refine v_cv rfl rfl rfl rfl (by decide) ⟨⟨rfl, rfl⟩, by decide, rfl⟩ (Nat.le_of_ble_eq_true rfl) (Nat.le_of_ble_eq_true rfl) (s_164 (a1 := 1) hI_74 (show (-2147483648) ≤ 1 ∧ 1 ≤ 2147483647 from by omega) (fun c_78 y_81 hI_79 hF_80 hy_81 => ?_))
            refine bk_inl ?_
            refine q_istore_n rfl (by decide) ?_
            refine q_aload_n rfl rfl ?_
            refine v_gi (z := 5) (v := c_73 41 5) rfl rfl rfl (by decide) rfl rfl (hF_80 41 5 (by omega)) ?_
            refine q_iconst rfl ?_
            refine v_ic_eq_f (t := 93) rfl (by decide) (by omega) ?_
            refine q_iload_n rfl rfl ?_
            refine q_iret rfl rfl ?_
            exact K c_78 y_81 hI_79 (fun a j hm => (hF_80 a j (by omega)).trans ((hF_75 a j (by omega)).trans ((hF_59 a j (by omega)).trans ((hF_40 a j (by omega)).trans ((up_b (by omega)).trans ((hF_23 a j (by omega)).trans (up_b (by omega)))))))) ⟨by omega, by omega⟩

set_option maxRecDepth 100000 in
set_option maxHeartbeats 4000000 in
theorem s_178 {sc : List Int32} {e : Int} {d u P Q : Nat} {c : ME} {a0 : Int} {a1 : Int} {a2 : Int} {Z : AR → Prop} (hI : Iv u e P Q c) (ha0 : (-2147483648) ≤ a0 ∧ a0 ≤ 2147483647) (ha1 : (-2147483648) ≤ a1 ∧ a1 ≤ 2147483647) (ha2 : (-2147483648) ≤ a2 ∧ a2 ≤ 2147483647) (K : ∀ (y : Int), (-2147483648) ≤ y ∧ y ≤ 2147483647 → Z (.inl (some (vi y)), Wd P Q P P c, 0, 0)) : Wp sc (d + 7) 178 0 [(0, vi a0), (1, vi a1), (2, vi a2)] [] (Wd P Q P P c) 0 0 Z := by
  have hP := iv_P hI
  have hQ := iv_Q hI
  refine q_iload_n rfl rfl ?_
  refine q_iconst rfl ?_
  by_cases h_1 : a0 ≠ 2
  · refine v_ic_ne_t (t := 9) rfl (by decide) (by omega) ?_
    refine q_iload_n rfl rfl ?_
    refine q_iconst rfl ?_
    by_cases h_2 : a0 ≠ 3
    · refine v_ic_ne_t (t := 18) rfl (by decide) (by omega) ?_
      refine q_iload_n rfl rfl ?_
      refine q_iconst rfl ?_
      by_cases h_3 : a0 ≠ 4
      · refine v_ic_ne_t (t := 27) rfl (by decide) (by omega) ?_
        refine q_iload_n rfl rfl ?_
        refine q_iconst rfl ?_
        by_cases h_4 : a0 = 5
        · refine v_ic_eq_t (t := 38) rfl (by decide) (by omega) ?_
          refine q_iload_n rfl rfl ?_
          by_cases h_5 : a2 ≠ 0
          · refine v_if_ne_t (t := 46) rfl (by decide) (by omega) ?_
            refine q_iload_n rfl rfl ?_
            refine q_iconst rfl ?_
            refine v_ic_ne_f (t := 57) rfl (by decide) (by omega) ?_
            refine q_iload_n rfl rfl ?_
            refine q_iload_n rfl rfl ?_
            refine v_idivx rfl ⟨by omega, by omega, by omega⟩ (fun y_6 hy_6 => ?_)
            refine q_goto (t := 60) rfl (by decide) ?_
            refine q_iret rfl rfl ?_
            exact K y_6 ⟨by omega, by omega⟩
          · refine v_if_ne_f (t := 46) rfl (by decide) (by omega) ?_
            refine q_iconst rfl ?_
            refine q_goto (t := 60) rfl (by decide) ?_
            refine q_iret rfl rfl ?_
            exact K 0 ⟨by decide, by decide⟩
        · refine v_ic_eq_f (t := 38) rfl (by decide) (by omega) ?_
          refine q_iload_n rfl rfl ?_
          refine v_bip rfl (by decide) ?_
          by_cases h_7 : a0 ≠ 8
          · refine v_ic_ne_t (t := 61) rfl (by decide) (by omega) ?_
            refine q_iload_n rfl rfl ?_
            refine q_iload_n rfl rfl ?_
            by_cases h_8 : a1 ≥ a2
            · refine v_ic_ge_t (t := 70) rfl (by decide) (by omega) ?_
              refine q_iconst rfl ?_
              refine q_iload_n rfl rfl ?_
              refine v_bip rfl (by decide) ?_
              by_cases h_9 : a0 ≠ 6
              · refine v_ic_ne_t (t := 81) rfl (by decide) (by omega) ?_
                refine q_iconst rfl ?_
                refine v_ic_ne_f (t := 89) rfl (by decide) (by decide) ?_
                refine q_iload_n rfl rfl ?_
                refine q_goto (t := 90) rfl (by decide) ?_
                refine q_iret rfl rfl ?_
                exact K a1 ⟨by omega, by omega⟩
              · refine v_ic_ne_f (t := 81) rfl (by decide) (by omega) ?_
                refine q_iconst rfl ?_
                refine q_goto (t := 82) rfl (by decide) ?_
                refine v_ic_ne_t (t := 89) rfl (by decide) (by decide) ?_
                refine q_iload_n rfl rfl ?_
                refine q_iret rfl rfl ?_
                exact K a2 ⟨by omega, by omega⟩
            · refine v_ic_ge_f (t := 70) rfl (by decide) (by omega) ?_
              refine q_iconst rfl ?_
              refine q_goto (t := 71) rfl (by decide) ?_
              refine q_iload_n rfl rfl ?_
              refine v_bip rfl (by decide) ?_
              by_cases h_10 : a0 ≠ 6
              · refine v_ic_ne_t (t := 81) rfl (by decide) (by omega) ?_
                refine q_iconst rfl ?_
                refine v_ic_ne_t (t := 89) rfl (by decide) (by decide) ?_
                refine q_iload_n rfl rfl ?_
                refine q_iret rfl rfl ?_
                exact K a2 ⟨by omega, by omega⟩
              · refine v_ic_ne_f (t := 81) rfl (by decide) (by omega) ?_
                refine q_iconst rfl ?_
                refine q_goto (t := 82) rfl (by decide) ?_
                refine v_ic_ne_f (t := 89) rfl (by decide) (by decide) ?_
                refine q_iload_n rfl rfl ?_
                refine q_goto (t := 90) rfl (by decide) ?_
                refine q_iret rfl rfl ?_
                exact K a1 ⟨by omega, by omega⟩
          · refine v_ic_ne_f (t := 61) rfl (by decide) (by omega) ?_
            refine q_iload_n rfl rfl ?_
            by_cases h_11 : a2 ≠ 0
            · refine v_if_ne_t (t := 46) rfl (by decide) (by omega) ?_
              refine q_iload_n rfl rfl ?_
              refine q_iconst rfl ?_
              refine v_ic_ne_t (t := 57) rfl (by decide) (by omega) ?_
              refine q_iload_n rfl rfl ?_
              refine q_iload_n rfl rfl ?_
              refine v_iremx rfl ⟨by omega, by omega, by omega⟩ (fun y_12 hy_12 => ?_)
              refine q_iret rfl rfl ?_
              exact K y_12 ⟨by omega, by omega⟩
            · refine v_if_ne_f (t := 46) rfl (by decide) (by omega) ?_
              refine q_iconst rfl ?_
              refine q_goto (t := 60) rfl (by decide) ?_
              refine q_iret rfl rfl ?_
              exact K 0 ⟨by decide, by decide⟩
      · refine v_ic_ne_f (t := 27) rfl (by decide) (by omega) ?_
        refine q_iload_n rfl rfl ?_
        refine q_iload_n rfl rfl ?_
        refine v_imul (v := (a1 * a2)) rfl rfl ?_
        refine v_nrm (fun y_13 hy_13 => ?_)
        refine q_iret rfl rfl ?_
        exact K y_13 ⟨by omega, by omega⟩
    · refine v_ic_ne_f (t := 18) rfl (by decide) (by omega) ?_
      refine q_iload_n rfl rfl ?_
      refine q_iload_n rfl rfl ?_
      refine v_isub (v := a1 - a2) rfl (by omega) ?_
      refine v_nrm (fun y_14 hy_14 => ?_)
      refine q_iret rfl rfl ?_
      exact K y_14 ⟨by omega, by omega⟩
  · refine v_ic_ne_f (t := 9) rfl (by decide) (by omega) ?_
    refine q_iload_n rfl rfl ?_
    refine q_iload_n rfl rfl ?_
    refine v_iadd (v := a1 + a2) rfl (by omega) ?_
    refine v_nrm (fun y_15 hy_15 => ?_)
    refine q_iret rfl rfl ?_
    exact K y_15 ⟨by omega, by omega⟩

set_option maxRecDepth 100000 in
set_option maxHeartbeats 4000000 in
theorem s_179_l {sc : List Int32} {e : Int} {d u P Q : Nat} {c : ME} {Z : AR → Prop} (hI : Iv u e P Q c)  (K : ∀ (c2 : ME) (y : Int), Iv u e P Q c2 → (∀ (a : Nat) (j : Int), ¬ (a = 54) → c2 a j = c a j) → (-2147483648) ≤ y ∧ y ≤ 2147483647 → Z (.inl (some (vi y)), Wd P Q P P c2, 0, 0)) : ∀ n : Nat, (∀ (c2 : ME) (v1 : Int) (v2 : Int), Iv u e P Q c2 → (∀ (a : Nat) (j : Int), ¬ (a = 54) → c2 a j = c a j) → 0 ≤ v1 ∧ v1 ≤ 150 → 0 ≤ v2 ∧ v2 ≤ 150 → ((v1 ≤ v2)) → (v1 = hgt (c 52) v2.toNat) → 301 - 2 * v2 < (n : Int) → Wp sc (d + 8) 179 4 [(0, .ref 41), (1, vi v1), (2, vi v2)] [] (Wd P Q P P c2) 0 0 Z)
  | 0 => by intro c2 v1 v2 hI2 hF hv1 hv2 hx0 hx1 hm9; have hP := iv_P hI; have hQ := iv_Q hI; exfalso; omega
  | n + 1 => by
    have hP := iv_P hI
    have hQ := iv_Q hI
    have ih := s_179_l (sc := sc) (d := d) hI K n
    intro c2 v1 v2 hI2 hF hv1 hv2 hx0 hx1 hm9
    have h_1 := ir_52 hI v2
    have h_2 := ir_53 hI v2
    have h_3 := ir_41_30 hI
    have hh1 := ir_hc hI (k := v2) (by omega)
    have hh2 := hgt_s (f := c 52) (k := v2) (by omega)
    refine q_iload_n rfl rfl ?_
    refine q_aload_n rfl rfl ?_
    refine v_gi (z := 30) (v := c 41 30) rfl rfl rfl (by decide) rfl rfl (hF 41 30 (by omega)) ?_
    by_cases h_4 : v2 ≥ c 41 30
    · refine v_ic_ge_t (t := 95) rfl (by decide) (by omega) ?_
      refine q_aload_n rfl rfl ?_
      refine v_gr (t := 54) rfl rfl rfl (by decide) rfl ?_
      refine q_iconst rfl ?_
      have h_5 := ir_54 hI2 0
      refine v_ia (v := c2 54 0) rfl rfl (by decide) (by decide) (by decide) rfl ?_
      refine q_iret rfl rfl ?_
      exact K c2 (c2 54 0) hI2 (fun a j hm => hF a j (by omega)) ⟨by omega, by omega⟩
    · refine v_ic_ge_f (t := 95) rfl (by decide) (by omega) ?_
      refine q_aload_n rfl rfl ?_
      refine v_gr (t := 52) rfl rfl rfl (by decide) rfl ?_
      refine q_iload_n rfl rfl ?_
      refine v_ia (v := c 52 v2) rfl rfl (by decide) (by decide) (by omega) (hF 52 v2 (by omega)) ?_
      refine q_istore_n rfl (by decide) ?_
      refine q_iload_n rfl rfl ?_
      refine q_iconst rfl ?_
      by_cases h_6 : c 52 v2 > 1
      · refine v_ic_gt_t (t := 60) rfl (by decide) (by omega) ?_
        refine v_iinc (v := v1 - 1) rfl rfl (by decide) (by omega) ?_
        refine q_aload_n rfl rfl ?_
        refine v_gr (t := 54) rfl rfl rfl (by decide) rfl ?_
        refine q_iload_n rfl rfl ?_
        refine q_iconst rfl ?_
        refine v_isub (v := v1 - 2) rfl (by omega) ?_
        refine q_iload_n rfl rfl ?_
        refine q_aload_n rfl rfl ?_
        refine v_gr (t := 54) rfl rfl rfl (by decide) rfl ?_
        refine q_iload_n rfl rfl ?_
        refine q_iconst rfl ?_
        refine v_isub (v := v1 - 2) rfl (by omega) ?_
        have h_7 := ir_54 hI2 (v1 - 2)
        refine v_ia (v := c2 54 (v1 - 2)) rfl rfl (by decide) (by decide) (by omega) rfl ?_
        refine q_aload_n rfl rfl ?_
        refine v_gr (t := 54) rfl rfl rfl (by decide) rfl ?_
        refine q_iload_n rfl rfl ?_
        have h_8 := ir_54 hI2 (v1 - 1)
        refine v_ia (v := c2 54 (v1 - 1)) rfl rfl (by decide) (by decide) (by omega) rfl ?_
        refine q_call rfl rfl rfl rfl (s_178 (a0 := c 52 v2) (a1 := c2 54 (v1 - 2)) (a2 := c2 54 (v1 - 1)) hI2 (show (-2147483648) ≤ c 52 v2 ∧ c 52 v2 ≤ 2147483647 from by omega) (show (-2147483648) ≤ c2 54 (v1 - 2) ∧ c2 54 (v1 - 2) ≤ 2147483647 from by omega) (show (-2147483648) ≤ c2 54 (v1 - 1) ∧ c2 54 (v1 - 1) ≤ 2147483647 from by omega) (fun y_9 hy_9 => ?_))
        refine bk_inl ?_
        refine v_is rfl rfl (by decide) (by decide) (by omega) ?_
        refine v_iinc (v := v2 + 1) rfl rfl (by decide) (by omega) ?_
        refine q_goto (t := 4) rfl (by decide) ?_
        have hI_10 := iw_54 (j := v1 - 2) (v := y_9) hI2 ⟨by omega, by omega⟩
        refine Wp_ls [(0, .ref 41), (1, vi (v1 - 1)), (2, vi (v2 + 1))] (lsub_cons rfl (lsub_cons rfl (lsub_cons rfl lsub_nil))) ?_
        exact ih (up c2 54 (v1 - 2) y_9) (v1 - 1) (v2 + 1) hI_10 (fun a j hm => (up_b (by omega)).trans (hF a j (by omega))) ⟨by omega, by omega⟩ ⟨by omega, by omega⟩ (by omega) (by omega) (by omega)
      · refine v_ic_gt_f (t := 60) rfl (by decide) (by omega) ?_
        refine q_aload_n rfl rfl ?_
        refine v_gr (t := 54) rfl rfl rfl (by decide) rfl ?_
        refine q_iload_n rfl rfl ?_
        refine q_iload_n rfl rfl ?_
        by_cases h_11 : c 52 v2 ≠ 0
        · refine v_if_ne_t (t := 42) rfl (by decide) (by omega) ?_
          refine q_aload_n rfl rfl ?_
          refine v_gr (t := 55) rfl rfl rfl (by decide) rfl ?_
          refine q_aload_n rfl rfl ?_
          refine v_gr (t := 53) rfl rfl rfl (by decide) rfl ?_
          refine q_iload_n rfl rfl ?_
          refine v_ia (v := c 53 v2) rfl rfl (by decide) (by decide) (by omega) (hF 53 v2 (by omega)) ?_
          have h_12 := ir_55 hI (c 53 v2)
          refine v_ia (v := c 55 (c 53 v2)) rfl rfl (by decide) (by decide) (by omega) (hF 55 (c 53 v2) (by omega)) ?_
          refine v_is rfl rfl (by decide) (by decide) (by omega) ?_
          refine v_iinc (v := v1 + 1) rfl rfl (by decide) (by omega) ?_
          refine q_goto (t := 89) rfl (by decide) ?_
          refine v_iinc (v := v2 + 1) rfl rfl (by decide) (by omega) ?_
          refine q_goto (t := 4) rfl (by decide) ?_
          have hI_13 := iw_54 (j := v1) (v := c 55 (c 53 v2)) hI2 ⟨by omega, by omega⟩
          refine Wp_ls [(0, .ref 41), (1, vi (v1 + 1)), (2, vi (v2 + 1))] (lsub_cons rfl (lsub_cons rfl (lsub_cons rfl lsub_nil))) ?_
          exact ih (up c2 54 v1 (c 55 (c 53 v2))) (v1 + 1) (v2 + 1) hI_13 (fun a j hm => (up_b (by omega)).trans (hF a j (by omega))) ⟨by omega, by omega⟩ ⟨by omega, by omega⟩ (by omega) (by omega) (by omega)
        · refine v_if_ne_f (t := 42) rfl (by decide) (by omega) ?_
          refine q_aload_n rfl rfl ?_
          refine v_gr (t := 53) rfl rfl rfl (by decide) rfl ?_
          refine q_iload_n rfl rfl ?_
          refine v_ia (v := c 53 v2) rfl rfl (by decide) (by decide) (by omega) (hF 53 v2 (by omega)) ?_
          refine q_goto (t := 53) rfl (by decide) ?_
          refine v_is rfl rfl (by decide) (by decide) (by omega) ?_
          refine v_iinc (v := v1 + 1) rfl rfl (by decide) (by omega) ?_
          refine q_goto (t := 89) rfl (by decide) ?_
          refine v_iinc (v := v2 + 1) rfl rfl (by decide) (by omega) ?_
          refine q_goto (t := 4) rfl (by decide) ?_
          have hI_14 := iw_54 (j := v1) (v := c 53 v2) hI2 ⟨by omega, by omega⟩
          refine Wp_ls [(0, .ref 41), (1, vi (v1 + 1)), (2, vi (v2 + 1))] (lsub_cons rfl (lsub_cons rfl (lsub_cons rfl lsub_nil))) ?_
          exact ih (up c2 54 v1 (c 53 v2)) (v1 + 1) (v2 + 1) hI_14 (fun a j hm => (up_b (by omega)).trans (hF a j (by omega))) ⟨by omega, by omega⟩ ⟨by omega, by omega⟩ (by omega) (by omega) (by omega)
set_option maxRecDepth 100000 in
set_option maxHeartbeats 4000000 in
theorem s_179 {sc : List Int32} {e : Int} {d u P Q : Nat} {c : ME} {Z : AR → Prop} (hI : Iv u e P Q c)  (K : ∀ (c2 : ME) (y : Int), Iv u e P Q c2 → (∀ (a : Nat) (j : Int), ¬ (a = 54) → c2 a j = c a j) → (-2147483648) ≤ y ∧ y ≤ 2147483647 → Z (.inl (some (vi y)), Wd P Q P P c2, 0, 0)) : Wp sc (d + 8) 179 0 [(0, .ref 41)] [] (Wd P Q P P c) 0 0 Z := by
  have hP := iv_P hI
  have hQ := iv_Q hI
  refine q_iconst rfl ?_
  refine q_istore_n rfl (by decide) ?_
  refine q_iconst rfl ?_
  refine q_istore_n rfl (by decide) ?_
  refine Wp_ls [(0, .ref 41), (1, vi 0), (2, vi 0)] (lsub_cons rfl (lsub_cons rfl (lsub_cons rfl lsub_nil))) ?_
  exact (s_179_l (sc := sc) (d := d) hI K 304) c 0 0 hI (fun a j hm => rfl) ⟨by decide, by decide⟩ ⟨by decide, by decide⟩ (by omega) (show (0 : Int) = hgt (c 52) 0 from rfl) (by omega)

set_option maxRecDepth 100000 in
set_option maxHeartbeats 4000000 in
theorem s_180 {sc : List Int32} {e : Int} {d u P Q : Nat} {c : ME} {Z : AR → Prop} (hI : Iv u e P Q c) (hq0 : (c 55 4 ≥ 0 ∧ c 55 4 ≤ 39996)) (hq1 : (c 55 0 ≥ 0 ∧ c 55 0 ≤ 9999)) (K : ∀ (c2 : ME) (y : Int), Iv u e P Q c2 → (∀ (a : Nat) (j : Int), ¬ (a = 54) → c2 a j = c a j) → 0 ≤ y ∧ y ≤ 99 → Z (.inl (some (vi y)), Wd P Q P P c2, 0, 0)) : Wp sc (d + 9) 180 0 [(0, .ref 41)] [] (Wd P Q P P c) 0 0 Z := by
  have hP := iv_P hI
  have hQ := iv_Q hI
  have h_1 := ir_55 hI 4
  have h_2 := ir_55 hI 0
  refine q_aload_n rfl rfl ?_
  have h_3 := ir_41_30 hI
  refine v_gi (z := 30) (v := c 41 30) rfl rfl rfl (by decide) rfl rfl rfl ?_
  by_cases h_4 : c 41 30 ≠ 0
  · refine v_if_ne_t (t := 28) rfl (by decide) (by omega) ?_
    refine q_aload_n rfl rfl ?_
    refine v_cv rfl rfl rfl rfl (by decide) ⟨⟨rfl, rfl⟩, by decide, rfl⟩ (Nat.le_of_ble_eq_true rfl) (Nat.le_of_ble_eq_true rfl) (s_179 hI (fun c_5 y_8 hI_6 hF_7 hy_8 => ?_))
    refine bk_inl ?_
    refine q_istore_n rfl (by decide) ?_
    refine q_iload_n rfl rfl ?_
    by_cases h_9 : y_8 ≥ 0
    · refine v_if_ge_t (t := 41) rfl (by decide) (by omega) ?_
      refine q_iload_n rfl rfl ?_
      refine v_bip rfl (by decide) ?_
      by_cases h_10 : y_8 ≤ 99
      · refine v_ic_le_t (t := 52) rfl (by decide) (by omega) ?_
        refine q_iload_n rfl rfl ?_
        refine q_iret rfl rfl ?_
        exact K c_5 y_8 hI_6 (fun a j hm => hF_7 a j (by omega)) ⟨by omega, by omega⟩
      · refine v_ic_le_f (t := 52) rfl (by decide) (by omega) ?_
        refine v_bip rfl (by decide) ?_
        refine q_goto (t := 53) rfl (by decide) ?_
        refine q_iret rfl rfl ?_
        exact K c_5 99 hI_6 (fun a j hm => hF_7 a j (by omega)) ⟨by decide, by decide⟩
    · refine v_if_ge_f (t := 41) rfl (by decide) (by omega) ?_
      refine q_iconst rfl ?_
      refine q_goto (t := 53) rfl (by decide) ?_
      refine q_iret rfl rfl ?_
      exact K c_5 0 hI_6 (fun a j hm => hF_7 a j (by omega)) ⟨by decide, by decide⟩
  · refine v_if_ne_f (t := 28) rfl (by decide) (by omega) ?_
    refine q_aload_n rfl rfl ?_
    refine v_gr (t := 55) rfl rfl rfl (by decide) rfl ?_
    refine q_iconst rfl ?_
    refine v_ia (v := c 55 0) rfl rfl (by decide) (by decide) (by decide) rfl ?_
    refine v_bip rfl (by decide) ?_
    refine v_imul (v := 90 * c 55 0) rfl (by omega) ?_
    refine q_aload_n rfl rfl ?_
    refine v_gr (t := 55) rfl rfl rfl (by decide) rfl ?_
    refine q_iconst rfl ?_
    refine v_ia (v := c 55 4) rfl rfl (by decide) (by decide) (by decide) rfl ?_
    refine q_iconst rfl ?_
    refine v_iadd (v := c 55 4 + 1) rfl (by omega) ?_
    refine v_idivx rfl ⟨by omega, by omega, by omega⟩ (fun y_11 hy_11 => ?_)
    refine q_goto (t := 32) rfl (by decide) ?_
    refine q_istore_n rfl (by decide) ?_
    refine q_iload_n rfl rfl ?_
    by_cases h_12 : y_11 ≥ 0
    · refine v_if_ge_t (t := 41) rfl (by decide) (by omega) ?_
      refine q_iload_n rfl rfl ?_
      refine v_bip rfl (by decide) ?_
      by_cases h_13 : y_11 ≤ 99
      · refine v_ic_le_t (t := 52) rfl (by decide) (by omega) ?_
        refine q_iload_n rfl rfl ?_
        refine q_iret rfl rfl ?_
        exact K c y_11 hI (fun a j hm => rfl) ⟨by omega, by omega⟩
      · refine v_ic_le_f (t := 52) rfl (by decide) (by omega) ?_
        refine v_bip rfl (by decide) ?_
        refine q_goto (t := 53) rfl (by decide) ?_
        refine q_iret rfl rfl ?_
        exact K c 99 hI (fun a j hm => rfl) ⟨by decide, by decide⟩
    · refine v_if_ge_f (t := 41) rfl (by decide) (by omega) ?_
      refine q_iconst rfl ?_
      refine q_goto (t := 53) rfl (by decide) ?_
      refine q_iret rfl rfl ?_
      exact K c 0 hI (fun a j hm => rfl) ⟨by decide, by decide⟩

set_option maxRecDepth 100000 in
set_option maxHeartbeats 4000000 in
theorem s_181 {sc : List Int32} {e : Int} {d u P Q : Nat} {c : ME} {a1 : Int} {a2 : Int} {a3 : Int} {a4 : Int} {a5 : Int} {Z : AR → Prop} (hI : Iv u e P Q c) (ha1 : 0 ≤ a1 ∧ a1 ≤ 7) (ha2 : 0 ≤ a2 ∧ a2 ≤ 40) (ha3 : 0 ≤ a3 ∧ a3 ≤ 5) (ha4 : 0 ≤ a4 ∧ a4 ≤ 999) (ha5 : 0 ≤ a5 ∧ a5 ≤ 5) (hq0 : (((c 41 34) % 5) = 0)) (hq1 : (c 41 5 < (-1)) ∨ (c 41 5 > (-1)) ∨ (c 41 34 ≤ 245)) (hq2 : (a1 ≠ 0) ∨ (a2 ≤ 3)) (hq3 : (a1 ≠ 1) ∨ (a2 ≤ 3 ∧ a4 ≤ 5)) (hq4 : (a1 ≠ 2) ∨ (a2 ≤ 5)) (hq5 : (a1 ≠ 3) ∨ (a2 ≤ 5)) (hq6 : (a1 ≠ 4) ∨ (a2 ≤ 3)) (hq7 : (a1 ≠ 5) ∨ (a2 ≤ 5)) (hq8 : (a1 ≠ 7) ∨ (a3 = 0)) (K : ∀ (c2 : ME), Iv u e P Q c2 → (∀ (a : Nat) (j : Int), ¬ ((a = 41 ∧ j = 34) ∨ (a = 56 ∧ j ≥ c 41 34)) → c2 a j = c a j) → ((((c2 41 34) % 5) = 0)) → ((c 41 5 < (-1)) ∨ (c 41 5 > (-1)) ∨ (c2 41 34 = c 41 34 + 5 ∧ c2 56 (c 41 34) = a1)) → ((c 41 5 = (-1)) ∨ (c2 41 34 = c 41 34)) → Z (.inl (none), Wd P Q P P c2, 0, 0)) : Wp sc (d + 8) 181 0 [(0, .ref 41), (1, vi a1), (2, vi a2), (3, vi a3), (4, vi a4), (5, vi a5)] [] (Wd P Q P P c) 0 0 Z := by
  have hP := iv_P hI
  have hQ := iv_Q hI
  have h_1 := ir_41_34 hI
  have h_2 := ir_41_5 hI
  refine q_aload_n rfl rfl ?_
  refine v_cv rfl rfl rfl rfl (by decide) ⟨⟨rfl, rfl⟩, by decide, rfl⟩ (Nat.le_of_ble_eq_true rfl) (Nat.le_of_ble_eq_true rfl) ?_
  refine q_aload_n rfl rfl ?_
  refine v_gi (z := 5) (v := c 41 5) rfl rfl rfl (by decide) rfl rfl rfl ?_
  refine q_iconst rfl ?_
  by_cases h_3 : c 41 5 ≠ (-1)
  · refine v_ic_ne_t (t := 12) rfl (by decide) (by omega) ?_
    refine q_iconst rfl ?_
    refine v_zret rfl rfl (by omega) ?_
    refine bk_inl ?_
    refine v_if_ne_f (t := 8) rfl (by decide) (by decide) ?_
    refine q_vret rfl rfl ?_
    have h_4 := ir_56 hI (c 41 34)
    exact K c hI (fun a j hm => rfl) (by omega) (by omega) (by omega)
  · refine v_ic_ne_f (t := 12) rfl (by decide) (by omega) ?_
    refine q_iconst rfl ?_
    refine q_goto (t := 13) rfl (by decide) ?_
    refine v_zret rfl rfl (by omega) ?_
    refine bk_inl ?_
    refine v_if_ne_t (t := 8) rfl (by decide) (by decide) ?_
    refine q_aload_n rfl rfl ?_
    refine v_gr (t := 56) rfl rfl rfl (by decide) rfl ?_
    refine q_aload_n rfl rfl ?_
    refine v_gi (z := 34) (v := c 41 34) rfl rfl rfl (by decide) rfl rfl rfl ?_
    refine q_iload_n rfl rfl ?_
    refine v_is rfl rfl (by decide) (by decide) (by omega) ?_
    refine q_aload_n rfl rfl ?_
    refine v_gr (t := 56) rfl rfl rfl (by decide) rfl ?_
    refine q_aload_n rfl rfl ?_
    refine v_gi (z := 34) (v := c 41 34) rfl rfl rfl (by decide) rfl rfl (up_c (by decide)) ?_
    refine q_iconst rfl ?_
    refine v_iadd (v := c 41 34 + 1) rfl (by omega) ?_
    refine q_iload_n rfl rfl ?_
    refine v_is rfl rfl (by decide) (by decide) (by omega) ?_
    refine q_aload_n rfl rfl ?_
    refine v_gr (t := 56) rfl rfl rfl (by decide) rfl ?_
    refine q_aload_n rfl rfl ?_
    refine v_gi (z := 34) (v := c 41 34) rfl rfl rfl (by decide) rfl rfl ((up_c (by decide)).trans (up_c (by decide))) ?_
    refine q_iconst rfl ?_
    refine v_iadd (v := c 41 34 + 2) rfl (by omega) ?_
    refine q_iload_n rfl rfl ?_
    refine v_is rfl rfl (by decide) (by decide) (by omega) ?_
    refine q_aload_n rfl rfl ?_
    refine v_gr (t := 56) rfl rfl rfl (by decide) rfl ?_
    refine q_aload_n rfl rfl ?_
    refine v_gi (z := 34) (v := c 41 34) rfl rfl rfl (by decide) rfl rfl ((up_c (by decide)).trans ((up_c (by decide)).trans (up_c (by decide)))) ?_
    refine q_iconst rfl ?_
    refine v_iadd (v := c 41 34 + 3) rfl (by omega) ?_
    refine q_iload rfl rfl ?_
    refine v_is rfl rfl (by decide) (by decide) (by omega) ?_
    refine q_aload_n rfl rfl ?_
    refine v_gr (t := 56) rfl rfl rfl (by decide) rfl ?_
    refine q_aload_n rfl rfl ?_
    refine v_gi (z := 34) (v := c 41 34) rfl rfl rfl (by decide) rfl rfl ((up_c (by decide)).trans ((up_c (by decide)).trans ((up_c (by decide)).trans (up_c (by decide))))) ?_
    refine q_iconst rfl ?_
    refine v_iadd (v := c 41 34 + 4) rfl (by omega) ?_
    refine q_iload rfl rfl ?_
    refine v_is rfl rfl (by decide) (by decide) (by omega) ?_
    refine q_aload_n rfl rfl ?_
    refine q_dup rfl rfl ?_
    refine v_gi (z := 34) (v := c 41 34) rfl rfl rfl (by decide) rfl rfl ((up_c (by decide)).trans ((up_c (by decide)).trans ((up_c (by decide)).trans ((up_c (by decide)).trans (up_c (by decide)))))) ?_
    refine q_iconst rfl ?_
    refine v_iadd (v := c 41 34 + 5) rfl (by omega) ?_
    refine v_pi (z := 34) rfl rfl rfl (by decide) rfl rfl rfl (by decide) ?_
    refine q_vret rfl rfl ?_
    have hI_5 : Iv u e P Q (up (up (up (up (up (up c 56 (c 41 34) a1) 56 (c 41 34 + 1) a2) 56 (c 41 34 + 2) a3) 56 (c 41 34 + 3) a4) 56 (c 41 34 + 4) a5) 41 34 (c 41 34 + 5)) := iw_tells (n := c 41 34) hI (by omega) (by omega) (by unfold So; omega) (by omega)
    have h_6 : (up (up (up (up (up (up c 56 (c 41 34) a1) 56 (c 41 34 + 1) a2) 56 (c 41 34 + 2) a3) 56 (c 41 34 + 3) a4) 56 (c 41 34 + 4) a5) 41 34 (c 41 34 + 5)) 41 34 = c 41 34 + 5 := (up_e rfl)
    have h_7 : (up (up (up (up (up (up c 56 (c 41 34) a1) 56 (c 41 34 + 1) a2) 56 (c 41 34 + 2) a3) 56 (c 41 34 + 3) a4) 56 (c 41 34 + 4) a5) 41 34 (c 41 34 + 5)) 41 34 = c 41 34 + 5 := (up_e rfl)
    have h_8 : (up (up (up (up (up (up c 56 (c 41 34) a1) 56 (c 41 34 + 1) a2) 56 (c 41 34 + 2) a3) 56 (c 41 34 + 3) a4) 56 (c 41 34 + 4) a5) 41 34 (c 41 34 + 5)) 56 (c 41 34) = a1 := ((up_c (by decide)).trans ((up_n (by omega)).trans ((up_n (by omega)).trans ((up_n (by omega)).trans ((up_n (by omega)).trans (up_e rfl))))))
    exact K (up (up (up (up (up (up c 56 (c 41 34) a1) 56 (c 41 34 + 1) a2) 56 (c 41 34 + 2) a3) 56 (c 41 34 + 3) a4) 56 (c 41 34 + 4) a5) 41 34 (c 41 34 + 5)) hI_5 (fun a j hm => (up_b (by omega)).trans ((up_b (by omega)).trans ((up_b (by omega)).trans ((up_b (by omega)).trans ((up_b (by omega)).trans (up_b (by omega))))))) (by omega) (by omega) (by omega)

set_option maxRecDepth 100000 in
set_option maxHeartbeats 4000000 in
theorem s_182 {sc : List Int32} {e : Int} {d u P Q : Nat} {c : ME} {a0 : Int} {Z : AR → Prop} (hI : Iv u e P Q c) (ha0 : (-2147483648) ≤ a0 ∧ a0 ≤ 2147483647) (K : ∀ (y : Int), (-1) ≤ y ∧ y ≤ 7 → ((y < 0) ∨ (a0 > 1023)) → Z (.inl (some (vi y)), Wd P Q P P c, 0, 0)) : Wp sc (d + 8) 182 0 [(0, vi a0)] [] (Wd P Q P P c) 0 0 Z := by
  have hP := iv_P hI
  have hQ := iv_Q hI
  refine q_iload_n rfl rfl ?_
  refine q_ldc_w_s rfl rfl rfl (by decide) ?_
  refine q_call rfl rfl rfl rfl (s_158_29 ?_)
  refine bk_inl ?_
  by_cases h_1 : a0 ≠ 7939524
  · refine v_ic_ne_t (t := 14) rfl (by decide) (by omega) ?_
    refine q_iload_n rfl rfl ?_
    refine q_ldc_w_s rfl rfl rfl (by decide) ?_
    refine q_call rfl rfl rfl rfl (s_158_30 ?_)
    refine bk_inl ?_
    by_cases h_2 : a0 ≠ 632020
    · refine v_ic_ne_t (t := 28) rfl (by decide) (by omega) ?_
      refine q_iload_n rfl rfl ?_
      refine q_ldc_w_s rfl rfl rfl (by decide) ?_
      refine q_call rfl rfl rfl rfl (s_158_31 ?_)
      refine bk_inl ?_
      by_cases h_3 : a0 ≠ 540338
      · refine v_ic_ne_t (t := 42) rfl (by decide) (by omega) ?_
        refine q_iload_n rfl rfl ?_
        refine q_ldc_w_s rfl rfl rfl (by decide) ?_
        refine q_call rfl rfl rfl rfl (s_158_32 ?_)
        refine bk_inl ?_
        by_cases h_4 : a0 ≠ 20037104
        · refine v_ic_ne_t (t := 56) rfl (by decide) (by omega) ?_
          refine q_iload_n rfl rfl ?_
          refine q_ldc_w_s rfl rfl rfl (by decide) ?_
          refine q_call rfl rfl rfl rfl (s_158_33 ?_)
          refine bk_inl ?_
          by_cases h_5 : a0 ≠ 660530
          · refine v_ic_ne_t (t := 70) rfl (by decide) (by omega) ?_
            refine q_iload_n rfl rfl ?_
            refine q_ldc_w_s rfl rfl rfl (by decide) ?_
            refine q_call rfl rfl rfl rfl (s_158_34 ?_)
            refine bk_inl ?_
            by_cases h_6 : a0 ≠ 628108
            · refine v_ic_ne_t (t := 84) rfl (by decide) (by omega) ?_
              refine q_iload_n rfl rfl ?_
              refine q_ldc_w_s rfl rfl rfl (by decide) ?_
              refine q_call rfl rfl rfl rfl (s_158_28 ?_)
              refine bk_inl ?_
              by_cases h_7 : a0 ≠ 4153
              · refine v_ic_ne_t (t := 99) rfl (by decide) (by omega) ?_
                refine q_iload_n rfl rfl ?_
                refine q_ldc_w_s rfl rfl rfl (by decide) ?_
                refine q_call rfl rfl rfl rfl (s_158_35 ?_)
                refine bk_inl ?_
                by_cases h_8 : a0 ≠ 1279278
                · refine v_ic_ne_t (t := 114) rfl (by decide) (by omega) ?_
                  refine q_iconst rfl ?_
                  refine q_iret rfl rfl ?_
                  exact K (-1) ⟨by decide, by decide⟩ (by omega)
                · refine v_ic_ne_f (t := 114) rfl (by decide) (by omega) ?_
                  refine v_bip rfl (by decide) ?_
                  refine q_goto (t := 115) rfl (by decide) ?_
                  refine q_iret rfl rfl ?_
                  exact K 7 ⟨by decide, by decide⟩ (by omega)
              · refine v_ic_ne_f (t := 99) rfl (by decide) (by omega) ?_
                refine v_bip rfl (by decide) ?_
                refine q_goto (t := 115) rfl (by decide) ?_
                refine q_iret rfl rfl ?_
                exact K 6 ⟨by decide, by decide⟩ (by omega)
            · refine v_ic_ne_f (t := 84) rfl (by decide) (by omega) ?_
              refine q_iconst rfl ?_
              refine q_goto (t := 115) rfl (by decide) ?_
              refine q_iret rfl rfl ?_
              exact K 5 ⟨by decide, by decide⟩ (by omega)
          · refine v_ic_ne_f (t := 70) rfl (by decide) (by omega) ?_
            refine q_iconst rfl ?_
            refine q_goto (t := 115) rfl (by decide) ?_
            refine q_iret rfl rfl ?_
            exact K 4 ⟨by decide, by decide⟩ (by omega)
        · refine v_ic_ne_f (t := 56) rfl (by decide) (by omega) ?_
          refine q_iconst rfl ?_
          refine q_goto (t := 115) rfl (by decide) ?_
          refine q_iret rfl rfl ?_
          exact K 3 ⟨by decide, by decide⟩ (by omega)
      · refine v_ic_ne_f (t := 42) rfl (by decide) (by omega) ?_
        refine q_iconst rfl ?_
        refine q_goto (t := 115) rfl (by decide) ?_
        refine q_iret rfl rfl ?_
        exact K 2 ⟨by decide, by decide⟩ (by omega)
    · refine v_ic_ne_f (t := 28) rfl (by decide) (by omega) ?_
      refine q_iconst rfl ?_
      refine q_goto (t := 115) rfl (by decide) ?_
      refine q_iret rfl rfl ?_
      exact K 1 ⟨by decide, by decide⟩ (by omega)
  · refine v_ic_ne_f (t := 14) rfl (by decide) (by omega) ?_
    refine q_iconst rfl ?_
    refine q_goto (t := 115) rfl (by decide) ?_
    refine q_iret rfl rfl ?_
    exact K 0 ⟨by decide, by decide⟩ (by omega)

set_option maxRecDepth 100000 in
set_option maxHeartbeats 4000000 in
theorem s_183 {sc : List Int32} {e : Int} {d u P Q : Nat} {c : ME} {Z : AR → Prop} (hI : Iv u e P Q c)  (K : ∀ (c2 : ME) (y : Int), Iv u e P Q c2 → (∀ (a : Nat) (j : Int), ¬ ((a = 41 ∧ j = 4) ∨ (a = 41 ∧ j = 5) ∨ (a = 41 ∧ j = 6)) → c2 a j = c a j) → 0 ≤ y ∧ y ≤ 5 → ((c2 41 4 ≥ c 41 4)) → ((c2 41 4 ≤ c 41 3) ∨ (c2 41 4 = c 41 4)) → ((c 41 5 = (-1)) ∨ (c2 41 5 = c 41 5)) → ((c2 41 5 < (-1)) ∨ (c2 41 5 > (-1)) ∨ (c2 41 4 > c 41 4 ∧ c2 41 4 ≤ c 41 3 ∧ c 41 5 = (-1))) → Z (.inl (some (vi y)), Wd P Q P P c2, 0, 0)) : Wp sc (d + 9) 183 0 [(0, .ref 41)] [] (Wd P Q P P c) 0 0 Z := by
  have hP := iv_P hI
  have hQ := iv_Q hI
  refine q_aload_n rfl rfl ?_
  refine q_iconst rfl ?_
  refine q_aload_n rfl rfl ?_
  have h_1 := ir_41_20 hI
  refine v_gi (z := 20) (v := c 41 20) rfl rfl rfl (by decide) rfl rfl rfl ?_
  refine q_iconst rfl ?_
  refine v_isub (v := c 41 20 - 1) rfl (by omega) ?_
  have h_2 := ir_41_4 hI
  have h_3 := ir_41_3 hI
  have h_4 := ir_41_5 hI
  refine v_cv rfl rfl rfl rfl (by decide) ⟨⟨rfl, rfl⟩, by decide, rfl⟩ (Nat.le_of_ble_eq_true rfl) (Nat.le_of_ble_eq_true rfl) (s_160 (a1 := 0) (a2 := c 41 20 - 1) hI (show 0 ≤ 0 ∧ 0 ≤ 1 from by omega) (show (-1) ≤ c 41 20 - 1 ∧ c 41 20 - 1 ≤ 9999 from by omega) (fun c_5 y_8 hI_6 hF_7 hy_8 h_9 h_10 h_11 h_12 h_13 => ?_))
  refine bk_inl ?_
  have h_14 := ir_41_4 hI_6
  have h_15 := ir_41_5 hI_6
  refine q_iret rfl rfl ?_
  exact K c_5 y_8 hI_6 (fun a j hm => hF_7 a j (by omega)) ⟨by omega, by omega⟩ (by omega) (by omega) (by omega) (by omega)

