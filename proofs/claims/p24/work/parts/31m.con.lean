/-! ===== contracts 13 ===== -/
set_option maxRecDepth 100000 in
set_option maxHeartbeats 4000000 in
theorem n_176 {sc : List Int32} {e : Int} {d u P Q : Nat} {c : ME} {Z : AR → Prop} (hI : Iv u e P Q c) (hq0 : (c 41 5 < (-1)) ∨ (c 41 5 > (-1))) (K : Z (.inl (none), Wd P Q P P c, 0, 0)) : Wp sc (d + 12) 176 0 [(0, .ref 41)] [] (Wd P Q P P c) 0 0 Z := by
  have hP := iv_P hI
  have hQ := iv_Q hI
  have h_1 := ir_41_5 hI
  refine q_aload_n rfl rfl ?_
  refine v_cv rfl rfl rfl rfl (by decide) ⟨⟨rfl, rfl⟩, by decide, rfl⟩ (Nat.le_of_ble_eq_true rfl) (Nat.le_of_ble_eq_true rfl) ?_
  refine q_aload_n rfl rfl ?_
  refine v_gi (z := 5) (v := c 41 5) rfl rfl rfl (by decide) rfl rfl rfl ?_
  refine q_iconst rfl ?_
  refine v_ic_ne_t (t := 12) rfl (by decide) (by omega) ?_
  refine q_iconst rfl ?_
  refine v_zret rfl rfl (by omega) ?_
  refine bk_inl ?_
  refine v_if_ne_f (t := 8) rfl (by decide) (by decide) ?_
  refine q_vret rfl rfl ?_
  exact K
set_option maxRecDepth 100000 in
set_option maxHeartbeats 4000000 in
theorem n_173 {sc : List Int32} {e : Int} {d u P Q : Nat} {c : ME} {Z : AR → Prop} (hI : Iv u e P Q c) (hq0 : (c 41 5 < (-1)) ∨ (c 41 5 > (-1))) (K : Z (.inl (none), Wd P Q P P c, 0, 0)) : Wp sc (d + 14) 173 0 [(0, .ref 41)] [] (Wd P Q P P c) 0 0 Z := by
  have hP := iv_P hI
  have hQ := iv_Q hI
  have h_1 := ir_41_5 hI
  refine q_aload_n rfl rfl ?_
  have h_2 : ¬ c 41 5 = -1 := by rw [show c 41 5 = c 41 5 from rfl]; omega
  refine v_cv rfl rfl rfl rfl (by decide) ⟨⟨rfl, rfl⟩, by decide, rfl⟩ (Nat.le_of_ble_eq_true rfl) (Nat.le_of_ble_eq_true rfl) (n_176 hI (by omega) ?_)
  refine bk_inl ?_
  refine q_aload_n rfl rfl ?_
  refine v_cv rfl rfl rfl rfl (by decide) ⟨⟨rfl, rfl⟩, by decide, rfl⟩ (Nat.le_of_ble_eq_true rfl) (Nat.le_of_ble_eq_true rfl) ?_
  refine q_aload_n rfl rfl ?_
  refine v_gi (z := 5) (v := c 41 5) rfl rfl rfl (by decide) rfl rfl rfl ?_
  refine q_iconst rfl ?_
  refine v_ic_ne_t (t := 12) rfl (by decide) (by omega) ?_
  refine q_iconst rfl ?_
  refine v_zret rfl rfl (by omega) ?_
  refine bk_inl ?_
  refine v_if_eq_t (t := 90) rfl (by decide) (by decide) ?_
  refine q_vret rfl rfl ?_
  exact K
set_option maxRecDepth 100000 in
set_option maxHeartbeats 4000000 in
theorem n_174 {sc : List Int32} {e : Int} {d u P Q : Nat} {c : ME} {Z : AR → Prop} (hI : Iv u e P Q c) (hq0 : (c 41 5 < (-1)) ∨ (c 41 5 > (-1))) (K : Z (.inl (none), Wd P Q P P c, 0, 0)) : Wp sc (d + 16) 174 0 [(0, .ref 41)] [] (Wd P Q P P c) 0 0 Z := by
  have hP := iv_P hI
  have hQ := iv_Q hI
  have h_1 := ir_41_5 hI
  refine q_aload_n rfl rfl ?_
  have h_2 : ¬ c 41 5 = -1 := by rw [show c 41 5 = c 41 5 from rfl]; omega
  refine v_cv rfl rfl rfl rfl (by decide) ⟨⟨rfl, rfl⟩, by decide, rfl⟩ (Nat.le_of_ble_eq_true rfl) (Nat.le_of_ble_eq_true rfl) (n_173 hI (by omega) ?_)
  refine bk_inl ?_
  refine q_aload_n rfl rfl ?_
  refine v_cv rfl rfl rfl rfl (by decide) ⟨⟨rfl, rfl⟩, by decide, rfl⟩ (Nat.le_of_ble_eq_true rfl) (Nat.le_of_ble_eq_true rfl) ?_
  refine q_aload_n rfl rfl ?_
  refine v_gi (z := 5) (v := c 41 5) rfl rfl rfl (by decide) rfl rfl rfl ?_
  refine q_iconst rfl ?_
  refine v_ic_ne_t (t := 12) rfl (by decide) (by omega) ?_
  refine q_iconst rfl ?_
  refine v_zret rfl rfl (by omega) ?_
  refine bk_inl ?_
  refine v_if_eq_t (t := 67) rfl (by decide) (by decide) ?_
  refine q_vret rfl rfl ?_
  exact K
set_option maxRecDepth 100000 in
set_option maxHeartbeats 4000000 in
theorem s_175 {sc : List Int32} {e : Int} {d u P Q : Nat} {c : ME} {a1 : Int} {a2 : Int} {o : Int} {Z : AR → Prop} (hI : Iv u e P Q c) (ha1 : 4 ≤ a1 ∧ a1 ≤ 5) (ha2 : 6 ≤ a2 ∧ a2 ≤ 7) (ho : 0 ≤ o ∧ o ≤ 6) (hW : Nw c) (hq0 : (c 41 5 = (-1))) (hq1 : (c 41 4 ≤ c 41 3)) (hq2 : (c 41 3 ≤ 150)) (hq3 : (c 41 29 ≤ c 41 4)) (hq4 : (c 41 7 = o)) (hq5 : (c 41 4 ≤ c 41 3 - 1)) (H174 : ∀ (d9 : Nat) (c : ME) (Z : AR → Prop), d ≤ d9 → o + 1 ≤ 6 → Iv u e P Q c → Nw c → ((c 41 5 = (-1))) → ((c 41 4 ≤ c 41 3)) → ((c 41 3 ≤ 150)) → ((c 41 29 ≤ c 41 4)) → (c 41 7 = o + 1) → (∀ c2 : ME, Iv u e P Q c2 → (∀ (a : Nat) (j : Int), ¬ ((a = 41 ∧ j = 4) ∨ (a = 41 ∧ j = 5) ∨ (a = 41 ∧ j = 6) ∨ (a = 41 ∧ j = 7) ∨ (a = 41 ∧ j = 29) ∨ a = 50 ∨ a = 51) → c2 a j = c a j) → Nw c2 → ((c2 41 4 ≥ c 41 4)) → ((c2 41 7 = c 41 7)) → ((c 41 4 + c2 41 29 ≤ c 41 29 + c2 41 4)) → ((c2 41 5 < (-1)) ∨ (c2 41 5 > (-1)) ∨ (c2 41 4 ≤ c 41 3)) → ((c2 41 5 < (-1)) ∨ (c2 41 5 > (-1)) ∨ (Nh c2 = Nh c + 1)) → Z (.inl none, Wd P Q P P c2, 0, 0)) → Wp sc (d9 + 12) 174 0 [(0, .ref 41)] [] (Wd P Q P P c) 0 0 Z) (K : ∀ (c2 : ME), Iv u e P Q c2 → (∀ (a : Nat) (j : Int), ¬ ((a = 41 ∧ j = 4) ∨ (a = 41 ∧ j = 5) ∨ (a = 41 ∧ j = 6) ∨ (a = 41 ∧ j = 7) ∨ (a = 41 ∧ j = 29) ∨ a = 50 ∨ a = 51) → c2 a j = c a j) → Nw c2 → ((c2 41 4 ≥ c 41 4)) → ((c2 41 7 = c 41 7)) → ((c 41 4 + c2 41 29 ≤ c 41 29 + c2 41 4)) → ((c2 41 5 < (-1)) ∨ (c2 41 5 > (-1)) ∨ (c2 41 4 ≤ c 41 3)) → ((c2 41 5 < (-1)) ∨ (c2 41 5 > (-1)) ∨ (Nh c2 = Nh c + 1)) → Z (.inl (none), Wd P Q P P c2, 0, 0)) : Wp sc (d + 13) 175 0 [(0, .ref 41), (1, vi a1), (2, vi a2)] [] (Wd P Q P P c) 0 0 Z := by
  have hP := iv_P hI
  have hQ := iv_Q hI
  have h_1 := ir_41_5 hI
  have h_2 := ir_41_3 hI
  have h_3 := ir_41_4 hI
  have h_4 := ir_41_29 hI
  have h_5 := ir_41_7 hI
  refine q_aload_n rfl rfl ?_
  refine q_iload_n rfl rfl ?_
  refine v_cv rfl rfl rfl rfl (by decide) ⟨⟨rfl, rfl⟩, by decide, rfl⟩ (Nat.le_of_ble_eq_true rfl) (Nat.le_of_ble_eq_true rfl) (s_171 (a1 := a1) hI (show 1 ≤ a1 ∧ a1 ≤ 5 from by omega) (by omega) (by omega) (fun c_6 hI_7 hF_8 h_9 h_10 h_11 h_12 => ?_))
  refine bk_inl ?_
  have h_13 := ir_41_4 hI_7
  have h_14 := ir_41_7 hI_7
  have h_15 := ir_41_5 hI_7
  refine q_aload_n rfl rfl ?_
  refine v_bip rfl (by decide) ?_
  have kn_16 : Hid (c_6 41 3 = c 41 3) := hF_8 41 3 (by omega)
  have h_17 : c_6 41 3 = c 41 3 := (hid kn_16)
  refine v_cv rfl rfl rfl rfl (by decide) ⟨⟨rfl, rfl⟩, by decide, rfl⟩ (Nat.le_of_ble_eq_true rfl) (Nat.le_of_ble_eq_true rfl) (s_161 (a1 := 91) hI_7 (show 1 ≤ 91 ∧ 91 ≤ 255 from by omega) (fun c_18 hI_19 hF_20 h_21 h_22 h_23 h_24 => ?_))
  refine bk_inl ?_
  have h_25 := ir_41_4 hI_19
  have h_26 := ir_41_5 hI_19
  refine q_aload_n rfl rfl ?_
  by_cases h_27 : c_18 41 5 = -1
  · skip
    have kn_28 : Hid (c_18 41 3 = c 41 3) := (hF_20 41 3 (by omega)).trans (hid kn_16)
    have h_29 : c_18 41 3 = c 41 3 := (hid kn_28)
    have kn_30 : Hid (c_6 41 29 = c 41 29) := hF_8 41 29 (by omega)
    have kn_31 : Hid (c_18 41 29 = c 41 29) := (hF_20 41 29 (by omega)).trans (hid kn_30)
    have h_32 : c_18 41 29 = c 41 29 := (hid kn_31)
    have kn_33 : Hid (c_18 41 7 = c_6 41 7) := hF_20 41 7 (by omega)
    have h_34 : c_18 41 7 = c_6 41 7 := (hid kn_33)
    obtain ⟨hW_35, hN_36⟩ : Nw c_18 ∧ Nh c_18 = Nh c := nh_fr hW (fun j => (hF_20 50 j (by omega)).trans (hF_8 50 j (by omega))) (fun j => (hF_20 51 j (by omega)).trans (hF_8 51 j (by omega))) ((hF_20 41 29 (by omega)).trans (hF_8 41 29 (by omega)))
    refine v_cv rfl rfl rfl rfl (by decide) ⟨⟨rfl, rfl⟩, by decide, rfl⟩ (Nat.le_of_ble_eq_true rfl) (Nat.le_of_ble_eq_true rfl) (H174 _ _ _ (by omega) (by omega) hI_19 hW_35 (by omega) (by omega) (by omega) (by omega) (by omega) (fun c_37 hI_38 hF_39 hW_40 h_41 h_42 h_43 h_44 h_45 => ?_))
    refine bk_inl ?_
    have h_46 := ir_41_4 hI_38
    have h_47 := ir_41_7 hI_38
    have h_48 := ir_41_29 hI_38
    have h_49 := ir_41_5 hI_38
    refine q_aload_n rfl rfl ?_
    refine v_bip rfl (by decide) ?_
    have kn_50 : Hid (c_37 41 3 = c 41 3) := (hF_39 41 3 (by omega)).trans (hid kn_28)
    have h_51 : c_37 41 3 = c 41 3 := (hid kn_50)
    refine v_cv rfl rfl rfl rfl (by decide) ⟨⟨rfl, rfl⟩, by decide, rfl⟩ (Nat.le_of_ble_eq_true rfl) (Nat.le_of_ble_eq_true rfl) (s_161 (a1 := 44) hI_38 (show 1 ≤ 44 ∧ 44 ≤ 255 from by omega) (fun c_52 hI_53 hF_54 h_55 h_56 h_57 h_58 => ?_))
    refine bk_inl ?_
    have h_59 := ir_41_4 hI_53
    have h_60 := ir_41_5 hI_53
    refine q_aload_n rfl rfl ?_
    by_cases h_61 : c_52 41 5 = -1
    · skip
      have kn_62 : Hid (c_52 41 3 = c 41 3) := (hF_54 41 3 (by omega)).trans (hid kn_50)
      have h_63 : c_52 41 3 = c 41 3 := (hid kn_62)
      have kn_64 : Hid (c_52 41 29 = c_37 41 29) := hF_54 41 29 (by omega)
      have h_65 : c_52 41 29 = c_37 41 29 := (hid kn_64)
      have kn_66 : Hid (c_52 41 7 = c_37 41 7) := hF_54 41 7 (by omega)
      have h_67 : c_52 41 7 = c_37 41 7 := (hid kn_66)
      obtain ⟨hW_68, hN_69⟩ : Nw c_52 ∧ Nh c_52 = Nh c_37 := nh_fr hW_40 (fun j => hF_54 50 j (by omega)) (fun j => hF_54 51 j (by omega)) (hF_54 41 29 (by omega))
      refine v_cv rfl rfl rfl rfl (by decide) ⟨⟨rfl, rfl⟩, by decide, rfl⟩ (Nat.le_of_ble_eq_true rfl) (Nat.le_of_ble_eq_true rfl) (H174 _ _ _ (by omega) (by omega) hI_53 hW_68 (by omega) (by omega) (by omega) (by omega) (by omega) (fun c_70 hI_71 hF_72 hW_73 h_74 h_75 h_76 h_77 h_78 => ?_))
      refine bk_inl ?_
      have h_79 := ir_41_4 hI_71
      have h_80 := ir_41_7 hI_71
      have h_81 := ir_41_29 hI_71
      have h_82 := ir_41_5 hI_71
      refine q_aload_n rfl rfl ?_
      refine v_bip rfl (by decide) ?_
      have kn_83 : Hid (c_70 41 3 = c 41 3) := (hF_72 41 3 (by omega)).trans (hid kn_62)
      have h_84 : c_70 41 3 = c 41 3 := (hid kn_83)
      refine v_cv rfl rfl rfl rfl (by decide) ⟨⟨rfl, rfl⟩, by decide, rfl⟩ (Nat.le_of_ble_eq_true rfl) (Nat.le_of_ble_eq_true rfl) (s_161 (a1 := 93) hI_71 (show 1 ≤ 93 ∧ 93 ≤ 255 from by omega) (fun c_85 hI_86 hF_87 h_88 h_89 h_90 h_91 => ?_))
      refine bk_inl ?_
      have h_92 := ir_41_4 hI_86
      have h_93 := ir_41_5 hI_86
      refine q_aload_n rfl rfl ?_
      refine q_dup rfl rfl ?_
      have kn_94 : Hid (c_85 41 7 = c_70 41 7) := hF_87 41 7 (by omega)
      refine v_gi (z := 7) (v := c_70 41 7) rfl rfl rfl (by decide) rfl rfl (hid kn_94) ?_
      refine q_iconst rfl ?_
      refine v_isub (v := c_70 41 7 - 1) rfl (by omega) ?_
      refine v_pi (z := 7) rfl rfl rfl (by decide) rfl rfl rfl (by decide) ?_
      refine q_aload_n rfl rfl ?_
      refine q_iload_n rfl rfl ?_
      refine q_iconst rfl ?_
      have hI_95 := iw_41_7 (v := c_70 41 7 - 1) hI_86 ⟨by omega, by omega⟩
      have kn_96 : Hid (c_85 41 29 = c_70 41 29) := hF_87 41 29 (by omega)
      have h_97 : (up c_85 41 7 (c_70 41 7 - 1)) 41 29 = c_70 41 29 := ((up_n (by decide)).trans (hid kn_96))
      have h_98 : (up c_85 41 7 (c_70 41 7 - 1)) 41 5 = c_85 41 5 := (up_n (by decide))
      obtain ⟨hW_99, hN_100⟩ : Nw (up c_85 41 7 (c_70 41 7 - 1)) ∧ Nh (up c_85 41 7 (c_70 41 7 - 1)) = Nh c_70 := nh_fr hW_73 (fun j => (up_c (by omega)).trans (hF_87 50 j (by omega))) (fun j => (up_c (by omega)).trans (hF_87 51 j (by omega))) ((up_n (by decide)).trans (hF_87 41 29 (by omega)))
      refine v_cv rfl rfl rfl rfl (by decide) ⟨⟨rfl, rfl⟩, by decide, rfl⟩ (Nat.le_of_ble_eq_true rfl) (Nat.le_of_ble_eq_true rfl) (s_170 (a1 := a2) (a2 := 0) hI_95 (show 0 ≤ a2 ∧ a2 ≤ 8 from by omega) (show 0 ≤ 0 ∧ 0 ≤ 999 from by omega) hW_99 (by omega) (by omega) (by omega) (fun c_101 hI_102 hF_103 hW_104 h_105 h_106 h_107 h_108 => ?_))
      refine bk_inl ?_
      have h_109 := ir_41_29 hI_102
      refine q_vret rfl rfl ?_
      have kn_110 : Hid (c_101 41 4 = c_85 41 4) := (hF_103 41 4 (by omega)).trans (up_n (by decide))
      have h_111 : c_101 41 4 = c_85 41 4 := (hid kn_110)
      have kn_112 : Hid (c_101 41 5 = c_85 41 5) := (hF_103 41 5 (by omega)).trans (up_n (by decide))
      have h_113 : c_101 41 5 = c_85 41 5 := (hid kn_112)
      have kn_114 : Hid (c_101 41 7 = c_70 41 7 - 1) := (hF_103 41 7 (by omega)).trans (up_e rfl)
      have h_115 : c_101 41 7 = c_70 41 7 - 1 := (hid kn_114)
      exact K c_101 hI_102 (fun a j hm => (hF_103 a j (by omega)).trans ((up_b (by omega)).trans ((hF_87 a j (by omega)).trans ((hF_72 a j (by omega)).trans ((hF_54 a j (by omega)).trans ((hF_39 a j (by omega)).trans ((hF_20 a j (by omega)).trans (hF_8 a j (by omega))))))))) hW_104 (by omega) (by omega) (by omega) (by omega) (by omega)
    · skip
      have h_116 : ¬ c_52 41 5 = -1 := by rw [show c_52 41 5 = c_52 41 5 from rfl]; omega
      refine v_cv rfl rfl rfl rfl (by decide) ⟨⟨rfl, rfl⟩, by decide, rfl⟩ (Nat.le_of_ble_eq_true rfl) (Nat.le_of_ble_eq_true rfl) (n_174 hI_53 (by omega) ?_)
      refine bk_inl ?_
      refine q_aload_n rfl rfl ?_
      refine v_bip rfl (by decide) ?_
      have kn_117 : Hid (c_52 41 3 = c 41 3) := (hF_54 41 3 (by omega)).trans (hid kn_50)
      have h_118 : c_52 41 3 = c 41 3 := (hid kn_117)
      refine v_cv rfl rfl rfl rfl (by decide) ⟨⟨rfl, rfl⟩, by decide, rfl⟩ (Nat.le_of_ble_eq_true rfl) (Nat.le_of_ble_eq_true rfl) (s_161 (a1 := 93) hI_53 (show 1 ≤ 93 ∧ 93 ≤ 255 from by omega) (fun c_119 hI_120 hF_121 h_122 h_123 h_124 h_125 => ?_))
      refine bk_inl ?_
      have h_126 := ir_41_4 hI_120
      have h_127 := ir_41_5 hI_120
      refine q_aload_n rfl rfl ?_
      refine q_dup rfl rfl ?_
      have kn_128 : Hid (c_52 41 7 = c_37 41 7) := hF_54 41 7 (by omega)
      have kn_129 : Hid (c_119 41 7 = c_37 41 7) := (hF_121 41 7 (by omega)).trans (hid kn_128)
      refine v_gi (z := 7) (v := c_37 41 7) rfl rfl rfl (by decide) rfl rfl (hid kn_129) ?_
      refine q_iconst rfl ?_
      refine v_isub (v := c_37 41 7 - 1) rfl (by omega) ?_
      refine v_pi (z := 7) rfl rfl rfl (by decide) rfl rfl rfl (by decide) ?_
      refine q_aload_n rfl rfl ?_
      refine q_iload_n rfl rfl ?_
      refine q_iconst rfl ?_
      have hI_130 := iw_41_7 (v := c_37 41 7 - 1) hI_120 ⟨by omega, by omega⟩
      have kn_131 : Hid (c_52 41 29 = c_37 41 29) := hF_54 41 29 (by omega)
      have kn_132 : Hid (c_119 41 29 = c_37 41 29) := (hF_121 41 29 (by omega)).trans (hid kn_131)
      have h_133 : (up c_119 41 7 (c_37 41 7 - 1)) 41 29 = c_37 41 29 := ((up_n (by decide)).trans (hid kn_132))
      have h_134 : (up c_119 41 7 (c_37 41 7 - 1)) 41 5 = c_119 41 5 := (up_n (by decide))
      obtain ⟨hW_135, hN_136⟩ : Nw (up c_119 41 7 (c_37 41 7 - 1)) ∧ Nh (up c_119 41 7 (c_37 41 7 - 1)) = Nh c_37 := nh_fr hW_40 (fun j => (up_c (by omega)).trans ((hF_121 50 j (by omega)).trans (hF_54 50 j (by omega)))) (fun j => (up_c (by omega)).trans ((hF_121 51 j (by omega)).trans (hF_54 51 j (by omega)))) ((up_n (by decide)).trans ((hF_121 41 29 (by omega)).trans (hF_54 41 29 (by omega))))
      refine v_cv rfl rfl rfl rfl (by decide) ⟨⟨rfl, rfl⟩, by decide, rfl⟩ (Nat.le_of_ble_eq_true rfl) (Nat.le_of_ble_eq_true rfl) (s_170 (a1 := a2) (a2 := 0) hI_130 (show 0 ≤ a2 ∧ a2 ≤ 8 from by omega) (show 0 ≤ 0 ∧ 0 ≤ 999 from by omega) hW_135 (by omega) (by omega) (by omega) (fun c_137 hI_138 hF_139 hW_140 h_141 h_142 h_143 h_144 => ?_))
      refine bk_inl ?_
      have h_145 := ir_41_29 hI_138
      refine q_vret rfl rfl ?_
      have kn_146 : Hid (c_137 41 4 = c_119 41 4) := (hF_139 41 4 (by omega)).trans (up_n (by decide))
      have h_147 : c_137 41 4 = c_119 41 4 := (hid kn_146)
      have kn_148 : Hid (c_137 41 5 = c_119 41 5) := (hF_139 41 5 (by omega)).trans (up_n (by decide))
      have h_149 : c_137 41 5 = c_119 41 5 := (hid kn_148)
      have kn_150 : Hid (c_137 41 7 = c_37 41 7 - 1) := (hF_139 41 7 (by omega)).trans (up_e rfl)
      have h_151 : c_137 41 7 = c_37 41 7 - 1 := (hid kn_150)
      exact K c_137 hI_138 (fun a j hm => (hF_139 a j (by omega)).trans ((up_b (by omega)).trans ((hF_121 a j (by omega)).trans ((hF_54 a j (by omega)).trans ((hF_39 a j (by omega)).trans ((hF_20 a j (by omega)).trans (hF_8 a j (by omega)))))))) hW_140 (by omega) (by omega) (by omega) (by omega) (by omega)
  · skip
    have h_152 : ¬ c_18 41 5 = -1 := by rw [show c_18 41 5 = c_18 41 5 from rfl]; omega
    refine v_cv rfl rfl rfl rfl (by decide) ⟨⟨rfl, rfl⟩, by decide, rfl⟩ (Nat.le_of_ble_eq_true rfl) (Nat.le_of_ble_eq_true rfl) (n_174 hI_19 (by omega) ?_)
    refine bk_inl ?_
    refine q_aload_n rfl rfl ?_
    refine v_bip rfl (by decide) ?_
    have kn_153 : Hid (c_18 41 3 = c 41 3) := (hF_20 41 3 (by omega)).trans (hid kn_16)
    have h_154 : c_18 41 3 = c 41 3 := (hid kn_153)
    refine v_cv rfl rfl rfl rfl (by decide) ⟨⟨rfl, rfl⟩, by decide, rfl⟩ (Nat.le_of_ble_eq_true rfl) (Nat.le_of_ble_eq_true rfl) (s_161 (a1 := 44) hI_19 (show 1 ≤ 44 ∧ 44 ≤ 255 from by omega) (fun c_155 hI_156 hF_157 h_158 h_159 h_160 h_161 => ?_))
    refine bk_inl ?_
    have h_162 := ir_41_4 hI_156
    have h_163 := ir_41_5 hI_156
    refine q_aload_n rfl rfl ?_
    have h_164 : ¬ c_155 41 5 = -1 := by rw [show c_155 41 5 = c_155 41 5 from rfl]; omega
    refine v_cv rfl rfl rfl rfl (by decide) ⟨⟨rfl, rfl⟩, by decide, rfl⟩ (Nat.le_of_ble_eq_true rfl) (Nat.le_of_ble_eq_true rfl) (n_174 hI_156 (by omega) ?_)
    refine bk_inl ?_
    refine q_aload_n rfl rfl ?_
    refine v_bip rfl (by decide) ?_
    have kn_165 : Hid (c_155 41 3 = c 41 3) := (hF_157 41 3 (by omega)).trans (hid kn_153)
    have h_166 : c_155 41 3 = c 41 3 := (hid kn_165)
    refine v_cv rfl rfl rfl rfl (by decide) ⟨⟨rfl, rfl⟩, by decide, rfl⟩ (Nat.le_of_ble_eq_true rfl) (Nat.le_of_ble_eq_true rfl) (s_161 (a1 := 93) hI_156 (show 1 ≤ 93 ∧ 93 ≤ 255 from by omega) (fun c_167 hI_168 hF_169 h_170 h_171 h_172 h_173 => ?_))
    refine bk_inl ?_
    have h_174 := ir_41_4 hI_168
    have h_175 := ir_41_5 hI_168
    refine q_aload_n rfl rfl ?_
    refine q_dup rfl rfl ?_
    have kn_176 : Hid (c_18 41 7 = c_6 41 7) := hF_20 41 7 (by omega)
    have kn_177 : Hid (c_155 41 7 = c_6 41 7) := (hF_157 41 7 (by omega)).trans (hid kn_176)
    have kn_178 : Hid (c_167 41 7 = c_6 41 7) := (hF_169 41 7 (by omega)).trans (hid kn_177)
    refine v_gi (z := 7) (v := c_6 41 7) rfl rfl rfl (by decide) rfl rfl (hid kn_178) ?_
    refine q_iconst rfl ?_
    refine v_isub (v := c_6 41 7 - 1) rfl (by omega) ?_
    refine v_pi (z := 7) rfl rfl rfl (by decide) rfl rfl rfl (by decide) ?_
    refine q_aload_n rfl rfl ?_
    refine q_iload_n rfl rfl ?_
    refine q_iconst rfl ?_
    have hI_179 := iw_41_7 (v := c_6 41 7 - 1) hI_168 ⟨by omega, by omega⟩
    have kn_180 : Hid (c_6 41 29 = c 41 29) := hF_8 41 29 (by omega)
    have kn_181 : Hid (c_18 41 29 = c 41 29) := (hF_20 41 29 (by omega)).trans (hid kn_180)
    have kn_182 : Hid (c_155 41 29 = c 41 29) := (hF_157 41 29 (by omega)).trans (hid kn_181)
    have kn_183 : Hid (c_167 41 29 = c 41 29) := (hF_169 41 29 (by omega)).trans (hid kn_182)
    have h_184 : (up c_167 41 7 (c_6 41 7 - 1)) 41 29 = c 41 29 := ((up_n (by decide)).trans (hid kn_183))
    have h_185 : (up c_167 41 7 (c_6 41 7 - 1)) 41 5 = c_167 41 5 := (up_n (by decide))
    obtain ⟨hW_186, hN_187⟩ : Nw (up c_167 41 7 (c_6 41 7 - 1)) ∧ Nh (up c_167 41 7 (c_6 41 7 - 1)) = Nh c := nh_fr hW (fun j => (up_c (by omega)).trans ((hF_169 50 j (by omega)).trans ((hF_157 50 j (by omega)).trans ((hF_20 50 j (by omega)).trans (hF_8 50 j (by omega)))))) (fun j => (up_c (by omega)).trans ((hF_169 51 j (by omega)).trans ((hF_157 51 j (by omega)).trans ((hF_20 51 j (by omega)).trans (hF_8 51 j (by omega)))))) ((up_n (by decide)).trans ((hF_169 41 29 (by omega)).trans ((hF_157 41 29 (by omega)).trans ((hF_20 41 29 (by omega)).trans (hF_8 41 29 (by omega))))))
    refine v_cv rfl rfl rfl rfl (by decide) ⟨⟨rfl, rfl⟩, by decide, rfl⟩ (Nat.le_of_ble_eq_true rfl) (Nat.le_of_ble_eq_true rfl) (s_170 (a1 := a2) (a2 := 0) hI_179 (show 0 ≤ a2 ∧ a2 ≤ 8 from by omega) (show 0 ≤ 0 ∧ 0 ≤ 999 from by omega) hW_186 (by omega) (by omega) (by omega) (fun c_188 hI_189 hF_190 hW_191 h_192 h_193 h_194 h_195 => ?_))
    refine bk_inl ?_
    have h_196 := ir_41_29 hI_189
    refine q_vret rfl rfl ?_
    have kn_197 : Hid (c_188 41 4 = c_167 41 4) := (hF_190 41 4 (by omega)).trans (up_n (by decide))
    have h_198 : c_188 41 4 = c_167 41 4 := (hid kn_197)
    have kn_199 : Hid (c_188 41 5 = c_167 41 5) := (hF_190 41 5 (by omega)).trans (up_n (by decide))
    have h_200 : c_188 41 5 = c_167 41 5 := (hid kn_199)
    have kn_201 : Hid (c_188 41 7 = c_6 41 7 - 1) := (hF_190 41 7 (by omega)).trans (up_e rfl)
    have h_202 : c_188 41 7 = c_6 41 7 - 1 := (hid kn_201)
    exact K c_188 hI_189 (fun a j hm => (hF_190 a j (by omega)).trans ((up_b (by omega)).trans ((hF_169 a j (by omega)).trans ((hF_157 a j (by omega)).trans ((hF_20 a j (by omega)).trans (hF_8 a j (by omega))))))) hW_191 (by omega) (by omega) (by omega) (by omega) (by omega)

set_option maxRecDepth 100000 in
set_option maxHeartbeats 4000000 in
theorem s_176 {sc : List Int32} {e : Int} {d u P Q : Nat} {c : ME} {o : Int} {Z : AR → Prop} (hI : Iv u e P Q c) (ho : 0 ≤ o ∧ o ≤ 6) (hW : Nw c) (hq0 : (c 41 5 = (-1))) (hq1 : (c 41 4 ≤ c 41 3)) (hq2 : (c 41 3 ≤ 150)) (hq3 : (c 41 29 ≤ c 41 4)) (hq4 : (c 41 7 = o)) (H174 : ∀ (d9 : Nat) (c : ME) (Z : AR → Prop), d ≤ d9 → o + 1 ≤ 6 → Iv u e P Q c → Nw c → ((c 41 5 = (-1))) → ((c 41 4 ≤ c 41 3)) → ((c 41 3 ≤ 150)) → ((c 41 29 ≤ c 41 4)) → (c 41 7 = o + 1) → (∀ c2 : ME, Iv u e P Q c2 → (∀ (a : Nat) (j : Int), ¬ ((a = 41 ∧ j = 4) ∨ (a = 41 ∧ j = 5) ∨ (a = 41 ∧ j = 6) ∨ (a = 41 ∧ j = 7) ∨ (a = 41 ∧ j = 29) ∨ a = 50 ∨ a = 51) → c2 a j = c a j) → Nw c2 → ((c2 41 4 ≥ c 41 4)) → ((c2 41 7 = c 41 7)) → ((c 41 4 + c2 41 29 ≤ c 41 29 + c2 41 4)) → ((c2 41 5 < (-1)) ∨ (c2 41 5 > (-1)) ∨ (c2 41 4 ≤ c 41 3)) → ((c2 41 5 < (-1)) ∨ (c2 41 5 > (-1)) ∨ (Nh c2 = Nh c + 1)) → Z (.inl none, Wd P Q P P c2, 0, 0)) → Wp sc (d9 + 12) 174 0 [(0, .ref 41)] [] (Wd P Q P P c) 0 0 Z) (K : ∀ (c2 : ME), Iv u e P Q c2 → (∀ (a : Nat) (j : Int), ¬ ((a = 41 ∧ j = 4) ∨ (a = 41 ∧ j = 5) ∨ (a = 41 ∧ j = 6) ∨ (a = 41 ∧ j = 7) ∨ (a = 41 ∧ j = 29) ∨ a = 50 ∨ a = 51) → c2 a j = c a j) → Nw c2 → ((c2 41 4 ≥ c 41 4)) → ((c2 41 7 = c 41 7)) → ((c 41 4 + c2 41 29 ≤ c 41 29 + c2 41 4)) → ((c2 41 5 < (-1)) ∨ (c2 41 5 > (-1)) ∨ (c2 41 4 ≤ c 41 3)) → ((c2 41 5 < (-1)) ∨ (c2 41 5 > (-1)) ∨ (Nh c2 = Nh c + 1)) → Z (.inl (none), Wd P Q P P c2, 0, 0)) : Wp sc (d + 14) 176 0 [(0, .ref 41)] [] (Wd P Q P P c) 0 0 Z := by
  have hP := iv_P hI
  have hQ := iv_Q hI
  have h_1 := ir_41_5 hI
  have h_2 := ir_41_3 hI
  have h_3 := ir_41_4 hI
  have h_4 := ir_41_29 hI
  have h_5 := ir_41_7 hI
  refine q_aload_n rfl rfl ?_
  refine v_cv rfl rfl rfl rfl (by decide) ⟨⟨rfl, rfl⟩, by decide, rfl⟩ (Nat.le_of_ble_eq_true rfl) (Nat.le_of_ble_eq_true rfl) ?_
  refine q_aload_n rfl rfl ?_
  refine v_gi (z := 5) (v := c 41 5) rfl rfl rfl (by decide) rfl rfl rfl ?_
  refine q_iconst rfl ?_
  refine v_ic_ne_f (t := 12) rfl (by decide) (by omega) ?_
  refine q_iconst rfl ?_
  refine q_goto (t := 13) rfl (by decide) ?_
  refine v_zret rfl rfl (by omega) ?_
  refine bk_inl ?_
  refine v_if_ne_t (t := 8) rfl (by decide) (by decide) ?_
  refine q_aload_n rfl rfl ?_
  refine v_cv rfl rfl rfl rfl (by decide) ⟨⟨rfl, rfl⟩, by decide, rfl⟩ (Nat.le_of_ble_eq_true rfl) (Nat.le_of_ble_eq_true rfl) (s_154 hI (fun c_6 y_9 hI_7 hF_8 hy_9 h_10 h_11 h_12 h_13 => ?_))
  refine bk_inl ?_
  have h_14 := ir_41_4 hI_7
  have h_15 := ir_43 hI (c_6 41 4)
  refine v_bip rfl (by decide) ?_
  by_cases h_16 : y_9 ≠ 40
  · refine v_ic_ne_t (t := 45) rfl (by decide) (by omega) ?_
    refine q_aload_n rfl rfl ?_
    have kn_17 : Hid (c_6 41 3 = c 41 3) := hF_8 41 3 (by omega)
    have h_18 : c_6 41 3 = c 41 3 := (hid kn_17)
    refine v_cv rfl rfl rfl rfl (by decide) ⟨⟨rfl, rfl⟩, by decide, rfl⟩ (Nat.le_of_ble_eq_true rfl) (Nat.le_of_ble_eq_true rfl) (s_154 hI_7 (fun c_19 y_22 hI_20 hF_21 hy_22 h_23 h_24 h_25 h_26 => ?_))
    refine bk_inl ?_
    have h_27 := ir_41_4 hI_20
    have h_28 := ir_43 hI (c_19 41 4)
    have kn_29 : Hid (c_6 43 (c_19 41 4) = c 43 (c_19 41 4)) := hF_8 43 (c_19 41 4) (by omega)
    have h_30 : c_6 43 (c_19 41 4) = c 43 (c_19 41 4) := (hid kn_29)
    refine q_call rfl rfl rfl rfl ?_
    refine q_iload_n rfl rfl ?_
    refine v_bip rfl (by decide) ?_
    by_cases h_31 : y_22 < 48
    · refine v_ic_lt_t (t := 16) rfl (by decide) (by omega) ?_
      refine q_iconst rfl ?_
      refine v_zret rfl rfl (by omega) ?_
      refine bk_inl ?_
      refine v_if_eq_t (t := 71) rfl (by decide) (by decide) ?_
      refine q_aload_n rfl rfl ?_
      have kn_32 : Hid (c_19 41 3 = c 41 3) := (hF_21 41 3 (by omega)).trans (hid kn_17)
      have h_33 : c_19 41 3 = c 41 3 := (hid kn_32)
      refine v_cv rfl rfl rfl rfl (by decide) ⟨⟨rfl, rfl⟩, by decide, rfl⟩ (Nat.le_of_ble_eq_true rfl) (Nat.le_of_ble_eq_true rfl) (s_157 hI_20 (fun c_34 y_37 hI_35 hF_36 hy_37 h_38 h_39 h_40 h_41 h_42 => ?_))
      refine bk_inl ?_
      have h_43 := ir_41_4 hI_35
      have h_44 := ir_43 hI (c_34 41 4)
      have kn_45 : Hid (c_6 43 (c_34 41 4) = c 43 (c_34 41 4)) := hF_8 43 (c_34 41 4) (by omega)
      have kn_46 : Hid (c_19 43 (c_34 41 4) = c 43 (c_34 41 4)) := (hF_21 43 (c_34 41 4) (by omega)).trans (hid kn_45)
      have h_47 : c_19 43 (c_34 41 4) = c 43 (c_34 41 4) := (hid kn_46)
      have h_48 := ir_43 hI (c_34 41 4 + 1)
      have kn_49 : Hid (c_6 43 (c_34 41 4 + 1) = c 43 (c_34 41 4 + 1)) := hF_8 43 (c_34 41 4 + 1) (by omega)
      have kn_50 : Hid (c_19 43 (c_34 41 4 + 1) = c 43 (c_34 41 4 + 1)) := (hF_21 43 (c_34 41 4 + 1) (by omega)).trans (hid kn_49)
      have h_51 : c_19 43 (c_34 41 4 + 1) = c 43 (c_34 41 4 + 1) := (hid kn_50)
      have h_52 := ir_43 hI (c_34 41 4 + 2)
      have kn_53 : Hid (c_6 43 (c_34 41 4 + 2) = c 43 (c_34 41 4 + 2)) := hF_8 43 (c_34 41 4 + 2) (by omega)
      have kn_54 : Hid (c_19 43 (c_34 41 4 + 2) = c 43 (c_34 41 4 + 2)) := (hF_21 43 (c_34 41 4 + 2) (by omega)).trans (hid kn_53)
      have h_55 : c_19 43 (c_34 41 4 + 2) = c 43 (c_34 41 4 + 2) := (hid kn_54)
      refine q_ldc_w_s rfl rfl rfl (by decide) ?_
      refine q_call rfl rfl rfl rfl (s_158_20 ?_)
      refine bk_inl ?_
      by_cases h_56 : y_37 ≠ 12748404
      · refine v_ic_ne_t (t := 94) rfl (by decide) (by omega) ?_
        refine q_aload_n rfl rfl ?_
        have kn_57 : Hid (c_34 41 3 = c 41 3) := (hF_36 41 3 (by omega)).trans (hid kn_32)
        have h_58 : c_34 41 3 = c 41 3 := (hid kn_57)
        refine v_cv rfl rfl rfl rfl (by decide) ⟨⟨rfl, rfl⟩, by decide, rfl⟩ (Nat.le_of_ble_eq_true rfl) (Nat.le_of_ble_eq_true rfl) (s_157 hI_35 (fun c_59 y_62 hI_60 hF_61 hy_62 h_63 h_64 h_65 h_66 h_67 => ?_))
        refine bk_inl ?_
        have h_68 := ir_41_4 hI_60
        have h_69 := ir_43 hI (c_59 41 4)
        have kn_70 : Hid (c_6 43 (c_59 41 4) = c 43 (c_59 41 4)) := hF_8 43 (c_59 41 4) (by omega)
        have kn_71 : Hid (c_19 43 (c_59 41 4) = c 43 (c_59 41 4)) := (hF_21 43 (c_59 41 4) (by omega)).trans (hid kn_70)
        have kn_72 : Hid (c_34 43 (c_59 41 4) = c 43 (c_59 41 4)) := (hF_36 43 (c_59 41 4) (by omega)).trans (hid kn_71)
        have h_73 : c_34 43 (c_59 41 4) = c 43 (c_59 41 4) := (hid kn_72)
        have h_74 := ir_43 hI (c_59 41 4 + 1)
        have kn_75 : Hid (c_6 43 (c_59 41 4 + 1) = c 43 (c_59 41 4 + 1)) := hF_8 43 (c_59 41 4 + 1) (by omega)
        have kn_76 : Hid (c_19 43 (c_59 41 4 + 1) = c 43 (c_59 41 4 + 1)) := (hF_21 43 (c_59 41 4 + 1) (by omega)).trans (hid kn_75)
        have kn_77 : Hid (c_34 43 (c_59 41 4 + 1) = c 43 (c_59 41 4 + 1)) := (hF_36 43 (c_59 41 4 + 1) (by omega)).trans (hid kn_76)
        have h_78 : c_34 43 (c_59 41 4 + 1) = c 43 (c_59 41 4 + 1) := (hid kn_77)
        have h_79 := ir_43 hI (c_59 41 4 + 2)
        have kn_80 : Hid (c_6 43 (c_59 41 4 + 2) = c 43 (c_59 41 4 + 2)) := hF_8 43 (c_59 41 4 + 2) (by omega)
        have kn_81 : Hid (c_19 43 (c_59 41 4 + 2) = c 43 (c_59 41 4 + 2)) := (hF_21 43 (c_59 41 4 + 2) (by omega)).trans (hid kn_80)
        have kn_82 : Hid (c_34 43 (c_59 41 4 + 2) = c 43 (c_59 41 4 + 2)) := (hF_36 43 (c_59 41 4 + 2) (by omega)).trans (hid kn_81)
        have h_83 : c_34 43 (c_59 41 4 + 2) = c 43 (c_59 41 4 + 2) := (hid kn_82)
        refine q_ldc_w_s rfl rfl rfl (by decide) ?_
        refine q_call rfl rfl rfl rfl (s_158_21 ?_)
        refine bk_inl ?_
        by_cases h_84 : y_62 ≠ 441972
        · refine v_ic_ne_t (t := 117) rfl (by decide) (by omega) ?_
          refine q_aload_n rfl rfl ?_
          have kn_85 : Hid (c_59 41 3 = c 41 3) := (hF_61 41 3 (by omega)).trans (hid kn_57)
          have h_86 : c_59 41 3 = c 41 3 := (hid kn_85)
          refine v_cv rfl rfl rfl rfl (by decide) ⟨⟨rfl, rfl⟩, by decide, rfl⟩ (Nat.le_of_ble_eq_true rfl) (Nat.le_of_ble_eq_true rfl) (s_172 hI_60 (fun c_87 y_90 hI_88 hF_89 hy_90 h_91 h_92 h_93 h_94 => ?_))
          refine bk_inl ?_
          have h_95 := ir_41_4 hI_88
          have h_96 := ir_43 hI (c_87 41 4)
          have kn_97 : Hid (c_6 43 (c_87 41 4) = c 43 (c_87 41 4)) := hF_8 43 (c_87 41 4) (by omega)
          have kn_98 : Hid (c_19 43 (c_87 41 4) = c 43 (c_87 41 4)) := (hF_21 43 (c_87 41 4) (by omega)).trans (hid kn_97)
          have kn_99 : Hid (c_34 43 (c_87 41 4) = c 43 (c_87 41 4)) := (hF_36 43 (c_87 41 4) (by omega)).trans (hid kn_98)
          have kn_100 : Hid (c_59 43 (c_87 41 4) = c 43 (c_87 41 4)) := (hF_61 43 (c_87 41 4) (by omega)).trans (hid kn_99)
          have h_101 : c_59 43 (c_87 41 4) = c 43 (c_87 41 4) := (hid kn_100)
          refine q_istore_n rfl (by decide) ?_
          refine q_iload_n rfl rfl ?_
          refine q_iconst rfl ?_
          by_cases h_102 : y_90 ≠ (-1)
          · refine v_ic_ne_t (t := 136) rfl (by decide) (by omega) ?_
            refine q_aload_n rfl rfl ?_
            refine v_cv rfl rfl rfl rfl (by decide) ⟨⟨rfl, rfl⟩, by decide, rfl⟩ (Nat.le_of_ble_eq_true rfl) (Nat.le_of_ble_eq_true rfl) ?_
            refine q_aload_n rfl rfl ?_
            have kn_103 : Hid (c_6 41 5 = c 41 5) := hF_8 41 5 (by omega)
            have kn_104 : Hid (c_19 41 5 = c 41 5) := (hF_21 41 5 (by omega)).trans (hid kn_103)
            have kn_105 : Hid (c_34 41 5 = c 41 5) := (hF_36 41 5 (by omega)).trans (hid kn_104)
            have kn_106 : Hid (c_59 41 5 = c 41 5) := (hF_61 41 5 (by omega)).trans (hid kn_105)
            have kn_107 : Hid (c_87 41 5 = c 41 5) := (hF_89 41 5 (by omega)).trans (hid kn_106)
            refine v_gi (z := 5) (v := c 41 5) rfl rfl rfl (by decide) rfl rfl (hid kn_107) ?_
            refine q_iconst rfl ?_
            refine v_ic_ne_f (t := 12) rfl (by decide) (by omega) ?_
            refine q_iconst rfl ?_
            refine q_goto (t := 13) rfl (by decide) ?_
            refine v_zret rfl rfl (by omega) ?_
            refine bk_inl ?_
            refine v_if_ne_t (t := 144) rfl (by decide) (by decide) ?_
            refine q_aload_n rfl rfl ?_
            have kn_108 : Hid (c_87 41 3 = c 41 3) := (hF_89 41 3 (by omega)).trans (hid kn_85)
            have h_109 : c_87 41 3 = c 41 3 := (hid kn_108)
            have kn_110 : Hid (c_87 43 (c_87 41 4) = c 43 (c_87 41 4)) := (hF_89 43 (c_87 41 4) (by omega)).trans (hid kn_100)
            have h_111 : c_87 43 (c_87 41 4) = c 43 (c_87 41 4) := (hid kn_110)
            have h_112 := ir_43 hI (c_87 41 4 + 1)
            have kn_113 : Hid (c_6 43 (c_87 41 4 + 1) = c 43 (c_87 41 4 + 1)) := hF_8 43 (c_87 41 4 + 1) (by omega)
            have kn_114 : Hid (c_19 43 (c_87 41 4 + 1) = c 43 (c_87 41 4 + 1)) := (hF_21 43 (c_87 41 4 + 1) (by omega)).trans (hid kn_113)
            have kn_115 : Hid (c_34 43 (c_87 41 4 + 1) = c 43 (c_87 41 4 + 1)) := (hF_36 43 (c_87 41 4 + 1) (by omega)).trans (hid kn_114)
            have kn_116 : Hid (c_59 43 (c_87 41 4 + 1) = c 43 (c_87 41 4 + 1)) := (hF_61 43 (c_87 41 4 + 1) (by omega)).trans (hid kn_115)
            have kn_117 : Hid (c_87 43 (c_87 41 4 + 1) = c 43 (c_87 41 4 + 1)) := (hF_89 43 (c_87 41 4 + 1) (by omega)).trans (hid kn_116)
            have h_118 : c_87 43 (c_87 41 4 + 1) = c 43 (c_87 41 4 + 1) := (hid kn_117)
            have h_119 := ir_43 hI (c_87 41 4 + 2)
            have kn_120 : Hid (c_6 43 (c_87 41 4 + 2) = c 43 (c_87 41 4 + 2)) := hF_8 43 (c_87 41 4 + 2) (by omega)
            have kn_121 : Hid (c_19 43 (c_87 41 4 + 2) = c 43 (c_87 41 4 + 2)) := (hF_21 43 (c_87 41 4 + 2) (by omega)).trans (hid kn_120)
            have kn_122 : Hid (c_34 43 (c_87 41 4 + 2) = c 43 (c_87 41 4 + 2)) := (hF_36 43 (c_87 41 4 + 2) (by omega)).trans (hid kn_121)
            have kn_123 : Hid (c_59 43 (c_87 41 4 + 2) = c 43 (c_87 41 4 + 2)) := (hF_61 43 (c_87 41 4 + 2) (by omega)).trans (hid kn_122)
            have kn_124 : Hid (c_87 43 (c_87 41 4 + 2) = c 43 (c_87 41 4 + 2)) := (hF_89 43 (c_87 41 4 + 2) (by omega)).trans (hid kn_123)
            have h_125 : c_87 43 (c_87 41 4 + 2) = c 43 (c_87 41 4 + 2) := (hid kn_124)
            refine v_cv rfl rfl rfl rfl (by decide) ⟨⟨rfl, rfl⟩, by decide, rfl⟩ (Nat.le_of_ble_eq_true rfl) (Nat.le_of_ble_eq_true rfl) (s_159 hI_88 (fun c_126 hI_127 hF_128 h_129 h_130 h_131 h_132 => ?_))
            refine bk_inl ?_
            have h_133 := ir_41_4 hI_127
            refine q_aload_n rfl rfl ?_
            refine q_iconst rfl ?_
            refine q_iload_n rfl rfl ?_
            have kn_134 : Hid (c_6 41 29 = c 41 29) := hF_8 41 29 (by omega)
            have kn_135 : Hid (c_19 41 29 = c 41 29) := (hF_21 41 29 (by omega)).trans (hid kn_134)
            have kn_136 : Hid (c_34 41 29 = c 41 29) := (hF_36 41 29 (by omega)).trans (hid kn_135)
            have kn_137 : Hid (c_59 41 29 = c 41 29) := (hF_61 41 29 (by omega)).trans (hid kn_136)
            have kn_138 : Hid (c_87 41 29 = c 41 29) := (hF_89 41 29 (by omega)).trans (hid kn_137)
            have kn_139 : Hid (c_126 41 29 = c 41 29) := (hF_128 41 29 (by omega)).trans (hid kn_138)
            have h_140 : c_126 41 29 = c 41 29 := (hid kn_139)
            have kn_141 : Hid (c_126 41 5 = c 41 5) := (hF_128 41 5 (by omega)).trans (hid kn_107)
            have h_142 : c_126 41 5 = c 41 5 := (hid kn_141)
            obtain ⟨hW_143, hN_144⟩ : Nw c_126 ∧ Nh c_126 = Nh c := nh_fr hW (fun j => (hF_128 50 j (by omega)).trans ((hF_89 50 j (by omega)).trans ((hF_61 50 j (by omega)).trans ((hF_36 50 j (by omega)).trans ((hF_21 50 j (by omega)).trans (hF_8 50 j (by omega))))))) (fun j => (hF_128 51 j (by omega)).trans ((hF_89 51 j (by omega)).trans ((hF_61 51 j (by omega)).trans ((hF_36 51 j (by omega)).trans ((hF_21 51 j (by omega)).trans (hF_8 51 j (by omega))))))) ((hF_128 41 29 (by omega)).trans ((hF_89 41 29 (by omega)).trans ((hF_61 41 29 (by omega)).trans ((hF_36 41 29 (by omega)).trans ((hF_21 41 29 (by omega)).trans (hF_8 41 29 (by omega)))))))
            refine v_cv rfl rfl rfl rfl (by decide) ⟨⟨rfl, rfl⟩, by decide, rfl⟩ (Nat.le_of_ble_eq_true rfl) (Nat.le_of_ble_eq_true rfl) (s_170 (a1 := 1) (a2 := y_90) hI_127 (show 0 ≤ 1 ∧ 1 ≤ 8 from by omega) (show 0 ≤ y_90 ∧ y_90 ≤ 999 from by omega) hW_143 (by omega) (by omega) (by omega) (fun c_145 hI_146 hF_147 hW_148 h_149 h_150 h_151 h_152 => ?_))
            refine bk_inl ?_
            have h_153 := ir_41_29 hI_146
            refine q_vret rfl rfl ?_
            have kn_154 : Hid (c_145 41 4 = c_126 41 4) := hF_147 41 4 (by omega)
            have h_155 : c_145 41 4 = c_126 41 4 := (hid kn_154)
            have kn_156 : Hid (c_145 41 5 = c 41 5) := (hF_147 41 5 (by omega)).trans (hid kn_141)
            have h_157 : c_145 41 5 = c 41 5 := (hid kn_156)
            have kn_158 : Hid (c_6 41 7 = c 41 7) := hF_8 41 7 (by omega)
            have kn_159 : Hid (c_19 41 7 = c 41 7) := (hF_21 41 7 (by omega)).trans (hid kn_158)
            have kn_160 : Hid (c_34 41 7 = c 41 7) := (hF_36 41 7 (by omega)).trans (hid kn_159)
            have kn_161 : Hid (c_59 41 7 = c 41 7) := (hF_61 41 7 (by omega)).trans (hid kn_160)
            have kn_162 : Hid (c_87 41 7 = c 41 7) := (hF_89 41 7 (by omega)).trans (hid kn_161)
            have kn_163 : Hid (c_126 41 7 = c 41 7) := (hF_128 41 7 (by omega)).trans (hid kn_162)
            have kn_164 : Hid (c_145 41 7 = c 41 7) := (hF_147 41 7 (by omega)).trans (hid kn_163)
            have h_165 : c_145 41 7 = c 41 7 := (hid kn_164)
            exact K c_145 hI_146 (fun a j hm => (hF_147 a j (by omega)).trans ((hF_128 a j (by omega)).trans ((hF_89 a j (by omega)).trans ((hF_61 a j (by omega)).trans ((hF_36 a j (by omega)).trans ((hF_21 a j (by omega)).trans (hF_8 a j (by omega)))))))) hW_148 (by omega) (by omega) (by omega) (by omega) (by omega)
          · refine v_ic_ne_f (t := 136) rfl (by decide) (by omega) ?_
            refine q_aload_n rfl rfl ?_
            refine q_iconst rfl ?_
            refine q_aload_n rfl rfl ?_
            refine v_gi (z := 4) (v := c_87 41 4) rfl rfl rfl (by decide) rfl rfl rfl ?_
            refine v_cv rfl rfl rfl rfl (by decide) ⟨⟨rfl, rfl⟩, by decide, rfl⟩ (Nat.le_of_ble_eq_true rfl) (Nat.le_of_ble_eq_true rfl) (s_153 (a1 := 1) (a2 := c_87 41 4) hI_88 (show 1 ≤ 1 ∧ 1 ≤ 3 from by omega) (show 0 ≤ c_87 41 4 ∧ c_87 41 4 ≤ 605 from by omega) (fun c_166 hI_167 hF_168 h_169 => ?_))
            refine bk_inl ?_
            have h_170 := ir_41_5 hI_167
            refine q_aload_n rfl rfl ?_
            refine v_cv rfl rfl rfl rfl (by decide) ⟨⟨rfl, rfl⟩, by decide, rfl⟩ (Nat.le_of_ble_eq_true rfl) (Nat.le_of_ble_eq_true rfl) ?_
            refine q_aload_n rfl rfl ?_
            refine v_gi (z := 5) (v := c_166 41 5) rfl rfl rfl (by decide) rfl rfl rfl ?_
            refine q_iconst rfl ?_
            refine v_ic_ne_t (t := 12) rfl (by decide) (by omega) ?_
            refine q_iconst rfl ?_
            refine v_zret rfl rfl (by omega) ?_
            refine bk_inl ?_
            refine v_if_ne_f (t := 144) rfl (by decide) (by decide) ?_
            refine q_vret rfl rfl ?_
            obtain ⟨hW_171, hN_172⟩ : Nw c_166 ∧ Nh c_166 = Nh c := nh_fr hW (fun j => (hF_168 50 j (by omega)).trans ((hF_89 50 j (by omega)).trans ((hF_61 50 j (by omega)).trans ((hF_36 50 j (by omega)).trans ((hF_21 50 j (by omega)).trans (hF_8 50 j (by omega))))))) (fun j => (hF_168 51 j (by omega)).trans ((hF_89 51 j (by omega)).trans ((hF_61 51 j (by omega)).trans ((hF_36 51 j (by omega)).trans ((hF_21 51 j (by omega)).trans (hF_8 51 j (by omega))))))) ((hF_168 41 29 (by omega)).trans ((hF_89 41 29 (by omega)).trans ((hF_61 41 29 (by omega)).trans ((hF_36 41 29 (by omega)).trans ((hF_21 41 29 (by omega)).trans (hF_8 41 29 (by omega)))))))
            have kn_173 : Hid (c_6 41 29 = c 41 29) := hF_8 41 29 (by omega)
            have kn_174 : Hid (c_19 41 29 = c 41 29) := (hF_21 41 29 (by omega)).trans (hid kn_173)
            have kn_175 : Hid (c_34 41 29 = c 41 29) := (hF_36 41 29 (by omega)).trans (hid kn_174)
            have kn_176 : Hid (c_59 41 29 = c 41 29) := (hF_61 41 29 (by omega)).trans (hid kn_175)
            have kn_177 : Hid (c_87 41 29 = c 41 29) := (hF_89 41 29 (by omega)).trans (hid kn_176)
            have kn_178 : Hid (c_166 41 29 = c 41 29) := (hF_168 41 29 (by omega)).trans (hid kn_177)
            have h_179 : c_166 41 29 = c 41 29 := (hid kn_178)
            have kn_180 : Hid (c_166 41 4 = c_87 41 4) := hF_168 41 4 (by omega)
            have h_181 : c_166 41 4 = c_87 41 4 := (hid kn_180)
            have kn_182 : Hid (c_6 41 7 = c 41 7) := hF_8 41 7 (by omega)
            have kn_183 : Hid (c_19 41 7 = c 41 7) := (hF_21 41 7 (by omega)).trans (hid kn_182)
            have kn_184 : Hid (c_34 41 7 = c 41 7) := (hF_36 41 7 (by omega)).trans (hid kn_183)
            have kn_185 : Hid (c_59 41 7 = c 41 7) := (hF_61 41 7 (by omega)).trans (hid kn_184)
            have kn_186 : Hid (c_87 41 7 = c 41 7) := (hF_89 41 7 (by omega)).trans (hid kn_185)
            have kn_187 : Hid (c_166 41 7 = c 41 7) := (hF_168 41 7 (by omega)).trans (hid kn_186)
            have h_188 : c_166 41 7 = c 41 7 := (hid kn_187)
            exact K c_166 hI_167 (fun a j hm => (hF_168 a j (by omega)).trans ((hF_89 a j (by omega)).trans ((hF_61 a j (by omega)).trans ((hF_36 a j (by omega)).trans ((hF_21 a j (by omega)).trans (hF_8 a j (by omega))))))) hW_171 (by omega) (by omega) (by omega) (by omega) (by omega)
        · refine v_ic_ne_f (t := 117) rfl (by decide) (by omega) ?_
          refine q_aload_n rfl rfl ?_
          refine q_iconst rfl ?_
          refine v_bip rfl (by decide) ?_
          have kn_189 : Hid (c_6 41 5 = c 41 5) := hF_8 41 5 (by omega)
          have kn_190 : Hid (c_19 41 5 = c 41 5) := (hF_21 41 5 (by omega)).trans (hid kn_189)
          have kn_191 : Hid (c_34 41 5 = c 41 5) := (hF_36 41 5 (by omega)).trans (hid kn_190)
          have kn_192 : Hid (c_59 41 5 = c 41 5) := (hF_61 41 5 (by omega)).trans (hid kn_191)
          have h_193 : c_59 41 5 = c 41 5 := (hid kn_192)
          have kn_194 : Hid (c_59 41 3 = c 41 3) := (hF_61 41 3 (by omega)).trans (hid kn_57)
          have h_195 : c_59 41 3 = c 41 3 := (hid kn_194)
          have kn_196 : Hid (c_6 41 29 = c 41 29) := hF_8 41 29 (by omega)
          have kn_197 : Hid (c_19 41 29 = c 41 29) := (hF_21 41 29 (by omega)).trans (hid kn_196)
          have kn_198 : Hid (c_34 41 29 = c 41 29) := (hF_36 41 29 (by omega)).trans (hid kn_197)
          have kn_199 : Hid (c_59 41 29 = c 41 29) := (hF_61 41 29 (by omega)).trans (hid kn_198)
          have h_200 : c_59 41 29 = c 41 29 := (hid kn_199)
          have kn_201 : Hid (c_6 41 7 = c 41 7) := hF_8 41 7 (by omega)
          have kn_202 : Hid (c_19 41 7 = c 41 7) := (hF_21 41 7 (by omega)).trans (hid kn_201)
          have kn_203 : Hid (c_34 41 7 = c 41 7) := (hF_36 41 7 (by omega)).trans (hid kn_202)
          have kn_204 : Hid (c_59 41 7 = c 41 7) := (hF_61 41 7 (by omega)).trans (hid kn_203)
          have h_205 : c_59 41 7 = c 41 7 := (hid kn_204)
          obtain ⟨hW_206, hN_207⟩ : Nw c_59 ∧ Nh c_59 = Nh c := nh_fr hW (fun j => (hF_61 50 j (by omega)).trans ((hF_36 50 j (by omega)).trans ((hF_21 50 j (by omega)).trans (hF_8 50 j (by omega))))) (fun j => (hF_61 51 j (by omega)).trans ((hF_36 51 j (by omega)).trans ((hF_21 51 j (by omega)).trans (hF_8 51 j (by omega))))) ((hF_61 41 29 (by omega)).trans ((hF_36 41 29 (by omega)).trans ((hF_21 41 29 (by omega)).trans (hF_8 41 29 (by omega)))))
          refine v_cv rfl rfl rfl rfl (by decide) ⟨⟨rfl, rfl⟩, by decide, rfl⟩ (Nat.le_of_ble_eq_true rfl) (Nat.le_of_ble_eq_true rfl) (s_175 (o := o) (a1 := 4) (a2 := 7) hI_60 (show 0 ≤ o ∧ o ≤ 6 from by omega) (show 4 ≤ 4 ∧ 4 ≤ 5 from by omega) (show 6 ≤ 7 ∧ 7 ≤ 7 from by omega) hW_206 (by omega) (by omega) (by omega) (by omega) (by omega) (by omega) H174 (fun c_208 hI_209 hF_210 hW_211 h_212 h_213 h_214 h_215 h_216 => ?_))
          refine bk_inl ?_
          have h_217 := ir_41_4 hI_209
          have h_218 := ir_41_7 hI_209
          have h_219 := ir_41_29 hI_209
          have h_220 := ir_41_5 hI_209
          refine q_goto (t := 154) rfl (by decide) ?_
          refine q_vret rfl rfl ?_
          exact K c_208 hI_209 (fun a j hm => (hF_210 a j (by omega)).trans ((hF_61 a j (by omega)).trans ((hF_36 a j (by omega)).trans ((hF_21 a j (by omega)).trans (hF_8 a j (by omega)))))) hW_211 (by omega) (by omega) (by omega) (by omega) (by omega)
      · refine v_ic_ne_f (t := 94) rfl (by decide) (by omega) ?_
        refine q_aload_n rfl rfl ?_
        refine q_iconst rfl ?_
        refine v_bip rfl (by decide) ?_
        have kn_221 : Hid (c_6 41 5 = c 41 5) := hF_8 41 5 (by omega)
        have kn_222 : Hid (c_19 41 5 = c 41 5) := (hF_21 41 5 (by omega)).trans (hid kn_221)
        have kn_223 : Hid (c_34 41 5 = c 41 5) := (hF_36 41 5 (by omega)).trans (hid kn_222)
        have h_224 : c_34 41 5 = c 41 5 := (hid kn_223)
        have kn_225 : Hid (c_34 41 3 = c 41 3) := (hF_36 41 3 (by omega)).trans (hid kn_32)
        have h_226 : c_34 41 3 = c 41 3 := (hid kn_225)
        have kn_227 : Hid (c_6 41 29 = c 41 29) := hF_8 41 29 (by omega)
        have kn_228 : Hid (c_19 41 29 = c 41 29) := (hF_21 41 29 (by omega)).trans (hid kn_227)
        have kn_229 : Hid (c_34 41 29 = c 41 29) := (hF_36 41 29 (by omega)).trans (hid kn_228)
        have h_230 : c_34 41 29 = c 41 29 := (hid kn_229)
        have kn_231 : Hid (c_6 41 7 = c 41 7) := hF_8 41 7 (by omega)
        have kn_232 : Hid (c_19 41 7 = c 41 7) := (hF_21 41 7 (by omega)).trans (hid kn_231)
        have kn_233 : Hid (c_34 41 7 = c 41 7) := (hF_36 41 7 (by omega)).trans (hid kn_232)
        have h_234 : c_34 41 7 = c 41 7 := (hid kn_233)
        obtain ⟨hW_235, hN_236⟩ : Nw c_34 ∧ Nh c_34 = Nh c := nh_fr hW (fun j => (hF_36 50 j (by omega)).trans ((hF_21 50 j (by omega)).trans (hF_8 50 j (by omega)))) (fun j => (hF_36 51 j (by omega)).trans ((hF_21 51 j (by omega)).trans (hF_8 51 j (by omega)))) ((hF_36 41 29 (by omega)).trans ((hF_21 41 29 (by omega)).trans (hF_8 41 29 (by omega))))
        refine v_cv rfl rfl rfl rfl (by decide) ⟨⟨rfl, rfl⟩, by decide, rfl⟩ (Nat.le_of_ble_eq_true rfl) (Nat.le_of_ble_eq_true rfl) (s_175 (o := o) (a1 := 5) (a2 := 6) hI_35 (show 0 ≤ o ∧ o ≤ 6 from by omega) (show 4 ≤ 5 ∧ 5 ≤ 5 from by omega) (show 6 ≤ 6 ∧ 6 ≤ 7 from by omega) hW_235 (by omega) (by omega) (by omega) (by omega) (by omega) (by omega) H174 (fun c_237 hI_238 hF_239 hW_240 h_241 h_242 h_243 h_244 h_245 => ?_))
        refine bk_inl ?_
        have h_246 := ir_41_4 hI_238
        have h_247 := ir_41_7 hI_238
        have h_248 := ir_41_29 hI_238
        have h_249 := ir_41_5 hI_238
        refine q_goto (t := 154) rfl (by decide) ?_
        refine q_vret rfl rfl ?_
        exact K c_237 hI_238 (fun a j hm => (hF_239 a j (by omega)).trans ((hF_36 a j (by omega)).trans ((hF_21 a j (by omega)).trans (hF_8 a j (by omega))))) hW_240 (by omega) (by omega) (by omega) (by omega) (by omega)
    · refine v_ic_lt_f (t := 16) rfl (by decide) (by omega) ?_
      refine q_iload_n rfl rfl ?_
      refine v_bip rfl (by decide) ?_
      by_cases h_250 : y_22 > 57
      · refine v_ic_gt_t (t := 16) rfl (by decide) (by omega) ?_
        refine q_iconst rfl ?_
        refine v_zret rfl rfl (by omega) ?_
        refine bk_inl ?_
        refine v_if_eq_t (t := 71) rfl (by decide) (by decide) ?_
        refine q_aload_n rfl rfl ?_
        have kn_251 : Hid (c_19 41 3 = c 41 3) := (hF_21 41 3 (by omega)).trans (hid kn_17)
        have h_252 : c_19 41 3 = c 41 3 := (hid kn_251)
        refine v_cv rfl rfl rfl rfl (by decide) ⟨⟨rfl, rfl⟩, by decide, rfl⟩ (Nat.le_of_ble_eq_true rfl) (Nat.le_of_ble_eq_true rfl) (s_157 hI_20 (fun c_253 y_256 hI_254 hF_255 hy_256 h_257 h_258 h_259 h_260 h_261 => ?_))
        refine bk_inl ?_
        have h_262 := ir_41_4 hI_254
        have h_263 := ir_43 hI (c_253 41 4)
        have kn_264 : Hid (c_6 43 (c_253 41 4) = c 43 (c_253 41 4)) := hF_8 43 (c_253 41 4) (by omega)
        have kn_265 : Hid (c_19 43 (c_253 41 4) = c 43 (c_253 41 4)) := (hF_21 43 (c_253 41 4) (by omega)).trans (hid kn_264)
        have h_266 : c_19 43 (c_253 41 4) = c 43 (c_253 41 4) := (hid kn_265)
        have h_267 := ir_43 hI (c_253 41 4 + 1)
        have kn_268 : Hid (c_6 43 (c_253 41 4 + 1) = c 43 (c_253 41 4 + 1)) := hF_8 43 (c_253 41 4 + 1) (by omega)
        have kn_269 : Hid (c_19 43 (c_253 41 4 + 1) = c 43 (c_253 41 4 + 1)) := (hF_21 43 (c_253 41 4 + 1) (by omega)).trans (hid kn_268)
        have h_270 : c_19 43 (c_253 41 4 + 1) = c 43 (c_253 41 4 + 1) := (hid kn_269)
        have h_271 := ir_43 hI (c_253 41 4 + 2)
        have kn_272 : Hid (c_6 43 (c_253 41 4 + 2) = c 43 (c_253 41 4 + 2)) := hF_8 43 (c_253 41 4 + 2) (by omega)
        have kn_273 : Hid (c_19 43 (c_253 41 4 + 2) = c 43 (c_253 41 4 + 2)) := (hF_21 43 (c_253 41 4 + 2) (by omega)).trans (hid kn_272)
        have h_274 : c_19 43 (c_253 41 4 + 2) = c 43 (c_253 41 4 + 2) := (hid kn_273)
        refine q_ldc_w_s rfl rfl rfl (by decide) ?_
        refine q_call rfl rfl rfl rfl (s_158_20 ?_)
        refine bk_inl ?_
        by_cases h_275 : y_256 ≠ 12748404
        · refine v_ic_ne_t (t := 94) rfl (by decide) (by omega) ?_
          refine q_aload_n rfl rfl ?_
          have kn_276 : Hid (c_253 41 3 = c 41 3) := (hF_255 41 3 (by omega)).trans (hid kn_251)
          have h_277 : c_253 41 3 = c 41 3 := (hid kn_276)
          refine v_cv rfl rfl rfl rfl (by decide) ⟨⟨rfl, rfl⟩, by decide, rfl⟩ (Nat.le_of_ble_eq_true rfl) (Nat.le_of_ble_eq_true rfl) (s_157 hI_254 (fun c_278 y_281 hI_279 hF_280 hy_281 h_282 h_283 h_284 h_285 h_286 => ?_))
          refine bk_inl ?_
          have h_287 := ir_41_4 hI_279
          have h_288 := ir_43 hI (c_278 41 4)
          have kn_289 : Hid (c_6 43 (c_278 41 4) = c 43 (c_278 41 4)) := hF_8 43 (c_278 41 4) (by omega)
          have kn_290 : Hid (c_19 43 (c_278 41 4) = c 43 (c_278 41 4)) := (hF_21 43 (c_278 41 4) (by omega)).trans (hid kn_289)
          have kn_291 : Hid (c_253 43 (c_278 41 4) = c 43 (c_278 41 4)) := (hF_255 43 (c_278 41 4) (by omega)).trans (hid kn_290)
          have h_292 : c_253 43 (c_278 41 4) = c 43 (c_278 41 4) := (hid kn_291)
          have h_293 := ir_43 hI (c_278 41 4 + 1)
          have kn_294 : Hid (c_6 43 (c_278 41 4 + 1) = c 43 (c_278 41 4 + 1)) := hF_8 43 (c_278 41 4 + 1) (by omega)
          have kn_295 : Hid (c_19 43 (c_278 41 4 + 1) = c 43 (c_278 41 4 + 1)) := (hF_21 43 (c_278 41 4 + 1) (by omega)).trans (hid kn_294)
          have kn_296 : Hid (c_253 43 (c_278 41 4 + 1) = c 43 (c_278 41 4 + 1)) := (hF_255 43 (c_278 41 4 + 1) (by omega)).trans (hid kn_295)
          have h_297 : c_253 43 (c_278 41 4 + 1) = c 43 (c_278 41 4 + 1) := (hid kn_296)
          have h_298 := ir_43 hI (c_278 41 4 + 2)
          have kn_299 : Hid (c_6 43 (c_278 41 4 + 2) = c 43 (c_278 41 4 + 2)) := hF_8 43 (c_278 41 4 + 2) (by omega)
          have kn_300 : Hid (c_19 43 (c_278 41 4 + 2) = c 43 (c_278 41 4 + 2)) := (hF_21 43 (c_278 41 4 + 2) (by omega)).trans (hid kn_299)
          have kn_301 : Hid (c_253 43 (c_278 41 4 + 2) = c 43 (c_278 41 4 + 2)) := (hF_255 43 (c_278 41 4 + 2) (by omega)).trans (hid kn_300)
          have h_302 : c_253 43 (c_278 41 4 + 2) = c 43 (c_278 41 4 + 2) := (hid kn_301)
          refine q_ldc_w_s rfl rfl rfl (by decide) ?_
          refine q_call rfl rfl rfl rfl (s_158_21 ?_)
          refine bk_inl ?_
          by_cases h_303 : y_281 ≠ 441972
          · refine v_ic_ne_t (t := 117) rfl (by decide) (by omega) ?_
            refine q_aload_n rfl rfl ?_
            have kn_304 : Hid (c_278 41 3 = c 41 3) := (hF_280 41 3 (by omega)).trans (hid kn_276)
            have h_305 : c_278 41 3 = c 41 3 := (hid kn_304)
            refine v_cv rfl rfl rfl rfl (by decide) ⟨⟨rfl, rfl⟩, by decide, rfl⟩ (Nat.le_of_ble_eq_true rfl) (Nat.le_of_ble_eq_true rfl) (s_172 hI_279 (fun c_306 y_309 hI_307 hF_308 hy_309 h_310 h_311 h_312 h_313 => ?_))
            refine bk_inl ?_
            have h_314 := ir_41_4 hI_307
            have h_315 := ir_43 hI (c_306 41 4)
            have kn_316 : Hid (c_6 43 (c_306 41 4) = c 43 (c_306 41 4)) := hF_8 43 (c_306 41 4) (by omega)
            have kn_317 : Hid (c_19 43 (c_306 41 4) = c 43 (c_306 41 4)) := (hF_21 43 (c_306 41 4) (by omega)).trans (hid kn_316)
            have kn_318 : Hid (c_253 43 (c_306 41 4) = c 43 (c_306 41 4)) := (hF_255 43 (c_306 41 4) (by omega)).trans (hid kn_317)
            have kn_319 : Hid (c_278 43 (c_306 41 4) = c 43 (c_306 41 4)) := (hF_280 43 (c_306 41 4) (by omega)).trans (hid kn_318)
            have h_320 : c_278 43 (c_306 41 4) = c 43 (c_306 41 4) := (hid kn_319)
            refine q_istore_n rfl (by decide) ?_
            refine q_iload_n rfl rfl ?_
            refine q_iconst rfl ?_
            by_cases h_321 : y_309 ≠ (-1)
            · refine v_ic_ne_t (t := 136) rfl (by decide) (by omega) ?_
              refine q_aload_n rfl rfl ?_
              refine v_cv rfl rfl rfl rfl (by decide) ⟨⟨rfl, rfl⟩, by decide, rfl⟩ (Nat.le_of_ble_eq_true rfl) (Nat.le_of_ble_eq_true rfl) ?_
              refine q_aload_n rfl rfl ?_
              have kn_322 : Hid (c_6 41 5 = c 41 5) := hF_8 41 5 (by omega)
              have kn_323 : Hid (c_19 41 5 = c 41 5) := (hF_21 41 5 (by omega)).trans (hid kn_322)
              have kn_324 : Hid (c_253 41 5 = c 41 5) := (hF_255 41 5 (by omega)).trans (hid kn_323)
              have kn_325 : Hid (c_278 41 5 = c 41 5) := (hF_280 41 5 (by omega)).trans (hid kn_324)
              have kn_326 : Hid (c_306 41 5 = c 41 5) := (hF_308 41 5 (by omega)).trans (hid kn_325)
              refine v_gi (z := 5) (v := c 41 5) rfl rfl rfl (by decide) rfl rfl (hid kn_326) ?_
              refine q_iconst rfl ?_
              refine v_ic_ne_f (t := 12) rfl (by decide) (by omega) ?_
              refine q_iconst rfl ?_
              refine q_goto (t := 13) rfl (by decide) ?_
              refine v_zret rfl rfl (by omega) ?_
              refine bk_inl ?_
              refine v_if_ne_t (t := 144) rfl (by decide) (by decide) ?_
              refine q_aload_n rfl rfl ?_
              have kn_327 : Hid (c_306 41 3 = c 41 3) := (hF_308 41 3 (by omega)).trans (hid kn_304)
              have h_328 : c_306 41 3 = c 41 3 := (hid kn_327)
              have kn_329 : Hid (c_306 43 (c_306 41 4) = c 43 (c_306 41 4)) := (hF_308 43 (c_306 41 4) (by omega)).trans (hid kn_319)
              have h_330 : c_306 43 (c_306 41 4) = c 43 (c_306 41 4) := (hid kn_329)
              have h_331 := ir_43 hI (c_306 41 4 + 1)
              have kn_332 : Hid (c_6 43 (c_306 41 4 + 1) = c 43 (c_306 41 4 + 1)) := hF_8 43 (c_306 41 4 + 1) (by omega)
              have kn_333 : Hid (c_19 43 (c_306 41 4 + 1) = c 43 (c_306 41 4 + 1)) := (hF_21 43 (c_306 41 4 + 1) (by omega)).trans (hid kn_332)
              have kn_334 : Hid (c_253 43 (c_306 41 4 + 1) = c 43 (c_306 41 4 + 1)) := (hF_255 43 (c_306 41 4 + 1) (by omega)).trans (hid kn_333)
              have kn_335 : Hid (c_278 43 (c_306 41 4 + 1) = c 43 (c_306 41 4 + 1)) := (hF_280 43 (c_306 41 4 + 1) (by omega)).trans (hid kn_334)
              have kn_336 : Hid (c_306 43 (c_306 41 4 + 1) = c 43 (c_306 41 4 + 1)) := (hF_308 43 (c_306 41 4 + 1) (by omega)).trans (hid kn_335)
              have h_337 : c_306 43 (c_306 41 4 + 1) = c 43 (c_306 41 4 + 1) := (hid kn_336)
              have h_338 := ir_43 hI (c_306 41 4 + 2)
              have kn_339 : Hid (c_6 43 (c_306 41 4 + 2) = c 43 (c_306 41 4 + 2)) := hF_8 43 (c_306 41 4 + 2) (by omega)
              have kn_340 : Hid (c_19 43 (c_306 41 4 + 2) = c 43 (c_306 41 4 + 2)) := (hF_21 43 (c_306 41 4 + 2) (by omega)).trans (hid kn_339)
              have kn_341 : Hid (c_253 43 (c_306 41 4 + 2) = c 43 (c_306 41 4 + 2)) := (hF_255 43 (c_306 41 4 + 2) (by omega)).trans (hid kn_340)
              have kn_342 : Hid (c_278 43 (c_306 41 4 + 2) = c 43 (c_306 41 4 + 2)) := (hF_280 43 (c_306 41 4 + 2) (by omega)).trans (hid kn_341)
              have kn_343 : Hid (c_306 43 (c_306 41 4 + 2) = c 43 (c_306 41 4 + 2)) := (hF_308 43 (c_306 41 4 + 2) (by omega)).trans (hid kn_342)
              have h_344 : c_306 43 (c_306 41 4 + 2) = c 43 (c_306 41 4 + 2) := (hid kn_343)
              refine v_cv rfl rfl rfl rfl (by decide) ⟨⟨rfl, rfl⟩, by decide, rfl⟩ (Nat.le_of_ble_eq_true rfl) (Nat.le_of_ble_eq_true rfl) (s_159 hI_307 (fun c_345 hI_346 hF_347 h_348 h_349 h_350 h_351 => ?_))
              refine bk_inl ?_
              have h_352 := ir_41_4 hI_346
              refine q_aload_n rfl rfl ?_
              refine q_iconst rfl ?_
              refine q_iload_n rfl rfl ?_
              have kn_353 : Hid (c_6 41 29 = c 41 29) := hF_8 41 29 (by omega)
              have kn_354 : Hid (c_19 41 29 = c 41 29) := (hF_21 41 29 (by omega)).trans (hid kn_353)
              have kn_355 : Hid (c_253 41 29 = c 41 29) := (hF_255 41 29 (by omega)).trans (hid kn_354)
              have kn_356 : Hid (c_278 41 29 = c 41 29) := (hF_280 41 29 (by omega)).trans (hid kn_355)
              have kn_357 : Hid (c_306 41 29 = c 41 29) := (hF_308 41 29 (by omega)).trans (hid kn_356)
              have kn_358 : Hid (c_345 41 29 = c 41 29) := (hF_347 41 29 (by omega)).trans (hid kn_357)
              have h_359 : c_345 41 29 = c 41 29 := (hid kn_358)
              have kn_360 : Hid (c_345 41 5 = c 41 5) := (hF_347 41 5 (by omega)).trans (hid kn_326)
              have h_361 : c_345 41 5 = c 41 5 := (hid kn_360)
              obtain ⟨hW_362, hN_363⟩ : Nw c_345 ∧ Nh c_345 = Nh c := nh_fr hW (fun j => (hF_347 50 j (by omega)).trans ((hF_308 50 j (by omega)).trans ((hF_280 50 j (by omega)).trans ((hF_255 50 j (by omega)).trans ((hF_21 50 j (by omega)).trans (hF_8 50 j (by omega))))))) (fun j => (hF_347 51 j (by omega)).trans ((hF_308 51 j (by omega)).trans ((hF_280 51 j (by omega)).trans ((hF_255 51 j (by omega)).trans ((hF_21 51 j (by omega)).trans (hF_8 51 j (by omega))))))) ((hF_347 41 29 (by omega)).trans ((hF_308 41 29 (by omega)).trans ((hF_280 41 29 (by omega)).trans ((hF_255 41 29 (by omega)).trans ((hF_21 41 29 (by omega)).trans (hF_8 41 29 (by omega)))))))
              refine v_cv rfl rfl rfl rfl (by decide) ⟨⟨rfl, rfl⟩, by decide, rfl⟩ (Nat.le_of_ble_eq_true rfl) (Nat.le_of_ble_eq_true rfl) (s_170 (a1 := 1) (a2 := y_309) hI_346 (show 0 ≤ 1 ∧ 1 ≤ 8 from by omega) (show 0 ≤ y_309 ∧ y_309 ≤ 999 from by omega) hW_362 (by omega) (by omega) (by omega) (fun c_364 hI_365 hF_366 hW_367 h_368 h_369 h_370 h_371 => ?_))
              refine bk_inl ?_
              have h_372 := ir_41_29 hI_365
              refine q_vret rfl rfl ?_
              have kn_373 : Hid (c_364 41 4 = c_345 41 4) := hF_366 41 4 (by omega)
              have h_374 : c_364 41 4 = c_345 41 4 := (hid kn_373)
              have kn_375 : Hid (c_364 41 5 = c 41 5) := (hF_366 41 5 (by omega)).trans (hid kn_360)
              have h_376 : c_364 41 5 = c 41 5 := (hid kn_375)
              have kn_377 : Hid (c_6 41 7 = c 41 7) := hF_8 41 7 (by omega)
              have kn_378 : Hid (c_19 41 7 = c 41 7) := (hF_21 41 7 (by omega)).trans (hid kn_377)
              have kn_379 : Hid (c_253 41 7 = c 41 7) := (hF_255 41 7 (by omega)).trans (hid kn_378)
              have kn_380 : Hid (c_278 41 7 = c 41 7) := (hF_280 41 7 (by omega)).trans (hid kn_379)
              have kn_381 : Hid (c_306 41 7 = c 41 7) := (hF_308 41 7 (by omega)).trans (hid kn_380)
              have kn_382 : Hid (c_345 41 7 = c 41 7) := (hF_347 41 7 (by omega)).trans (hid kn_381)
              have kn_383 : Hid (c_364 41 7 = c 41 7) := (hF_366 41 7 (by omega)).trans (hid kn_382)
              have h_384 : c_364 41 7 = c 41 7 := (hid kn_383)
              exact K c_364 hI_365 (fun a j hm => (hF_366 a j (by omega)).trans ((hF_347 a j (by omega)).trans ((hF_308 a j (by omega)).trans ((hF_280 a j (by omega)).trans ((hF_255 a j (by omega)).trans ((hF_21 a j (by omega)).trans (hF_8 a j (by omega)))))))) hW_367 (by omega) (by omega) (by omega) (by omega) (by omega)
            · refine v_ic_ne_f (t := 136) rfl (by decide) (by omega) ?_
              refine q_aload_n rfl rfl ?_
              refine q_iconst rfl ?_
              refine q_aload_n rfl rfl ?_
              refine v_gi (z := 4) (v := c_306 41 4) rfl rfl rfl (by decide) rfl rfl rfl ?_
              refine v_cv rfl rfl rfl rfl (by decide) ⟨⟨rfl, rfl⟩, by decide, rfl⟩ (Nat.le_of_ble_eq_true rfl) (Nat.le_of_ble_eq_true rfl) (s_153 (a1 := 1) (a2 := c_306 41 4) hI_307 (show 1 ≤ 1 ∧ 1 ≤ 3 from by omega) (show 0 ≤ c_306 41 4 ∧ c_306 41 4 ≤ 605 from by omega) (fun c_385 hI_386 hF_387 h_388 => ?_))
              refine bk_inl ?_
              have h_389 := ir_41_5 hI_386
              refine q_aload_n rfl rfl ?_
              refine v_cv rfl rfl rfl rfl (by decide) ⟨⟨rfl, rfl⟩, by decide, rfl⟩ (Nat.le_of_ble_eq_true rfl) (Nat.le_of_ble_eq_true rfl) ?_
              refine q_aload_n rfl rfl ?_
              refine v_gi (z := 5) (v := c_385 41 5) rfl rfl rfl (by decide) rfl rfl rfl ?_
              refine q_iconst rfl ?_
              refine v_ic_ne_t (t := 12) rfl (by decide) (by omega) ?_
              refine q_iconst rfl ?_
              refine v_zret rfl rfl (by omega) ?_
              refine bk_inl ?_
              refine v_if_ne_f (t := 144) rfl (by decide) (by decide) ?_
              refine q_vret rfl rfl ?_
              obtain ⟨hW_390, hN_391⟩ : Nw c_385 ∧ Nh c_385 = Nh c := nh_fr hW (fun j => (hF_387 50 j (by omega)).trans ((hF_308 50 j (by omega)).trans ((hF_280 50 j (by omega)).trans ((hF_255 50 j (by omega)).trans ((hF_21 50 j (by omega)).trans (hF_8 50 j (by omega))))))) (fun j => (hF_387 51 j (by omega)).trans ((hF_308 51 j (by omega)).trans ((hF_280 51 j (by omega)).trans ((hF_255 51 j (by omega)).trans ((hF_21 51 j (by omega)).trans (hF_8 51 j (by omega))))))) ((hF_387 41 29 (by omega)).trans ((hF_308 41 29 (by omega)).trans ((hF_280 41 29 (by omega)).trans ((hF_255 41 29 (by omega)).trans ((hF_21 41 29 (by omega)).trans (hF_8 41 29 (by omega)))))))
              have kn_392 : Hid (c_6 41 29 = c 41 29) := hF_8 41 29 (by omega)
              have kn_393 : Hid (c_19 41 29 = c 41 29) := (hF_21 41 29 (by omega)).trans (hid kn_392)
              have kn_394 : Hid (c_253 41 29 = c 41 29) := (hF_255 41 29 (by omega)).trans (hid kn_393)
              have kn_395 : Hid (c_278 41 29 = c 41 29) := (hF_280 41 29 (by omega)).trans (hid kn_394)
              have kn_396 : Hid (c_306 41 29 = c 41 29) := (hF_308 41 29 (by omega)).trans (hid kn_395)
              have kn_397 : Hid (c_385 41 29 = c 41 29) := (hF_387 41 29 (by omega)).trans (hid kn_396)
              have h_398 : c_385 41 29 = c 41 29 := (hid kn_397)
              have kn_399 : Hid (c_385 41 4 = c_306 41 4) := hF_387 41 4 (by omega)
              have h_400 : c_385 41 4 = c_306 41 4 := (hid kn_399)
              have kn_401 : Hid (c_6 41 7 = c 41 7) := hF_8 41 7 (by omega)
              have kn_402 : Hid (c_19 41 7 = c 41 7) := (hF_21 41 7 (by omega)).trans (hid kn_401)
              have kn_403 : Hid (c_253 41 7 = c 41 7) := (hF_255 41 7 (by omega)).trans (hid kn_402)
              have kn_404 : Hid (c_278 41 7 = c 41 7) := (hF_280 41 7 (by omega)).trans (hid kn_403)
              have kn_405 : Hid (c_306 41 7 = c 41 7) := (hF_308 41 7 (by omega)).trans (hid kn_404)
              have kn_406 : Hid (c_385 41 7 = c 41 7) := (hF_387 41 7 (by omega)).trans (hid kn_405)
              have h_407 : c_385 41 7 = c 41 7 := (hid kn_406)
              exact K c_385 hI_386 (fun a j hm => (hF_387 a j (by omega)).trans ((hF_308 a j (by omega)).trans ((hF_280 a j (by omega)).trans ((hF_255 a j (by omega)).trans ((hF_21 a j (by omega)).trans (hF_8 a j (by omega))))))) hW_390 (by omega) (by omega) (by omega) (by omega) (by omega)
          · refine v_ic_ne_f (t := 117) rfl (by decide) (by omega) ?_
            refine q_aload_n rfl rfl ?_
            refine q_iconst rfl ?_
            refine v_bip rfl (by decide) ?_
            have kn_408 : Hid (c_6 41 5 = c 41 5) := hF_8 41 5 (by omega)
            have kn_409 : Hid (c_19 41 5 = c 41 5) := (hF_21 41 5 (by omega)).trans (hid kn_408)
            have kn_410 : Hid (c_253 41 5 = c 41 5) := (hF_255 41 5 (by omega)).trans (hid kn_409)
            have kn_411 : Hid (c_278 41 5 = c 41 5) := (hF_280 41 5 (by omega)).trans (hid kn_410)
            have h_412 : c_278 41 5 = c 41 5 := (hid kn_411)
            have kn_413 : Hid (c_278 41 3 = c 41 3) := (hF_280 41 3 (by omega)).trans (hid kn_276)
            have h_414 : c_278 41 3 = c 41 3 := (hid kn_413)
            have kn_415 : Hid (c_6 41 29 = c 41 29) := hF_8 41 29 (by omega)
            have kn_416 : Hid (c_19 41 29 = c 41 29) := (hF_21 41 29 (by omega)).trans (hid kn_415)
            have kn_417 : Hid (c_253 41 29 = c 41 29) := (hF_255 41 29 (by omega)).trans (hid kn_416)
            have kn_418 : Hid (c_278 41 29 = c 41 29) := (hF_280 41 29 (by omega)).trans (hid kn_417)
            have h_419 : c_278 41 29 = c 41 29 := (hid kn_418)
            have kn_420 : Hid (c_6 41 7 = c 41 7) := hF_8 41 7 (by omega)
            have kn_421 : Hid (c_19 41 7 = c 41 7) := (hF_21 41 7 (by omega)).trans (hid kn_420)
            have kn_422 : Hid (c_253 41 7 = c 41 7) := (hF_255 41 7 (by omega)).trans (hid kn_421)
            have kn_423 : Hid (c_278 41 7 = c 41 7) := (hF_280 41 7 (by omega)).trans (hid kn_422)
            have h_424 : c_278 41 7 = c 41 7 := (hid kn_423)
            obtain ⟨hW_425, hN_426⟩ : Nw c_278 ∧ Nh c_278 = Nh c := nh_fr hW (fun j => (hF_280 50 j (by omega)).trans ((hF_255 50 j (by omega)).trans ((hF_21 50 j (by omega)).trans (hF_8 50 j (by omega))))) (fun j => (hF_280 51 j (by omega)).trans ((hF_255 51 j (by omega)).trans ((hF_21 51 j (by omega)).trans (hF_8 51 j (by omega))))) ((hF_280 41 29 (by omega)).trans ((hF_255 41 29 (by omega)).trans ((hF_21 41 29 (by omega)).trans (hF_8 41 29 (by omega)))))
            refine v_cv rfl rfl rfl rfl (by decide) ⟨⟨rfl, rfl⟩, by decide, rfl⟩ (Nat.le_of_ble_eq_true rfl) (Nat.le_of_ble_eq_true rfl) (s_175 (o := o) (a1 := 4) (a2 := 7) hI_279 (show 0 ≤ o ∧ o ≤ 6 from by omega) (show 4 ≤ 4 ∧ 4 ≤ 5 from by omega) (show 6 ≤ 7 ∧ 7 ≤ 7 from by omega) hW_425 (by omega) (by omega) (by omega) (by omega) (by omega) (by omega) H174 (fun c_427 hI_428 hF_429 hW_430 h_431 h_432 h_433 h_434 h_435 => ?_))
            refine bk_inl ?_
            have h_436 := ir_41_4 hI_428
            have h_437 := ir_41_7 hI_428
            have h_438 := ir_41_29 hI_428
            have h_439 := ir_41_5 hI_428
            refine q_goto (t := 154) rfl (by decide) ?_
            refine q_vret rfl rfl ?_
            exact K c_427 hI_428 (fun a j hm => (hF_429 a j (by omega)).trans ((hF_280 a j (by omega)).trans ((hF_255 a j (by omega)).trans ((hF_21 a j (by omega)).trans (hF_8 a j (by omega)))))) hW_430 (by omega) (by omega) (by omega) (by omega) (by omega)
        · refine v_ic_ne_f (t := 94) rfl (by decide) (by omega) ?_
          refine q_aload_n rfl rfl ?_
          refine q_iconst rfl ?_
          refine v_bip rfl (by decide) ?_
          have kn_440 : Hid (c_6 41 5 = c 41 5) := hF_8 41 5 (by omega)
          have kn_441 : Hid (c_19 41 5 = c 41 5) := (hF_21 41 5 (by omega)).trans (hid kn_440)
          have kn_442 : Hid (c_253 41 5 = c 41 5) := (hF_255 41 5 (by omega)).trans (hid kn_441)
          have h_443 : c_253 41 5 = c 41 5 := (hid kn_442)
          have kn_444 : Hid (c_253 41 3 = c 41 3) := (hF_255 41 3 (by omega)).trans (hid kn_251)
          have h_445 : c_253 41 3 = c 41 3 := (hid kn_444)
          have kn_446 : Hid (c_6 41 29 = c 41 29) := hF_8 41 29 (by omega)
          have kn_447 : Hid (c_19 41 29 = c 41 29) := (hF_21 41 29 (by omega)).trans (hid kn_446)
          have kn_448 : Hid (c_253 41 29 = c 41 29) := (hF_255 41 29 (by omega)).trans (hid kn_447)
          have h_449 : c_253 41 29 = c 41 29 := (hid kn_448)
          have kn_450 : Hid (c_6 41 7 = c 41 7) := hF_8 41 7 (by omega)
          have kn_451 : Hid (c_19 41 7 = c 41 7) := (hF_21 41 7 (by omega)).trans (hid kn_450)
          have kn_452 : Hid (c_253 41 7 = c 41 7) := (hF_255 41 7 (by omega)).trans (hid kn_451)
          have h_453 : c_253 41 7 = c 41 7 := (hid kn_452)
          obtain ⟨hW_454, hN_455⟩ : Nw c_253 ∧ Nh c_253 = Nh c := nh_fr hW (fun j => (hF_255 50 j (by omega)).trans ((hF_21 50 j (by omega)).trans (hF_8 50 j (by omega)))) (fun j => (hF_255 51 j (by omega)).trans ((hF_21 51 j (by omega)).trans (hF_8 51 j (by omega)))) ((hF_255 41 29 (by omega)).trans ((hF_21 41 29 (by omega)).trans (hF_8 41 29 (by omega))))
          refine v_cv rfl rfl rfl rfl (by decide) ⟨⟨rfl, rfl⟩, by decide, rfl⟩ (Nat.le_of_ble_eq_true rfl) (Nat.le_of_ble_eq_true rfl) (s_175 (o := o) (a1 := 5) (a2 := 6) hI_254 (show 0 ≤ o ∧ o ≤ 6 from by omega) (show 4 ≤ 5 ∧ 5 ≤ 5 from by omega) (show 6 ≤ 6 ∧ 6 ≤ 7 from by omega) hW_454 (by omega) (by omega) (by omega) (by omega) (by omega) (by omega) H174 (fun c_456 hI_457 hF_458 hW_459 h_460 h_461 h_462 h_463 h_464 => ?_))
          refine bk_inl ?_
          have h_465 := ir_41_4 hI_457
          have h_466 := ir_41_7 hI_457
          have h_467 := ir_41_29 hI_457
          have h_468 := ir_41_5 hI_457
          refine q_goto (t := 154) rfl (by decide) ?_
          refine q_vret rfl rfl ?_
          exact K c_456 hI_457 (fun a j hm => (hF_458 a j (by omega)).trans ((hF_255 a j (by omega)).trans ((hF_21 a j (by omega)).trans (hF_8 a j (by omega))))) hW_459 (by omega) (by omega) (by omega) (by omega) (by omega)
      · refine v_ic_gt_f (t := 16) rfl (by decide) (by omega) ?_
        refine q_iconst rfl ?_
        refine q_goto (t := 17) rfl (by decide) ?_
        refine v_zret rfl rfl (by omega) ?_
        refine bk_inl ?_
        refine v_if_eq_f (t := 71) rfl (by decide) (by decide) ?_
        refine q_aload_n rfl rfl ?_
        refine q_iconst rfl ?_
        refine q_aload_n rfl rfl ?_
        refine q_iconst rfl ?_
        refine v_sip rfl (by decide) ?_
        have kn_469 : Hid (c_19 41 3 = c 41 3) := (hF_21 41 3 (by omega)).trans (hid kn_17)
        have h_470 : c_19 41 3 = c 41 3 := (hid kn_469)
        have kn_471 : Hid (c_6 41 5 = c 41 5) := hF_8 41 5 (by omega)
        have kn_472 : Hid (c_19 41 5 = c 41 5) := (hF_21 41 5 (by omega)).trans (hid kn_471)
        have h_473 : c_19 41 5 = c 41 5 := (hid kn_472)
        refine v_cv rfl rfl rfl rfl (by decide) ⟨⟨rfl, rfl⟩, by decide, rfl⟩ (Nat.le_of_ble_eq_true rfl) (Nat.le_of_ble_eq_true rfl) (s_160 (a1 := 0) (a2 := 999) hI_20 (show 0 ≤ 0 ∧ 0 ≤ 1 from by omega) (show (-1) ≤ 999 ∧ 999 ≤ 9999 from by omega) (fun c_474 y_477 hI_475 hF_476 hy_477 h_478 h_479 h_480 h_481 h_482 => ?_))
        refine bk_inl ?_
        have h_483 := ir_41_4 hI_475
        have h_484 := ir_41_5 hI_475
        have kn_485 : Hid (c_6 41 29 = c 41 29) := hF_8 41 29 (by omega)
        have kn_486 : Hid (c_19 41 29 = c 41 29) := (hF_21 41 29 (by omega)).trans (hid kn_485)
        have kn_487 : Hid (c_474 41 29 = c 41 29) := (hF_476 41 29 (by omega)).trans (hid kn_486)
        have h_488 : c_474 41 29 = c 41 29 := (hid kn_487)
        obtain ⟨hW_489, hN_490⟩ : Nw c_474 ∧ Nh c_474 = Nh c := nh_fr hW (fun j => (hF_476 50 j (by omega)).trans ((hF_21 50 j (by omega)).trans (hF_8 50 j (by omega)))) (fun j => (hF_476 51 j (by omega)).trans ((hF_21 51 j (by omega)).trans (hF_8 51 j (by omega)))) ((hF_476 41 29 (by omega)).trans ((hF_21 41 29 (by omega)).trans (hF_8 41 29 (by omega))))
        refine v_cv rfl rfl rfl rfl (by decide) ⟨⟨rfl, rfl⟩, by decide, rfl⟩ (Nat.le_of_ble_eq_true rfl) (Nat.le_of_ble_eq_true rfl) (s_170 (a1 := 0) (a2 := y_477) hI_475 (show 0 ≤ 0 ∧ 0 ≤ 8 from by omega) (show 0 ≤ y_477 ∧ y_477 ≤ 999 from by omega) hW_489 (by omega) (by omega) (by omega) (fun c_491 hI_492 hF_493 hW_494 h_495 h_496 h_497 h_498 => ?_))
        refine bk_inl ?_
        have h_499 := ir_41_29 hI_492
        refine q_goto (t := 154) rfl (by decide) ?_
        refine q_vret rfl rfl ?_
        have kn_500 : Hid (c_491 41 4 = c_474 41 4) := hF_493 41 4 (by omega)
        have h_501 : c_491 41 4 = c_474 41 4 := (hid kn_500)
        have kn_502 : Hid (c_491 41 5 = c_474 41 5) := hF_493 41 5 (by omega)
        have h_503 : c_491 41 5 = c_474 41 5 := (hid kn_502)
        have kn_504 : Hid (c_6 41 7 = c 41 7) := hF_8 41 7 (by omega)
        have kn_505 : Hid (c_19 41 7 = c 41 7) := (hF_21 41 7 (by omega)).trans (hid kn_504)
        have kn_506 : Hid (c_474 41 7 = c 41 7) := (hF_476 41 7 (by omega)).trans (hid kn_505)
        have kn_507 : Hid (c_491 41 7 = c 41 7) := (hF_493 41 7 (by omega)).trans (hid kn_506)
        have h_508 : c_491 41 7 = c 41 7 := (hid kn_507)
        exact K c_491 hI_492 (fun a j hm => (hF_493 a j (by omega)).trans ((hF_476 a j (by omega)).trans ((hF_21 a j (by omega)).trans (hF_8 a j (by omega))))) hW_494 (by omega) (by omega) (by omega) (by omega) (by omega)
  · refine v_ic_ne_f (t := 45) rfl (by decide) (by omega) ?_
    refine q_aload_n rfl rfl ?_
    refine q_iconst rfl ?_
    have kn_509 : Hid (c_6 41 7 = c 41 7) := hF_8 41 7 (by omega)
    have h_510 : c_6 41 7 = c 41 7 := (hid kn_509)
    have kn_511 : Hid (c_6 41 5 = c 41 5) := hF_8 41 5 (by omega)
    have h_512 : c_6 41 5 = c 41 5 := (hid kn_511)
    refine v_cv rfl rfl rfl rfl (by decide) ⟨⟨rfl, rfl⟩, by decide, rfl⟩ (Nat.le_of_ble_eq_true rfl) (Nat.le_of_ble_eq_true rfl) (s_171 (a1 := 1) hI_7 (show 1 ≤ 1 ∧ 1 ≤ 5 from by omega) (by omega) (by omega) (fun c_513 hI_514 hF_515 h_516 h_517 h_518 h_519 => ?_))
    refine bk_inl ?_
    have h_520 := ir_41_4 hI_514
    have h_521 := ir_41_7 hI_514
    have h_522 := ir_41_5 hI_514
    refine q_aload_n rfl rfl ?_
    by_cases h_523 : c_513 41 5 = -1
    · skip
      have kn_524 : Hid (c_6 41 3 = c 41 3) := hF_8 41 3 (by omega)
      have kn_525 : Hid (c_513 41 3 = c 41 3) := (hF_515 41 3 (by omega)).trans (hid kn_524)
      have h_526 : c_513 41 3 = c 41 3 := (hid kn_525)
      have kn_527 : Hid (c_6 41 29 = c 41 29) := hF_8 41 29 (by omega)
      have kn_528 : Hid (c_513 41 29 = c 41 29) := (hF_515 41 29 (by omega)).trans (hid kn_527)
      have h_529 : c_513 41 29 = c 41 29 := (hid kn_528)
      obtain ⟨hW_530, hN_531⟩ : Nw c_513 ∧ Nh c_513 = Nh c := nh_fr hW (fun j => (hF_515 50 j (by omega)).trans (hF_8 50 j (by omega))) (fun j => (hF_515 51 j (by omega)).trans (hF_8 51 j (by omega))) ((hF_515 41 29 (by omega)).trans (hF_8 41 29 (by omega)))
      refine v_cv rfl rfl rfl rfl (by decide) ⟨⟨rfl, rfl⟩, by decide, rfl⟩ (Nat.le_of_ble_eq_true rfl) (Nat.le_of_ble_eq_true rfl) (H174 _ _ _ (by omega) (by omega) hI_514 hW_530 (by omega) (by omega) (by omega) (by omega) (by omega) (fun c_532 hI_533 hF_534 hW_535 h_536 h_537 h_538 h_539 h_540 => ?_))
      refine bk_inl ?_
      have h_541 := ir_41_4 hI_533
      have h_542 := ir_41_7 hI_533
      have h_543 := ir_41_29 hI_533
      have h_544 := ir_41_5 hI_533
      refine q_aload_n rfl rfl ?_
      refine v_bip rfl (by decide) ?_
      have kn_545 : Hid (c_532 41 3 = c 41 3) := (hF_534 41 3 (by omega)).trans (hid kn_525)
      have h_546 : c_532 41 3 = c 41 3 := (hid kn_545)
      refine v_cv rfl rfl rfl rfl (by decide) ⟨⟨rfl, rfl⟩, by decide, rfl⟩ (Nat.le_of_ble_eq_true rfl) (Nat.le_of_ble_eq_true rfl) (s_161 (a1 := 41) hI_533 (show 1 ≤ 41 ∧ 41 ≤ 255 from by omega) (fun c_547 hI_548 hF_549 h_550 h_551 h_552 h_553 => ?_))
      refine bk_inl ?_
      have h_554 := ir_41_4 hI_548
      have h_555 := ir_41_5 hI_548
      refine q_aload_n rfl rfl ?_
      refine q_dup rfl rfl ?_
      have kn_556 : Hid (c_547 41 7 = c_532 41 7) := hF_549 41 7 (by omega)
      refine v_gi (z := 7) (v := c_532 41 7) rfl rfl rfl (by decide) rfl rfl (hid kn_556) ?_
      refine q_iconst rfl ?_
      refine v_isub (v := c_532 41 7 - 1) rfl (by omega) ?_
      refine v_pi (z := 7) rfl rfl rfl (by decide) rfl rfl rfl (by decide) ?_
      refine q_goto (t := 154) rfl (by decide) ?_
      refine q_vret rfl rfl ?_
      have hI_557 := iw_41_7 (v := c_532 41 7 - 1) hI_548 ⟨by omega, by omega⟩
      obtain ⟨hW_558, hN_559⟩ : Nw (up c_547 41 7 (c_532 41 7 - 1)) ∧ Nh (up c_547 41 7 (c_532 41 7 - 1)) = Nh c_532 := nh_fr hW_535 (fun j => (up_c (by omega)).trans (hF_549 50 j (by omega))) (fun j => (up_c (by omega)).trans (hF_549 51 j (by omega))) ((up_n (by decide)).trans (hF_549 41 29 (by omega)))
      have kn_560 : Hid (c_547 41 29 = c_532 41 29) := hF_549 41 29 (by omega)
      have h_561 : (up c_547 41 7 (c_532 41 7 - 1)) 41 29 = c_532 41 29 := ((up_n (by decide)).trans (hid kn_560))
      have h_562 : (up c_547 41 7 (c_532 41 7 - 1)) 41 4 = c_547 41 4 := (up_n (by decide))
      have h_563 : (up c_547 41 7 (c_532 41 7 - 1)) 41 5 = c_547 41 5 := (up_n (by decide))
      have h_564 : (up c_547 41 7 (c_532 41 7 - 1)) 41 7 = c_532 41 7 - 1 := (up_e rfl)
      exact K (up c_547 41 7 (c_532 41 7 - 1)) hI_557 (fun a j hm => (up_b (by omega)).trans ((hF_549 a j (by omega)).trans ((hF_534 a j (by omega)).trans ((hF_515 a j (by omega)).trans (hF_8 a j (by omega)))))) hW_558 (by omega) (by omega) (by omega) (by omega) (by omega)
    · skip
      have h_565 : ¬ c_513 41 5 = -1 := by rw [show c_513 41 5 = c_513 41 5 from rfl]; omega
      refine v_cv rfl rfl rfl rfl (by decide) ⟨⟨rfl, rfl⟩, by decide, rfl⟩ (Nat.le_of_ble_eq_true rfl) (Nat.le_of_ble_eq_true rfl) (n_174 hI_514 (by omega) ?_)
      refine bk_inl ?_
      refine q_aload_n rfl rfl ?_
      refine v_bip rfl (by decide) ?_
      have kn_566 : Hid (c_6 41 3 = c 41 3) := hF_8 41 3 (by omega)
      have kn_567 : Hid (c_513 41 3 = c 41 3) := (hF_515 41 3 (by omega)).trans (hid kn_566)
      have h_568 : c_513 41 3 = c 41 3 := (hid kn_567)
      refine v_cv rfl rfl rfl rfl (by decide) ⟨⟨rfl, rfl⟩, by decide, rfl⟩ (Nat.le_of_ble_eq_true rfl) (Nat.le_of_ble_eq_true rfl) (s_161 (a1 := 41) hI_514 (show 1 ≤ 41 ∧ 41 ≤ 255 from by omega) (fun c_569 hI_570 hF_571 h_572 h_573 h_574 h_575 => ?_))
      refine bk_inl ?_
      have h_576 := ir_41_4 hI_570
      have h_577 := ir_41_5 hI_570
      refine q_aload_n rfl rfl ?_
      refine q_dup rfl rfl ?_
      have kn_578 : Hid (c_569 41 7 = c_513 41 7) := hF_571 41 7 (by omega)
      refine v_gi (z := 7) (v := c_513 41 7) rfl rfl rfl (by decide) rfl rfl (hid kn_578) ?_
      refine q_iconst rfl ?_
      refine v_isub (v := c_513 41 7 - 1) rfl (by omega) ?_
      refine v_pi (z := 7) rfl rfl rfl (by decide) rfl rfl rfl (by decide) ?_
      refine q_goto (t := 154) rfl (by decide) ?_
      refine q_vret rfl rfl ?_
      have hI_579 := iw_41_7 (v := c_513 41 7 - 1) hI_570 ⟨by omega, by omega⟩
      obtain ⟨hW_580, hN_581⟩ : Nw (up c_569 41 7 (c_513 41 7 - 1)) ∧ Nh (up c_569 41 7 (c_513 41 7 - 1)) = Nh c := nh_fr hW (fun j => (up_c (by omega)).trans ((hF_571 50 j (by omega)).trans ((hF_515 50 j (by omega)).trans (hF_8 50 j (by omega))))) (fun j => (up_c (by omega)).trans ((hF_571 51 j (by omega)).trans ((hF_515 51 j (by omega)).trans (hF_8 51 j (by omega))))) ((up_n (by decide)).trans ((hF_571 41 29 (by omega)).trans ((hF_515 41 29 (by omega)).trans (hF_8 41 29 (by omega)))))
      have kn_582 : Hid (c_6 41 29 = c 41 29) := hF_8 41 29 (by omega)
      have kn_583 : Hid (c_513 41 29 = c 41 29) := (hF_515 41 29 (by omega)).trans (hid kn_582)
      have kn_584 : Hid (c_569 41 29 = c 41 29) := (hF_571 41 29 (by omega)).trans (hid kn_583)
      have h_585 : (up c_569 41 7 (c_513 41 7 - 1)) 41 29 = c 41 29 := ((up_n (by decide)).trans (hid kn_584))
      have h_586 : (up c_569 41 7 (c_513 41 7 - 1)) 41 4 = c_569 41 4 := (up_n (by decide))
      have h_587 : (up c_569 41 7 (c_513 41 7 - 1)) 41 5 = c_569 41 5 := (up_n (by decide))
      have h_588 : (up c_569 41 7 (c_513 41 7 - 1)) 41 7 = c_513 41 7 - 1 := (up_e rfl)
      exact K (up c_569 41 7 (c_513 41 7 - 1)) hI_579 (fun a j hm => (up_b (by omega)).trans ((hF_571 a j (by omega)).trans ((hF_515 a j (by omega)).trans (hF_8 a j (by omega))))) hW_580 (by omega) (by omega) (by omega) (by omega) (by omega)

set_option maxRecDepth 100000 in
set_option maxHeartbeats 4000000 in
theorem s_173_l {sc : List Int32} {e : Int} {d u P Q : Nat} {c : ME} {o : Int} {Z : AR → Prop} (hI : Iv u e P Q c) (ho : 0 ≤ o ∧ o ≤ 6) (hW : Nw c) (hq0 : (c 41 5 = (-1))) (hq1 : (c 41 4 ≤ c 41 3)) (hq2 : (c 41 3 ≤ 150)) (hq3 : (c 41 29 ≤ c 41 4)) (hq4 : (c 41 7 = o)) (H174 : ∀ (d9 : Nat) (c : ME) (Z : AR → Prop), d ≤ d9 → o + 1 ≤ 6 → Iv u e P Q c → Nw c → ((c 41 5 = (-1))) → ((c 41 4 ≤ c 41 3)) → ((c 41 3 ≤ 150)) → ((c 41 29 ≤ c 41 4)) → (c 41 7 = o + 1) → (∀ c2 : ME, Iv u e P Q c2 → (∀ (a : Nat) (j : Int), ¬ ((a = 41 ∧ j = 4) ∨ (a = 41 ∧ j = 5) ∨ (a = 41 ∧ j = 6) ∨ (a = 41 ∧ j = 7) ∨ (a = 41 ∧ j = 29) ∨ a = 50 ∨ a = 51) → c2 a j = c a j) → Nw c2 → ((c2 41 4 ≥ c 41 4)) → ((c2 41 7 = c 41 7)) → ((c 41 4 + c2 41 29 ≤ c 41 29 + c2 41 4)) → ((c2 41 5 < (-1)) ∨ (c2 41 5 > (-1)) ∨ (c2 41 4 ≤ c 41 3)) → ((c2 41 5 < (-1)) ∨ (c2 41 5 > (-1)) ∨ (Nh c2 = Nh c + 1)) → Z (.inl none, Wd P Q P P c2, 0, 0)) → Wp sc (d9 + 12) 174 0 [(0, .ref 41)] [] (Wd P Q P P c) 0 0 Z) (K : ∀ (c2 : ME), Iv u e P Q c2 → (∀ (a : Nat) (j : Int), ¬ ((a = 41 ∧ j = 4) ∨ (a = 41 ∧ j = 5) ∨ (a = 41 ∧ j = 6) ∨ (a = 41 ∧ j = 7) ∨ (a = 41 ∧ j = 29) ∨ a = 50 ∨ a = 51) → c2 a j = c a j) → Nw c2 → ((c2 41 4 ≥ c 41 4)) → ((c2 41 7 = c 41 7)) → ((c 41 4 + c2 41 29 ≤ c 41 29 + c2 41 4)) → ((c2 41 5 < (-1)) ∨ (c2 41 5 > (-1)) ∨ (c2 41 4 ≤ c 41 3)) → ((c2 41 5 < (-1)) ∨ (c2 41 5 > (-1)) ∨ (Nh c2 = Nh c + 1)) → Z (.inl (none), Wd P Q P P c2, 0, 0)) : ∀ n : Nat, (∀ (c2 : ME), Iv u e P Q c2 → (∀ (a : Nat) (j : Int), ¬ ((a = 41 ∧ j = 4) ∨ (a = 41 ∧ j = 5) ∨ (a = 41 ∧ j = 6) ∨ (a = 41 ∧ j = 7) ∨ (a = 41 ∧ j = 29) ∨ a = 50 ∨ a = 51) → c2 a j = c a j) → Nw c2 → ((c2 41 4 ≥ c 41 4)) → ((c2 41 7 = c 41 7)) → ((c 41 4 + c2 41 29 ≤ c 41 29 + c2 41 4)) → ((c2 41 5 < (-1)) ∨ (c2 41 5 > (-1)) ∨ (c2 41 4 ≤ c 41 3)) → ((c2 41 5 < (-1)) ∨ (c2 41 5 > (-1)) ∨ (Nh c2 = Nh c + 1)) → 1211 - 2 * c2 41 4 < (n : Int) → Wp sc (d + 15) 173 4 [(0, .ref 41)] [] (Wd P Q P P c2) 0 0 Z)
  | 0 => by intro c2 hI2 hF hW2 hx0 hx1 hx2 hx3 hx4 hm9; have hP := iv_P hI; have hQ := iv_Q hI; have h_609 := ir_41_4 hI2; exfalso; omega
  | n + 1 => by
    have hP := iv_P hI
    have hQ := iv_Q hI
    have ih := s_173_l (sc := sc) (d := d) hI ho hW hq0 hq1 hq2 hq3 hq4 H174 K n
    intro c2 hI2 hF hW2 hx0 hx1 hx2 hx3 hx4 hm9
    have h_1 := ir_41_4 hI
    have h_2 := ir_41_4 hI2
    have h_3 := ir_41_7 hI
    have h_4 := ir_41_7 hI2
    have h_5 := ir_41_29 hI
    have h_6 := ir_41_29 hI2
    have h_7 := ir_41_3 hI
    have h_8 := ir_41_5 hI2
    refine q_aload_n rfl rfl ?_
    refine v_cv rfl rfl rfl rfl (by decide) ⟨⟨rfl, rfl⟩, by decide, rfl⟩ (Nat.le_of_ble_eq_true rfl) (Nat.le_of_ble_eq_true rfl) ?_
    refine q_aload_n rfl rfl ?_
    refine v_gi (z := 5) (v := c2 41 5) rfl rfl rfl (by decide) rfl rfl rfl ?_
    refine q_iconst rfl ?_
    by_cases h_9 : c2 41 5 ≠ (-1)
    · refine v_ic_ne_t (t := 12) rfl (by decide) (by omega) ?_
      refine q_iconst rfl ?_
      refine v_zret rfl rfl (by omega) ?_
      refine bk_inl ?_
      refine v_if_eq_t (t := 90) rfl (by decide) (by decide) ?_
      refine q_vret rfl rfl ?_
      exact K c2 hI2 (fun a j hm => hF a j (by omega)) hW2 (by omega) (by omega) (by omega) (by omega) (by omega)
    · refine v_ic_ne_f (t := 12) rfl (by decide) (by omega) ?_
      refine q_iconst rfl ?_
      refine q_goto (t := 13) rfl (by decide) ?_
      refine v_zret rfl rfl (by omega) ?_
      refine bk_inl ?_
      refine v_if_eq_f (t := 90) rfl (by decide) (by decide) ?_
      refine q_aload_n rfl rfl ?_
      have kn_10 : Hid (c2 41 3 = c 41 3) := hF 41 3 (by omega)
      have h_11 : c2 41 3 = c 41 3 := (hid kn_10)
      refine v_cv rfl rfl rfl rfl (by decide) ⟨⟨rfl, rfl⟩, by decide, rfl⟩ (Nat.le_of_ble_eq_true rfl) (Nat.le_of_ble_eq_true rfl) (s_154 hI2 (fun c_12 y_15 hI_13 hF_14 hy_15 h_16 h_17 h_18 h_19 => ?_))
      refine bk_inl ?_
      have h_20 := ir_41_4 hI_13
      have h_21 := ir_43 hI (c_12 41 4)
      have kn_22 : Hid (c2 43 (c_12 41 4) = c 43 (c_12 41 4)) := hF 43 (c_12 41 4) (by omega)
      have h_23 : c2 43 (c_12 41 4) = c 43 (c_12 41 4) := (hid kn_22)
      refine v_bip rfl (by decide) ?_
      by_cases h_24 : y_15 = 42
      · refine v_ic_eq_t (t := 38) rfl (by decide) (by omega) ?_
        refine q_aload_n rfl rfl ?_
        have kn_25 : Hid (c_12 41 3 = c 41 3) := (hF_14 41 3 (by omega)).trans (hid kn_10)
        have h_26 : c_12 41 3 = c 41 3 := (hid kn_25)
        refine v_cv rfl rfl rfl rfl (by decide) ⟨⟨rfl, rfl⟩, by decide, rfl⟩ (Nat.le_of_ble_eq_true rfl) (Nat.le_of_ble_eq_true rfl) (s_154 hI_13 (fun c_27 y_30 hI_28 hF_29 hy_30 h_31 h_32 h_33 h_34 => ?_))
        refine bk_inl ?_
        have h_35 := ir_41_4 hI_28
        have h_36 := ir_43 hI (c_27 41 4)
        have kn_37 : Hid (c2 43 (c_27 41 4) = c 43 (c_27 41 4)) := hF 43 (c_27 41 4) (by omega)
        have kn_38 : Hid (c_12 43 (c_27 41 4) = c 43 (c_27 41 4)) := (hF_14 43 (c_27 41 4) (by omega)).trans (hid kn_37)
        have h_39 : c_12 43 (c_27 41 4) = c 43 (c_27 41 4) := (hid kn_38)
        refine v_bip rfl (by decide) ?_
        by_cases h_40 : y_30 ≠ 42
        · refine v_ic_ne_t (t := 51) rfl (by decide) (by omega) ?_
          refine q_aload_n rfl rfl ?_
          have kn_41 : Hid (c_27 41 3 = c 41 3) := (hF_29 41 3 (by omega)).trans (hid kn_25)
          have h_42 : c_27 41 3 = c 41 3 := (hid kn_41)
          refine v_cv rfl rfl rfl rfl (by decide) ⟨⟨rfl, rfl⟩, by decide, rfl⟩ (Nat.le_of_ble_eq_true rfl) (Nat.le_of_ble_eq_true rfl) (s_154 hI_28 (fun c_43 y_46 hI_44 hF_45 hy_46 h_47 h_48 h_49 h_50 => ?_))
          refine bk_inl ?_
          have h_51 := ir_41_4 hI_44
          have h_52 := ir_43 hI (c_43 41 4)
          have kn_53 : Hid (c2 43 (c_43 41 4) = c 43 (c_43 41 4)) := hF 43 (c_43 41 4) (by omega)
          have kn_54 : Hid (c_12 43 (c_43 41 4) = c 43 (c_43 41 4)) := (hF_14 43 (c_43 41 4) (by omega)).trans (hid kn_53)
          have kn_55 : Hid (c_27 43 (c_43 41 4) = c 43 (c_43 41 4)) := (hF_29 43 (c_43 41 4) (by omega)).trans (hid kn_54)
          have h_56 : c_27 43 (c_43 41 4) = c 43 (c_43 41 4) := (hid kn_55)
          refine v_bip rfl (by decide) ?_
          by_cases h_57 : y_46 ≠ 47
          · refine v_ic_ne_t (t := 64) rfl (by decide) (by omega) ?_
            refine v_bip rfl (by decide) ?_
            refine q_istore_n rfl (by decide) ?_
            refine q_aload_n rfl rfl ?_
            refine q_dup rfl rfl ?_
            refine v_gi (z := 4) (v := c_43 41 4) rfl rfl rfl (by decide) rfl rfl rfl ?_
            refine q_iconst rfl ?_
            refine v_iadd (v := c_43 41 4 + 1) rfl (by omega) ?_
            refine v_pi (z := 4) rfl rfl rfl (by decide) rfl rfl rfl (by decide) ?_
            refine q_aload_n rfl rfl ?_
            have kn_58 : Hid (c_12 41 5 = c2 41 5) := hF_14 41 5 (by omega)
            have kn_59 : Hid (c_27 41 5 = c2 41 5) := (hF_29 41 5 (by omega)).trans (hid kn_58)
            have kn_60 : Hid (c_43 41 5 = c2 41 5) := (hF_45 41 5 (by omega)).trans (hid kn_59)
            have hI_61 := iw_41_4 (v := c_43 41 4 + 1) hI_44 ⟨by omega, by omega⟩
            have h_62 : (up c_43 41 4 (c_43 41 4 + 1)) 41 5 = c2 41 5 := ((up_n (by decide)).trans (hid kn_60))
            have kn_63 : Hid (c_43 41 3 = c 41 3) := (hF_45 41 3 (by omega)).trans (hid kn_41)
            have h_64 : (up c_43 41 4 (c_43 41 4 + 1)) 41 3 = c 41 3 := ((up_n (by decide)).trans (hid kn_63))
            have h_65 : (up c_43 41 4 (c_43 41 4 + 1)) 41 4 = c_43 41 4 + 1 := (up_e rfl)
            have kn_66 : Hid (c_12 41 29 = c2 41 29) := hF_14 41 29 (by omega)
            have kn_67 : Hid (c_27 41 29 = c2 41 29) := (hF_29 41 29 (by omega)).trans (hid kn_66)
            have kn_68 : Hid (c_43 41 29 = c2 41 29) := (hF_45 41 29 (by omega)).trans (hid kn_67)
            have h_69 : (up c_43 41 4 (c_43 41 4 + 1)) 41 29 = c2 41 29 := ((up_n (by decide)).trans (hid kn_68))
            have kn_70 : Hid (c_12 41 7 = c2 41 7) := hF_14 41 7 (by omega)
            have kn_71 : Hid (c_27 41 7 = c2 41 7) := (hF_29 41 7 (by omega)).trans (hid kn_70)
            have kn_72 : Hid (c_43 41 7 = c2 41 7) := (hF_45 41 7 (by omega)).trans (hid kn_71)
            have h_73 : (up c_43 41 4 (c_43 41 4 + 1)) 41 7 = c2 41 7 := ((up_n (by decide)).trans (hid kn_72))
            obtain ⟨hW_74, hN_75⟩ : Nw (up c_43 41 4 (c_43 41 4 + 1)) ∧ Nh (up c_43 41 4 (c_43 41 4 + 1)) = Nh c2 := nh_fr hW2 (fun j => (up_c (by omega)).trans ((hF_45 50 j (by omega)).trans ((hF_29 50 j (by omega)).trans (hF_14 50 j (by omega))))) (fun j => (up_c (by omega)).trans ((hF_45 51 j (by omega)).trans ((hF_29 51 j (by omega)).trans (hF_14 51 j (by omega))))) ((up_n (by decide)).trans ((hF_45 41 29 (by omega)).trans ((hF_29 41 29 (by omega)).trans (hF_14 41 29 (by omega)))))
            refine v_cv rfl rfl rfl rfl (by decide) ⟨⟨rfl, rfl⟩, by decide, rfl⟩ (Nat.le_of_ble_eq_true rfl) (Nat.le_of_ble_eq_true rfl) (s_176 (o := o) hI_61 (show 0 ≤ o ∧ o ≤ 6 from by omega) hW_74 (by omega) (by omega) (by omega) (by omega) (by omega) H174 (fun c_76 hI_77 hF_78 hW_79 h_80 h_81 h_82 h_83 h_84 => ?_))
            refine bk_inl ?_
            have h_85 := ir_41_4 hI_77
            have h_86 := ir_41_7 hI_77
            have h_87 := ir_41_29 hI_77
            have h_88 := ir_41_5 hI_77
            refine q_aload_n rfl rfl ?_
            refine q_iload_n rfl rfl ?_
            refine q_iconst rfl ?_
            refine v_cv rfl rfl rfl rfl (by decide) ⟨⟨rfl, rfl⟩, by decide, rfl⟩ (Nat.le_of_ble_eq_true rfl) (Nat.le_of_ble_eq_true rfl) (s_170 (a1 := 8) (a2 := 0) hI_77 (show 0 ≤ 8 ∧ 8 ≤ 8 from by omega) (show 0 ≤ 0 ∧ 0 ≤ 999 from by omega) hW_79 (by omega) (by omega) (by omega) (fun c_89 hI_90 hF_91 hW_92 h_93 h_94 h_95 h_96 => ?_))
            refine bk_inl ?_
            have h_97 := ir_41_29 hI_90
            refine q_goto (t := 4) rfl (by decide) ?_
            refine Wp_ls [(0, .ref 41)] (lsub_cons rfl lsub_nil) ?_
            have kn_98 : Hid (c_89 41 4 = c_76 41 4) := hF_91 41 4 (by omega)
            have h_99 : c_89 41 4 = c_76 41 4 := (hid kn_98)
            have kn_100 : Hid (c_89 41 5 = c_76 41 5) := hF_91 41 5 (by omega)
            have h_101 : c_89 41 5 = c_76 41 5 := (hid kn_100)
            have kn_102 : Hid (c_89 41 7 = c_76 41 7) := hF_91 41 7 (by omega)
            have h_103 : c_89 41 7 = c_76 41 7 := (hid kn_102)
            exact ih c_89 hI_90 (fun a j hm => (hF_91 a j (by omega)).trans ((hF_78 a j (by omega)).trans ((up_b (by omega)).trans ((hF_45 a j (by omega)).trans ((hF_29 a j (by omega)).trans ((hF_14 a j (by omega)).trans (hF a j (by omega)))))))) hW_92 (by omega) (by omega) (by omega) (by omega) (by omega) (by omega)
          · refine v_ic_ne_f (t := 64) rfl (by decide) (by omega) ?_
            refine q_iconst rfl ?_
            refine q_goto (t := 66) rfl (by decide) ?_
            refine q_istore_n rfl (by decide) ?_
            refine q_aload_n rfl rfl ?_
            refine q_dup rfl rfl ?_
            refine v_gi (z := 4) (v := c_43 41 4) rfl rfl rfl (by decide) rfl rfl rfl ?_
            refine q_iconst rfl ?_
            refine v_iadd (v := c_43 41 4 + 1) rfl (by omega) ?_
            refine v_pi (z := 4) rfl rfl rfl (by decide) rfl rfl rfl (by decide) ?_
            refine q_aload_n rfl rfl ?_
            have kn_104 : Hid (c_12 41 5 = c2 41 5) := hF_14 41 5 (by omega)
            have kn_105 : Hid (c_27 41 5 = c2 41 5) := (hF_29 41 5 (by omega)).trans (hid kn_104)
            have kn_106 : Hid (c_43 41 5 = c2 41 5) := (hF_45 41 5 (by omega)).trans (hid kn_105)
            have hI_107 := iw_41_4 (v := c_43 41 4 + 1) hI_44 ⟨by omega, by omega⟩
            have h_108 : (up c_43 41 4 (c_43 41 4 + 1)) 41 5 = c2 41 5 := ((up_n (by decide)).trans (hid kn_106))
            have kn_109 : Hid (c_43 41 3 = c 41 3) := (hF_45 41 3 (by omega)).trans (hid kn_41)
            have h_110 : (up c_43 41 4 (c_43 41 4 + 1)) 41 3 = c 41 3 := ((up_n (by decide)).trans (hid kn_109))
            have h_111 : (up c_43 41 4 (c_43 41 4 + 1)) 41 4 = c_43 41 4 + 1 := (up_e rfl)
            have kn_112 : Hid (c_12 41 29 = c2 41 29) := hF_14 41 29 (by omega)
            have kn_113 : Hid (c_27 41 29 = c2 41 29) := (hF_29 41 29 (by omega)).trans (hid kn_112)
            have kn_114 : Hid (c_43 41 29 = c2 41 29) := (hF_45 41 29 (by omega)).trans (hid kn_113)
            have h_115 : (up c_43 41 4 (c_43 41 4 + 1)) 41 29 = c2 41 29 := ((up_n (by decide)).trans (hid kn_114))
            have kn_116 : Hid (c_12 41 7 = c2 41 7) := hF_14 41 7 (by omega)
            have kn_117 : Hid (c_27 41 7 = c2 41 7) := (hF_29 41 7 (by omega)).trans (hid kn_116)
            have kn_118 : Hid (c_43 41 7 = c2 41 7) := (hF_45 41 7 (by omega)).trans (hid kn_117)
            have h_119 : (up c_43 41 4 (c_43 41 4 + 1)) 41 7 = c2 41 7 := ((up_n (by decide)).trans (hid kn_118))
            obtain ⟨hW_120, hN_121⟩ : Nw (up c_43 41 4 (c_43 41 4 + 1)) ∧ Nh (up c_43 41 4 (c_43 41 4 + 1)) = Nh c2 := nh_fr hW2 (fun j => (up_c (by omega)).trans ((hF_45 50 j (by omega)).trans ((hF_29 50 j (by omega)).trans (hF_14 50 j (by omega))))) (fun j => (up_c (by omega)).trans ((hF_45 51 j (by omega)).trans ((hF_29 51 j (by omega)).trans (hF_14 51 j (by omega))))) ((up_n (by decide)).trans ((hF_45 41 29 (by omega)).trans ((hF_29 41 29 (by omega)).trans (hF_14 41 29 (by omega)))))
            refine v_cv rfl rfl rfl rfl (by decide) ⟨⟨rfl, rfl⟩, by decide, rfl⟩ (Nat.le_of_ble_eq_true rfl) (Nat.le_of_ble_eq_true rfl) (s_176 (o := o) hI_107 (show 0 ≤ o ∧ o ≤ 6 from by omega) hW_120 (by omega) (by omega) (by omega) (by omega) (by omega) H174 (fun c_122 hI_123 hF_124 hW_125 h_126 h_127 h_128 h_129 h_130 => ?_))
            refine bk_inl ?_
            have h_131 := ir_41_4 hI_123
            have h_132 := ir_41_7 hI_123
            have h_133 := ir_41_29 hI_123
            have h_134 := ir_41_5 hI_123
            refine q_aload_n rfl rfl ?_
            refine q_iload_n rfl rfl ?_
            refine q_iconst rfl ?_
            refine v_cv rfl rfl rfl rfl (by decide) ⟨⟨rfl, rfl⟩, by decide, rfl⟩ (Nat.le_of_ble_eq_true rfl) (Nat.le_of_ble_eq_true rfl) (s_170 (a1 := 5) (a2 := 0) hI_123 (show 0 ≤ 5 ∧ 5 ≤ 8 from by omega) (show 0 ≤ 0 ∧ 0 ≤ 999 from by omega) hW_125 (by omega) (by omega) (by omega) (fun c_135 hI_136 hF_137 hW_138 h_139 h_140 h_141 h_142 => ?_))
            refine bk_inl ?_
            have h_143 := ir_41_29 hI_136
            refine q_goto (t := 4) rfl (by decide) ?_
            refine Wp_ls [(0, .ref 41)] (lsub_cons rfl lsub_nil) ?_
            have kn_144 : Hid (c_135 41 4 = c_122 41 4) := hF_137 41 4 (by omega)
            have h_145 : c_135 41 4 = c_122 41 4 := (hid kn_144)
            have kn_146 : Hid (c_135 41 5 = c_122 41 5) := hF_137 41 5 (by omega)
            have h_147 : c_135 41 5 = c_122 41 5 := (hid kn_146)
            have kn_148 : Hid (c_135 41 7 = c_122 41 7) := hF_137 41 7 (by omega)
            have h_149 : c_135 41 7 = c_122 41 7 := (hid kn_148)
            exact ih c_135 hI_136 (fun a j hm => (hF_137 a j (by omega)).trans ((hF_124 a j (by omega)).trans ((up_b (by omega)).trans ((hF_45 a j (by omega)).trans ((hF_29 a j (by omega)).trans ((hF_14 a j (by omega)).trans (hF a j (by omega)))))))) hW_138 (by omega) (by omega) (by omega) (by omega) (by omega) (by omega)
        · refine v_ic_ne_f (t := 51) rfl (by decide) (by omega) ?_
          refine q_iconst rfl ?_
          refine q_goto (t := 66) rfl (by decide) ?_
          refine q_istore_n rfl (by decide) ?_
          refine q_aload_n rfl rfl ?_
          refine q_dup rfl rfl ?_
          refine v_gi (z := 4) (v := c_27 41 4) rfl rfl rfl (by decide) rfl rfl rfl ?_
          refine q_iconst rfl ?_
          refine v_iadd (v := c_27 41 4 + 1) rfl (by omega) ?_
          refine v_pi (z := 4) rfl rfl rfl (by decide) rfl rfl rfl (by decide) ?_
          refine q_aload_n rfl rfl ?_
          have kn_150 : Hid (c_12 41 5 = c2 41 5) := hF_14 41 5 (by omega)
          have kn_151 : Hid (c_27 41 5 = c2 41 5) := (hF_29 41 5 (by omega)).trans (hid kn_150)
          have hI_152 := iw_41_4 (v := c_27 41 4 + 1) hI_28 ⟨by omega, by omega⟩
          have h_153 : (up c_27 41 4 (c_27 41 4 + 1)) 41 5 = c2 41 5 := ((up_n (by decide)).trans (hid kn_151))
          have kn_154 : Hid (c_27 41 3 = c 41 3) := (hF_29 41 3 (by omega)).trans (hid kn_25)
          have h_155 : (up c_27 41 4 (c_27 41 4 + 1)) 41 3 = c 41 3 := ((up_n (by decide)).trans (hid kn_154))
          have h_156 : (up c_27 41 4 (c_27 41 4 + 1)) 41 4 = c_27 41 4 + 1 := (up_e rfl)
          have kn_157 : Hid (c_12 41 29 = c2 41 29) := hF_14 41 29 (by omega)
          have kn_158 : Hid (c_27 41 29 = c2 41 29) := (hF_29 41 29 (by omega)).trans (hid kn_157)
          have h_159 : (up c_27 41 4 (c_27 41 4 + 1)) 41 29 = c2 41 29 := ((up_n (by decide)).trans (hid kn_158))
          have kn_160 : Hid (c_12 41 7 = c2 41 7) := hF_14 41 7 (by omega)
          have kn_161 : Hid (c_27 41 7 = c2 41 7) := (hF_29 41 7 (by omega)).trans (hid kn_160)
          have h_162 : (up c_27 41 4 (c_27 41 4 + 1)) 41 7 = c2 41 7 := ((up_n (by decide)).trans (hid kn_161))
          obtain ⟨hW_163, hN_164⟩ : Nw (up c_27 41 4 (c_27 41 4 + 1)) ∧ Nh (up c_27 41 4 (c_27 41 4 + 1)) = Nh c2 := nh_fr hW2 (fun j => (up_c (by omega)).trans ((hF_29 50 j (by omega)).trans (hF_14 50 j (by omega)))) (fun j => (up_c (by omega)).trans ((hF_29 51 j (by omega)).trans (hF_14 51 j (by omega)))) ((up_n (by decide)).trans ((hF_29 41 29 (by omega)).trans (hF_14 41 29 (by omega))))
          refine v_cv rfl rfl rfl rfl (by decide) ⟨⟨rfl, rfl⟩, by decide, rfl⟩ (Nat.le_of_ble_eq_true rfl) (Nat.le_of_ble_eq_true rfl) (s_176 (o := o) hI_152 (show 0 ≤ o ∧ o ≤ 6 from by omega) hW_163 (by omega) (by omega) (by omega) (by omega) (by omega) H174 (fun c_165 hI_166 hF_167 hW_168 h_169 h_170 h_171 h_172 h_173 => ?_))
          refine bk_inl ?_
          have h_174 := ir_41_4 hI_166
          have h_175 := ir_41_7 hI_166
          have h_176 := ir_41_29 hI_166
          have h_177 := ir_41_5 hI_166
          refine q_aload_n rfl rfl ?_
          refine q_iload_n rfl rfl ?_
          refine q_iconst rfl ?_
          refine v_cv rfl rfl rfl rfl (by decide) ⟨⟨rfl, rfl⟩, by decide, rfl⟩ (Nat.le_of_ble_eq_true rfl) (Nat.le_of_ble_eq_true rfl) (s_170 (a1 := 4) (a2 := 0) hI_166 (show 0 ≤ 4 ∧ 4 ≤ 8 from by omega) (show 0 ≤ 0 ∧ 0 ≤ 999 from by omega) hW_168 (by omega) (by omega) (by omega) (fun c_178 hI_179 hF_180 hW_181 h_182 h_183 h_184 h_185 => ?_))
          refine bk_inl ?_
          have h_186 := ir_41_29 hI_179
          refine q_goto (t := 4) rfl (by decide) ?_
          refine Wp_ls [(0, .ref 41)] (lsub_cons rfl lsub_nil) ?_
          have kn_187 : Hid (c_178 41 4 = c_165 41 4) := hF_180 41 4 (by omega)
          have h_188 : c_178 41 4 = c_165 41 4 := (hid kn_187)
          have kn_189 : Hid (c_178 41 5 = c_165 41 5) := hF_180 41 5 (by omega)
          have h_190 : c_178 41 5 = c_165 41 5 := (hid kn_189)
          have kn_191 : Hid (c_178 41 7 = c_165 41 7) := hF_180 41 7 (by omega)
          have h_192 : c_178 41 7 = c_165 41 7 := (hid kn_191)
          exact ih c_178 hI_179 (fun a j hm => (hF_180 a j (by omega)).trans ((hF_167 a j (by omega)).trans ((up_b (by omega)).trans ((hF_29 a j (by omega)).trans ((hF_14 a j (by omega)).trans (hF a j (by omega))))))) hW_181 (by omega) (by omega) (by omega) (by omega) (by omega) (by omega)
      · refine v_ic_eq_f (t := 38) rfl (by decide) (by omega) ?_
        refine q_aload_n rfl rfl ?_
        have kn_193 : Hid (c_12 41 3 = c 41 3) := (hF_14 41 3 (by omega)).trans (hid kn_10)
        have h_194 : c_12 41 3 = c 41 3 := (hid kn_193)
        refine v_cv rfl rfl rfl rfl (by decide) ⟨⟨rfl, rfl⟩, by decide, rfl⟩ (Nat.le_of_ble_eq_true rfl) (Nat.le_of_ble_eq_true rfl) (s_154 hI_13 (fun c_195 y_198 hI_196 hF_197 hy_198 h_199 h_200 h_201 h_202 => ?_))
        refine bk_inl ?_
        have h_203 := ir_41_4 hI_196
        have h_204 := ir_43 hI (c_195 41 4)
        have kn_205 : Hid (c2 43 (c_195 41 4) = c 43 (c_195 41 4)) := hF 43 (c_195 41 4) (by omega)
        have kn_206 : Hid (c_12 43 (c_195 41 4) = c 43 (c_195 41 4)) := (hF_14 43 (c_195 41 4) (by omega)).trans (hid kn_205)
        have h_207 : c_12 43 (c_195 41 4) = c 43 (c_195 41 4) := (hid kn_206)
        refine v_bip rfl (by decide) ?_
        by_cases h_208 : y_198 = 47
        · refine v_ic_eq_t (t := 38) rfl (by decide) (by omega) ?_
          refine q_aload_n rfl rfl ?_
          have kn_209 : Hid (c_195 41 3 = c 41 3) := (hF_197 41 3 (by omega)).trans (hid kn_193)
          have h_210 : c_195 41 3 = c 41 3 := (hid kn_209)
          refine v_cv rfl rfl rfl rfl (by decide) ⟨⟨rfl, rfl⟩, by decide, rfl⟩ (Nat.le_of_ble_eq_true rfl) (Nat.le_of_ble_eq_true rfl) (s_154 hI_196 (fun c_211 y_214 hI_212 hF_213 hy_214 h_215 h_216 h_217 h_218 => ?_))
          refine bk_inl ?_
          have h_219 := ir_41_4 hI_212
          have h_220 := ir_43 hI (c_211 41 4)
          have kn_221 : Hid (c2 43 (c_211 41 4) = c 43 (c_211 41 4)) := hF 43 (c_211 41 4) (by omega)
          have kn_222 : Hid (c_12 43 (c_211 41 4) = c 43 (c_211 41 4)) := (hF_14 43 (c_211 41 4) (by omega)).trans (hid kn_221)
          have kn_223 : Hid (c_195 43 (c_211 41 4) = c 43 (c_211 41 4)) := (hF_197 43 (c_211 41 4) (by omega)).trans (hid kn_222)
          have h_224 : c_195 43 (c_211 41 4) = c 43 (c_211 41 4) := (hid kn_223)
          refine v_bip rfl (by decide) ?_
          by_cases h_225 : y_214 ≠ 42
          · refine v_ic_ne_t (t := 51) rfl (by decide) (by omega) ?_
            refine q_aload_n rfl rfl ?_
            have kn_226 : Hid (c_211 41 3 = c 41 3) := (hF_213 41 3 (by omega)).trans (hid kn_209)
            have h_227 : c_211 41 3 = c 41 3 := (hid kn_226)
            refine v_cv rfl rfl rfl rfl (by decide) ⟨⟨rfl, rfl⟩, by decide, rfl⟩ (Nat.le_of_ble_eq_true rfl) (Nat.le_of_ble_eq_true rfl) (s_154 hI_212 (fun c_228 y_231 hI_229 hF_230 hy_231 h_232 h_233 h_234 h_235 => ?_))
            refine bk_inl ?_
            have h_236 := ir_41_4 hI_229
            have h_237 := ir_43 hI (c_228 41 4)
            have kn_238 : Hid (c2 43 (c_228 41 4) = c 43 (c_228 41 4)) := hF 43 (c_228 41 4) (by omega)
            have kn_239 : Hid (c_12 43 (c_228 41 4) = c 43 (c_228 41 4)) := (hF_14 43 (c_228 41 4) (by omega)).trans (hid kn_238)
            have kn_240 : Hid (c_195 43 (c_228 41 4) = c 43 (c_228 41 4)) := (hF_197 43 (c_228 41 4) (by omega)).trans (hid kn_239)
            have kn_241 : Hid (c_211 43 (c_228 41 4) = c 43 (c_228 41 4)) := (hF_213 43 (c_228 41 4) (by omega)).trans (hid kn_240)
            have h_242 : c_211 43 (c_228 41 4) = c 43 (c_228 41 4) := (hid kn_241)
            refine v_bip rfl (by decide) ?_
            by_cases h_243 : y_231 ≠ 47
            · refine v_ic_ne_t (t := 64) rfl (by decide) (by omega) ?_
              refine v_bip rfl (by decide) ?_
              refine q_istore_n rfl (by decide) ?_
              refine q_aload_n rfl rfl ?_
              refine q_dup rfl rfl ?_
              refine v_gi (z := 4) (v := c_228 41 4) rfl rfl rfl (by decide) rfl rfl rfl ?_
              refine q_iconst rfl ?_
              refine v_iadd (v := c_228 41 4 + 1) rfl (by omega) ?_
              refine v_pi (z := 4) rfl rfl rfl (by decide) rfl rfl rfl (by decide) ?_
              refine q_aload_n rfl rfl ?_
              have kn_244 : Hid (c_12 41 5 = c2 41 5) := hF_14 41 5 (by omega)
              have kn_245 : Hid (c_195 41 5 = c2 41 5) := (hF_197 41 5 (by omega)).trans (hid kn_244)
              have kn_246 : Hid (c_211 41 5 = c2 41 5) := (hF_213 41 5 (by omega)).trans (hid kn_245)
              have kn_247 : Hid (c_228 41 5 = c2 41 5) := (hF_230 41 5 (by omega)).trans (hid kn_246)
              have hI_248 := iw_41_4 (v := c_228 41 4 + 1) hI_229 ⟨by omega, by omega⟩
              have h_249 : (up c_228 41 4 (c_228 41 4 + 1)) 41 5 = c2 41 5 := ((up_n (by decide)).trans (hid kn_247))
              have kn_250 : Hid (c_228 41 3 = c 41 3) := (hF_230 41 3 (by omega)).trans (hid kn_226)
              have h_251 : (up c_228 41 4 (c_228 41 4 + 1)) 41 3 = c 41 3 := ((up_n (by decide)).trans (hid kn_250))
              have h_252 : (up c_228 41 4 (c_228 41 4 + 1)) 41 4 = c_228 41 4 + 1 := (up_e rfl)
              have kn_253 : Hid (c_12 41 29 = c2 41 29) := hF_14 41 29 (by omega)
              have kn_254 : Hid (c_195 41 29 = c2 41 29) := (hF_197 41 29 (by omega)).trans (hid kn_253)
              have kn_255 : Hid (c_211 41 29 = c2 41 29) := (hF_213 41 29 (by omega)).trans (hid kn_254)
              have kn_256 : Hid (c_228 41 29 = c2 41 29) := (hF_230 41 29 (by omega)).trans (hid kn_255)
              have h_257 : (up c_228 41 4 (c_228 41 4 + 1)) 41 29 = c2 41 29 := ((up_n (by decide)).trans (hid kn_256))
              have kn_258 : Hid (c_12 41 7 = c2 41 7) := hF_14 41 7 (by omega)
              have kn_259 : Hid (c_195 41 7 = c2 41 7) := (hF_197 41 7 (by omega)).trans (hid kn_258)
              have kn_260 : Hid (c_211 41 7 = c2 41 7) := (hF_213 41 7 (by omega)).trans (hid kn_259)
              have kn_261 : Hid (c_228 41 7 = c2 41 7) := (hF_230 41 7 (by omega)).trans (hid kn_260)
              have h_262 : (up c_228 41 4 (c_228 41 4 + 1)) 41 7 = c2 41 7 := ((up_n (by decide)).trans (hid kn_261))
              obtain ⟨hW_263, hN_264⟩ : Nw (up c_228 41 4 (c_228 41 4 + 1)) ∧ Nh (up c_228 41 4 (c_228 41 4 + 1)) = Nh c2 := nh_fr hW2 (fun j => (up_c (by omega)).trans ((hF_230 50 j (by omega)).trans ((hF_213 50 j (by omega)).trans ((hF_197 50 j (by omega)).trans (hF_14 50 j (by omega)))))) (fun j => (up_c (by omega)).trans ((hF_230 51 j (by omega)).trans ((hF_213 51 j (by omega)).trans ((hF_197 51 j (by omega)).trans (hF_14 51 j (by omega)))))) ((up_n (by decide)).trans ((hF_230 41 29 (by omega)).trans ((hF_213 41 29 (by omega)).trans ((hF_197 41 29 (by omega)).trans (hF_14 41 29 (by omega))))))
              refine v_cv rfl rfl rfl rfl (by decide) ⟨⟨rfl, rfl⟩, by decide, rfl⟩ (Nat.le_of_ble_eq_true rfl) (Nat.le_of_ble_eq_true rfl) (s_176 (o := o) hI_248 (show 0 ≤ o ∧ o ≤ 6 from by omega) hW_263 (by omega) (by omega) (by omega) (by omega) (by omega) H174 (fun c_265 hI_266 hF_267 hW_268 h_269 h_270 h_271 h_272 h_273 => ?_))
              refine bk_inl ?_
              have h_274 := ir_41_4 hI_266
              have h_275 := ir_41_7 hI_266
              have h_276 := ir_41_29 hI_266
              have h_277 := ir_41_5 hI_266
              refine q_aload_n rfl rfl ?_
              refine q_iload_n rfl rfl ?_
              refine q_iconst rfl ?_
              refine v_cv rfl rfl rfl rfl (by decide) ⟨⟨rfl, rfl⟩, by decide, rfl⟩ (Nat.le_of_ble_eq_true rfl) (Nat.le_of_ble_eq_true rfl) (s_170 (a1 := 8) (a2 := 0) hI_266 (show 0 ≤ 8 ∧ 8 ≤ 8 from by omega) (show 0 ≤ 0 ∧ 0 ≤ 999 from by omega) hW_268 (by omega) (by omega) (by omega) (fun c_278 hI_279 hF_280 hW_281 h_282 h_283 h_284 h_285 => ?_))
              refine bk_inl ?_
              have h_286 := ir_41_29 hI_279
              refine q_goto (t := 4) rfl (by decide) ?_
              refine Wp_ls [(0, .ref 41)] (lsub_cons rfl lsub_nil) ?_
              have kn_287 : Hid (c_278 41 4 = c_265 41 4) := hF_280 41 4 (by omega)
              have h_288 : c_278 41 4 = c_265 41 4 := (hid kn_287)
              have kn_289 : Hid (c_278 41 5 = c_265 41 5) := hF_280 41 5 (by omega)
              have h_290 : c_278 41 5 = c_265 41 5 := (hid kn_289)
              have kn_291 : Hid (c_278 41 7 = c_265 41 7) := hF_280 41 7 (by omega)
              have h_292 : c_278 41 7 = c_265 41 7 := (hid kn_291)
              exact ih c_278 hI_279 (fun a j hm => (hF_280 a j (by omega)).trans ((hF_267 a j (by omega)).trans ((up_b (by omega)).trans ((hF_230 a j (by omega)).trans ((hF_213 a j (by omega)).trans ((hF_197 a j (by omega)).trans ((hF_14 a j (by omega)).trans (hF a j (by omega))))))))) hW_281 (by omega) (by omega) (by omega) (by omega) (by omega) (by omega)
            · refine v_ic_ne_f (t := 64) rfl (by decide) (by omega) ?_
              refine q_iconst rfl ?_
              refine q_goto (t := 66) rfl (by decide) ?_
              refine q_istore_n rfl (by decide) ?_
              refine q_aload_n rfl rfl ?_
              refine q_dup rfl rfl ?_
              refine v_gi (z := 4) (v := c_228 41 4) rfl rfl rfl (by decide) rfl rfl rfl ?_
              refine q_iconst rfl ?_
              refine v_iadd (v := c_228 41 4 + 1) rfl (by omega) ?_
              refine v_pi (z := 4) rfl rfl rfl (by decide) rfl rfl rfl (by decide) ?_
              refine q_aload_n rfl rfl ?_
              have kn_293 : Hid (c_12 41 5 = c2 41 5) := hF_14 41 5 (by omega)
              have kn_294 : Hid (c_195 41 5 = c2 41 5) := (hF_197 41 5 (by omega)).trans (hid kn_293)
              have kn_295 : Hid (c_211 41 5 = c2 41 5) := (hF_213 41 5 (by omega)).trans (hid kn_294)
              have kn_296 : Hid (c_228 41 5 = c2 41 5) := (hF_230 41 5 (by omega)).trans (hid kn_295)
              have hI_297 := iw_41_4 (v := c_228 41 4 + 1) hI_229 ⟨by omega, by omega⟩
              have h_298 : (up c_228 41 4 (c_228 41 4 + 1)) 41 5 = c2 41 5 := ((up_n (by decide)).trans (hid kn_296))
              have kn_299 : Hid (c_228 41 3 = c 41 3) := (hF_230 41 3 (by omega)).trans (hid kn_226)
              have h_300 : (up c_228 41 4 (c_228 41 4 + 1)) 41 3 = c 41 3 := ((up_n (by decide)).trans (hid kn_299))
              have h_301 : (up c_228 41 4 (c_228 41 4 + 1)) 41 4 = c_228 41 4 + 1 := (up_e rfl)
              have kn_302 : Hid (c_12 41 29 = c2 41 29) := hF_14 41 29 (by omega)
              have kn_303 : Hid (c_195 41 29 = c2 41 29) := (hF_197 41 29 (by omega)).trans (hid kn_302)
              have kn_304 : Hid (c_211 41 29 = c2 41 29) := (hF_213 41 29 (by omega)).trans (hid kn_303)
              have kn_305 : Hid (c_228 41 29 = c2 41 29) := (hF_230 41 29 (by omega)).trans (hid kn_304)
              have h_306 : (up c_228 41 4 (c_228 41 4 + 1)) 41 29 = c2 41 29 := ((up_n (by decide)).trans (hid kn_305))
              have kn_307 : Hid (c_12 41 7 = c2 41 7) := hF_14 41 7 (by omega)
              have kn_308 : Hid (c_195 41 7 = c2 41 7) := (hF_197 41 7 (by omega)).trans (hid kn_307)
              have kn_309 : Hid (c_211 41 7 = c2 41 7) := (hF_213 41 7 (by omega)).trans (hid kn_308)
              have kn_310 : Hid (c_228 41 7 = c2 41 7) := (hF_230 41 7 (by omega)).trans (hid kn_309)
              have h_311 : (up c_228 41 4 (c_228 41 4 + 1)) 41 7 = c2 41 7 := ((up_n (by decide)).trans (hid kn_310))
              obtain ⟨hW_312, hN_313⟩ : Nw (up c_228 41 4 (c_228 41 4 + 1)) ∧ Nh (up c_228 41 4 (c_228 41 4 + 1)) = Nh c2 := nh_fr hW2 (fun j => (up_c (by omega)).trans ((hF_230 50 j (by omega)).trans ((hF_213 50 j (by omega)).trans ((hF_197 50 j (by omega)).trans (hF_14 50 j (by omega)))))) (fun j => (up_c (by omega)).trans ((hF_230 51 j (by omega)).trans ((hF_213 51 j (by omega)).trans ((hF_197 51 j (by omega)).trans (hF_14 51 j (by omega)))))) ((up_n (by decide)).trans ((hF_230 41 29 (by omega)).trans ((hF_213 41 29 (by omega)).trans ((hF_197 41 29 (by omega)).trans (hF_14 41 29 (by omega))))))
              refine v_cv rfl rfl rfl rfl (by decide) ⟨⟨rfl, rfl⟩, by decide, rfl⟩ (Nat.le_of_ble_eq_true rfl) (Nat.le_of_ble_eq_true rfl) (s_176 (o := o) hI_297 (show 0 ≤ o ∧ o ≤ 6 from by omega) hW_312 (by omega) (by omega) (by omega) (by omega) (by omega) H174 (fun c_314 hI_315 hF_316 hW_317 h_318 h_319 h_320 h_321 h_322 => ?_))
              refine bk_inl ?_
              have h_323 := ir_41_4 hI_315
              have h_324 := ir_41_7 hI_315
              have h_325 := ir_41_29 hI_315
              have h_326 := ir_41_5 hI_315
              refine q_aload_n rfl rfl ?_
              refine q_iload_n rfl rfl ?_
              refine q_iconst rfl ?_
              refine v_cv rfl rfl rfl rfl (by decide) ⟨⟨rfl, rfl⟩, by decide, rfl⟩ (Nat.le_of_ble_eq_true rfl) (Nat.le_of_ble_eq_true rfl) (s_170 (a1 := 5) (a2 := 0) hI_315 (show 0 ≤ 5 ∧ 5 ≤ 8 from by omega) (show 0 ≤ 0 ∧ 0 ≤ 999 from by omega) hW_317 (by omega) (by omega) (by omega) (fun c_327 hI_328 hF_329 hW_330 h_331 h_332 h_333 h_334 => ?_))
              refine bk_inl ?_
              have h_335 := ir_41_29 hI_328
              refine q_goto (t := 4) rfl (by decide) ?_
              refine Wp_ls [(0, .ref 41)] (lsub_cons rfl lsub_nil) ?_
              have kn_336 : Hid (c_327 41 4 = c_314 41 4) := hF_329 41 4 (by omega)
              have h_337 : c_327 41 4 = c_314 41 4 := (hid kn_336)
              have kn_338 : Hid (c_327 41 5 = c_314 41 5) := hF_329 41 5 (by omega)
              have h_339 : c_327 41 5 = c_314 41 5 := (hid kn_338)
              have kn_340 : Hid (c_327 41 7 = c_314 41 7) := hF_329 41 7 (by omega)
              have h_341 : c_327 41 7 = c_314 41 7 := (hid kn_340)
              exact ih c_327 hI_328 (fun a j hm => (hF_329 a j (by omega)).trans ((hF_316 a j (by omega)).trans ((up_b (by omega)).trans ((hF_230 a j (by omega)).trans ((hF_213 a j (by omega)).trans ((hF_197 a j (by omega)).trans ((hF_14 a j (by omega)).trans (hF a j (by omega))))))))) hW_330 (by omega) (by omega) (by omega) (by omega) (by omega) (by omega)
          · refine v_ic_ne_f (t := 51) rfl (by decide) (by omega) ?_
            refine q_iconst rfl ?_
            refine q_goto (t := 66) rfl (by decide) ?_
            refine q_istore_n rfl (by decide) ?_
            refine q_aload_n rfl rfl ?_
            refine q_dup rfl rfl ?_
            refine v_gi (z := 4) (v := c_211 41 4) rfl rfl rfl (by decide) rfl rfl rfl ?_
            refine q_iconst rfl ?_
            refine v_iadd (v := c_211 41 4 + 1) rfl (by omega) ?_
            refine v_pi (z := 4) rfl rfl rfl (by decide) rfl rfl rfl (by decide) ?_
            refine q_aload_n rfl rfl ?_
            have kn_342 : Hid (c_12 41 5 = c2 41 5) := hF_14 41 5 (by omega)
            have kn_343 : Hid (c_195 41 5 = c2 41 5) := (hF_197 41 5 (by omega)).trans (hid kn_342)
            have kn_344 : Hid (c_211 41 5 = c2 41 5) := (hF_213 41 5 (by omega)).trans (hid kn_343)
            have hI_345 := iw_41_4 (v := c_211 41 4 + 1) hI_212 ⟨by omega, by omega⟩
            have h_346 : (up c_211 41 4 (c_211 41 4 + 1)) 41 5 = c2 41 5 := ((up_n (by decide)).trans (hid kn_344))
            have kn_347 : Hid (c_211 41 3 = c 41 3) := (hF_213 41 3 (by omega)).trans (hid kn_209)
            have h_348 : (up c_211 41 4 (c_211 41 4 + 1)) 41 3 = c 41 3 := ((up_n (by decide)).trans (hid kn_347))
            have h_349 : (up c_211 41 4 (c_211 41 4 + 1)) 41 4 = c_211 41 4 + 1 := (up_e rfl)
            have kn_350 : Hid (c_12 41 29 = c2 41 29) := hF_14 41 29 (by omega)
            have kn_351 : Hid (c_195 41 29 = c2 41 29) := (hF_197 41 29 (by omega)).trans (hid kn_350)
            have kn_352 : Hid (c_211 41 29 = c2 41 29) := (hF_213 41 29 (by omega)).trans (hid kn_351)
            have h_353 : (up c_211 41 4 (c_211 41 4 + 1)) 41 29 = c2 41 29 := ((up_n (by decide)).trans (hid kn_352))
            have kn_354 : Hid (c_12 41 7 = c2 41 7) := hF_14 41 7 (by omega)
            have kn_355 : Hid (c_195 41 7 = c2 41 7) := (hF_197 41 7 (by omega)).trans (hid kn_354)
            have kn_356 : Hid (c_211 41 7 = c2 41 7) := (hF_213 41 7 (by omega)).trans (hid kn_355)
            have h_357 : (up c_211 41 4 (c_211 41 4 + 1)) 41 7 = c2 41 7 := ((up_n (by decide)).trans (hid kn_356))
            obtain ⟨hW_358, hN_359⟩ : Nw (up c_211 41 4 (c_211 41 4 + 1)) ∧ Nh (up c_211 41 4 (c_211 41 4 + 1)) = Nh c2 := nh_fr hW2 (fun j => (up_c (by omega)).trans ((hF_213 50 j (by omega)).trans ((hF_197 50 j (by omega)).trans (hF_14 50 j (by omega))))) (fun j => (up_c (by omega)).trans ((hF_213 51 j (by omega)).trans ((hF_197 51 j (by omega)).trans (hF_14 51 j (by omega))))) ((up_n (by decide)).trans ((hF_213 41 29 (by omega)).trans ((hF_197 41 29 (by omega)).trans (hF_14 41 29 (by omega)))))
            refine v_cv rfl rfl rfl rfl (by decide) ⟨⟨rfl, rfl⟩, by decide, rfl⟩ (Nat.le_of_ble_eq_true rfl) (Nat.le_of_ble_eq_true rfl) (s_176 (o := o) hI_345 (show 0 ≤ o ∧ o ≤ 6 from by omega) hW_358 (by omega) (by omega) (by omega) (by omega) (by omega) H174 (fun c_360 hI_361 hF_362 hW_363 h_364 h_365 h_366 h_367 h_368 => ?_))
            refine bk_inl ?_
            have h_369 := ir_41_4 hI_361
            have h_370 := ir_41_7 hI_361
            have h_371 := ir_41_29 hI_361
            have h_372 := ir_41_5 hI_361
            refine q_aload_n rfl rfl ?_
            refine q_iload_n rfl rfl ?_
            refine q_iconst rfl ?_
            refine v_cv rfl rfl rfl rfl (by decide) ⟨⟨rfl, rfl⟩, by decide, rfl⟩ (Nat.le_of_ble_eq_true rfl) (Nat.le_of_ble_eq_true rfl) (s_170 (a1 := 4) (a2 := 0) hI_361 (show 0 ≤ 4 ∧ 4 ≤ 8 from by omega) (show 0 ≤ 0 ∧ 0 ≤ 999 from by omega) hW_363 (by omega) (by omega) (by omega) (fun c_373 hI_374 hF_375 hW_376 h_377 h_378 h_379 h_380 => ?_))
            refine bk_inl ?_
            have h_381 := ir_41_29 hI_374
            refine q_goto (t := 4) rfl (by decide) ?_
            refine Wp_ls [(0, .ref 41)] (lsub_cons rfl lsub_nil) ?_
            have kn_382 : Hid (c_373 41 4 = c_360 41 4) := hF_375 41 4 (by omega)
            have h_383 : c_373 41 4 = c_360 41 4 := (hid kn_382)
            have kn_384 : Hid (c_373 41 5 = c_360 41 5) := hF_375 41 5 (by omega)
            have h_385 : c_373 41 5 = c_360 41 5 := (hid kn_384)
            have kn_386 : Hid (c_373 41 7 = c_360 41 7) := hF_375 41 7 (by omega)
            have h_387 : c_373 41 7 = c_360 41 7 := (hid kn_386)
            exact ih c_373 hI_374 (fun a j hm => (hF_375 a j (by omega)).trans ((hF_362 a j (by omega)).trans ((up_b (by omega)).trans ((hF_213 a j (by omega)).trans ((hF_197 a j (by omega)).trans ((hF_14 a j (by omega)).trans (hF a j (by omega)))))))) hW_376 (by omega) (by omega) (by omega) (by omega) (by omega) (by omega)
        · refine v_ic_eq_f (t := 38) rfl (by decide) (by omega) ?_
          refine q_aload_n rfl rfl ?_
          have kn_388 : Hid (c_195 41 3 = c 41 3) := (hF_197 41 3 (by omega)).trans (hid kn_193)
          have h_389 : c_195 41 3 = c 41 3 := (hid kn_388)
          refine v_cv rfl rfl rfl rfl (by decide) ⟨⟨rfl, rfl⟩, by decide, rfl⟩ (Nat.le_of_ble_eq_true rfl) (Nat.le_of_ble_eq_true rfl) (s_154 hI_196 (fun c_390 y_393 hI_391 hF_392 hy_393 h_394 h_395 h_396 h_397 => ?_))
          refine bk_inl ?_
          have h_398 := ir_41_4 hI_391
          have h_399 := ir_43 hI (c_390 41 4)
          have kn_400 : Hid (c2 43 (c_390 41 4) = c 43 (c_390 41 4)) := hF 43 (c_390 41 4) (by omega)
          have kn_401 : Hid (c_12 43 (c_390 41 4) = c 43 (c_390 41 4)) := (hF_14 43 (c_390 41 4) (by omega)).trans (hid kn_400)
          have kn_402 : Hid (c_195 43 (c_390 41 4) = c 43 (c_390 41 4)) := (hF_197 43 (c_390 41 4) (by omega)).trans (hid kn_401)
          have h_403 : c_195 43 (c_390 41 4) = c 43 (c_390 41 4) := (hid kn_402)
          refine v_bip rfl (by decide) ?_
          by_cases h_404 : y_393 ≠ 37
          · refine v_ic_ne_t (t := 90) rfl (by decide) (by omega) ?_
            refine q_vret rfl rfl ?_
            obtain ⟨hW_405, hN_406⟩ : Nw c_390 ∧ Nh c_390 = Nh c2 := nh_fr hW2 (fun j => (hF_392 50 j (by omega)).trans ((hF_197 50 j (by omega)).trans (hF_14 50 j (by omega)))) (fun j => (hF_392 51 j (by omega)).trans ((hF_197 51 j (by omega)).trans (hF_14 51 j (by omega)))) ((hF_392 41 29 (by omega)).trans ((hF_197 41 29 (by omega)).trans (hF_14 41 29 (by omega))))
            have kn_407 : Hid (c_12 41 29 = c2 41 29) := hF_14 41 29 (by omega)
            have kn_408 : Hid (c_195 41 29 = c2 41 29) := (hF_197 41 29 (by omega)).trans (hid kn_407)
            have kn_409 : Hid (c_390 41 29 = c2 41 29) := (hF_392 41 29 (by omega)).trans (hid kn_408)
            have h_410 : c_390 41 29 = c2 41 29 := (hid kn_409)
            have kn_411 : Hid (c_12 41 5 = c2 41 5) := hF_14 41 5 (by omega)
            have kn_412 : Hid (c_195 41 5 = c2 41 5) := (hF_197 41 5 (by omega)).trans (hid kn_411)
            have kn_413 : Hid (c_390 41 5 = c2 41 5) := (hF_392 41 5 (by omega)).trans (hid kn_412)
            have h_414 : c_390 41 5 = c2 41 5 := (hid kn_413)
            have kn_415 : Hid (c_12 41 7 = c2 41 7) := hF_14 41 7 (by omega)
            have kn_416 : Hid (c_195 41 7 = c2 41 7) := (hF_197 41 7 (by omega)).trans (hid kn_415)
            have kn_417 : Hid (c_390 41 7 = c2 41 7) := (hF_392 41 7 (by omega)).trans (hid kn_416)
            have h_418 : c_390 41 7 = c2 41 7 := (hid kn_417)
            exact K c_390 hI_391 (fun a j hm => (hF_392 a j (by omega)).trans ((hF_197 a j (by omega)).trans ((hF_14 a j (by omega)).trans (hF a j (by omega))))) hW_405 (by omega) (by omega) (by omega) (by omega) (by omega)
          · refine v_ic_ne_f (t := 90) rfl (by decide) (by omega) ?_
            refine q_aload_n rfl rfl ?_
            have kn_419 : Hid (c_390 41 3 = c 41 3) := (hF_392 41 3 (by omega)).trans (hid kn_388)
            have h_420 : c_390 41 3 = c 41 3 := (hid kn_419)
            refine v_cv rfl rfl rfl rfl (by decide) ⟨⟨rfl, rfl⟩, by decide, rfl⟩ (Nat.le_of_ble_eq_true rfl) (Nat.le_of_ble_eq_true rfl) (s_154 hI_391 (fun c_421 y_424 hI_422 hF_423 hy_424 h_425 h_426 h_427 h_428 => ?_))
            refine bk_inl ?_
            have h_429 := ir_41_4 hI_422
            have h_430 := ir_43 hI (c_421 41 4)
            have kn_431 : Hid (c2 43 (c_421 41 4) = c 43 (c_421 41 4)) := hF 43 (c_421 41 4) (by omega)
            have kn_432 : Hid (c_12 43 (c_421 41 4) = c 43 (c_421 41 4)) := (hF_14 43 (c_421 41 4) (by omega)).trans (hid kn_431)
            have kn_433 : Hid (c_195 43 (c_421 41 4) = c 43 (c_421 41 4)) := (hF_197 43 (c_421 41 4) (by omega)).trans (hid kn_432)
            have kn_434 : Hid (c_390 43 (c_421 41 4) = c 43 (c_421 41 4)) := (hF_392 43 (c_421 41 4) (by omega)).trans (hid kn_433)
            have h_435 : c_390 43 (c_421 41 4) = c 43 (c_421 41 4) := (hid kn_434)
            refine v_bip rfl (by decide) ?_
            by_cases h_436 : y_424 ≠ 42
            · refine v_ic_ne_t (t := 51) rfl (by decide) (by omega) ?_
              refine q_aload_n rfl rfl ?_
              have kn_437 : Hid (c_421 41 3 = c 41 3) := (hF_423 41 3 (by omega)).trans (hid kn_419)
              have h_438 : c_421 41 3 = c 41 3 := (hid kn_437)
              refine v_cv rfl rfl rfl rfl (by decide) ⟨⟨rfl, rfl⟩, by decide, rfl⟩ (Nat.le_of_ble_eq_true rfl) (Nat.le_of_ble_eq_true rfl) (s_154 hI_422 (fun c_439 y_442 hI_440 hF_441 hy_442 h_443 h_444 h_445 h_446 => ?_))
              refine bk_inl ?_
              have h_447 := ir_41_4 hI_440
              have h_448 := ir_43 hI (c_439 41 4)
              have kn_449 : Hid (c2 43 (c_439 41 4) = c 43 (c_439 41 4)) := hF 43 (c_439 41 4) (by omega)
              have kn_450 : Hid (c_12 43 (c_439 41 4) = c 43 (c_439 41 4)) := (hF_14 43 (c_439 41 4) (by omega)).trans (hid kn_449)
              have kn_451 : Hid (c_195 43 (c_439 41 4) = c 43 (c_439 41 4)) := (hF_197 43 (c_439 41 4) (by omega)).trans (hid kn_450)
              have kn_452 : Hid (c_390 43 (c_439 41 4) = c 43 (c_439 41 4)) := (hF_392 43 (c_439 41 4) (by omega)).trans (hid kn_451)
              have kn_453 : Hid (c_421 43 (c_439 41 4) = c 43 (c_439 41 4)) := (hF_423 43 (c_439 41 4) (by omega)).trans (hid kn_452)
              have h_454 : c_421 43 (c_439 41 4) = c 43 (c_439 41 4) := (hid kn_453)
              refine v_bip rfl (by decide) ?_
              by_cases h_455 : y_442 ≠ 47
              · refine v_ic_ne_t (t := 64) rfl (by decide) (by omega) ?_
                refine v_bip rfl (by decide) ?_
                refine q_istore_n rfl (by decide) ?_
                refine q_aload_n rfl rfl ?_
                refine q_dup rfl rfl ?_
                refine v_gi (z := 4) (v := c_439 41 4) rfl rfl rfl (by decide) rfl rfl rfl ?_
                refine q_iconst rfl ?_
                refine v_iadd (v := c_439 41 4 + 1) rfl (by omega) ?_
                refine v_pi (z := 4) rfl rfl rfl (by decide) rfl rfl rfl (by decide) ?_
                refine q_aload_n rfl rfl ?_
                have kn_456 : Hid (c_12 41 5 = c2 41 5) := hF_14 41 5 (by omega)
                have kn_457 : Hid (c_195 41 5 = c2 41 5) := (hF_197 41 5 (by omega)).trans (hid kn_456)
                have kn_458 : Hid (c_390 41 5 = c2 41 5) := (hF_392 41 5 (by omega)).trans (hid kn_457)
                have kn_459 : Hid (c_421 41 5 = c2 41 5) := (hF_423 41 5 (by omega)).trans (hid kn_458)
                have kn_460 : Hid (c_439 41 5 = c2 41 5) := (hF_441 41 5 (by omega)).trans (hid kn_459)
                have hI_461 := iw_41_4 (v := c_439 41 4 + 1) hI_440 ⟨by omega, by omega⟩
                have h_462 : (up c_439 41 4 (c_439 41 4 + 1)) 41 5 = c2 41 5 := ((up_n (by decide)).trans (hid kn_460))
                have kn_463 : Hid (c_439 41 3 = c 41 3) := (hF_441 41 3 (by omega)).trans (hid kn_437)
                have h_464 : (up c_439 41 4 (c_439 41 4 + 1)) 41 3 = c 41 3 := ((up_n (by decide)).trans (hid kn_463))
                have h_465 : (up c_439 41 4 (c_439 41 4 + 1)) 41 4 = c_439 41 4 + 1 := (up_e rfl)
                have kn_466 : Hid (c_12 41 29 = c2 41 29) := hF_14 41 29 (by omega)
                have kn_467 : Hid (c_195 41 29 = c2 41 29) := (hF_197 41 29 (by omega)).trans (hid kn_466)
                have kn_468 : Hid (c_390 41 29 = c2 41 29) := (hF_392 41 29 (by omega)).trans (hid kn_467)
                have kn_469 : Hid (c_421 41 29 = c2 41 29) := (hF_423 41 29 (by omega)).trans (hid kn_468)
                have kn_470 : Hid (c_439 41 29 = c2 41 29) := (hF_441 41 29 (by omega)).trans (hid kn_469)
                have h_471 : (up c_439 41 4 (c_439 41 4 + 1)) 41 29 = c2 41 29 := ((up_n (by decide)).trans (hid kn_470))
                have kn_472 : Hid (c_12 41 7 = c2 41 7) := hF_14 41 7 (by omega)
                have kn_473 : Hid (c_195 41 7 = c2 41 7) := (hF_197 41 7 (by omega)).trans (hid kn_472)
                have kn_474 : Hid (c_390 41 7 = c2 41 7) := (hF_392 41 7 (by omega)).trans (hid kn_473)
                have kn_475 : Hid (c_421 41 7 = c2 41 7) := (hF_423 41 7 (by omega)).trans (hid kn_474)
                have kn_476 : Hid (c_439 41 7 = c2 41 7) := (hF_441 41 7 (by omega)).trans (hid kn_475)
                have h_477 : (up c_439 41 4 (c_439 41 4 + 1)) 41 7 = c2 41 7 := ((up_n (by decide)).trans (hid kn_476))
                obtain ⟨hW_478, hN_479⟩ : Nw (up c_439 41 4 (c_439 41 4 + 1)) ∧ Nh (up c_439 41 4 (c_439 41 4 + 1)) = Nh c2 := nh_fr hW2 (fun j => (up_c (by omega)).trans ((hF_441 50 j (by omega)).trans ((hF_423 50 j (by omega)).trans ((hF_392 50 j (by omega)).trans ((hF_197 50 j (by omega)).trans (hF_14 50 j (by omega))))))) (fun j => (up_c (by omega)).trans ((hF_441 51 j (by omega)).trans ((hF_423 51 j (by omega)).trans ((hF_392 51 j (by omega)).trans ((hF_197 51 j (by omega)).trans (hF_14 51 j (by omega))))))) ((up_n (by decide)).trans ((hF_441 41 29 (by omega)).trans ((hF_423 41 29 (by omega)).trans ((hF_392 41 29 (by omega)).trans ((hF_197 41 29 (by omega)).trans (hF_14 41 29 (by omega)))))))
                refine v_cv rfl rfl rfl rfl (by decide) ⟨⟨rfl, rfl⟩, by decide, rfl⟩ (Nat.le_of_ble_eq_true rfl) (Nat.le_of_ble_eq_true rfl) (s_176 (o := o) hI_461 (show 0 ≤ o ∧ o ≤ 6 from by omega) hW_478 (by omega) (by omega) (by omega) (by omega) (by omega) H174 (fun c_480 hI_481 hF_482 hW_483 h_484 h_485 h_486 h_487 h_488 => ?_))
                refine bk_inl ?_
                have h_489 := ir_41_4 hI_481
                have h_490 := ir_41_7 hI_481
                have h_491 := ir_41_29 hI_481
                have h_492 := ir_41_5 hI_481
                refine q_aload_n rfl rfl ?_
                refine q_iload_n rfl rfl ?_
                refine q_iconst rfl ?_
                refine v_cv rfl rfl rfl rfl (by decide) ⟨⟨rfl, rfl⟩, by decide, rfl⟩ (Nat.le_of_ble_eq_true rfl) (Nat.le_of_ble_eq_true rfl) (s_170 (a1 := 8) (a2 := 0) hI_481 (show 0 ≤ 8 ∧ 8 ≤ 8 from by omega) (show 0 ≤ 0 ∧ 0 ≤ 999 from by omega) hW_483 (by omega) (by omega) (by omega) (fun c_493 hI_494 hF_495 hW_496 h_497 h_498 h_499 h_500 => ?_))
                refine bk_inl ?_
                have h_501 := ir_41_29 hI_494
                refine q_goto (t := 4) rfl (by decide) ?_
                refine Wp_ls [(0, .ref 41)] (lsub_cons rfl lsub_nil) ?_
                have kn_502 : Hid (c_493 41 4 = c_480 41 4) := hF_495 41 4 (by omega)
                have h_503 : c_493 41 4 = c_480 41 4 := (hid kn_502)
                have kn_504 : Hid (c_493 41 5 = c_480 41 5) := hF_495 41 5 (by omega)
                have h_505 : c_493 41 5 = c_480 41 5 := (hid kn_504)
                have kn_506 : Hid (c_493 41 7 = c_480 41 7) := hF_495 41 7 (by omega)
                have h_507 : c_493 41 7 = c_480 41 7 := (hid kn_506)
                exact ih c_493 hI_494 (fun a j hm => (hF_495 a j (by omega)).trans ((hF_482 a j (by omega)).trans ((up_b (by omega)).trans ((hF_441 a j (by omega)).trans ((hF_423 a j (by omega)).trans ((hF_392 a j (by omega)).trans ((hF_197 a j (by omega)).trans ((hF_14 a j (by omega)).trans (hF a j (by omega)))))))))) hW_496 (by omega) (by omega) (by omega) (by omega) (by omega) (by omega)
              · refine v_ic_ne_f (t := 64) rfl (by decide) (by omega) ?_
                refine q_iconst rfl ?_
                refine q_goto (t := 66) rfl (by decide) ?_
                refine q_istore_n rfl (by decide) ?_
                refine q_aload_n rfl rfl ?_
                refine q_dup rfl rfl ?_
                refine v_gi (z := 4) (v := c_439 41 4) rfl rfl rfl (by decide) rfl rfl rfl ?_
                refine q_iconst rfl ?_
                refine v_iadd (v := c_439 41 4 + 1) rfl (by omega) ?_
                refine v_pi (z := 4) rfl rfl rfl (by decide) rfl rfl rfl (by decide) ?_
                refine q_aload_n rfl rfl ?_
                have kn_508 : Hid (c_12 41 5 = c2 41 5) := hF_14 41 5 (by omega)
                have kn_509 : Hid (c_195 41 5 = c2 41 5) := (hF_197 41 5 (by omega)).trans (hid kn_508)
                have kn_510 : Hid (c_390 41 5 = c2 41 5) := (hF_392 41 5 (by omega)).trans (hid kn_509)
                have kn_511 : Hid (c_421 41 5 = c2 41 5) := (hF_423 41 5 (by omega)).trans (hid kn_510)
                have kn_512 : Hid (c_439 41 5 = c2 41 5) := (hF_441 41 5 (by omega)).trans (hid kn_511)
                have hI_513 := iw_41_4 (v := c_439 41 4 + 1) hI_440 ⟨by omega, by omega⟩
                have h_514 : (up c_439 41 4 (c_439 41 4 + 1)) 41 5 = c2 41 5 := ((up_n (by decide)).trans (hid kn_512))
                have kn_515 : Hid (c_439 41 3 = c 41 3) := (hF_441 41 3 (by omega)).trans (hid kn_437)
                have h_516 : (up c_439 41 4 (c_439 41 4 + 1)) 41 3 = c 41 3 := ((up_n (by decide)).trans (hid kn_515))
                have h_517 : (up c_439 41 4 (c_439 41 4 + 1)) 41 4 = c_439 41 4 + 1 := (up_e rfl)
                have kn_518 : Hid (c_12 41 29 = c2 41 29) := hF_14 41 29 (by omega)
                have kn_519 : Hid (c_195 41 29 = c2 41 29) := (hF_197 41 29 (by omega)).trans (hid kn_518)
                have kn_520 : Hid (c_390 41 29 = c2 41 29) := (hF_392 41 29 (by omega)).trans (hid kn_519)
                have kn_521 : Hid (c_421 41 29 = c2 41 29) := (hF_423 41 29 (by omega)).trans (hid kn_520)
                have kn_522 : Hid (c_439 41 29 = c2 41 29) := (hF_441 41 29 (by omega)).trans (hid kn_521)
                have h_523 : (up c_439 41 4 (c_439 41 4 + 1)) 41 29 = c2 41 29 := ((up_n (by decide)).trans (hid kn_522))
                have kn_524 : Hid (c_12 41 7 = c2 41 7) := hF_14 41 7 (by omega)
                have kn_525 : Hid (c_195 41 7 = c2 41 7) := (hF_197 41 7 (by omega)).trans (hid kn_524)
                have kn_526 : Hid (c_390 41 7 = c2 41 7) := (hF_392 41 7 (by omega)).trans (hid kn_525)
                have kn_527 : Hid (c_421 41 7 = c2 41 7) := (hF_423 41 7 (by omega)).trans (hid kn_526)
                have kn_528 : Hid (c_439 41 7 = c2 41 7) := (hF_441 41 7 (by omega)).trans (hid kn_527)
                have h_529 : (up c_439 41 4 (c_439 41 4 + 1)) 41 7 = c2 41 7 := ((up_n (by decide)).trans (hid kn_528))
                obtain ⟨hW_530, hN_531⟩ : Nw (up c_439 41 4 (c_439 41 4 + 1)) ∧ Nh (up c_439 41 4 (c_439 41 4 + 1)) = Nh c2 := nh_fr hW2 (fun j => (up_c (by omega)).trans ((hF_441 50 j (by omega)).trans ((hF_423 50 j (by omega)).trans ((hF_392 50 j (by omega)).trans ((hF_197 50 j (by omega)).trans (hF_14 50 j (by omega))))))) (fun j => (up_c (by omega)).trans ((hF_441 51 j (by omega)).trans ((hF_423 51 j (by omega)).trans ((hF_392 51 j (by omega)).trans ((hF_197 51 j (by omega)).trans (hF_14 51 j (by omega))))))) ((up_n (by decide)).trans ((hF_441 41 29 (by omega)).trans ((hF_423 41 29 (by omega)).trans ((hF_392 41 29 (by omega)).trans ((hF_197 41 29 (by omega)).trans (hF_14 41 29 (by omega)))))))
                refine v_cv rfl rfl rfl rfl (by decide) ⟨⟨rfl, rfl⟩, by decide, rfl⟩ (Nat.le_of_ble_eq_true rfl) (Nat.le_of_ble_eq_true rfl) (s_176 (o := o) hI_513 (show 0 ≤ o ∧ o ≤ 6 from by omega) hW_530 (by omega) (by omega) (by omega) (by omega) (by omega) H174 (fun c_532 hI_533 hF_534 hW_535 h_536 h_537 h_538 h_539 h_540 => ?_))
                refine bk_inl ?_
                have h_541 := ir_41_4 hI_533
                have h_542 := ir_41_7 hI_533
                have h_543 := ir_41_29 hI_533
                have h_544 := ir_41_5 hI_533
                refine q_aload_n rfl rfl ?_
                refine q_iload_n rfl rfl ?_
                refine q_iconst rfl ?_
                refine v_cv rfl rfl rfl rfl (by decide) ⟨⟨rfl, rfl⟩, by decide, rfl⟩ (Nat.le_of_ble_eq_true rfl) (Nat.le_of_ble_eq_true rfl) (s_170 (a1 := 5) (a2 := 0) hI_533 (show 0 ≤ 5 ∧ 5 ≤ 8 from by omega) (show 0 ≤ 0 ∧ 0 ≤ 999 from by omega) hW_535 (by omega) (by omega) (by omega) (fun c_545 hI_546 hF_547 hW_548 h_549 h_550 h_551 h_552 => ?_))
                refine bk_inl ?_
                have h_553 := ir_41_29 hI_546
                refine q_goto (t := 4) rfl (by decide) ?_
                refine Wp_ls [(0, .ref 41)] (lsub_cons rfl lsub_nil) ?_
                have kn_554 : Hid (c_545 41 4 = c_532 41 4) := hF_547 41 4 (by omega)
                have h_555 : c_545 41 4 = c_532 41 4 := (hid kn_554)
                have kn_556 : Hid (c_545 41 5 = c_532 41 5) := hF_547 41 5 (by omega)
                have h_557 : c_545 41 5 = c_532 41 5 := (hid kn_556)
                have kn_558 : Hid (c_545 41 7 = c_532 41 7) := hF_547 41 7 (by omega)
                have h_559 : c_545 41 7 = c_532 41 7 := (hid kn_558)
                exact ih c_545 hI_546 (fun a j hm => (hF_547 a j (by omega)).trans ((hF_534 a j (by omega)).trans ((up_b (by omega)).trans ((hF_441 a j (by omega)).trans ((hF_423 a j (by omega)).trans ((hF_392 a j (by omega)).trans ((hF_197 a j (by omega)).trans ((hF_14 a j (by omega)).trans (hF a j (by omega)))))))))) hW_548 (by omega) (by omega) (by omega) (by omega) (by omega) (by omega)
            · refine v_ic_ne_f (t := 51) rfl (by decide) (by omega) ?_
              refine q_iconst rfl ?_
              refine q_goto (t := 66) rfl (by decide) ?_
              refine q_istore_n rfl (by decide) ?_
              refine q_aload_n rfl rfl ?_
              refine q_dup rfl rfl ?_
              refine v_gi (z := 4) (v := c_421 41 4) rfl rfl rfl (by decide) rfl rfl rfl ?_
              refine q_iconst rfl ?_
              refine v_iadd (v := c_421 41 4 + 1) rfl (by omega) ?_
              refine v_pi (z := 4) rfl rfl rfl (by decide) rfl rfl rfl (by decide) ?_
              refine q_aload_n rfl rfl ?_
              have kn_560 : Hid (c_12 41 5 = c2 41 5) := hF_14 41 5 (by omega)
              have kn_561 : Hid (c_195 41 5 = c2 41 5) := (hF_197 41 5 (by omega)).trans (hid kn_560)
              have kn_562 : Hid (c_390 41 5 = c2 41 5) := (hF_392 41 5 (by omega)).trans (hid kn_561)
              have kn_563 : Hid (c_421 41 5 = c2 41 5) := (hF_423 41 5 (by omega)).trans (hid kn_562)
              have hI_564 := iw_41_4 (v := c_421 41 4 + 1) hI_422 ⟨by omega, by omega⟩
              have h_565 : (up c_421 41 4 (c_421 41 4 + 1)) 41 5 = c2 41 5 := ((up_n (by decide)).trans (hid kn_563))
              have kn_566 : Hid (c_421 41 3 = c 41 3) := (hF_423 41 3 (by omega)).trans (hid kn_419)
              have h_567 : (up c_421 41 4 (c_421 41 4 + 1)) 41 3 = c 41 3 := ((up_n (by decide)).trans (hid kn_566))
              have h_568 : (up c_421 41 4 (c_421 41 4 + 1)) 41 4 = c_421 41 4 + 1 := (up_e rfl)
              have kn_569 : Hid (c_12 41 29 = c2 41 29) := hF_14 41 29 (by omega)
              have kn_570 : Hid (c_195 41 29 = c2 41 29) := (hF_197 41 29 (by omega)).trans (hid kn_569)
              have kn_571 : Hid (c_390 41 29 = c2 41 29) := (hF_392 41 29 (by omega)).trans (hid kn_570)
              have kn_572 : Hid (c_421 41 29 = c2 41 29) := (hF_423 41 29 (by omega)).trans (hid kn_571)
              have h_573 : (up c_421 41 4 (c_421 41 4 + 1)) 41 29 = c2 41 29 := ((up_n (by decide)).trans (hid kn_572))
              have kn_574 : Hid (c_12 41 7 = c2 41 7) := hF_14 41 7 (by omega)
              have kn_575 : Hid (c_195 41 7 = c2 41 7) := (hF_197 41 7 (by omega)).trans (hid kn_574)
              have kn_576 : Hid (c_390 41 7 = c2 41 7) := (hF_392 41 7 (by omega)).trans (hid kn_575)
              have kn_577 : Hid (c_421 41 7 = c2 41 7) := (hF_423 41 7 (by omega)).trans (hid kn_576)
              have h_578 : (up c_421 41 4 (c_421 41 4 + 1)) 41 7 = c2 41 7 := ((up_n (by decide)).trans (hid kn_577))
              obtain ⟨hW_579, hN_580⟩ : Nw (up c_421 41 4 (c_421 41 4 + 1)) ∧ Nh (up c_421 41 4 (c_421 41 4 + 1)) = Nh c2 := nh_fr hW2 (fun j => (up_c (by omega)).trans ((hF_423 50 j (by omega)).trans ((hF_392 50 j (by omega)).trans ((hF_197 50 j (by omega)).trans (hF_14 50 j (by omega)))))) (fun j => (up_c (by omega)).trans ((hF_423 51 j (by omega)).trans ((hF_392 51 j (by omega)).trans ((hF_197 51 j (by omega)).trans (hF_14 51 j (by omega)))))) ((up_n (by decide)).trans ((hF_423 41 29 (by omega)).trans ((hF_392 41 29 (by omega)).trans ((hF_197 41 29 (by omega)).trans (hF_14 41 29 (by omega))))))
              refine v_cv rfl rfl rfl rfl (by decide) ⟨⟨rfl, rfl⟩, by decide, rfl⟩ (Nat.le_of_ble_eq_true rfl) (Nat.le_of_ble_eq_true rfl) (s_176 (o := o) hI_564 (show 0 ≤ o ∧ o ≤ 6 from by omega) hW_579 (by omega) (by omega) (by omega) (by omega) (by omega) H174 (fun c_581 hI_582 hF_583 hW_584 h_585 h_586 h_587 h_588 h_589 => ?_))
              refine bk_inl ?_
              have h_590 := ir_41_4 hI_582
              have h_591 := ir_41_7 hI_582
              have h_592 := ir_41_29 hI_582
              have h_593 := ir_41_5 hI_582
              refine q_aload_n rfl rfl ?_
              refine q_iload_n rfl rfl ?_
              refine q_iconst rfl ?_
              refine v_cv rfl rfl rfl rfl (by decide) ⟨⟨rfl, rfl⟩, by decide, rfl⟩ (Nat.le_of_ble_eq_true rfl) (Nat.le_of_ble_eq_true rfl) (s_170 (a1 := 4) (a2 := 0) hI_582 (show 0 ≤ 4 ∧ 4 ≤ 8 from by omega) (show 0 ≤ 0 ∧ 0 ≤ 999 from by omega) hW_584 (by omega) (by omega) (by omega) (fun c_594 hI_595 hF_596 hW_597 h_598 h_599 h_600 h_601 => ?_))
              refine bk_inl ?_
              have h_602 := ir_41_29 hI_595
              refine q_goto (t := 4) rfl (by decide) ?_
              refine Wp_ls [(0, .ref 41)] (lsub_cons rfl lsub_nil) ?_
              have kn_603 : Hid (c_594 41 4 = c_581 41 4) := hF_596 41 4 (by omega)
              have h_604 : c_594 41 4 = c_581 41 4 := (hid kn_603)
              have kn_605 : Hid (c_594 41 5 = c_581 41 5) := hF_596 41 5 (by omega)
              have h_606 : c_594 41 5 = c_581 41 5 := (hid kn_605)
              have kn_607 : Hid (c_594 41 7 = c_581 41 7) := hF_596 41 7 (by omega)
              have h_608 : c_594 41 7 = c_581 41 7 := (hid kn_607)
              exact ih c_594 hI_595 (fun a j hm => (hF_596 a j (by omega)).trans ((hF_583 a j (by omega)).trans ((up_b (by omega)).trans ((hF_423 a j (by omega)).trans ((hF_392 a j (by omega)).trans ((hF_197 a j (by omega)).trans ((hF_14 a j (by omega)).trans (hF a j (by omega))))))))) hW_597 (by omega) (by omega) (by omega) (by omega) (by omega) (by omega)
set_option maxRecDepth 100000 in
set_option maxHeartbeats 4000000 in
theorem s_173 {sc : List Int32} {e : Int} {d u P Q : Nat} {c : ME} {o : Int} {Z : AR → Prop} (hI : Iv u e P Q c) (ho : 0 ≤ o ∧ o ≤ 6) (hW : Nw c) (hq0 : (c 41 5 = (-1))) (hq1 : (c 41 4 ≤ c 41 3)) (hq2 : (c 41 3 ≤ 150)) (hq3 : (c 41 29 ≤ c 41 4)) (hq4 : (c 41 7 = o)) (H174 : ∀ (d9 : Nat) (c : ME) (Z : AR → Prop), d ≤ d9 → o + 1 ≤ 6 → Iv u e P Q c → Nw c → ((c 41 5 = (-1))) → ((c 41 4 ≤ c 41 3)) → ((c 41 3 ≤ 150)) → ((c 41 29 ≤ c 41 4)) → (c 41 7 = o + 1) → (∀ c2 : ME, Iv u e P Q c2 → (∀ (a : Nat) (j : Int), ¬ ((a = 41 ∧ j = 4) ∨ (a = 41 ∧ j = 5) ∨ (a = 41 ∧ j = 6) ∨ (a = 41 ∧ j = 7) ∨ (a = 41 ∧ j = 29) ∨ a = 50 ∨ a = 51) → c2 a j = c a j) → Nw c2 → ((c2 41 4 ≥ c 41 4)) → ((c2 41 7 = c 41 7)) → ((c 41 4 + c2 41 29 ≤ c 41 29 + c2 41 4)) → ((c2 41 5 < (-1)) ∨ (c2 41 5 > (-1)) ∨ (c2 41 4 ≤ c 41 3)) → ((c2 41 5 < (-1)) ∨ (c2 41 5 > (-1)) ∨ (Nh c2 = Nh c + 1)) → Z (.inl none, Wd P Q P P c2, 0, 0)) → Wp sc (d9 + 12) 174 0 [(0, .ref 41)] [] (Wd P Q P P c) 0 0 Z) (K : ∀ (c2 : ME), Iv u e P Q c2 → (∀ (a : Nat) (j : Int), ¬ ((a = 41 ∧ j = 4) ∨ (a = 41 ∧ j = 5) ∨ (a = 41 ∧ j = 6) ∨ (a = 41 ∧ j = 7) ∨ (a = 41 ∧ j = 29) ∨ a = 50 ∨ a = 51) → c2 a j = c a j) → Nw c2 → ((c2 41 4 ≥ c 41 4)) → ((c2 41 7 = c 41 7)) → ((c 41 4 + c2 41 29 ≤ c 41 29 + c2 41 4)) → ((c2 41 5 < (-1)) ∨ (c2 41 5 > (-1)) ∨ (c2 41 4 ≤ c 41 3)) → ((c2 41 5 < (-1)) ∨ (c2 41 5 > (-1)) ∨ (Nh c2 = Nh c + 1)) → Z (.inl (none), Wd P Q P P c2, 0, 0)) : Wp sc (d + 15) 173 0 [(0, .ref 41)] [] (Wd P Q P P c) 0 0 Z := by
  have hP := iv_P hI
  have hQ := iv_Q hI
  have h_610 := ir_41_5 hI
  have h_611 := ir_41_3 hI
  have h_612 := ir_41_4 hI
  have h_613 := ir_41_29 hI
  have h_614 := ir_41_7 hI
  refine q_aload_n rfl rfl ?_
  refine v_cv rfl rfl rfl rfl (by decide) ⟨⟨rfl, rfl⟩, by decide, rfl⟩ (Nat.le_of_ble_eq_true rfl) (Nat.le_of_ble_eq_true rfl) (s_176 (o := o) hI (show 0 ≤ o ∧ o ≤ 6 from by omega) hW (by omega) (by omega) (by omega) (by omega) (by omega) H174 (fun c_615 hI_616 hF_617 hW_618 h_619 h_620 h_621 h_622 h_623 => ?_))
  refine bk_inl ?_
  have h_624 := ir_41_4 hI_616
  have h_625 := ir_41_7 hI_616
  have h_626 := ir_41_29 hI_616
  have h_627 := ir_41_5 hI_616
  refine Wp_ls [(0, .ref 41)] (lsub_cons rfl lsub_nil) ?_
  exact (s_173_l (sc := sc) (d := d) hI ho hW hq0 hq1 hq2 hq3 hq4 H174 K 1214) c_615 hI_616 (fun a j hm => hF_617 a j (by omega)) hW_618 (by omega) (by omega) (by omega) (by omega) (by omega) (by omega)

set_option maxRecDepth 100000 in
set_option maxHeartbeats 4000000 in
theorem s_174_l {sc : List Int32} {e : Int} {d u P Q : Nat} {c : ME} {o : Int} {Z : AR → Prop} (hI : Iv u e P Q c) (ho : 0 ≤ o ∧ o ≤ 6) (hW : Nw c) (hq0 : (c 41 5 = (-1))) (hq1 : (c 41 4 ≤ c 41 3)) (hq2 : (c 41 3 ≤ 150)) (hq3 : (c 41 29 ≤ c 41 4)) (hq4 : (c 41 7 = o)) (H174 : ∀ (d9 : Nat) (c : ME) (Z : AR → Prop), d ≤ d9 → o + 1 ≤ 6 → Iv u e P Q c → Nw c → ((c 41 5 = (-1))) → ((c 41 4 ≤ c 41 3)) → ((c 41 3 ≤ 150)) → ((c 41 29 ≤ c 41 4)) → (c 41 7 = o + 1) → (∀ c2 : ME, Iv u e P Q c2 → (∀ (a : Nat) (j : Int), ¬ ((a = 41 ∧ j = 4) ∨ (a = 41 ∧ j = 5) ∨ (a = 41 ∧ j = 6) ∨ (a = 41 ∧ j = 7) ∨ (a = 41 ∧ j = 29) ∨ a = 50 ∨ a = 51) → c2 a j = c a j) → Nw c2 → ((c2 41 4 ≥ c 41 4)) → ((c2 41 7 = c 41 7)) → ((c 41 4 + c2 41 29 ≤ c 41 29 + c2 41 4)) → ((c2 41 5 < (-1)) ∨ (c2 41 5 > (-1)) ∨ (c2 41 4 ≤ c 41 3)) → ((c2 41 5 < (-1)) ∨ (c2 41 5 > (-1)) ∨ (Nh c2 = Nh c + 1)) → Z (.inl none, Wd P Q P P c2, 0, 0)) → Wp sc (d9 + 12) 174 0 [(0, .ref 41)] [] (Wd P Q P P c) 0 0 Z) (K : ∀ (c2 : ME), Iv u e P Q c2 → (∀ (a : Nat) (j : Int), ¬ ((a = 41 ∧ j = 4) ∨ (a = 41 ∧ j = 5) ∨ (a = 41 ∧ j = 6) ∨ (a = 41 ∧ j = 7) ∨ (a = 41 ∧ j = 29) ∨ a = 50 ∨ a = 51) → c2 a j = c a j) → Nw c2 → ((c2 41 4 ≥ c 41 4)) → ((c2 41 7 = c 41 7)) → ((c 41 4 + c2 41 29 ≤ c 41 29 + c2 41 4)) → ((c2 41 5 < (-1)) ∨ (c2 41 5 > (-1)) ∨ (c2 41 4 ≤ c 41 3)) → ((c2 41 5 < (-1)) ∨ (c2 41 5 > (-1)) ∨ (Nh c2 = Nh c + 1)) → Z (.inl (none), Wd P Q P P c2, 0, 0)) : ∀ n : Nat, (∀ (c2 : ME), Iv u e P Q c2 → (∀ (a : Nat) (j : Int), ¬ ((a = 41 ∧ j = 4) ∨ (a = 41 ∧ j = 5) ∨ (a = 41 ∧ j = 6) ∨ (a = 41 ∧ j = 7) ∨ (a = 41 ∧ j = 29) ∨ a = 50 ∨ a = 51) → c2 a j = c a j) → Nw c2 → ((c2 41 4 ≥ c 41 4)) → ((c2 41 7 = c 41 7)) → ((c 41 4 + c2 41 29 ≤ c 41 29 + c2 41 4)) → ((c2 41 5 < (-1)) ∨ (c2 41 5 > (-1)) ∨ (c2 41 4 ≤ c 41 3)) → ((c2 41 5 < (-1)) ∨ (c2 41 5 > (-1)) ∨ (Nh c2 = Nh c + 1)) → 1211 - 2 * c2 41 4 < (n : Int) → Wp sc (d + 16) 174 4 [(0, .ref 41)] [] (Wd P Q P P c2) 0 0 Z)
  | 0 => by intro c2 hI2 hF hW2 hx0 hx1 hx2 hx3 hx4 hm9; have hP := iv_P hI; have hQ := iv_Q hI; have h_263 := ir_41_4 hI2; exfalso; omega
  | n + 1 => by
    have hP := iv_P hI
    have hQ := iv_Q hI
    have ih := s_174_l (sc := sc) (d := d) hI ho hW hq0 hq1 hq2 hq3 hq4 H174 K n
    intro c2 hI2 hF hW2 hx0 hx1 hx2 hx3 hx4 hm9
    have h_1 := ir_41_4 hI
    have h_2 := ir_41_4 hI2
    have h_3 := ir_41_7 hI
    have h_4 := ir_41_7 hI2
    have h_5 := ir_41_29 hI
    have h_6 := ir_41_29 hI2
    have h_7 := ir_41_3 hI
    have h_8 := ir_41_5 hI2
    refine q_aload_n rfl rfl ?_
    refine v_cv rfl rfl rfl rfl (by decide) ⟨⟨rfl, rfl⟩, by decide, rfl⟩ (Nat.le_of_ble_eq_true rfl) (Nat.le_of_ble_eq_true rfl) ?_
    refine q_aload_n rfl rfl ?_
    refine v_gi (z := 5) (v := c2 41 5) rfl rfl rfl (by decide) rfl rfl rfl ?_
    refine q_iconst rfl ?_
    by_cases h_9 : c2 41 5 ≠ (-1)
    · refine v_ic_ne_t (t := 12) rfl (by decide) (by omega) ?_
      refine q_iconst rfl ?_
      refine v_zret rfl rfl (by omega) ?_
      refine bk_inl ?_
      refine v_if_eq_t (t := 67) rfl (by decide) (by decide) ?_
      refine q_vret rfl rfl ?_
      exact K c2 hI2 (fun a j hm => hF a j (by omega)) hW2 (by omega) (by omega) (by omega) (by omega) (by omega)
    · refine v_ic_ne_f (t := 12) rfl (by decide) (by omega) ?_
      refine q_iconst rfl ?_
      refine q_goto (t := 13) rfl (by decide) ?_
      refine v_zret rfl rfl (by omega) ?_
      refine bk_inl ?_
      refine v_if_eq_f (t := 67) rfl (by decide) (by decide) ?_
      refine q_aload_n rfl rfl ?_
      have kn_10 : Hid (c2 41 3 = c 41 3) := hF 41 3 (by omega)
      have h_11 : c2 41 3 = c 41 3 := (hid kn_10)
      refine v_cv rfl rfl rfl rfl (by decide) ⟨⟨rfl, rfl⟩, by decide, rfl⟩ (Nat.le_of_ble_eq_true rfl) (Nat.le_of_ble_eq_true rfl) (s_154 hI2 (fun c_12 y_15 hI_13 hF_14 hy_15 h_16 h_17 h_18 h_19 => ?_))
      refine bk_inl ?_
      have h_20 := ir_41_4 hI_13
      have h_21 := ir_43 hI (c_12 41 4)
      have kn_22 : Hid (c2 43 (c_12 41 4) = c 43 (c_12 41 4)) := hF 43 (c_12 41 4) (by omega)
      have h_23 : c2 43 (c_12 41 4) = c 43 (c_12 41 4) := (hid kn_22)
      refine v_bip rfl (by decide) ?_
      by_cases h_24 : y_15 = 43
      · refine v_ic_eq_t (t := 29) rfl (by decide) (by omega) ?_
        refine q_aload_n rfl rfl ?_
        have kn_25 : Hid (c_12 41 3 = c 41 3) := (hF_14 41 3 (by omega)).trans (hid kn_10)
        have h_26 : c_12 41 3 = c 41 3 := (hid kn_25)
        refine v_cv rfl rfl rfl rfl (by decide) ⟨⟨rfl, rfl⟩, by decide, rfl⟩ (Nat.le_of_ble_eq_true rfl) (Nat.le_of_ble_eq_true rfl) (s_154 hI_13 (fun c_27 y_30 hI_28 hF_29 hy_30 h_31 h_32 h_33 h_34 => ?_))
        refine bk_inl ?_
        have h_35 := ir_41_4 hI_28
        have h_36 := ir_43 hI (c_27 41 4)
        have kn_37 : Hid (c2 43 (c_27 41 4) = c 43 (c_27 41 4)) := hF 43 (c_27 41 4) (by omega)
        have kn_38 : Hid (c_12 43 (c_27 41 4) = c 43 (c_27 41 4)) := (hF_14 43 (c_27 41 4) (by omega)).trans (hid kn_37)
        have h_39 : c_12 43 (c_27 41 4) = c 43 (c_27 41 4) := (hid kn_38)
        refine v_bip rfl (by decide) ?_
        by_cases h_40 : y_30 ≠ 43
        · refine v_ic_ne_t (t := 42) rfl (by decide) (by omega) ?_
          refine q_iconst rfl ?_
          refine q_istore_n rfl (by decide) ?_
          refine q_aload_n rfl rfl ?_
          refine q_dup rfl rfl ?_
          refine v_gi (z := 4) (v := c_27 41 4) rfl rfl rfl (by decide) rfl rfl rfl ?_
          refine q_iconst rfl ?_
          refine v_iadd (v := c_27 41 4 + 1) rfl (by omega) ?_
          refine v_pi (z := 4) rfl rfl rfl (by decide) rfl rfl rfl (by decide) ?_
          refine q_aload_n rfl rfl ?_
          have kn_41 : Hid (c_12 41 5 = c2 41 5) := hF_14 41 5 (by omega)
          have kn_42 : Hid (c_27 41 5 = c2 41 5) := (hF_29 41 5 (by omega)).trans (hid kn_41)
          have hI_43 := iw_41_4 (v := c_27 41 4 + 1) hI_28 ⟨by omega, by omega⟩
          have h_44 : (up c_27 41 4 (c_27 41 4 + 1)) 41 5 = c2 41 5 := ((up_n (by decide)).trans (hid kn_42))
          have kn_45 : Hid (c_27 41 3 = c 41 3) := (hF_29 41 3 (by omega)).trans (hid kn_25)
          have h_46 : (up c_27 41 4 (c_27 41 4 + 1)) 41 3 = c 41 3 := ((up_n (by decide)).trans (hid kn_45))
          have h_47 : (up c_27 41 4 (c_27 41 4 + 1)) 41 4 = c_27 41 4 + 1 := (up_e rfl)
          have kn_48 : Hid (c_12 41 29 = c2 41 29) := hF_14 41 29 (by omega)
          have kn_49 : Hid (c_27 41 29 = c2 41 29) := (hF_29 41 29 (by omega)).trans (hid kn_48)
          have h_50 : (up c_27 41 4 (c_27 41 4 + 1)) 41 29 = c2 41 29 := ((up_n (by decide)).trans (hid kn_49))
          have kn_51 : Hid (c_12 41 7 = c2 41 7) := hF_14 41 7 (by omega)
          have kn_52 : Hid (c_27 41 7 = c2 41 7) := (hF_29 41 7 (by omega)).trans (hid kn_51)
          have h_53 : (up c_27 41 4 (c_27 41 4 + 1)) 41 7 = c2 41 7 := ((up_n (by decide)).trans (hid kn_52))
          obtain ⟨hW_54, hN_55⟩ : Nw (up c_27 41 4 (c_27 41 4 + 1)) ∧ Nh (up c_27 41 4 (c_27 41 4 + 1)) = Nh c2 := nh_fr hW2 (fun j => (up_c (by omega)).trans ((hF_29 50 j (by omega)).trans (hF_14 50 j (by omega)))) (fun j => (up_c (by omega)).trans ((hF_29 51 j (by omega)).trans (hF_14 51 j (by omega)))) ((up_n (by decide)).trans ((hF_29 41 29 (by omega)).trans (hF_14 41 29 (by omega))))
          refine v_cv rfl rfl rfl rfl (by decide) ⟨⟨rfl, rfl⟩, by decide, rfl⟩ (Nat.le_of_ble_eq_true rfl) (Nat.le_of_ble_eq_true rfl) (s_173 (o := o) hI_43 (show 0 ≤ o ∧ o ≤ 6 from by omega) hW_54 (by omega) (by omega) (by omega) (by omega) (by omega) H174 (fun c_56 hI_57 hF_58 hW_59 h_60 h_61 h_62 h_63 h_64 => ?_))
          refine bk_inl ?_
          have h_65 := ir_41_4 hI_57
          have h_66 := ir_41_7 hI_57
          have h_67 := ir_41_29 hI_57
          have h_68 := ir_41_5 hI_57
          refine q_aload_n rfl rfl ?_
          refine q_iload_n rfl rfl ?_
          refine q_iconst rfl ?_
          refine v_cv rfl rfl rfl rfl (by decide) ⟨⟨rfl, rfl⟩, by decide, rfl⟩ (Nat.le_of_ble_eq_true rfl) (Nat.le_of_ble_eq_true rfl) (s_170 (a1 := 3) (a2 := 0) hI_57 (show 0 ≤ 3 ∧ 3 ≤ 8 from by omega) (show 0 ≤ 0 ∧ 0 ≤ 999 from by omega) hW_59 (by omega) (by omega) (by omega) (fun c_69 hI_70 hF_71 hW_72 h_73 h_74 h_75 h_76 => ?_))
          refine bk_inl ?_
          have h_77 := ir_41_29 hI_70
          refine q_goto (t := 4) rfl (by decide) ?_
          refine Wp_ls [(0, .ref 41)] (lsub_cons rfl lsub_nil) ?_
          have kn_78 : Hid (c_69 41 4 = c_56 41 4) := hF_71 41 4 (by omega)
          have h_79 : c_69 41 4 = c_56 41 4 := (hid kn_78)
          have kn_80 : Hid (c_69 41 5 = c_56 41 5) := hF_71 41 5 (by omega)
          have h_81 : c_69 41 5 = c_56 41 5 := (hid kn_80)
          have kn_82 : Hid (c_69 41 7 = c_56 41 7) := hF_71 41 7 (by omega)
          have h_83 : c_69 41 7 = c_56 41 7 := (hid kn_82)
          exact ih c_69 hI_70 (fun a j hm => (hF_71 a j (by omega)).trans ((hF_58 a j (by omega)).trans ((up_b (by omega)).trans ((hF_29 a j (by omega)).trans ((hF_14 a j (by omega)).trans (hF a j (by omega))))))) hW_72 (by omega) (by omega) (by omega) (by omega) (by omega) (by omega)
        · refine v_ic_ne_f (t := 42) rfl (by decide) (by omega) ?_
          refine q_iconst rfl ?_
          refine q_goto (t := 43) rfl (by decide) ?_
          refine q_istore_n rfl (by decide) ?_
          refine q_aload_n rfl rfl ?_
          refine q_dup rfl rfl ?_
          refine v_gi (z := 4) (v := c_27 41 4) rfl rfl rfl (by decide) rfl rfl rfl ?_
          refine q_iconst rfl ?_
          refine v_iadd (v := c_27 41 4 + 1) rfl (by omega) ?_
          refine v_pi (z := 4) rfl rfl rfl (by decide) rfl rfl rfl (by decide) ?_
          refine q_aload_n rfl rfl ?_
          have kn_84 : Hid (c_12 41 5 = c2 41 5) := hF_14 41 5 (by omega)
          have kn_85 : Hid (c_27 41 5 = c2 41 5) := (hF_29 41 5 (by omega)).trans (hid kn_84)
          have hI_86 := iw_41_4 (v := c_27 41 4 + 1) hI_28 ⟨by omega, by omega⟩
          have h_87 : (up c_27 41 4 (c_27 41 4 + 1)) 41 5 = c2 41 5 := ((up_n (by decide)).trans (hid kn_85))
          have kn_88 : Hid (c_27 41 3 = c 41 3) := (hF_29 41 3 (by omega)).trans (hid kn_25)
          have h_89 : (up c_27 41 4 (c_27 41 4 + 1)) 41 3 = c 41 3 := ((up_n (by decide)).trans (hid kn_88))
          have h_90 : (up c_27 41 4 (c_27 41 4 + 1)) 41 4 = c_27 41 4 + 1 := (up_e rfl)
          have kn_91 : Hid (c_12 41 29 = c2 41 29) := hF_14 41 29 (by omega)
          have kn_92 : Hid (c_27 41 29 = c2 41 29) := (hF_29 41 29 (by omega)).trans (hid kn_91)
          have h_93 : (up c_27 41 4 (c_27 41 4 + 1)) 41 29 = c2 41 29 := ((up_n (by decide)).trans (hid kn_92))
          have kn_94 : Hid (c_12 41 7 = c2 41 7) := hF_14 41 7 (by omega)
          have kn_95 : Hid (c_27 41 7 = c2 41 7) := (hF_29 41 7 (by omega)).trans (hid kn_94)
          have h_96 : (up c_27 41 4 (c_27 41 4 + 1)) 41 7 = c2 41 7 := ((up_n (by decide)).trans (hid kn_95))
          obtain ⟨hW_97, hN_98⟩ : Nw (up c_27 41 4 (c_27 41 4 + 1)) ∧ Nh (up c_27 41 4 (c_27 41 4 + 1)) = Nh c2 := nh_fr hW2 (fun j => (up_c (by omega)).trans ((hF_29 50 j (by omega)).trans (hF_14 50 j (by omega)))) (fun j => (up_c (by omega)).trans ((hF_29 51 j (by omega)).trans (hF_14 51 j (by omega)))) ((up_n (by decide)).trans ((hF_29 41 29 (by omega)).trans (hF_14 41 29 (by omega))))
          refine v_cv rfl rfl rfl rfl (by decide) ⟨⟨rfl, rfl⟩, by decide, rfl⟩ (Nat.le_of_ble_eq_true rfl) (Nat.le_of_ble_eq_true rfl) (s_173 (o := o) hI_86 (show 0 ≤ o ∧ o ≤ 6 from by omega) hW_97 (by omega) (by omega) (by omega) (by omega) (by omega) H174 (fun c_99 hI_100 hF_101 hW_102 h_103 h_104 h_105 h_106 h_107 => ?_))
          refine bk_inl ?_
          have h_108 := ir_41_4 hI_100
          have h_109 := ir_41_7 hI_100
          have h_110 := ir_41_29 hI_100
          have h_111 := ir_41_5 hI_100
          refine q_aload_n rfl rfl ?_
          refine q_iload_n rfl rfl ?_
          refine q_iconst rfl ?_
          refine v_cv rfl rfl rfl rfl (by decide) ⟨⟨rfl, rfl⟩, by decide, rfl⟩ (Nat.le_of_ble_eq_true rfl) (Nat.le_of_ble_eq_true rfl) (s_170 (a1 := 2) (a2 := 0) hI_100 (show 0 ≤ 2 ∧ 2 ≤ 8 from by omega) (show 0 ≤ 0 ∧ 0 ≤ 999 from by omega) hW_102 (by omega) (by omega) (by omega) (fun c_112 hI_113 hF_114 hW_115 h_116 h_117 h_118 h_119 => ?_))
          refine bk_inl ?_
          have h_120 := ir_41_29 hI_113
          refine q_goto (t := 4) rfl (by decide) ?_
          refine Wp_ls [(0, .ref 41)] (lsub_cons rfl lsub_nil) ?_
          have kn_121 : Hid (c_112 41 4 = c_99 41 4) := hF_114 41 4 (by omega)
          have h_122 : c_112 41 4 = c_99 41 4 := (hid kn_121)
          have kn_123 : Hid (c_112 41 5 = c_99 41 5) := hF_114 41 5 (by omega)
          have h_124 : c_112 41 5 = c_99 41 5 := (hid kn_123)
          have kn_125 : Hid (c_112 41 7 = c_99 41 7) := hF_114 41 7 (by omega)
          have h_126 : c_112 41 7 = c_99 41 7 := (hid kn_125)
          exact ih c_112 hI_113 (fun a j hm => (hF_114 a j (by omega)).trans ((hF_101 a j (by omega)).trans ((up_b (by omega)).trans ((hF_29 a j (by omega)).trans ((hF_14 a j (by omega)).trans (hF a j (by omega))))))) hW_115 (by omega) (by omega) (by omega) (by omega) (by omega) (by omega)
      · refine v_ic_eq_f (t := 29) rfl (by decide) (by omega) ?_
        refine q_aload_n rfl rfl ?_
        have kn_127 : Hid (c_12 41 3 = c 41 3) := (hF_14 41 3 (by omega)).trans (hid kn_10)
        have h_128 : c_12 41 3 = c 41 3 := (hid kn_127)
        refine v_cv rfl rfl rfl rfl (by decide) ⟨⟨rfl, rfl⟩, by decide, rfl⟩ (Nat.le_of_ble_eq_true rfl) (Nat.le_of_ble_eq_true rfl) (s_154 hI_13 (fun c_129 y_132 hI_130 hF_131 hy_132 h_133 h_134 h_135 h_136 => ?_))
        refine bk_inl ?_
        have h_137 := ir_41_4 hI_130
        have h_138 := ir_43 hI (c_129 41 4)
        have kn_139 : Hid (c2 43 (c_129 41 4) = c 43 (c_129 41 4)) := hF 43 (c_129 41 4) (by omega)
        have kn_140 : Hid (c_12 43 (c_129 41 4) = c 43 (c_129 41 4)) := (hF_14 43 (c_129 41 4) (by omega)).trans (hid kn_139)
        have h_141 : c_12 43 (c_129 41 4) = c 43 (c_129 41 4) := (hid kn_140)
        refine v_bip rfl (by decide) ?_
        by_cases h_142 : y_132 ≠ 45
        · refine v_ic_ne_t (t := 67) rfl (by decide) (by omega) ?_
          refine q_vret rfl rfl ?_
          obtain ⟨hW_143, hN_144⟩ : Nw c_129 ∧ Nh c_129 = Nh c2 := nh_fr hW2 (fun j => (hF_131 50 j (by omega)).trans (hF_14 50 j (by omega))) (fun j => (hF_131 51 j (by omega)).trans (hF_14 51 j (by omega))) ((hF_131 41 29 (by omega)).trans (hF_14 41 29 (by omega)))
          have kn_145 : Hid (c_12 41 29 = c2 41 29) := hF_14 41 29 (by omega)
          have kn_146 : Hid (c_129 41 29 = c2 41 29) := (hF_131 41 29 (by omega)).trans (hid kn_145)
          have h_147 : c_129 41 29 = c2 41 29 := (hid kn_146)
          have kn_148 : Hid (c_12 41 5 = c2 41 5) := hF_14 41 5 (by omega)
          have kn_149 : Hid (c_129 41 5 = c2 41 5) := (hF_131 41 5 (by omega)).trans (hid kn_148)
          have h_150 : c_129 41 5 = c2 41 5 := (hid kn_149)
          have kn_151 : Hid (c_12 41 7 = c2 41 7) := hF_14 41 7 (by omega)
          have kn_152 : Hid (c_129 41 7 = c2 41 7) := (hF_131 41 7 (by omega)).trans (hid kn_151)
          have h_153 : c_129 41 7 = c2 41 7 := (hid kn_152)
          exact K c_129 hI_130 (fun a j hm => (hF_131 a j (by omega)).trans ((hF_14 a j (by omega)).trans (hF a j (by omega)))) hW_143 (by omega) (by omega) (by omega) (by omega) (by omega)
        · refine v_ic_ne_f (t := 67) rfl (by decide) (by omega) ?_
          refine q_aload_n rfl rfl ?_
          have kn_154 : Hid (c_129 41 3 = c 41 3) := (hF_131 41 3 (by omega)).trans (hid kn_127)
          have h_155 : c_129 41 3 = c 41 3 := (hid kn_154)
          refine v_cv rfl rfl rfl rfl (by decide) ⟨⟨rfl, rfl⟩, by decide, rfl⟩ (Nat.le_of_ble_eq_true rfl) (Nat.le_of_ble_eq_true rfl) (s_154 hI_130 (fun c_156 y_159 hI_157 hF_158 hy_159 h_160 h_161 h_162 h_163 => ?_))
          refine bk_inl ?_
          have h_164 := ir_41_4 hI_157
          have h_165 := ir_43 hI (c_156 41 4)
          have kn_166 : Hid (c2 43 (c_156 41 4) = c 43 (c_156 41 4)) := hF 43 (c_156 41 4) (by omega)
          have kn_167 : Hid (c_12 43 (c_156 41 4) = c 43 (c_156 41 4)) := (hF_14 43 (c_156 41 4) (by omega)).trans (hid kn_166)
          have kn_168 : Hid (c_129 43 (c_156 41 4) = c 43 (c_156 41 4)) := (hF_131 43 (c_156 41 4) (by omega)).trans (hid kn_167)
          have h_169 : c_129 43 (c_156 41 4) = c 43 (c_156 41 4) := (hid kn_168)
          refine v_bip rfl (by decide) ?_
          by_cases h_170 : y_159 ≠ 43
          · refine v_ic_ne_t (t := 42) rfl (by decide) (by omega) ?_
            refine q_iconst rfl ?_
            refine q_istore_n rfl (by decide) ?_
            refine q_aload_n rfl rfl ?_
            refine q_dup rfl rfl ?_
            refine v_gi (z := 4) (v := c_156 41 4) rfl rfl rfl (by decide) rfl rfl rfl ?_
            refine q_iconst rfl ?_
            refine v_iadd (v := c_156 41 4 + 1) rfl (by omega) ?_
            refine v_pi (z := 4) rfl rfl rfl (by decide) rfl rfl rfl (by decide) ?_
            refine q_aload_n rfl rfl ?_
            have kn_171 : Hid (c_12 41 5 = c2 41 5) := hF_14 41 5 (by omega)
            have kn_172 : Hid (c_129 41 5 = c2 41 5) := (hF_131 41 5 (by omega)).trans (hid kn_171)
            have kn_173 : Hid (c_156 41 5 = c2 41 5) := (hF_158 41 5 (by omega)).trans (hid kn_172)
            have hI_174 := iw_41_4 (v := c_156 41 4 + 1) hI_157 ⟨by omega, by omega⟩
            have h_175 : (up c_156 41 4 (c_156 41 4 + 1)) 41 5 = c2 41 5 := ((up_n (by decide)).trans (hid kn_173))
            have kn_176 : Hid (c_156 41 3 = c 41 3) := (hF_158 41 3 (by omega)).trans (hid kn_154)
            have h_177 : (up c_156 41 4 (c_156 41 4 + 1)) 41 3 = c 41 3 := ((up_n (by decide)).trans (hid kn_176))
            have h_178 : (up c_156 41 4 (c_156 41 4 + 1)) 41 4 = c_156 41 4 + 1 := (up_e rfl)
            have kn_179 : Hid (c_12 41 29 = c2 41 29) := hF_14 41 29 (by omega)
            have kn_180 : Hid (c_129 41 29 = c2 41 29) := (hF_131 41 29 (by omega)).trans (hid kn_179)
            have kn_181 : Hid (c_156 41 29 = c2 41 29) := (hF_158 41 29 (by omega)).trans (hid kn_180)
            have h_182 : (up c_156 41 4 (c_156 41 4 + 1)) 41 29 = c2 41 29 := ((up_n (by decide)).trans (hid kn_181))
            have kn_183 : Hid (c_12 41 7 = c2 41 7) := hF_14 41 7 (by omega)
            have kn_184 : Hid (c_129 41 7 = c2 41 7) := (hF_131 41 7 (by omega)).trans (hid kn_183)
            have kn_185 : Hid (c_156 41 7 = c2 41 7) := (hF_158 41 7 (by omega)).trans (hid kn_184)
            have h_186 : (up c_156 41 4 (c_156 41 4 + 1)) 41 7 = c2 41 7 := ((up_n (by decide)).trans (hid kn_185))
            obtain ⟨hW_187, hN_188⟩ : Nw (up c_156 41 4 (c_156 41 4 + 1)) ∧ Nh (up c_156 41 4 (c_156 41 4 + 1)) = Nh c2 := nh_fr hW2 (fun j => (up_c (by omega)).trans ((hF_158 50 j (by omega)).trans ((hF_131 50 j (by omega)).trans (hF_14 50 j (by omega))))) (fun j => (up_c (by omega)).trans ((hF_158 51 j (by omega)).trans ((hF_131 51 j (by omega)).trans (hF_14 51 j (by omega))))) ((up_n (by decide)).trans ((hF_158 41 29 (by omega)).trans ((hF_131 41 29 (by omega)).trans (hF_14 41 29 (by omega)))))
            refine v_cv rfl rfl rfl rfl (by decide) ⟨⟨rfl, rfl⟩, by decide, rfl⟩ (Nat.le_of_ble_eq_true rfl) (Nat.le_of_ble_eq_true rfl) (s_173 (o := o) hI_174 (show 0 ≤ o ∧ o ≤ 6 from by omega) hW_187 (by omega) (by omega) (by omega) (by omega) (by omega) H174 (fun c_189 hI_190 hF_191 hW_192 h_193 h_194 h_195 h_196 h_197 => ?_))
            refine bk_inl ?_
            have h_198 := ir_41_4 hI_190
            have h_199 := ir_41_7 hI_190
            have h_200 := ir_41_29 hI_190
            have h_201 := ir_41_5 hI_190
            refine q_aload_n rfl rfl ?_
            refine q_iload_n rfl rfl ?_
            refine q_iconst rfl ?_
            refine v_cv rfl rfl rfl rfl (by decide) ⟨⟨rfl, rfl⟩, by decide, rfl⟩ (Nat.le_of_ble_eq_true rfl) (Nat.le_of_ble_eq_true rfl) (s_170 (a1 := 3) (a2 := 0) hI_190 (show 0 ≤ 3 ∧ 3 ≤ 8 from by omega) (show 0 ≤ 0 ∧ 0 ≤ 999 from by omega) hW_192 (by omega) (by omega) (by omega) (fun c_202 hI_203 hF_204 hW_205 h_206 h_207 h_208 h_209 => ?_))
            refine bk_inl ?_
            have h_210 := ir_41_29 hI_203
            refine q_goto (t := 4) rfl (by decide) ?_
            refine Wp_ls [(0, .ref 41)] (lsub_cons rfl lsub_nil) ?_
            have kn_211 : Hid (c_202 41 4 = c_189 41 4) := hF_204 41 4 (by omega)
            have h_212 : c_202 41 4 = c_189 41 4 := (hid kn_211)
            have kn_213 : Hid (c_202 41 5 = c_189 41 5) := hF_204 41 5 (by omega)
            have h_214 : c_202 41 5 = c_189 41 5 := (hid kn_213)
            have kn_215 : Hid (c_202 41 7 = c_189 41 7) := hF_204 41 7 (by omega)
            have h_216 : c_202 41 7 = c_189 41 7 := (hid kn_215)
            exact ih c_202 hI_203 (fun a j hm => (hF_204 a j (by omega)).trans ((hF_191 a j (by omega)).trans ((up_b (by omega)).trans ((hF_158 a j (by omega)).trans ((hF_131 a j (by omega)).trans ((hF_14 a j (by omega)).trans (hF a j (by omega)))))))) hW_205 (by omega) (by omega) (by omega) (by omega) (by omega) (by omega)
          · refine v_ic_ne_f (t := 42) rfl (by decide) (by omega) ?_
            refine q_iconst rfl ?_
            refine q_goto (t := 43) rfl (by decide) ?_
            refine q_istore_n rfl (by decide) ?_
            refine q_aload_n rfl rfl ?_
            refine q_dup rfl rfl ?_
            refine v_gi (z := 4) (v := c_156 41 4) rfl rfl rfl (by decide) rfl rfl rfl ?_
            refine q_iconst rfl ?_
            refine v_iadd (v := c_156 41 4 + 1) rfl (by omega) ?_
            refine v_pi (z := 4) rfl rfl rfl (by decide) rfl rfl rfl (by decide) ?_
            refine q_aload_n rfl rfl ?_
            have kn_217 : Hid (c_12 41 5 = c2 41 5) := hF_14 41 5 (by omega)
            have kn_218 : Hid (c_129 41 5 = c2 41 5) := (hF_131 41 5 (by omega)).trans (hid kn_217)
            have kn_219 : Hid (c_156 41 5 = c2 41 5) := (hF_158 41 5 (by omega)).trans (hid kn_218)
            have hI_220 := iw_41_4 (v := c_156 41 4 + 1) hI_157 ⟨by omega, by omega⟩
            have h_221 : (up c_156 41 4 (c_156 41 4 + 1)) 41 5 = c2 41 5 := ((up_n (by decide)).trans (hid kn_219))
            have kn_222 : Hid (c_156 41 3 = c 41 3) := (hF_158 41 3 (by omega)).trans (hid kn_154)
            have h_223 : (up c_156 41 4 (c_156 41 4 + 1)) 41 3 = c 41 3 := ((up_n (by decide)).trans (hid kn_222))
            have h_224 : (up c_156 41 4 (c_156 41 4 + 1)) 41 4 = c_156 41 4 + 1 := (up_e rfl)
            have kn_225 : Hid (c_12 41 29 = c2 41 29) := hF_14 41 29 (by omega)
            have kn_226 : Hid (c_129 41 29 = c2 41 29) := (hF_131 41 29 (by omega)).trans (hid kn_225)
            have kn_227 : Hid (c_156 41 29 = c2 41 29) := (hF_158 41 29 (by omega)).trans (hid kn_226)
            have h_228 : (up c_156 41 4 (c_156 41 4 + 1)) 41 29 = c2 41 29 := ((up_n (by decide)).trans (hid kn_227))
            have kn_229 : Hid (c_12 41 7 = c2 41 7) := hF_14 41 7 (by omega)
            have kn_230 : Hid (c_129 41 7 = c2 41 7) := (hF_131 41 7 (by omega)).trans (hid kn_229)
            have kn_231 : Hid (c_156 41 7 = c2 41 7) := (hF_158 41 7 (by omega)).trans (hid kn_230)
            have h_232 : (up c_156 41 4 (c_156 41 4 + 1)) 41 7 = c2 41 7 := ((up_n (by decide)).trans (hid kn_231))
            obtain ⟨hW_233, hN_234⟩ : Nw (up c_156 41 4 (c_156 41 4 + 1)) ∧ Nh (up c_156 41 4 (c_156 41 4 + 1)) = Nh c2 := nh_fr hW2 (fun j => (up_c (by omega)).trans ((hF_158 50 j (by omega)).trans ((hF_131 50 j (by omega)).trans (hF_14 50 j (by omega))))) (fun j => (up_c (by omega)).trans ((hF_158 51 j (by omega)).trans ((hF_131 51 j (by omega)).trans (hF_14 51 j (by omega))))) ((up_n (by decide)).trans ((hF_158 41 29 (by omega)).trans ((hF_131 41 29 (by omega)).trans (hF_14 41 29 (by omega)))))
            refine v_cv rfl rfl rfl rfl (by decide) ⟨⟨rfl, rfl⟩, by decide, rfl⟩ (Nat.le_of_ble_eq_true rfl) (Nat.le_of_ble_eq_true rfl) (s_173 (o := o) hI_220 (show 0 ≤ o ∧ o ≤ 6 from by omega) hW_233 (by omega) (by omega) (by omega) (by omega) (by omega) H174 (fun c_235 hI_236 hF_237 hW_238 h_239 h_240 h_241 h_242 h_243 => ?_))
            refine bk_inl ?_
            have h_244 := ir_41_4 hI_236
            have h_245 := ir_41_7 hI_236
            have h_246 := ir_41_29 hI_236
            have h_247 := ir_41_5 hI_236
            refine q_aload_n rfl rfl ?_
            refine q_iload_n rfl rfl ?_
            refine q_iconst rfl ?_
            refine v_cv rfl rfl rfl rfl (by decide) ⟨⟨rfl, rfl⟩, by decide, rfl⟩ (Nat.le_of_ble_eq_true rfl) (Nat.le_of_ble_eq_true rfl) (s_170 (a1 := 2) (a2 := 0) hI_236 (show 0 ≤ 2 ∧ 2 ≤ 8 from by omega) (show 0 ≤ 0 ∧ 0 ≤ 999 from by omega) hW_238 (by omega) (by omega) (by omega) (fun c_248 hI_249 hF_250 hW_251 h_252 h_253 h_254 h_255 => ?_))
            refine bk_inl ?_
            have h_256 := ir_41_29 hI_249
            refine q_goto (t := 4) rfl (by decide) ?_
            refine Wp_ls [(0, .ref 41)] (lsub_cons rfl lsub_nil) ?_
            have kn_257 : Hid (c_248 41 4 = c_235 41 4) := hF_250 41 4 (by omega)
            have h_258 : c_248 41 4 = c_235 41 4 := (hid kn_257)
            have kn_259 : Hid (c_248 41 5 = c_235 41 5) := hF_250 41 5 (by omega)
            have h_260 : c_248 41 5 = c_235 41 5 := (hid kn_259)
            have kn_261 : Hid (c_248 41 7 = c_235 41 7) := hF_250 41 7 (by omega)
            have h_262 : c_248 41 7 = c_235 41 7 := (hid kn_261)
            exact ih c_248 hI_249 (fun a j hm => (hF_250 a j (by omega)).trans ((hF_237 a j (by omega)).trans ((up_b (by omega)).trans ((hF_158 a j (by omega)).trans ((hF_131 a j (by omega)).trans ((hF_14 a j (by omega)).trans (hF a j (by omega)))))))) hW_251 (by omega) (by omega) (by omega) (by omega) (by omega) (by omega)
set_option maxRecDepth 100000 in
set_option maxHeartbeats 4000000 in
theorem s_174 {sc : List Int32} {e : Int} {d u P Q : Nat} {c : ME} {o : Int} {Z : AR → Prop} (hI : Iv u e P Q c) (ho : 0 ≤ o ∧ o ≤ 6) (hW : Nw c) (hq0 : (c 41 5 = (-1))) (hq1 : (c 41 4 ≤ c 41 3)) (hq2 : (c 41 3 ≤ 150)) (hq3 : (c 41 29 ≤ c 41 4)) (hq4 : (c 41 7 = o)) (H174 : ∀ (d9 : Nat) (c : ME) (Z : AR → Prop), d ≤ d9 → o + 1 ≤ 6 → Iv u e P Q c → Nw c → ((c 41 5 = (-1))) → ((c 41 4 ≤ c 41 3)) → ((c 41 3 ≤ 150)) → ((c 41 29 ≤ c 41 4)) → (c 41 7 = o + 1) → (∀ c2 : ME, Iv u e P Q c2 → (∀ (a : Nat) (j : Int), ¬ ((a = 41 ∧ j = 4) ∨ (a = 41 ∧ j = 5) ∨ (a = 41 ∧ j = 6) ∨ (a = 41 ∧ j = 7) ∨ (a = 41 ∧ j = 29) ∨ a = 50 ∨ a = 51) → c2 a j = c a j) → Nw c2 → ((c2 41 4 ≥ c 41 4)) → ((c2 41 7 = c 41 7)) → ((c 41 4 + c2 41 29 ≤ c 41 29 + c2 41 4)) → ((c2 41 5 < (-1)) ∨ (c2 41 5 > (-1)) ∨ (c2 41 4 ≤ c 41 3)) → ((c2 41 5 < (-1)) ∨ (c2 41 5 > (-1)) ∨ (Nh c2 = Nh c + 1)) → Z (.inl none, Wd P Q P P c2, 0, 0)) → Wp sc (d9 + 12) 174 0 [(0, .ref 41)] [] (Wd P Q P P c) 0 0 Z) (K : ∀ (c2 : ME), Iv u e P Q c2 → (∀ (a : Nat) (j : Int), ¬ ((a = 41 ∧ j = 4) ∨ (a = 41 ∧ j = 5) ∨ (a = 41 ∧ j = 6) ∨ (a = 41 ∧ j = 7) ∨ (a = 41 ∧ j = 29) ∨ a = 50 ∨ a = 51) → c2 a j = c a j) → Nw c2 → ((c2 41 4 ≥ c 41 4)) → ((c2 41 7 = c 41 7)) → ((c 41 4 + c2 41 29 ≤ c 41 29 + c2 41 4)) → ((c2 41 5 < (-1)) ∨ (c2 41 5 > (-1)) ∨ (c2 41 4 ≤ c 41 3)) → ((c2 41 5 < (-1)) ∨ (c2 41 5 > (-1)) ∨ (Nh c2 = Nh c + 1)) → Z (.inl (none), Wd P Q P P c2, 0, 0)) : Wp sc (d + 16) 174 0 [(0, .ref 41)] [] (Wd P Q P P c) 0 0 Z := by
  have hP := iv_P hI
  have hQ := iv_Q hI
  have h_264 := ir_41_5 hI
  have h_265 := ir_41_3 hI
  have h_266 := ir_41_4 hI
  have h_267 := ir_41_29 hI
  have h_268 := ir_41_7 hI
  refine q_aload_n rfl rfl ?_
  refine v_cv rfl rfl rfl rfl (by decide) ⟨⟨rfl, rfl⟩, by decide, rfl⟩ (Nat.le_of_ble_eq_true rfl) (Nat.le_of_ble_eq_true rfl) (s_173 (o := o) hI (show 0 ≤ o ∧ o ≤ 6 from by omega) hW (by omega) (by omega) (by omega) (by omega) (by omega) H174 (fun c_269 hI_270 hF_271 hW_272 h_273 h_274 h_275 h_276 h_277 => ?_))
  refine bk_inl ?_
  have h_278 := ir_41_4 hI_270
  have h_279 := ir_41_7 hI_270
  have h_280 := ir_41_29 hI_270
  have h_281 := ir_41_5 hI_270
  refine Wp_ls [(0, .ref 41)] (lsub_cons rfl lsub_nil) ?_
  exact (s_174_l (sc := sc) (d := d) hI ho hW hq0 hq1 hq2 hq3 hq4 H174 K 1214) c_269 hI_270 (fun a j hm => hF_271 a j (by omega)) hW_272 (by omega) (by omega) (by omega) (by omega) (by omega) (by omega)
set_option maxRecDepth 100000 in
set_option maxHeartbeats 4000000 in
theorem r_174_n {sc : List Int32} {e : Int} {u P Q : Nat} : ∀ (m : Nat) (d : Nat) (c : ME) (o : Int) (Z : AR → Prop), o + (m : Int) = 6 → 0 ≤ o → Iv u e P Q c → Nw c → ((c 41 5 = (-1))) → ((c 41 4 ≤ c 41 3)) → ((c 41 3 ≤ 150)) → ((c 41 29 ≤ c 41 4)) → (c 41 7 = o) → (∀ c2 : ME, Iv u e P Q c2 → (∀ (a : Nat) (j : Int), ¬ ((a = 41 ∧ j = 4) ∨ (a = 41 ∧ j = 5) ∨ (a = 41 ∧ j = 6) ∨ (a = 41 ∧ j = 7) ∨ (a = 41 ∧ j = 29) ∨ a = 50 ∨ a = 51) → c2 a j = c a j) → Nw c2 → ((c2 41 4 ≥ c 41 4)) → ((c2 41 7 = c 41 7)) → ((c 41 4 + c2 41 29 ≤ c 41 29 + c2 41 4)) → ((c2 41 5 < (-1)) ∨ (c2 41 5 > (-1)) ∨ (c2 41 4 ≤ c 41 3)) → ((c2 41 5 < (-1)) ∨ (c2 41 5 > (-1)) ∨ (Nh c2 = Nh c + 1)) → Z (.inl none, Wd P Q P P c2, 0, 0)) → Wp sc (d + 4 * m + 16) 174 0 [(0, .ref 41)] [] (Wd P Q P P c) 0 0 Z
  | 0, d, c, o, Z, hm, h0, hI, hW, p0, p1, p2, p3, p4, K => s_174 (d := d) (o := o) hI ⟨by omega, by omega⟩ hW p0 p1 p2 p3 p4 (fun d9 c9 Z9 hd hc => absurd hc (by omega)) K
  | m + 1, d, c, o, Z, hm, h0, hI, hW, p0, p1, p2, p3, p4, K => by
    rw [show d + 4 * (m + 1) + 16 = (d + 4 * m + 4) + 16 by omega]
    refine s_174 (d := d + 4 * m + 4) (o := o) hI ⟨by omega, by omega⟩ hW p0 p1 p2 p3 p4 (fun d9 c9 Z9 hd hc hI9 hW9 q0 q1 q2 q3 q4 K9 => ?_) K
    have r := r_174_n (sc := sc) m (d9 - 4 * m - 4) c9 (o + 1) Z9 (by omega) (by omega) hI9 hW9 q0 q1 q2 q3 q4 K9
    rw [show d9 - 4 * m - 4 + 4 * m + 16 = d9 + 12 by omega] at r
    exact r
set_option maxRecDepth 100000 in
set_option maxHeartbeats 4000000 in
theorem r_174 {sc : List Int32} {e : Int} {d u P Q : Nat} {c : ME} {o : Int} {Z : AR → Prop} (hI : Iv u e P Q c) (ho : 0 ≤ o ∧ o ≤ 6) (hW : Nw c) (p0 : ((c 41 5 = (-1)))) (p1 : ((c 41 4 ≤ c 41 3))) (p2 : ((c 41 3 ≤ 150))) (p3 : ((c 41 29 ≤ c 41 4))) (p4 : c 41 7 = o) (K : (∀ c2 : ME, Iv u e P Q c2 → (∀ (a : Nat) (j : Int), ¬ ((a = 41 ∧ j = 4) ∨ (a = 41 ∧ j = 5) ∨ (a = 41 ∧ j = 6) ∨ (a = 41 ∧ j = 7) ∨ (a = 41 ∧ j = 29) ∨ a = 50 ∨ a = 51) → c2 a j = c a j) → Nw c2 → ((c2 41 4 ≥ c 41 4)) → ((c2 41 7 = c 41 7)) → ((c 41 4 + c2 41 29 ≤ c 41 29 + c2 41 4)) → ((c2 41 5 < (-1)) ∨ (c2 41 5 > (-1)) ∨ (c2 41 4 ≤ c 41 3)) → ((c2 41 5 < (-1)) ∨ (c2 41 5 > (-1)) ∨ (Nh c2 = Nh c + 1)) → Z (.inl none, Wd P Q P P c2, 0, 0))) : Wp sc (d + 40) 174 0 [(0, .ref 41)] [] (Wd P Q P P c) 0 0 Z := by
  obtain ⟨m, hm⟩ : ∃ m : Nat, (m : Int) = 6 - o := ⟨(6 - o).toNat, by omega⟩
  rw [show d + 40 = (d + 24 - 4 * m) + 4 * m + 16 by omega]
  exact r_174_n m _ c o Z (by omega) (by omega) hI hW p0 p1 p2 p3 p4 K

