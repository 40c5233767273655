/-! ===== class and reference side by side ===== -/
set_option maxRecDepth 100000 in
set_option maxHeartbeats 4000000 in
theorem s_84u {sc : List Int32} {d P Q : Nat} {c : ME} {Z : AR → Prop} (hI : Iv 0 (-1) P Q c)  (K : ∀ (c2 : ME) (y : Int), Iv 0 (-1) P Q c2 → (∀ (a : Nat) (j : Int), ¬ (a = 38 ∨ a = 40 ∨ (a = 3 ∧ j = 3) ∨ (a = 3 ∧ j = 4) ∨ (a = 0 ∧ j = 11)) → c2 a j = c a j) → (-2147483648) ≤ y ∧ y ≤ 2147483647 → ((c 1 4 < 0) ∨ (c 1 4 > 0) ∨ (y = c P 0)) → Z (.inl (some (vi y)), Wd P Q P P c2, 0, 0)) : Wp sc (d + 13) 84 47 [(0, .ref 0)] [] (Wd P Q Q Q c) 0 0 Z := by
  have hP := iv_P hI
  have hQ := iv_Q hI
  refine q_aload_n rfl rfl ?_
  refine v_gr (t := 37) rfl rfl rfl (by decide) rfl ?_
  refine q_aload_n rfl rfl ?_
  refine v_gr (t := P) rfl rfl rfl (by decide) rfl ?_
  refine v_cv rfl rfl rfl rfl (by decide) ⟨⟨rfl, rfl⟩, by decide, rfl⟩ (Nat.le_of_ble_eq_true rfl) (Nat.le_of_ble_eq_true rfl) (s_65a hI (fun c_1 hI_2 hF_3 => ?_))
  refine bk_inl ?_
  refine q_aload_n rfl rfl ?_
  refine v_gr (t := 39) rfl rfl rfl (by decide) rfl ?_
  refine q_aload_n rfl rfl ?_
  refine v_gr (t := P) rfl rfl rfl (by decide) rfl ?_
  refine v_cv rfl rfl rfl rfl (by decide) ⟨⟨rfl, rfl⟩, by decide, rfl⟩ (Nat.le_of_ble_eq_true rfl) (Nat.le_of_ble_eq_true rfl) (s_65b hI_2 (fun c_4 hI_5 hF_6 => ?_))
  refine bk_inl ?_
  refine q_aload_n rfl rfl ?_
  refine v_gr (t := 3) rfl rfl rfl (by decide) rfl ?_
  refine v_cv rfl rfl rfl rfl (by decide) ⟨⟨rfl, rfl⟩, by decide, rfl⟩ (Nat.le_of_ble_eq_true rfl) (Nat.le_of_ble_eq_true rfl) (s_22 hI_5 (fun c_7 hI_8 hF_9 => ?_))
  refine bk_inl ?_
  refine q_aload_n rfl rfl ?_
  refine q_iconst rfl ?_
  refine v_pi (z := 11) rfl rfl rfl (by decide) rfl rfl rfl (by decide) ?_
  refine q_aload_n rfl rfl ?_
  refine q_aload_n rfl rfl ?_
  refine v_gr (t := P) rfl rfl rfl (by decide) rfl ?_
  have h_10 := ir_p0_0 hI hP
  have kn_11 : Hid (c_1 P 0 = c P 0) := hF_3 P 0 (fun h => absurd h (np0 hP rfl))
  have kn_12 : Hid (c_4 P 0 = c P 0) := (hF_6 P 0 (fun h => absurd h (np0 hP rfl))).trans (hid kn_11)
  have kn_13 : Hid (c_7 P 0 = c P 0) := (hF_9 P 0 (fun q => q.elim (fun h => absurd h.1 (np0 hP rfl)) (fun h => absurd h.1 (np0 hP rfl)))).trans (hid kn_12)
  refine v_gi (z := 0) (v := c P 0) rfl rfl (ck_p0 hP) (by omega) rfl rfl ((up_c (np0 hP rfl)).trans (hid kn_13)) ?_
  refine v_cv rfl rfl rfl rfl (by decide) ⟨⟨rfl, rfl⟩, by decide, rfl⟩ (Nat.le_of_ble_eq_true rfl) (Nat.le_of_ble_eq_true rfl) ?_
  refine q_aload_n rfl rfl ?_
  refine v_gr (t := 1) rfl rfl rfl (by decide) rfl ?_
  refine v_cv rfl rfl rfl rfl (by decide) ⟨⟨rfl, rfl⟩, by decide, rfl⟩ (Nat.le_of_ble_eq_true rfl) (Nat.le_of_ble_eq_true rfl) ?_
  refine q_aload_n rfl rfl ?_
  have h_14 := ir_1_4 hI
  have kn_15 : Hid (c_1 1 4 = c 1 4) := hF_3 1 4 (fun h => absurd h (nn rfl))
  have kn_16 : Hid (c_4 1 4 = c 1 4) := (hF_6 1 4 (fun h => absurd h (nn rfl))).trans (hid kn_15)
  have kn_17 : Hid (c_7 1 4 = c 1 4) := (hF_9 1 4 (fun q => q.elim (fun h => absurd h.1 (nn rfl)) (fun h => absurd h.1 (nn rfl)))).trans (hid kn_16)
  refine v_gi (z := 4) (v := c 1 4) rfl rfl rfl (by decide) rfl rfl ((up_c (nn rfl)).trans (hid kn_17)) ?_
  by_cases h_18 : c 1 4 ≠ 0
  · refine v_if_ne_t (t := 11) rfl (by decide) (by omega) ?_
    refine q_iconst rfl ?_
    refine v_zret rfl rfl (by decide) ?_
    refine bk_inl ?_
    refine v_if_eq_t (t := 14) rfl (by decide) (by decide) ?_
    refine q_aload_n rfl rfl ?_
    refine v_gr (t := 1) rfl rfl rfl (by decide) rfl ?_
    refine v_gi (z := 4) (v := c 1 4) rfl rfl rfl (by decide) rfl rfl ((up_c (nn rfl)).trans (hid kn_17)) ?_
    refine v_bip rfl (by decide) ?_
    refine v_isub (v := c 1 4 - 10) rfl (by omega) ?_
    refine q_iret rfl rfl ?_
    refine bk_inl ?_
    refine q_iret rfl rfl ?_
    have hI_19 := iw_0_11 (v := 0) hI_8 ⟨by decide, by decide⟩
    exact K (up c_7 0 11 0) (c 1 4 - 10) hI_19 (fun a j hm => (up_b (Decidable.or_iff_not_imp_left.mpr (fun h1 h2 => hm (Or.inr (Or.inr (Or.inr (Or.inr ⟨Decidable.not_not.mp h1, h2⟩))))))).trans ((hF_9 a j (fun q => q.elim (fun h => hm (Or.inr (Or.inr (Or.inl h)))) (fun h => hm (Or.inr (Or.inr (Or.inr (Or.inl h))))))).trans ((hF_6 a j (fun h => hm (Or.inr (Or.inl h)))).trans (hF_3 a j (fun h => hm (Or.inl h)))))) ⟨by omega, by omega⟩ (by omega)
  · refine v_if_ne_f (t := 11) rfl (by decide) (by omega) ?_
    refine q_iconst rfl ?_
    refine q_goto (t := 12) rfl (by decide) ?_
    refine v_zret rfl rfl (by decide) ?_
    refine bk_inl ?_
    refine v_if_eq_f (t := 14) rfl (by decide) (by decide) ?_
    refine q_iload_n rfl rfl ?_
    refine q_goto (t := 24) rfl (by decide) ?_
    refine q_iret rfl rfl ?_
    refine bk_inl ?_
    refine q_iret rfl rfl ?_
    have hI_20 := iw_0_11 (v := 0) hI_8 ⟨by decide, by decide⟩
    exact K (up c_7 0 11 0) (c P 0) hI_20 (fun a j hm => (up_b (Decidable.or_iff_not_imp_left.mpr (fun h1 h2 => hm (Or.inr (Or.inr (Or.inr (Or.inr ⟨Decidable.not_not.mp h1, h2⟩))))))).trans ((hF_9 a j (fun q => q.elim (fun h => hm (Or.inr (Or.inr (Or.inl h)))) (fun h => hm (Or.inr (Or.inr (Or.inr (Or.inl h))))))).trans ((hF_6 a j (fun h => hm (Or.inr (Or.inl h)))).trans (hF_3 a j (fun h => hm (Or.inl h)))))) ⟨by omega, by omega⟩ (by omega)

set_option maxRecDepth 100000 in
set_option maxHeartbeats 4000000 in
theorem L_8 {sc : List Int32} {e eg : Int} {d dh u ug P Q P2 Q2 : Nat} {c m m9 : ME} {a2 yg e1 a9 : Int} {F H : Int → Int} {Z : AR → Prop} (hI : Iv u e P2 Q2 c) (hJ : Iv ug eg P Q m) (hJ9 : Iv ug eg P Q m9) (ha2 : (-1) ≤ a2 ∧ a2 ≤ 9999) (hyg : 0 ≤ yg ∧ yg ≤ 9999) (hg_e1 : m 1 1 = e1) (hr_e1 : c 41 3 = e1) (hg_a9 : m 1 2 = a9) (hF : ∀ j : Int, m 2 j = F j) (hH : ∀ j : Int, c 43 j = H j) (hU : Ub F H) (hRt : Rt m c) (hG : Wp sc (dh + 14) 8 0 [(0, .ref 1), (1, vi a2)] [] (Wd P Q P P m) 0 0 (fun q => q = (.inl (some (vi yg)), Wd P Q P P m9, 0, 0))) (K : ∀ (c2 : ME) (y : Int), Iv u e P2 Q2 c2 → (∀ (a : Nat) (j : Int), ¬ ((a = 41 ∧ j = 4) ∨ (a = 41 ∧ j = 5) ∨ (a = 41 ∧ j = 6)) → c2 a j = c a j) → 0 ≤ y ∧ y ≤ 9999 → (Rt m9 c2) → ((y = yg)) → ((m9 1 4 < 0) ∨ (m9 1 4 > 0) ∨ (m9 1 2 > a9 ∧ m9 1 2 ≤ e1)) → Z (.inl (some (vi y)), Wd P2 Q2 P2 P2 c2, 0, 0)) : Wp sc (d + 14) 160 0 [(0, .ref 41), (1, vi 0), (2, vi a2)] [] (Wd P2 Q2 P2 P2 c) 0 0 Z := by
  have hP := iv_P hJ
  have hQ := iv_Q hJ
  have h_1 := ir_1_1 hJ
  have h_2 := ir_41_3 hI
  have h_3 := ir_1_2 hJ
  refine gh hG ?_
  by_cases hs9 : m 1 4 = 0
  · skip
    have h_4 := ir_1_4 hJ
    have hs8 := (rt_ok hRt hs9).2.2.2
    have h_5 : -2147483648 ≤ (F a9) ∧ (F a9) ≤ 2147483647 := by rw [← hF a9]; exact ir_2 hJ a9
    have h_6 := nx_bd (b := F) (e := e1) (a := a9)
    have h_7 : -2147483648 ≤ (F (nx F e1 a9)) ∧ (F (nx F e1 a9)) ≤ 2147483647 := by rw [← hF (nx F e1 a9)]; exact ir_2 hJ (nx F e1 a9)
    have h_8 := nx_n (b := F) (e := e1) (a := a9)
    have h_9 := dg_bd (b := F) (e := e1) (a := (nx F e1 a9)) (v := 0) (by decide)
    have h_10 := dg_p (b := F) (e := e1) (a := (nx F e1 a9)) (v := 0) (by decide)
    refine f_8 (a1 := a2) (e1 := e1) (a9 := a9) (f9 := 0) (p9 := (-1)) (B := F) (r8 := (nx F e1 a9)) (D8 := (dg F e1 (nx F e1 a9) 0).1) (V8 := (dg F e1 (nx F e1 a9) 0).2) hJ (show (-1) ≤ a2 ∧ a2 ≤ 9999 from by omega) ((hg_e1)) ((hg_a9)) ((hs9)) ((hs8)) (fun j => hF j) rfl rfl rfl (fun c_11 hI_12 hF_13 h_14 hz_15 hz_16 hz_17 => by exfalso; omega) (fun c_18 hI_19 hF_20 h_21 h_22 hz_23 hz_24 hz_25 => ?_) (fun c_26 hI_27 hF_28 h_29 h_30 h_31 hz_32 hz_33 hz_34 => ?_) (fun c_35 hI_36 hF_37 h_38 h_39 h_40 hz_41 hz_42 hz_43 => ?_)
    · skip
      intro hE_44
      have h_45 : yg = 0 := (vi_inj ⟨by omega, by omega⟩ ⟨by omega, by omega⟩ (Option.some.inj (Sum.inl.inj (Prod.mk.inj hE_44).1))).symm
      have hW : Wd P Q P P c_18 = Wd P Q P P m9 := (Prod.mk.inj (Prod.mk.inj hE_44).2).1
      have h_46 := ir_1_4 hJ9
      have h_47 : m9 1 4 = 1 := wd_fv (z := 4) 4 rfl hW rfl rfl rfl rfl (by decide) (hz_24) ⟨by omega, by omega⟩ ⟨by omega, by omega⟩
      have h_48 := ir_1_2 hJ9
      have h_49 : m9 1 2 = (nx F e1 a9) := wd_fv (z := 2) 2 rfl hW rfl rfl rfl rfl (by decide) (hz_23) ⟨by omega, by omega⟩ ⟨by omega, by omega⟩
      have h_50 := ir_1_5 hJ9
      have h_51 : m9 1 5 = (nx F e1 a9) := wd_fv (z := 5) 5 rfl hW rfl rfl rfl rfl (by decide) (hz_25) ⟨by omega, by omega⟩ ⟨by omega, by omega⟩
      have h_52 := ir_41_4 hI
      have h_53 := ir_1_5 hJ
      have h_54 := ir_41_5 hI
      have h_55 := ir_41_6 hI
      have h_56 := rt_ok hRt (by omega)
      have hro_hRt := rt_ok hRt (by omega)
      have h_64 : -2147483648 ≤ (H (nx F e1 a9)) ∧ (H (nx F e1 a9)) ≤ 2147483647 := by rw [← hH (nx F e1 a9)]; exact ir_43 hI (nx F e1 a9)
      have h_65 : (nx F e1 a9) < 600 → (H (nx F e1 a9)) = (F (nx F e1 a9)) % 256 ∧ -128 ≤ (F (nx F e1 a9)) ∧ (F (nx F e1 a9)) ≤ 127 := fun q => hU (nx F e1 a9) (by omega) q
      refine f_160 (a1 := 0) (a2 := a2) (e1 := e1) (a9 := a9) (f9 := (-1)) (k9 := c 41 6) (B := H) (r8 := (nx F e1 a9)) (D8 := (dg F e1 (nx F e1 a9) 0).1) (V8 := (dg F e1 (nx F e1 a9) 0).2) hI (show 0 ≤ 0 ∧ 0 ≤ 1 from by omega) (show (-1) ≤ a2 ∧ a2 ≤ 9999 from by omega) ((hr_e1)) (((hro_hRt.2.2.1).trans ((hg_a9)))) (hro_hRt.2.1) (rfl) (fun j => hH j) ((nx_tr hU (by omega) (by omega)).trans (rfl)) ((congrArg (fun q : Int × Int => q.1) (dg_tr hU (by omega) (by omega))).trans (rfl)) ((congrArg (fun q : Int × Int => q.2) (dg_tr hU (by omega) (by omega))).trans (rfl)) (fun c_57 hI_58 hF_59 h_60 hz_61 hz_62 hz_63 => by exfalso; omega) (fun c_66 hI_67 hF_68 h_69 h_70 hz_71 hz_72 hz_73 => ?_) (fun c_74 hI_75 hF_76 h_77 h_78 h_79 hz_80 hz_81 hz_82 => by exfalso; omega) (fun c_83 hI_84 hF_85 h_86 h_87 h_88 h_89 hz_90 hz_91 hz_92 => by exfalso; omega)
      have h_93 : c_66 41 5 = (nx F e1 a9) := (hz_72)
      have h_94 : c_66 41 4 = (nx F e1 a9) := (hz_71)
      have h_95 : c_66 41 6 = 1 := (hz_73)
      exact K c_66 0 hI_67 (fun a j hm => hF_68 a j (fun q => q.elim (fun h => hm (Or.inl h)) (fun q => q.elim (fun h => hm (Or.inr (Or.inl h))) (fun h => hm (Or.inr (Or.inr h)))))) ⟨by omega, by omega⟩ (by unfold Rt; omega) (by omega) (by omega)
    · skip
      intro hE_96
      have h_97 : yg = 0 := (vi_inj ⟨by omega, by omega⟩ ⟨by omega, by omega⟩ (Option.some.inj (Sum.inl.inj (Prod.mk.inj hE_96).1))).symm
      have hW : Wd P Q P P c_26 = Wd P Q P P m9 := (Prod.mk.inj (Prod.mk.inj hE_96).2).1
      have h_98 := ir_1_4 hJ9
      have h_99 : m9 1 4 = 2 := wd_fv (z := 4) 4 rfl hW rfl rfl rfl rfl (by decide) (hz_33) ⟨by omega, by omega⟩ ⟨by omega, by omega⟩
      have h_100 := ir_1_2 hJ9
      have h_101 : m9 1 2 = (dg F e1 (nx F e1 a9) 0).1 := wd_fv (z := 2) 2 rfl hW rfl rfl rfl rfl (by decide) (hz_32) ⟨by omega, by omega⟩ ⟨by omega, by omega⟩
      have h_102 := ir_1_5 hJ9
      have h_103 : m9 1 5 = (nx F e1 a9) := wd_fv (z := 5) 5 rfl hW rfl rfl rfl rfl (by decide) (hz_34) ⟨by omega, by omega⟩ ⟨by omega, by omega⟩
      have h_104 := ir_41_4 hI
      have h_105 := ir_1_5 hJ
      have h_106 := ir_41_5 hI
      have h_107 := ir_41_6 hI
      have h_108 := rt_ok hRt (by omega)
      have hro_hRt := rt_ok hRt (by omega)
      have h_116 : -2147483648 ≤ (H (nx F e1 a9)) ∧ (H (nx F e1 a9)) ≤ 2147483647 := by rw [← hH (nx F e1 a9)]; exact ir_43 hI (nx F e1 a9)
      have h_117 := hU (nx F e1 a9) (by omega) (by omega)
      refine f_160 (a1 := 0) (a2 := a2) (e1 := e1) (a9 := a9) (f9 := (-1)) (k9 := c 41 6) (B := H) (r8 := (nx F e1 a9)) (D8 := (dg F e1 (nx F e1 a9) 0).1) (V8 := (dg F e1 (nx F e1 a9) 0).2) hI (show 0 ≤ 0 ∧ 0 ≤ 1 from by omega) (show (-1) ≤ a2 ∧ a2 ≤ 9999 from by omega) ((hr_e1)) (((hro_hRt.2.2.1).trans ((hg_a9)))) (hro_hRt.2.1) (rfl) (fun j => hH j) ((nx_tr hU (by omega) (by omega)).trans (rfl)) ((congrArg (fun q : Int × Int => q.1) (dg_tr hU (by omega) (by omega))).trans (rfl)) ((congrArg (fun q : Int × Int => q.2) (dg_tr hU (by omega) (by omega))).trans (rfl)) (fun c_109 hI_110 hF_111 h_112 hz_113 hz_114 hz_115 => by exfalso; omega) (fun c_118 hI_119 hF_120 h_121 h_122 hz_123 hz_124 hz_125 => by exfalso; omega) (fun c_126 hI_127 hF_128 h_129 h_130 h_131 hz_132 hz_133 hz_134 => ?_) (fun c_135 hI_136 hF_137 h_138 h_139 h_140 h_141 hz_142 hz_143 hz_144 => by exfalso; omega)
      have h_145 : c_126 41 5 = (nx F e1 a9) := (hz_133)
      have h_146 : c_126 41 4 = (dg F e1 (nx F e1 a9) 0).1 := (hz_132)
      have h_147 : c_126 41 6 = 2 := (hz_134)
      exact K c_126 0 hI_127 (fun a j hm => hF_128 a j (fun q => q.elim (fun h => hm (Or.inl h)) (fun q => q.elim (fun h => hm (Or.inr (Or.inl h))) (fun h => hm (Or.inr (Or.inr h)))))) ⟨by omega, by omega⟩ (by unfold Rt; omega) (by omega) (by omega)
    · skip
      intro hE_148
      have h_149 : yg = (dg F e1 (nx F e1 a9) 0).2 := (vi_inj ⟨by omega, by omega⟩ ⟨by omega, by omega⟩ (Option.some.inj (Sum.inl.inj (Prod.mk.inj hE_148).1))).symm
      have hW : Wd P Q P P c_35 = Wd P Q P P m9 := (Prod.mk.inj (Prod.mk.inj hE_148).2).1
      have h_150 := ir_1_4 hJ9
      have h_151 : m9 1 4 = 0 := wd_fv (z := 4) 4 rfl hW rfl rfl rfl rfl (by decide) (hz_42) ⟨by omega, by omega⟩ ⟨by omega, by omega⟩
      have h_152 := ir_1_2 hJ9
      have h_153 : m9 1 2 = (dg F e1 (nx F e1 a9) 0).1 := wd_fv (z := 2) 2 rfl hW rfl rfl rfl rfl (by decide) (hz_41) ⟨by omega, by omega⟩ ⟨by omega, by omega⟩
      have h_154 := ir_1_5 hJ9
      have h_155 : m9 1 5 = (-1) := wd_fv (z := 5) 5 rfl hW rfl rfl rfl rfl (by decide) (hz_43) ⟨by omega, by omega⟩ ⟨by omega, by omega⟩
      have h_156 := ir_41_4 hI
      have h_157 := ir_1_5 hJ
      have h_158 := ir_41_5 hI
      have h_159 := ir_41_6 hI
      have h_160 := rt_ok hRt (by omega)
      have hro_hRt := rt_ok hRt (by omega)
      have h_168 : -2147483648 ≤ (H (nx F e1 a9)) ∧ (H (nx F e1 a9)) ≤ 2147483647 := by rw [← hH (nx F e1 a9)]; exact ir_43 hI (nx F e1 a9)
      have h_169 := hU (nx F e1 a9) (by omega) (by omega)
      refine f_160 (a1 := 0) (a2 := a2) (e1 := e1) (a9 := a9) (f9 := (-1)) (k9 := c 41 6) (B := H) (r8 := (nx F e1 a9)) (D8 := (dg F e1 (nx F e1 a9) 0).1) (V8 := (dg F e1 (nx F e1 a9) 0).2) hI (show 0 ≤ 0 ∧ 0 ≤ 1 from by omega) (show (-1) ≤ a2 ∧ a2 ≤ 9999 from by omega) ((hr_e1)) (((hro_hRt.2.2.1).trans ((hg_a9)))) (hro_hRt.2.1) (rfl) (fun j => hH j) ((nx_tr hU (by omega) (by omega)).trans (rfl)) ((congrArg (fun q : Int × Int => q.1) (dg_tr hU (by omega) (by omega))).trans (rfl)) ((congrArg (fun q : Int × Int => q.2) (dg_tr hU (by omega) (by omega))).trans (rfl)) (fun c_161 hI_162 hF_163 h_164 hz_165 hz_166 hz_167 => by exfalso; omega) (fun c_170 hI_171 hF_172 h_173 h_174 hz_175 hz_176 hz_177 => by exfalso; omega) (fun c_178 hI_179 hF_180 h_181 h_182 h_183 hz_184 hz_185 hz_186 => by exfalso; omega) (fun c_187 hI_188 hF_189 h_190 h_191 h_192 h_193 hz_194 hz_195 hz_196 => ?_)
      have h_197 : c_187 41 5 = (-1) := (hz_195)
      have h_198 : c_187 41 4 = (dg F e1 (nx F e1 a9) 0).1 := (hz_194)
      have h_199 : c_187 41 6 = c 41 6 := (hz_196)
      exact K c_187 ((dg F e1 (nx F e1 a9) 0).2) hI_188 (fun a j hm => hF_189 a j (fun q => q.elim (fun h => hm (Or.inl h)) (fun q => q.elim (fun h => hm (Or.inr (Or.inl h))) (fun h => hm (Or.inr (Or.inr h)))))) ⟨by omega, by omega⟩ (by unfold Rt; omega) (by omega) (by omega)
  · skip
    have h_200 := ir_1_4 hJ
    have h_201 := ir_1_5 hJ
    have h_202 : -2147483648 ≤ (F a9) ∧ (F a9) ≤ 2147483647 := by rw [← hF a9]; exact ir_2 hJ a9
    have h_203 := nx_bd (b := F) (e := e1) (a := a9)
    have h_204 : -2147483648 ≤ (F (nx F e1 a9)) ∧ (F (nx F e1 a9)) ≤ 2147483647 := by rw [← hF (nx F e1 a9)]; exact ir_2 hJ (nx F e1 a9)
    have h_205 := nx_n (b := F) (e := e1) (a := a9)
    have h_206 := dg_bd (b := F) (e := e1) (a := (nx F e1 a9)) (v := 0) (by decide)
    have h_207 := dg_p (b := F) (e := e1) (a := (nx F e1 a9)) (v := 0) (by decide)
    refine f_8 (a1 := a2) (e1 := e1) (a9 := a9) (f9 := m 1 4) (p9 := m 1 5) (B := F) (r8 := (nx F e1 a9)) (D8 := (dg F e1 (nx F e1 a9) 0).1) (V8 := (dg F e1 (nx F e1 a9) 0).2) hJ (show (-1) ≤ a2 ∧ a2 ≤ 9999 from by omega) ((hg_e1)) ((hg_a9)) (rfl) (rfl) (fun j => hF j) rfl rfl rfl (fun c_208 hI_209 hF_210 h_211 hz_212 hz_213 hz_214 => ?_) (fun c_215 hI_216 hF_217 h_218 h_219 hz_220 hz_221 hz_222 => by exfalso; omega) (fun c_223 hI_224 hF_225 h_226 h_227 h_228 hz_229 hz_230 hz_231 => by exfalso; omega) (fun c_232 hI_233 hF_234 h_235 h_236 h_237 hz_238 hz_239 hz_240 => by exfalso; omega)
    intro hE_241
    have h_242 : yg = 0 := (vi_inj ⟨by omega, by omega⟩ ⟨by omega, by omega⟩ (Option.some.inj (Sum.inl.inj (Prod.mk.inj hE_241).1))).symm
    have hW : Wd P Q P P c_208 = Wd P Q P P m9 := (Prod.mk.inj (Prod.mk.inj hE_241).2).1
    have h_243 := ir_1_4 hJ9
    have h_244 : m9 1 4 = m 1 4 := wd_fv (z := 4) 4 rfl hW rfl rfl rfl rfl (by decide) (hz_213) ⟨by omega, by omega⟩ ⟨by omega, by omega⟩
    have h_245 := ir_1_2 hJ9
    have h_246 : m9 1 2 = a9 := wd_fv (z := 2) 2 rfl hW rfl rfl rfl rfl (by decide) (hz_212) ⟨by omega, by omega⟩ ⟨by omega, by omega⟩
    have h_247 := ir_1_5 hJ9
    have h_248 : m9 1 5 = m 1 5 := wd_fv (z := 5) 5 rfl hW rfl rfl rfl rfl (by decide) (hz_214) ⟨by omega, by omega⟩ ⟨by omega, by omega⟩
    have h_249 := ir_41_4 hI
    have h_250 := ir_41_5 hI
    have h_251 := ir_41_6 hI
    have h_252 := rt_bad hRt (by omega)
    have hrb_hRt := rt_bad hRt (by omega)
    have h_253 : -2147483648 ≤ (F (c 41 4)) ∧ (F (c 41 4)) ≤ 2147483647 := by rw [← hF (c 41 4)]; exact ir_2 hJ (c 41 4)
    have h_254 := nx_bd (b := F) (e := e1) (a := c 41 4)
    have h_255 : -2147483648 ≤ (F (nx F e1 (c 41 4))) ∧ (F (nx F e1 (c 41 4))) ≤ 2147483647 := by rw [← hF (nx F e1 (c 41 4))]; exact ir_2 hJ (nx F e1 (c 41 4))
    have h_256 := nx_n (b := F) (e := e1) (a := c 41 4)
    have h_257 := dg_bd (b := F) (e := e1) (a := (nx F e1 (c 41 4))) (v := 0) (by decide)
    have h_258 := dg_p (b := F) (e := e1) (a := (nx F e1 (c 41 4))) (v := 0) (by decide)
    have h_266 : -2147483648 ≤ (H (nx F e1 (c 41 4))) ∧ (H (nx F e1 (c 41 4))) ≤ 2147483647 := by rw [← hH (nx F e1 (c 41 4))]; exact ir_43 hI (nx F e1 (c 41 4))
    have h_267 : (nx F e1 (c 41 4)) < 600 → (H (nx F e1 (c 41 4))) = (F (nx F e1 (c 41 4))) % 256 ∧ -128 ≤ (F (nx F e1 (c 41 4))) ∧ (F (nx F e1 (c 41 4))) ≤ 127 := fun q => hU (nx F e1 (c 41 4)) (by omega) q
    refine f_160 (a1 := 0) (a2 := a2) (e1 := e1) (a9 := c 41 4) (f9 := m 1 5) (k9 := m 1 4) (B := H) (r8 := (nx F e1 (c 41 4))) (D8 := (dg F e1 (nx F e1 (c 41 4)) 0).1) (V8 := (dg F e1 (nx F e1 (c 41 4)) 0).2) hI (show 0 ≤ 0 ∧ 0 ≤ 1 from by omega) (show (-1) ≤ a2 ∧ a2 ≤ 9999 from by omega) ((hr_e1)) (rfl) (hrb_hRt.2.1) (hrb_hRt.2.2.2) (fun j => hH j) ((nx_tr hU (by omega) (by omega)).trans (rfl)) ((congrArg (fun q : Int × Int => q.1) (dg_tr hU (by omega) (by omega))).trans (rfl)) ((congrArg (fun q : Int × Int => q.2) (dg_tr hU (by omega) (by omega))).trans (rfl)) (fun c_259 hI_260 hF_261 h_262 hz_263 hz_264 hz_265 => ?_) (fun c_268 hI_269 hF_270 h_271 h_272 hz_273 hz_274 hz_275 => by exfalso; omega) (fun c_276 hI_277 hF_278 h_279 h_280 h_281 hz_282 hz_283 hz_284 => by exfalso; omega) (fun c_285 hI_286 hF_287 h_288 h_289 h_290 h_291 hz_292 hz_293 hz_294 => by exfalso; omega)
    have h_295 : c_259 41 5 = m 1 5 := (hz_264)
    have h_296 : c_259 41 4 = c 41 4 := (hz_263)
    have h_297 : c_259 41 6 = m 1 4 := (hz_265)
    exact K c_259 0 hI_260 (fun a j hm => hF_261 a j (fun q => q.elim (fun h => hm (Or.inl h)) (fun q => q.elim (fun h => hm (Or.inr (Or.inl h))) (fun h => hm (Or.inr (Or.inr h)))))) ⟨by omega, by omega⟩ (by unfold Rt; omega) (by omega) (by omega)

set_option maxRecDepth 100000 in
set_option maxHeartbeats 4000000 in
theorem L_11_9 {sc : List Int32} {e eg : Int} {d dh u ug P Q P2 Q2 : Nat} {c m m9 : ME} {e1 a9 : Int} {F H : Int → Int} {Z : AR → Prop} (hI : Iv u e P2 Q2 c) (hJ : Iv ug eg P Q m) (hJ9 : Iv ug eg P Q m9) (hg_e1 : m 1 1 = e1) (hr_e1 : c 41 3 = e1) (hg_a9 : m 1 2 = a9) (hF : ∀ j : Int, m 2 j = F j) (hH : ∀ j : Int, c 43 j = H j) (hU : Ub F H) (hRt : Rt m c) (hG : Wp sc (dh + 14) 11 0 [(0, .ref 1), (1, .ref (a_SB + 9))] [] (Wd P Q P P m) 0 0 (fun q => q = (.inl (none), Wd P Q P P m9, 0, 0))) (K : ∀ (c2 : ME), Iv u e P2 Q2 c2 → (∀ (a : Nat) (j : Int), ¬ ((a = 41 ∧ j = 4) ∨ (a = 41 ∧ j = 5) ∨ (a = 41 ∧ j = 6)) → c2 a j = c a j) → (Rt m9 c2) → ((m9 1 4 < 0) ∨ (m9 1 4 > 0) ∨ (m9 1 2 > a9 ∧ m9 1 2 ≤ e1)) → Z (.inl (none), Wd P2 Q2 P2 P2 c2, 0, 0)) : Wp sc (d + 14) 161 0 [(0, .ref 41), (1, vi 59)] [] (Wd P2 Q2 P2 P2 c) 0 0 Z := by
  have hP := iv_P hJ
  have hQ := iv_Q hJ
  have h_1 := ir_1_1 hJ
  have h_2 := ir_41_3 hI
  have h_3 := ir_1_2 hJ
  refine gh hG ?_
  by_cases hs9 : m 1 4 = 0
  · skip
    have h_4 := ir_1_4 hJ
    have hs8 := (rt_ok hRt hs9).2.2.2
    refine q_aload_n rfl rfl ?_
    refine v_cv rfl rfl rfl rfl (by decide) ⟨⟨rfl, rfl⟩, by decide, rfl⟩ (Nat.le_of_ble_eq_true rfl) (Nat.le_of_ble_eq_true rfl) ?_
    refine q_aload_n rfl rfl ?_
    refine v_gi (z := 4) (v := 0) rfl rfl rfl (by decide) rfl rfl (hs9) ?_
    refine v_if_ne_f (t := 11) rfl (by decide) (by decide) ?_
    refine q_iconst rfl ?_
    refine q_goto (t := 12) rfl (by decide) ?_
    refine v_zret rfl rfl (by decide) ?_
    refine bk_inl ?_
    refine v_if_eq_f (t := 25) rfl (by decide) (by decide) ?_
    refine q_aload_n rfl rfl ?_
    refine q_aload_n rfl rfl ?_
    refine v_cv rfl rfl rfl rfl (by decide) ⟨⟨rfl, rfl⟩, by decide, rfl⟩ (Nat.le_of_ble_eq_true rfl) (Nat.le_of_ble_eq_true rfl) ?_
    refine q_aload_n rfl rfl ?_
    have h_5 : -2147483648 ≤ (F a9) ∧ (F a9) ≤ 2147483647 := by rw [← hF a9]; exact ir_2 hJ a9
    have h_6 := nx_bd (b := F) (e := e1) (a := a9)
    have h_7 : -2147483648 ≤ (F (nx F e1 a9)) ∧ (F (nx F e1 a9)) ≤ 2147483647 := by rw [← hF (nx F e1 a9)]; exact ir_2 hJ (nx F e1 a9)
    have h_8 := nx_n (b := F) (e := e1) (a := a9)
    refine v_cv rfl rfl rfl rfl (by decide) ⟨⟨rfl, rfl⟩, by decide, rfl⟩ (Nat.le_of_ble_eq_true rfl) (Nat.le_of_ble_eq_true rfl) (f_3 (e1 := e1) (a9 := a9) (B := F) (r8 := (nx F e1 a9)) hJ ((hg_e1)) ((hg_a9)) (fun j => hF j) rfl (fun c_9 hI_10 hF_11 hz_12 => ?_))
    refine bk_inl ?_
    refine q_istore_n rfl (by decide) ?_
    refine q_iconst rfl ?_
    refine q_istore_n rfl (by decide) ?_
    refine q_iload_n rfl rfl ?_
    refine q_aload_n rfl rfl ?_
    refine v_sln 1 rfl rfl (by omega) (Nat.le_of_ble_eq_true rfl) (by decide) (by decide) ?_
    refine v_ic_ge_f (t := 55) rfl (by decide) (by decide) ?_
    refine q_iload_n rfl rfl ?_
    refine q_aload_n rfl rfl ?_
    have kn_13 : Hid (c_9 1 1 = e1) := (hF_11 1 1 (fun h => absurd h.2 (ni rfl))).trans (hg_e1)
    refine v_gi (z := 1) (v := e1) rfl rfl rfl (by decide) rfl rfl (hid kn_13) ?_
    by_cases h_14 : (nx F e1 a9) ≥ e1
    · refine v_ic_ge_t (t := 55) rfl (by decide) (by omega) ?_
      refine q_iconst rfl ?_
      refine q_iret rfl rfl ?_
      refine bk_inl ?_
      refine q_iconst rfl ?_
      refine v_ic_ne_f (t := 25) rfl (by decide) (by decide) ?_
      refine q_aload_n rfl rfl ?_
      refine q_iconst rfl ?_
      refine q_aload_n rfl rfl ?_
      refine v_gi (z := 2) (v := (nx F e1 a9)) rfl rfl rfl (by decide) rfl rfl (hz_12) ?_
      refine v_cv rfl rfl rfl rfl (by decide) ⟨⟨rfl, rfl⟩, by decide, rfl⟩ (Nat.le_of_ble_eq_true rfl) (Nat.le_of_ble_eq_true rfl) ?_
      refine q_aload_n rfl rfl ?_
      have kn_15 : Hid (c_9 1 4 = 0) := (hF_11 1 4 (fun h => absurd h.2 (ni rfl))).trans (hs9)
      refine v_gi (z := 4) (v := 0) rfl rfl rfl (by decide) rfl rfl (hid kn_15) ?_
      refine v_if_ne_f (t := 17) rfl (by decide) (by decide) ?_
      refine q_aload_n rfl rfl ?_
      refine q_iload_n rfl rfl ?_
      refine v_pi (z := 4) rfl rfl rfl (by decide) rfl rfl rfl (by decide) ?_
      refine q_aload_n rfl rfl ?_
      refine q_iload_n rfl rfl ?_
      refine v_pi (z := 5) rfl rfl rfl (by decide) rfl rfl rfl (by decide) ?_
      refine q_vret rfl rfl ?_
      refine bk_inl ?_
      refine q_vret rfl rfl ?_
      have hI_16 := iw_1_4 (v := 1) hI_10 ⟨by decide, by decide⟩
      have hI_17 := iw_1_5 (v := (nx F e1 a9)) hI_16 ⟨by omega, by omega⟩
      intro hE_18
      have hW : Wd P Q P P (up (up c_9 1 4 1) 1 5 (nx F e1 a9)) = Wd P Q P P m9 := (Prod.mk.inj (Prod.mk.inj hE_18).2).1
      have h_19 := ir_1_4 hJ9
      have h_20 : m9 1 4 = 1 := wd_fv (z := 4) 4 rfl hW rfl rfl rfl rfl (by decide) ((up_n (by decide)).trans (up_e rfl)) ⟨by omega, by omega⟩ ⟨by omega, by omega⟩
      have h_21 := ir_1_2 hJ9
      have h_22 : m9 1 2 = (nx F e1 a9) := wd_fv (z := 2) 2 rfl hW rfl rfl rfl rfl (by decide) ((up_n (by decide)).trans ((up_n (by decide)).trans (hz_12))) ⟨by omega, by omega⟩ ⟨by omega, by omega⟩
      have h_23 := ir_1_5 hJ9
      have h_24 : m9 1 5 = (nx F e1 a9) := wd_fv (z := 5) 5 rfl hW rfl rfl rfl rfl (by decide) (up_e rfl) ⟨by omega, by omega⟩ ⟨by omega, by omega⟩
      refine q_aload_n rfl rfl ?_
      refine v_cv rfl rfl rfl rfl (by decide) ⟨⟨rfl, rfl⟩, by decide, rfl⟩ (Nat.le_of_ble_eq_true rfl) (Nat.le_of_ble_eq_true rfl) ?_
      refine q_aload_n rfl rfl ?_
      have h_25 := ir_41_5 hI
      have h_26 := ir_1_5 hJ
      have h_27 := ir_41_4 hI
      have h_28 := ir_41_6 hI
      have h_29 := rt_ok hRt (by omega)
      have hro_hRt := rt_ok hRt (by omega)
      refine v_gi (z := 5) (v := (-1)) rfl rfl rfl (by decide) rfl rfl hro_hRt.2.1 ?_
      refine q_iconst rfl ?_
      refine v_ic_ne_f (t := 12) rfl (by decide) (by decide) ?_
      refine q_iconst rfl ?_
      refine q_goto (t := 13) rfl (by decide) ?_
      refine v_zret rfl rfl (by decide) ?_
      refine bk_inl ?_
      refine v_if_eq_f (t := 24) rfl (by decide) (by decide) ?_
      refine q_aload_n rfl rfl ?_
      have h_30 : -2147483648 ≤ (H (nx F e1 a9)) ∧ (H (nx F e1 a9)) ≤ 2147483647 := by rw [← hH (nx F e1 a9)]; exact ir_43 hI (nx F e1 a9)
      have h_31 : (nx F e1 a9) < 600 → (H (nx F e1 a9)) = (F (nx F e1 a9)) % 256 ∧ -128 ≤ (F (nx F e1 a9)) ∧ (F (nx F e1 a9)) ≤ 127 := fun q => hU (nx F e1 a9) (by omega) q
      have h_32 := hb_or (b := H) (e := e1) (r := (nx F e1 a9))
      have h_33 := hb_bd (b := H) (e := e1) (r := (nx F e1 a9)) (lo := -2147483648) (hi := 2147483647) ⟨by omega, by omega⟩ (by decide)
      refine v_cv rfl rfl rfl rfl (by decide) ⟨⟨rfl, rfl⟩, by decide, rfl⟩ (Nat.le_of_ble_eq_true rfl) (Nat.le_of_ble_eq_true rfl) (f_154 (e1 := e1) (a9 := a9) (B := H) (r8 := (nx F e1 a9)) (r := (hb H e1 (nx F e1 a9))) hI ((hr_e1)) (((hro_hRt.2.2.1).trans ((hg_a9)))) (fun j => hH j) ((nx_tr hU (by omega) (by omega)).trans (rfl)) rfl (fun c_34 hI_35 hF_36 h_37 => ?_))
      refine bk_inl ?_
      refine q_iload_n rfl rfl ?_
      refine v_ic_eq_f (t := 24) rfl (by decide) (by omega) ?_
      refine q_aload_n rfl rfl ?_
      refine q_iconst rfl ?_
      refine q_aload_n rfl rfl ?_
      refine v_gi (z := 4) (v := (nx F e1 a9)) rfl rfl rfl (by decide) rfl rfl (h_37) ?_
      refine v_cv rfl rfl rfl rfl (by decide) ⟨⟨rfl, rfl⟩, by decide, rfl⟩ (Nat.le_of_ble_eq_true rfl) (Nat.le_of_ble_eq_true rfl) ?_
      refine q_aload_n rfl rfl ?_
      have kn_38 : Hid (c_34 41 5 = (-1)) := (hF_36 41 5 (fun h => absurd h.2 (ni rfl))).trans hro_hRt.2.1
      refine v_gi (z := 5) (v := (-1)) rfl rfl rfl (by decide) rfl rfl (hid kn_38) ?_
      refine q_iconst rfl ?_
      refine v_ic_eq_t (t := 9) rfl (by decide) (by decide) ?_
      refine q_aload_n rfl rfl ?_
      refine q_iload_n rfl rfl ?_
      refine v_pi (z := 5) rfl rfl rfl (by decide) rfl rfl rfl (by decide) ?_
      refine q_aload_n rfl rfl ?_
      refine q_iload_n rfl rfl ?_
      refine v_pi (z := 6) rfl rfl rfl (by decide) rfl rfl rfl (by decide) ?_
      refine q_vret rfl rfl ?_
      refine bk_inl ?_
      refine q_aload_n rfl rfl ?_
      refine v_cv rfl rfl rfl rfl (by decide) ⟨⟨rfl, rfl⟩, by decide, rfl⟩ (Nat.le_of_ble_eq_true rfl) (Nat.le_of_ble_eq_true rfl) ?_
      refine q_aload_n rfl rfl ?_
      refine v_gi (z := 5) (v := (nx F e1 a9)) rfl rfl rfl (by decide) rfl rfl ((up_n (by decide)).trans (up_e rfl)) ?_
      refine q_iconst rfl ?_
      refine v_ic_ne_t (t := 12) rfl (by decide) (by omega) ?_
      refine q_iconst rfl ?_
      refine v_zret rfl rfl (by decide) ?_
      refine bk_inl ?_
      refine v_if_eq_t (t := 41) rfl (by decide) (by decide) ?_
      refine q_vret rfl rfl ?_
      have hI_39 := iw_41_5 (v := (nx F e1 a9)) hI_35 ⟨by omega, by omega⟩
      have hI_40 := iw_41_6 (v := 1) hI_39 ⟨by decide, by decide⟩
      have h_41 : (up (up c_34 41 5 (nx F e1 a9)) 41 6 1) 41 5 = (nx F e1 a9) := ((up_n (by decide)).trans (up_e rfl))
      have h_42 : (up (up c_34 41 5 (nx F e1 a9)) 41 6 1) 41 4 = (nx F e1 a9) := ((up_n (by decide)).trans ((up_n (by decide)).trans (h_37)))
      have h_43 : (up (up c_34 41 5 (nx F e1 a9)) 41 6 1) 41 6 = 1 := (up_e rfl)
      exact K (up (up c_34 41 5 (nx F e1 a9)) 41 6 1)  hI_40 (fun a j hm => (up_b (Decidable.or_iff_not_imp_left.mpr (fun h1 h2 => hm (Or.inr (Or.inr ⟨Decidable.not_not.mp h1, h2⟩))))).trans ((up_b (Decidable.or_iff_not_imp_left.mpr (fun h1 h2 => hm (Or.inr (Or.inl ⟨Decidable.not_not.mp h1, h2⟩))))).trans (hF_36 a j (fun h => hm (Or.inl h))))) (by unfold Rt; omega) (by omega)
    · refine v_ic_ge_f (t := 55) rfl (by decide) (by omega) ?_
      refine q_aload_n rfl rfl ?_
      refine v_gr (t := 2) rfl rfl rfl (by decide) rfl ?_
      refine q_iload_n rfl rfl ?_
      have kn_44 : Hid (c_9 2 (nx F e1 a9) = (F (nx F e1 a9))) := (hF_11 2 (nx F e1 a9) (fun h => absurd h.1 (nn rfl))).trans (hF (nx F e1 a9))
      refine v_ba (v := (F (nx F e1 a9))) rfl rfl (by decide) (by decide) (by omega) (hid kn_44) ?_
      refine q_aload_n rfl rfl ?_
      refine q_iload_n rfl rfl ?_
      refine v_sch 59 rfl rfl (by omega) (Nat.le_of_ble_eq_true rfl) (by decide) (by decide) (by decide) ?_
      by_cases h_45 : (F (nx F e1 a9)) ≠ 59
      · refine v_ic_ne_t (t := 49) rfl (by decide) (by omega) ?_
        refine v_iinc (v := 1) rfl rfl (by decide) (by decide) ?_
        refine q_goto (t := 7) rfl (by decide) ?_
        refine q_iload_n rfl rfl ?_
        refine q_aload_n rfl rfl ?_
        refine v_sln 1 rfl rfl (by omega) (Nat.le_of_ble_eq_true rfl) (by decide) (by decide) ?_
        refine v_ic_ge_t (t := 55) rfl (by decide) (by decide) ?_
        refine q_iconst rfl ?_
        refine q_iret rfl rfl ?_
        refine bk_inl ?_
        refine q_iconst rfl ?_
        refine v_ic_ne_f (t := 25) rfl (by decide) (by decide) ?_
        refine q_aload_n rfl rfl ?_
        refine q_iconst rfl ?_
        refine q_aload_n rfl rfl ?_
        refine v_gi (z := 2) (v := (nx F e1 a9)) rfl rfl rfl (by decide) rfl rfl (hz_12) ?_
        refine v_cv rfl rfl rfl rfl (by decide) ⟨⟨rfl, rfl⟩, by decide, rfl⟩ (Nat.le_of_ble_eq_true rfl) (Nat.le_of_ble_eq_true rfl) ?_
        refine q_aload_n rfl rfl ?_
        have kn_46 : Hid (c_9 1 4 = 0) := (hF_11 1 4 (fun h => absurd h.2 (ni rfl))).trans (hs9)
        refine v_gi (z := 4) (v := 0) rfl rfl rfl (by decide) rfl rfl (hid kn_46) ?_
        refine v_if_ne_f (t := 17) rfl (by decide) (by decide) ?_
        refine q_aload_n rfl rfl ?_
        refine q_iload_n rfl rfl ?_
        refine v_pi (z := 4) rfl rfl rfl (by decide) rfl rfl rfl (by decide) ?_
        refine q_aload_n rfl rfl ?_
        refine q_iload_n rfl rfl ?_
        refine v_pi (z := 5) rfl rfl rfl (by decide) rfl rfl rfl (by decide) ?_
        refine q_vret rfl rfl ?_
        refine bk_inl ?_
        refine q_vret rfl rfl ?_
        have hI_47 := iw_1_4 (v := 1) hI_10 ⟨by decide, by decide⟩
        have hI_48 := iw_1_5 (v := (nx F e1 a9)) hI_47 ⟨by omega, by omega⟩
        intro hE_49
        have hW : Wd P Q P P (up (up c_9 1 4 1) 1 5 (nx F e1 a9)) = Wd P Q P P m9 := (Prod.mk.inj (Prod.mk.inj hE_49).2).1
        have h_50 := ir_1_4 hJ9
        have h_51 : m9 1 4 = 1 := wd_fv (z := 4) 4 rfl hW rfl rfl rfl rfl (by decide) ((up_n (by decide)).trans (up_e rfl)) ⟨by omega, by omega⟩ ⟨by omega, by omega⟩
        have h_52 := ir_1_2 hJ9
        have h_53 : m9 1 2 = (nx F e1 a9) := wd_fv (z := 2) 2 rfl hW rfl rfl rfl rfl (by decide) ((up_n (by decide)).trans ((up_n (by decide)).trans (hz_12))) ⟨by omega, by omega⟩ ⟨by omega, by omega⟩
        have h_54 := ir_1_5 hJ9
        have h_55 : m9 1 5 = (nx F e1 a9) := wd_fv (z := 5) 5 rfl hW rfl rfl rfl rfl (by decide) (up_e rfl) ⟨by omega, by omega⟩ ⟨by omega, by omega⟩
        refine q_aload_n rfl rfl ?_
        refine v_cv rfl rfl rfl rfl (by decide) ⟨⟨rfl, rfl⟩, by decide, rfl⟩ (Nat.le_of_ble_eq_true rfl) (Nat.le_of_ble_eq_true rfl) ?_
        refine q_aload_n rfl rfl ?_
        have h_56 := ir_41_5 hI
        have h_57 := ir_1_5 hJ
        have h_58 := ir_41_4 hI
        have h_59 := ir_41_6 hI
        have h_60 := rt_ok hRt (by omega)
        have hro_hRt := rt_ok hRt (by omega)
        refine v_gi (z := 5) (v := (-1)) rfl rfl rfl (by decide) rfl rfl hro_hRt.2.1 ?_
        refine q_iconst rfl ?_
        refine v_ic_ne_f (t := 12) rfl (by decide) (by decide) ?_
        refine q_iconst rfl ?_
        refine q_goto (t := 13) rfl (by decide) ?_
        refine v_zret rfl rfl (by decide) ?_
        refine bk_inl ?_
        refine v_if_eq_f (t := 24) rfl (by decide) (by decide) ?_
        refine q_aload_n rfl rfl ?_
        have h_61 : -2147483648 ≤ (H (nx F e1 a9)) ∧ (H (nx F e1 a9)) ≤ 2147483647 := by rw [← hH (nx F e1 a9)]; exact ir_43 hI (nx F e1 a9)
        have h_62 := hU (nx F e1 a9) (by omega) (by omega)
        have h_63 := hb_or (b := H) (e := e1) (r := (nx F e1 a9))
        have h_64 := hb_bd (b := H) (e := e1) (r := (nx F e1 a9)) (lo := -2147483648) (hi := 2147483647) ⟨by omega, by omega⟩ (by decide)
        refine v_cv rfl rfl rfl rfl (by decide) ⟨⟨rfl, rfl⟩, by decide, rfl⟩ (Nat.le_of_ble_eq_true rfl) (Nat.le_of_ble_eq_true rfl) (f_154 (e1 := e1) (a9 := a9) (B := H) (r8 := (nx F e1 a9)) (r := (hb H e1 (nx F e1 a9))) hI ((hr_e1)) (((hro_hRt.2.2.1).trans ((hg_a9)))) (fun j => hH j) ((nx_tr hU (by omega) (by omega)).trans (rfl)) rfl (fun c_65 hI_66 hF_67 h_68 => ?_))
        refine bk_inl ?_
        refine q_iload_n rfl rfl ?_
        refine v_ic_eq_f (t := 24) rfl (by decide) (by omega) ?_
        refine q_aload_n rfl rfl ?_
        refine q_iconst rfl ?_
        refine q_aload_n rfl rfl ?_
        refine v_gi (z := 4) (v := (nx F e1 a9)) rfl rfl rfl (by decide) rfl rfl (h_68) ?_
        refine v_cv rfl rfl rfl rfl (by decide) ⟨⟨rfl, rfl⟩, by decide, rfl⟩ (Nat.le_of_ble_eq_true rfl) (Nat.le_of_ble_eq_true rfl) ?_
        refine q_aload_n rfl rfl ?_
        have kn_69 : Hid (c_65 41 5 = (-1)) := (hF_67 41 5 (fun h => absurd h.2 (ni rfl))).trans hro_hRt.2.1
        refine v_gi (z := 5) (v := (-1)) rfl rfl rfl (by decide) rfl rfl (hid kn_69) ?_
        refine q_iconst rfl ?_
        refine v_ic_eq_t (t := 9) rfl (by decide) (by decide) ?_
        refine q_aload_n rfl rfl ?_
        refine q_iload_n rfl rfl ?_
        refine v_pi (z := 5) rfl rfl rfl (by decide) rfl rfl rfl (by decide) ?_
        refine q_aload_n rfl rfl ?_
        refine q_iload_n rfl rfl ?_
        refine v_pi (z := 6) rfl rfl rfl (by decide) rfl rfl rfl (by decide) ?_
        refine q_vret rfl rfl ?_
        refine bk_inl ?_
        refine q_aload_n rfl rfl ?_
        refine v_cv rfl rfl rfl rfl (by decide) ⟨⟨rfl, rfl⟩, by decide, rfl⟩ (Nat.le_of_ble_eq_true rfl) (Nat.le_of_ble_eq_true rfl) ?_
        refine q_aload_n rfl rfl ?_
        refine v_gi (z := 5) (v := (nx F e1 a9)) rfl rfl rfl (by decide) rfl rfl ((up_n (by decide)).trans (up_e rfl)) ?_
        refine q_iconst rfl ?_
        refine v_ic_ne_t (t := 12) rfl (by decide) (by omega) ?_
        refine q_iconst rfl ?_
        refine v_zret rfl rfl (by decide) ?_
        refine bk_inl ?_
        refine v_if_eq_t (t := 41) rfl (by decide) (by decide) ?_
        refine q_vret rfl rfl ?_
        have hI_70 := iw_41_5 (v := (nx F e1 a9)) hI_66 ⟨by omega, by omega⟩
        have hI_71 := iw_41_6 (v := 1) hI_70 ⟨by decide, by decide⟩
        have h_72 : (up (up c_65 41 5 (nx F e1 a9)) 41 6 1) 41 5 = (nx F e1 a9) := ((up_n (by decide)).trans (up_e rfl))
        have h_73 : (up (up c_65 41 5 (nx F e1 a9)) 41 6 1) 41 4 = (nx F e1 a9) := ((up_n (by decide)).trans ((up_n (by decide)).trans (h_68)))
        have h_74 : (up (up c_65 41 5 (nx F e1 a9)) 41 6 1) 41 6 = 1 := (up_e rfl)
        exact K (up (up c_65 41 5 (nx F e1 a9)) 41 6 1)  hI_71 (fun a j hm => (up_b (Decidable.or_iff_not_imp_left.mpr (fun h1 h2 => hm (Or.inr (Or.inr ⟨Decidable.not_not.mp h1, h2⟩))))).trans ((up_b (Decidable.or_iff_not_imp_left.mpr (fun h1 h2 => hm (Or.inr (Or.inl ⟨Decidable.not_not.mp h1, h2⟩))))).trans (hF_67 a j (fun h => hm (Or.inl h))))) (by unfold Rt; omega) (by omega)
      · refine v_ic_ne_f (t := 49) rfl (by decide) (by omega) ?_
        refine q_aload_n rfl rfl ?_
        refine q_dup rfl rfl ?_
        refine v_gi (z := 2) (v := (nx F e1 a9)) rfl rfl rfl (by decide) rfl rfl (hz_12) ?_
        refine q_iconst rfl ?_
        refine v_iadd (v := (nx F e1 a9) + 1) rfl (by omega) ?_
        refine v_pi (z := 2) rfl rfl rfl (by decide) rfl rfl rfl (by decide) ?_
        refine q_iload_n rfl rfl ?_
        refine q_iret rfl rfl ?_
        refine bk_inl ?_
        refine q_iconst rfl ?_
        refine v_ic_ne_t (t := 25) rfl (by decide) (by decide) ?_
        refine q_vret rfl rfl ?_
        have hI_75 := iw_1_2 (v := (nx F e1 a9) + 1) hI_10 ⟨by omega, by omega⟩
        intro hE_76
        have hW : Wd P Q P P (up c_9 1 2 ((nx F e1 a9) + 1)) = Wd P Q P P m9 := (Prod.mk.inj (Prod.mk.inj hE_76).2).1
        have kn_77 : Hid (c_9 1 4 = 0) := (hF_11 1 4 (fun h => absurd h.2 (ni rfl))).trans (hs9)
        have h_78 := ir_1_4 hJ9
        have h_79 : m9 1 4 = 0 := wd_fv (z := 4) 4 rfl hW rfl rfl rfl rfl (by decide) ((up_n (by decide)).trans (hid kn_77)) ⟨by omega, by omega⟩ ⟨by omega, by omega⟩
        have h_80 := ir_1_2 hJ9
        have h_81 : m9 1 2 = (nx F e1 a9) + 1 := wd_fv (z := 2) 2 rfl hW rfl rfl rfl rfl (by decide) (up_e rfl) ⟨by omega, by omega⟩ ⟨by omega, by omega⟩
        have kn_82 : Hid (c_9 1 5 = (-1)) := (hF_11 1 5 (fun h => absurd h.2 (ni rfl))).trans (hs8)
        have h_83 := ir_1_5 hJ9
        have h_84 : m9 1 5 = (-1) := wd_fv (z := 5) 5 rfl hW rfl rfl rfl rfl (by decide) ((up_n (by decide)).trans (hid kn_82)) ⟨by omega, by omega⟩ ⟨by omega, by omega⟩
        refine q_aload_n rfl rfl ?_
        refine v_cv rfl rfl rfl rfl (by decide) ⟨⟨rfl, rfl⟩, by decide, rfl⟩ (Nat.le_of_ble_eq_true rfl) (Nat.le_of_ble_eq_true rfl) ?_
        refine q_aload_n rfl rfl ?_
        have h_85 := ir_41_5 hI
        have h_86 := ir_1_5 hJ
        have h_87 := ir_41_4 hI
        have h_88 := ir_41_6 hI
        have h_89 := rt_ok hRt (by omega)
        have hro_hRt := rt_ok hRt (by omega)
        refine v_gi (z := 5) (v := (-1)) rfl rfl rfl (by decide) rfl rfl hro_hRt.2.1 ?_
        refine q_iconst rfl ?_
        refine v_ic_ne_f (t := 12) rfl (by decide) (by decide) ?_
        refine q_iconst rfl ?_
        refine q_goto (t := 13) rfl (by decide) ?_
        refine v_zret rfl rfl (by decide) ?_
        refine bk_inl ?_
        refine v_if_eq_f (t := 24) rfl (by decide) (by decide) ?_
        refine q_aload_n rfl rfl ?_
        have h_90 : -2147483648 ≤ (H (nx F e1 a9)) ∧ (H (nx F e1 a9)) ≤ 2147483647 := by rw [← hH (nx F e1 a9)]; exact ir_43 hI (nx F e1 a9)
        have h_91 := hU (nx F e1 a9) (by omega) (by omega)
        have h_92 := hb_or (b := H) (e := e1) (r := (nx F e1 a9))
        have h_93 := hb_bd (b := H) (e := e1) (r := (nx F e1 a9)) (lo := -2147483648) (hi := 2147483647) ⟨by omega, by omega⟩ (by decide)
        refine v_cv rfl rfl rfl rfl (by decide) ⟨⟨rfl, rfl⟩, by decide, rfl⟩ (Nat.le_of_ble_eq_true rfl) (Nat.le_of_ble_eq_true rfl) (f_154 (e1 := e1) (a9 := a9) (B := H) (r8 := (nx F e1 a9)) (r := (hb H e1 (nx F e1 a9))) hI ((hr_e1)) (((hro_hRt.2.2.1).trans ((hg_a9)))) (fun j => hH j) ((nx_tr hU (by omega) (by omega)).trans (rfl)) rfl (fun c_94 hI_95 hF_96 h_97 => ?_))
        refine bk_inl ?_
        refine q_iload_n rfl rfl ?_
        refine v_ic_eq_t (t := 24) rfl (by decide) (by omega) ?_
        refine q_aload_n rfl rfl ?_
        refine v_cv rfl rfl rfl rfl (by decide) ⟨⟨rfl, rfl⟩, by decide, rfl⟩ (Nat.le_of_ble_eq_true rfl) (Nat.le_of_ble_eq_true rfl) ?_
        refine q_aload_n rfl rfl ?_
        have kn_98 : Hid (c_94 41 5 = (-1)) := (hF_96 41 5 (fun h => absurd h.2 (ni rfl))).trans hro_hRt.2.1
        refine v_gi (z := 5) (v := (-1)) rfl rfl rfl (by decide) rfl rfl (hid kn_98) ?_
        refine q_iconst rfl ?_
        refine v_ic_ne_f (t := 12) rfl (by decide) (by decide) ?_
        refine q_iconst rfl ?_
        refine q_goto (t := 13) rfl (by decide) ?_
        refine v_zret rfl rfl (by decide) ?_
        refine bk_inl ?_
        refine v_if_eq_f (t := 41) rfl (by decide) (by decide) ?_
        refine q_aload_n rfl rfl ?_
        refine q_dup rfl rfl ?_
        refine v_gi (z := 4) (v := (nx F e1 a9)) rfl rfl rfl (by decide) rfl rfl (h_97) ?_
        refine q_iconst rfl ?_
        refine v_iadd (v := (nx F e1 a9) + 1) rfl (by omega) ?_
        refine v_pi (z := 4) rfl rfl rfl (by decide) rfl rfl rfl (by decide) ?_
        refine q_vret rfl rfl ?_
        have hI_99 := iw_41_4 (v := (nx F e1 a9) + 1) hI_95 ⟨by omega, by omega⟩
        have h_100 : (up c_94 41 4 ((nx F e1 a9) + 1)) 41 5 = (-1) := ((up_n (by decide)).trans (hid kn_98))
        have h_101 : (up c_94 41 4 ((nx F e1 a9) + 1)) 41 4 = (nx F e1 a9) + 1 := (up_e rfl)
        have kn_102 : Hid (c_94 41 6 = c 41 6) := hF_96 41 6 (fun h => absurd h.2 (ni rfl))
        have h_103 : (up c_94 41 4 ((nx F e1 a9) + 1)) 41 6 = c 41 6 := ((up_n (by decide)).trans (hid kn_102))
        exact K (up c_94 41 4 ((nx F e1 a9) + 1))  hI_99 (fun a j hm => (up_b (Decidable.or_iff_not_imp_left.mpr (fun h1 h2 => hm (Or.inl ⟨Decidable.not_not.mp h1, h2⟩)))).trans (hF_96 a j (fun h => hm (Or.inl h)))) (by unfold Rt; omega) (by omega)
  · skip
    have h_104 := ir_1_4 hJ
    refine q_aload_n rfl rfl ?_
    refine v_cv rfl rfl rfl rfl (by decide) ⟨⟨rfl, rfl⟩, by decide, rfl⟩ (Nat.le_of_ble_eq_true rfl) (Nat.le_of_ble_eq_true rfl) ?_
    refine q_aload_n rfl rfl ?_
    refine v_gi (z := 4) (v := m 1 4) rfl rfl rfl (by decide) rfl rfl rfl ?_
    refine v_if_ne_t (t := 11) rfl (by decide) (by omega) ?_
    refine q_iconst rfl ?_
    refine v_zret rfl rfl (by decide) ?_
    refine bk_inl ?_
    refine v_if_eq_t (t := 25) rfl (by decide) (by decide) ?_
    refine q_vret rfl rfl ?_
    intro hE_105
    have hW : Wd P Q P P m = Wd P Q P P m9 := (Prod.mk.inj (Prod.mk.inj hE_105).2).1
    have h_106 := ir_1_4 hJ9
    have h_107 : m9 1 4 = m 1 4 := wd_fv (z := 4) 4 rfl hW rfl rfl rfl rfl (by decide) rfl ⟨by omega, by omega⟩ ⟨by omega, by omega⟩
    have h_108 := ir_1_2 hJ9
    have h_109 : m9 1 2 = a9 := wd_fv (z := 2) 2 rfl hW rfl rfl rfl rfl (by decide) (hg_a9) ⟨by omega, by omega⟩ ⟨by omega, by omega⟩
    have h_110 := ir_1_5 hJ
    have h_111 := ir_1_5 hJ9
    have h_112 : m9 1 5 = m 1 5 := wd_fv (z := 5) 5 rfl hW rfl rfl rfl rfl (by decide) rfl ⟨by omega, by omega⟩ ⟨by omega, by omega⟩
    refine q_aload_n rfl rfl ?_
    refine v_cv rfl rfl rfl rfl (by decide) ⟨⟨rfl, rfl⟩, by decide, rfl⟩ (Nat.le_of_ble_eq_true rfl) (Nat.le_of_ble_eq_true rfl) ?_
    refine q_aload_n rfl rfl ?_
    have h_113 := ir_41_5 hI
    have h_114 := ir_41_4 hI
    have h_115 := ir_41_6 hI
    have h_116 := rt_bad hRt (by omega)
    have hrb_hRt := rt_bad hRt (by omega)
    refine v_gi (z := 5) (v := m 1 5) rfl rfl rfl (by decide) rfl rfl hrb_hRt.2.1 ?_
    refine q_iconst rfl ?_
    refine v_ic_ne_t (t := 12) rfl (by decide) (by omega) ?_
    refine q_iconst rfl ?_
    refine v_zret rfl rfl (by decide) ?_
    refine bk_inl ?_
    refine v_if_eq_t (t := 24) rfl (by decide) (by decide) ?_
    refine q_aload_n rfl rfl ?_
    refine v_cv rfl rfl rfl rfl (by decide) ⟨⟨rfl, rfl⟩, by decide, rfl⟩ (Nat.le_of_ble_eq_true rfl) (Nat.le_of_ble_eq_true rfl) ?_
    refine q_aload_n rfl rfl ?_
    refine v_gi (z := 5) (v := m 1 5) rfl rfl rfl (by decide) rfl rfl hrb_hRt.2.1 ?_
    refine q_iconst rfl ?_
    refine v_ic_ne_t (t := 12) rfl (by decide) (by omega) ?_
    refine q_iconst rfl ?_
    refine v_zret rfl rfl (by decide) ?_
    refine bk_inl ?_
    refine v_if_eq_t (t := 41) rfl (by decide) (by decide) ?_
    refine q_vret rfl rfl ?_
    have h_117 : c 41 5 = m 1 5 := hrb_hRt.2.1
    have h_118 : c 41 6 = m 1 4 := hrb_hRt.2.2.2
    exact K c  hI (fun a j hm => rfl) (by unfold Rt; omega) (by omega)

set_option maxRecDepth 100000 in
set_option maxHeartbeats 4000000 in
theorem L_33_0 {sc : List Int32} {e eg : Int} {d dh u ug P Q P2 Q2 A : Nat} {c m m9 : ME} {e1 jr st si : Int} {F H : Int → Int} {Z : AR → Prop} (hI : Iv u e P2 Q2 c) (hJ : Iv ug eg P Q m) (hJ9 : Iv ug eg P Q m9) (hA : A = 13 ∨ A = 25) (hq0 : (jr ≤ 5)) (hg_e1 : m 1 1 = e1) (hr_e1 : c 41 3 = e1) (hg_jr : m A 0 = jr) (hr_jr : c 41 16 = jr) (hg_st : m A 1 = st) (hr_st : c 41 17 = st) (hg_si : m A 2 = si) (hr_si : c 41 18 = si) (hF : ∀ j : Int, m 2 j = F j) (hH : ∀ j : Int, c 43 j = H j) (hU : Ub F H) (hRt : Rt m c) (hG : Wp sc (dh + 18) 33 0 [(0, .ref A), (1, .ref 1), (2, vi 0)] [] (Wd P Q P P m) 0 0 (fun q => q = (.inl (none), Wd P Q P P m9, 0, 0))) (K : ∀ (c2 : ME), Iv u e P2 Q2 c2 → (∀ (a : Nat) (j : Int), ¬ ((a = 41 ∧ j = 4) ∨ (a = 41 ∧ j = 5) ∨ (a = 41 ∧ j = 6) ∨ (a = 41 ∧ j = 16) ∨ (a = 41 ∧ j = 17) ∨ (a = 41 ∧ j = 18) ∨ (a = 41 ∧ j = 19) ∨ a = 44 ∨ a = 45 ∨ a = 46) → c2 a j = c a j) → (Rt m9 c2) → ((m9 A 0 = c2 41 16)) → ((m9 A 1 = c2 41 17)) → ((m9 A 2 = c2 41 18)) → Z (.inl (none), Wd P2 Q2 P2 P2 c2, 0, 0)) : Wp sc (d + 18) 168 0 [(0, .ref 41), (1, vi 10290)] [] (Wd P2 Q2 P2 P2 c) 0 0 Z := by
  have hP := iv_P hJ
  have hQ := iv_Q hJ
  have h_1 := ir_1_1 hJ
  have h_2 := ir_41_3 hI
  have h_3 := ir_p0_0 hJ hA
  have h_4 := ir_41_16 hI
  have h_5 := ir_p0_1 hJ hA
  have h_6 := ir_41_17 hI
  have h_7 := ir_p0_2 hJ hA
  have h_8 := ir_41_18 hI
  refine gh hG ?_
  refine q_iload_n rfl rfl ?_
  refine v_tsw_i (t := 28) 0 rfl (by omega) (by decide) rfl (by decide) ?_
  refine q_aload_n rfl rfl ?_
  refine q_aload_n rfl rfl ?_
  refine v_gr (t := (A + 1)) rfl rfl (ck_p0 hA) (by omega) rfl ?_
  refine q_aload_n rfl rfl ?_
  refine v_gi (z := 0) (v := jr) rfl rfl (ck_p0 hA) (by omega) rfl rfl (hg_jr) ?_
  refine q_iconst rfl ?_
  refine v_imul (v := 4 * jr) rfl (by omega) ?_
  refine q_iconst rfl ?_
  refine v_sip rfl (by decide) ?_
  refine q_call rfl rfl rfl rfl ?_
  refine q_iload_n rfl rfl ?_
  refine q_istore rfl (by decide) ?_
  refine q_iload rfl rfl ?_
  refine q_iload_n rfl rfl ?_
  refine q_iload_n rfl rfl ?_
  refine v_iadd (v := 4 * jr + 4) rfl (by omega) ?_
  refine v_ic_ge_f (t := 34) rfl (by decide) (by omega) ?_
  refine q_iload rfl rfl ?_
  refine q_aload_n rfl rfl ?_
  refine v_al rfl (ck_p1 hA) (by omega) (by decide) ?_
  refine v_ic_ge_f (t := 34) rfl (by decide) (by omega) ?_
  refine q_aload_n rfl rfl ?_
  refine q_iload rfl rfl ?_
  refine q_aload_n rfl rfl ?_
  refine q_iload rfl rfl ?_
  have h_9 := ir_1_4 hJ
  refine v_cv rfl rfl rfl rfl (by decide) ⟨⟨rfl, rfl⟩, by decide, rfl⟩ (Nat.le_of_ble_eq_true rfl) (Nat.le_of_ble_eq_true rfl) (fn_of (s_8 (a1 := 999) hJ (show (-1) ≤ 999 ∧ 999 ≤ 9999 from by omega) (fun c_10 y_13 hI_11 hF_12 hy_13 h_14 => ?_)))
  intro hG_15
  refine bk_inl ?_
  refine v_is rfl (ck_p1 hA) (by omega) (by decide) (by omega) ?_
  refine v_iinc (v := 4 * jr + 1) rfl rfl (by decide) (by omega) ?_
  refine q_goto (t := 3) rfl (by decide) ?_
  refine q_iload rfl rfl ?_
  refine q_iload_n rfl rfl ?_
  refine q_iload_n rfl rfl ?_
  refine v_iadd (v := 4 * jr + 4) rfl (by omega) ?_
  refine v_ic_ge_f (t := 34) rfl (by decide) (by omega) ?_
  refine q_iload rfl rfl ?_
  refine q_aload_n rfl rfl ?_
  refine v_al rfl (ck_p1 hA) (by omega) (by decide) ?_
  refine v_ic_ge_f (t := 34) rfl (by decide) (by omega) ?_
  refine q_aload_n rfl rfl ?_
  refine q_iload rfl rfl ?_
  refine q_aload_n rfl rfl ?_
  refine q_iload rfl rfl ?_
  have h_16 := ir_1_4 hI_11
  have hI_17 := iw_p1 (j := 4 * jr) (v := y_13) hI_11 hA ⟨by omega, by omega⟩
  refine v_cv rfl rfl rfl rfl (by decide) ⟨⟨rfl, rfl⟩, by decide, rfl⟩ (Nat.le_of_ble_eq_true rfl) (Nat.le_of_ble_eq_true rfl) (fn_of (s_8 (a1 := 999) hI_17 (show (-1) ≤ 999 ∧ 999 ≤ 9999 from by omega) (fun c_18 y_21 hI_19 hF_20 hy_21 h_22 => ?_)))
  intro hG_23
  refine bk_inl ?_
  refine v_is rfl (ck_p1 hA) (by omega) (by decide) (by omega) ?_
  refine v_iinc (v := 4 * jr + 2) rfl rfl (by decide) (by omega) ?_
  refine q_goto (t := 3) rfl (by decide) ?_
  refine q_iload rfl rfl ?_
  refine q_iload_n rfl rfl ?_
  refine q_iload_n rfl rfl ?_
  refine v_iadd (v := 4 * jr + 4) rfl (by omega) ?_
  refine v_ic_ge_f (t := 34) rfl (by decide) (by omega) ?_
  refine q_iload rfl rfl ?_
  refine q_aload_n rfl rfl ?_
  refine v_al rfl (ck_p1 hA) (by omega) (by decide) ?_
  refine v_ic_ge_f (t := 34) rfl (by decide) (by omega) ?_
  refine q_aload_n rfl rfl ?_
  refine q_iload rfl rfl ?_
  refine q_aload_n rfl rfl ?_
  refine q_iload rfl rfl ?_
  have h_24 := ir_1_4 hI_19
  have hI_25 := iw_p1 (j := 4 * jr + 1) (v := y_21) hI_19 hA ⟨by omega, by omega⟩
  refine v_cv rfl rfl rfl rfl (by decide) ⟨⟨rfl, rfl⟩, by decide, rfl⟩ (Nat.le_of_ble_eq_true rfl) (Nat.le_of_ble_eq_true rfl) (fn_of (s_8 (a1 := 999) hI_25 (show (-1) ≤ 999 ∧ 999 ≤ 9999 from by omega) (fun c_26 y_29 hI_27 hF_28 hy_29 h_30 => ?_)))
  intro hG_31
  refine bk_inl ?_
  refine v_is rfl (ck_p1 hA) (by omega) (by decide) (by omega) ?_
  refine v_iinc (v := 4 * jr + 3) rfl rfl (by decide) (by omega) ?_
  refine q_goto (t := 3) rfl (by decide) ?_
  refine q_iload rfl rfl ?_
  refine q_iload_n rfl rfl ?_
  refine q_iload_n rfl rfl ?_
  refine v_iadd (v := 4 * jr + 4) rfl (by omega) ?_
  refine v_ic_ge_f (t := 34) rfl (by decide) (by omega) ?_
  refine q_iload rfl rfl ?_
  refine q_aload_n rfl rfl ?_
  refine v_al rfl (ck_p1 hA) (by omega) (by decide) ?_
  refine v_ic_ge_f (t := 34) rfl (by decide) (by omega) ?_
  refine q_aload_n rfl rfl ?_
  refine q_iload rfl rfl ?_
  refine q_aload_n rfl rfl ?_
  refine q_iload rfl rfl ?_
  have h_32 := ir_1_4 hI_27
  have hI_33 := iw_p1 (j := 4 * jr + 2) (v := y_29) hI_27 hA ⟨by omega, by omega⟩
  refine v_cv rfl rfl rfl rfl (by decide) ⟨⟨rfl, rfl⟩, by decide, rfl⟩ (Nat.le_of_ble_eq_true rfl) (Nat.le_of_ble_eq_true rfl) (fn_of (s_8 (a1 := 999) hI_33 (show (-1) ≤ 999 ∧ 999 ≤ 9999 from by omega) (fun c_34 y_37 hI_35 hF_36 hy_37 h_38 => ?_)))
  intro hG_39
  refine bk_inl ?_
  refine v_is rfl (ck_p1 hA) (by omega) (by decide) (by omega) ?_
  refine v_iinc (v := 4 * jr + 4) rfl rfl (by decide) (by omega) ?_
  refine Wp_ls [(5, vi (4 * jr + 4)), (0, .ref 1), (1, .ref (A + 1)), (2, vi (4 * jr)), (3, vi 4), (4, vi 999)] (lsub_cons rfl (lsub_cons rfl (lsub_cons rfl (lsub_cons rfl (lsub_cons rfl (lsub_cons rfl lsub_nil)))))) ?_
  refine q_goto (t := 3) rfl (by decide) ?_
  refine q_iload rfl rfl ?_
  refine q_iload_n rfl rfl ?_
  refine q_iload_n rfl rfl ?_
  refine v_iadd (v := 4 * jr + 4) rfl (by omega) ?_
  refine v_ic_ge_t (t := 34) rfl (by decide) (by omega) ?_
  refine q_vret rfl rfl ?_
  refine bk_inl ?_
  refine q_aload_n rfl rfl ?_
  refine q_dup rfl rfl ?_
  have kn_40 : Hid (c_10 A 0 = jr) := (hF_12 A 0 (fun q => q.elim (fun h => absurd h.1 (np0 hA rfl)) (fun q => q.elim (fun h => absurd h.1 (np0 hA rfl)) (fun h => absurd h.1 (np0 hA rfl))))).trans (hg_jr)
  have kn_41 : Hid (c_18 A 0 = jr) := (hF_20 A 0 (fun q => q.elim (fun h => absurd h.1 (np0 hA rfl)) (fun q => q.elim (fun h => absurd h.1 (np0 hA rfl)) (fun h => absurd h.1 (np0 hA rfl))))).trans ((up_c (p0p rfl)).trans (hid kn_40))
  have kn_42 : Hid (c_26 A 0 = jr) := (hF_28 A 0 (fun q => q.elim (fun h => absurd h.1 (np0 hA rfl)) (fun q => q.elim (fun h => absurd h.1 (np0 hA rfl)) (fun h => absurd h.1 (np0 hA rfl))))).trans ((up_c (p0p rfl)).trans (hid kn_41))
  have kn_43 : Hid (c_34 A 0 = jr) := (hF_36 A 0 (fun q => q.elim (fun h => absurd h.1 (np0 hA rfl)) (fun q => q.elim (fun h => absurd h.1 (np0 hA rfl)) (fun h => absurd h.1 (np0 hA rfl))))).trans ((up_c (p0p rfl)).trans (hid kn_42))
  refine v_gi (z := 0) (v := jr) rfl rfl (ck_p0 hA) (by omega) rfl rfl ((up_c (p0p rfl)).trans (hid kn_43)) ?_
  refine q_iconst rfl ?_
  refine v_iadd (v := jr + 1) rfl (by omega) ?_
  refine v_pi (z := 0) rfl rfl (ck_p0 hA) (by omega) rfl rfl rfl (by decide) ?_
  refine q_goto (t := 126) rfl (by decide) ?_
  refine q_vret rfl rfl ?_
  have hI_44 := iw_p1 (j := 4 * jr + 3) (v := y_37) hI_35 hA ⟨by omega, by omega⟩
  have hI_45 := iw_p0_0 (v := jr + 1) hI_44 hA ⟨by omega, by omega⟩
  intro hE_46
  have hW : Wd P Q P P (up (up c_34 (A + 1) (4 * jr + 3) y_37) A 0 (jr + 1)) = Wd P Q P P m9 := (Prod.mk.inj (Prod.mk.inj hE_46).2).1
  have h_47 := ir_1_4 hI_35
  have h_48 := ir_1_4 hJ9
  have h_49 : m9 1 4 = c_34 1 4 := wd_fv (z := 4) 4 rfl hW rfl rfl rfl rfl (by decide) ((up_c (pn0 hA rfl)).trans (up_c (pn hA rfl rfl))) ⟨by omega, by omega⟩ ⟨by omega, by omega⟩
  have h_50 := ir_1_2 hI_35
  have h_51 := ir_1_2 hJ9
  have h_52 : m9 1 2 = c_34 1 2 := wd_fv (z := 2) 2 rfl hW rfl rfl rfl rfl (by decide) ((up_c (pn0 hA rfl)).trans (up_c (pn hA rfl rfl))) ⟨by omega, by omega⟩ ⟨by omega, by omega⟩
  have h_53 := ir_1_5 hI_35
  have h_54 := ir_1_5 hJ9
  have h_55 : m9 1 5 = c_34 1 5 := wd_fv (z := 5) 5 rfl hW rfl rfl rfl rfl (by decide) ((up_c (pn0 hA rfl)).trans (up_c (pn hA rfl rfl))) ⟨by omega, by omega⟩ ⟨by omega, by omega⟩
  have h_56 := ir_p0_0 hJ9 hA
  have h_57 : m9 A 0 = jr + 1 := wd_fv (z := 0) 0 rfl hW (ck_A hA) (ck_A hA) rfl rfl (by omega) (up_e rfl) ⟨by omega, by omega⟩ ⟨by omega, by omega⟩
  have kn_58 : Hid (c_10 A 1 = st) := (hF_12 A 1 (fun q => q.elim (fun h => absurd h.1 (np0 hA rfl)) (fun q => q.elim (fun h => absurd h.1 (np0 hA rfl)) (fun h => absurd h.1 (np0 hA rfl))))).trans (hg_st)
  have kn_59 : Hid (c_18 A 1 = st) := (hF_20 A 1 (fun q => q.elim (fun h => absurd h.1 (np0 hA rfl)) (fun q => q.elim (fun h => absurd h.1 (np0 hA rfl)) (fun h => absurd h.1 (np0 hA rfl))))).trans ((up_c (p0p rfl)).trans (hid kn_58))
  have kn_60 : Hid (c_26 A 1 = st) := (hF_28 A 1 (fun q => q.elim (fun h => absurd h.1 (np0 hA rfl)) (fun q => q.elim (fun h => absurd h.1 (np0 hA rfl)) (fun h => absurd h.1 (np0 hA rfl))))).trans ((up_c (p0p rfl)).trans (hid kn_59))
  have kn_61 : Hid (c_34 A 1 = st) := (hF_36 A 1 (fun q => q.elim (fun h => absurd h.1 (np0 hA rfl)) (fun q => q.elim (fun h => absurd h.1 (np0 hA rfl)) (fun h => absurd h.1 (np0 hA rfl))))).trans ((up_c (p0p rfl)).trans (hid kn_60))
  have h_62 := ir_p0_1 hJ9 hA
  have h_63 : m9 A 1 = st := wd_fv (z := 1) 1 rfl hW (ck_A hA) (ck_A hA) rfl rfl (by omega) ((up_n (by decide)).trans ((up_c (p0p rfl)).trans (hid kn_61))) ⟨by omega, by omega⟩ ⟨by omega, by omega⟩
  have kn_64 : Hid (c_10 A 2 = si) := (hF_12 A 2 (fun q => q.elim (fun h => absurd h.1 (np0 hA rfl)) (fun q => q.elim (fun h => absurd h.1 (np0 hA rfl)) (fun h => absurd h.1 (np0 hA rfl))))).trans (hg_si)
  have kn_65 : Hid (c_18 A 2 = si) := (hF_20 A 2 (fun q => q.elim (fun h => absurd h.1 (np0 hA rfl)) (fun q => q.elim (fun h => absurd h.1 (np0 hA rfl)) (fun h => absurd h.1 (np0 hA rfl))))).trans ((up_c (p0p rfl)).trans (hid kn_64))
  have kn_66 : Hid (c_26 A 2 = si) := (hF_28 A 2 (fun q => q.elim (fun h => absurd h.1 (np0 hA rfl)) (fun q => q.elim (fun h => absurd h.1 (np0 hA rfl)) (fun h => absurd h.1 (np0 hA rfl))))).trans ((up_c (p0p rfl)).trans (hid kn_65))
  have kn_67 : Hid (c_34 A 2 = si) := (hF_36 A 2 (fun q => q.elim (fun h => absurd h.1 (np0 hA rfl)) (fun q => q.elim (fun h => absurd h.1 (np0 hA rfl)) (fun h => absurd h.1 (np0 hA rfl))))).trans ((up_c (p0p rfl)).trans (hid kn_66))
  have h_68 := ir_p0_2 hJ9 hA
  have h_69 : m9 A 2 = si := wd_fv (z := 2) 2 rfl hW (ck_A hA) (ck_A hA) rfl rfl (by omega) ((up_n (by decide)).trans ((up_c (p0p rfl)).trans (hid kn_67))) ⟨by omega, by omega⟩ ⟨by omega, by omega⟩
  refine q_iload_n rfl rfl ?_
  refine q_ldc_s rfl rfl rfl (by decide) ?_
  refine q_call rfl rfl rfl rfl (s_158_16 ?_)
  refine bk_inl ?_
  refine v_ic_ne_f (t := 56) rfl (by decide) (by decide) ?_
  refine q_iconst rfl ?_
  refine q_istore_n rfl (by decide) ?_
  refine q_iload_n rfl rfl ?_
  refine q_iconst rfl ?_
  refine v_ic_ge_f (t := 43) rfl (by decide) (by decide) ?_
  refine q_aload_n rfl rfl ?_
  refine v_gr (t := 44) rfl rfl rfl (by decide) rfl ?_
  refine q_iconst rfl ?_
  refine q_aload_n rfl rfl ?_
  refine v_gi (z := 16) (v := jr) rfl rfl rfl (by decide) rfl rfl (hr_jr) ?_
  refine v_imul (v := 4 * jr) rfl (by omega) ?_
  refine q_iload_n rfl rfl ?_
  refine v_iadd (v := 4 * jr) rfl (by omega) ?_
  refine q_aload_n rfl rfl ?_
  refine q_iconst rfl ?_
  refine v_sip rfl (by decide) ?_
  have h_70 := ir_1_2 hJ
  refine v_cv rfl rfl rfl rfl (by decide) ⟨⟨rfl, rfl⟩, by decide, rfl⟩ (Nat.le_of_ble_eq_true rfl) (Nat.le_of_ble_eq_true rfl) (L_8 (m := m) (a2 := 999) (yg := y_13) (e1 := e1) (a9 := m 1 2) (F := F) (H := H) hI hJ hI_11 (show (-1) ≤ 999 ∧ 999 ≤ 9999 from by omega) ⟨by omega, by omega⟩ ((hg_e1)) ((hr_e1)) (rfl) (fun j => hF j) (fun j => hH j) hU hRt hG_15 (fun c_71 y_74 hI_72 hF_73 hy_74 hR_75 h_76 h_77 => ?_))
  refine bk_inl ?_
  have hs_78 := h_76.symm
  subst hs_78
  have h_79 := ir_1_2 hI_11
  refine v_is rfl rfl (by decide) (by decide) (by omega) ?_
  refine v_iinc (v := 1) rfl rfl (by decide) (by decide) ?_
  refine q_goto (t := 11) rfl (by decide) ?_
  refine q_iload_n rfl rfl ?_
  refine q_iconst rfl ?_
  refine v_ic_ge_f (t := 43) rfl (by decide) (by decide) ?_
  refine q_aload_n rfl rfl ?_
  refine v_gr (t := 44) rfl rfl rfl (by decide) rfl ?_
  refine q_iconst rfl ?_
  refine q_aload_n rfl rfl ?_
  have kn_80 : Hid (c_71 41 16 = jr) := (hF_73 41 16 (fun q => q.elim (fun h => absurd h.2 (ni rfl)) (fun q => q.elim (fun h => absurd h.2 (ni rfl)) (fun h => absurd h.2 (ni rfl))))).trans (hr_jr)
  refine v_gi (z := 16) (v := jr) rfl rfl rfl (by decide) rfl rfl ((up_c (nn rfl)).trans (hid kn_80)) ?_
  refine v_imul (v := 4 * jr) rfl (by omega) ?_
  refine q_iload_n rfl rfl ?_
  refine v_iadd (v := 4 * jr + 1) rfl (by omega) ?_
  refine q_aload_n rfl rfl ?_
  refine q_iconst rfl ?_
  refine v_sip rfl (by decide) ?_
  have hI_81 := iw_44 (j := 4 * jr) (v := y_13) hI_72 ⟨by omega, by omega⟩
  have kn_82 : Hid (c_10 1 1 = e1) := (hF_12 1 1 (fun q => q.elim (fun h => absurd h.2 (ni rfl)) (fun q => q.elim (fun h => absurd h.2 (ni rfl)) (fun h => absurd h.2 (ni rfl))))).trans (hg_e1)
  have kn_83 : Hid (c_71 41 3 = e1) := (hF_73 41 3 (fun q => q.elim (fun h => absurd h.2 (ni rfl)) (fun q => q.elim (fun h => absurd h.2 (ni rfl)) (fun h => absurd h.2 (ni rfl))))).trans (hr_e1)
  refine v_cv rfl rfl rfl rfl (by decide) ⟨⟨rfl, rfl⟩, by decide, rfl⟩ (Nat.le_of_ble_eq_true rfl) (Nat.le_of_ble_eq_true rfl) (L_8 (m := up c_10 (A + 1) (4 * jr) y_13) (a2 := 999) (yg := y_21) (e1 := e1) (a9 := c_10 1 2) (F := F) (H := H) hI_81 hI_17 hI_19 (show (-1) ≤ 999 ∧ 999 ≤ 9999 from by omega) ⟨by omega, by omega⟩ (((up_c (pn hA rfl rfl)).trans (hid kn_82))) (((up_c (nn rfl)).trans (hid kn_83))) ((up_c (pn hA rfl rfl))) (fun j => ((up_c (pn hA rfl rfl)).trans (hF_12 2 j (fun q => q.elim (fun h => absurd h.1 (nn rfl)) (fun q => q.elim (fun h => absurd h.1 (nn rfl)) (fun h => absurd h.1 (nn rfl)))))).trans (hF j)) (fun j => ((up_c (nn rfl)).trans (hF_73 43 j (fun q => q.elim (fun h => absurd h.1 (nn rfl)) (fun q => q.elim (fun h => absurd h.1 (nn rfl)) (fun h => absurd h.1 (nn rfl)))))).trans (hH j)) hU (rt_fr hR_75 (up_c (pn hA rfl rfl)) (up_c (pn hA rfl rfl)) (up_c (pn hA rfl rfl)) (up_c (nn rfl)) (up_c (nn rfl)) (up_c (nn rfl))) hG_23 (fun c_84 y_87 hI_85 hF_86 hy_87 hR_88 h_89 h_90 => ?_))
  refine bk_inl ?_
  have hs_91 := h_89.symm
  subst hs_91
  have h_92 := ir_1_2 hI_19
  refine v_is rfl rfl (by decide) (by decide) (by omega) ?_
  refine v_iinc (v := 2) rfl rfl (by decide) (by decide) ?_
  refine q_goto (t := 11) rfl (by decide) ?_
  refine q_iload_n rfl rfl ?_
  refine q_iconst rfl ?_
  refine v_ic_ge_f (t := 43) rfl (by decide) (by decide) ?_
  refine q_aload_n rfl rfl ?_
  refine v_gr (t := 44) rfl rfl rfl (by decide) rfl ?_
  refine q_iconst rfl ?_
  refine q_aload_n rfl rfl ?_
  have kn_93 : Hid (c_84 41 16 = jr) := (hF_86 41 16 (fun q => q.elim (fun h => absurd h.2 (ni rfl)) (fun q => q.elim (fun h => absurd h.2 (ni rfl)) (fun h => absurd h.2 (ni rfl))))).trans ((up_c (nn rfl)).trans (hid kn_80))
  refine v_gi (z := 16) (v := jr) rfl rfl rfl (by decide) rfl rfl ((up_c (nn rfl)).trans (hid kn_93)) ?_
  refine v_imul (v := 4 * jr) rfl (by omega) ?_
  refine q_iload_n rfl rfl ?_
  refine v_iadd (v := 4 * jr + 2) rfl (by omega) ?_
  refine q_aload_n rfl rfl ?_
  refine q_iconst rfl ?_
  refine v_sip rfl (by decide) ?_
  have hI_94 := iw_44 (j := 4 * jr + 1) (v := y_21) hI_85 ⟨by omega, by omega⟩
  have kn_95 : Hid (c_18 1 1 = e1) := (hF_20 1 1 (fun q => q.elim (fun h => absurd h.2 (ni rfl)) (fun q => q.elim (fun h => absurd h.2 (ni rfl)) (fun h => absurd h.2 (ni rfl))))).trans ((up_c (pn hA rfl rfl)).trans (hid kn_82))
  have kn_96 : Hid (c_84 41 3 = e1) := (hF_86 41 3 (fun q => q.elim (fun h => absurd h.2 (ni rfl)) (fun q => q.elim (fun h => absurd h.2 (ni rfl)) (fun h => absurd h.2 (ni rfl))))).trans ((up_c (nn rfl)).trans (hid kn_83))
  refine v_cv rfl rfl rfl rfl (by decide) ⟨⟨rfl, rfl⟩, by decide, rfl⟩ (Nat.le_of_ble_eq_true rfl) (Nat.le_of_ble_eq_true rfl) (L_8 (m := up c_18 (A + 1) (4 * jr + 1) y_21) (a2 := 999) (yg := y_29) (e1 := e1) (a9 := c_18 1 2) (F := F) (H := H) hI_94 hI_25 hI_27 (show (-1) ≤ 999 ∧ 999 ≤ 9999 from by omega) ⟨by omega, by omega⟩ (((up_c (pn hA rfl rfl)).trans (hid kn_95))) (((up_c (nn rfl)).trans (hid kn_96))) ((up_c (pn hA rfl rfl))) (fun j => ((up_c (pn hA rfl rfl)).trans ((hF_20 2 j (fun q => q.elim (fun h => absurd h.1 (nn rfl)) (fun q => q.elim (fun h => absurd h.1 (nn rfl)) (fun h => absurd h.1 (nn rfl))))).trans ((up_c (pn hA rfl rfl)).trans (hF_12 2 j (fun q => q.elim (fun h => absurd h.1 (nn rfl)) (fun q => q.elim (fun h => absurd h.1 (nn rfl)) (fun h => absurd h.1 (nn rfl)))))))).trans (hF j)) (fun j => ((up_c (nn rfl)).trans ((hF_86 43 j (fun q => q.elim (fun h => absurd h.1 (nn rfl)) (fun q => q.elim (fun h => absurd h.1 (nn rfl)) (fun h => absurd h.1 (nn rfl))))).trans ((up_c (nn rfl)).trans (hF_73 43 j (fun q => q.elim (fun h => absurd h.1 (nn rfl)) (fun q => q.elim (fun h => absurd h.1 (nn rfl)) (fun h => absurd h.1 (nn rfl)))))))).trans (hH j)) hU (rt_fr hR_88 (up_c (pn hA rfl rfl)) (up_c (pn hA rfl rfl)) (up_c (pn hA rfl rfl)) (up_c (nn rfl)) (up_c (nn rfl)) (up_c (nn rfl))) hG_31 (fun c_97 y_100 hI_98 hF_99 hy_100 hR_101 h_102 h_103 => ?_))
  refine bk_inl ?_
  have hs_104 := h_102.symm
  subst hs_104
  have h_105 := ir_1_2 hI_27
  refine v_is rfl rfl (by decide) (by decide) (by omega) ?_
  refine v_iinc (v := 3) rfl rfl (by decide) (by decide) ?_
  refine q_goto (t := 11) rfl (by decide) ?_
  refine q_iload_n rfl rfl ?_
  refine q_iconst rfl ?_
  refine v_ic_ge_f (t := 43) rfl (by decide) (by decide) ?_
  refine q_aload_n rfl rfl ?_
  refine v_gr (t := 44) rfl rfl rfl (by decide) rfl ?_
  refine q_iconst rfl ?_
  refine q_aload_n rfl rfl ?_
  have kn_106 : Hid (c_97 41 16 = jr) := (hF_99 41 16 (fun q => q.elim (fun h => absurd h.2 (ni rfl)) (fun q => q.elim (fun h => absurd h.2 (ni rfl)) (fun h => absurd h.2 (ni rfl))))).trans ((up_c (nn rfl)).trans (hid kn_93))
  refine v_gi (z := 16) (v := jr) rfl rfl rfl (by decide) rfl rfl ((up_c (nn rfl)).trans (hid kn_106)) ?_
  refine v_imul (v := 4 * jr) rfl (by omega) ?_
  refine q_iload_n rfl rfl ?_
  refine v_iadd (v := 4 * jr + 3) rfl (by omega) ?_
  refine q_aload_n rfl rfl ?_
  refine q_iconst rfl ?_
  refine v_sip rfl (by decide) ?_
  have hI_107 := iw_44 (j := 4 * jr + 2) (v := y_29) hI_98 ⟨by omega, by omega⟩
  have kn_108 : Hid (c_26 1 1 = e1) := (hF_28 1 1 (fun q => q.elim (fun h => absurd h.2 (ni rfl)) (fun q => q.elim (fun h => absurd h.2 (ni rfl)) (fun h => absurd h.2 (ni rfl))))).trans ((up_c (pn hA rfl rfl)).trans (hid kn_95))
  have kn_109 : Hid (c_97 41 3 = e1) := (hF_99 41 3 (fun q => q.elim (fun h => absurd h.2 (ni rfl)) (fun q => q.elim (fun h => absurd h.2 (ni rfl)) (fun h => absurd h.2 (ni rfl))))).trans ((up_c (nn rfl)).trans (hid kn_96))
  refine v_cv rfl rfl rfl rfl (by decide) ⟨⟨rfl, rfl⟩, by decide, rfl⟩ (Nat.le_of_ble_eq_true rfl) (Nat.le_of_ble_eq_true rfl) (L_8 (m := up c_26 (A + 1) (4 * jr + 2) y_29) (a2 := 999) (yg := y_37) (e1 := e1) (a9 := c_26 1 2) (F := F) (H := H) hI_107 hI_33 hI_35 (show (-1) ≤ 999 ∧ 999 ≤ 9999 from by omega) ⟨by omega, by omega⟩ (((up_c (pn hA rfl rfl)).trans (hid kn_108))) (((up_c (nn rfl)).trans (hid kn_109))) ((up_c (pn hA rfl rfl))) (fun j => ((up_c (pn hA rfl rfl)).trans ((hF_28 2 j (fun q => q.elim (fun h => absurd h.1 (nn rfl)) (fun q => q.elim (fun h => absurd h.1 (nn rfl)) (fun h => absurd h.1 (nn rfl))))).trans ((up_c (pn hA rfl rfl)).trans ((hF_20 2 j (fun q => q.elim (fun h => absurd h.1 (nn rfl)) (fun q => q.elim (fun h => absurd h.1 (nn rfl)) (fun h => absurd h.1 (nn rfl))))).trans ((up_c (pn hA rfl rfl)).trans (hF_12 2 j (fun q => q.elim (fun h => absurd h.1 (nn rfl)) (fun q => q.elim (fun h => absurd h.1 (nn rfl)) (fun h => absurd h.1 (nn rfl)))))))))).trans (hF j)) (fun j => ((up_c (nn rfl)).trans ((hF_99 43 j (fun q => q.elim (fun h => absurd h.1 (nn rfl)) (fun q => q.elim (fun h => absurd h.1 (nn rfl)) (fun h => absurd h.1 (nn rfl))))).trans ((up_c (nn rfl)).trans ((hF_86 43 j (fun q => q.elim (fun h => absurd h.1 (nn rfl)) (fun q => q.elim (fun h => absurd h.1 (nn rfl)) (fun h => absurd h.1 (nn rfl))))).trans ((up_c (nn rfl)).trans (hF_73 43 j (fun q => q.elim (fun h => absurd h.1 (nn rfl)) (fun q => q.elim (fun h => absurd h.1 (nn rfl)) (fun h => absurd h.1 (nn rfl)))))))))).trans (hH j)) hU (rt_fr hR_101 (up_c (pn hA rfl rfl)) (up_c (pn hA rfl rfl)) (up_c (pn hA rfl rfl)) (up_c (nn rfl)) (up_c (nn rfl)) (up_c (nn rfl))) hG_39 (fun c_110 y_113 hI_111 hF_112 hy_113 hR_114 h_115 h_116 => ?_))
  refine bk_inl ?_
  have hs_117 := h_115.symm
  subst hs_117
  refine v_is rfl rfl (by decide) (by decide) (by omega) ?_
  refine v_iinc (v := 4) rfl rfl (by decide) (by decide) ?_
  refine Wp_ls [(2, vi 4), (0, .ref 41), (1, vi 10290)] (lsub_cons rfl (lsub_cons rfl (lsub_cons rfl lsub_nil))) ?_
  refine q_goto (t := 11) rfl (by decide) ?_
  refine q_iload_n rfl rfl ?_
  refine q_iconst rfl ?_
  refine v_ic_ge_t (t := 43) rfl (by decide) (by decide) ?_
  refine q_aload_n rfl rfl ?_
  refine q_dup rfl rfl ?_
  have kn_118 : Hid (c_110 41 16 = jr) := (hF_112 41 16 (fun q => q.elim (fun h => absurd h.2 (ni rfl)) (fun q => q.elim (fun h => absurd h.2 (ni rfl)) (fun h => absurd h.2 (ni rfl))))).trans ((up_c (nn rfl)).trans (hid kn_106))
  refine v_gi (z := 16) (v := jr) rfl rfl rfl (by decide) rfl rfl ((up_c (nn rfl)).trans (hid kn_118)) ?_
  refine q_iconst rfl ?_
  refine v_iadd (v := jr + 1) rfl (by omega) ?_
  refine v_pi (z := 16) rfl rfl rfl (by decide) rfl rfl rfl (by decide) ?_
  refine q_goto (t := 159) rfl (by decide) ?_
  refine q_vret rfl rfl ?_
  have hI_119 := iw_44 (j := 4 * jr + 3) (v := y_37) hI_111 ⟨by omega, by omega⟩
  have hI_120 := iw_41_16 (v := jr + 1) hI_119 ⟨by omega, by omega⟩
  have h_121 := ir_41_5 hI_111
  have h_122 := ir_41_4 hI_111
  have h_123 := ir_41_6 hI_111
  have h_124 := rt_or hR_114
  have h_125 : (up (up c_110 44 (4 * jr + 3) y_37) 41 16 (jr + 1)) 41 5 = c_110 41 5 := ((up_n (by decide)).trans (up_c (nn rfl)))
  have h_126 : (up (up c_110 44 (4 * jr + 3) y_37) 41 16 (jr + 1)) 41 4 = c_110 41 4 := ((up_n (by decide)).trans (up_c (nn rfl)))
  have h_127 : (up (up c_110 44 (4 * jr + 3) y_37) 41 16 (jr + 1)) 41 6 = c_110 41 6 := ((up_n (by decide)).trans (up_c (nn rfl)))
  have h_128 : (up (up c_110 44 (4 * jr + 3) y_37) 41 16 (jr + 1)) 41 16 = jr + 1 := (up_e rfl)
  have kn_129 : Hid (c_71 41 17 = st) := (hF_73 41 17 (fun q => q.elim (fun h => absurd h.2 (ni rfl)) (fun q => q.elim (fun h => absurd h.2 (ni rfl)) (fun h => absurd h.2 (ni rfl))))).trans (hr_st)
  have kn_130 : Hid (c_84 41 17 = st) := (hF_86 41 17 (fun q => q.elim (fun h => absurd h.2 (ni rfl)) (fun q => q.elim (fun h => absurd h.2 (ni rfl)) (fun h => absurd h.2 (ni rfl))))).trans ((up_c (nn rfl)).trans (hid kn_129))
  have kn_131 : Hid (c_97 41 17 = st) := (hF_99 41 17 (fun q => q.elim (fun h => absurd h.2 (ni rfl)) (fun q => q.elim (fun h => absurd h.2 (ni rfl)) (fun h => absurd h.2 (ni rfl))))).trans ((up_c (nn rfl)).trans (hid kn_130))
  have kn_132 : Hid (c_110 41 17 = st) := (hF_112 41 17 (fun q => q.elim (fun h => absurd h.2 (ni rfl)) (fun q => q.elim (fun h => absurd h.2 (ni rfl)) (fun h => absurd h.2 (ni rfl))))).trans ((up_c (nn rfl)).trans (hid kn_131))
  have h_133 : (up (up c_110 44 (4 * jr + 3) y_37) 41 16 (jr + 1)) 41 17 = st := ((up_n (by decide)).trans ((up_c (nn rfl)).trans (hid kn_132)))
  have kn_134 : Hid (c_71 41 18 = si) := (hF_73 41 18 (fun q => q.elim (fun h => absurd h.2 (ni rfl)) (fun q => q.elim (fun h => absurd h.2 (ni rfl)) (fun h => absurd h.2 (ni rfl))))).trans (hr_si)
  have kn_135 : Hid (c_84 41 18 = si) := (hF_86 41 18 (fun q => q.elim (fun h => absurd h.2 (ni rfl)) (fun q => q.elim (fun h => absurd h.2 (ni rfl)) (fun h => absurd h.2 (ni rfl))))).trans ((up_c (nn rfl)).trans (hid kn_134))
  have kn_136 : Hid (c_97 41 18 = si) := (hF_99 41 18 (fun q => q.elim (fun h => absurd h.2 (ni rfl)) (fun q => q.elim (fun h => absurd h.2 (ni rfl)) (fun h => absurd h.2 (ni rfl))))).trans ((up_c (nn rfl)).trans (hid kn_135))
  have kn_137 : Hid (c_110 41 18 = si) := (hF_112 41 18 (fun q => q.elim (fun h => absurd h.2 (ni rfl)) (fun q => q.elim (fun h => absurd h.2 (ni rfl)) (fun h => absurd h.2 (ni rfl))))).trans ((up_c (nn rfl)).trans (hid kn_136))
  have h_138 : (up (up c_110 44 (4 * jr + 3) y_37) 41 16 (jr + 1)) 41 18 = si := ((up_n (by decide)).trans ((up_c (nn rfl)).trans (hid kn_137)))
  exact K (up (up c_110 44 (4 * jr + 3) y_37) 41 16 (jr + 1))  hI_120 (fun a j hm => (up_b (Decidable.or_iff_not_imp_left.mpr (fun h1 h2 => hm (Or.inr (Or.inr (Or.inr (Or.inl ⟨Decidable.not_not.mp h1, h2⟩))))))).trans ((up_b (Decidable.or_iff_not_imp_left.mpr (fun h1 h2 => hm (Or.inr (Or.inr (Or.inr (Or.inr (Or.inr (Or.inr (Or.inr (Or.inl (Decidable.not_not.mp h1)))))))))))).trans ((hF_112 a j (fun q => q.elim (fun h => hm (Or.inl h)) (fun q => q.elim (fun h => hm (Or.inr (Or.inl h))) (fun h => hm (Or.inr (Or.inr (Or.inl h))))))).trans ((up_b (Decidable.or_iff_not_imp_left.mpr (fun h1 h2 => hm (Or.inr (Or.inr (Or.inr (Or.inr (Or.inr (Or.inr (Or.inr (Or.inl (Decidable.not_not.mp h1)))))))))))).trans ((hF_99 a j (fun q => q.elim (fun h => hm (Or.inl h)) (fun q => q.elim (fun h => hm (Or.inr (Or.inl h))) (fun h => hm (Or.inr (Or.inr (Or.inl h))))))).trans ((up_b (Decidable.or_iff_not_imp_left.mpr (fun h1 h2 => hm (Or.inr (Or.inr (Or.inr (Or.inr (Or.inr (Or.inr (Or.inr (Or.inl (Decidable.not_not.mp h1)))))))))))).trans ((hF_86 a j (fun q => q.elim (fun h => hm (Or.inl h)) (fun q => q.elim (fun h => hm (Or.inr (Or.inl h))) (fun h => hm (Or.inr (Or.inr (Or.inl h))))))).trans ((up_b (Decidable.or_iff_not_imp_left.mpr (fun h1 h2 => hm (Or.inr (Or.inr (Or.inr (Or.inr (Or.inr (Or.inr (Or.inr (Or.inl (Decidable.not_not.mp h1)))))))))))).trans (hF_73 a j (fun q => q.elim (fun h => hm (Or.inl h)) (fun q => q.elim (fun h => hm (Or.inr (Or.inl h))) (fun h => hm (Or.inr (Or.inr (Or.inl h))))))))))))))) (by unfold Rt; omega) (by omega) (by omega) (by omega)

set_option maxRecDepth 100000 in
set_option maxHeartbeats 4000000 in
theorem L_33_1 {sc : List Int32} {e eg : Int} {d dh u ug P Q P2 Q2 A : Nat} {c m m9 : ME} {e1 jr st si : Int} {F H : Int → Int} {Z : AR → Prop} (hI : Iv u e P2 Q2 c) (hJ : Iv ug eg P Q m) (hJ9 : Iv ug eg P Q m9) (hA : A = 13 ∨ A = 25) (hq0 : (st ≤ 3)) (hg_e1 : m 1 1 = e1) (hr_e1 : c 41 3 = e1) (hg_jr : m A 0 = jr) (hr_jr : c 41 16 = jr) (hg_st : m A 1 = st) (hr_st : c 41 17 = st) (hg_si : m A 2 = si) (hr_si : c 41 18 = si) (hF : ∀ j : Int, m 2 j = F j) (hH : ∀ j : Int, c 43 j = H j) (hU : Ub F H) (hRt : Rt m c) (hG : Wp sc (dh + 18) 33 0 [(0, .ref A), (1, .ref 1), (2, vi 1)] [] (Wd P Q P P m) 0 0 (fun q => q = (.inl (none), Wd P Q P P m9, 0, 0))) (K : ∀ (c2 : ME), Iv u e P2 Q2 c2 → (∀ (a : Nat) (j : Int), ¬ ((a = 41 ∧ j = 4) ∨ (a = 41 ∧ j = 5) ∨ (a = 41 ∧ j = 6) ∨ (a = 41 ∧ j = 16) ∨ (a = 41 ∧ j = 17) ∨ (a = 41 ∧ j = 18) ∨ (a = 41 ∧ j = 19) ∨ a = 44 ∨ a = 45 ∨ a = 46) → c2 a j = c a j) → (Rt m9 c2) → ((m9 A 0 = c2 41 16)) → ((m9 A 1 = c2 41 17)) → ((m9 A 2 = c2 41 18)) → Z (.inl (none), Wd P2 Q2 P2 P2 c2, 0, 0)) : Wp sc (d + 18) 168 0 [(0, .ref 41), (1, vi 20594117)] [] (Wd P2 Q2 P2 P2 c) 0 0 Z := by
  have hP := iv_P hJ
  have hQ := iv_Q hJ
  have h_1 := ir_1_1 hJ
  have h_2 := ir_41_3 hI
  have h_3 := ir_p0_0 hJ hA
  have h_4 := ir_41_16 hI
  have h_5 := ir_p0_1 hJ hA
  have h_6 := ir_41_17 hI
  have h_7 := ir_p0_2 hJ hA
  have h_8 := ir_41_18 hI
  refine gh hG ?_
  refine q_iload_n rfl rfl ?_
  refine v_tsw_i (t := 59) 1 rfl (by omega) (by decide) rfl (by decide) ?_
  refine q_aload_n rfl rfl ?_
  refine q_aload_n rfl rfl ?_
  refine v_gr (t := (A + 2)) rfl rfl (ck_p0 hA) (by omega) rfl ?_
  refine q_aload_n rfl rfl ?_
  refine v_gi (z := 1) (v := st) rfl rfl (ck_p0 hA) (by omega) rfl rfl (hg_st) ?_
  refine q_iconst rfl ?_
  refine v_imul (v := 3 * st) rfl (by omega) ?_
  refine q_iconst rfl ?_
  refine v_bip rfl (by decide) ?_
  refine q_call rfl rfl rfl rfl ?_
  refine q_iload_n rfl rfl ?_
  refine q_istore rfl (by decide) ?_
  refine q_iload rfl rfl ?_
  refine q_iload_n rfl rfl ?_
  refine q_iload_n rfl rfl ?_
  refine v_iadd (v := 3 * st + 3) rfl (by omega) ?_
  refine v_ic_ge_f (t := 34) rfl (by decide) (by omega) ?_
  refine q_iload rfl rfl ?_
  refine q_aload_n rfl rfl ?_
  refine v_al rfl (ck_p2 hA) (by omega) (by decide) ?_
  refine v_ic_ge_f (t := 34) rfl (by decide) (by omega) ?_
  refine q_aload_n rfl rfl ?_
  refine q_iload rfl rfl ?_
  refine q_aload_n rfl rfl ?_
  refine q_iload rfl rfl ?_
  have h_9 := ir_1_4 hJ
  refine v_cv rfl rfl rfl rfl (by decide) ⟨⟨rfl, rfl⟩, by decide, rfl⟩ (Nat.le_of_ble_eq_true rfl) (Nat.le_of_ble_eq_true rfl) (fn_of (s_8 (a1 := 10) hJ (show (-1) ≤ 10 ∧ 10 ≤ 9999 from by omega) (fun c_10 y_13 hI_11 hF_12 hy_13 h_14 => ?_)))
  intro hG_15
  refine bk_inl ?_
  refine v_is rfl (ck_p2 hA) (by omega) (by decide) (by omega) ?_
  refine v_iinc (v := 3 * st + 1) rfl rfl (by decide) (by omega) ?_
  refine q_goto (t := 3) rfl (by decide) ?_
  refine q_iload rfl rfl ?_
  refine q_iload_n rfl rfl ?_
  refine q_iload_n rfl rfl ?_
  refine v_iadd (v := 3 * st + 3) rfl (by omega) ?_
  refine v_ic_ge_f (t := 34) rfl (by decide) (by omega) ?_
  refine q_iload rfl rfl ?_
  refine q_aload_n rfl rfl ?_
  refine v_al rfl (ck_p2 hA) (by omega) (by decide) ?_
  refine v_ic_ge_f (t := 34) rfl (by decide) (by omega) ?_
  refine q_aload_n rfl rfl ?_
  refine q_iload rfl rfl ?_
  refine q_aload_n rfl rfl ?_
  refine q_iload rfl rfl ?_
  have h_16 := ir_1_4 hI_11
  have hI_17 := iw_p2 (j := 3 * st) (v := y_13) hI_11 hA ⟨by omega, by omega⟩
  refine v_cv rfl rfl rfl rfl (by decide) ⟨⟨rfl, rfl⟩, by decide, rfl⟩ (Nat.le_of_ble_eq_true rfl) (Nat.le_of_ble_eq_true rfl) (fn_of (s_8 (a1 := 10) hI_17 (show (-1) ≤ 10 ∧ 10 ≤ 9999 from by omega) (fun c_18 y_21 hI_19 hF_20 hy_21 h_22 => ?_)))
  intro hG_23
  refine bk_inl ?_
  refine v_is rfl (ck_p2 hA) (by omega) (by decide) (by omega) ?_
  refine v_iinc (v := 3 * st + 2) rfl rfl (by decide) (by omega) ?_
  refine q_goto (t := 3) rfl (by decide) ?_
  refine q_iload rfl rfl ?_
  refine q_iload_n rfl rfl ?_
  refine q_iload_n rfl rfl ?_
  refine v_iadd (v := 3 * st + 3) rfl (by omega) ?_
  refine v_ic_ge_f (t := 34) rfl (by decide) (by omega) ?_
  refine q_iload rfl rfl ?_
  refine q_aload_n rfl rfl ?_
  refine v_al rfl (ck_p2 hA) (by omega) (by decide) ?_
  refine v_ic_ge_f (t := 34) rfl (by decide) (by omega) ?_
  refine q_aload_n rfl rfl ?_
  refine q_iload rfl rfl ?_
  refine q_aload_n rfl rfl ?_
  refine q_iload rfl rfl ?_
  have h_24 := ir_1_4 hI_19
  have hI_25 := iw_p2 (j := 3 * st + 1) (v := y_21) hI_19 hA ⟨by omega, by omega⟩
  refine v_cv rfl rfl rfl rfl (by decide) ⟨⟨rfl, rfl⟩, by decide, rfl⟩ (Nat.le_of_ble_eq_true rfl) (Nat.le_of_ble_eq_true rfl) (fn_of (s_8 (a1 := 10) hI_25 (show (-1) ≤ 10 ∧ 10 ≤ 9999 from by omega) (fun c_26 y_29 hI_27 hF_28 hy_29 h_30 => ?_)))
  intro hG_31
  refine bk_inl ?_
  refine v_is rfl (ck_p2 hA) (by omega) (by decide) (by omega) ?_
  refine v_iinc (v := 3 * st + 3) rfl rfl (by decide) (by omega) ?_
  refine q_goto (t := 3) rfl (by decide) ?_
  refine q_iload rfl rfl ?_
  refine q_iload_n rfl rfl ?_
  refine q_iload_n rfl rfl ?_
  refine v_iadd (v := 3 * st + 3) rfl (by omega) ?_
  refine v_ic_ge_t (t := 34) rfl (by decide) (by omega) ?_
  refine q_vret rfl rfl ?_
  refine bk_inl ?_
  refine q_aload_n rfl rfl ?_
  refine q_dup rfl rfl ?_
  have kn_32 : Hid (c_10 A 1 = st) := (hF_12 A 1 (fun q => q.elim (fun h => absurd h.1 (np0 hA rfl)) (fun q => q.elim (fun h => absurd h.1 (np0 hA rfl)) (fun h => absurd h.1 (np0 hA rfl))))).trans (hg_st)
  have kn_33 : Hid (c_18 A 1 = st) := (hF_20 A 1 (fun q => q.elim (fun h => absurd h.1 (np0 hA rfl)) (fun q => q.elim (fun h => absurd h.1 (np0 hA rfl)) (fun h => absurd h.1 (np0 hA rfl))))).trans ((up_c (p0p rfl)).trans (hid kn_32))
  have kn_34 : Hid (c_26 A 1 = st) := (hF_28 A 1 (fun q => q.elim (fun h => absurd h.1 (np0 hA rfl)) (fun q => q.elim (fun h => absurd h.1 (np0 hA rfl)) (fun h => absurd h.1 (np0 hA rfl))))).trans ((up_c (p0p rfl)).trans (hid kn_33))
  refine v_gi (z := 1) (v := st) rfl rfl (ck_p0 hA) (by omega) rfl rfl ((up_c (p0p rfl)).trans (hid kn_34)) ?_
  refine q_iconst rfl ?_
  refine v_iadd (v := st + 1) rfl (by omega) ?_
  refine v_pi (z := 1) rfl rfl (ck_p0 hA) (by omega) rfl rfl rfl (by decide) ?_
  refine q_goto (t := 126) rfl (by decide) ?_
  refine q_vret rfl rfl ?_
  have hI_35 := iw_p2 (j := 3 * st + 2) (v := y_29) hI_27 hA ⟨by omega, by omega⟩
  have hI_36 := iw_p0_1 (v := st + 1) hI_35 hA ⟨by omega, by omega⟩
  intro hE_37
  have hW : Wd P Q P P (up (up c_26 (A + 2) (3 * st + 2) y_29) A 1 (st + 1)) = Wd P Q P P m9 := (Prod.mk.inj (Prod.mk.inj hE_37).2).1
  have h_38 := ir_1_4 hI_27
  have h_39 := ir_1_4 hJ9
  have h_40 : m9 1 4 = c_26 1 4 := wd_fv (z := 4) 4 rfl hW rfl rfl rfl rfl (by decide) ((up_c (pn0 hA rfl)).trans (up_c (pn hA rfl rfl))) ⟨by omega, by omega⟩ ⟨by omega, by omega⟩
  have h_41 := ir_1_2 hI_27
  have h_42 := ir_1_2 hJ9
  have h_43 : m9 1 2 = c_26 1 2 := wd_fv (z := 2) 2 rfl hW rfl rfl rfl rfl (by decide) ((up_c (pn0 hA rfl)).trans (up_c (pn hA rfl rfl))) ⟨by omega, by omega⟩ ⟨by omega, by omega⟩
  have h_44 := ir_1_5 hI_27
  have h_45 := ir_1_5 hJ9
  have h_46 : m9 1 5 = c_26 1 5 := wd_fv (z := 5) 5 rfl hW rfl rfl rfl rfl (by decide) ((up_c (pn0 hA rfl)).trans (up_c (pn hA rfl rfl))) ⟨by omega, by omega⟩ ⟨by omega, by omega⟩
  have kn_47 : Hid (c_10 A 0 = jr) := (hF_12 A 0 (fun q => q.elim (fun h => absurd h.1 (np0 hA rfl)) (fun q => q.elim (fun h => absurd h.1 (np0 hA rfl)) (fun h => absurd h.1 (np0 hA rfl))))).trans (hg_jr)
  have kn_48 : Hid (c_18 A 0 = jr) := (hF_20 A 0 (fun q => q.elim (fun h => absurd h.1 (np0 hA rfl)) (fun q => q.elim (fun h => absurd h.1 (np0 hA rfl)) (fun h => absurd h.1 (np0 hA rfl))))).trans ((up_c (p0p rfl)).trans (hid kn_47))
  have kn_49 : Hid (c_26 A 0 = jr) := (hF_28 A 0 (fun q => q.elim (fun h => absurd h.1 (np0 hA rfl)) (fun q => q.elim (fun h => absurd h.1 (np0 hA rfl)) (fun h => absurd h.1 (np0 hA rfl))))).trans ((up_c (p0p rfl)).trans (hid kn_48))
  have h_50 := ir_p0_0 hJ9 hA
  have h_51 : m9 A 0 = jr := wd_fv (z := 0) 0 rfl hW (ck_A hA) (ck_A hA) rfl rfl (by omega) ((up_n (by decide)).trans ((up_c (p0p rfl)).trans (hid kn_49))) ⟨by omega, by omega⟩ ⟨by omega, by omega⟩
  have h_52 := ir_p0_1 hJ9 hA
  have h_53 : m9 A 1 = st + 1 := wd_fv (z := 1) 1 rfl hW (ck_A hA) (ck_A hA) rfl rfl (by omega) (up_e rfl) ⟨by omega, by omega⟩ ⟨by omega, by omega⟩
  have kn_54 : Hid (c_10 A 2 = si) := (hF_12 A 2 (fun q => q.elim (fun h => absurd h.1 (np0 hA rfl)) (fun q => q.elim (fun h => absurd h.1 (np0 hA rfl)) (fun h => absurd h.1 (np0 hA rfl))))).trans (hg_si)
  have kn_55 : Hid (c_18 A 2 = si) := (hF_20 A 2 (fun q => q.elim (fun h => absurd h.1 (np0 hA rfl)) (fun q => q.elim (fun h => absurd h.1 (np0 hA rfl)) (fun h => absurd h.1 (np0 hA rfl))))).trans ((up_c (p0p rfl)).trans (hid kn_54))
  have kn_56 : Hid (c_26 A 2 = si) := (hF_28 A 2 (fun q => q.elim (fun h => absurd h.1 (np0 hA rfl)) (fun q => q.elim (fun h => absurd h.1 (np0 hA rfl)) (fun h => absurd h.1 (np0 hA rfl))))).trans ((up_c (p0p rfl)).trans (hid kn_55))
  have h_57 := ir_p0_2 hJ9 hA
  have h_58 : m9 A 2 = si := wd_fv (z := 2) 2 rfl hW (ck_A hA) (ck_A hA) rfl rfl (by omega) ((up_n (by decide)).trans ((up_c (p0p rfl)).trans (hid kn_56))) ⟨by omega, by omega⟩ ⟨by omega, by omega⟩
  refine q_iload_n rfl rfl ?_
  refine q_ldc_s rfl rfl rfl (by decide) ?_
  refine q_call rfl rfl rfl rfl (s_158_16 ?_)
  refine bk_inl ?_
  refine v_ic_ne_t (t := 56) rfl (by decide) (by decide) ?_
  refine q_iload_n rfl rfl ?_
  refine q_ldc_s rfl rfl rfl (by decide) ?_
  refine q_call rfl rfl rfl rfl (s_158_17 ?_)
  refine bk_inl ?_
  refine v_ic_ne_f (t := 111) rfl (by decide) (by decide) ?_
  refine q_iconst rfl ?_
  refine q_istore_n rfl (by decide) ?_
  refine q_iload_n rfl rfl ?_
  refine q_iconst rfl ?_
  refine v_ic_ge_f (t := 98) rfl (by decide) (by decide) ?_
  refine q_aload_n rfl rfl ?_
  refine v_gr (t := 45) rfl rfl rfl (by decide) rfl ?_
  refine q_iconst rfl ?_
  refine q_aload_n rfl rfl ?_
  refine v_gi (z := 17) (v := st) rfl rfl rfl (by decide) rfl rfl (hr_st) ?_
  refine v_imul (v := 3 * st) rfl (by omega) ?_
  refine q_iload_n rfl rfl ?_
  refine v_iadd (v := 3 * st) rfl (by omega) ?_
  refine q_aload_n rfl rfl ?_
  refine q_iconst rfl ?_
  refine v_bip rfl (by decide) ?_
  have h_59 := ir_1_2 hJ
  refine v_cv rfl rfl rfl rfl (by decide) ⟨⟨rfl, rfl⟩, by decide, rfl⟩ (Nat.le_of_ble_eq_true rfl) (Nat.le_of_ble_eq_true rfl) (L_8 (m := m) (a2 := 10) (yg := y_13) (e1 := e1) (a9 := m 1 2) (F := F) (H := H) hI hJ hI_11 (show (-1) ≤ 10 ∧ 10 ≤ 9999 from by omega) ⟨by omega, by omega⟩ ((hg_e1)) ((hr_e1)) (rfl) (fun j => hF j) (fun j => hH j) hU hRt hG_15 (fun c_60 y_63 hI_61 hF_62 hy_63 hR_64 h_65 h_66 => ?_))
  refine bk_inl ?_
  have hs_67 := h_65.symm
  subst hs_67
  have h_68 := ir_1_2 hI_11
  refine v_is rfl rfl (by decide) (by decide) (by omega) ?_
  refine v_iinc (v := 1) rfl rfl (by decide) (by decide) ?_
  refine q_goto (t := 67) rfl (by decide) ?_
  refine q_iload_n rfl rfl ?_
  refine q_iconst rfl ?_
  refine v_ic_ge_f (t := 98) rfl (by decide) (by decide) ?_
  refine q_aload_n rfl rfl ?_
  refine v_gr (t := 45) rfl rfl rfl (by decide) rfl ?_
  refine q_iconst rfl ?_
  refine q_aload_n rfl rfl ?_
  have kn_69 : Hid (c_60 41 17 = st) := (hF_62 41 17 (fun q => q.elim (fun h => absurd h.2 (ni rfl)) (fun q => q.elim (fun h => absurd h.2 (ni rfl)) (fun h => absurd h.2 (ni rfl))))).trans (hr_st)
  refine v_gi (z := 17) (v := st) rfl rfl rfl (by decide) rfl rfl ((up_c (nn rfl)).trans (hid kn_69)) ?_
  refine v_imul (v := 3 * st) rfl (by omega) ?_
  refine q_iload_n rfl rfl ?_
  refine v_iadd (v := 3 * st + 1) rfl (by omega) ?_
  refine q_aload_n rfl rfl ?_
  refine q_iconst rfl ?_
  refine v_bip rfl (by decide) ?_
  have hI_70 := iw_45 (j := 3 * st) (v := y_13) hI_61 ⟨by omega, by omega⟩
  have kn_71 : Hid (c_10 1 1 = e1) := (hF_12 1 1 (fun q => q.elim (fun h => absurd h.2 (ni rfl)) (fun q => q.elim (fun h => absurd h.2 (ni rfl)) (fun h => absurd h.2 (ni rfl))))).trans (hg_e1)
  have kn_72 : Hid (c_60 41 3 = e1) := (hF_62 41 3 (fun q => q.elim (fun h => absurd h.2 (ni rfl)) (fun q => q.elim (fun h => absurd h.2 (ni rfl)) (fun h => absurd h.2 (ni rfl))))).trans (hr_e1)
  refine v_cv rfl rfl rfl rfl (by decide) ⟨⟨rfl, rfl⟩, by decide, rfl⟩ (Nat.le_of_ble_eq_true rfl) (Nat.le_of_ble_eq_true rfl) (L_8 (m := up c_10 (A + 2) (3 * st) y_13) (a2 := 10) (yg := y_21) (e1 := e1) (a9 := c_10 1 2) (F := F) (H := H) hI_70 hI_17 hI_19 (show (-1) ≤ 10 ∧ 10 ≤ 9999 from by omega) ⟨by omega, by omega⟩ (((up_c (pn hA rfl rfl)).trans (hid kn_71))) (((up_c (nn rfl)).trans (hid kn_72))) ((up_c (pn hA rfl rfl))) (fun j => ((up_c (pn hA rfl rfl)).trans (hF_12 2 j (fun q => q.elim (fun h => absurd h.1 (nn rfl)) (fun q => q.elim (fun h => absurd h.1 (nn rfl)) (fun h => absurd h.1 (nn rfl)))))).trans (hF j)) (fun j => ((up_c (nn rfl)).trans (hF_62 43 j (fun q => q.elim (fun h => absurd h.1 (nn rfl)) (fun q => q.elim (fun h => absurd h.1 (nn rfl)) (fun h => absurd h.1 (nn rfl)))))).trans (hH j)) hU (rt_fr hR_64 (up_c (pn hA rfl rfl)) (up_c (pn hA rfl rfl)) (up_c (pn hA rfl rfl)) (up_c (nn rfl)) (up_c (nn rfl)) (up_c (nn rfl))) hG_23 (fun c_73 y_76 hI_74 hF_75 hy_76 hR_77 h_78 h_79 => ?_))
  refine bk_inl ?_
  have hs_80 := h_78.symm
  subst hs_80
  have h_81 := ir_1_2 hI_19
  refine v_is rfl rfl (by decide) (by decide) (by omega) ?_
  refine v_iinc (v := 2) rfl rfl (by decide) (by decide) ?_
  refine q_goto (t := 67) rfl (by decide) ?_
  refine q_iload_n rfl rfl ?_
  refine q_iconst rfl ?_
  refine v_ic_ge_f (t := 98) rfl (by decide) (by decide) ?_
  refine q_aload_n rfl rfl ?_
  refine v_gr (t := 45) rfl rfl rfl (by decide) rfl ?_
  refine q_iconst rfl ?_
  refine q_aload_n rfl rfl ?_
  have kn_82 : Hid (c_73 41 17 = st) := (hF_75 41 17 (fun q => q.elim (fun h => absurd h.2 (ni rfl)) (fun q => q.elim (fun h => absurd h.2 (ni rfl)) (fun h => absurd h.2 (ni rfl))))).trans ((up_c (nn rfl)).trans (hid kn_69))
  refine v_gi (z := 17) (v := st) rfl rfl rfl (by decide) rfl rfl ((up_c (nn rfl)).trans (hid kn_82)) ?_
  refine v_imul (v := 3 * st) rfl (by omega) ?_
  refine q_iload_n rfl rfl ?_
  refine v_iadd (v := 3 * st + 2) rfl (by omega) ?_
  refine q_aload_n rfl rfl ?_
  refine q_iconst rfl ?_
  refine v_bip rfl (by decide) ?_
  have hI_83 := iw_45 (j := 3 * st + 1) (v := y_21) hI_74 ⟨by omega, by omega⟩
  have kn_84 : Hid (c_18 1 1 = e1) := (hF_20 1 1 (fun q => q.elim (fun h => absurd h.2 (ni rfl)) (fun q => q.elim (fun h => absurd h.2 (ni rfl)) (fun h => absurd h.2 (ni rfl))))).trans ((up_c (pn hA rfl rfl)).trans (hid kn_71))
  have kn_85 : Hid (c_73 41 3 = e1) := (hF_75 41 3 (fun q => q.elim (fun h => absurd h.2 (ni rfl)) (fun q => q.elim (fun h => absurd h.2 (ni rfl)) (fun h => absurd h.2 (ni rfl))))).trans ((up_c (nn rfl)).trans (hid kn_72))
  refine v_cv rfl rfl rfl rfl (by decide) ⟨⟨rfl, rfl⟩, by decide, rfl⟩ (Nat.le_of_ble_eq_true rfl) (Nat.le_of_ble_eq_true rfl) (L_8 (m := up c_18 (A + 2) (3 * st + 1) y_21) (a2 := 10) (yg := y_29) (e1 := e1) (a9 := c_18 1 2) (F := F) (H := H) hI_83 hI_25 hI_27 (show (-1) ≤ 10 ∧ 10 ≤ 9999 from by omega) ⟨by omega, by omega⟩ (((up_c (pn hA rfl rfl)).trans (hid kn_84))) (((up_c (nn rfl)).trans (hid kn_85))) ((up_c (pn hA rfl rfl))) (fun j => ((up_c (pn hA rfl rfl)).trans ((hF_20 2 j (fun q => q.elim (fun h => absurd h.1 (nn rfl)) (fun q => q.elim (fun h => absurd h.1 (nn rfl)) (fun h => absurd h.1 (nn rfl))))).trans ((up_c (pn hA rfl rfl)).trans (hF_12 2 j (fun q => q.elim (fun h => absurd h.1 (nn rfl)) (fun q => q.elim (fun h => absurd h.1 (nn rfl)) (fun h => absurd h.1 (nn rfl)))))))).trans (hF j)) (fun j => ((up_c (nn rfl)).trans ((hF_75 43 j (fun q => q.elim (fun h => absurd h.1 (nn rfl)) (fun q => q.elim (fun h => absurd h.1 (nn rfl)) (fun h => absurd h.1 (nn rfl))))).trans ((up_c (nn rfl)).trans (hF_62 43 j (fun q => q.elim (fun h => absurd h.1 (nn rfl)) (fun q => q.elim (fun h => absurd h.1 (nn rfl)) (fun h => absurd h.1 (nn rfl)))))))).trans (hH j)) hU (rt_fr hR_77 (up_c (pn hA rfl rfl)) (up_c (pn hA rfl rfl)) (up_c (pn hA rfl rfl)) (up_c (nn rfl)) (up_c (nn rfl)) (up_c (nn rfl))) hG_31 (fun c_86 y_89 hI_87 hF_88 hy_89 hR_90 h_91 h_92 => ?_))
  refine bk_inl ?_
  have hs_93 := h_91.symm
  subst hs_93
  refine v_is rfl rfl (by decide) (by decide) (by omega) ?_
  refine v_iinc (v := 3) rfl rfl (by decide) (by decide) ?_
  refine q_goto (t := 67) rfl (by decide) ?_
  refine q_iload_n rfl rfl ?_
  refine q_iconst rfl ?_
  refine v_ic_ge_t (t := 98) rfl (by decide) (by decide) ?_
  refine q_aload_n rfl rfl ?_
  refine q_dup rfl rfl ?_
  have kn_94 : Hid (c_86 41 17 = st) := (hF_88 41 17 (fun q => q.elim (fun h => absurd h.2 (ni rfl)) (fun q => q.elim (fun h => absurd h.2 (ni rfl)) (fun h => absurd h.2 (ni rfl))))).trans ((up_c (nn rfl)).trans (hid kn_82))
  refine v_gi (z := 17) (v := st) rfl rfl rfl (by decide) rfl rfl ((up_c (nn rfl)).trans (hid kn_94)) ?_
  refine q_iconst rfl ?_
  refine v_iadd (v := st + 1) rfl (by omega) ?_
  refine v_pi (z := 17) rfl rfl rfl (by decide) rfl rfl rfl (by decide) ?_
  refine q_goto (t := 159) rfl (by decide) ?_
  refine q_vret rfl rfl ?_
  have hI_95 := iw_45 (j := 3 * st + 2) (v := y_29) hI_87 ⟨by omega, by omega⟩
  have hI_96 := iw_41_17 (v := st + 1) hI_95 ⟨by omega, by omega⟩
  have h_97 := ir_41_5 hI_87
  have h_98 := ir_41_4 hI_87
  have h_99 := ir_41_6 hI_87
  have h_100 := rt_or hR_90
  have h_101 : (up (up c_86 45 (3 * st + 2) y_29) 41 17 (st + 1)) 41 5 = c_86 41 5 := ((up_n (by decide)).trans (up_c (nn rfl)))
  have h_102 : (up (up c_86 45 (3 * st + 2) y_29) 41 17 (st + 1)) 41 4 = c_86 41 4 := ((up_n (by decide)).trans (up_c (nn rfl)))
  have h_103 : (up (up c_86 45 (3 * st + 2) y_29) 41 17 (st + 1)) 41 6 = c_86 41 6 := ((up_n (by decide)).trans (up_c (nn rfl)))
  have kn_104 : Hid (c_60 41 16 = jr) := (hF_62 41 16 (fun q => q.elim (fun h => absurd h.2 (ni rfl)) (fun q => q.elim (fun h => absurd h.2 (ni rfl)) (fun h => absurd h.2 (ni rfl))))).trans (hr_jr)
  have kn_105 : Hid (c_73 41 16 = jr) := (hF_75 41 16 (fun q => q.elim (fun h => absurd h.2 (ni rfl)) (fun q => q.elim (fun h => absurd h.2 (ni rfl)) (fun h => absurd h.2 (ni rfl))))).trans ((up_c (nn rfl)).trans (hid kn_104))
  have kn_106 : Hid (c_86 41 16 = jr) := (hF_88 41 16 (fun q => q.elim (fun h => absurd h.2 (ni rfl)) (fun q => q.elim (fun h => absurd h.2 (ni rfl)) (fun h => absurd h.2 (ni rfl))))).trans ((up_c (nn rfl)).trans (hid kn_105))
  have h_107 : (up (up c_86 45 (3 * st + 2) y_29) 41 17 (st + 1)) 41 16 = jr := ((up_n (by decide)).trans ((up_c (nn rfl)).trans (hid kn_106)))
  have h_108 : (up (up c_86 45 (3 * st + 2) y_29) 41 17 (st + 1)) 41 17 = st + 1 := (up_e rfl)
  have kn_109 : Hid (c_60 41 18 = si) := (hF_62 41 18 (fun q => q.elim (fun h => absurd h.2 (ni rfl)) (fun q => q.elim (fun h => absurd h.2 (ni rfl)) (fun h => absurd h.2 (ni rfl))))).trans (hr_si)
  have kn_110 : Hid (c_73 41 18 = si) := (hF_75 41 18 (fun q => q.elim (fun h => absurd h.2 (ni rfl)) (fun q => q.elim (fun h => absurd h.2 (ni rfl)) (fun h => absurd h.2 (ni rfl))))).trans ((up_c (nn rfl)).trans (hid kn_109))
  have kn_111 : Hid (c_86 41 18 = si) := (hF_88 41 18 (fun q => q.elim (fun h => absurd h.2 (ni rfl)) (fun q => q.elim (fun h => absurd h.2 (ni rfl)) (fun h => absurd h.2 (ni rfl))))).trans ((up_c (nn rfl)).trans (hid kn_110))
  have h_112 : (up (up c_86 45 (3 * st + 2) y_29) 41 17 (st + 1)) 41 18 = si := ((up_n (by decide)).trans ((up_c (nn rfl)).trans (hid kn_111)))
  exact K (up (up c_86 45 (3 * st + 2) y_29) 41 17 (st + 1))  hI_96 (fun a j hm => (up_b (Decidable.or_iff_not_imp_left.mpr (fun h1 h2 => hm (Or.inr (Or.inr (Or.inr (Or.inr (Or.inl ⟨Decidable.not_not.mp h1, h2⟩)))))))).trans ((up_b (Decidable.or_iff_not_imp_left.mpr (fun h1 h2 => hm (Or.inr (Or.inr (Or.inr (Or.inr (Or.inr (Or.inr (Or.inr (Or.inr (Or.inl (Decidable.not_not.mp h1))))))))))))).trans ((hF_88 a j (fun q => q.elim (fun h => hm (Or.inl h)) (fun q => q.elim (fun h => hm (Or.inr (Or.inl h))) (fun h => hm (Or.inr (Or.inr (Or.inl h))))))).trans ((up_b (Decidable.or_iff_not_imp_left.mpr (fun h1 h2 => hm (Or.inr (Or.inr (Or.inr (Or.inr (Or.inr (Or.inr (Or.inr (Or.inr (Or.inl (Decidable.not_not.mp h1))))))))))))).trans ((hF_75 a j (fun q => q.elim (fun h => hm (Or.inl h)) (fun q => q.elim (fun h => hm (Or.inr (Or.inl h))) (fun h => hm (Or.inr (Or.inr (Or.inl h))))))).trans ((up_b (Decidable.or_iff_not_imp_left.mpr (fun h1 h2 => hm (Or.inr (Or.inr (Or.inr (Or.inr (Or.inr (Or.inr (Or.inr (Or.inr (Or.inl (Decidable.not_not.mp h1))))))))))))).trans (hF_62 a j (fun q => q.elim (fun h => hm (Or.inl h)) (fun q => q.elim (fun h => hm (Or.inr (Or.inl h))) (fun h => hm (Or.inr (Or.inr (Or.inl h))))))))))))) (by unfold Rt; omega) (by omega) (by omega) (by omega)

set_option maxRecDepth 100000 in
set_option maxHeartbeats 4000000 in
theorem L_33_2 {sc : List Int32} {e eg : Int} {d dh u ug P Q P2 Q2 A : Nat} {c m m9 : ME} {e1 jr st si : Int} {F H : Int → Int} {Z : AR → Prop} (hI : Iv u e P2 Q2 c) (hJ : Iv ug eg P Q m) (hJ9 : Iv ug eg P Q m9) (hA : A = 13 ∨ A = 25) (hq0 : (si ≤ 3)) (hg_e1 : m 1 1 = e1) (hr_e1 : c 41 3 = e1) (hg_jr : m A 0 = jr) (hr_jr : c 41 16 = jr) (hg_st : m A 1 = st) (hr_st : c 41 17 = st) (hg_si : m A 2 = si) (hr_si : c 41 18 = si) (hF : ∀ j : Int, m 2 j = F j) (hH : ∀ j : Int, c 43 j = H j) (hU : Ub F H) (hRt : Rt m c) (hG : Wp sc (dh + 18) 33 0 [(0, .ref A), (1, .ref 1), (2, vi 2)] [] (Wd P Q P P m) 0 0 (fun q => q = (.inl (none), Wd P Q P P m9, 0, 0))) (K : ∀ (c2 : ME), Iv u e P2 Q2 c2 → (∀ (a : Nat) (j : Int), ¬ ((a = 41 ∧ j = 4) ∨ (a = 41 ∧ j = 5) ∨ (a = 41 ∧ j = 6) ∨ (a = 41 ∧ j = 16) ∨ (a = 41 ∧ j = 17) ∨ (a = 41 ∧ j = 18) ∨ (a = 41 ∧ j = 19) ∨ a = 44 ∨ a = 45 ∨ a = 46) → c2 a j = c a j) → (Rt m9 c2) → ((m9 A 0 = c2 41 16)) → ((m9 A 1 = c2 41 17)) → ((m9 A 2 = c2 41 18)) → Z (.inl (none), Wd P2 Q2 P2 P2 c2, 0, 0)) : Wp sc (d + 18) 168 0 [(0, .ref 41), (1, vi 20223685)] [] (Wd P2 Q2 P2 P2 c) 0 0 Z := by
  have hP := iv_P hJ
  have hQ := iv_Q hJ
  have h_1 := ir_1_1 hJ
  have h_2 := ir_41_3 hI
  have h_3 := ir_p0_0 hJ hA
  have h_4 := ir_41_16 hI
  have h_5 := ir_p0_1 hJ hA
  have h_6 := ir_41_17 hI
  have h_7 := ir_p0_2 hJ hA
  have h_8 := ir_41_18 hI
  refine gh hG ?_
  refine q_iload_n rfl rfl ?_
  refine v_tsw_i (t := 89) 2 rfl (by omega) (by decide) rfl (by decide) ?_
  refine q_aload_n rfl rfl ?_
  refine q_aload_n rfl rfl ?_
  refine v_gr (t := (A + 3)) rfl rfl (ck_p0 hA) (by omega) rfl ?_
  refine q_aload_n rfl rfl ?_
  refine v_gi (z := 2) (v := si) rfl rfl (ck_p0 hA) (by omega) rfl rfl (hg_si) ?_
  refine q_iconst rfl ?_
  refine q_iconst rfl ?_
  refine q_call rfl rfl rfl rfl ?_
  refine q_iload_n rfl rfl ?_
  refine q_istore rfl (by decide) ?_
  refine q_iload rfl rfl ?_
  refine q_iload_n rfl rfl ?_
  refine q_iload_n rfl rfl ?_
  refine v_iadd (v := si + 1) rfl (by omega) ?_
  refine v_ic_ge_f (t := 34) rfl (by decide) (by omega) ?_
  refine q_iload rfl rfl ?_
  refine q_aload_n rfl rfl ?_
  refine v_al rfl (ck_p3 hA) (by omega) (by decide) ?_
  refine v_ic_ge_f (t := 34) rfl (by decide) (by omega) ?_
  refine q_aload_n rfl rfl ?_
  refine q_iload rfl rfl ?_
  refine q_aload_n rfl rfl ?_
  refine q_iload rfl rfl ?_
  have h_9 := ir_1_4 hJ
  refine v_cv rfl rfl rfl rfl (by decide) ⟨⟨rfl, rfl⟩, by decide, rfl⟩ (Nat.le_of_ble_eq_true rfl) (Nat.le_of_ble_eq_true rfl) (fn_of (s_8 (a1 := 2) hJ (show (-1) ≤ 2 ∧ 2 ≤ 9999 from by omega) (fun c_10 y_13 hI_11 hF_12 hy_13 h_14 => ?_)))
  intro hG_15
  refine bk_inl ?_
  refine v_is rfl (ck_p3 hA) (by omega) (by decide) (by omega) ?_
  refine v_iinc (v := si + 1) rfl rfl (by decide) (by omega) ?_
  refine q_goto (t := 3) rfl (by decide) ?_
  refine q_iload rfl rfl ?_
  refine q_iload_n rfl rfl ?_
  refine q_iload_n rfl rfl ?_
  refine v_iadd (v := si + 1) rfl (by omega) ?_
  refine v_ic_ge_t (t := 34) rfl (by decide) (by omega) ?_
  refine q_vret rfl rfl ?_
  refine bk_inl ?_
  refine q_aload_n rfl rfl ?_
  refine q_dup rfl rfl ?_
  have kn_16 : Hid (c_10 A 2 = si) := (hF_12 A 2 (fun q => q.elim (fun h => absurd h.1 (np0 hA rfl)) (fun q => q.elim (fun h => absurd h.1 (np0 hA rfl)) (fun h => absurd h.1 (np0 hA rfl))))).trans (hg_si)
  refine v_gi (z := 2) (v := si) rfl rfl (ck_p0 hA) (by omega) rfl rfl ((up_c (p0p rfl)).trans (hid kn_16)) ?_
  refine q_iconst rfl ?_
  refine v_iadd (v := si + 1) rfl (by omega) ?_
  refine v_pi (z := 2) rfl rfl (ck_p0 hA) (by omega) rfl rfl rfl (by decide) ?_
  refine q_goto (t := 126) rfl (by decide) ?_
  refine q_vret rfl rfl ?_
  have hI_17 := iw_p3 (j := si) (v := y_13) hI_11 hA ⟨by omega, by omega⟩
  have hI_18 := iw_p0_2 (v := si + 1) hI_17 hA ⟨by omega, by omega⟩
  intro hE_19
  have hW : Wd P Q P P (up (up c_10 (A + 3) si y_13) A 2 (si + 1)) = Wd P Q P P m9 := (Prod.mk.inj (Prod.mk.inj hE_19).2).1
  have h_20 := ir_1_4 hI_11
  have h_21 := ir_1_4 hJ9
  have h_22 : m9 1 4 = c_10 1 4 := wd_fv (z := 4) 4 rfl hW rfl rfl rfl rfl (by decide) ((up_c (pn0 hA rfl)).trans (up_c (pn hA rfl rfl))) ⟨by omega, by omega⟩ ⟨by omega, by omega⟩
  have h_23 := ir_1_2 hI_11
  have h_24 := ir_1_2 hJ9
  have h_25 : m9 1 2 = c_10 1 2 := wd_fv (z := 2) 2 rfl hW rfl rfl rfl rfl (by decide) ((up_c (pn0 hA rfl)).trans (up_c (pn hA rfl rfl))) ⟨by omega, by omega⟩ ⟨by omega, by omega⟩
  have h_26 := ir_1_5 hI_11
  have h_27 := ir_1_5 hJ9
  have h_28 : m9 1 5 = c_10 1 5 := wd_fv (z := 5) 5 rfl hW rfl rfl rfl rfl (by decide) ((up_c (pn0 hA rfl)).trans (up_c (pn hA rfl rfl))) ⟨by omega, by omega⟩ ⟨by omega, by omega⟩
  have kn_29 : Hid (c_10 A 0 = jr) := (hF_12 A 0 (fun q => q.elim (fun h => absurd h.1 (np0 hA rfl)) (fun q => q.elim (fun h => absurd h.1 (np0 hA rfl)) (fun h => absurd h.1 (np0 hA rfl))))).trans (hg_jr)
  have h_30 := ir_p0_0 hJ9 hA
  have h_31 : m9 A 0 = jr := wd_fv (z := 0) 0 rfl hW (ck_A hA) (ck_A hA) rfl rfl (by omega) ((up_n (by decide)).trans ((up_c (p0p rfl)).trans (hid kn_29))) ⟨by omega, by omega⟩ ⟨by omega, by omega⟩
  have kn_32 : Hid (c_10 A 1 = st) := (hF_12 A 1 (fun q => q.elim (fun h => absurd h.1 (np0 hA rfl)) (fun q => q.elim (fun h => absurd h.1 (np0 hA rfl)) (fun h => absurd h.1 (np0 hA rfl))))).trans (hg_st)
  have h_33 := ir_p0_1 hJ9 hA
  have h_34 : m9 A 1 = st := wd_fv (z := 1) 1 rfl hW (ck_A hA) (ck_A hA) rfl rfl (by omega) ((up_n (by decide)).trans ((up_c (p0p rfl)).trans (hid kn_32))) ⟨by omega, by omega⟩ ⟨by omega, by omega⟩
  have h_35 := ir_p0_2 hJ9 hA
  have h_36 : m9 A 2 = si + 1 := wd_fv (z := 2) 2 rfl hW (ck_A hA) (ck_A hA) rfl rfl (by omega) (up_e rfl) ⟨by omega, by omega⟩ ⟨by omega, by omega⟩
  refine q_iload_n rfl rfl ?_
  refine q_ldc_s rfl rfl rfl (by decide) ?_
  refine q_call rfl rfl rfl rfl (s_158_16 ?_)
  refine bk_inl ?_
  refine v_ic_ne_t (t := 56) rfl (by decide) (by decide) ?_
  refine q_iload_n rfl rfl ?_
  refine q_ldc_s rfl rfl rfl (by decide) ?_
  refine q_call rfl rfl rfl rfl (s_158_17 ?_)
  refine bk_inl ?_
  refine v_ic_ne_t (t := 111) rfl (by decide) (by decide) ?_
  refine q_iload_n rfl rfl ?_
  refine q_ldc_s rfl rfl rfl (by decide) ?_
  refine q_call rfl rfl rfl rfl (s_158_18 ?_)
  refine bk_inl ?_
  refine v_ic_ne_f (t := 148) rfl (by decide) (by decide) ?_
  refine q_aload_n rfl rfl ?_
  refine v_gr (t := 46) rfl rfl rfl (by decide) rfl ?_
  refine q_aload_n rfl rfl ?_
  refine v_gi (z := 18) (v := si) rfl rfl rfl (by decide) rfl rfl (hr_si) ?_
  refine q_aload_n rfl rfl ?_
  refine q_iconst rfl ?_
  refine q_iconst rfl ?_
  have h_37 := ir_1_2 hJ
  refine v_cv rfl rfl rfl rfl (by decide) ⟨⟨rfl, rfl⟩, by decide, rfl⟩ (Nat.le_of_ble_eq_true rfl) (Nat.le_of_ble_eq_true rfl) (L_8 (m := m) (a2 := 2) (yg := y_13) (e1 := e1) (a9 := m 1 2) (F := F) (H := H) hI hJ hI_11 (show (-1) ≤ 2 ∧ 2 ≤ 9999 from by omega) ⟨by omega, by omega⟩ ((hg_e1)) ((hr_e1)) (rfl) (fun j => hF j) (fun j => hH j) hU hRt hG_15 (fun c_38 y_41 hI_39 hF_40 hy_41 hR_42 h_43 h_44 => ?_))
  refine bk_inl ?_
  have hs_45 := h_43.symm
  subst hs_45
  refine v_is rfl rfl (by decide) (by decide) (by omega) ?_
  refine q_aload_n rfl rfl ?_
  refine q_dup rfl rfl ?_
  have kn_46 : Hid (c_38 41 18 = si) := (hF_40 41 18 (fun q => q.elim (fun h => absurd h.2 (ni rfl)) (fun q => q.elim (fun h => absurd h.2 (ni rfl)) (fun h => absurd h.2 (ni rfl))))).trans (hr_si)
  refine v_gi (z := 18) (v := si) rfl rfl rfl (by decide) rfl rfl ((up_c (nn rfl)).trans (hid kn_46)) ?_
  refine q_iconst rfl ?_
  refine v_iadd (v := si + 1) rfl (by omega) ?_
  refine v_pi (z := 18) rfl rfl rfl (by decide) rfl rfl rfl (by decide) ?_
  refine q_goto (t := 159) rfl (by decide) ?_
  refine q_vret rfl rfl ?_
  have hI_47 := iw_46 (j := si) (v := y_13) hI_39 ⟨by omega, by omega⟩
  have hI_48 := iw_41_18 (v := si + 1) hI_47 ⟨by omega, by omega⟩
  have h_49 := ir_41_5 hI_39
  have h_50 := ir_41_4 hI_39
  have h_51 := ir_41_6 hI_39
  have h_52 := rt_or hR_42
  have h_53 : (up (up c_38 46 si y_13) 41 18 (si + 1)) 41 5 = c_38 41 5 := ((up_n (by decide)).trans (up_c (nn rfl)))
  have h_54 : (up (up c_38 46 si y_13) 41 18 (si + 1)) 41 4 = c_38 41 4 := ((up_n (by decide)).trans (up_c (nn rfl)))
  have h_55 : (up (up c_38 46 si y_13) 41 18 (si + 1)) 41 6 = c_38 41 6 := ((up_n (by decide)).trans (up_c (nn rfl)))
  have kn_56 : Hid (c_38 41 16 = jr) := (hF_40 41 16 (fun q => q.elim (fun h => absurd h.2 (ni rfl)) (fun q => q.elim (fun h => absurd h.2 (ni rfl)) (fun h => absurd h.2 (ni rfl))))).trans (hr_jr)
  have h_57 : (up (up c_38 46 si y_13) 41 18 (si + 1)) 41 16 = jr := ((up_n (by decide)).trans ((up_c (nn rfl)).trans (hid kn_56)))
  have kn_58 : Hid (c_38 41 17 = st) := (hF_40 41 17 (fun q => q.elim (fun h => absurd h.2 (ni rfl)) (fun q => q.elim (fun h => absurd h.2 (ni rfl)) (fun h => absurd h.2 (ni rfl))))).trans (hr_st)
  have h_59 : (up (up c_38 46 si y_13) 41 18 (si + 1)) 41 17 = st := ((up_n (by decide)).trans ((up_c (nn rfl)).trans (hid kn_58)))
  have h_60 : (up (up c_38 46 si y_13) 41 18 (si + 1)) 41 18 = si + 1 := (up_e rfl)
  exact K (up (up c_38 46 si y_13) 41 18 (si + 1))  hI_48 (fun a j hm => (up_b (Decidable.or_iff_not_imp_left.mpr (fun h1 h2 => hm (Or.inr (Or.inr (Or.inr (Or.inr (Or.inr (Or.inl ⟨Decidable.not_not.mp h1, h2⟩))))))))).trans ((up_b (Decidable.or_iff_not_imp_left.mpr (fun h1 h2 => hm (Or.inr (Or.inr (Or.inr (Or.inr (Or.inr (Or.inr (Or.inr (Or.inr (Or.inr (Decidable.not_not.mp h1))))))))))))).trans (hF_40 a j (fun q => q.elim (fun h => hm (Or.inl h)) (fun q => q.elim (fun h => hm (Or.inr (Or.inl h))) (fun h => hm (Or.inr (Or.inr (Or.inl h))))))))) (by unfold Rt; omega) (by omega) (by omega) (by omega)

set_option maxRecDepth 100000 in
set_option maxHeartbeats 4000000 in
theorem L_33_3 {sc : List Int32} {e eg : Int} {d dh u ug P Q P2 Q2 A : Nat} {c m m9 : ME} {e1 jr st si : Int} {F H : Int → Int} {Z : AR → Prop} (hI : Iv u e P2 Q2 c) (hJ : Iv ug eg P Q m) (hJ9 : Iv ug eg P Q m9) (hA : A = 13 ∨ A = 25) (hg_e1 : m 1 1 = e1) (hr_e1 : c 41 3 = e1) (hg_jr : m A 0 = jr) (hr_jr : c 41 16 = jr) (hg_st : m A 1 = st) (hr_st : c 41 17 = st) (hg_si : m A 2 = si) (hr_si : c 41 18 = si) (hF : ∀ j : Int, m 2 j = F j) (hH : ∀ j : Int, c 43 j = H j) (hU : Ub F H) (hRt : Rt m c) (hG : Wp sc (dh + 18) 33 0 [(0, .ref A), (1, .ref 1), (2, vi 3)] [] (Wd P Q P P m) 0 0 (fun q => q = (.inl (none), Wd P Q P P m9, 0, 0))) (K : ∀ (c2 : ME), Iv u e P2 Q2 c2 → (∀ (a : Nat) (j : Int), ¬ ((a = 41 ∧ j = 4) ∨ (a = 41 ∧ j = 5) ∨ (a = 41 ∧ j = 6) ∨ (a = 41 ∧ j = 16) ∨ (a = 41 ∧ j = 17) ∨ (a = 41 ∧ j = 18) ∨ (a = 41 ∧ j = 19) ∨ a = 44 ∨ a = 45 ∨ a = 46) → c2 a j = c a j) → (Rt m9 c2) → ((m9 A 0 = c2 41 16)) → ((m9 A 1 = c2 41 17)) → ((m9 A 2 = c2 41 18)) → Z (.inl (none), Wd P2 Q2 P2 P2 c2, 0, 0)) : Wp sc (d + 18) 168 0 [(0, .ref 41), (1, vi 153204)] [] (Wd P2 Q2 P2 P2 c) 0 0 Z := by
  have hP := iv_P hJ
  have hQ := iv_Q hJ
  have h_1 := ir_1_1 hJ
  have h_2 := ir_41_3 hI
  have h_3 := ir_p0_0 hJ hA
  have h_4 := ir_41_16 hI
  have h_5 := ir_p0_1 hJ hA
  have h_6 := ir_41_17 hI
  have h_7 := ir_p0_2 hJ hA
  have h_8 := ir_41_18 hI
  refine gh hG ?_
  refine q_iload_n rfl rfl ?_
  refine v_tsw_o (t := 116) rfl (by omega) (by decide) ?_
  refine q_aload_n rfl rfl ?_
  refine q_aload_n rfl rfl ?_
  refine v_bip rfl (by decide) ?_
  have h_9 := ir_1_4 hJ
  refine v_cv rfl rfl rfl rfl (by decide) ⟨⟨rfl, rfl⟩, by decide, rfl⟩ (Nat.le_of_ble_eq_true rfl) (Nat.le_of_ble_eq_true rfl) (fn_of (s_8 (a1 := 50) hJ (show (-1) ≤ 50 ∧ 50 ≤ 9999 from by omega) (fun c_10 y_13 hI_11 hF_12 hy_13 h_14 => ?_)))
  intro hG_15
  refine bk_inl ?_
  refine v_pi (z := 3) rfl rfl (ck_p0 hA) (by omega) rfl rfl rfl (by decide) ?_
  refine q_vret rfl rfl ?_
  have hI_16 := iw_p0_3 (v := y_13) hI_11 hA ⟨by omega, by omega⟩
  intro hE_17
  have hW : Wd P Q P P (up c_10 A 3 y_13) = Wd P Q P P m9 := (Prod.mk.inj (Prod.mk.inj hE_17).2).1
  have h_18 := ir_1_4 hI_11
  have h_19 := ir_1_4 hJ9
  have h_20 : m9 1 4 = c_10 1 4 := wd_fv (z := 4) 4 rfl hW rfl rfl rfl rfl (by decide) (up_c (pn0 hA rfl)) ⟨by omega, by omega⟩ ⟨by omega, by omega⟩
  have h_21 := ir_1_2 hI_11
  have h_22 := ir_1_2 hJ9
  have h_23 : m9 1 2 = c_10 1 2 := wd_fv (z := 2) 2 rfl hW rfl rfl rfl rfl (by decide) (up_c (pn0 hA rfl)) ⟨by omega, by omega⟩ ⟨by omega, by omega⟩
  have h_24 := ir_1_5 hI_11
  have h_25 := ir_1_5 hJ9
  have h_26 : m9 1 5 = c_10 1 5 := wd_fv (z := 5) 5 rfl hW rfl rfl rfl rfl (by decide) (up_c (pn0 hA rfl)) ⟨by omega, by omega⟩ ⟨by omega, by omega⟩
  have kn_27 : Hid (c_10 A 0 = jr) := (hF_12 A 0 (fun q => q.elim (fun h => absurd h.1 (np0 hA rfl)) (fun q => q.elim (fun h => absurd h.1 (np0 hA rfl)) (fun h => absurd h.1 (np0 hA rfl))))).trans (hg_jr)
  have h_28 := ir_p0_0 hJ9 hA
  have h_29 : m9 A 0 = jr := wd_fv (z := 0) 0 rfl hW (ck_A hA) (ck_A hA) rfl rfl (by omega) ((up_n (by decide)).trans (hid kn_27)) ⟨by omega, by omega⟩ ⟨by omega, by omega⟩
  have kn_30 : Hid (c_10 A 1 = st) := (hF_12 A 1 (fun q => q.elim (fun h => absurd h.1 (np0 hA rfl)) (fun q => q.elim (fun h => absurd h.1 (np0 hA rfl)) (fun h => absurd h.1 (np0 hA rfl))))).trans (hg_st)
  have h_31 := ir_p0_1 hJ9 hA
  have h_32 : m9 A 1 = st := wd_fv (z := 1) 1 rfl hW (ck_A hA) (ck_A hA) rfl rfl (by omega) ((up_n (by decide)).trans (hid kn_30)) ⟨by omega, by omega⟩ ⟨by omega, by omega⟩
  have kn_33 : Hid (c_10 A 2 = si) := (hF_12 A 2 (fun q => q.elim (fun h => absurd h.1 (np0 hA rfl)) (fun q => q.elim (fun h => absurd h.1 (np0 hA rfl)) (fun h => absurd h.1 (np0 hA rfl))))).trans (hg_si)
  have h_34 := ir_p0_2 hJ9 hA
  have h_35 : m9 A 2 = si := wd_fv (z := 2) 2 rfl hW (ck_A hA) (ck_A hA) rfl rfl (by omega) ((up_n (by decide)).trans (hid kn_33)) ⟨by omega, by omega⟩ ⟨by omega, by omega⟩
  refine q_iload_n rfl rfl ?_
  refine q_ldc_s rfl rfl rfl (by decide) ?_
  refine q_call rfl rfl rfl rfl (s_158_16 ?_)
  refine bk_inl ?_
  refine v_ic_ne_t (t := 56) rfl (by decide) (by decide) ?_
  refine q_iload_n rfl rfl ?_
  refine q_ldc_s rfl rfl rfl (by decide) ?_
  refine q_call rfl rfl rfl rfl (s_158_17 ?_)
  refine bk_inl ?_
  refine v_ic_ne_t (t := 111) rfl (by decide) (by decide) ?_
  refine q_iload_n rfl rfl ?_
  refine q_ldc_s rfl rfl rfl (by decide) ?_
  refine q_call rfl rfl rfl rfl (s_158_18 ?_)
  refine bk_inl ?_
  refine v_ic_ne_t (t := 148) rfl (by decide) (by decide) ?_
  refine q_aload_n rfl rfl ?_
  refine q_aload_n rfl rfl ?_
  refine q_iconst rfl ?_
  refine v_bip rfl (by decide) ?_
  have h_36 := ir_1_2 hJ
  refine v_cv rfl rfl rfl rfl (by decide) ⟨⟨rfl, rfl⟩, by decide, rfl⟩ (Nat.le_of_ble_eq_true rfl) (Nat.le_of_ble_eq_true rfl) (L_8 (m := m) (a2 := 50) (yg := y_13) (e1 := e1) (a9 := m 1 2) (F := F) (H := H) hI hJ hI_11 (show (-1) ≤ 50 ∧ 50 ≤ 9999 from by omega) ⟨by omega, by omega⟩ ((hg_e1)) ((hr_e1)) (rfl) (fun j => hF j) (fun j => hH j) hU hRt hG_15 (fun c_37 y_40 hI_38 hF_39 hy_40 hR_41 h_42 h_43 => ?_))
  refine bk_inl ?_
  have hs_44 := h_42.symm
  subst hs_44
  refine v_pi (z := 19) rfl rfl rfl (by decide) rfl rfl rfl (by decide) ?_
  refine q_vret rfl rfl ?_
  have hI_45 := iw_41_19 (v := y_13) hI_38 ⟨by omega, by omega⟩
  have h_46 := ir_41_5 hI_38
  have h_47 := ir_41_4 hI_38
  have h_48 := ir_41_6 hI_38
  have h_49 := rt_or hR_41
  have h_50 : (up c_37 41 19 y_13) 41 5 = c_37 41 5 := (up_n (by decide))
  have h_51 : (up c_37 41 19 y_13) 41 4 = c_37 41 4 := (up_n (by decide))
  have h_52 : (up c_37 41 19 y_13) 41 6 = c_37 41 6 := (up_n (by decide))
  have kn_53 : Hid (c_37 41 16 = jr) := (hF_39 41 16 (fun q => q.elim (fun h => absurd h.2 (ni rfl)) (fun q => q.elim (fun h => absurd h.2 (ni rfl)) (fun h => absurd h.2 (ni rfl))))).trans (hr_jr)
  have h_54 : (up c_37 41 19 y_13) 41 16 = jr := ((up_n (by decide)).trans (hid kn_53))
  have kn_55 : Hid (c_37 41 17 = st) := (hF_39 41 17 (fun q => q.elim (fun h => absurd h.2 (ni rfl)) (fun q => q.elim (fun h => absurd h.2 (ni rfl)) (fun h => absurd h.2 (ni rfl))))).trans (hr_st)
  have h_56 : (up c_37 41 19 y_13) 41 17 = st := ((up_n (by decide)).trans (hid kn_55))
  have kn_57 : Hid (c_37 41 18 = si) := (hF_39 41 18 (fun q => q.elim (fun h => absurd h.2 (ni rfl)) (fun q => q.elim (fun h => absurd h.2 (ni rfl)) (fun h => absurd h.2 (ni rfl))))).trans (hr_si)
  have h_58 : (up c_37 41 19 y_13) 41 18 = si := ((up_n (by decide)).trans (hid kn_57))
  exact K (up c_37 41 19 y_13)  hI_45 (fun a j hm => (up_b (Decidable.or_iff_not_imp_left.mpr (fun h1 h2 => hm (Or.inr (Or.inr (Or.inr (Or.inr (Or.inr (Or.inr (Or.inl ⟨Decidable.not_not.mp h1, h2⟩)))))))))).trans (hF_39 a j (fun q => q.elim (fun h => hm (Or.inl h)) (fun q => q.elim (fun h => hm (Or.inr (Or.inl h))) (fun h => hm (Or.inr (Or.inr (Or.inl h)))))))) (by unfold Rt; omega) (by omega) (by omega) (by omega)

set_option maxRecDepth 100000 in
set_option maxHeartbeats 4000000 in
theorem L_34_l {sc : List Int32} {e eg : Int} {d dh u ug P Q P2 Q2 A : Nat} {c m m9 : ME} {a1 e1 f0 g0 z0 z1 z2 : Int} {F H : Int → Int} {Z : AR → Prop} (hI : Iv u e P2 Q2 c) (hJ : Iv ug eg P Q m) (hJ9 : Iv ug eg P Q m9) (hA : A = 13 ∨ A = 25) (ha1 : (-2147483648) ≤ a1 ∧ a1 ≤ 2147483647) (hq0 : (f0 = 0)) (hq1 : (g0 = (-1))) (hq2 : (z0 = 0)) (hq3 : (z1 = 0)) (hq4 : (z2 = 0)) (hg_e1 : m 1 1 = e1) (hr_e1 : c 41 3 = e1) (hg_f0 : m 1 4 = f0) (hg_g0 : m 1 5 = g0) (hr_z0 : c 41 16 = z0) (hr_z1 : c 41 17 = z1) (hr_z2 : c 41 18 = z2) (hF : ∀ j : Int, m 2 j = F j) (hH : ∀ j : Int, c 43 j = H j) (hU : Ub F H) (hRt : Rt m c) (K : ∀ (c2 : ME), Iv u e P2 Q2 c2 → (∀ (a : Nat) (j : Int), ¬ ((a = 41 ∧ j = 4) ∨ (a = 41 ∧ j = 5) ∨ (a = 41 ∧ j = 6) ∨ (a = 41 ∧ j = 16) ∨ (a = 41 ∧ j = 17) ∨ (a = 41 ∧ j = 18) ∨ (a = 41 ∧ j = 19) ∨ a = 44 ∨ a = 45 ∨ a = 46) → c2 a j = c a j) → (Rt m9 c2) → ((m9 1 4 < 0) ∨ (m9 1 4 > 0) ∨ (m9 A 0 = c2 41 16)) → Wp sc (d + 22) 169 136 [(0, .ref 41), (1, vi a1)] [] (Wd P2 Q2 P2 P2 c2) 0 0 Z) : ∀ n : Nat, (∀ (c2 m2 : ME) (v : Int) (a : Int) (jr : Int) (st : Int) (si : Int), Iv u e P2 Q2 c2 → (∀ (a : Nat) (j : Int), ¬ ((a = 41 ∧ j = 4) ∨ (a = 41 ∧ j = 5) ∨ (a = 41 ∧ j = 6) ∨ (a = 41 ∧ j = 16) ∨ (a = 41 ∧ j = 17) ∨ (a = 41 ∧ j = 18) ∨ (a = 41 ∧ j = 19) ∨ a = 44 ∨ a = 45 ∨ a = 46) → c2 a j = c a j) → Iv ug eg P Q m2 → (∀ (a : Nat) (j : Int), ¬ ((a = 1 ∧ j = 2) ∨ (a = 1 ∧ j = 4) ∨ (a = 1 ∧ j = 5) ∨ (a = A ∧ j = 0) ∨ (a = A ∧ j = 1) ∨ (a = A ∧ j = 2) ∨ (a = A ∧ j = 3) ∨ a = (A + 1) ∨ a = (A + 2) ∨ a = (A + 3) ∨ (a = A ∧ j = 4) ∨ (a = A ∧ j = 5) ∨ a = (A + 6) ∨ (a = (A + 7) ∧ j = 4)) → m2 a j = m a j) → 0 ≤ v ∧ v ≤ 60 → 0 ≤ a ∧ a ≤ 600 → 0 ≤ jr ∧ jr ≤ 6 → 0 ≤ st ∧ st ≤ 4 → 0 ≤ si ∧ si ≤ 4 → m2 1 2 = a → c2 41 4 = a → m2 A 0 = jr → c2 41 16 = jr → m2 A 1 = st → c2 41 17 = st → m2 A 2 = si → c2 41 18 = si → m2 1 4 = 0 → c2 41 5 = (-1) → m2 1 5 = (-1) → Wp sc (dh + 30) 34 6 [(0, .ref A), (1, .ref 1), (2, vi v)] [] (Wd P Q P P m2) 0 0 (fun q => q = (.inl (none), Wd P Q P P m9, 0, 0)) → 61 - v < (n : Int) → Wp sc (d + 22) 169 44 [(0, .ref 41), (1, vi a1), (2, vi v)] [] (Wd P2 Q2 P2 P2 c2) 0 0 Z)
  | 0 => by intro c2 m2 v a jr st si hI2 hFc hJ2 hFm hv ha hjr hst hsi hg_a hr_a hg_jr hr_jr hg_st hr_st hg_si hr_si hc_0 hc_1 hc_2 hG2 hm9; exfalso; omega
  | n + 1 => by
    have hP := iv_P hJ
    have hQ := iv_Q hJ
    have ih := L_34_l (sc := sc) (d := d) (dh := dh) hI hJ hJ9 hA ha1 hq0 hq1 hq2 hq3 hq4 hg_e1 hr_e1 hg_f0 hg_g0 hr_z0 hr_z1 hr_z2 hF hH hU hRt K n
    intro c2 m2 v a jr st si hI2 hFc hJ2 hFm hv ha hjr hst hsi hg_a hr_a hg_jr hr_jr hg_st hr_st hg_si hr_si hc_0 hc_1 hc_2 hG2 hm9
    have h_1 := ir_1_1 hJ
    have h_2 := ir_41_3 hI
    have h_3 := ir_1_4 hJ
    have h_4 := ir_1_5 hJ
    have h_5 := ir_41_16 hI
    have h_6 := ir_41_17 hI
    have h_7 := ir_41_18 hI
    have h_8 := ir_1_2 hJ2
    have h_9 := ir_41_4 hI2
    have h_10 := ir_p0_0 hJ2 hA
    have h_11 := ir_41_16 hI2
    have h_12 := ir_p0_1 hJ2 hA
    have h_13 := ir_41_17 hI2
    have h_14 := ir_p0_2 hJ2 hA
    have h_15 := ir_41_18 hI2
    have h_16 := ir_1_4 hJ2
    have h_17 := ir_41_5 hI2
    have h_18 := ir_1_5 hJ2
    refine gh hG2 ?_
    refine q_iload_n rfl rfl ?_
    refine v_bip rfl (by decide) ?_
    refine v_ic_gt_f (t := 85) rfl (by decide) (by omega) ?_
    refine q_aload_n rfl rfl ?_
    refine v_cv rfl rfl rfl rfl (by decide) ⟨⟨rfl, rfl⟩, by decide, rfl⟩ (Nat.le_of_ble_eq_true rfl) (Nat.le_of_ble_eq_true rfl) ?_
    refine q_aload_n rfl rfl ?_
    refine v_cv rfl rfl rfl rfl (by decide) ⟨⟨rfl, rfl⟩, by decide, rfl⟩ (Nat.le_of_ble_eq_true rfl) (Nat.le_of_ble_eq_true rfl) ?_
    refine q_aload_n rfl rfl ?_
    refine v_gi (z := 4) (v := 0) rfl rfl rfl (by decide) rfl rfl (hc_0) ?_
    refine v_if_ne_f (t := 11) rfl (by decide) (by decide) ?_
    refine q_iconst rfl ?_
    refine q_goto (t := 12) rfl (by decide) ?_
    refine v_zret rfl rfl (by decide) ?_
    refine bk_inl ?_
    refine v_if_eq_f (t := 22) rfl (by decide) (by decide) ?_
    refine q_aload_n rfl rfl ?_
    have kn_19 : Hid (m2 1 1 = e1) := (hFm 1 1 (fun q => q.elim (fun h => absurd h.2 (ni rfl)) (fun q => q.elim (fun h => absurd h.2 (ni rfl)) (fun q => q.elim (fun h => absurd h.2 (ni rfl)) (fun q => q.elim (fun h => absurd h.1 (pn0 hA rfl)) (fun q => q.elim (fun h => absurd h.1 (pn0 hA rfl)) (fun q => q.elim (fun h => absurd h.1 (pn0 hA rfl)) (fun q => q.elim (fun h => absurd h.1 (pn0 hA rfl)) (fun q => q.elim (fun h => absurd h (pn hA rfl rfl)) (fun q => q.elim (fun h => absurd h (pn hA rfl rfl)) (fun q => q.elim (fun h => absurd h (pn hA rfl rfl)) (fun q => q.elim (fun h => absurd h.1 (pn0 hA rfl)) (fun q => q.elim (fun h => absurd h.1 (pn0 hA rfl)) (fun q => q.elim (fun h => absurd h (pn hA rfl rfl)) (fun h => absurd h.1 (pn hA rfl rfl)))))))))))))))).trans (hg_e1)
    have h_20 : -2147483648 ≤ (F a) ∧ (F a) ≤ 2147483647 := by rw [← hF a]; exact ir_2 hJ a
    have h_21 := nx_bd (b := F) (e := e1) (a := a)
    have h_22 : -2147483648 ≤ (F (nx F e1 a)) ∧ (F (nx F e1 a)) ≤ 2147483647 := by rw [← hF (nx F e1 a)]; exact ir_2 hJ (nx F e1 a)
    have h_23 := nx_n (b := F) (e := e1) (a := a)
    refine v_cv rfl rfl rfl rfl (by decide) ⟨⟨rfl, rfl⟩, by decide, rfl⟩ (Nat.le_of_ble_eq_true rfl) (Nat.le_of_ble_eq_true rfl) (f_3 (e1 := e1) (a9 := a) (B := F) (r8 := (nx F e1 a)) hJ2 ((hid kn_19)) ((hg_a)) (fun j => (hFm 2 j (fun q => q.elim (fun h => absurd h.1 (nn rfl)) (fun q => q.elim (fun h => absurd h.1 (nn rfl)) (fun q => q.elim (fun h => absurd h.1 (nn rfl)) (fun q => q.elim (fun h => absurd h.1 (pn0 hA rfl)) (fun q => q.elim (fun h => absurd h.1 (pn0 hA rfl)) (fun q => q.elim (fun h => absurd h.1 (pn0 hA rfl)) (fun q => q.elim (fun h => absurd h.1 (pn0 hA rfl)) (fun q => q.elim (fun h => absurd h (pn hA rfl rfl)) (fun q => q.elim (fun h => absurd h (pn hA rfl rfl)) (fun q => q.elim (fun h => absurd h (pn hA rfl rfl)) (fun q => q.elim (fun h => absurd h.1 (pn0 hA rfl)) (fun q => q.elim (fun h => absurd h.1 (pn0 hA rfl)) (fun q => q.elim (fun h => absurd h (pn hA rfl rfl)) (fun h => absurd h.1 (pn hA rfl rfl)))))))))))))))).trans (hF j)) rfl (fun c_24 hI_25 hF_26 hz_27 => ?_))
    refine bk_inl ?_
    refine q_aload_n rfl rfl ?_
    have kn_28 : Hid (c_24 1 1 = e1) := (hF_26 1 1 (fun h => absurd h.2 (ni rfl))).trans (hid kn_19)
    refine v_gi (z := 1) (v := e1) rfl rfl rfl (by decide) rfl rfl (hid kn_28) ?_
    by_cases h_29 : (nx F e1 a) ≥ e1
    · refine v_ic_ge_t (t := 22) rfl (by decide) (by omega) ?_
      refine q_iconst rfl ?_
      refine v_zret rfl rfl (by decide) ?_
      refine bk_inl ?_
      refine v_if_eq_t (t := 85) rfl (by decide) (by decide) ?_
      refine q_vret rfl rfl ?_
      intro hE_30
      have hW : Wd P Q P P c_24 = Wd P Q P P m9 := (Prod.mk.inj (Prod.mk.inj hE_30).2).1
      have kn_31 : Hid (c_24 1 4 = 0) := (hF_26 1 4 (fun h => absurd h.2 (ni rfl))).trans (hc_0)
      have h_32 := ir_1_4 hJ9
      have h_33 : m9 1 4 = 0 := wd_fv (z := 4) 4 rfl hW rfl rfl rfl rfl (by decide) (hid kn_31) ⟨by omega, by omega⟩ ⟨by omega, by omega⟩
      have h_34 := ir_1_2 hJ9
      have h_35 : m9 1 2 = (nx F e1 a) := wd_fv (z := 2) 2 rfl hW rfl rfl rfl rfl (by decide) (hz_27) ⟨by omega, by omega⟩ ⟨by omega, by omega⟩
      have kn_36 : Hid (c_24 1 5 = (-1)) := (hF_26 1 5 (fun h => absurd h.2 (ni rfl))).trans (hc_2)
      have h_37 := ir_1_5 hJ9
      have h_38 : m9 1 5 = (-1) := wd_fv (z := 5) 5 rfl hW rfl rfl rfl rfl (by decide) (hid kn_36) ⟨by omega, by omega⟩ ⟨by omega, by omega⟩
      have kn_39 : Hid (c_24 A 0 = jr) := (hF_26 A 0 (fun h => absurd h.1 (np0 hA rfl))).trans (hg_jr)
      have h_40 := ir_p0_0 hJ9 hA
      have h_41 : m9 A 0 = jr := wd_fv (z := 0) 0 rfl hW (ck_A hA) (ck_A hA) rfl rfl (by omega) (hid kn_39) ⟨by omega, by omega⟩ ⟨by omega, by omega⟩
      refine q_aload_n rfl rfl ?_
      refine v_cv rfl rfl rfl rfl (by decide) ⟨⟨rfl, rfl⟩, by decide, rfl⟩ (Nat.le_of_ble_eq_true rfl) (Nat.le_of_ble_eq_true rfl) ?_
      refine q_aload_n rfl rfl ?_
      refine v_gi (z := 5) (v := (-1)) rfl rfl rfl (by decide) rfl rfl (hc_1) ?_
      refine q_iconst rfl ?_
      refine v_ic_ne_f (t := 12) rfl (by decide) (by decide) ?_
      refine q_iconst rfl ?_
      refine q_goto (t := 13) rfl (by decide) ?_
      refine v_zret rfl rfl (by decide) ?_
      refine bk_inl ?_
      refine v_if_eq_f (t := 136) rfl (by decide) (by decide) ?_
      refine q_aload_n rfl rfl ?_
      refine v_cv rfl rfl rfl rfl (by decide) ⟨⟨rfl, rfl⟩, by decide, rfl⟩ (Nat.le_of_ble_eq_true rfl) (Nat.le_of_ble_eq_true rfl) ?_
      refine q_aload_n rfl rfl ?_
      have kn_42 : Hid (c2 41 3 = e1) := (hFc 41 3 (fun q => q.elim (fun h => absurd h.2 (ni rfl)) (fun q => q.elim (fun h => absurd h.2 (ni rfl)) (fun q => q.elim (fun h => absurd h.2 (ni rfl)) (fun q => q.elim (fun h => absurd h.2 (ni rfl)) (fun q => q.elim (fun h => absurd h.2 (ni rfl)) (fun q => q.elim (fun h => absurd h.2 (ni rfl)) (fun q => q.elim (fun h => absurd h.2 (ni rfl)) (fun q => q.elim (fun h => absurd h (nn rfl)) (fun q => q.elim (fun h => absurd h (nn rfl)) (fun h => absurd h (nn rfl)))))))))))).trans (hr_e1)
      have h_43 : -2147483648 ≤ (H (nx F e1 a)) ∧ (H (nx F e1 a)) ≤ 2147483647 := by rw [← hH (nx F e1 a)]; exact ir_43 hI (nx F e1 a)
      have h_44 : (nx F e1 a) < 600 → (H (nx F e1 a)) = (F (nx F e1 a)) % 256 ∧ -128 ≤ (F (nx F e1 a)) ∧ (F (nx F e1 a)) ≤ 127 := fun q => hU (nx F e1 a) (by omega) q
      have h_45 := hb_or (b := H) (e := e1) (r := (nx F e1 a))
      have h_46 := hb_bd (b := H) (e := e1) (r := (nx F e1 a)) (lo := -2147483648) (hi := 2147483647) ⟨by omega, by omega⟩ (by decide)
      refine v_cv rfl rfl rfl rfl (by decide) ⟨⟨rfl, rfl⟩, by decide, rfl⟩ (Nat.le_of_ble_eq_true rfl) (Nat.le_of_ble_eq_true rfl) (f_154 (e1 := e1) (a9 := a) (B := H) (r8 := (nx F e1 a)) (r := (hb H e1 (nx F e1 a))) hI2 ((hid kn_42)) ((hr_a)) (fun j => (hFc 43 j (fun q => q.elim (fun h => absurd h.1 (nn rfl)) (fun q => q.elim (fun h => absurd h.1 (nn rfl)) (fun q => q.elim (fun h => absurd h.1 (nn rfl)) (fun q => q.elim (fun h => absurd h.1 (nn rfl)) (fun q => q.elim (fun h => absurd h.1 (nn rfl)) (fun q => q.elim (fun h => absurd h.1 (nn rfl)) (fun q => q.elim (fun h => absurd h.1 (nn rfl)) (fun q => q.elim (fun h => absurd h (nn rfl)) (fun q => q.elim (fun h => absurd h (nn rfl)) (fun h => absurd h (nn rfl)))))))))))).trans (hH j)) ((nx_tr hU (by omega) (by omega)).trans (rfl)) rfl (fun c_47 hI_48 hF_49 h_50 => ?_))
      refine bk_inl ?_
      refine q_pop rfl rfl ?_
      refine q_aload_n rfl rfl ?_
      refine v_gi (z := 4) (v := (nx F e1 a)) rfl rfl rfl (by decide) rfl rfl (h_50) ?_
      refine q_aload_n rfl rfl ?_
      have kn_51 : Hid (c_47 41 3 = e1) := (hF_49 41 3 (fun h => absurd h.2 (ni rfl))).trans (hid kn_42)
      refine v_gi (z := 3) (v := e1) rfl rfl rfl (by decide) rfl rfl (hid kn_51) ?_
      refine v_ic_ge_t (t := 20) rfl (by decide) (by omega) ?_
      refine q_iconst rfl ?_
      refine v_zret rfl rfl (by decide) ?_
      refine bk_inl ?_
      refine v_if_eq_t (t := 136) rfl (by decide) (by decide) ?_
      refine Wp_ls [(0, .ref 41), (1, vi a1)] (lsub_cons rfl (lsub_cons rfl lsub_nil)) ?_
      have kn_52 : Hid (c_47 41 5 = (-1)) := (hF_49 41 5 (fun h => absurd h.2 (ni rfl))).trans (hc_1)
      have h_53 : c_47 41 5 = (-1) := (hid kn_52)
      have h_54 : c_47 41 4 = (nx F e1 a) := (h_50)
      have h_55 := ir_41_6 hI2
      have kn_56 : Hid (c_47 41 6 = c2 41 6) := hF_49 41 6 (fun h => absurd h.2 (ni rfl))
      have h_57 : c_47 41 6 = c2 41 6 := (hid kn_56)
      have kn_58 : Hid (c_47 41 16 = jr) := (hF_49 41 16 (fun h => absurd h.2 (ni rfl))).trans (hr_jr)
      have h_59 : c_47 41 16 = jr := (hid kn_58)
      exact K c_47  hI_48 (fun a j hm => (hF_49 a j (fun h => hm (Or.inl h))).trans (hFc a j (fun q => q.elim (fun h => hm (Or.inl h)) (fun q => q.elim (fun h => hm (Or.inr (Or.inl h))) (fun q => q.elim (fun h => hm (Or.inr (Or.inr (Or.inl h)))) (fun q => q.elim (fun h => hm (Or.inr (Or.inr (Or.inr (Or.inl h))))) (fun q => q.elim (fun h => hm (Or.inr (Or.inr (Or.inr (Or.inr (Or.inl h)))))) (fun q => q.elim (fun h => hm (Or.inr (Or.inr (Or.inr (Or.inr (Or.inr (Or.inl h))))))) (fun q => q.elim (fun h => hm (Or.inr (Or.inr (Or.inr (Or.inr (Or.inr (Or.inr (Or.inl h)))))))) (fun q => q.elim (fun h => hm (Or.inr (Or.inr (Or.inr (Or.inr (Or.inr (Or.inr (Or.inr (Or.inl h))))))))) (fun q => q.elim (fun h => hm (Or.inr (Or.inr (Or.inr (Or.inr (Or.inr (Or.inr (Or.inr (Or.inr (Or.inl h)))))))))) (fun h => hm (Or.inr (Or.inr (Or.inr (Or.inr (Or.inr (Or.inr (Or.inr (Or.inr (Or.inr h))))))))))))))))))))) (by unfold Rt; omega) (by omega)
    · refine v_ic_ge_f (t := 22) rfl (by decide) (by omega) ?_
      refine q_iconst rfl ?_
      refine q_goto (t := 23) rfl (by decide) ?_
      refine v_zret rfl rfl (by decide) ?_
      refine bk_inl ?_
      refine v_if_eq_f (t := 85) rfl (by decide) (by decide) ?_
      refine q_aload_n rfl rfl ?_
      refine v_cv rfl rfl rfl rfl (by decide) ⟨⟨rfl, rfl⟩, by decide, rfl⟩ (Nat.le_of_ble_eq_true rfl) (Nat.le_of_ble_eq_true rfl) (f_3 (e1 := e1) (a9 := (nx F e1 a)) (B := F) (r8 := (nx F e1 a)) hI_25 ((hid kn_28)) ((hz_27)) (fun j => ((hF_26 2 j (fun h => absurd h.1 (nn rfl))).trans (hFm 2 j (fun q => q.elim (fun h => absurd h.1 (nn rfl)) (fun q => q.elim (fun h => absurd h.1 (nn rfl)) (fun q => q.elim (fun h => absurd h.1 (nn rfl)) (fun q => q.elim (fun h => absurd h.1 (pn0 hA rfl)) (fun q => q.elim (fun h => absurd h.1 (pn0 hA rfl)) (fun q => q.elim (fun h => absurd h.1 (pn0 hA rfl)) (fun q => q.elim (fun h => absurd h.1 (pn0 hA rfl)) (fun q => q.elim (fun h => absurd h (pn hA rfl rfl)) (fun q => q.elim (fun h => absurd h (pn hA rfl rfl)) (fun q => q.elim (fun h => absurd h (pn hA rfl rfl)) (fun q => q.elim (fun h => absurd h.1 (pn0 hA rfl)) (fun q => q.elim (fun h => absurd h.1 (pn0 hA rfl)) (fun q => q.elim (fun h => absurd h (pn hA rfl rfl)) (fun h => absurd h.1 (pn hA rfl rfl))))))))))))))))).trans (hF j)) (nx_z (by omega)) (fun c_60 hI_61 hF_62 hz_63 => ?_))
      refine bk_inl ?_
      refine q_istore_n rfl (by decide) ?_
      refine q_aload_n rfl rfl ?_
      refine q_ldc_s rfl rfl rfl (by decide) ?_
      have kn_64 : Hid (c_60 1 1 = e1) := (hF_62 1 1 (fun h => absurd h.2 (ni rfl))).trans (hid kn_28)
      have kn_65 : Hid (c_24 1 4 = 0) := (hF_26 1 4 (fun h => absurd h.2 (ni rfl))).trans (hc_0)
      have kn_66 : Hid (c_60 1 4 = 0) := (hF_62 1 4 (fun h => absurd h.2 (ni rfl))).trans (hid kn_65)
      have kn_67 : Hid (c_24 1 5 = (-1)) := (hF_26 1 5 (fun h => absurd h.2 (ni rfl))).trans (hc_2)
      have kn_68 : Hid (c_60 1 5 = (-1)) := (hF_62 1 5 (fun h => absurd h.2 (ni rfl))).trans (hid kn_67)
      have h_69 := ln_bd (b := F) (e := e1) (a := (nx F e1 a))
      refine v_cv rfl rfl rfl rfl (by decide) ⟨⟨rfl, rfl⟩, by decide, rfl⟩ (Nat.le_of_ble_eq_true rfl) (Nat.le_of_ble_eq_true rfl) (f_10_8 (e1 := e1) (a9 := (nx F e1 a)) (f9 := 0) (p9 := (-1)) (B := F) (r8 := (nx F e1 a)) (L8 := (ln F e1 (nx F e1 a))) (W8 := (wd8_0 F (nx F e1 a) (ln F e1 (nx F e1 a)))) hI_61 ((hid kn_64)) ((hz_63)) ((hid kn_66)) ((hid kn_68)) (fun j => ((hF_62 2 j (fun h => absurd h.1 (nn rfl))).trans ((hF_26 2 j (fun h => absurd h.1 (nn rfl))).trans (hFm 2 j (fun q => q.elim (fun h => absurd h.1 (nn rfl)) (fun q => q.elim (fun h => absurd h.1 (nn rfl)) (fun q => q.elim (fun h => absurd h.1 (nn rfl)) (fun q => q.elim (fun h => absurd h.1 (pn0 hA rfl)) (fun q => q.elim (fun h => absurd h.1 (pn0 hA rfl)) (fun q => q.elim (fun h => absurd h.1 (pn0 hA rfl)) (fun q => q.elim (fun h => absurd h.1 (pn0 hA rfl)) (fun q => q.elim (fun h => absurd h (pn hA rfl rfl)) (fun q => q.elim (fun h => absurd h (pn hA rfl rfl)) (fun q => q.elim (fun h => absurd h (pn hA rfl rfl)) (fun q => q.elim (fun h => absurd h.1 (pn0 hA rfl)) (fun q => q.elim (fun h => absurd h.1 (pn0 hA rfl)) (fun q => q.elim (fun h => absurd h (pn hA rfl rfl)) (fun h => absurd h.1 (pn hA rfl rfl)))))))))))))))))).trans (hF j)) (nx_z (by omega)) rfl rfl (fun c_70 hI_71 hF_72 h_73 hz_74 hz_75 hz_76 => by exfalso; omega) (fun c_77 hI_78 hF_79 h_80 h_81 hz_82 hz_83 hz_84 => ?_) (fun c_85 hI_86 hF_87 h_88 h_89 hz_90 hz_91 hz_92 => ?_))
      · skip
        refine bk_inl ?_
        refine q_istore rfl (by decide) ?_
        refine q_iload rfl rfl ?_
        refine q_iconst rfl ?_
        refine v_ic_eq_t (t := 59) rfl (by decide) (by decide) ?_
        refine q_aload_n rfl rfl ?_
        refine v_cv rfl rfl rfl rfl (by decide) ⟨⟨rfl, rfl⟩, by decide, rfl⟩ (Nat.le_of_ble_eq_true rfl) (Nat.le_of_ble_eq_true rfl) ?_
        refine q_aload_n rfl rfl ?_
        refine v_gi (z := 4) (v := 1) rfl rfl rfl (by decide) rfl rfl (hz_83) ?_
        refine v_if_ne_t (t := 11) rfl (by decide) (by decide) ?_
        refine q_iconst rfl ?_
        refine v_zret rfl rfl (by decide) ?_
        refine bk_inl ?_
        refine v_if_eq_t (t := 73) rfl (by decide) (by decide) ?_
        refine q_aload_n rfl rfl ?_
        refine q_ldc_s rfl rfl rfl (by decide) ?_
        refine v_cv rfl rfl rfl rfl (by decide) ⟨⟨rfl, rfl⟩, by decide, rfl⟩ (Nat.le_of_ble_eq_true rfl) (Nat.le_of_ble_eq_true rfl) ?_
        refine q_aload_n rfl rfl ?_
        refine v_cv rfl rfl rfl rfl (by decide) ⟨⟨rfl, rfl⟩, by decide, rfl⟩ (Nat.le_of_ble_eq_true rfl) (Nat.le_of_ble_eq_true rfl) ?_
        refine q_aload_n rfl rfl ?_
        refine v_gi (z := 4) (v := 1) rfl rfl rfl (by decide) rfl rfl (hz_83) ?_
        refine v_if_ne_t (t := 11) rfl (by decide) (by decide) ?_
        refine q_iconst rfl ?_
        refine v_zret rfl rfl (by decide) ?_
        refine bk_inl ?_
        refine v_if_eq_t (t := 25) rfl (by decide) (by decide) ?_
        refine q_vret rfl rfl ?_
        refine bk_inl ?_
        refine v_iinc (v := v + 1) rfl rfl (by decide) (by omega) ?_
        refine q_goto (t := 6) rfl (by decide) ?_
        refine q_iload_n rfl rfl ?_
        refine v_bip rfl (by decide) ?_
        by_cases h_93 : v + 1 > 60
        · refine v_ic_gt_t (t := 85) rfl (by decide) (by omega) ?_
          refine q_vret rfl rfl ?_
          intro hE_94
          have hW : Wd P Q P P c_77 = Wd P Q P P m9 := (Prod.mk.inj (Prod.mk.inj hE_94).2).1
          have h_95 := ir_1_4 hJ9
          have h_96 : m9 1 4 = 1 := wd_fv (z := 4) 4 rfl hW rfl rfl rfl rfl (by decide) (hz_83) ⟨by omega, by omega⟩ ⟨by omega, by omega⟩
          have h_97 := ir_1_2 hJ9
          have h_98 : m9 1 2 = (nx F e1 a) := wd_fv (z := 2) 2 rfl hW rfl rfl rfl rfl (by decide) (hz_82) ⟨by omega, by omega⟩ ⟨by omega, by omega⟩
          have h_99 := ir_1_5 hJ9
          have h_100 : m9 1 5 = (nx F e1 a) := wd_fv (z := 5) 5 rfl hW rfl rfl rfl rfl (by decide) (hz_84) ⟨by omega, by omega⟩ ⟨by omega, by omega⟩
          have kn_101 : Hid (c_24 A 0 = jr) := (hF_26 A 0 (fun h => absurd h.1 (np0 hA rfl))).trans (hg_jr)
          have kn_102 : Hid (c_60 A 0 = jr) := (hF_62 A 0 (fun h => absurd h.1 (np0 hA rfl))).trans (hid kn_101)
          have kn_103 : Hid (c_77 A 0 = jr) := (hF_79 A 0 (fun q => q.elim (fun h => absurd h.1 (np0 hA rfl)) (fun q => q.elim (fun h => absurd h.1 (np0 hA rfl)) (fun h => absurd h.1 (np0 hA rfl))))).trans (hid kn_102)
          have h_104 := ir_p0_0 hJ9 hA
          have h_105 : m9 A 0 = jr := wd_fv (z := 0) 0 rfl hW (ck_A hA) (ck_A hA) rfl rfl (by omega) (hid kn_103) ⟨by omega, by omega⟩ ⟨by omega, by omega⟩
          refine q_aload_n rfl rfl ?_
          refine v_cv rfl rfl rfl rfl (by decide) ⟨⟨rfl, rfl⟩, by decide, rfl⟩ (Nat.le_of_ble_eq_true rfl) (Nat.le_of_ble_eq_true rfl) ?_
          refine q_aload_n rfl rfl ?_
          refine v_gi (z := 5) (v := (-1)) rfl rfl rfl (by decide) rfl rfl (hc_1) ?_
          refine q_iconst rfl ?_
          refine v_ic_ne_f (t := 12) rfl (by decide) (by decide) ?_
          refine q_iconst rfl ?_
          refine q_goto (t := 13) rfl (by decide) ?_
          refine v_zret rfl rfl (by decide) ?_
          refine bk_inl ?_
          refine v_if_eq_f (t := 136) rfl (by decide) (by decide) ?_
          refine q_aload_n rfl rfl ?_
          refine v_cv rfl rfl rfl rfl (by decide) ⟨⟨rfl, rfl⟩, by decide, rfl⟩ (Nat.le_of_ble_eq_true rfl) (Nat.le_of_ble_eq_true rfl) ?_
          refine q_aload_n rfl rfl ?_
          have kn_106 : Hid (c2 41 3 = e1) := (hFc 41 3 (fun q => q.elim (fun h => absurd h.2 (ni rfl)) (fun q => q.elim (fun h => absurd h.2 (ni rfl)) (fun q => q.elim (fun h => absurd h.2 (ni rfl)) (fun q => q.elim (fun h => absurd h.2 (ni rfl)) (fun q => q.elim (fun h => absurd h.2 (ni rfl)) (fun q => q.elim (fun h => absurd h.2 (ni rfl)) (fun q => q.elim (fun h => absurd h.2 (ni rfl)) (fun q => q.elim (fun h => absurd h (nn rfl)) (fun q => q.elim (fun h => absurd h (nn rfl)) (fun h => absurd h (nn rfl)))))))))))).trans (hr_e1)
          have h_107 : -2147483648 ≤ (H (nx F e1 a)) ∧ (H (nx F e1 a)) ≤ 2147483647 := by rw [← hH (nx F e1 a)]; exact ir_43 hI (nx F e1 a)
          have h_108 := hU (nx F e1 a) (by omega) (by omega)
          have h_109 := hb_or (b := H) (e := e1) (r := (nx F e1 a))
          have h_110 := hb_bd (b := H) (e := e1) (r := (nx F e1 a)) (lo := -2147483648) (hi := 2147483647) ⟨by omega, by omega⟩ (by decide)
          refine v_cv rfl rfl rfl rfl (by decide) ⟨⟨rfl, rfl⟩, by decide, rfl⟩ (Nat.le_of_ble_eq_true rfl) (Nat.le_of_ble_eq_true rfl) (f_154 (e1 := e1) (a9 := a) (B := H) (r8 := (nx F e1 a)) (r := (hb H e1 (nx F e1 a))) hI2 ((hid kn_106)) ((hr_a)) (fun j => (hFc 43 j (fun q => q.elim (fun h => absurd h.1 (nn rfl)) (fun q => q.elim (fun h => absurd h.1 (nn rfl)) (fun q => q.elim (fun h => absurd h.1 (nn rfl)) (fun q => q.elim (fun h => absurd h.1 (nn rfl)) (fun q => q.elim (fun h => absurd h.1 (nn rfl)) (fun q => q.elim (fun h => absurd h.1 (nn rfl)) (fun q => q.elim (fun h => absurd h.1 (nn rfl)) (fun q => q.elim (fun h => absurd h (nn rfl)) (fun q => q.elim (fun h => absurd h (nn rfl)) (fun h => absurd h (nn rfl)))))))))))).trans (hH j)) ((nx_tr hU (by omega) (by omega)).trans (rfl)) rfl (fun c_111 hI_112 hF_113 h_114 => ?_))
          refine bk_inl ?_
          refine q_pop rfl rfl ?_
          refine q_aload_n rfl rfl ?_
          refine v_gi (z := 4) (v := (nx F e1 a)) rfl rfl rfl (by decide) rfl rfl (h_114) ?_
          refine q_aload_n rfl rfl ?_
          have kn_115 : Hid (c_111 41 3 = e1) := (hF_113 41 3 (fun h => absurd h.2 (ni rfl))).trans (hid kn_106)
          refine v_gi (z := 3) (v := e1) rfl rfl rfl (by decide) rfl rfl (hid kn_115) ?_
          refine v_ic_ge_f (t := 20) rfl (by decide) (by omega) ?_
          refine q_iconst rfl ?_
          refine q_goto (t := 21) rfl (by decide) ?_
          refine v_zret rfl rfl (by decide) ?_
          refine bk_inl ?_
          refine v_if_eq_f (t := 136) rfl (by decide) (by decide) ?_
          refine q_aload_n rfl rfl ?_
          have h_116 := wv_bd (b := F) (r := (nx F e1 a)) (l := (ln F e1 (nx F e1 a))) (fun j h1 h2 => ⟨(ln_in (e := e1) (a := (nx F e1 a)) h1 (by omega)).1, (ln_in (e := e1) (a := (nx F e1 a)) h1 (by omega)).2.1⟩)
          have h_117 := wr8_4 (b := F) (r := (nx F e1 a)) (l := (ln F e1 (nx F e1 a))) (by omega) (fun j h1 h2 => ⟨(ln_in (e := e1) (a := (nx F e1 a)) h1 (by omega)).1, (ln_in (e := e1) (a := (nx F e1 a)) h1 (by omega)).2.1⟩) (by omega)
          refine v_cv rfl rfl rfl rfl (by decide) ⟨⟨rfl, rfl⟩, by decide, rfl⟩ (Nat.le_of_ble_eq_true rfl) (Nat.le_of_ble_eq_true rfl) (f_157 (e1 := e1) (a9 := (nx F e1 a)) (B := H) (r8 := (nx F e1 a)) (L8 := (ln F e1 (nx F e1 a))) (W8 := (wv F (nx F e1 a) (ln F e1 (nx F e1 a)))) hI_112 ((hid kn_115)) ((h_114)) (fun j => ((hF_113 43 j (fun h => absurd h.1 (nn rfl))).trans (hFc 43 j (fun q => q.elim (fun h => absurd h.1 (nn rfl)) (fun q => q.elim (fun h => absurd h.1 (nn rfl)) (fun q => q.elim (fun h => absurd h.1 (nn rfl)) (fun q => q.elim (fun h => absurd h.1 (nn rfl)) (fun q => q.elim (fun h => absurd h.1 (nn rfl)) (fun q => q.elim (fun h => absurd h.1 (nn rfl)) (fun q => q.elim (fun h => absurd h.1 (nn rfl)) (fun q => q.elim (fun h => absurd h (nn rfl)) (fun q => q.elim (fun h => absurd h (nn rfl)) (fun h => absurd h (nn rfl))))))))))))).trans (hH j)) ((nx_tr hU (by omega) (by omega)).trans ((nx_z (by omega)))) ((ln_tr hU (by omega) (by omega)).trans (rfl)) ((wv_tr hU (by omega) (by omega) (fun j h1 h2 => ⟨(ln_in (e := e1) (a := (nx F e1 a)) h1 (by omega)).1, (ln_in (e := e1) (a := (nx F e1 a)) h1 (by omega)).2.1⟩)).trans (rfl)) (fun c_118 hI_119 hF_120 hz_121 => ?_))
          refine bk_inl ?_
          refine q_istore_n rfl (by decide) ?_
          refine q_iload_n rfl rfl ?_
          refine q_call rfl rfl rfl rfl ?_
          refine q_iload_n rfl rfl ?_
          refine q_ldc_s rfl rfl rfl (by decide) ?_
          refine q_call rfl rfl rfl rfl (s_158_16 ?_)
          refine bk_inl ?_
          refine v_ic_eq_f (t := 36) rfl (by decide) (by omega) ?_
          refine q_iload_n rfl rfl ?_
          refine q_ldc_s rfl rfl rfl (by decide) ?_
          refine q_call rfl rfl rfl rfl (s_158_17 ?_)
          refine bk_inl ?_
          refine v_ic_eq_f (t := 36) rfl (by decide) (by omega) ?_
          refine q_iload_n rfl rfl ?_
          refine q_ldc_s rfl rfl rfl (by decide) ?_
          refine q_call rfl rfl rfl rfl (s_158_18 ?_)
          refine bk_inl ?_
          refine v_ic_eq_f (t := 36) rfl (by decide) (by omega) ?_
          refine q_iload_n rfl rfl ?_
          refine q_ldc_s rfl rfl rfl (by decide) ?_
          refine q_call rfl rfl rfl rfl (s_158_19 ?_)
          refine bk_inl ?_
          refine v_ic_ne_t (t := 40) rfl (by decide) (by omega) ?_
          refine q_iconst rfl ?_
          refine v_zret rfl rfl (by decide) ?_
          refine bk_inl ?_
          refine v_if_ne_f (t := 82) rfl (by decide) (by decide) ?_
          refine q_aload_n rfl rfl ?_
          refine q_iconst rfl ?_
          refine q_aload_n rfl rfl ?_
          refine v_gi (z := 4) (v := (nx F e1 a)) rfl rfl rfl (by decide) rfl rfl (hz_121) ?_
          refine v_cv rfl rfl rfl rfl (by decide) ⟨⟨rfl, rfl⟩, by decide, rfl⟩ (Nat.le_of_ble_eq_true rfl) (Nat.le_of_ble_eq_true rfl) ?_
          refine q_aload_n rfl rfl ?_
          have kn_122 : Hid (c_111 41 5 = (-1)) := (hF_113 41 5 (fun h => absurd h.2 (ni rfl))).trans (hc_1)
          have kn_123 : Hid (c_118 41 5 = (-1)) := (hF_120 41 5 (fun h => absurd h.2 (ni rfl))).trans (hid kn_122)
          refine v_gi (z := 5) (v := (-1)) rfl rfl rfl (by decide) rfl rfl (hid kn_123) ?_
          refine q_iconst rfl ?_
          refine v_ic_eq_t (t := 9) rfl (by decide) (by decide) ?_
          refine q_aload_n rfl rfl ?_
          refine q_iload_n rfl rfl ?_
          refine v_pi (z := 5) rfl rfl rfl (by decide) rfl rfl rfl (by decide) ?_
          refine q_aload_n rfl rfl ?_
          refine q_iload_n rfl rfl ?_
          refine v_pi (z := 6) rfl rfl rfl (by decide) rfl rfl rfl (by decide) ?_
          refine q_vret rfl rfl ?_
          refine bk_inl ?_
          refine q_goto (t := 105) rfl (by decide) ?_
          refine q_aload_n rfl rfl ?_
          refine v_cv rfl rfl rfl rfl (by decide) ⟨⟨rfl, rfl⟩, by decide, rfl⟩ (Nat.le_of_ble_eq_true rfl) (Nat.le_of_ble_eq_true rfl) ?_
          refine q_aload_n rfl rfl ?_
          refine v_gi (z := 5) (v := (nx F e1 a)) rfl rfl rfl (by decide) rfl rfl ((up_n (by decide)).trans (up_e rfl)) ?_
          refine q_iconst rfl ?_
          refine v_ic_ne_t (t := 12) rfl (by decide) (by omega) ?_
          refine q_iconst rfl ?_
          refine v_zret rfl rfl (by decide) ?_
          refine bk_inl ?_
          refine v_if_ne_f (t := 115) rfl (by decide) (by decide) ?_
          refine q_goto (t := 136) rfl (by decide) ?_
          refine Wp_ls [(0, .ref 41), (1, vi a1)] (lsub_cons rfl (lsub_cons rfl lsub_nil)) ?_
          have hI_124 := iw_41_5 (v := (nx F e1 a)) hI_119 ⟨by omega, by omega⟩
          have hI_125 := iw_41_6 (v := 1) hI_124 ⟨by decide, by decide⟩
          have h_126 : (up (up c_118 41 5 (nx F e1 a)) 41 6 1) 41 5 = (nx F e1 a) := ((up_n (by decide)).trans (up_e rfl))
          have h_127 : (up (up c_118 41 5 (nx F e1 a)) 41 6 1) 41 4 = (nx F e1 a) := ((up_n (by decide)).trans ((up_n (by decide)).trans (hz_121)))
          have h_128 : (up (up c_118 41 5 (nx F e1 a)) 41 6 1) 41 6 = 1 := (up_e rfl)
          have kn_129 : Hid (c_111 41 16 = jr) := (hF_113 41 16 (fun h => absurd h.2 (ni rfl))).trans (hr_jr)
          have kn_130 : Hid (c_118 41 16 = jr) := (hF_120 41 16 (fun h => absurd h.2 (ni rfl))).trans (hid kn_129)
          have h_131 : (up (up c_118 41 5 (nx F e1 a)) 41 6 1) 41 16 = jr := ((up_n (by decide)).trans ((up_n (by decide)).trans (hid kn_130)))
          exact K (up (up c_118 41 5 (nx F e1 a)) 41 6 1)  hI_125 (fun a j hm => (up_b (Decidable.or_iff_not_imp_left.mpr (fun h1 h2 => hm (Or.inr (Or.inr (Or.inl ⟨Decidable.not_not.mp h1, h2⟩)))))).trans ((up_b (Decidable.or_iff_not_imp_left.mpr (fun h1 h2 => hm (Or.inr (Or.inl ⟨Decidable.not_not.mp h1, h2⟩))))).trans ((hF_120 a j (fun h => hm (Or.inl h))).trans ((hF_113 a j (fun h => hm (Or.inl h))).trans (hFc a j (fun q => q.elim (fun h => hm (Or.inl h)) (fun q => q.elim (fun h => hm (Or.inr (Or.inl h))) (fun q => q.elim (fun h => hm (Or.inr (Or.inr (Or.inl h)))) (fun q => q.elim (fun h => hm (Or.inr (Or.inr (Or.inr (Or.inl h))))) (fun q => q.elim (fun h => hm (Or.inr (Or.inr (Or.inr (Or.inr (Or.inl h)))))) (fun q => q.elim (fun h => hm (Or.inr (Or.inr (Or.inr (Or.inr (Or.inr (Or.inl h))))))) (fun q => q.elim (fun h => hm (Or.inr (Or.inr (Or.inr (Or.inr (Or.inr (Or.inr (Or.inl h)))))))) (fun q => q.elim (fun h => hm (Or.inr (Or.inr (Or.inr (Or.inr (Or.inr (Or.inr (Or.inr (Or.inl h))))))))) (fun q => q.elim (fun h => hm (Or.inr (Or.inr (Or.inr (Or.inr (Or.inr (Or.inr (Or.inr (Or.inr (Or.inl h)))))))))) (fun h => hm (Or.inr (Or.inr (Or.inr (Or.inr (Or.inr (Or.inr (Or.inr (Or.inr (Or.inr h)))))))))))))))))))))))) (by unfold Rt; omega) (by omega)
        · refine v_ic_gt_f (t := 85) rfl (by decide) (by omega) ?_
          refine q_aload_n rfl rfl ?_
          refine v_cv rfl rfl rfl rfl (by decide) ⟨⟨rfl, rfl⟩, by decide, rfl⟩ (Nat.le_of_ble_eq_true rfl) (Nat.le_of_ble_eq_true rfl) ?_
          refine q_aload_n rfl rfl ?_
          refine v_cv rfl rfl rfl rfl (by decide) ⟨⟨rfl, rfl⟩, by decide, rfl⟩ (Nat.le_of_ble_eq_true rfl) (Nat.le_of_ble_eq_true rfl) ?_
          refine q_aload_n rfl rfl ?_
          refine v_gi (z := 4) (v := 1) rfl rfl rfl (by decide) rfl rfl (hz_83) ?_
          refine v_if_ne_t (t := 11) rfl (by decide) (by decide) ?_
          refine q_iconst rfl ?_
          refine v_zret rfl rfl (by decide) ?_
          refine bk_inl ?_
          refine v_if_eq_t (t := 22) rfl (by decide) (by decide) ?_
          refine q_iconst rfl ?_
          refine v_zret rfl rfl (by decide) ?_
          refine bk_inl ?_
          refine v_if_eq_t (t := 85) rfl (by decide) (by decide) ?_
          refine q_vret rfl rfl ?_
          intro hE_132
          have hW : Wd P Q P P c_77 = Wd P Q P P m9 := (Prod.mk.inj (Prod.mk.inj hE_132).2).1
          have h_133 := ir_1_4 hJ9
          have h_134 : m9 1 4 = 1 := wd_fv (z := 4) 4 rfl hW rfl rfl rfl rfl (by decide) (hz_83) ⟨by omega, by omega⟩ ⟨by omega, by omega⟩
          have h_135 := ir_1_2 hJ9
          have h_136 : m9 1 2 = (nx F e1 a) := wd_fv (z := 2) 2 rfl hW rfl rfl rfl rfl (by decide) (hz_82) ⟨by omega, by omega⟩ ⟨by omega, by omega⟩
          have h_137 := ir_1_5 hJ9
          have h_138 : m9 1 5 = (nx F e1 a) := wd_fv (z := 5) 5 rfl hW rfl rfl rfl rfl (by decide) (hz_84) ⟨by omega, by omega⟩ ⟨by omega, by omega⟩
          have kn_139 : Hid (c_24 A 0 = jr) := (hF_26 A 0 (fun h => absurd h.1 (np0 hA rfl))).trans (hg_jr)
          have kn_140 : Hid (c_60 A 0 = jr) := (hF_62 A 0 (fun h => absurd h.1 (np0 hA rfl))).trans (hid kn_139)
          have kn_141 : Hid (c_77 A 0 = jr) := (hF_79 A 0 (fun q => q.elim (fun h => absurd h.1 (np0 hA rfl)) (fun q => q.elim (fun h => absurd h.1 (np0 hA rfl)) (fun h => absurd h.1 (np0 hA rfl))))).trans (hid kn_140)
          have h_142 := ir_p0_0 hJ9 hA
          have h_143 : m9 A 0 = jr := wd_fv (z := 0) 0 rfl hW (ck_A hA) (ck_A hA) rfl rfl (by omega) (hid kn_141) ⟨by omega, by omega⟩ ⟨by omega, by omega⟩
          refine q_aload_n rfl rfl ?_
          refine v_cv rfl rfl rfl rfl (by decide) ⟨⟨rfl, rfl⟩, by decide, rfl⟩ (Nat.le_of_ble_eq_true rfl) (Nat.le_of_ble_eq_true rfl) ?_
          refine q_aload_n rfl rfl ?_
          refine v_gi (z := 5) (v := (-1)) rfl rfl rfl (by decide) rfl rfl (hc_1) ?_
          refine q_iconst rfl ?_
          refine v_ic_ne_f (t := 12) rfl (by decide) (by decide) ?_
          refine q_iconst rfl ?_
          refine q_goto (t := 13) rfl (by decide) ?_
          refine v_zret rfl rfl (by decide) ?_
          refine bk_inl ?_
          refine v_if_eq_f (t := 136) rfl (by decide) (by decide) ?_
          refine q_aload_n rfl rfl ?_
          refine v_cv rfl rfl rfl rfl (by decide) ⟨⟨rfl, rfl⟩, by decide, rfl⟩ (Nat.le_of_ble_eq_true rfl) (Nat.le_of_ble_eq_true rfl) ?_
          refine q_aload_n rfl rfl ?_
          have kn_144 : Hid (c2 41 3 = e1) := (hFc 41 3 (fun q => q.elim (fun h => absurd h.2 (ni rfl)) (fun q => q.elim (fun h => absurd h.2 (ni rfl)) (fun q => q.elim (fun h => absurd h.2 (ni rfl)) (fun q => q.elim (fun h => absurd h.2 (ni rfl)) (fun q => q.elim (fun h => absurd h.2 (ni rfl)) (fun q => q.elim (fun h => absurd h.2 (ni rfl)) (fun q => q.elim (fun h => absurd h.2 (ni rfl)) (fun q => q.elim (fun h => absurd h (nn rfl)) (fun q => q.elim (fun h => absurd h (nn rfl)) (fun h => absurd h (nn rfl)))))))))))).trans (hr_e1)
          have h_145 : -2147483648 ≤ (H (nx F e1 a)) ∧ (H (nx F e1 a)) ≤ 2147483647 := by rw [← hH (nx F e1 a)]; exact ir_43 hI (nx F e1 a)
          have h_146 := hU (nx F e1 a) (by omega) (by omega)
          have h_147 := hb_or (b := H) (e := e1) (r := (nx F e1 a))
          have h_148 := hb_bd (b := H) (e := e1) (r := (nx F e1 a)) (lo := -2147483648) (hi := 2147483647) ⟨by omega, by omega⟩ (by decide)
          refine v_cv rfl rfl rfl rfl (by decide) ⟨⟨rfl, rfl⟩, by decide, rfl⟩ (Nat.le_of_ble_eq_true rfl) (Nat.le_of_ble_eq_true rfl) (f_154 (e1 := e1) (a9 := a) (B := H) (r8 := (nx F e1 a)) (r := (hb H e1 (nx F e1 a))) hI2 ((hid kn_144)) ((hr_a)) (fun j => (hFc 43 j (fun q => q.elim (fun h => absurd h.1 (nn rfl)) (fun q => q.elim (fun h => absurd h.1 (nn rfl)) (fun q => q.elim (fun h => absurd h.1 (nn rfl)) (fun q => q.elim (fun h => absurd h.1 (nn rfl)) (fun q => q.elim (fun h => absurd h.1 (nn rfl)) (fun q => q.elim (fun h => absurd h.1 (nn rfl)) (fun q => q.elim (fun h => absurd h.1 (nn rfl)) (fun q => q.elim (fun h => absurd h (nn rfl)) (fun q => q.elim (fun h => absurd h (nn rfl)) (fun h => absurd h (nn rfl)))))))))))).trans (hH j)) ((nx_tr hU (by omega) (by omega)).trans (rfl)) rfl (fun c_149 hI_150 hF_151 h_152 => ?_))
          refine bk_inl ?_
          refine q_pop rfl rfl ?_
          refine q_aload_n rfl rfl ?_
          refine v_gi (z := 4) (v := (nx F e1 a)) rfl rfl rfl (by decide) rfl rfl (h_152) ?_
          refine q_aload_n rfl rfl ?_
          have kn_153 : Hid (c_149 41 3 = e1) := (hF_151 41 3 (fun h => absurd h.2 (ni rfl))).trans (hid kn_144)
          refine v_gi (z := 3) (v := e1) rfl rfl rfl (by decide) rfl rfl (hid kn_153) ?_
          refine v_ic_ge_f (t := 20) rfl (by decide) (by omega) ?_
          refine q_iconst rfl ?_
          refine q_goto (t := 21) rfl (by decide) ?_
          refine v_zret rfl rfl (by decide) ?_
          refine bk_inl ?_
          refine v_if_eq_f (t := 136) rfl (by decide) (by decide) ?_
          refine q_aload_n rfl rfl ?_
          have h_154 := wv_bd (b := F) (r := (nx F e1 a)) (l := (ln F e1 (nx F e1 a))) (fun j h1 h2 => ⟨(ln_in (e := e1) (a := (nx F e1 a)) h1 (by omega)).1, (ln_in (e := e1) (a := (nx F e1 a)) h1 (by omega)).2.1⟩)
          have h_155 := wr8_4 (b := F) (r := (nx F e1 a)) (l := (ln F e1 (nx F e1 a))) (by omega) (fun j h1 h2 => ⟨(ln_in (e := e1) (a := (nx F e1 a)) h1 (by omega)).1, (ln_in (e := e1) (a := (nx F e1 a)) h1 (by omega)).2.1⟩) (by omega)
          refine v_cv rfl rfl rfl rfl (by decide) ⟨⟨rfl, rfl⟩, by decide, rfl⟩ (Nat.le_of_ble_eq_true rfl) (Nat.le_of_ble_eq_true rfl) (f_157 (e1 := e1) (a9 := (nx F e1 a)) (B := H) (r8 := (nx F e1 a)) (L8 := (ln F e1 (nx F e1 a))) (W8 := (wv F (nx F e1 a) (ln F e1 (nx F e1 a)))) hI_150 ((hid kn_153)) ((h_152)) (fun j => ((hF_151 43 j (fun h => absurd h.1 (nn rfl))).trans (hFc 43 j (fun q => q.elim (fun h => absurd h.1 (nn rfl)) (fun q => q.elim (fun h => absurd h.1 (nn rfl)) (fun q => q.elim (fun h => absurd h.1 (nn rfl)) (fun q => q.elim (fun h => absurd h.1 (nn rfl)) (fun q => q.elim (fun h => absurd h.1 (nn rfl)) (fun q => q.elim (fun h => absurd h.1 (nn rfl)) (fun q => q.elim (fun h => absurd h.1 (nn rfl)) (fun q => q.elim (fun h => absurd h (nn rfl)) (fun q => q.elim (fun h => absurd h (nn rfl)) (fun h => absurd h (nn rfl))))))))))))).trans (hH j)) ((nx_tr hU (by omega) (by omega)).trans ((nx_z (by omega)))) ((ln_tr hU (by omega) (by omega)).trans (rfl)) ((wv_tr hU (by omega) (by omega) (fun j h1 h2 => ⟨(ln_in (e := e1) (a := (nx F e1 a)) h1 (by omega)).1, (ln_in (e := e1) (a := (nx F e1 a)) h1 (by omega)).2.1⟩)).trans (rfl)) (fun c_156 hI_157 hF_158 hz_159 => ?_))
          refine bk_inl ?_
          refine q_istore_n rfl (by decide) ?_
          refine q_iload_n rfl rfl ?_
          refine q_call rfl rfl rfl rfl ?_
          refine q_iload_n rfl rfl ?_
          refine q_ldc_s rfl rfl rfl (by decide) ?_
          refine q_call rfl rfl rfl rfl (s_158_16 ?_)
          refine bk_inl ?_
          refine v_ic_eq_f (t := 36) rfl (by decide) (by omega) ?_
          refine q_iload_n rfl rfl ?_
          refine q_ldc_s rfl rfl rfl (by decide) ?_
          refine q_call rfl rfl rfl rfl (s_158_17 ?_)
          refine bk_inl ?_
          refine v_ic_eq_f (t := 36) rfl (by decide) (by omega) ?_
          refine q_iload_n rfl rfl ?_
          refine q_ldc_s rfl rfl rfl (by decide) ?_
          refine q_call rfl rfl rfl rfl (s_158_18 ?_)
          refine bk_inl ?_
          refine v_ic_eq_f (t := 36) rfl (by decide) (by omega) ?_
          refine q_iload_n rfl rfl ?_
          refine q_ldc_s rfl rfl rfl (by decide) ?_
          refine q_call rfl rfl rfl rfl (s_158_19 ?_)
          refine bk_inl ?_
          refine v_ic_ne_t (t := 40) rfl (by decide) (by omega) ?_
          refine q_iconst rfl ?_
          refine v_zret rfl rfl (by decide) ?_
          refine bk_inl ?_
          refine v_if_ne_f (t := 82) rfl (by decide) (by decide) ?_
          refine q_aload_n rfl rfl ?_
          refine q_iconst rfl ?_
          refine q_aload_n rfl rfl ?_
          refine v_gi (z := 4) (v := (nx F e1 a)) rfl rfl rfl (by decide) rfl rfl (hz_159) ?_
          refine v_cv rfl rfl rfl rfl (by decide) ⟨⟨rfl, rfl⟩, by decide, rfl⟩ (Nat.le_of_ble_eq_true rfl) (Nat.le_of_ble_eq_true rfl) ?_
          refine q_aload_n rfl rfl ?_
          have kn_160 : Hid (c_149 41 5 = (-1)) := (hF_151 41 5 (fun h => absurd h.2 (ni rfl))).trans (hc_1)
          have kn_161 : Hid (c_156 41 5 = (-1)) := (hF_158 41 5 (fun h => absurd h.2 (ni rfl))).trans (hid kn_160)
          refine v_gi (z := 5) (v := (-1)) rfl rfl rfl (by decide) rfl rfl (hid kn_161) ?_
          refine q_iconst rfl ?_
          refine v_ic_eq_t (t := 9) rfl (by decide) (by decide) ?_
          refine q_aload_n rfl rfl ?_
          refine q_iload_n rfl rfl ?_
          refine v_pi (z := 5) rfl rfl rfl (by decide) rfl rfl rfl (by decide) ?_
          refine q_aload_n rfl rfl ?_
          refine q_iload_n rfl rfl ?_
          refine v_pi (z := 6) rfl rfl rfl (by decide) rfl rfl rfl (by decide) ?_
          refine q_vret rfl rfl ?_
          refine bk_inl ?_
          refine q_goto (t := 105) rfl (by decide) ?_
          refine q_aload_n rfl rfl ?_
          refine v_cv rfl rfl rfl rfl (by decide) ⟨⟨rfl, rfl⟩, by decide, rfl⟩ (Nat.le_of_ble_eq_true rfl) (Nat.le_of_ble_eq_true rfl) ?_
          refine q_aload_n rfl rfl ?_
          refine v_gi (z := 5) (v := (nx F e1 a)) rfl rfl rfl (by decide) rfl rfl ((up_n (by decide)).trans (up_e rfl)) ?_
          refine q_iconst rfl ?_
          refine v_ic_ne_t (t := 12) rfl (by decide) (by omega) ?_
          refine q_iconst rfl ?_
          refine v_zret rfl rfl (by decide) ?_
          refine bk_inl ?_
          refine v_if_ne_f (t := 115) rfl (by decide) (by decide) ?_
          refine q_goto (t := 136) rfl (by decide) ?_
          refine Wp_ls [(0, .ref 41), (1, vi a1)] (lsub_cons rfl (lsub_cons rfl lsub_nil)) ?_
          have hI_162 := iw_41_5 (v := (nx F e1 a)) hI_157 ⟨by omega, by omega⟩
          have hI_163 := iw_41_6 (v := 1) hI_162 ⟨by decide, by decide⟩
          have h_164 : (up (up c_156 41 5 (nx F e1 a)) 41 6 1) 41 5 = (nx F e1 a) := ((up_n (by decide)).trans (up_e rfl))
          have h_165 : (up (up c_156 41 5 (nx F e1 a)) 41 6 1) 41 4 = (nx F e1 a) := ((up_n (by decide)).trans ((up_n (by decide)).trans (hz_159)))
          have h_166 : (up (up c_156 41 5 (nx F e1 a)) 41 6 1) 41 6 = 1 := (up_e rfl)
          have kn_167 : Hid (c_149 41 16 = jr) := (hF_151 41 16 (fun h => absurd h.2 (ni rfl))).trans (hr_jr)
          have kn_168 : Hid (c_156 41 16 = jr) := (hF_158 41 16 (fun h => absurd h.2 (ni rfl))).trans (hid kn_167)
          have h_169 : (up (up c_156 41 5 (nx F e1 a)) 41 6 1) 41 16 = jr := ((up_n (by decide)).trans ((up_n (by decide)).trans (hid kn_168)))
          exact K (up (up c_156 41 5 (nx F e1 a)) 41 6 1)  hI_163 (fun a j hm => (up_b (Decidable.or_iff_not_imp_left.mpr (fun h1 h2 => hm (Or.inr (Or.inr (Or.inl ⟨Decidable.not_not.mp h1, h2⟩)))))).trans ((up_b (Decidable.or_iff_not_imp_left.mpr (fun h1 h2 => hm (Or.inr (Or.inl ⟨Decidable.not_not.mp h1, h2⟩))))).trans ((hF_158 a j (fun h => hm (Or.inl h))).trans ((hF_151 a j (fun h => hm (Or.inl h))).trans (hFc a j (fun q => q.elim (fun h => hm (Or.inl h)) (fun q => q.elim (fun h => hm (Or.inr (Or.inl h))) (fun q => q.elim (fun h => hm (Or.inr (Or.inr (Or.inl h)))) (fun q => q.elim (fun h => hm (Or.inr (Or.inr (Or.inr (Or.inl h))))) (fun q => q.elim (fun h => hm (Or.inr (Or.inr (Or.inr (Or.inr (Or.inl h)))))) (fun q => q.elim (fun h => hm (Or.inr (Or.inr (Or.inr (Or.inr (Or.inr (Or.inl h))))))) (fun q => q.elim (fun h => hm (Or.inr (Or.inr (Or.inr (Or.inr (Or.inr (Or.inr (Or.inl h)))))))) (fun q => q.elim (fun h => hm (Or.inr (Or.inr (Or.inr (Or.inr (Or.inr (Or.inr (Or.inr (Or.inl h))))))))) (fun q => q.elim (fun h => hm (Or.inr (Or.inr (Or.inr (Or.inr (Or.inr (Or.inr (Or.inr (Or.inr (Or.inl h)))))))))) (fun h => hm (Or.inr (Or.inr (Or.inr (Or.inr (Or.inr (Or.inr (Or.inr (Or.inr (Or.inr h)))))))))))))))))))))))) (by unfold Rt; omega) (by omega)
      · skip
        refine bk_inl ?_
        refine q_istore rfl (by decide) ?_
        refine q_iload rfl rfl ?_
        refine q_iconst rfl ?_
        refine v_ic_eq_f (t := 59) rfl (by decide) (by omega) ?_
        refine q_iload_n rfl rfl ?_
        refine v_bip rfl (by decide) ?_
        by_cases h_170 : v = 60
        · refine v_ic_eq_t (t := 53) rfl (by decide) (by omega) ?_
          refine q_aload_n rfl rfl ?_
          refine q_iconst rfl ?_
          refine q_iload_n rfl rfl ?_
          refine v_cv rfl rfl rfl rfl (by decide) ⟨⟨rfl, rfl⟩, by decide, rfl⟩ (Nat.le_of_ble_eq_true rfl) (Nat.le_of_ble_eq_true rfl) ?_
          refine q_aload_n rfl rfl ?_
          refine v_gi (z := 4) (v := 0) rfl rfl rfl (by decide) rfl rfl (hz_91) ?_
          refine v_if_ne_f (t := 17) rfl (by decide) (by decide) ?_
          refine q_aload_n rfl rfl ?_
          refine q_iload_n rfl rfl ?_
          refine v_pi (z := 4) rfl rfl rfl (by decide) rfl rfl rfl (by decide) ?_
          refine q_aload_n rfl rfl ?_
          refine q_iload_n rfl rfl ?_
          refine v_pi (z := 5) rfl rfl rfl (by decide) rfl rfl rfl (by decide) ?_
          refine q_vret rfl rfl ?_
          refine bk_inl ?_
          refine q_aload_n rfl rfl ?_
          refine v_cv rfl rfl rfl rfl (by decide) ⟨⟨rfl, rfl⟩, by decide, rfl⟩ (Nat.le_of_ble_eq_true rfl) (Nat.le_of_ble_eq_true rfl) ?_
          refine q_aload_n rfl rfl ?_
          refine v_gi (z := 4) (v := 3) rfl rfl rfl (by decide) rfl rfl ((up_n (by decide)).trans (up_e rfl)) ?_
          refine v_if_ne_t (t := 11) rfl (by decide) (by decide) ?_
          refine q_iconst rfl ?_
          refine v_zret rfl rfl (by decide) ?_
          refine bk_inl ?_
          refine v_if_eq_t (t := 73) rfl (by decide) (by decide) ?_
          refine q_aload_n rfl rfl ?_
          refine q_ldc_s rfl rfl rfl (by decide) ?_
          refine v_cv rfl rfl rfl rfl (by decide) ⟨⟨rfl, rfl⟩, by decide, rfl⟩ (Nat.le_of_ble_eq_true rfl) (Nat.le_of_ble_eq_true rfl) ?_
          refine q_aload_n rfl rfl ?_
          refine v_cv rfl rfl rfl rfl (by decide) ⟨⟨rfl, rfl⟩, by decide, rfl⟩ (Nat.le_of_ble_eq_true rfl) (Nat.le_of_ble_eq_true rfl) ?_
          refine q_aload_n rfl rfl ?_
          refine v_gi (z := 4) (v := 3) rfl rfl rfl (by decide) rfl rfl ((up_n (by decide)).trans (up_e rfl)) ?_
          refine v_if_ne_t (t := 11) rfl (by decide) (by decide) ?_
          refine q_iconst rfl ?_
          refine v_zret rfl rfl (by decide) ?_
          refine bk_inl ?_
          refine v_if_eq_t (t := 25) rfl (by decide) (by decide) ?_
          refine q_vret rfl rfl ?_
          refine bk_inl ?_
          refine v_iinc (v := v + 1) rfl rfl (by decide) (by omega) ?_
          refine q_goto (t := 6) rfl (by decide) ?_
          refine q_iload_n rfl rfl ?_
          refine v_bip rfl (by decide) ?_
          refine v_ic_gt_t (t := 85) rfl (by decide) (by omega) ?_
          refine q_vret rfl rfl ?_
          have hI_171 := iw_1_4 (v := 3) hI_86 ⟨by decide, by decide⟩
          have hI_172 := iw_1_5 (v := (nx F e1 a)) hI_171 ⟨by omega, by omega⟩
          intro hE_173
          have hW : Wd P Q P P (up (up c_85 1 4 3) 1 5 (nx F e1 a)) = Wd P Q P P m9 := (Prod.mk.inj (Prod.mk.inj hE_173).2).1
          have h_174 := ir_1_4 hJ9
          have h_175 : m9 1 4 = 3 := wd_fv (z := 4) 4 rfl hW rfl rfl rfl rfl (by decide) ((up_n (by decide)).trans (up_e rfl)) ⟨by omega, by omega⟩ ⟨by omega, by omega⟩
          have h_176 := ir_1_2 hJ9
          have h_177 : m9 1 2 = (ln F e1 (nx F e1 a)) := wd_fv (z := 2) 2 rfl hW rfl rfl rfl rfl (by decide) ((up_n (by decide)).trans ((up_n (by decide)).trans (hz_90))) ⟨by omega, by omega⟩ ⟨by omega, by omega⟩
          have h_178 := ir_1_5 hJ9
          have h_179 : m9 1 5 = (nx F e1 a) := wd_fv (z := 5) 5 rfl hW rfl rfl rfl rfl (by decide) (up_e rfl) ⟨by omega, by omega⟩ ⟨by omega, by omega⟩
          have kn_180 : Hid (c_24 A 0 = jr) := (hF_26 A 0 (fun h => absurd h.1 (np0 hA rfl))).trans (hg_jr)
          have kn_181 : Hid (c_60 A 0 = jr) := (hF_62 A 0 (fun h => absurd h.1 (np0 hA rfl))).trans (hid kn_180)
          have kn_182 : Hid (c_85 A 0 = jr) := (hF_87 A 0 (fun q => q.elim (fun h => absurd h.1 (np0 hA rfl)) (fun q => q.elim (fun h => absurd h.1 (np0 hA rfl)) (fun h => absurd h.1 (np0 hA rfl))))).trans (hid kn_181)
          have h_183 := ir_p0_0 hJ9 hA
          have h_184 : m9 A 0 = jr := wd_fv (z := 0) 0 rfl hW (ck_A hA) (ck_A hA) rfl rfl (by omega) ((up_c (np0 hA rfl)).trans ((up_c (np0 hA rfl)).trans (hid kn_182))) ⟨by omega, by omega⟩ ⟨by omega, by omega⟩
          refine q_aload_n rfl rfl ?_
          refine v_cv rfl rfl rfl rfl (by decide) ⟨⟨rfl, rfl⟩, by decide, rfl⟩ (Nat.le_of_ble_eq_true rfl) (Nat.le_of_ble_eq_true rfl) ?_
          refine q_aload_n rfl rfl ?_
          refine v_gi (z := 5) (v := (-1)) rfl rfl rfl (by decide) rfl rfl (hc_1) ?_
          refine q_iconst rfl ?_
          refine v_ic_ne_f (t := 12) rfl (by decide) (by decide) ?_
          refine q_iconst rfl ?_
          refine q_goto (t := 13) rfl (by decide) ?_
          refine v_zret rfl rfl (by decide) ?_
          refine bk_inl ?_
          refine v_if_eq_f (t := 136) rfl (by decide) (by decide) ?_
          refine q_aload_n rfl rfl ?_
          refine v_cv rfl rfl rfl rfl (by decide) ⟨⟨rfl, rfl⟩, by decide, rfl⟩ (Nat.le_of_ble_eq_true rfl) (Nat.le_of_ble_eq_true rfl) ?_
          refine q_aload_n rfl rfl ?_
          have kn_185 : Hid (c2 41 3 = e1) := (hFc 41 3 (fun q => q.elim (fun h => absurd h.2 (ni rfl)) (fun q => q.elim (fun h => absurd h.2 (ni rfl)) (fun q => q.elim (fun h => absurd h.2 (ni rfl)) (fun q => q.elim (fun h => absurd h.2 (ni rfl)) (fun q => q.elim (fun h => absurd h.2 (ni rfl)) (fun q => q.elim (fun h => absurd h.2 (ni rfl)) (fun q => q.elim (fun h => absurd h.2 (ni rfl)) (fun q => q.elim (fun h => absurd h (nn rfl)) (fun q => q.elim (fun h => absurd h (nn rfl)) (fun h => absurd h (nn rfl)))))))))))).trans (hr_e1)
          have h_186 : -2147483648 ≤ (H (nx F e1 a)) ∧ (H (nx F e1 a)) ≤ 2147483647 := by rw [← hH (nx F e1 a)]; exact ir_43 hI (nx F e1 a)
          have h_187 := hU (nx F e1 a) (by omega) (by omega)
          have h_188 := hb_or (b := H) (e := e1) (r := (nx F e1 a))
          have h_189 := hb_bd (b := H) (e := e1) (r := (nx F e1 a)) (lo := -2147483648) (hi := 2147483647) ⟨by omega, by omega⟩ (by decide)
          refine v_cv rfl rfl rfl rfl (by decide) ⟨⟨rfl, rfl⟩, by decide, rfl⟩ (Nat.le_of_ble_eq_true rfl) (Nat.le_of_ble_eq_true rfl) (f_154 (e1 := e1) (a9 := a) (B := H) (r8 := (nx F e1 a)) (r := (hb H e1 (nx F e1 a))) hI2 ((hid kn_185)) ((hr_a)) (fun j => (hFc 43 j (fun q => q.elim (fun h => absurd h.1 (nn rfl)) (fun q => q.elim (fun h => absurd h.1 (nn rfl)) (fun q => q.elim (fun h => absurd h.1 (nn rfl)) (fun q => q.elim (fun h => absurd h.1 (nn rfl)) (fun q => q.elim (fun h => absurd h.1 (nn rfl)) (fun q => q.elim (fun h => absurd h.1 (nn rfl)) (fun q => q.elim (fun h => absurd h.1 (nn rfl)) (fun q => q.elim (fun h => absurd h (nn rfl)) (fun q => q.elim (fun h => absurd h (nn rfl)) (fun h => absurd h (nn rfl)))))))))))).trans (hH j)) ((nx_tr hU (by omega) (by omega)).trans (rfl)) rfl (fun c_190 hI_191 hF_192 h_193 => ?_))
          refine bk_inl ?_
          refine q_pop rfl rfl ?_
          refine q_aload_n rfl rfl ?_
          refine v_gi (z := 4) (v := (nx F e1 a)) rfl rfl rfl (by decide) rfl rfl (h_193) ?_
          refine q_aload_n rfl rfl ?_
          have kn_194 : Hid (c_190 41 3 = e1) := (hF_192 41 3 (fun h => absurd h.2 (ni rfl))).trans (hid kn_185)
          refine v_gi (z := 3) (v := e1) rfl rfl rfl (by decide) rfl rfl (hid kn_194) ?_
          refine v_ic_ge_f (t := 20) rfl (by decide) (by omega) ?_
          refine q_iconst rfl ?_
          refine q_goto (t := 21) rfl (by decide) ?_
          refine v_zret rfl rfl (by decide) ?_
          refine bk_inl ?_
          refine v_if_eq_f (t := 136) rfl (by decide) (by decide) ?_
          refine q_aload_n rfl rfl ?_
          have h_195 := wv_bd (b := F) (r := (nx F e1 a)) (l := (ln F e1 (nx F e1 a))) (fun j h1 h2 => ⟨(ln_in (e := e1) (a := (nx F e1 a)) h1 (by omega)).1, (ln_in (e := e1) (a := (nx F e1 a)) h1 (by omega)).2.1⟩)
          have h_196 := wr8 (b := F) (r := (nx F e1 a)) (l := (ln F e1 (nx F e1 a))) (by omega) (fun j h1 h2 => ⟨(ln_in (e := e1) (a := (nx F e1 a)) h1 (by omega)).1, (ln_in (e := e1) (a := (nx F e1 a)) h1 (by omega)).2.1⟩)
          refine v_cv rfl rfl rfl rfl (by decide) ⟨⟨rfl, rfl⟩, by decide, rfl⟩ (Nat.le_of_ble_eq_true rfl) (Nat.le_of_ble_eq_true rfl) (f_157 (e1 := e1) (a9 := (nx F e1 a)) (B := H) (r8 := (nx F e1 a)) (L8 := (ln F e1 (nx F e1 a))) (W8 := (wv F (nx F e1 a) (ln F e1 (nx F e1 a)))) hI_191 ((hid kn_194)) ((h_193)) (fun j => ((hF_192 43 j (fun h => absurd h.1 (nn rfl))).trans (hFc 43 j (fun q => q.elim (fun h => absurd h.1 (nn rfl)) (fun q => q.elim (fun h => absurd h.1 (nn rfl)) (fun q => q.elim (fun h => absurd h.1 (nn rfl)) (fun q => q.elim (fun h => absurd h.1 (nn rfl)) (fun q => q.elim (fun h => absurd h.1 (nn rfl)) (fun q => q.elim (fun h => absurd h.1 (nn rfl)) (fun q => q.elim (fun h => absurd h.1 (nn rfl)) (fun q => q.elim (fun h => absurd h (nn rfl)) (fun q => q.elim (fun h => absurd h (nn rfl)) (fun h => absurd h (nn rfl))))))))))))).trans (hH j)) ((nx_tr hU (by omega) (by omega)).trans ((nx_z (by omega)))) ((ln_tr hU (by omega) (by omega)).trans (rfl)) ((wv_tr hU (by omega) (by omega) (fun j h1 h2 => ⟨(ln_in (e := e1) (a := (nx F e1 a)) h1 (by omega)).1, (ln_in (e := e1) (a := (nx F e1 a)) h1 (by omega)).2.1⟩)).trans (rfl)) (fun c_197 hI_198 hF_199 hz_200 => ?_))
          refine bk_inl ?_
          refine q_istore_n rfl (by decide) ?_
          refine q_iload_n rfl rfl ?_
          refine q_call rfl rfl rfl rfl ?_
          refine q_iload_n rfl rfl ?_
          refine q_ldc_s rfl rfl rfl (by decide) ?_
          refine q_call rfl rfl rfl rfl (s_158_16 ?_)
          refine bk_inl ?_
          by_cases h_201 : (wv F (nx F e1 a) (ln F e1 (nx F e1 a))) = 10290
          · refine v_ic_eq_t (t := 36) rfl (by decide) (by omega) ?_
            refine q_iconst rfl ?_
            refine q_goto (t := 41) rfl (by decide) ?_
            refine v_zret rfl rfl (by decide) ?_
            refine bk_inl ?_
            refine v_if_ne_t (t := 82) rfl (by decide) (by decide) ?_
            refine q_iload_n rfl rfl ?_
            refine v_bip rfl (by decide) ?_
            refine v_ic_eq_t (t := 96) rfl (by decide) (by omega) ?_
            refine q_aload_n rfl rfl ?_
            refine q_iconst rfl ?_
            refine q_aload_n rfl rfl ?_
            refine v_gi (z := 4) (v := (nx F e1 a)) rfl rfl rfl (by decide) rfl rfl (hz_200) ?_
            refine v_cv rfl rfl rfl rfl (by decide) ⟨⟨rfl, rfl⟩, by decide, rfl⟩ (Nat.le_of_ble_eq_true rfl) (Nat.le_of_ble_eq_true rfl) ?_
            refine q_aload_n rfl rfl ?_
            have kn_202 : Hid (c_190 41 5 = (-1)) := (hF_192 41 5 (fun h => absurd h.2 (ni rfl))).trans (hc_1)
            have kn_203 : Hid (c_197 41 5 = (-1)) := (hF_199 41 5 (fun h => absurd h.2 (ni rfl))).trans (hid kn_202)
            refine v_gi (z := 5) (v := (-1)) rfl rfl rfl (by decide) rfl rfl (hid kn_203) ?_
            refine q_iconst rfl ?_
            refine v_ic_eq_t (t := 9) rfl (by decide) (by decide) ?_
            refine q_aload_n rfl rfl ?_
            refine q_iload_n rfl rfl ?_
            refine v_pi (z := 5) rfl rfl rfl (by decide) rfl rfl rfl (by decide) ?_
            refine q_aload_n rfl rfl ?_
            refine q_iload_n rfl rfl ?_
            refine v_pi (z := 6) rfl rfl rfl (by decide) rfl rfl rfl (by decide) ?_
            refine q_vret rfl rfl ?_
            refine bk_inl ?_
            refine q_aload_n rfl rfl ?_
            refine v_cv rfl rfl rfl rfl (by decide) ⟨⟨rfl, rfl⟩, by decide, rfl⟩ (Nat.le_of_ble_eq_true rfl) (Nat.le_of_ble_eq_true rfl) ?_
            refine q_aload_n rfl rfl ?_
            refine v_gi (z := 5) (v := (nx F e1 a)) rfl rfl rfl (by decide) rfl rfl ((up_n (by decide)).trans (up_e rfl)) ?_
            refine q_iconst rfl ?_
            refine v_ic_ne_t (t := 12) rfl (by decide) (by omega) ?_
            refine q_iconst rfl ?_
            refine v_zret rfl rfl (by decide) ?_
            refine bk_inl ?_
            refine v_if_ne_f (t := 115) rfl (by decide) (by decide) ?_
            refine q_goto (t := 136) rfl (by decide) ?_
            refine Wp_ls [(0, .ref 41), (1, vi a1)] (lsub_cons rfl (lsub_cons rfl lsub_nil)) ?_
            have hI_204 := iw_41_5 (v := (nx F e1 a)) hI_198 ⟨by omega, by omega⟩
            have hI_205 := iw_41_6 (v := 3) hI_204 ⟨by decide, by decide⟩
            have h_206 : (up (up c_197 41 5 (nx F e1 a)) 41 6 3) 41 5 = (nx F e1 a) := ((up_n (by decide)).trans (up_e rfl))
            have h_207 : (up (up c_197 41 5 (nx F e1 a)) 41 6 3) 41 4 = (nx F e1 a) := ((up_n (by decide)).trans ((up_n (by decide)).trans (hz_200)))
            have h_208 : (up (up c_197 41 5 (nx F e1 a)) 41 6 3) 41 6 = 3 := (up_e rfl)
            have kn_209 : Hid (c_190 41 16 = jr) := (hF_192 41 16 (fun h => absurd h.2 (ni rfl))).trans (hr_jr)
            have kn_210 : Hid (c_197 41 16 = jr) := (hF_199 41 16 (fun h => absurd h.2 (ni rfl))).trans (hid kn_209)
            have h_211 : (up (up c_197 41 5 (nx F e1 a)) 41 6 3) 41 16 = jr := ((up_n (by decide)).trans ((up_n (by decide)).trans (hid kn_210)))
            exact K (up (up c_197 41 5 (nx F e1 a)) 41 6 3)  hI_205 (fun a j hm => (up_b (Decidable.or_iff_not_imp_left.mpr (fun h1 h2 => hm (Or.inr (Or.inr (Or.inl ⟨Decidable.not_not.mp h1, h2⟩)))))).trans ((up_b (Decidable.or_iff_not_imp_left.mpr (fun h1 h2 => hm (Or.inr (Or.inl ⟨Decidable.not_not.mp h1, h2⟩))))).trans ((hF_199 a j (fun h => hm (Or.inl h))).trans ((hF_192 a j (fun h => hm (Or.inl h))).trans (hFc a j (fun q => q.elim (fun h => hm (Or.inl h)) (fun q => q.elim (fun h => hm (Or.inr (Or.inl h))) (fun q => q.elim (fun h => hm (Or.inr (Or.inr (Or.inl h)))) (fun q => q.elim (fun h => hm (Or.inr (Or.inr (Or.inr (Or.inl h))))) (fun q => q.elim (fun h => hm (Or.inr (Or.inr (Or.inr (Or.inr (Or.inl h)))))) (fun q => q.elim (fun h => hm (Or.inr (Or.inr (Or.inr (Or.inr (Or.inr (Or.inl h))))))) (fun q => q.elim (fun h => hm (Or.inr (Or.inr (Or.inr (Or.inr (Or.inr (Or.inr (Or.inl h)))))))) (fun q => q.elim (fun h => hm (Or.inr (Or.inr (Or.inr (Or.inr (Or.inr (Or.inr (Or.inr (Or.inl h))))))))) (fun q => q.elim (fun h => hm (Or.inr (Or.inr (Or.inr (Or.inr (Or.inr (Or.inr (Or.inr (Or.inr (Or.inl h)))))))))) (fun h => hm (Or.inr (Or.inr (Or.inr (Or.inr (Or.inr (Or.inr (Or.inr (Or.inr (Or.inr h)))))))))))))))))))))))) (by unfold Rt; omega) (by omega)
          · refine v_ic_eq_f (t := 36) rfl (by decide) (by omega) ?_
            refine q_iload_n rfl rfl ?_
            refine q_ldc_s rfl rfl rfl (by decide) ?_
            refine q_call rfl rfl rfl rfl (s_158_17 ?_)
            refine bk_inl ?_
            by_cases h_212 : (wv F (nx F e1 a) (ln F e1 (nx F e1 a))) = 20594117
            · refine v_ic_eq_t (t := 36) rfl (by decide) (by omega) ?_
              refine q_iconst rfl ?_
              refine q_goto (t := 41) rfl (by decide) ?_
              refine v_zret rfl rfl (by decide) ?_
              refine bk_inl ?_
              refine v_if_ne_t (t := 82) rfl (by decide) (by decide) ?_
              refine q_iload_n rfl rfl ?_
              refine v_bip rfl (by decide) ?_
              refine v_ic_eq_t (t := 96) rfl (by decide) (by omega) ?_
              refine q_aload_n rfl rfl ?_
              refine q_iconst rfl ?_
              refine q_aload_n rfl rfl ?_
              refine v_gi (z := 4) (v := (nx F e1 a)) rfl rfl rfl (by decide) rfl rfl (hz_200) ?_
              refine v_cv rfl rfl rfl rfl (by decide) ⟨⟨rfl, rfl⟩, by decide, rfl⟩ (Nat.le_of_ble_eq_true rfl) (Nat.le_of_ble_eq_true rfl) ?_
              refine q_aload_n rfl rfl ?_
              have kn_213 : Hid (c_190 41 5 = (-1)) := (hF_192 41 5 (fun h => absurd h.2 (ni rfl))).trans (hc_1)
              have kn_214 : Hid (c_197 41 5 = (-1)) := (hF_199 41 5 (fun h => absurd h.2 (ni rfl))).trans (hid kn_213)
              refine v_gi (z := 5) (v := (-1)) rfl rfl rfl (by decide) rfl rfl (hid kn_214) ?_
              refine q_iconst rfl ?_
              refine v_ic_eq_t (t := 9) rfl (by decide) (by decide) ?_
              refine q_aload_n rfl rfl ?_
              refine q_iload_n rfl rfl ?_
              refine v_pi (z := 5) rfl rfl rfl (by decide) rfl rfl rfl (by decide) ?_
              refine q_aload_n rfl rfl ?_
              refine q_iload_n rfl rfl ?_
              refine v_pi (z := 6) rfl rfl rfl (by decide) rfl rfl rfl (by decide) ?_
              refine q_vret rfl rfl ?_
              refine bk_inl ?_
              refine q_aload_n rfl rfl ?_
              refine v_cv rfl rfl rfl rfl (by decide) ⟨⟨rfl, rfl⟩, by decide, rfl⟩ (Nat.le_of_ble_eq_true rfl) (Nat.le_of_ble_eq_true rfl) ?_
              refine q_aload_n rfl rfl ?_
              refine v_gi (z := 5) (v := (nx F e1 a)) rfl rfl rfl (by decide) rfl rfl ((up_n (by decide)).trans (up_e rfl)) ?_
              refine q_iconst rfl ?_
              refine v_ic_ne_t (t := 12) rfl (by decide) (by omega) ?_
              refine q_iconst rfl ?_
              refine v_zret rfl rfl (by decide) ?_
              refine bk_inl ?_
              refine v_if_ne_f (t := 115) rfl (by decide) (by decide) ?_
              refine q_goto (t := 136) rfl (by decide) ?_
              refine Wp_ls [(0, .ref 41), (1, vi a1)] (lsub_cons rfl (lsub_cons rfl lsub_nil)) ?_
              have hI_215 := iw_41_5 (v := (nx F e1 a)) hI_198 ⟨by omega, by omega⟩
              have hI_216 := iw_41_6 (v := 3) hI_215 ⟨by decide, by decide⟩
              have h_217 : (up (up c_197 41 5 (nx F e1 a)) 41 6 3) 41 5 = (nx F e1 a) := ((up_n (by decide)).trans (up_e rfl))
              have h_218 : (up (up c_197 41 5 (nx F e1 a)) 41 6 3) 41 4 = (nx F e1 a) := ((up_n (by decide)).trans ((up_n (by decide)).trans (hz_200)))
              have h_219 : (up (up c_197 41 5 (nx F e1 a)) 41 6 3) 41 6 = 3 := (up_e rfl)
              have kn_220 : Hid (c_190 41 16 = jr) := (hF_192 41 16 (fun h => absurd h.2 (ni rfl))).trans (hr_jr)
              have kn_221 : Hid (c_197 41 16 = jr) := (hF_199 41 16 (fun h => absurd h.2 (ni rfl))).trans (hid kn_220)
              have h_222 : (up (up c_197 41 5 (nx F e1 a)) 41 6 3) 41 16 = jr := ((up_n (by decide)).trans ((up_n (by decide)).trans (hid kn_221)))
              exact K (up (up c_197 41 5 (nx F e1 a)) 41 6 3)  hI_216 (fun a j hm => (up_b (Decidable.or_iff_not_imp_left.mpr (fun h1 h2 => hm (Or.inr (Or.inr (Or.inl ⟨Decidable.not_not.mp h1, h2⟩)))))).trans ((up_b (Decidable.or_iff_not_imp_left.mpr (fun h1 h2 => hm (Or.inr (Or.inl ⟨Decidable.not_not.mp h1, h2⟩))))).trans ((hF_199 a j (fun h => hm (Or.inl h))).trans ((hF_192 a j (fun h => hm (Or.inl h))).trans (hFc a j (fun q => q.elim (fun h => hm (Or.inl h)) (fun q => q.elim (fun h => hm (Or.inr (Or.inl h))) (fun q => q.elim (fun h => hm (Or.inr (Or.inr (Or.inl h)))) (fun q => q.elim (fun h => hm (Or.inr (Or.inr (Or.inr (Or.inl h))))) (fun q => q.elim (fun h => hm (Or.inr (Or.inr (Or.inr (Or.inr (Or.inl h)))))) (fun q => q.elim (fun h => hm (Or.inr (Or.inr (Or.inr (Or.inr (Or.inr (Or.inl h))))))) (fun q => q.elim (fun h => hm (Or.inr (Or.inr (Or.inr (Or.inr (Or.inr (Or.inr (Or.inl h)))))))) (fun q => q.elim (fun h => hm (Or.inr (Or.inr (Or.inr (Or.inr (Or.inr (Or.inr (Or.inr (Or.inl h))))))))) (fun q => q.elim (fun h => hm (Or.inr (Or.inr (Or.inr (Or.inr (Or.inr (Or.inr (Or.inr (Or.inr (Or.inl h)))))))))) (fun h => hm (Or.inr (Or.inr (Or.inr (Or.inr (Or.inr (Or.inr (Or.inr (Or.inr (Or.inr h)))))))))))))))))))))))) (by unfold Rt; omega) (by omega)
            · refine v_ic_eq_f (t := 36) rfl (by decide) (by omega) ?_
              refine q_iload_n rfl rfl ?_
              refine q_ldc_s rfl rfl rfl (by decide) ?_
              refine q_call rfl rfl rfl rfl (s_158_18 ?_)
              refine bk_inl ?_
              by_cases h_223 : (wv F (nx F e1 a) (ln F e1 (nx F e1 a))) = 20223685
              · refine v_ic_eq_t (t := 36) rfl (by decide) (by omega) ?_
                refine q_iconst rfl ?_
                refine q_goto (t := 41) rfl (by decide) ?_
                refine v_zret rfl rfl (by decide) ?_
                refine bk_inl ?_
                refine v_if_ne_t (t := 82) rfl (by decide) (by decide) ?_
                refine q_iload_n rfl rfl ?_
                refine v_bip rfl (by decide) ?_
                refine v_ic_eq_t (t := 96) rfl (by decide) (by omega) ?_
                refine q_aload_n rfl rfl ?_
                refine q_iconst rfl ?_
                refine q_aload_n rfl rfl ?_
                refine v_gi (z := 4) (v := (nx F e1 a)) rfl rfl rfl (by decide) rfl rfl (hz_200) ?_
                refine v_cv rfl rfl rfl rfl (by decide) ⟨⟨rfl, rfl⟩, by decide, rfl⟩ (Nat.le_of_ble_eq_true rfl) (Nat.le_of_ble_eq_true rfl) ?_
                refine q_aload_n rfl rfl ?_
                have kn_224 : Hid (c_190 41 5 = (-1)) := (hF_192 41 5 (fun h => absurd h.2 (ni rfl))).trans (hc_1)
                have kn_225 : Hid (c_197 41 5 = (-1)) := (hF_199 41 5 (fun h => absurd h.2 (ni rfl))).trans (hid kn_224)
                refine v_gi (z := 5) (v := (-1)) rfl rfl rfl (by decide) rfl rfl (hid kn_225) ?_
                refine q_iconst rfl ?_
                refine v_ic_eq_t (t := 9) rfl (by decide) (by decide) ?_
                refine q_aload_n rfl rfl ?_
                refine q_iload_n rfl rfl ?_
                refine v_pi (z := 5) rfl rfl rfl (by decide) rfl rfl rfl (by decide) ?_
                refine q_aload_n rfl rfl ?_
                refine q_iload_n rfl rfl ?_
                refine v_pi (z := 6) rfl rfl rfl (by decide) rfl rfl rfl (by decide) ?_
                refine q_vret rfl rfl ?_
                refine bk_inl ?_
                refine q_aload_n rfl rfl ?_
                refine v_cv rfl rfl rfl rfl (by decide) ⟨⟨rfl, rfl⟩, by decide, rfl⟩ (Nat.le_of_ble_eq_true rfl) (Nat.le_of_ble_eq_true rfl) ?_
                refine q_aload_n rfl rfl ?_
                refine v_gi (z := 5) (v := (nx F e1 a)) rfl rfl rfl (by decide) rfl rfl ((up_n (by decide)).trans (up_e rfl)) ?_
                refine q_iconst rfl ?_
                refine v_ic_ne_t (t := 12) rfl (by decide) (by omega) ?_
                refine q_iconst rfl ?_
                refine v_zret rfl rfl (by decide) ?_
                refine bk_inl ?_
                refine v_if_ne_f (t := 115) rfl (by decide) (by decide) ?_
                refine q_goto (t := 136) rfl (by decide) ?_
                refine Wp_ls [(0, .ref 41), (1, vi a1)] (lsub_cons rfl (lsub_cons rfl lsub_nil)) ?_
                have hI_226 := iw_41_5 (v := (nx F e1 a)) hI_198 ⟨by omega, by omega⟩
                have hI_227 := iw_41_6 (v := 3) hI_226 ⟨by decide, by decide⟩
                have h_228 : (up (up c_197 41 5 (nx F e1 a)) 41 6 3) 41 5 = (nx F e1 a) := ((up_n (by decide)).trans (up_e rfl))
                have h_229 : (up (up c_197 41 5 (nx F e1 a)) 41 6 3) 41 4 = (nx F e1 a) := ((up_n (by decide)).trans ((up_n (by decide)).trans (hz_200)))
                have h_230 : (up (up c_197 41 5 (nx F e1 a)) 41 6 3) 41 6 = 3 := (up_e rfl)
                have kn_231 : Hid (c_190 41 16 = jr) := (hF_192 41 16 (fun h => absurd h.2 (ni rfl))).trans (hr_jr)
                have kn_232 : Hid (c_197 41 16 = jr) := (hF_199 41 16 (fun h => absurd h.2 (ni rfl))).trans (hid kn_231)
                have h_233 : (up (up c_197 41 5 (nx F e1 a)) 41 6 3) 41 16 = jr := ((up_n (by decide)).trans ((up_n (by decide)).trans (hid kn_232)))
                exact K (up (up c_197 41 5 (nx F e1 a)) 41 6 3)  hI_227 (fun a j hm => (up_b (Decidable.or_iff_not_imp_left.mpr (fun h1 h2 => hm (Or.inr (Or.inr (Or.inl ⟨Decidable.not_not.mp h1, h2⟩)))))).trans ((up_b (Decidable.or_iff_not_imp_left.mpr (fun h1 h2 => hm (Or.inr (Or.inl ⟨Decidable.not_not.mp h1, h2⟩))))).trans ((hF_199 a j (fun h => hm (Or.inl h))).trans ((hF_192 a j (fun h => hm (Or.inl h))).trans (hFc a j (fun q => q.elim (fun h => hm (Or.inl h)) (fun q => q.elim (fun h => hm (Or.inr (Or.inl h))) (fun q => q.elim (fun h => hm (Or.inr (Or.inr (Or.inl h)))) (fun q => q.elim (fun h => hm (Or.inr (Or.inr (Or.inr (Or.inl h))))) (fun q => q.elim (fun h => hm (Or.inr (Or.inr (Or.inr (Or.inr (Or.inl h)))))) (fun q => q.elim (fun h => hm (Or.inr (Or.inr (Or.inr (Or.inr (Or.inr (Or.inl h))))))) (fun q => q.elim (fun h => hm (Or.inr (Or.inr (Or.inr (Or.inr (Or.inr (Or.inr (Or.inl h)))))))) (fun q => q.elim (fun h => hm (Or.inr (Or.inr (Or.inr (Or.inr (Or.inr (Or.inr (Or.inr (Or.inl h))))))))) (fun q => q.elim (fun h => hm (Or.inr (Or.inr (Or.inr (Or.inr (Or.inr (Or.inr (Or.inr (Or.inr (Or.inl h)))))))))) (fun h => hm (Or.inr (Or.inr (Or.inr (Or.inr (Or.inr (Or.inr (Or.inr (Or.inr (Or.inr h)))))))))))))))))))))))) (by unfold Rt; omega) (by omega)
              · refine v_ic_eq_f (t := 36) rfl (by decide) (by omega) ?_
                refine q_iload_n rfl rfl ?_
                refine q_ldc_s rfl rfl rfl (by decide) ?_
                refine q_call rfl rfl rfl rfl (s_158_19 ?_)
                refine bk_inl ?_
                refine v_ic_ne_f (t := 40) rfl (by decide) (by omega) ?_
                refine q_iconst rfl ?_
                refine q_goto (t := 41) rfl (by decide) ?_
                refine v_zret rfl rfl (by decide) ?_
                refine bk_inl ?_
                refine v_if_ne_t (t := 82) rfl (by decide) (by decide) ?_
                refine q_iload_n rfl rfl ?_
                refine v_bip rfl (by decide) ?_
                refine v_ic_eq_t (t := 96) rfl (by decide) (by omega) ?_
                refine q_aload_n rfl rfl ?_
                refine q_iconst rfl ?_
                refine q_aload_n rfl rfl ?_
                refine v_gi (z := 4) (v := (nx F e1 a)) rfl rfl rfl (by decide) rfl rfl (hz_200) ?_
                refine v_cv rfl rfl rfl rfl (by decide) ⟨⟨rfl, rfl⟩, by decide, rfl⟩ (Nat.le_of_ble_eq_true rfl) (Nat.le_of_ble_eq_true rfl) ?_
                refine q_aload_n rfl rfl ?_
                have kn_234 : Hid (c_190 41 5 = (-1)) := (hF_192 41 5 (fun h => absurd h.2 (ni rfl))).trans (hc_1)
                have kn_235 : Hid (c_197 41 5 = (-1)) := (hF_199 41 5 (fun h => absurd h.2 (ni rfl))).trans (hid kn_234)
                refine v_gi (z := 5) (v := (-1)) rfl rfl rfl (by decide) rfl rfl (hid kn_235) ?_
                refine q_iconst rfl ?_
                refine v_ic_eq_t (t := 9) rfl (by decide) (by decide) ?_
                refine q_aload_n rfl rfl ?_
                refine q_iload_n rfl rfl ?_
                refine v_pi (z := 5) rfl rfl rfl (by decide) rfl rfl rfl (by decide) ?_
                refine q_aload_n rfl rfl ?_
                refine q_iload_n rfl rfl ?_
                refine v_pi (z := 6) rfl rfl rfl (by decide) rfl rfl rfl (by decide) ?_
                refine q_vret rfl rfl ?_
                refine bk_inl ?_
                refine q_aload_n rfl rfl ?_
                refine v_cv rfl rfl rfl rfl (by decide) ⟨⟨rfl, rfl⟩, by decide, rfl⟩ (Nat.le_of_ble_eq_true rfl) (Nat.le_of_ble_eq_true rfl) ?_
                refine q_aload_n rfl rfl ?_
                refine v_gi (z := 5) (v := (nx F e1 a)) rfl rfl rfl (by decide) rfl rfl ((up_n (by decide)).trans (up_e rfl)) ?_
                refine q_iconst rfl ?_
                refine v_ic_ne_t (t := 12) rfl (by decide) (by omega) ?_
                refine q_iconst rfl ?_
                refine v_zret rfl rfl (by decide) ?_
                refine bk_inl ?_
                refine v_if_ne_f (t := 115) rfl (by decide) (by decide) ?_
                refine q_goto (t := 136) rfl (by decide) ?_
                refine Wp_ls [(0, .ref 41), (1, vi a1)] (lsub_cons rfl (lsub_cons rfl lsub_nil)) ?_
                have hI_236 := iw_41_5 (v := (nx F e1 a)) hI_198 ⟨by omega, by omega⟩
                have hI_237 := iw_41_6 (v := 3) hI_236 ⟨by decide, by decide⟩
                have h_238 : (up (up c_197 41 5 (nx F e1 a)) 41 6 3) 41 5 = (nx F e1 a) := ((up_n (by decide)).trans (up_e rfl))
                have h_239 : (up (up c_197 41 5 (nx F e1 a)) 41 6 3) 41 4 = (nx F e1 a) := ((up_n (by decide)).trans ((up_n (by decide)).trans (hz_200)))
                have h_240 : (up (up c_197 41 5 (nx F e1 a)) 41 6 3) 41 6 = 3 := (up_e rfl)
                have kn_241 : Hid (c_190 41 16 = jr) := (hF_192 41 16 (fun h => absurd h.2 (ni rfl))).trans (hr_jr)
                have kn_242 : Hid (c_197 41 16 = jr) := (hF_199 41 16 (fun h => absurd h.2 (ni rfl))).trans (hid kn_241)
                have h_243 : (up (up c_197 41 5 (nx F e1 a)) 41 6 3) 41 16 = jr := ((up_n (by decide)).trans ((up_n (by decide)).trans (hid kn_242)))
                exact K (up (up c_197 41 5 (nx F e1 a)) 41 6 3)  hI_237 (fun a j hm => (up_b (Decidable.or_iff_not_imp_left.mpr (fun h1 h2 => hm (Or.inr (Or.inr (Or.inl ⟨Decidable.not_not.mp h1, h2⟩)))))).trans ((up_b (Decidable.or_iff_not_imp_left.mpr (fun h1 h2 => hm (Or.inr (Or.inl ⟨Decidable.not_not.mp h1, h2⟩))))).trans ((hF_199 a j (fun h => hm (Or.inl h))).trans ((hF_192 a j (fun h => hm (Or.inl h))).trans (hFc a j (fun q => q.elim (fun h => hm (Or.inl h)) (fun q => q.elim (fun h => hm (Or.inr (Or.inl h))) (fun q => q.elim (fun h => hm (Or.inr (Or.inr (Or.inl h)))) (fun q => q.elim (fun h => hm (Or.inr (Or.inr (Or.inr (Or.inl h))))) (fun q => q.elim (fun h => hm (Or.inr (Or.inr (Or.inr (Or.inr (Or.inl h)))))) (fun q => q.elim (fun h => hm (Or.inr (Or.inr (Or.inr (Or.inr (Or.inr (Or.inl h))))))) (fun q => q.elim (fun h => hm (Or.inr (Or.inr (Or.inr (Or.inr (Or.inr (Or.inr (Or.inl h)))))))) (fun q => q.elim (fun h => hm (Or.inr (Or.inr (Or.inr (Or.inr (Or.inr (Or.inr (Or.inr (Or.inl h))))))))) (fun q => q.elim (fun h => hm (Or.inr (Or.inr (Or.inr (Or.inr (Or.inr (Or.inr (Or.inr (Or.inr (Or.inl h)))))))))) (fun h => hm (Or.inr (Or.inr (Or.inr (Or.inr (Or.inr (Or.inr (Or.inr (Or.inr (Or.inr h)))))))))))))))))))))))) (by unfold Rt; omega) (by omega)
        · refine v_ic_eq_f (t := 53) rfl (by decide) (by omega) ?_
          refine q_aload_n rfl rfl ?_
          refine q_iload rfl rfl ?_
          refine v_cv rfl rfl rfl (ck_p0 hA) (by omega) ⟨⟨rfl, rfl⟩, by decide, rfl⟩ (Nat.le_of_ble_eq_true rfl) (Nat.le_of_ble_eq_true rfl) ?_
          refine q_iload_n rfl rfl ?_
          by_cases h_244 : (wd8_0 F (nx F e1 a) (ln F e1 (nx F e1 a))) = 0
          · skip
            refine v_tsw_i (t := 28) 0 rfl (by omega) (by decide) rfl (by decide) ?_
            refine q_aload_n rfl rfl ?_
            have kn_245 : Hid (c_24 A 0 = jr) := (hF_26 A 0 (fun h => absurd h.1 (np0 hA rfl))).trans (hg_jr)
            have kn_246 : Hid (c_60 A 0 = jr) := (hF_62 A 0 (fun h => absurd h.1 (np0 hA rfl))).trans (hid kn_245)
            have kn_247 : Hid (c_85 A 0 = jr) := (hF_87 A 0 (fun q => q.elim (fun h => absurd h.1 (np0 hA rfl)) (fun q => q.elim (fun h => absurd h.1 (np0 hA rfl)) (fun h => absurd h.1 (np0 hA rfl))))).trans (hid kn_246)
            refine v_gi (z := 0) (v := jr) rfl rfl (ck_p0 hA) (by omega) rfl rfl (hid kn_247) ?_
            refine v_bip rfl (by decide) ?_
            by_cases h_248 : jr ≠ 6
            · refine v_ic_ne_t (t := 41) rfl (by decide) (by omega) ?_
              refine q_iconst rfl ?_
              refine v_zret rfl rfl (by decide) ?_
              refine bk_inl ?_
              refine v_if_eq_t (t := 59) rfl (by decide) (by decide) ?_
              refine q_aload_n rfl rfl ?_
              refine v_cv rfl rfl rfl rfl (by decide) ⟨⟨rfl, rfl⟩, by decide, rfl⟩ (Nat.le_of_ble_eq_true rfl) (Nat.le_of_ble_eq_true rfl) ?_
              refine q_aload_n rfl rfl ?_
              refine v_gi (z := 4) (v := 0) rfl rfl rfl (by decide) rfl rfl (hz_91) ?_
              refine v_if_ne_f (t := 11) rfl (by decide) (by decide) ?_
              refine q_iconst rfl ?_
              refine q_goto (t := 12) rfl (by decide) ?_
              refine v_zret rfl rfl (by decide) ?_
              refine bk_inl ?_
              refine v_if_eq_f (t := 73) rfl (by decide) (by decide) ?_
              refine q_aload_n rfl rfl ?_
              refine q_aload_n rfl rfl ?_
              refine q_iload rfl rfl ?_
              have hw_249 : (wd8_0 F (nx F e1 a) (ln F e1 (nx F e1 a))) = 0 := by omega
              rw [hw_249]
              have h_250 : c_85 A 0 = jr := (hid kn_247)
              have kn_251 : Hid (c_24 A 1 = st) := (hF_26 A 1 (fun h => absurd h.1 (np0 hA rfl))).trans (hg_st)
              have kn_252 : Hid (c_60 A 1 = st) := (hF_62 A 1 (fun h => absurd h.1 (np0 hA rfl))).trans (hid kn_251)
              have kn_253 : Hid (c_85 A 1 = st) := (hF_87 A 1 (fun q => q.elim (fun h => absurd h.1 (np0 hA rfl)) (fun q => q.elim (fun h => absurd h.1 (np0 hA rfl)) (fun h => absurd h.1 (np0 hA rfl))))).trans (hid kn_252)
              have h_254 : c_85 A 1 = st := (hid kn_253)
              have kn_255 : Hid (c_24 A 2 = si) := (hF_26 A 2 (fun h => absurd h.1 (np0 hA rfl))).trans (hg_si)
              have kn_256 : Hid (c_60 A 2 = si) := (hF_62 A 2 (fun h => absurd h.1 (np0 hA rfl))).trans (hid kn_255)
              have kn_257 : Hid (c_85 A 2 = si) := (hF_87 A 2 (fun q => q.elim (fun h => absurd h.1 (np0 hA rfl)) (fun q => q.elim (fun h => absurd h.1 (np0 hA rfl)) (fun h => absurd h.1 (np0 hA rfl))))).trans (hid kn_256)
              have h_258 : c_85 A 2 = si := (hid kn_257)
              refine v_cv rfl rfl rfl (ck_p0 hA) (by omega) ⟨⟨rfl, rfl⟩, by decide, rfl⟩ (Nat.le_of_ble_eq_true rfl) (Nat.le_of_ble_eq_true rfl) (fn_of (s_33 (a2 := 0) hI_86 hA (show 0 ≤ 0 ∧ 0 ≤ 100 from by omega) (by omega) (by omega) (by omega) (fun c_259 hI_260 hF_261 => ?_)))
              intro hG_262
              refine bk_inl ?_
              refine q_aload_n rfl rfl ?_
              refine q_ldc_s rfl rfl rfl (by decide) ?_
              have h_263 := ir_1_4 hI_260
              refine v_cv rfl rfl rfl rfl (by decide) ⟨⟨rfl, rfl⟩, by decide, rfl⟩ (Nat.le_of_ble_eq_true rfl) (Nat.le_of_ble_eq_true rfl) (fn_of (s_11 hI_260 (q := 9) (nt := 1) (by decide) (by decide) (by decide) (fun c_264 hI_265 hF_266 => ?_)))
              intro hG_267
              refine bk_inl ?_
              refine v_iinc (v := v + 1) rfl rfl (by decide) (by omega) ?_
              refine q_goto (t := 6) rfl (by decide) ?_
              have h_268 := ir_1_4 hI_265
              by_cases h_269 : c_264 1 4 = 0
              · skip
                refine Wp_ls [(0, .ref A), (1, .ref 1), (2, vi (v + 1))] (lsub_cons rfl (lsub_cons rfl (lsub_cons rfl lsub_nil))) ?_
                refine gh_stop (s_34_l (sc := sc) (d := dh + 18) (c := c_264) (Z := fun _ => True) hI_265 hA (fun _ _ _ => trivial) 124 c_264 (v + 1) hI_265 (fun a j hm => rfl) ⟨by omega, by omega⟩ (by omega)) (fun hG_270 => ?_)
                refine q_aload_n rfl rfl ?_
                refine v_cv rfl rfl rfl rfl (by decide) ⟨⟨rfl, rfl⟩, by decide, rfl⟩ (Nat.le_of_ble_eq_true rfl) (Nat.le_of_ble_eq_true rfl) ?_
                refine q_aload_n rfl rfl ?_
                refine v_gi (z := 5) (v := (-1)) rfl rfl rfl (by decide) rfl rfl (hc_1) ?_
                refine q_iconst rfl ?_
                refine v_ic_ne_f (t := 12) rfl (by decide) (by decide) ?_
                refine q_iconst rfl ?_
                refine q_goto (t := 13) rfl (by decide) ?_
                refine v_zret rfl rfl (by decide) ?_
                refine bk_inl ?_
                refine v_if_eq_f (t := 136) rfl (by decide) (by decide) ?_
                refine q_aload_n rfl rfl ?_
                refine v_cv rfl rfl rfl rfl (by decide) ⟨⟨rfl, rfl⟩, by decide, rfl⟩ (Nat.le_of_ble_eq_true rfl) (Nat.le_of_ble_eq_true rfl) ?_
                refine q_aload_n rfl rfl ?_
                have kn_271 : Hid (c2 41 3 = e1) := (hFc 41 3 (fun q => q.elim (fun h => absurd h.2 (ni rfl)) (fun q => q.elim (fun h => absurd h.2 (ni rfl)) (fun q => q.elim (fun h => absurd h.2 (ni rfl)) (fun q => q.elim (fun h => absurd h.2 (ni rfl)) (fun q => q.elim (fun h => absurd h.2 (ni rfl)) (fun q => q.elim (fun h => absurd h.2 (ni rfl)) (fun q => q.elim (fun h => absurd h.2 (ni rfl)) (fun q => q.elim (fun h => absurd h (nn rfl)) (fun q => q.elim (fun h => absurd h (nn rfl)) (fun h => absurd h (nn rfl)))))))))))).trans (hr_e1)
                have h_272 : -2147483648 ≤ (H (nx F e1 a)) ∧ (H (nx F e1 a)) ≤ 2147483647 := by rw [← hH (nx F e1 a)]; exact ir_43 hI (nx F e1 a)
                have h_273 := hU (nx F e1 a) (by omega) (by omega)
                have h_274 := hb_or (b := H) (e := e1) (r := (nx F e1 a))
                have h_275 := hb_bd (b := H) (e := e1) (r := (nx F e1 a)) (lo := -2147483648) (hi := 2147483647) ⟨by omega, by omega⟩ (by decide)
                refine v_cv rfl rfl rfl rfl (by decide) ⟨⟨rfl, rfl⟩, by decide, rfl⟩ (Nat.le_of_ble_eq_true rfl) (Nat.le_of_ble_eq_true rfl) (f_154 (e1 := e1) (a9 := a) (B := H) (r8 := (nx F e1 a)) (r := (hb H e1 (nx F e1 a))) hI2 ((hid kn_271)) ((hr_a)) (fun j => (hFc 43 j (fun q => q.elim (fun h => absurd h.1 (nn rfl)) (fun q => q.elim (fun h => absurd h.1 (nn rfl)) (fun q => q.elim (fun h => absurd h.1 (nn rfl)) (fun q => q.elim (fun h => absurd h.1 (nn rfl)) (fun q => q.elim (fun h => absurd h.1 (nn rfl)) (fun q => q.elim (fun h => absurd h.1 (nn rfl)) (fun q => q.elim (fun h => absurd h.1 (nn rfl)) (fun q => q.elim (fun h => absurd h (nn rfl)) (fun q => q.elim (fun h => absurd h (nn rfl)) (fun h => absurd h (nn rfl)))))))))))).trans (hH j)) ((nx_tr hU (by omega) (by omega)).trans (rfl)) rfl (fun c_276 hI_277 hF_278 h_279 => ?_))
                refine bk_inl ?_
                refine q_pop rfl rfl ?_
                refine q_aload_n rfl rfl ?_
                refine v_gi (z := 4) (v := (nx F e1 a)) rfl rfl rfl (by decide) rfl rfl (h_279) ?_
                refine q_aload_n rfl rfl ?_
                have kn_280 : Hid (c_276 41 3 = e1) := (hF_278 41 3 (fun h => absurd h.2 (ni rfl))).trans (hid kn_271)
                refine v_gi (z := 3) (v := e1) rfl rfl rfl (by decide) rfl rfl (hid kn_280) ?_
                refine v_ic_ge_f (t := 20) rfl (by decide) (by omega) ?_
                refine q_iconst rfl ?_
                refine q_goto (t := 21) rfl (by decide) ?_
                refine v_zret rfl rfl (by decide) ?_
                refine bk_inl ?_
                refine v_if_eq_f (t := 136) rfl (by decide) (by decide) ?_
                refine q_aload_n rfl rfl ?_
                have h_281 := wv_bd (b := F) (r := (nx F e1 a)) (l := (ln F e1 (nx F e1 a))) (fun j h1 h2 => ⟨(ln_in (e := e1) (a := (nx F e1 a)) h1 (by omega)).1, (ln_in (e := e1) (a := (nx F e1 a)) h1 (by omega)).2.1⟩)
                have h_282 := wr8_0 (b := F) (r := (nx F e1 a)) (l := (ln F e1 (nx F e1 a))) (by omega) (fun j h1 h2 => ⟨(ln_in (e := e1) (a := (nx F e1 a)) h1 (by omega)).1, (ln_in (e := e1) (a := (nx F e1 a)) h1 (by omega)).2.1⟩) (by omega)
                refine v_cv rfl rfl rfl rfl (by decide) ⟨⟨rfl, rfl⟩, by decide, rfl⟩ (Nat.le_of_ble_eq_true rfl) (Nat.le_of_ble_eq_true rfl) (f_157 (e1 := e1) (a9 := (nx F e1 a)) (B := H) (r8 := (nx F e1 a)) (L8 := (ln F e1 (nx F e1 a))) (W8 := (wv F (nx F e1 a) (ln F e1 (nx F e1 a)))) hI_277 ((hid kn_280)) ((h_279)) (fun j => ((hF_278 43 j (fun h => absurd h.1 (nn rfl))).trans (hFc 43 j (fun q => q.elim (fun h => absurd h.1 (nn rfl)) (fun q => q.elim (fun h => absurd h.1 (nn rfl)) (fun q => q.elim (fun h => absurd h.1 (nn rfl)) (fun q => q.elim (fun h => absurd h.1 (nn rfl)) (fun q => q.elim (fun h => absurd h.1 (nn rfl)) (fun q => q.elim (fun h => absurd h.1 (nn rfl)) (fun q => q.elim (fun h => absurd h.1 (nn rfl)) (fun q => q.elim (fun h => absurd h (nn rfl)) (fun q => q.elim (fun h => absurd h (nn rfl)) (fun h => absurd h (nn rfl))))))))))))).trans (hH j)) ((nx_tr hU (by omega) (by omega)).trans ((nx_z (by omega)))) ((ln_tr hU (by omega) (by omega)).trans (rfl)) ((wv_tr hU (by omega) (by omega) (fun j h1 h2 => ⟨(ln_in (e := e1) (a := (nx F e1 a)) h1 (by omega)).1, (ln_in (e := e1) (a := (nx F e1 a)) h1 (by omega)).2.1⟩)).trans (rfl)) (fun c_283 hI_284 hF_285 hz_286 => ?_))
                refine bk_inl ?_
                refine q_istore_n rfl (by decide) ?_
                refine q_iload_n rfl rfl ?_
                refine q_call rfl rfl rfl rfl ?_
                refine q_iload_n rfl rfl ?_
                refine q_ldc_s rfl rfl rfl (by decide) ?_
                refine q_call rfl rfl rfl rfl (s_158_16 ?_)
                refine bk_inl ?_
                refine v_ic_eq_t (t := 36) rfl (by decide) (by omega) ?_
                refine q_iconst rfl ?_
                refine q_goto (t := 41) rfl (by decide) ?_
                refine v_zret rfl rfl (by decide) ?_
                refine bk_inl ?_
                refine v_if_ne_t (t := 82) rfl (by decide) (by decide) ?_
                refine q_iload_n rfl rfl ?_
                refine v_bip rfl (by decide) ?_
                refine v_ic_eq_f (t := 96) rfl (by decide) (by omega) ?_
                refine q_aload_n rfl rfl ?_
                refine q_iload_n rfl rfl ?_
                refine v_cv rfl rfl rfl rfl (by decide) ⟨⟨rfl, rfl⟩, by decide, rfl⟩ (Nat.le_of_ble_eq_true rfl) (Nat.le_of_ble_eq_true rfl) ?_
                refine q_iload_n rfl rfl ?_
                refine q_ldc_s rfl rfl rfl (by decide) ?_
                refine q_call rfl rfl rfl rfl (s_158_16 ?_)
                refine bk_inl ?_
                refine v_ic_ne_f (t := 26) rfl (by decide) (by omega) ?_
                refine q_aload_n rfl rfl ?_
                have kn_287 : Hid (c_276 41 16 = jr) := (hF_278 41 16 (fun h => absurd h.2 (ni rfl))).trans (hr_jr)
                have kn_288 : Hid (c_283 41 16 = jr) := (hF_285 41 16 (fun h => absurd h.2 (ni rfl))).trans (hid kn_287)
                refine v_gi (z := 16) (v := jr) rfl rfl rfl (by decide) rfl rfl (hid kn_288) ?_
                refine v_bip rfl (by decide) ?_
                refine v_ic_ne_t (t := 22) rfl (by decide) (by omega) ?_
                refine q_iconst rfl ?_
                refine q_goto (t := 73) rfl (by decide) ?_
                refine v_zret rfl rfl (by decide) ?_
                refine bk_inl ?_
                refine v_if_eq_t (t := 105) rfl (by decide) (by decide) ?_
                refine q_aload_n rfl rfl ?_
                refine v_cv rfl rfl rfl rfl (by decide) ⟨⟨rfl, rfl⟩, by decide, rfl⟩ (Nat.le_of_ble_eq_true rfl) (Nat.le_of_ble_eq_true rfl) ?_
                refine q_aload_n rfl rfl ?_
                have kn_289 : Hid (c_276 41 5 = (-1)) := (hF_278 41 5 (fun h => absurd h.2 (ni rfl))).trans (hc_1)
                have kn_290 : Hid (c_283 41 5 = (-1)) := (hF_285 41 5 (fun h => absurd h.2 (ni rfl))).trans (hid kn_289)
                refine v_gi (z := 5) (v := (-1)) rfl rfl rfl (by decide) rfl rfl (hid kn_290) ?_
                refine q_iconst rfl ?_
                refine v_ic_ne_f (t := 12) rfl (by decide) (by decide) ?_
                refine q_iconst rfl ?_
                refine q_goto (t := 13) rfl (by decide) ?_
                refine v_zret rfl rfl (by decide) ?_
                refine bk_inl ?_
                refine v_if_ne_t (t := 115) rfl (by decide) (by decide) ?_
                refine q_aload_n rfl rfl ?_
                have kn_291 : Hid (c_283 41 3 = e1) := (hF_285 41 3 (fun h => absurd h.2 (ni rfl))).trans (hid kn_280)
                refine v_cv rfl rfl rfl rfl (by decide) ⟨⟨rfl, rfl⟩, by decide, rfl⟩ (Nat.le_of_ble_eq_true rfl) (Nat.le_of_ble_eq_true rfl) (f_159 (e1 := e1) (a9 := (nx F e1 a)) (B := H) (L8 := (ln F e1 (nx F e1 a))) hI_284 ((hid kn_291)) ((hz_286)) (fun j => ((hF_285 43 j (fun h => absurd h.1 (nn rfl))).trans ((hF_278 43 j (fun h => absurd h.1 (nn rfl))).trans (hFc 43 j (fun q => q.elim (fun h => absurd h.1 (nn rfl)) (fun q => q.elim (fun h => absurd h.1 (nn rfl)) (fun q => q.elim (fun h => absurd h.1 (nn rfl)) (fun q => q.elim (fun h => absurd h.1 (nn rfl)) (fun q => q.elim (fun h => absurd h.1 (nn rfl)) (fun q => q.elim (fun h => absurd h.1 (nn rfl)) (fun q => q.elim (fun h => absurd h.1 (nn rfl)) (fun q => q.elim (fun h => absurd h (nn rfl)) (fun q => q.elim (fun h => absurd h (nn rfl)) (fun h => absurd h (nn rfl)))))))))))))).trans (hH j)) ((ln_tr hU (by omega) (by omega)).trans (rfl)) (fun c_292 hI_293 hF_294 hz_295 => ?_))
                refine bk_inl ?_
                refine q_aload_n rfl rfl ?_
                refine q_iload_n rfl rfl ?_
                have hw_296 : (wv F (nx F e1 a) (ln F e1 (nx F e1 a))) = 10290 := by omega
                rw [hw_296]
                have kn_297 : Hid (c_85 1 1 = e1) := (hF_87 1 1 (fun q => q.elim (fun h => absurd h.2 (ni rfl)) (fun q => q.elim (fun h => absurd h.2 (ni rfl)) (fun h => absurd h.2 (ni rfl))))).trans (hid kn_64)
                have kn_298 : Hid (c_292 41 3 = e1) := (hF_294 41 3 (fun h => absurd h.2 (ni rfl))).trans (hid kn_291)
                have kn_299 : Hid (c_292 41 16 = jr) := (hF_294 41 16 (fun h => absurd h.2 (ni rfl))).trans (hid kn_288)
                have kn_300 : Hid (c_276 41 17 = st) := (hF_278 41 17 (fun h => absurd h.2 (ni rfl))).trans (hr_st)
                have kn_301 : Hid (c_283 41 17 = st) := (hF_285 41 17 (fun h => absurd h.2 (ni rfl))).trans (hid kn_300)
                have kn_302 : Hid (c_292 41 17 = st) := (hF_294 41 17 (fun h => absurd h.2 (ni rfl))).trans (hid kn_301)
                have kn_303 : Hid (c_276 41 18 = si) := (hF_278 41 18 (fun h => absurd h.2 (ni rfl))).trans (hr_si)
                have kn_304 : Hid (c_283 41 18 = si) := (hF_285 41 18 (fun h => absurd h.2 (ni rfl))).trans (hid kn_303)
                have kn_305 : Hid (c_292 41 18 = si) := (hF_294 41 18 (fun h => absurd h.2 (ni rfl))).trans (hid kn_304)
                have h_306 : c_85 1 4 = 0 := (hz_91)
                have h_307 : c_85 1 2 = (ln F e1 (nx F e1 a)) := (hz_90)
                have h_308 : c_85 1 5 = (-1) := (hz_92)
                have kn_309 : Hid (c_292 41 5 = (-1)) := (hF_294 41 5 (fun h => absurd h.2 (ni rfl))).trans (hid kn_290)
                have h_310 : c_292 41 5 = (-1) := (hid kn_309)
                have h_311 : c_292 41 4 = (ln F e1 (nx F e1 a)) := (hz_295)
                have h_312 := ir_41_6 hI2
                have kn_313 : Hid (c_276 41 6 = c2 41 6) := hF_278 41 6 (fun h => absurd h.2 (ni rfl))
                have kn_314 : Hid (c_283 41 6 = c2 41 6) := (hF_285 41 6 (fun h => absurd h.2 (ni rfl))).trans (hid kn_313)
                have kn_315 : Hid (c_292 41 6 = c2 41 6) := (hF_294 41 6 (fun h => absurd h.2 (ni rfl))).trans (hid kn_314)
                have h_316 : c_292 41 6 = c2 41 6 := (hid kn_315)
                refine v_cv rfl rfl rfl rfl (by decide) ⟨⟨rfl, rfl⟩, by decide, rfl⟩ (Nat.le_of_ble_eq_true rfl) (Nat.le_of_ble_eq_true rfl) (L_33_0 (m := c_85) (e1 := e1) (jr := jr) (st := st) (si := si) (F := F) (H := H) hI_293 hI_86 hI_260 hA (by omega) ((hid kn_297)) ((hid kn_298)) ((hid kn_247)) ((hid kn_299)) ((hid kn_253)) ((hid kn_302)) ((hid kn_257)) ((hid kn_305)) (fun j => ((hF_87 2 j (fun q => q.elim (fun h => absurd h.1 (nn rfl)) (fun q => q.elim (fun h => absurd h.1 (nn rfl)) (fun h => absurd h.1 (nn rfl))))).trans ((hF_62 2 j (fun h => absurd h.1 (nn rfl))).trans ((hF_26 2 j (fun h => absurd h.1 (nn rfl))).trans (hFm 2 j (fun q => q.elim (fun h => absurd h.1 (nn rfl)) (fun q => q.elim (fun h => absurd h.1 (nn rfl)) (fun q => q.elim (fun h => absurd h.1 (nn rfl)) (fun q => q.elim (fun h => absurd h.1 (pn0 hA rfl)) (fun q => q.elim (fun h => absurd h.1 (pn0 hA rfl)) (fun q => q.elim (fun h => absurd h.1 (pn0 hA rfl)) (fun q => q.elim (fun h => absurd h.1 (pn0 hA rfl)) (fun q => q.elim (fun h => absurd h (pn hA rfl rfl)) (fun q => q.elim (fun h => absurd h (pn hA rfl rfl)) (fun q => q.elim (fun h => absurd h (pn hA rfl rfl)) (fun q => q.elim (fun h => absurd h.1 (pn0 hA rfl)) (fun q => q.elim (fun h => absurd h.1 (pn0 hA rfl)) (fun q => q.elim (fun h => absurd h (pn hA rfl rfl)) (fun h => absurd h.1 (pn hA rfl rfl))))))))))))))))))).trans (hF j)) (fun j => ((hF_294 43 j (fun h => absurd h.1 (nn rfl))).trans ((hF_285 43 j (fun h => absurd h.1 (nn rfl))).trans ((hF_278 43 j (fun h => absurd h.1 (nn rfl))).trans (hFc 43 j (fun q => q.elim (fun h => absurd h.1 (nn rfl)) (fun q => q.elim (fun h => absurd h.1 (nn rfl)) (fun q => q.elim (fun h => absurd h.1 (nn rfl)) (fun q => q.elim (fun h => absurd h.1 (nn rfl)) (fun q => q.elim (fun h => absurd h.1 (nn rfl)) (fun q => q.elim (fun h => absurd h.1 (nn rfl)) (fun q => q.elim (fun h => absurd h.1 (nn rfl)) (fun q => q.elim (fun h => absurd h (nn rfl)) (fun q => q.elim (fun h => absurd h (nn rfl)) (fun h => absurd h (nn rfl))))))))))))))).trans (hH j)) hU (by unfold Rt; omega) hG_262 (fun c_317 hI_318 hF_319 hR_321 h_322 h_323 h_324 => ?_))
                refine bk_inl ?_
                have h_325 := ir_41_16 hI_318
                have h_326 := ir_p0_0 hI_260 hA
                have h_327 := ir_41_17 hI_318
                have h_328 := ir_p0_1 hI_260 hA
                have h_329 := ir_41_18 hI_318
                have h_330 := ir_p0_2 hI_260 hA
                refine q_aload_n rfl rfl ?_
                refine v_bip rfl (by decide) ?_
                have kn_331 : Hid (c_259 1 1 = e1) := (hF_261 1 1 (fun q => q.elim (fun h => absurd h.2 (ni rfl)) (fun q => q.elim (fun h => absurd h.2 (ni rfl)) (fun q => q.elim (fun h => absurd h.2 (ni rfl)) (fun q => q.elim (fun h => absurd h.1 (pn0 hA rfl)) (fun q => q.elim (fun h => absurd h.1 (pn0 hA rfl)) (fun q => q.elim (fun h => absurd h.1 (pn0 hA rfl)) (fun q => q.elim (fun h => absurd h.1 (pn0 hA rfl)) (fun q => q.elim (fun h => absurd h (pn hA rfl rfl)) (fun q => q.elim (fun h => absurd h (pn hA rfl rfl)) (fun h => absurd h (pn hA rfl rfl)))))))))))).trans (hid kn_297)
                have kn_332 : Hid (c_317 41 3 = e1) := (hF_319 41 3 (fun q => q.elim (fun h => absurd h.2 (ni rfl)) (fun q => q.elim (fun h => absurd h.2 (ni rfl)) (fun q => q.elim (fun h => absurd h.2 (ni rfl)) (fun q => q.elim (fun h => absurd h.2 (ni rfl)) (fun q => q.elim (fun h => absurd h.2 (ni rfl)) (fun q => q.elim (fun h => absurd h.2 (ni rfl)) (fun q => q.elim (fun h => absurd h.2 (ni rfl)) (fun q => q.elim (fun h => absurd h (nn rfl)) (fun q => q.elim (fun h => absurd h (nn rfl)) (fun h => absurd h (nn rfl)))))))))))).trans (hid kn_298)
                have h_333 := ir_1_2 hI_260
                refine v_cv rfl rfl rfl rfl (by decide) ⟨⟨rfl, rfl⟩, by decide, rfl⟩ (Nat.le_of_ble_eq_true rfl) (Nat.le_of_ble_eq_true rfl) (L_11_9 (m := c_259) (e1 := e1) (a9 := c_259 1 2) (F := F) (H := H) hI_318 hI_260 hI_265 ((hid kn_331)) ((hid kn_332)) (rfl) (fun j => ((hF_261 2 j (fun q => q.elim (fun h => absurd h.1 (nn rfl)) (fun q => q.elim (fun h => absurd h.1 (nn rfl)) (fun q => q.elim (fun h => absurd h.1 (nn rfl)) (fun q => q.elim (fun h => absurd h.1 (pn0 hA rfl)) (fun q => q.elim (fun h => absurd h.1 (pn0 hA rfl)) (fun q => q.elim (fun h => absurd h.1 (pn0 hA rfl)) (fun q => q.elim (fun h => absurd h.1 (pn0 hA rfl)) (fun q => q.elim (fun h => absurd h (pn hA rfl rfl)) (fun q => q.elim (fun h => absurd h (pn hA rfl rfl)) (fun h => absurd h (pn hA rfl rfl)))))))))))).trans ((hF_87 2 j (fun q => q.elim (fun h => absurd h.1 (nn rfl)) (fun q => q.elim (fun h => absurd h.1 (nn rfl)) (fun h => absurd h.1 (nn rfl))))).trans ((hF_62 2 j (fun h => absurd h.1 (nn rfl))).trans ((hF_26 2 j (fun h => absurd h.1 (nn rfl))).trans (hFm 2 j (fun q => q.elim (fun h => absurd h.1 (nn rfl)) (fun q => q.elim (fun h => absurd h.1 (nn rfl)) (fun q => q.elim (fun h => absurd h.1 (nn rfl)) (fun q => q.elim (fun h => absurd h.1 (pn0 hA rfl)) (fun q => q.elim (fun h => absurd h.1 (pn0 hA rfl)) (fun q => q.elim (fun h => absurd h.1 (pn0 hA rfl)) (fun q => q.elim (fun h => absurd h.1 (pn0 hA rfl)) (fun q => q.elim (fun h => absurd h (pn hA rfl rfl)) (fun q => q.elim (fun h => absurd h (pn hA rfl rfl)) (fun q => q.elim (fun h => absurd h (pn hA rfl rfl)) (fun q => q.elim (fun h => absurd h.1 (pn0 hA rfl)) (fun q => q.elim (fun h => absurd h.1 (pn0 hA rfl)) (fun q => q.elim (fun h => absurd h (pn hA rfl rfl)) (fun h => absurd h.1 (pn hA rfl rfl)))))))))))))))))))).trans (hF j)) (fun j => ((hF_319 43 j (fun q => q.elim (fun h => absurd h.1 (nn rfl)) (fun q => q.elim (fun h => absurd h.1 (nn rfl)) (fun q => q.elim (fun h => absurd h.1 (nn rfl)) (fun q => q.elim (fun h => absurd h.1 (nn rfl)) (fun q => q.elim (fun h => absurd h.1 (nn rfl)) (fun q => q.elim (fun h => absurd h.1 (nn rfl)) (fun q => q.elim (fun h => absurd h.1 (nn rfl)) (fun q => q.elim (fun h => absurd h (nn rfl)) (fun q => q.elim (fun h => absurd h (nn rfl)) (fun h => absurd h (nn rfl)))))))))))).trans ((hF_294 43 j (fun h => absurd h.1 (nn rfl))).trans ((hF_285 43 j (fun h => absurd h.1 (nn rfl))).trans ((hF_278 43 j (fun h => absurd h.1 (nn rfl))).trans (hFc 43 j (fun q => q.elim (fun h => absurd h.1 (nn rfl)) (fun q => q.elim (fun h => absurd h.1 (nn rfl)) (fun q => q.elim (fun h => absurd h.1 (nn rfl)) (fun q => q.elim (fun h => absurd h.1 (nn rfl)) (fun q => q.elim (fun h => absurd h.1 (nn rfl)) (fun q => q.elim (fun h => absurd h.1 (nn rfl)) (fun q => q.elim (fun h => absurd h.1 (nn rfl)) (fun q => q.elim (fun h => absurd h (nn rfl)) (fun q => q.elim (fun h => absurd h (nn rfl)) (fun h => absurd h (nn rfl)))))))))))))))).trans (hH j)) hU hR_321 hG_267 (fun c_334 hI_335 hF_336 hR_338 h_339 => ?_))
                refine bk_inl ?_
                have h_340 := ir_1_2 hI_265
                refine v_iinc (v := v + 1) rfl rfl (by decide) (by omega) ?_
                refine q_goto (t := 44) rfl (by decide) ?_
                refine Wp_ls [(0, .ref 41), (1, vi a1), (2, vi (v + 1))] (lsub_cons rfl (lsub_cons rfl (lsub_cons rfl lsub_nil))) ?_
                have h_341 := ir_41_4 hI_335
                have h_342 := ir_1_5 hI_265
                have h_343 := ir_41_5 hI_335
                have h_344 := ir_41_6 hI_335
                have h_345 := rt_ok hR_338 (by omega)
                have hro_hR_338 := rt_ok hR_338 (by omega)
                have kn_346 : Hid (c_264 A 0 = c_259 A 0) := hF_266 A 0 (fun q => q.elim (fun h => absurd h.1 (np0 hA rfl)) (fun q => q.elim (fun h => absurd h.1 (np0 hA rfl)) (fun h => absurd h.1 (np0 hA rfl))))
                have kn_347 : Hid (c_334 41 16 = c_317 41 16) := hF_336 41 16 (fun q => q.elim (fun h => absurd h.2 (ni rfl)) (fun q => q.elim (fun h => absurd h.2 (ni rfl)) (fun h => absurd h.2 (ni rfl))))
                have kn_348 : Hid (c_264 A 1 = c_259 A 1) := hF_266 A 1 (fun q => q.elim (fun h => absurd h.1 (np0 hA rfl)) (fun q => q.elim (fun h => absurd h.1 (np0 hA rfl)) (fun h => absurd h.1 (np0 hA rfl))))
                have kn_349 : Hid (c_334 41 17 = c_317 41 17) := hF_336 41 17 (fun q => q.elim (fun h => absurd h.2 (ni rfl)) (fun q => q.elim (fun h => absurd h.2 (ni rfl)) (fun h => absurd h.2 (ni rfl))))
                have kn_350 : Hid (c_264 A 2 = c_259 A 2) := hF_266 A 2 (fun q => q.elim (fun h => absurd h.1 (np0 hA rfl)) (fun q => q.elim (fun h => absurd h.1 (np0 hA rfl)) (fun h => absurd h.1 (np0 hA rfl))))
                have kn_351 : Hid (c_334 41 18 = c_317 41 18) := hF_336 41 18 (fun q => q.elim (fun h => absurd h.2 (ni rfl)) (fun q => q.elim (fun h => absurd h.2 (ni rfl)) (fun h => absurd h.2 (ni rfl))))
                exact ih c_334 c_264 (v + 1) (c_264 1 2) (c_259 A 0) (c_259 A 1) (c_259 A 2) hI_335 (fun a j hm => (hF_336 a j (fun q => q.elim (fun h => hm (Or.inl h)) (fun q => q.elim (fun h => hm (Or.inr (Or.inl h))) (fun h => hm (Or.inr (Or.inr (Or.inl h))))))).trans ((hF_319 a j (fun q => q.elim (fun h => hm (Or.inl h)) (fun q => q.elim (fun h => hm (Or.inr (Or.inl h))) (fun q => q.elim (fun h => hm (Or.inr (Or.inr (Or.inl h)))) (fun q => q.elim (fun h => hm (Or.inr (Or.inr (Or.inr (Or.inl h))))) (fun q => q.elim (fun h => hm (Or.inr (Or.inr (Or.inr (Or.inr (Or.inl h)))))) (fun q => q.elim (fun h => hm (Or.inr (Or.inr (Or.inr (Or.inr (Or.inr (Or.inl h))))))) (fun q => q.elim (fun h => hm (Or.inr (Or.inr (Or.inr (Or.inr (Or.inr (Or.inr (Or.inl h)))))))) (fun q => q.elim (fun h => hm (Or.inr (Or.inr (Or.inr (Or.inr (Or.inr (Or.inr (Or.inr (Or.inl h))))))))) (fun q => q.elim (fun h => hm (Or.inr (Or.inr (Or.inr (Or.inr (Or.inr (Or.inr (Or.inr (Or.inr (Or.inl h)))))))))) (fun h => hm (Or.inr (Or.inr (Or.inr (Or.inr (Or.inr (Or.inr (Or.inr (Or.inr (Or.inr h)))))))))))))))))))).trans ((hF_294 a j (fun h => hm (Or.inl h))).trans ((hF_285 a j (fun h => hm (Or.inl h))).trans ((hF_278 a j (fun h => hm (Or.inl h))).trans (hFc a j (fun q => q.elim (fun h => hm (Or.inl h)) (fun q => q.elim (fun h => hm (Or.inr (Or.inl h))) (fun q => q.elim (fun h => hm (Or.inr (Or.inr (Or.inl h)))) (fun q => q.elim (fun h => hm (Or.inr (Or.inr (Or.inr (Or.inl h))))) (fun q => q.elim (fun h => hm (Or.inr (Or.inr (Or.inr (Or.inr (Or.inl h)))))) (fun q => q.elim (fun h => hm (Or.inr (Or.inr (Or.inr (Or.inr (Or.inr (Or.inl h))))))) (fun q => q.elim (fun h => hm (Or.inr (Or.inr (Or.inr (Or.inr (Or.inr (Or.inr (Or.inl h)))))))) (fun q => q.elim (fun h => hm (Or.inr (Or.inr (Or.inr (Or.inr (Or.inr (Or.inr (Or.inr (Or.inl h))))))))) (fun q => q.elim (fun h => hm (Or.inr (Or.inr (Or.inr (Or.inr (Or.inr (Or.inr (Or.inr (Or.inr (Or.inl h)))))))))) (fun h => hm (Or.inr (Or.inr (Or.inr (Or.inr (Or.inr (Or.inr (Or.inr (Or.inr (Or.inr h))))))))))))))))))))))))) hI_265 (fun a j hm => (hF_266 a j (fun q => q.elim (fun h => hm (Or.inl h)) (fun q => q.elim (fun h => hm (Or.inr (Or.inl h))) (fun h => hm (Or.inr (Or.inr (Or.inl h))))))).trans ((hF_261 a j (fun q => q.elim (fun h => hm (Or.inl h)) (fun q => q.elim (fun h => hm (Or.inr (Or.inl h))) (fun q => q.elim (fun h => hm (Or.inr (Or.inr (Or.inl h)))) (fun q => q.elim (fun h => hm (Or.inr (Or.inr (Or.inr (Or.inl h))))) (fun q => q.elim (fun h => hm (Or.inr (Or.inr (Or.inr (Or.inr (Or.inl h)))))) (fun q => q.elim (fun h => hm (Or.inr (Or.inr (Or.inr (Or.inr (Or.inr (Or.inl h))))))) (fun q => q.elim (fun h => hm (Or.inr (Or.inr (Or.inr (Or.inr (Or.inr (Or.inr (Or.inl h)))))))) (fun q => q.elim (fun h => hm (Or.inr (Or.inr (Or.inr (Or.inr (Or.inr (Or.inr (Or.inr (Or.inl h))))))))) (fun q => q.elim (fun h => hm (Or.inr (Or.inr (Or.inr (Or.inr (Or.inr (Or.inr (Or.inr (Or.inr (Or.inl h)))))))))) (fun h => hm (Or.inr (Or.inr (Or.inr (Or.inr (Or.inr (Or.inr (Or.inr (Or.inr (Or.inr (Or.inl h))))))))))))))))))))).trans ((hF_87 a j (fun q => q.elim (fun h => hm (Or.inl h)) (fun q => q.elim (fun h => hm (Or.inr (Or.inl h))) (fun h => hm (Or.inr (Or.inr (Or.inl h))))))).trans ((hF_62 a j (fun h => hm (Or.inl h))).trans ((hF_26 a j (fun h => hm (Or.inl h))).trans (hFm a j (fun q => q.elim (fun h => hm (Or.inl h)) (fun q => q.elim (fun h => hm (Or.inr (Or.inl h))) (fun q => q.elim (fun h => hm (Or.inr (Or.inr (Or.inl h)))) (fun q => q.elim (fun h => hm (Or.inr (Or.inr (Or.inr (Or.inl h))))) (fun q => q.elim (fun h => hm (Or.inr (Or.inr (Or.inr (Or.inr (Or.inl h)))))) (fun q => q.elim (fun h => hm (Or.inr (Or.inr (Or.inr (Or.inr (Or.inr (Or.inl h))))))) (fun q => q.elim (fun h => hm (Or.inr (Or.inr (Or.inr (Or.inr (Or.inr (Or.inr (Or.inl h)))))))) (fun q => q.elim (fun h => hm (Or.inr (Or.inr (Or.inr (Or.inr (Or.inr (Or.inr (Or.inr (Or.inl h))))))))) (fun q => q.elim (fun h => hm (Or.inr (Or.inr (Or.inr (Or.inr (Or.inr (Or.inr (Or.inr (Or.inr (Or.inl h)))))))))) (fun q => q.elim (fun h => hm (Or.inr (Or.inr (Or.inr (Or.inr (Or.inr (Or.inr (Or.inr (Or.inr (Or.inr (Or.inl h))))))))))) (fun q => q.elim (fun h => hm (Or.inr (Or.inr (Or.inr (Or.inr (Or.inr (Or.inr (Or.inr (Or.inr (Or.inr (Or.inr (Or.inl h)))))))))))) (fun q => q.elim (fun h => hm (Or.inr (Or.inr (Or.inr (Or.inr (Or.inr (Or.inr (Or.inr (Or.inr (Or.inr (Or.inr (Or.inr (Or.inl h))))))))))))) (fun q => q.elim (fun h => hm (Or.inr (Or.inr (Or.inr (Or.inr (Or.inr (Or.inr (Or.inr (Or.inr (Or.inr (Or.inr (Or.inr (Or.inr (Or.inl h)))))))))))))) (fun h => hm (Or.inr (Or.inr (Or.inr (Or.inr (Or.inr (Or.inr (Or.inr (Or.inr (Or.inr (Or.inr (Or.inr (Or.inr (Or.inr h))))))))))))))))))))))))))))))))) ⟨by omega, by omega⟩ ⟨by omega, by omega⟩ ⟨by omega, by omega⟩ ⟨by omega, by omega⟩ ⟨by omega, by omega⟩ (rfl) (hro_hR_338.2.2.1) ((hid kn_346)) ((show _ = c_317 41 16 from (hid kn_347)).trans (by omega)) ((hid kn_348)) ((show _ = c_317 41 17 from (hid kn_349)).trans (by omega)) ((hid kn_350)) ((show _ = c_317 41 18 from (hid kn_351)).trans (by omega)) ((show _ = c_264 1 4 from rfl).trans (by omega)) (hro_hR_338.2.1) ((show _ = c_264 1 5 from rfl).trans (by omega)) hG_270 (by omega)
              · skip
                refine q_iload_n rfl rfl ?_
                refine v_bip rfl (by decide) ?_
                refine v_ic_gt_f (t := 85) rfl (by decide) (by omega) ?_
                refine q_aload_n rfl rfl ?_
                refine v_cv rfl rfl rfl rfl (by decide) ⟨⟨rfl, rfl⟩, by decide, rfl⟩ (Nat.le_of_ble_eq_true rfl) (Nat.le_of_ble_eq_true rfl) ?_
                refine q_aload_n rfl rfl ?_
                refine v_cv rfl rfl rfl rfl (by decide) ⟨⟨rfl, rfl⟩, by decide, rfl⟩ (Nat.le_of_ble_eq_true rfl) (Nat.le_of_ble_eq_true rfl) ?_
                refine q_aload_n rfl rfl ?_
                refine v_gi (z := 4) (v := c_264 1 4) rfl rfl rfl (by decide) rfl rfl rfl ?_
                refine v_if_ne_t (t := 11) rfl (by decide) (by omega) ?_
                refine q_iconst rfl ?_
                refine v_zret rfl rfl (by decide) ?_
                refine bk_inl ?_
                refine v_if_eq_t (t := 22) rfl (by decide) (by decide) ?_
                refine q_iconst rfl ?_
                refine v_zret rfl rfl (by decide) ?_
                refine bk_inl ?_
                refine v_if_eq_t (t := 85) rfl (by decide) (by decide) ?_
                refine q_vret rfl rfl ?_
                intro hE_352
                have hW : Wd P Q P P c_264 = Wd P Q P P m9 := (Prod.mk.inj (Prod.mk.inj hE_352).2).1
                have h_353 := ir_1_4 hJ9
                have h_354 : m9 1 4 = c_264 1 4 := wd_fv (z := 4) 4 rfl hW rfl rfl rfl rfl (by decide) rfl ⟨by omega, by omega⟩ ⟨by omega, by omega⟩
                have h_355 := ir_1_2 hI_265
                have h_356 := ir_1_2 hJ9
                have h_357 : m9 1 2 = c_264 1 2 := wd_fv (z := 2) 2 rfl hW rfl rfl rfl rfl (by decide) rfl ⟨by omega, by omega⟩ ⟨by omega, by omega⟩
                have h_358 := ir_1_5 hI_265
                have h_359 := ir_1_5 hJ9
                have h_360 : m9 1 5 = c_264 1 5 := wd_fv (z := 5) 5 rfl hW rfl rfl rfl rfl (by decide) rfl ⟨by omega, by omega⟩ ⟨by omega, by omega⟩
                have h_361 := ir_p0_0 hI_260 hA
                have kn_362 : Hid (c_264 A 0 = c_259 A 0) := hF_266 A 0 (fun q => q.elim (fun h => absurd h.1 (np0 hA rfl)) (fun q => q.elim (fun h => absurd h.1 (np0 hA rfl)) (fun h => absurd h.1 (np0 hA rfl))))
                have h_363 := ir_p0_0 hJ9 hA
                have h_364 : m9 A 0 = c_259 A 0 := wd_fv (z := 0) 0 rfl hW (ck_A hA) (ck_A hA) rfl rfl (by omega) (hid kn_362) ⟨by omega, by omega⟩ ⟨by omega, by omega⟩
                refine q_aload_n rfl rfl ?_
                refine v_cv rfl rfl rfl rfl (by decide) ⟨⟨rfl, rfl⟩, by decide, rfl⟩ (Nat.le_of_ble_eq_true rfl) (Nat.le_of_ble_eq_true rfl) ?_
                refine q_aload_n rfl rfl ?_
                refine v_gi (z := 5) (v := (-1)) rfl rfl rfl (by decide) rfl rfl (hc_1) ?_
                refine q_iconst rfl ?_
                refine v_ic_ne_f (t := 12) rfl (by decide) (by decide) ?_
                refine q_iconst rfl ?_
                refine q_goto (t := 13) rfl (by decide) ?_
                refine v_zret rfl rfl (by decide) ?_
                refine bk_inl ?_
                refine v_if_eq_f (t := 136) rfl (by decide) (by decide) ?_
                refine q_aload_n rfl rfl ?_
                refine v_cv rfl rfl rfl rfl (by decide) ⟨⟨rfl, rfl⟩, by decide, rfl⟩ (Nat.le_of_ble_eq_true rfl) (Nat.le_of_ble_eq_true rfl) ?_
                refine q_aload_n rfl rfl ?_
                have kn_365 : Hid (c2 41 3 = e1) := (hFc 41 3 (fun q => q.elim (fun h => absurd h.2 (ni rfl)) (fun q => q.elim (fun h => absurd h.2 (ni rfl)) (fun q => q.elim (fun h => absurd h.2 (ni rfl)) (fun q => q.elim (fun h => absurd h.2 (ni rfl)) (fun q => q.elim (fun h => absurd h.2 (ni rfl)) (fun q => q.elim (fun h => absurd h.2 (ni rfl)) (fun q => q.elim (fun h => absurd h.2 (ni rfl)) (fun q => q.elim (fun h => absurd h (nn rfl)) (fun q => q.elim (fun h => absurd h (nn rfl)) (fun h => absurd h (nn rfl)))))))))))).trans (hr_e1)
                have h_366 : -2147483648 ≤ (H (nx F e1 a)) ∧ (H (nx F e1 a)) ≤ 2147483647 := by rw [← hH (nx F e1 a)]; exact ir_43 hI (nx F e1 a)
                have h_367 := hU (nx F e1 a) (by omega) (by omega)
                have h_368 := hb_or (b := H) (e := e1) (r := (nx F e1 a))
                have h_369 := hb_bd (b := H) (e := e1) (r := (nx F e1 a)) (lo := -2147483648) (hi := 2147483647) ⟨by omega, by omega⟩ (by decide)
                refine v_cv rfl rfl rfl rfl (by decide) ⟨⟨rfl, rfl⟩, by decide, rfl⟩ (Nat.le_of_ble_eq_true rfl) (Nat.le_of_ble_eq_true rfl) (f_154 (e1 := e1) (a9 := a) (B := H) (r8 := (nx F e1 a)) (r := (hb H e1 (nx F e1 a))) hI2 ((hid kn_365)) ((hr_a)) (fun j => (hFc 43 j (fun q => q.elim (fun h => absurd h.1 (nn rfl)) (fun q => q.elim (fun h => absurd h.1 (nn rfl)) (fun q => q.elim (fun h => absurd h.1 (nn rfl)) (fun q => q.elim (fun h => absurd h.1 (nn rfl)) (fun q => q.elim (fun h => absurd h.1 (nn rfl)) (fun q => q.elim (fun h => absurd h.1 (nn rfl)) (fun q => q.elim (fun h => absurd h.1 (nn rfl)) (fun q => q.elim (fun h => absurd h (nn rfl)) (fun q => q.elim (fun h => absurd h (nn rfl)) (fun h => absurd h (nn rfl)))))))))))).trans (hH j)) ((nx_tr hU (by omega) (by omega)).trans (rfl)) rfl (fun c_370 hI_371 hF_372 h_373 => ?_))
                refine bk_inl ?_
                refine q_pop rfl rfl ?_
                refine q_aload_n rfl rfl ?_
                refine v_gi (z := 4) (v := (nx F e1 a)) rfl rfl rfl (by decide) rfl rfl (h_373) ?_
                refine q_aload_n rfl rfl ?_
                have kn_374 : Hid (c_370 41 3 = e1) := (hF_372 41 3 (fun h => absurd h.2 (ni rfl))).trans (hid kn_365)
                refine v_gi (z := 3) (v := e1) rfl rfl rfl (by decide) rfl rfl (hid kn_374) ?_
                refine v_ic_ge_f (t := 20) rfl (by decide) (by omega) ?_
                refine q_iconst rfl ?_
                refine q_goto (t := 21) rfl (by decide) ?_
                refine v_zret rfl rfl (by decide) ?_
                refine bk_inl ?_
                refine v_if_eq_f (t := 136) rfl (by decide) (by decide) ?_
                refine q_aload_n rfl rfl ?_
                have h_375 := wv_bd (b := F) (r := (nx F e1 a)) (l := (ln F e1 (nx F e1 a))) (fun j h1 h2 => ⟨(ln_in (e := e1) (a := (nx F e1 a)) h1 (by omega)).1, (ln_in (e := e1) (a := (nx F e1 a)) h1 (by omega)).2.1⟩)
                have h_376 := wr8_0 (b := F) (r := (nx F e1 a)) (l := (ln F e1 (nx F e1 a))) (by omega) (fun j h1 h2 => ⟨(ln_in (e := e1) (a := (nx F e1 a)) h1 (by omega)).1, (ln_in (e := e1) (a := (nx F e1 a)) h1 (by omega)).2.1⟩) (by omega)
                refine v_cv rfl rfl rfl rfl (by decide) ⟨⟨rfl, rfl⟩, by decide, rfl⟩ (Nat.le_of_ble_eq_true rfl) (Nat.le_of_ble_eq_true rfl) (f_157 (e1 := e1) (a9 := (nx F e1 a)) (B := H) (r8 := (nx F e1 a)) (L8 := (ln F e1 (nx F e1 a))) (W8 := (wv F (nx F e1 a) (ln F e1 (nx F e1 a)))) hI_371 ((hid kn_374)) ((h_373)) (fun j => ((hF_372 43 j (fun h => absurd h.1 (nn rfl))).trans (hFc 43 j (fun q => q.elim (fun h => absurd h.1 (nn rfl)) (fun q => q.elim (fun h => absurd h.1 (nn rfl)) (fun q => q.elim (fun h => absurd h.1 (nn rfl)) (fun q => q.elim (fun h => absurd h.1 (nn rfl)) (fun q => q.elim (fun h => absurd h.1 (nn rfl)) (fun q => q.elim (fun h => absurd h.1 (nn rfl)) (fun q => q.elim (fun h => absurd h.1 (nn rfl)) (fun q => q.elim (fun h => absurd h (nn rfl)) (fun q => q.elim (fun h => absurd h (nn rfl)) (fun h => absurd h (nn rfl))))))))))))).trans (hH j)) ((nx_tr hU (by omega) (by omega)).trans ((nx_z (by omega)))) ((ln_tr hU (by omega) (by omega)).trans (rfl)) ((wv_tr hU (by omega) (by omega) (fun j h1 h2 => ⟨(ln_in (e := e1) (a := (nx F e1 a)) h1 (by omega)).1, (ln_in (e := e1) (a := (nx F e1 a)) h1 (by omega)).2.1⟩)).trans (rfl)) (fun c_377 hI_378 hF_379 hz_380 => ?_))
                refine bk_inl ?_
                refine q_istore_n rfl (by decide) ?_
                refine q_iload_n rfl rfl ?_
                refine q_call rfl rfl rfl rfl ?_
                refine q_iload_n rfl rfl ?_
                refine q_ldc_s rfl rfl rfl (by decide) ?_
                refine q_call rfl rfl rfl rfl (s_158_16 ?_)
                refine bk_inl ?_
                refine v_ic_eq_t (t := 36) rfl (by decide) (by omega) ?_
                refine q_iconst rfl ?_
                refine q_goto (t := 41) rfl (by decide) ?_
                refine v_zret rfl rfl (by decide) ?_
                refine bk_inl ?_
                refine v_if_ne_t (t := 82) rfl (by decide) (by decide) ?_
                refine q_iload_n rfl rfl ?_
                refine v_bip rfl (by decide) ?_
                refine v_ic_eq_f (t := 96) rfl (by decide) (by omega) ?_
                refine q_aload_n rfl rfl ?_
                refine q_iload_n rfl rfl ?_
                refine v_cv rfl rfl rfl rfl (by decide) ⟨⟨rfl, rfl⟩, by decide, rfl⟩ (Nat.le_of_ble_eq_true rfl) (Nat.le_of_ble_eq_true rfl) ?_
                refine q_iload_n rfl rfl ?_
                refine q_ldc_s rfl rfl rfl (by decide) ?_
                refine q_call rfl rfl rfl rfl (s_158_16 ?_)
                refine bk_inl ?_
                refine v_ic_ne_f (t := 26) rfl (by decide) (by omega) ?_
                refine q_aload_n rfl rfl ?_
                have kn_381 : Hid (c_370 41 16 = jr) := (hF_372 41 16 (fun h => absurd h.2 (ni rfl))).trans (hr_jr)
                have kn_382 : Hid (c_377 41 16 = jr) := (hF_379 41 16 (fun h => absurd h.2 (ni rfl))).trans (hid kn_381)
                refine v_gi (z := 16) (v := jr) rfl rfl rfl (by decide) rfl rfl (hid kn_382) ?_
                refine v_bip rfl (by decide) ?_
                refine v_ic_ne_t (t := 22) rfl (by decide) (by omega) ?_
                refine q_iconst rfl ?_
                refine q_goto (t := 73) rfl (by decide) ?_
                refine v_zret rfl rfl (by decide) ?_
                refine bk_inl ?_
                refine v_if_eq_t (t := 105) rfl (by decide) (by decide) ?_
                refine q_aload_n rfl rfl ?_
                refine v_cv rfl rfl rfl rfl (by decide) ⟨⟨rfl, rfl⟩, by decide, rfl⟩ (Nat.le_of_ble_eq_true rfl) (Nat.le_of_ble_eq_true rfl) ?_
                refine q_aload_n rfl rfl ?_
                have kn_383 : Hid (c_370 41 5 = (-1)) := (hF_372 41 5 (fun h => absurd h.2 (ni rfl))).trans (hc_1)
                have kn_384 : Hid (c_377 41 5 = (-1)) := (hF_379 41 5 (fun h => absurd h.2 (ni rfl))).trans (hid kn_383)
                refine v_gi (z := 5) (v := (-1)) rfl rfl rfl (by decide) rfl rfl (hid kn_384) ?_
                refine q_iconst rfl ?_
                refine v_ic_ne_f (t := 12) rfl (by decide) (by decide) ?_
                refine q_iconst rfl ?_
                refine q_goto (t := 13) rfl (by decide) ?_
                refine v_zret rfl rfl (by decide) ?_
                refine bk_inl ?_
                refine v_if_ne_t (t := 115) rfl (by decide) (by decide) ?_
                refine q_aload_n rfl rfl ?_
                have kn_385 : Hid (c_377 41 3 = e1) := (hF_379 41 3 (fun h => absurd h.2 (ni rfl))).trans (hid kn_374)
                refine v_cv rfl rfl rfl rfl (by decide) ⟨⟨rfl, rfl⟩, by decide, rfl⟩ (Nat.le_of_ble_eq_true rfl) (Nat.le_of_ble_eq_true rfl) (f_159 (e1 := e1) (a9 := (nx F e1 a)) (B := H) (L8 := (ln F e1 (nx F e1 a))) hI_378 ((hid kn_385)) ((hz_380)) (fun j => ((hF_379 43 j (fun h => absurd h.1 (nn rfl))).trans ((hF_372 43 j (fun h => absurd h.1 (nn rfl))).trans (hFc 43 j (fun q => q.elim (fun h => absurd h.1 (nn rfl)) (fun q => q.elim (fun h => absurd h.1 (nn rfl)) (fun q => q.elim (fun h => absurd h.1 (nn rfl)) (fun q => q.elim (fun h => absurd h.1 (nn rfl)) (fun q => q.elim (fun h => absurd h.1 (nn rfl)) (fun q => q.elim (fun h => absurd h.1 (nn rfl)) (fun q => q.elim (fun h => absurd h.1 (nn rfl)) (fun q => q.elim (fun h => absurd h (nn rfl)) (fun q => q.elim (fun h => absurd h (nn rfl)) (fun h => absurd h (nn rfl)))))))))))))).trans (hH j)) ((ln_tr hU (by omega) (by omega)).trans (rfl)) (fun c_386 hI_387 hF_388 hz_389 => ?_))
                refine bk_inl ?_
                refine q_aload_n rfl rfl ?_
                refine q_iload_n rfl rfl ?_
                have hw_390 : (wv F (nx F e1 a) (ln F e1 (nx F e1 a))) = 10290 := by omega
                rw [hw_390]
                have kn_391 : Hid (c_85 1 1 = e1) := (hF_87 1 1 (fun q => q.elim (fun h => absurd h.2 (ni rfl)) (fun q => q.elim (fun h => absurd h.2 (ni rfl)) (fun h => absurd h.2 (ni rfl))))).trans (hid kn_64)
                have kn_392 : Hid (c_386 41 3 = e1) := (hF_388 41 3 (fun h => absurd h.2 (ni rfl))).trans (hid kn_385)
                have kn_393 : Hid (c_386 41 16 = jr) := (hF_388 41 16 (fun h => absurd h.2 (ni rfl))).trans (hid kn_382)
                have kn_394 : Hid (c_370 41 17 = st) := (hF_372 41 17 (fun h => absurd h.2 (ni rfl))).trans (hr_st)
                have kn_395 : Hid (c_377 41 17 = st) := (hF_379 41 17 (fun h => absurd h.2 (ni rfl))).trans (hid kn_394)
                have kn_396 : Hid (c_386 41 17 = st) := (hF_388 41 17 (fun h => absurd h.2 (ni rfl))).trans (hid kn_395)
                have kn_397 : Hid (c_370 41 18 = si) := (hF_372 41 18 (fun h => absurd h.2 (ni rfl))).trans (hr_si)
                have kn_398 : Hid (c_377 41 18 = si) := (hF_379 41 18 (fun h => absurd h.2 (ni rfl))).trans (hid kn_397)
                have kn_399 : Hid (c_386 41 18 = si) := (hF_388 41 18 (fun h => absurd h.2 (ni rfl))).trans (hid kn_398)
                have h_400 : c_85 1 4 = 0 := (hz_91)
                have h_401 : c_85 1 2 = (ln F e1 (nx F e1 a)) := (hz_90)
                have h_402 : c_85 1 5 = (-1) := (hz_92)
                have kn_403 : Hid (c_386 41 5 = (-1)) := (hF_388 41 5 (fun h => absurd h.2 (ni rfl))).trans (hid kn_384)
                have h_404 : c_386 41 5 = (-1) := (hid kn_403)
                have h_405 : c_386 41 4 = (ln F e1 (nx F e1 a)) := (hz_389)
                have h_406 := ir_41_6 hI2
                have kn_407 : Hid (c_370 41 6 = c2 41 6) := hF_372 41 6 (fun h => absurd h.2 (ni rfl))
                have kn_408 : Hid (c_377 41 6 = c2 41 6) := (hF_379 41 6 (fun h => absurd h.2 (ni rfl))).trans (hid kn_407)
                have kn_409 : Hid (c_386 41 6 = c2 41 6) := (hF_388 41 6 (fun h => absurd h.2 (ni rfl))).trans (hid kn_408)
                have h_410 : c_386 41 6 = c2 41 6 := (hid kn_409)
                refine v_cv rfl rfl rfl rfl (by decide) ⟨⟨rfl, rfl⟩, by decide, rfl⟩ (Nat.le_of_ble_eq_true rfl) (Nat.le_of_ble_eq_true rfl) (L_33_0 (m := c_85) (e1 := e1) (jr := jr) (st := st) (si := si) (F := F) (H := H) hI_387 hI_86 hI_260 hA (by omega) ((hid kn_391)) ((hid kn_392)) ((hid kn_247)) ((hid kn_393)) ((hid kn_253)) ((hid kn_396)) ((hid kn_257)) ((hid kn_399)) (fun j => ((hF_87 2 j (fun q => q.elim (fun h => absurd h.1 (nn rfl)) (fun q => q.elim (fun h => absurd h.1 (nn rfl)) (fun h => absurd h.1 (nn rfl))))).trans ((hF_62 2 j (fun h => absurd h.1 (nn rfl))).trans ((hF_26 2 j (fun h => absurd h.1 (nn rfl))).trans (hFm 2 j (fun q => q.elim (fun h => absurd h.1 (nn rfl)) (fun q => q.elim (fun h => absurd h.1 (nn rfl)) (fun q => q.elim (fun h => absurd h.1 (nn rfl)) (fun q => q.elim (fun h => absurd h.1 (pn0 hA rfl)) (fun q => q.elim (fun h => absurd h.1 (pn0 hA rfl)) (fun q => q.elim (fun h => absurd h.1 (pn0 hA rfl)) (fun q => q.elim (fun h => absurd h.1 (pn0 hA rfl)) (fun q => q.elim (fun h => absurd h (pn hA rfl rfl)) (fun q => q.elim (fun h => absurd h (pn hA rfl rfl)) (fun q => q.elim (fun h => absurd h (pn hA rfl rfl)) (fun q => q.elim (fun h => absurd h.1 (pn0 hA rfl)) (fun q => q.elim (fun h => absurd h.1 (pn0 hA rfl)) (fun q => q.elim (fun h => absurd h (pn hA rfl rfl)) (fun h => absurd h.1 (pn hA rfl rfl))))))))))))))))))).trans (hF j)) (fun j => ((hF_388 43 j (fun h => absurd h.1 (nn rfl))).trans ((hF_379 43 j (fun h => absurd h.1 (nn rfl))).trans ((hF_372 43 j (fun h => absurd h.1 (nn rfl))).trans (hFc 43 j (fun q => q.elim (fun h => absurd h.1 (nn rfl)) (fun q => q.elim (fun h => absurd h.1 (nn rfl)) (fun q => q.elim (fun h => absurd h.1 (nn rfl)) (fun q => q.elim (fun h => absurd h.1 (nn rfl)) (fun q => q.elim (fun h => absurd h.1 (nn rfl)) (fun q => q.elim (fun h => absurd h.1 (nn rfl)) (fun q => q.elim (fun h => absurd h.1 (nn rfl)) (fun q => q.elim (fun h => absurd h (nn rfl)) (fun q => q.elim (fun h => absurd h (nn rfl)) (fun h => absurd h (nn rfl))))))))))))))).trans (hH j)) hU (by unfold Rt; omega) hG_262 (fun c_411 hI_412 hF_413 hR_415 h_416 h_417 h_418 => ?_))
                refine bk_inl ?_
                have h_419 := ir_41_16 hI_412
                have h_420 := ir_41_17 hI_412
                have h_421 := ir_p0_1 hI_260 hA
                have h_422 := ir_41_18 hI_412
                have h_423 := ir_p0_2 hI_260 hA
                refine q_aload_n rfl rfl ?_
                refine v_bip rfl (by decide) ?_
                have kn_424 : Hid (c_259 1 1 = e1) := (hF_261 1 1 (fun q => q.elim (fun h => absurd h.2 (ni rfl)) (fun q => q.elim (fun h => absurd h.2 (ni rfl)) (fun q => q.elim (fun h => absurd h.2 (ni rfl)) (fun q => q.elim (fun h => absurd h.1 (pn0 hA rfl)) (fun q => q.elim (fun h => absurd h.1 (pn0 hA rfl)) (fun q => q.elim (fun h => absurd h.1 (pn0 hA rfl)) (fun q => q.elim (fun h => absurd h.1 (pn0 hA rfl)) (fun q => q.elim (fun h => absurd h (pn hA rfl rfl)) (fun q => q.elim (fun h => absurd h (pn hA rfl rfl)) (fun h => absurd h (pn hA rfl rfl)))))))))))).trans (hid kn_391)
                have kn_425 : Hid (c_411 41 3 = e1) := (hF_413 41 3 (fun q => q.elim (fun h => absurd h.2 (ni rfl)) (fun q => q.elim (fun h => absurd h.2 (ni rfl)) (fun q => q.elim (fun h => absurd h.2 (ni rfl)) (fun q => q.elim (fun h => absurd h.2 (ni rfl)) (fun q => q.elim (fun h => absurd h.2 (ni rfl)) (fun q => q.elim (fun h => absurd h.2 (ni rfl)) (fun q => q.elim (fun h => absurd h.2 (ni rfl)) (fun q => q.elim (fun h => absurd h (nn rfl)) (fun q => q.elim (fun h => absurd h (nn rfl)) (fun h => absurd h (nn rfl)))))))))))).trans (hid kn_392)
                have h_426 := ir_1_2 hI_260
                refine v_cv rfl rfl rfl rfl (by decide) ⟨⟨rfl, rfl⟩, by decide, rfl⟩ (Nat.le_of_ble_eq_true rfl) (Nat.le_of_ble_eq_true rfl) (L_11_9 (m := c_259) (e1 := e1) (a9 := c_259 1 2) (F := F) (H := H) hI_412 hI_260 hI_265 ((hid kn_424)) ((hid kn_425)) (rfl) (fun j => ((hF_261 2 j (fun q => q.elim (fun h => absurd h.1 (nn rfl)) (fun q => q.elim (fun h => absurd h.1 (nn rfl)) (fun q => q.elim (fun h => absurd h.1 (nn rfl)) (fun q => q.elim (fun h => absurd h.1 (pn0 hA rfl)) (fun q => q.elim (fun h => absurd h.1 (pn0 hA rfl)) (fun q => q.elim (fun h => absurd h.1 (pn0 hA rfl)) (fun q => q.elim (fun h => absurd h.1 (pn0 hA rfl)) (fun q => q.elim (fun h => absurd h (pn hA rfl rfl)) (fun q => q.elim (fun h => absurd h (pn hA rfl rfl)) (fun h => absurd h (pn hA rfl rfl)))))))))))).trans ((hF_87 2 j (fun q => q.elim (fun h => absurd h.1 (nn rfl)) (fun q => q.elim (fun h => absurd h.1 (nn rfl)) (fun h => absurd h.1 (nn rfl))))).trans ((hF_62 2 j (fun h => absurd h.1 (nn rfl))).trans ((hF_26 2 j (fun h => absurd h.1 (nn rfl))).trans (hFm 2 j (fun q => q.elim (fun h => absurd h.1 (nn rfl)) (fun q => q.elim (fun h => absurd h.1 (nn rfl)) (fun q => q.elim (fun h => absurd h.1 (nn rfl)) (fun q => q.elim (fun h => absurd h.1 (pn0 hA rfl)) (fun q => q.elim (fun h => absurd h.1 (pn0 hA rfl)) (fun q => q.elim (fun h => absurd h.1 (pn0 hA rfl)) (fun q => q.elim (fun h => absurd h.1 (pn0 hA rfl)) (fun q => q.elim (fun h => absurd h (pn hA rfl rfl)) (fun q => q.elim (fun h => absurd h (pn hA rfl rfl)) (fun q => q.elim (fun h => absurd h (pn hA rfl rfl)) (fun q => q.elim (fun h => absurd h.1 (pn0 hA rfl)) (fun q => q.elim (fun h => absurd h.1 (pn0 hA rfl)) (fun q => q.elim (fun h => absurd h (pn hA rfl rfl)) (fun h => absurd h.1 (pn hA rfl rfl)))))))))))))))))))).trans (hF j)) (fun j => ((hF_413 43 j (fun q => q.elim (fun h => absurd h.1 (nn rfl)) (fun q => q.elim (fun h => absurd h.1 (nn rfl)) (fun q => q.elim (fun h => absurd h.1 (nn rfl)) (fun q => q.elim (fun h => absurd h.1 (nn rfl)) (fun q => q.elim (fun h => absurd h.1 (nn rfl)) (fun q => q.elim (fun h => absurd h.1 (nn rfl)) (fun q => q.elim (fun h => absurd h.1 (nn rfl)) (fun q => q.elim (fun h => absurd h (nn rfl)) (fun q => q.elim (fun h => absurd h (nn rfl)) (fun h => absurd h (nn rfl)))))))))))).trans ((hF_388 43 j (fun h => absurd h.1 (nn rfl))).trans ((hF_379 43 j (fun h => absurd h.1 (nn rfl))).trans ((hF_372 43 j (fun h => absurd h.1 (nn rfl))).trans (hFc 43 j (fun q => q.elim (fun h => absurd h.1 (nn rfl)) (fun q => q.elim (fun h => absurd h.1 (nn rfl)) (fun q => q.elim (fun h => absurd h.1 (nn rfl)) (fun q => q.elim (fun h => absurd h.1 (nn rfl)) (fun q => q.elim (fun h => absurd h.1 (nn rfl)) (fun q => q.elim (fun h => absurd h.1 (nn rfl)) (fun q => q.elim (fun h => absurd h.1 (nn rfl)) (fun q => q.elim (fun h => absurd h (nn rfl)) (fun q => q.elim (fun h => absurd h (nn rfl)) (fun h => absurd h (nn rfl)))))))))))))))).trans (hH j)) hU hR_415 hG_267 (fun c_427 hI_428 hF_429 hR_431 h_432 => ?_))
                refine bk_inl ?_
                refine v_iinc (v := v + 1) rfl rfl (by decide) (by omega) ?_
                refine q_goto (t := 44) rfl (by decide) ?_
                refine q_aload_n rfl rfl ?_
                refine v_cv rfl rfl rfl rfl (by decide) ⟨⟨rfl, rfl⟩, by decide, rfl⟩ (Nat.le_of_ble_eq_true rfl) (Nat.le_of_ble_eq_true rfl) ?_
                refine q_aload_n rfl rfl ?_
                have h_433 := ir_41_5 hI_428
                have h_434 := ir_41_4 hI_428
                have h_435 := ir_41_6 hI_428
                have h_436 := rt_bad hR_431 (by omega)
                have hrb_hR_431 := rt_bad hR_431 (by omega)
                refine v_gi (z := 5) (v := c_264 1 5) rfl rfl rfl (by decide) rfl rfl hrb_hR_431.2.1 ?_
                refine q_iconst rfl ?_
                refine v_ic_ne_t (t := 12) rfl (by decide) (by omega) ?_
                refine q_iconst rfl ?_
                refine v_zret rfl rfl (by decide) ?_
                refine bk_inl ?_
                refine v_if_eq_t (t := 136) rfl (by decide) (by decide) ?_
                refine Wp_ls [(0, .ref 41), (1, vi a1)] (lsub_cons rfl (lsub_cons rfl lsub_nil)) ?_
                have h_437 : c_427 41 5 = c_264 1 5 := hrb_hR_431.2.1
                have h_438 : c_427 41 6 = c_264 1 4 := hrb_hR_431.2.2.2
                have kn_439 : Hid (c_427 41 16 = c_411 41 16) := hF_429 41 16 (fun q => q.elim (fun h => absurd h.2 (ni rfl)) (fun q => q.elim (fun h => absurd h.2 (ni rfl)) (fun h => absurd h.2 (ni rfl))))
                have h_440 : c_427 41 16 = c_411 41 16 := (hid kn_439)
                exact K c_427  hI_428 (fun a j hm => (hF_429 a j (fun q => q.elim (fun h => hm (Or.inl h)) (fun q => q.elim (fun h => hm (Or.inr (Or.inl h))) (fun h => hm (Or.inr (Or.inr (Or.inl h))))))).trans ((hF_413 a j (fun q => q.elim (fun h => hm (Or.inl h)) (fun q => q.elim (fun h => hm (Or.inr (Or.inl h))) (fun q => q.elim (fun h => hm (Or.inr (Or.inr (Or.inl h)))) (fun q => q.elim (fun h => hm (Or.inr (Or.inr (Or.inr (Or.inl h))))) (fun q => q.elim (fun h => hm (Or.inr (Or.inr (Or.inr (Or.inr (Or.inl h)))))) (fun q => q.elim (fun h => hm (Or.inr (Or.inr (Or.inr (Or.inr (Or.inr (Or.inl h))))))) (fun q => q.elim (fun h => hm (Or.inr (Or.inr (Or.inr (Or.inr (Or.inr (Or.inr (Or.inl h)))))))) (fun q => q.elim (fun h => hm (Or.inr (Or.inr (Or.inr (Or.inr (Or.inr (Or.inr (Or.inr (Or.inl h))))))))) (fun q => q.elim (fun h => hm (Or.inr (Or.inr (Or.inr (Or.inr (Or.inr (Or.inr (Or.inr (Or.inr (Or.inl h)))))))))) (fun h => hm (Or.inr (Or.inr (Or.inr (Or.inr (Or.inr (Or.inr (Or.inr (Or.inr (Or.inr h)))))))))))))))))))).trans ((hF_388 a j (fun h => hm (Or.inl h))).trans ((hF_379 a j (fun h => hm (Or.inl h))).trans ((hF_372 a j (fun h => hm (Or.inl h))).trans (hFc a j (fun q => q.elim (fun h => hm (Or.inl h)) (fun q => q.elim (fun h => hm (Or.inr (Or.inl h))) (fun q => q.elim (fun h => hm (Or.inr (Or.inr (Or.inl h)))) (fun q => q.elim (fun h => hm (Or.inr (Or.inr (Or.inr (Or.inl h))))) (fun q => q.elim (fun h => hm (Or.inr (Or.inr (Or.inr (Or.inr (Or.inl h)))))) (fun q => q.elim (fun h => hm (Or.inr (Or.inr (Or.inr (Or.inr (Or.inr (Or.inl h))))))) (fun q => q.elim (fun h => hm (Or.inr (Or.inr (Or.inr (Or.inr (Or.inr (Or.inr (Or.inl h)))))))) (fun q => q.elim (fun h => hm (Or.inr (Or.inr (Or.inr (Or.inr (Or.inr (Or.inr (Or.inr (Or.inl h))))))))) (fun q => q.elim (fun h => hm (Or.inr (Or.inr (Or.inr (Or.inr (Or.inr (Or.inr (Or.inr (Or.inr (Or.inl h)))))))))) (fun h => hm (Or.inr (Or.inr (Or.inr (Or.inr (Or.inr (Or.inr (Or.inr (Or.inr (Or.inr h))))))))))))))))))))))))) (by unfold Rt; omega) (by omega)
            · refine v_ic_ne_f (t := 41) rfl (by decide) (by omega) ?_
              refine q_iconst rfl ?_
              refine q_goto (t := 42) rfl (by decide) ?_
              refine v_zret rfl rfl (by decide) ?_
              refine bk_inl ?_
              refine v_if_eq_f (t := 59) rfl (by decide) (by decide) ?_
              refine q_aload_n rfl rfl ?_
              refine q_iconst rfl ?_
              refine q_iload_n rfl rfl ?_
              refine v_cv rfl rfl rfl rfl (by decide) ⟨⟨rfl, rfl⟩, by decide, rfl⟩ (Nat.le_of_ble_eq_true rfl) (Nat.le_of_ble_eq_true rfl) ?_
              refine q_aload_n rfl rfl ?_
              refine v_gi (z := 4) (v := 0) rfl rfl rfl (by decide) rfl rfl (hz_91) ?_
              refine v_if_ne_f (t := 17) rfl (by decide) (by decide) ?_
              refine q_aload_n rfl rfl ?_
              refine q_iload_n rfl rfl ?_
              refine v_pi (z := 4) rfl rfl rfl (by decide) rfl rfl rfl (by decide) ?_
              refine q_aload_n rfl rfl ?_
              refine q_iload_n rfl rfl ?_
              refine v_pi (z := 5) rfl rfl rfl (by decide) rfl rfl rfl (by decide) ?_
              refine q_vret rfl rfl ?_
              refine bk_inl ?_
              refine q_aload_n rfl rfl ?_
              refine v_cv rfl rfl rfl rfl (by decide) ⟨⟨rfl, rfl⟩, by decide, rfl⟩ (Nat.le_of_ble_eq_true rfl) (Nat.le_of_ble_eq_true rfl) ?_
              refine q_aload_n rfl rfl ?_
              refine v_gi (z := 4) (v := 3) rfl rfl rfl (by decide) rfl rfl ((up_n (by decide)).trans (up_e rfl)) ?_
              refine v_if_ne_t (t := 11) rfl (by decide) (by decide) ?_
              refine q_iconst rfl ?_
              refine v_zret rfl rfl (by decide) ?_
              refine bk_inl ?_
              refine v_if_eq_t (t := 73) rfl (by decide) (by decide) ?_
              refine q_aload_n rfl rfl ?_
              refine q_ldc_s rfl rfl rfl (by decide) ?_
              refine v_cv rfl rfl rfl rfl (by decide) ⟨⟨rfl, rfl⟩, by decide, rfl⟩ (Nat.le_of_ble_eq_true rfl) (Nat.le_of_ble_eq_true rfl) ?_
              refine q_aload_n rfl rfl ?_
              refine v_cv rfl rfl rfl rfl (by decide) ⟨⟨rfl, rfl⟩, by decide, rfl⟩ (Nat.le_of_ble_eq_true rfl) (Nat.le_of_ble_eq_true rfl) ?_
              refine q_aload_n rfl rfl ?_
              refine v_gi (z := 4) (v := 3) rfl rfl rfl (by decide) rfl rfl ((up_n (by decide)).trans (up_e rfl)) ?_
              refine v_if_ne_t (t := 11) rfl (by decide) (by decide) ?_
              refine q_iconst rfl ?_
              refine v_zret rfl rfl (by decide) ?_
              refine bk_inl ?_
              refine v_if_eq_t (t := 25) rfl (by decide) (by decide) ?_
              refine q_vret rfl rfl ?_
              refine bk_inl ?_
              refine v_iinc (v := v + 1) rfl rfl (by decide) (by omega) ?_
              refine q_goto (t := 6) rfl (by decide) ?_
              refine q_iload_n rfl rfl ?_
              refine v_bip rfl (by decide) ?_
              refine v_ic_gt_f (t := 85) rfl (by decide) (by omega) ?_
              refine q_aload_n rfl rfl ?_
              refine v_cv rfl rfl rfl rfl (by decide) ⟨⟨rfl, rfl⟩, by decide, rfl⟩ (Nat.le_of_ble_eq_true rfl) (Nat.le_of_ble_eq_true rfl) ?_
              refine q_aload_n rfl rfl ?_
              refine v_cv rfl rfl rfl rfl (by decide) ⟨⟨rfl, rfl⟩, by decide, rfl⟩ (Nat.le_of_ble_eq_true rfl) (Nat.le_of_ble_eq_true rfl) ?_
              refine q_aload_n rfl rfl ?_
              refine v_gi (z := 4) (v := 3) rfl rfl rfl (by decide) rfl rfl ((up_n (by decide)).trans (up_e rfl)) ?_
              refine v_if_ne_t (t := 11) rfl (by decide) (by decide) ?_
              refine q_iconst rfl ?_
              refine v_zret rfl rfl (by decide) ?_
              refine bk_inl ?_
              refine v_if_eq_t (t := 22) rfl (by decide) (by decide) ?_
              refine q_iconst rfl ?_
              refine v_zret rfl rfl (by decide) ?_
              refine bk_inl ?_
              refine v_if_eq_t (t := 85) rfl (by decide) (by decide) ?_
              refine q_vret rfl rfl ?_
              have hI_441 := iw_1_4 (v := 3) hI_86 ⟨by decide, by decide⟩
              have hI_442 := iw_1_5 (v := (nx F e1 a)) hI_441 ⟨by omega, by omega⟩
              intro hE_443
              have hW : Wd P Q P P (up (up c_85 1 4 3) 1 5 (nx F e1 a)) = Wd P Q P P m9 := (Prod.mk.inj (Prod.mk.inj hE_443).2).1
              have h_444 := ir_1_4 hJ9
              have h_445 : m9 1 4 = 3 := wd_fv (z := 4) 4 rfl hW rfl rfl rfl rfl (by decide) ((up_n (by decide)).trans (up_e rfl)) ⟨by omega, by omega⟩ ⟨by omega, by omega⟩
              have h_446 := ir_1_2 hJ9
              have h_447 : m9 1 2 = (ln F e1 (nx F e1 a)) := wd_fv (z := 2) 2 rfl hW rfl rfl rfl rfl (by decide) ((up_n (by decide)).trans ((up_n (by decide)).trans (hz_90))) ⟨by omega, by omega⟩ ⟨by omega, by omega⟩
              have h_448 := ir_1_5 hJ9
              have h_449 : m9 1 5 = (nx F e1 a) := wd_fv (z := 5) 5 rfl hW rfl rfl rfl rfl (by decide) (up_e rfl) ⟨by omega, by omega⟩ ⟨by omega, by omega⟩
              have h_450 := ir_p0_0 hJ9 hA
              have h_451 : m9 A 0 = jr := wd_fv (z := 0) 0 rfl hW (ck_A hA) (ck_A hA) rfl rfl (by omega) ((up_c (np0 hA rfl)).trans ((up_c (np0 hA rfl)).trans (hid kn_247))) ⟨by omega, by omega⟩ ⟨by omega, by omega⟩
              refine q_aload_n rfl rfl ?_
              refine v_cv rfl rfl rfl rfl (by decide) ⟨⟨rfl, rfl⟩, by decide, rfl⟩ (Nat.le_of_ble_eq_true rfl) (Nat.le_of_ble_eq_true rfl) ?_
              refine q_aload_n rfl rfl ?_
              refine v_gi (z := 5) (v := (-1)) rfl rfl rfl (by decide) rfl rfl (hc_1) ?_
              refine q_iconst rfl ?_
              refine v_ic_ne_f (t := 12) rfl (by decide) (by decide) ?_
              refine q_iconst rfl ?_
              refine q_goto (t := 13) rfl (by decide) ?_
              refine v_zret rfl rfl (by decide) ?_
              refine bk_inl ?_
              refine v_if_eq_f (t := 136) rfl (by decide) (by decide) ?_
              refine q_aload_n rfl rfl ?_
              refine v_cv rfl rfl rfl rfl (by decide) ⟨⟨rfl, rfl⟩, by decide, rfl⟩ (Nat.le_of_ble_eq_true rfl) (Nat.le_of_ble_eq_true rfl) ?_
              refine q_aload_n rfl rfl ?_
              have kn_452 : Hid (c2 41 3 = e1) := (hFc 41 3 (fun q => q.elim (fun h => absurd h.2 (ni rfl)) (fun q => q.elim (fun h => absurd h.2 (ni rfl)) (fun q => q.elim (fun h => absurd h.2 (ni rfl)) (fun q => q.elim (fun h => absurd h.2 (ni rfl)) (fun q => q.elim (fun h => absurd h.2 (ni rfl)) (fun q => q.elim (fun h => absurd h.2 (ni rfl)) (fun q => q.elim (fun h => absurd h.2 (ni rfl)) (fun q => q.elim (fun h => absurd h (nn rfl)) (fun q => q.elim (fun h => absurd h (nn rfl)) (fun h => absurd h (nn rfl)))))))))))).trans (hr_e1)
              have h_453 : -2147483648 ≤ (H (nx F e1 a)) ∧ (H (nx F e1 a)) ≤ 2147483647 := by rw [← hH (nx F e1 a)]; exact ir_43 hI (nx F e1 a)
              have h_454 := hU (nx F e1 a) (by omega) (by omega)
              have h_455 := hb_or (b := H) (e := e1) (r := (nx F e1 a))
              have h_456 := hb_bd (b := H) (e := e1) (r := (nx F e1 a)) (lo := -2147483648) (hi := 2147483647) ⟨by omega, by omega⟩ (by decide)
              refine v_cv rfl rfl rfl rfl (by decide) ⟨⟨rfl, rfl⟩, by decide, rfl⟩ (Nat.le_of_ble_eq_true rfl) (Nat.le_of_ble_eq_true rfl) (f_154 (e1 := e1) (a9 := a) (B := H) (r8 := (nx F e1 a)) (r := (hb H e1 (nx F e1 a))) hI2 ((hid kn_452)) ((hr_a)) (fun j => (hFc 43 j (fun q => q.elim (fun h => absurd h.1 (nn rfl)) (fun q => q.elim (fun h => absurd h.1 (nn rfl)) (fun q => q.elim (fun h => absurd h.1 (nn rfl)) (fun q => q.elim (fun h => absurd h.1 (nn rfl)) (fun q => q.elim (fun h => absurd h.1 (nn rfl)) (fun q => q.elim (fun h => absurd h.1 (nn rfl)) (fun q => q.elim (fun h => absurd h.1 (nn rfl)) (fun q => q.elim (fun h => absurd h (nn rfl)) (fun q => q.elim (fun h => absurd h (nn rfl)) (fun h => absurd h (nn rfl)))))))))))).trans (hH j)) ((nx_tr hU (by omega) (by omega)).trans (rfl)) rfl (fun c_457 hI_458 hF_459 h_460 => ?_))
              refine bk_inl ?_
              refine q_pop rfl rfl ?_
              refine q_aload_n rfl rfl ?_
              refine v_gi (z := 4) (v := (nx F e1 a)) rfl rfl rfl (by decide) rfl rfl (h_460) ?_
              refine q_aload_n rfl rfl ?_
              have kn_461 : Hid (c_457 41 3 = e1) := (hF_459 41 3 (fun h => absurd h.2 (ni rfl))).trans (hid kn_452)
              refine v_gi (z := 3) (v := e1) rfl rfl rfl (by decide) rfl rfl (hid kn_461) ?_
              refine v_ic_ge_f (t := 20) rfl (by decide) (by omega) ?_
              refine q_iconst rfl ?_
              refine q_goto (t := 21) rfl (by decide) ?_
              refine v_zret rfl rfl (by decide) ?_
              refine bk_inl ?_
              refine v_if_eq_f (t := 136) rfl (by decide) (by decide) ?_
              refine q_aload_n rfl rfl ?_
              have h_462 := wv_bd (b := F) (r := (nx F e1 a)) (l := (ln F e1 (nx F e1 a))) (fun j h1 h2 => ⟨(ln_in (e := e1) (a := (nx F e1 a)) h1 (by omega)).1, (ln_in (e := e1) (a := (nx F e1 a)) h1 (by omega)).2.1⟩)
              have h_463 := wr8_0 (b := F) (r := (nx F e1 a)) (l := (ln F e1 (nx F e1 a))) (by omega) (fun j h1 h2 => ⟨(ln_in (e := e1) (a := (nx F e1 a)) h1 (by omega)).1, (ln_in (e := e1) (a := (nx F e1 a)) h1 (by omega)).2.1⟩) (by omega)
              refine v_cv rfl rfl rfl rfl (by decide) ⟨⟨rfl, rfl⟩, by decide, rfl⟩ (Nat.le_of_ble_eq_true rfl) (Nat.le_of_ble_eq_true rfl) (f_157 (e1 := e1) (a9 := (nx F e1 a)) (B := H) (r8 := (nx F e1 a)) (L8 := (ln F e1 (nx F e1 a))) (W8 := (wv F (nx F e1 a) (ln F e1 (nx F e1 a)))) hI_458 ((hid kn_461)) ((h_460)) (fun j => ((hF_459 43 j (fun h => absurd h.1 (nn rfl))).trans (hFc 43 j (fun q => q.elim (fun h => absurd h.1 (nn rfl)) (fun q => q.elim (fun h => absurd h.1 (nn rfl)) (fun q => q.elim (fun h => absurd h.1 (nn rfl)) (fun q => q.elim (fun h => absurd h.1 (nn rfl)) (fun q => q.elim (fun h => absurd h.1 (nn rfl)) (fun q => q.elim (fun h => absurd h.1 (nn rfl)) (fun q => q.elim (fun h => absurd h.1 (nn rfl)) (fun q => q.elim (fun h => absurd h (nn rfl)) (fun q => q.elim (fun h => absurd h (nn rfl)) (fun h => absurd h (nn rfl))))))))))))).trans (hH j)) ((nx_tr hU (by omega) (by omega)).trans ((nx_z (by omega)))) ((ln_tr hU (by omega) (by omega)).trans (rfl)) ((wv_tr hU (by omega) (by omega) (fun j h1 h2 => ⟨(ln_in (e := e1) (a := (nx F e1 a)) h1 (by omega)).1, (ln_in (e := e1) (a := (nx F e1 a)) h1 (by omega)).2.1⟩)).trans (rfl)) (fun c_464 hI_465 hF_466 hz_467 => ?_))
              refine bk_inl ?_
              refine q_istore_n rfl (by decide) ?_
              refine q_iload_n rfl rfl ?_
              refine q_call rfl rfl rfl rfl ?_
              refine q_iload_n rfl rfl ?_
              refine q_ldc_s rfl rfl rfl (by decide) ?_
              refine q_call rfl rfl rfl rfl (s_158_16 ?_)
              refine bk_inl ?_
              refine v_ic_eq_t (t := 36) rfl (by decide) (by omega) ?_
              refine q_iconst rfl ?_
              refine q_goto (t := 41) rfl (by decide) ?_
              refine v_zret rfl rfl (by decide) ?_
              refine bk_inl ?_
              refine v_if_ne_t (t := 82) rfl (by decide) (by decide) ?_
              refine q_iload_n rfl rfl ?_
              refine v_bip rfl (by decide) ?_
              refine v_ic_eq_f (t := 96) rfl (by decide) (by omega) ?_
              refine q_aload_n rfl rfl ?_
              refine q_iload_n rfl rfl ?_
              refine v_cv rfl rfl rfl rfl (by decide) ⟨⟨rfl, rfl⟩, by decide, rfl⟩ (Nat.le_of_ble_eq_true rfl) (Nat.le_of_ble_eq_true rfl) ?_
              refine q_iload_n rfl rfl ?_
              refine q_ldc_s rfl rfl rfl (by decide) ?_
              refine q_call rfl rfl rfl rfl (s_158_16 ?_)
              refine bk_inl ?_
              refine v_ic_ne_f (t := 26) rfl (by decide) (by omega) ?_
              refine q_aload_n rfl rfl ?_
              have kn_468 : Hid (c_457 41 16 = jr) := (hF_459 41 16 (fun h => absurd h.2 (ni rfl))).trans (hr_jr)
              have kn_469 : Hid (c_464 41 16 = jr) := (hF_466 41 16 (fun h => absurd h.2 (ni rfl))).trans (hid kn_468)
              refine v_gi (z := 16) (v := jr) rfl rfl rfl (by decide) rfl rfl (hid kn_469) ?_
              refine v_bip rfl (by decide) ?_
              refine v_ic_ne_f (t := 22) rfl (by decide) (by omega) ?_
              refine q_iconst rfl ?_
              refine q_goto (t := 73) rfl (by decide) ?_
              refine v_zret rfl rfl (by decide) ?_
              refine bk_inl ?_
              refine v_if_eq_f (t := 105) rfl (by decide) (by decide) ?_
              refine q_aload_n rfl rfl ?_
              refine q_iconst rfl ?_
              refine q_aload_n rfl rfl ?_
              refine v_gi (z := 4) (v := (nx F e1 a)) rfl rfl rfl (by decide) rfl rfl (hz_467) ?_
              refine v_cv rfl rfl rfl rfl (by decide) ⟨⟨rfl, rfl⟩, by decide, rfl⟩ (Nat.le_of_ble_eq_true rfl) (Nat.le_of_ble_eq_true rfl) ?_
              refine q_aload_n rfl rfl ?_
              have kn_470 : Hid (c_457 41 5 = (-1)) := (hF_459 41 5 (fun h => absurd h.2 (ni rfl))).trans (hc_1)
              have kn_471 : Hid (c_464 41 5 = (-1)) := (hF_466 41 5 (fun h => absurd h.2 (ni rfl))).trans (hid kn_470)
              refine v_gi (z := 5) (v := (-1)) rfl rfl rfl (by decide) rfl rfl (hid kn_471) ?_
              refine q_iconst rfl ?_
              refine v_ic_eq_t (t := 9) rfl (by decide) (by decide) ?_
              refine q_aload_n rfl rfl ?_
              refine q_iload_n rfl rfl ?_
              refine v_pi (z := 5) rfl rfl rfl (by decide) rfl rfl rfl (by decide) ?_
              refine q_aload_n rfl rfl ?_
              refine q_iload_n rfl rfl ?_
              refine v_pi (z := 6) rfl rfl rfl (by decide) rfl rfl rfl (by decide) ?_
              refine q_vret rfl rfl ?_
              refine bk_inl ?_
              refine q_aload_n rfl rfl ?_
              refine v_cv rfl rfl rfl rfl (by decide) ⟨⟨rfl, rfl⟩, by decide, rfl⟩ (Nat.le_of_ble_eq_true rfl) (Nat.le_of_ble_eq_true rfl) ?_
              refine q_aload_n rfl rfl ?_
              refine v_gi (z := 5) (v := (nx F e1 a)) rfl rfl rfl (by decide) rfl rfl ((up_n (by decide)).trans (up_e rfl)) ?_
              refine q_iconst rfl ?_
              refine v_ic_ne_t (t := 12) rfl (by decide) (by omega) ?_
              refine q_iconst rfl ?_
              refine v_zret rfl rfl (by decide) ?_
              refine bk_inl ?_
              refine v_if_ne_f (t := 115) rfl (by decide) (by decide) ?_
              refine q_goto (t := 136) rfl (by decide) ?_
              refine Wp_ls [(0, .ref 41), (1, vi a1)] (lsub_cons rfl (lsub_cons rfl lsub_nil)) ?_
              have hI_472 := iw_41_5 (v := (nx F e1 a)) hI_465 ⟨by omega, by omega⟩
              have hI_473 := iw_41_6 (v := 3) hI_472 ⟨by decide, by decide⟩
              have h_474 : (up (up c_464 41 5 (nx F e1 a)) 41 6 3) 41 5 = (nx F e1 a) := ((up_n (by decide)).trans (up_e rfl))
              have h_475 : (up (up c_464 41 5 (nx F e1 a)) 41 6 3) 41 4 = (nx F e1 a) := ((up_n (by decide)).trans ((up_n (by decide)).trans (hz_467)))
              have h_476 : (up (up c_464 41 5 (nx F e1 a)) 41 6 3) 41 6 = 3 := (up_e rfl)
              have h_477 : (up (up c_464 41 5 (nx F e1 a)) 41 6 3) 41 16 = jr := ((up_n (by decide)).trans ((up_n (by decide)).trans (hid kn_469)))
              exact K (up (up c_464 41 5 (nx F e1 a)) 41 6 3)  hI_473 (fun a j hm => (up_b (Decidable.or_iff_not_imp_left.mpr (fun h1 h2 => hm (Or.inr (Or.inr (Or.inl ⟨Decidable.not_not.mp h1, h2⟩)))))).trans ((up_b (Decidable.or_iff_not_imp_left.mpr (fun h1 h2 => hm (Or.inr (Or.inl ⟨Decidable.not_not.mp h1, h2⟩))))).trans ((hF_466 a j (fun h => hm (Or.inl h))).trans ((hF_459 a j (fun h => hm (Or.inl h))).trans (hFc a j (fun q => q.elim (fun h => hm (Or.inl h)) (fun q => q.elim (fun h => hm (Or.inr (Or.inl h))) (fun q => q.elim (fun h => hm (Or.inr (Or.inr (Or.inl h)))) (fun q => q.elim (fun h => hm (Or.inr (Or.inr (Or.inr (Or.inl h))))) (fun q => q.elim (fun h => hm (Or.inr (Or.inr (Or.inr (Or.inr (Or.inl h)))))) (fun q => q.elim (fun h => hm (Or.inr (Or.inr (Or.inr (Or.inr (Or.inr (Or.inl h))))))) (fun q => q.elim (fun h => hm (Or.inr (Or.inr (Or.inr (Or.inr (Or.inr (Or.inr (Or.inl h)))))))) (fun q => q.elim (fun h => hm (Or.inr (Or.inr (Or.inr (Or.inr (Or.inr (Or.inr (Or.inr (Or.inl h))))))))) (fun q => q.elim (fun h => hm (Or.inr (Or.inr (Or.inr (Or.inr (Or.inr (Or.inr (Or.inr (Or.inr (Or.inl h)))))))))) (fun h => hm (Or.inr (Or.inr (Or.inr (Or.inr (Or.inr (Or.inr (Or.inr (Or.inr (Or.inr h)))))))))))))))))))))))) (by unfold Rt; omega) (by omega)
          by_cases h_478 : (wd8_0 F (nx F e1 a) (ln F e1 (nx F e1 a))) = 1
          · skip
            refine v_tsw_i (t := 43) 1 rfl (by omega) (by decide) rfl (by decide) ?_
            refine q_aload_n rfl rfl ?_
            have kn_479 : Hid (c_24 A 1 = st) := (hF_26 A 1 (fun h => absurd h.1 (np0 hA rfl))).trans (hg_st)
            have kn_480 : Hid (c_60 A 1 = st) := (hF_62 A 1 (fun h => absurd h.1 (np0 hA rfl))).trans (hid kn_479)
            have kn_481 : Hid (c_85 A 1 = st) := (hF_87 A 1 (fun q => q.elim (fun h => absurd h.1 (np0 hA rfl)) (fun q => q.elim (fun h => absurd h.1 (np0 hA rfl)) (fun h => absurd h.1 (np0 hA rfl))))).trans (hid kn_480)
            refine v_gi (z := 1) (v := st) rfl rfl (ck_p0 hA) (by omega) rfl rfl (hid kn_481) ?_
            refine q_iconst rfl ?_
            by_cases h_482 : st ≠ 4
            · refine v_ic_ne_t (t := 55) rfl (by decide) (by omega) ?_
              refine q_iconst rfl ?_
              refine v_zret rfl rfl (by decide) ?_
              refine bk_inl ?_
              refine v_if_eq_t (t := 59) rfl (by decide) (by decide) ?_
              refine q_aload_n rfl rfl ?_
              refine v_cv rfl rfl rfl rfl (by decide) ⟨⟨rfl, rfl⟩, by decide, rfl⟩ (Nat.le_of_ble_eq_true rfl) (Nat.le_of_ble_eq_true rfl) ?_
              refine q_aload_n rfl rfl ?_
              refine v_gi (z := 4) (v := 0) rfl rfl rfl (by decide) rfl rfl (hz_91) ?_
              refine v_if_ne_f (t := 11) rfl (by decide) (by decide) ?_
              refine q_iconst rfl ?_
              refine q_goto (t := 12) rfl (by decide) ?_
              refine v_zret rfl rfl (by decide) ?_
              refine bk_inl ?_
              refine v_if_eq_f (t := 73) rfl (by decide) (by decide) ?_
              refine q_aload_n rfl rfl ?_
              refine q_aload_n rfl rfl ?_
              refine q_iload rfl rfl ?_
              have hw_483 : (wd8_0 F (nx F e1 a) (ln F e1 (nx F e1 a))) = 1 := by omega
              rw [hw_483]
              have kn_484 : Hid (c_24 A 0 = jr) := (hF_26 A 0 (fun h => absurd h.1 (np0 hA rfl))).trans (hg_jr)
              have kn_485 : Hid (c_60 A 0 = jr) := (hF_62 A 0 (fun h => absurd h.1 (np0 hA rfl))).trans (hid kn_484)
              have kn_486 : Hid (c_85 A 0 = jr) := (hF_87 A 0 (fun q => q.elim (fun h => absurd h.1 (np0 hA rfl)) (fun q => q.elim (fun h => absurd h.1 (np0 hA rfl)) (fun h => absurd h.1 (np0 hA rfl))))).trans (hid kn_485)
              have h_487 : c_85 A 0 = jr := (hid kn_486)
              have h_488 : c_85 A 1 = st := (hid kn_481)
              have kn_489 : Hid (c_24 A 2 = si) := (hF_26 A 2 (fun h => absurd h.1 (np0 hA rfl))).trans (hg_si)
              have kn_490 : Hid (c_60 A 2 = si) := (hF_62 A 2 (fun h => absurd h.1 (np0 hA rfl))).trans (hid kn_489)
              have kn_491 : Hid (c_85 A 2 = si) := (hF_87 A 2 (fun q => q.elim (fun h => absurd h.1 (np0 hA rfl)) (fun q => q.elim (fun h => absurd h.1 (np0 hA rfl)) (fun h => absurd h.1 (np0 hA rfl))))).trans (hid kn_490)
              have h_492 : c_85 A 2 = si := (hid kn_491)
              refine v_cv rfl rfl rfl (ck_p0 hA) (by omega) ⟨⟨rfl, rfl⟩, by decide, rfl⟩ (Nat.le_of_ble_eq_true rfl) (Nat.le_of_ble_eq_true rfl) (fn_of (s_33 (a2 := 1) hI_86 hA (show 0 ≤ 1 ∧ 1 ≤ 100 from by omega) (by omega) (by omega) (by omega) (fun c_493 hI_494 hF_495 => ?_)))
              intro hG_496
              refine bk_inl ?_
              refine q_aload_n rfl rfl ?_
              refine q_ldc_s rfl rfl rfl (by decide) ?_
              have h_497 := ir_1_4 hI_494
              refine v_cv rfl rfl rfl rfl (by decide) ⟨⟨rfl, rfl⟩, by decide, rfl⟩ (Nat.le_of_ble_eq_true rfl) (Nat.le_of_ble_eq_true rfl) (fn_of (s_11 hI_494 (q := 9) (nt := 1) (by decide) (by decide) (by decide) (fun c_498 hI_499 hF_500 => ?_)))
              intro hG_501
              refine bk_inl ?_
              refine v_iinc (v := v + 1) rfl rfl (by decide) (by omega) ?_
              refine q_goto (t := 6) rfl (by decide) ?_
              have h_502 := ir_1_4 hI_499
              by_cases h_503 : c_498 1 4 = 0
              · skip
                refine Wp_ls [(0, .ref A), (1, .ref 1), (2, vi (v + 1))] (lsub_cons rfl (lsub_cons rfl (lsub_cons rfl lsub_nil))) ?_
                refine gh_stop (s_34_l (sc := sc) (d := dh + 18) (c := c_498) (Z := fun _ => True) hI_499 hA (fun _ _ _ => trivial) 124 c_498 (v + 1) hI_499 (fun a j hm => rfl) ⟨by omega, by omega⟩ (by omega)) (fun hG_504 => ?_)
                refine q_aload_n rfl rfl ?_
                refine v_cv rfl rfl rfl rfl (by decide) ⟨⟨rfl, rfl⟩, by decide, rfl⟩ (Nat.le_of_ble_eq_true rfl) (Nat.le_of_ble_eq_true rfl) ?_
                refine q_aload_n rfl rfl ?_
                refine v_gi (z := 5) (v := (-1)) rfl rfl rfl (by decide) rfl rfl (hc_1) ?_
                refine q_iconst rfl ?_
                refine v_ic_ne_f (t := 12) rfl (by decide) (by decide) ?_
                refine q_iconst rfl ?_
                refine q_goto (t := 13) rfl (by decide) ?_
                refine v_zret rfl rfl (by decide) ?_
                refine bk_inl ?_
                refine v_if_eq_f (t := 136) rfl (by decide) (by decide) ?_
                refine q_aload_n rfl rfl ?_
                refine v_cv rfl rfl rfl rfl (by decide) ⟨⟨rfl, rfl⟩, by decide, rfl⟩ (Nat.le_of_ble_eq_true rfl) (Nat.le_of_ble_eq_true rfl) ?_
                refine q_aload_n rfl rfl ?_
                have kn_505 : Hid (c2 41 3 = e1) := (hFc 41 3 (fun q => q.elim (fun h => absurd h.2 (ni rfl)) (fun q => q.elim (fun h => absurd h.2 (ni rfl)) (fun q => q.elim (fun h => absurd h.2 (ni rfl)) (fun q => q.elim (fun h => absurd h.2 (ni rfl)) (fun q => q.elim (fun h => absurd h.2 (ni rfl)) (fun q => q.elim (fun h => absurd h.2 (ni rfl)) (fun q => q.elim (fun h => absurd h.2 (ni rfl)) (fun q => q.elim (fun h => absurd h (nn rfl)) (fun q => q.elim (fun h => absurd h (nn rfl)) (fun h => absurd h (nn rfl)))))))))))).trans (hr_e1)
                have h_506 : -2147483648 ≤ (H (nx F e1 a)) ∧ (H (nx F e1 a)) ≤ 2147483647 := by rw [← hH (nx F e1 a)]; exact ir_43 hI (nx F e1 a)
                have h_507 := hU (nx F e1 a) (by omega) (by omega)
                have h_508 := hb_or (b := H) (e := e1) (r := (nx F e1 a))
                have h_509 := hb_bd (b := H) (e := e1) (r := (nx F e1 a)) (lo := -2147483648) (hi := 2147483647) ⟨by omega, by omega⟩ (by decide)
                refine v_cv rfl rfl rfl rfl (by decide) ⟨⟨rfl, rfl⟩, by decide, rfl⟩ (Nat.le_of_ble_eq_true rfl) (Nat.le_of_ble_eq_true rfl) (f_154 (e1 := e1) (a9 := a) (B := H) (r8 := (nx F e1 a)) (r := (hb H e1 (nx F e1 a))) hI2 ((hid kn_505)) ((hr_a)) (fun j => (hFc 43 j (fun q => q.elim (fun h => absurd h.1 (nn rfl)) (fun q => q.elim (fun h => absurd h.1 (nn rfl)) (fun q => q.elim (fun h => absurd h.1 (nn rfl)) (fun q => q.elim (fun h => absurd h.1 (nn rfl)) (fun q => q.elim (fun h => absurd h.1 (nn rfl)) (fun q => q.elim (fun h => absurd h.1 (nn rfl)) (fun q => q.elim (fun h => absurd h.1 (nn rfl)) (fun q => q.elim (fun h => absurd h (nn rfl)) (fun q => q.elim (fun h => absurd h (nn rfl)) (fun h => absurd h (nn rfl)))))))))))).trans (hH j)) ((nx_tr hU (by omega) (by omega)).trans (rfl)) rfl (fun c_510 hI_511 hF_512 h_513 => ?_))
                refine bk_inl ?_
                refine q_pop rfl rfl ?_
                refine q_aload_n rfl rfl ?_
                refine v_gi (z := 4) (v := (nx F e1 a)) rfl rfl rfl (by decide) rfl rfl (h_513) ?_
                refine q_aload_n rfl rfl ?_
                have kn_514 : Hid (c_510 41 3 = e1) := (hF_512 41 3 (fun h => absurd h.2 (ni rfl))).trans (hid kn_505)
                refine v_gi (z := 3) (v := e1) rfl rfl rfl (by decide) rfl rfl (hid kn_514) ?_
                refine v_ic_ge_f (t := 20) rfl (by decide) (by omega) ?_
                refine q_iconst rfl ?_
                refine q_goto (t := 21) rfl (by decide) ?_
                refine v_zret rfl rfl (by decide) ?_
                refine bk_inl ?_
                refine v_if_eq_f (t := 136) rfl (by decide) (by decide) ?_
                refine q_aload_n rfl rfl ?_
                have h_515 := wv_bd (b := F) (r := (nx F e1 a)) (l := (ln F e1 (nx F e1 a))) (fun j h1 h2 => ⟨(ln_in (e := e1) (a := (nx F e1 a)) h1 (by omega)).1, (ln_in (e := e1) (a := (nx F e1 a)) h1 (by omega)).2.1⟩)
                have h_516 := wr8_1 (b := F) (r := (nx F e1 a)) (l := (ln F e1 (nx F e1 a))) (by omega) (fun j h1 h2 => ⟨(ln_in (e := e1) (a := (nx F e1 a)) h1 (by omega)).1, (ln_in (e := e1) (a := (nx F e1 a)) h1 (by omega)).2.1⟩) (by omega)
                refine v_cv rfl rfl rfl rfl (by decide) ⟨⟨rfl, rfl⟩, by decide, rfl⟩ (Nat.le_of_ble_eq_true rfl) (Nat.le_of_ble_eq_true rfl) (f_157 (e1 := e1) (a9 := (nx F e1 a)) (B := H) (r8 := (nx F e1 a)) (L8 := (ln F e1 (nx F e1 a))) (W8 := (wv F (nx F e1 a) (ln F e1 (nx F e1 a)))) hI_511 ((hid kn_514)) ((h_513)) (fun j => ((hF_512 43 j (fun h => absurd h.1 (nn rfl))).trans (hFc 43 j (fun q => q.elim (fun h => absurd h.1 (nn rfl)) (fun q => q.elim (fun h => absurd h.1 (nn rfl)) (fun q => q.elim (fun h => absurd h.1 (nn rfl)) (fun q => q.elim (fun h => absurd h.1 (nn rfl)) (fun q => q.elim (fun h => absurd h.1 (nn rfl)) (fun q => q.elim (fun h => absurd h.1 (nn rfl)) (fun q => q.elim (fun h => absurd h.1 (nn rfl)) (fun q => q.elim (fun h => absurd h (nn rfl)) (fun q => q.elim (fun h => absurd h (nn rfl)) (fun h => absurd h (nn rfl))))))))))))).trans (hH j)) ((nx_tr hU (by omega) (by omega)).trans ((nx_z (by omega)))) ((ln_tr hU (by omega) (by omega)).trans (rfl)) ((wv_tr hU (by omega) (by omega) (fun j h1 h2 => ⟨(ln_in (e := e1) (a := (nx F e1 a)) h1 (by omega)).1, (ln_in (e := e1) (a := (nx F e1 a)) h1 (by omega)).2.1⟩)).trans (rfl)) (fun c_517 hI_518 hF_519 hz_520 => ?_))
                refine bk_inl ?_
                refine q_istore_n rfl (by decide) ?_
                refine q_iload_n rfl rfl ?_
                refine q_call rfl rfl rfl rfl ?_
                refine q_iload_n rfl rfl ?_
                refine q_ldc_s rfl rfl rfl (by decide) ?_
                refine q_call rfl rfl rfl rfl (s_158_16 ?_)
                refine bk_inl ?_
                refine v_ic_eq_f (t := 36) rfl (by decide) (by omega) ?_
                refine q_iload_n rfl rfl ?_
                refine q_ldc_s rfl rfl rfl (by decide) ?_
                refine q_call rfl rfl rfl rfl (s_158_17 ?_)
                refine bk_inl ?_
                refine v_ic_eq_t (t := 36) rfl (by decide) (by omega) ?_
                refine q_iconst rfl ?_
                refine q_goto (t := 41) rfl (by decide) ?_
                refine v_zret rfl rfl (by decide) ?_
                refine bk_inl ?_
                refine v_if_ne_t (t := 82) rfl (by decide) (by decide) ?_
                refine q_iload_n rfl rfl ?_
                refine v_bip rfl (by decide) ?_
                refine v_ic_eq_f (t := 96) rfl (by decide) (by omega) ?_
                refine q_aload_n rfl rfl ?_
                refine q_iload_n rfl rfl ?_
                refine v_cv rfl rfl rfl rfl (by decide) ⟨⟨rfl, rfl⟩, by decide, rfl⟩ (Nat.le_of_ble_eq_true rfl) (Nat.le_of_ble_eq_true rfl) ?_
                refine q_iload_n rfl rfl ?_
                refine q_ldc_s rfl rfl rfl (by decide) ?_
                refine q_call rfl rfl rfl rfl (s_158_16 ?_)
                refine bk_inl ?_
                refine v_ic_ne_t (t := 26) rfl (by decide) (by omega) ?_
                refine q_iload_n rfl rfl ?_
                refine q_ldc_s rfl rfl rfl (by decide) ?_
                refine q_call rfl rfl rfl rfl (s_158_17 ?_)
                refine bk_inl ?_
                refine v_ic_ne_f (t := 51) rfl (by decide) (by omega) ?_
                refine q_aload_n rfl rfl ?_
                have kn_521 : Hid (c_510 41 17 = st) := (hF_512 41 17 (fun h => absurd h.2 (ni rfl))).trans (hr_st)
                have kn_522 : Hid (c_517 41 17 = st) := (hF_519 41 17 (fun h => absurd h.2 (ni rfl))).trans (hid kn_521)
                refine v_gi (z := 17) (v := st) rfl rfl rfl (by decide) rfl rfl (hid kn_522) ?_
                refine q_iconst rfl ?_
                refine v_ic_ne_t (t := 47) rfl (by decide) (by omega) ?_
                refine q_iconst rfl ?_
                refine q_goto (t := 73) rfl (by decide) ?_
                refine v_zret rfl rfl (by decide) ?_
                refine bk_inl ?_
                refine v_if_eq_t (t := 105) rfl (by decide) (by decide) ?_
                refine q_aload_n rfl rfl ?_
                refine v_cv rfl rfl rfl rfl (by decide) ⟨⟨rfl, rfl⟩, by decide, rfl⟩ (Nat.le_of_ble_eq_true rfl) (Nat.le_of_ble_eq_true rfl) ?_
                refine q_aload_n rfl rfl ?_
                have kn_523 : Hid (c_510 41 5 = (-1)) := (hF_512 41 5 (fun h => absurd h.2 (ni rfl))).trans (hc_1)
                have kn_524 : Hid (c_517 41 5 = (-1)) := (hF_519 41 5 (fun h => absurd h.2 (ni rfl))).trans (hid kn_523)
                refine v_gi (z := 5) (v := (-1)) rfl rfl rfl (by decide) rfl rfl (hid kn_524) ?_
                refine q_iconst rfl ?_
                refine v_ic_ne_f (t := 12) rfl (by decide) (by decide) ?_
                refine q_iconst rfl ?_
                refine q_goto (t := 13) rfl (by decide) ?_
                refine v_zret rfl rfl (by decide) ?_
                refine bk_inl ?_
                refine v_if_ne_t (t := 115) rfl (by decide) (by decide) ?_
                refine q_aload_n rfl rfl ?_
                have kn_525 : Hid (c_517 41 3 = e1) := (hF_519 41 3 (fun h => absurd h.2 (ni rfl))).trans (hid kn_514)
                refine v_cv rfl rfl rfl rfl (by decide) ⟨⟨rfl, rfl⟩, by decide, rfl⟩ (Nat.le_of_ble_eq_true rfl) (Nat.le_of_ble_eq_true rfl) (f_159 (e1 := e1) (a9 := (nx F e1 a)) (B := H) (L8 := (ln F e1 (nx F e1 a))) hI_518 ((hid kn_525)) ((hz_520)) (fun j => ((hF_519 43 j (fun h => absurd h.1 (nn rfl))).trans ((hF_512 43 j (fun h => absurd h.1 (nn rfl))).trans (hFc 43 j (fun q => q.elim (fun h => absurd h.1 (nn rfl)) (fun q => q.elim (fun h => absurd h.1 (nn rfl)) (fun q => q.elim (fun h => absurd h.1 (nn rfl)) (fun q => q.elim (fun h => absurd h.1 (nn rfl)) (fun q => q.elim (fun h => absurd h.1 (nn rfl)) (fun q => q.elim (fun h => absurd h.1 (nn rfl)) (fun q => q.elim (fun h => absurd h.1 (nn rfl)) (fun q => q.elim (fun h => absurd h (nn rfl)) (fun q => q.elim (fun h => absurd h (nn rfl)) (fun h => absurd h (nn rfl)))))))))))))).trans (hH j)) ((ln_tr hU (by omega) (by omega)).trans (rfl)) (fun c_526 hI_527 hF_528 hz_529 => ?_))
                refine bk_inl ?_
                refine q_aload_n rfl rfl ?_
                refine q_iload_n rfl rfl ?_
                have hw_530 : (wv F (nx F e1 a) (ln F e1 (nx F e1 a))) = 20594117 := by omega
                rw [hw_530]
                have kn_531 : Hid (c_85 1 1 = e1) := (hF_87 1 1 (fun q => q.elim (fun h => absurd h.2 (ni rfl)) (fun q => q.elim (fun h => absurd h.2 (ni rfl)) (fun h => absurd h.2 (ni rfl))))).trans (hid kn_64)
                have kn_532 : Hid (c_526 41 3 = e1) := (hF_528 41 3 (fun h => absurd h.2 (ni rfl))).trans (hid kn_525)
                have kn_533 : Hid (c_510 41 16 = jr) := (hF_512 41 16 (fun h => absurd h.2 (ni rfl))).trans (hr_jr)
                have kn_534 : Hid (c_517 41 16 = jr) := (hF_519 41 16 (fun h => absurd h.2 (ni rfl))).trans (hid kn_533)
                have kn_535 : Hid (c_526 41 16 = jr) := (hF_528 41 16 (fun h => absurd h.2 (ni rfl))).trans (hid kn_534)
                have kn_536 : Hid (c_526 41 17 = st) := (hF_528 41 17 (fun h => absurd h.2 (ni rfl))).trans (hid kn_522)
                have kn_537 : Hid (c_510 41 18 = si) := (hF_512 41 18 (fun h => absurd h.2 (ni rfl))).trans (hr_si)
                have kn_538 : Hid (c_517 41 18 = si) := (hF_519 41 18 (fun h => absurd h.2 (ni rfl))).trans (hid kn_537)
                have kn_539 : Hid (c_526 41 18 = si) := (hF_528 41 18 (fun h => absurd h.2 (ni rfl))).trans (hid kn_538)
                have h_540 : c_85 1 4 = 0 := (hz_91)
                have h_541 : c_85 1 2 = (ln F e1 (nx F e1 a)) := (hz_90)
                have h_542 : c_85 1 5 = (-1) := (hz_92)
                have kn_543 : Hid (c_526 41 5 = (-1)) := (hF_528 41 5 (fun h => absurd h.2 (ni rfl))).trans (hid kn_524)
                have h_544 : c_526 41 5 = (-1) := (hid kn_543)
                have h_545 : c_526 41 4 = (ln F e1 (nx F e1 a)) := (hz_529)
                have h_546 := ir_41_6 hI2
                have kn_547 : Hid (c_510 41 6 = c2 41 6) := hF_512 41 6 (fun h => absurd h.2 (ni rfl))
                have kn_548 : Hid (c_517 41 6 = c2 41 6) := (hF_519 41 6 (fun h => absurd h.2 (ni rfl))).trans (hid kn_547)
                have kn_549 : Hid (c_526 41 6 = c2 41 6) := (hF_528 41 6 (fun h => absurd h.2 (ni rfl))).trans (hid kn_548)
                have h_550 : c_526 41 6 = c2 41 6 := (hid kn_549)
                refine v_cv rfl rfl rfl rfl (by decide) ⟨⟨rfl, rfl⟩, by decide, rfl⟩ (Nat.le_of_ble_eq_true rfl) (Nat.le_of_ble_eq_true rfl) (L_33_1 (m := c_85) (e1 := e1) (jr := jr) (st := st) (si := si) (F := F) (H := H) hI_527 hI_86 hI_494 hA (by omega) ((hid kn_531)) ((hid kn_532)) ((hid kn_486)) ((hid kn_535)) ((hid kn_481)) ((hid kn_536)) ((hid kn_491)) ((hid kn_539)) (fun j => ((hF_87 2 j (fun q => q.elim (fun h => absurd h.1 (nn rfl)) (fun q => q.elim (fun h => absurd h.1 (nn rfl)) (fun h => absurd h.1 (nn rfl))))).trans ((hF_62 2 j (fun h => absurd h.1 (nn rfl))).trans ((hF_26 2 j (fun h => absurd h.1 (nn rfl))).trans (hFm 2 j (fun q => q.elim (fun h => absurd h.1 (nn rfl)) (fun q => q.elim (fun h => absurd h.1 (nn rfl)) (fun q => q.elim (fun h => absurd h.1 (nn rfl)) (fun q => q.elim (fun h => absurd h.1 (pn0 hA rfl)) (fun q => q.elim (fun h => absurd h.1 (pn0 hA rfl)) (fun q => q.elim (fun h => absurd h.1 (pn0 hA rfl)) (fun q => q.elim (fun h => absurd h.1 (pn0 hA rfl)) (fun q => q.elim (fun h => absurd h (pn hA rfl rfl)) (fun q => q.elim (fun h => absurd h (pn hA rfl rfl)) (fun q => q.elim (fun h => absurd h (pn hA rfl rfl)) (fun q => q.elim (fun h => absurd h.1 (pn0 hA rfl)) (fun q => q.elim (fun h => absurd h.1 (pn0 hA rfl)) (fun q => q.elim (fun h => absurd h (pn hA rfl rfl)) (fun h => absurd h.1 (pn hA rfl rfl))))))))))))))))))).trans (hF j)) (fun j => ((hF_528 43 j (fun h => absurd h.1 (nn rfl))).trans ((hF_519 43 j (fun h => absurd h.1 (nn rfl))).trans ((hF_512 43 j (fun h => absurd h.1 (nn rfl))).trans (hFc 43 j (fun q => q.elim (fun h => absurd h.1 (nn rfl)) (fun q => q.elim (fun h => absurd h.1 (nn rfl)) (fun q => q.elim (fun h => absurd h.1 (nn rfl)) (fun q => q.elim (fun h => absurd h.1 (nn rfl)) (fun q => q.elim (fun h => absurd h.1 (nn rfl)) (fun q => q.elim (fun h => absurd h.1 (nn rfl)) (fun q => q.elim (fun h => absurd h.1 (nn rfl)) (fun q => q.elim (fun h => absurd h (nn rfl)) (fun q => q.elim (fun h => absurd h (nn rfl)) (fun h => absurd h (nn rfl))))))))))))))).trans (hH j)) hU (by unfold Rt; omega) hG_496 (fun c_551 hI_552 hF_553 hR_555 h_556 h_557 h_558 => ?_))
                refine bk_inl ?_
                have h_559 := ir_41_16 hI_552
                have h_560 := ir_p0_0 hI_494 hA
                have h_561 := ir_41_17 hI_552
                have h_562 := ir_p0_1 hI_494 hA
                have h_563 := ir_41_18 hI_552
                have h_564 := ir_p0_2 hI_494 hA
                refine q_aload_n rfl rfl ?_
                refine v_bip rfl (by decide) ?_
                have kn_565 : Hid (c_493 1 1 = e1) := (hF_495 1 1 (fun q => q.elim (fun h => absurd h.2 (ni rfl)) (fun q => q.elim (fun h => absurd h.2 (ni rfl)) (fun q => q.elim (fun h => absurd h.2 (ni rfl)) (fun q => q.elim (fun h => absurd h.1 (pn0 hA rfl)) (fun q => q.elim (fun h => absurd h.1 (pn0 hA rfl)) (fun q => q.elim (fun h => absurd h.1 (pn0 hA rfl)) (fun q => q.elim (fun h => absurd h.1 (pn0 hA rfl)) (fun q => q.elim (fun h => absurd h (pn hA rfl rfl)) (fun q => q.elim (fun h => absurd h (pn hA rfl rfl)) (fun h => absurd h (pn hA rfl rfl)))))))))))).trans (hid kn_531)
                have kn_566 : Hid (c_551 41 3 = e1) := (hF_553 41 3 (fun q => q.elim (fun h => absurd h.2 (ni rfl)) (fun q => q.elim (fun h => absurd h.2 (ni rfl)) (fun q => q.elim (fun h => absurd h.2 (ni rfl)) (fun q => q.elim (fun h => absurd h.2 (ni rfl)) (fun q => q.elim (fun h => absurd h.2 (ni rfl)) (fun q => q.elim (fun h => absurd h.2 (ni rfl)) (fun q => q.elim (fun h => absurd h.2 (ni rfl)) (fun q => q.elim (fun h => absurd h (nn rfl)) (fun q => q.elim (fun h => absurd h (nn rfl)) (fun h => absurd h (nn rfl)))))))))))).trans (hid kn_532)
                have h_567 := ir_1_2 hI_494
                refine v_cv rfl rfl rfl rfl (by decide) ⟨⟨rfl, rfl⟩, by decide, rfl⟩ (Nat.le_of_ble_eq_true rfl) (Nat.le_of_ble_eq_true rfl) (L_11_9 (m := c_493) (e1 := e1) (a9 := c_493 1 2) (F := F) (H := H) hI_552 hI_494 hI_499 ((hid kn_565)) ((hid kn_566)) (rfl) (fun j => ((hF_495 2 j (fun q => q.elim (fun h => absurd h.1 (nn rfl)) (fun q => q.elim (fun h => absurd h.1 (nn rfl)) (fun q => q.elim (fun h => absurd h.1 (nn rfl)) (fun q => q.elim (fun h => absurd h.1 (pn0 hA rfl)) (fun q => q.elim (fun h => absurd h.1 (pn0 hA rfl)) (fun q => q.elim (fun h => absurd h.1 (pn0 hA rfl)) (fun q => q.elim (fun h => absurd h.1 (pn0 hA rfl)) (fun q => q.elim (fun h => absurd h (pn hA rfl rfl)) (fun q => q.elim (fun h => absurd h (pn hA rfl rfl)) (fun h => absurd h (pn hA rfl rfl)))))))))))).trans ((hF_87 2 j (fun q => q.elim (fun h => absurd h.1 (nn rfl)) (fun q => q.elim (fun h => absurd h.1 (nn rfl)) (fun h => absurd h.1 (nn rfl))))).trans ((hF_62 2 j (fun h => absurd h.1 (nn rfl))).trans ((hF_26 2 j (fun h => absurd h.1 (nn rfl))).trans (hFm 2 j (fun q => q.elim (fun h => absurd h.1 (nn rfl)) (fun q => q.elim (fun h => absurd h.1 (nn rfl)) (fun q => q.elim (fun h => absurd h.1 (nn rfl)) (fun q => q.elim (fun h => absurd h.1 (pn0 hA rfl)) (fun q => q.elim (fun h => absurd h.1 (pn0 hA rfl)) (fun q => q.elim (fun h => absurd h.1 (pn0 hA rfl)) (fun q => q.elim (fun h => absurd h.1 (pn0 hA rfl)) (fun q => q.elim (fun h => absurd h (pn hA rfl rfl)) (fun q => q.elim (fun h => absurd h (pn hA rfl rfl)) (fun q => q.elim (fun h => absurd h (pn hA rfl rfl)) (fun q => q.elim (fun h => absurd h.1 (pn0 hA rfl)) (fun q => q.elim (fun h => absurd h.1 (pn0 hA rfl)) (fun q => q.elim (fun h => absurd h (pn hA rfl rfl)) (fun h => absurd h.1 (pn hA rfl rfl)))))))))))))))))))).trans (hF j)) (fun j => ((hF_553 43 j (fun q => q.elim (fun h => absurd h.1 (nn rfl)) (fun q => q.elim (fun h => absurd h.1 (nn rfl)) (fun q => q.elim (fun h => absurd h.1 (nn rfl)) (fun q => q.elim (fun h => absurd h.1 (nn rfl)) (fun q => q.elim (fun h => absurd h.1 (nn rfl)) (fun q => q.elim (fun h => absurd h.1 (nn rfl)) (fun q => q.elim (fun h => absurd h.1 (nn rfl)) (fun q => q.elim (fun h => absurd h (nn rfl)) (fun q => q.elim (fun h => absurd h (nn rfl)) (fun h => absurd h (nn rfl)))))))))))).trans ((hF_528 43 j (fun h => absurd h.1 (nn rfl))).trans ((hF_519 43 j (fun h => absurd h.1 (nn rfl))).trans ((hF_512 43 j (fun h => absurd h.1 (nn rfl))).trans (hFc 43 j (fun q => q.elim (fun h => absurd h.1 (nn rfl)) (fun q => q.elim (fun h => absurd h.1 (nn rfl)) (fun q => q.elim (fun h => absurd h.1 (nn rfl)) (fun q => q.elim (fun h => absurd h.1 (nn rfl)) (fun q => q.elim (fun h => absurd h.1 (nn rfl)) (fun q => q.elim (fun h => absurd h.1 (nn rfl)) (fun q => q.elim (fun h => absurd h.1 (nn rfl)) (fun q => q.elim (fun h => absurd h (nn rfl)) (fun q => q.elim (fun h => absurd h (nn rfl)) (fun h => absurd h (nn rfl)))))))))))))))).trans (hH j)) hU hR_555 hG_501 (fun c_568 hI_569 hF_570 hR_572 h_573 => ?_))
                refine bk_inl ?_
                have h_574 := ir_1_2 hI_499
                refine v_iinc (v := v + 1) rfl rfl (by decide) (by omega) ?_
                refine q_goto (t := 44) rfl (by decide) ?_
                refine Wp_ls [(0, .ref 41), (1, vi a1), (2, vi (v + 1))] (lsub_cons rfl (lsub_cons rfl (lsub_cons rfl lsub_nil))) ?_
                have h_575 := ir_41_4 hI_569
                have h_576 := ir_1_5 hI_499
                have h_577 := ir_41_5 hI_569
                have h_578 := ir_41_6 hI_569
                have h_579 := rt_ok hR_572 (by omega)
                have hro_hR_572 := rt_ok hR_572 (by omega)
                have kn_580 : Hid (c_498 A 0 = c_493 A 0) := hF_500 A 0 (fun q => q.elim (fun h => absurd h.1 (np0 hA rfl)) (fun q => q.elim (fun h => absurd h.1 (np0 hA rfl)) (fun h => absurd h.1 (np0 hA rfl))))
                have kn_581 : Hid (c_568 41 16 = c_551 41 16) := hF_570 41 16 (fun q => q.elim (fun h => absurd h.2 (ni rfl)) (fun q => q.elim (fun h => absurd h.2 (ni rfl)) (fun h => absurd h.2 (ni rfl))))
                have kn_582 : Hid (c_498 A 1 = c_493 A 1) := hF_500 A 1 (fun q => q.elim (fun h => absurd h.1 (np0 hA rfl)) (fun q => q.elim (fun h => absurd h.1 (np0 hA rfl)) (fun h => absurd h.1 (np0 hA rfl))))
                have kn_583 : Hid (c_568 41 17 = c_551 41 17) := hF_570 41 17 (fun q => q.elim (fun h => absurd h.2 (ni rfl)) (fun q => q.elim (fun h => absurd h.2 (ni rfl)) (fun h => absurd h.2 (ni rfl))))
                have kn_584 : Hid (c_498 A 2 = c_493 A 2) := hF_500 A 2 (fun q => q.elim (fun h => absurd h.1 (np0 hA rfl)) (fun q => q.elim (fun h => absurd h.1 (np0 hA rfl)) (fun h => absurd h.1 (np0 hA rfl))))
                have kn_585 : Hid (c_568 41 18 = c_551 41 18) := hF_570 41 18 (fun q => q.elim (fun h => absurd h.2 (ni rfl)) (fun q => q.elim (fun h => absurd h.2 (ni rfl)) (fun h => absurd h.2 (ni rfl))))
                exact ih c_568 c_498 (v + 1) (c_498 1 2) (c_493 A 0) (c_493 A 1) (c_493 A 2) hI_569 (fun a j hm => (hF_570 a j (fun q => q.elim (fun h => hm (Or.inl h)) (fun q => q.elim (fun h => hm (Or.inr (Or.inl h))) (fun h => hm (Or.inr (Or.inr (Or.inl h))))))).trans ((hF_553 a j (fun q => q.elim (fun h => hm (Or.inl h)) (fun q => q.elim (fun h => hm (Or.inr (Or.inl h))) (fun q => q.elim (fun h => hm (Or.inr (Or.inr (Or.inl h)))) (fun q => q.elim (fun h => hm (Or.inr (Or.inr (Or.inr (Or.inl h))))) (fun q => q.elim (fun h => hm (Or.inr (Or.inr (Or.inr (Or.inr (Or.inl h)))))) (fun q => q.elim (fun h => hm (Or.inr (Or.inr (Or.inr (Or.inr (Or.inr (Or.inl h))))))) (fun q => q.elim (fun h => hm (Or.inr (Or.inr (Or.inr (Or.inr (Or.inr (Or.inr (Or.inl h)))))))) (fun q => q.elim (fun h => hm (Or.inr (Or.inr (Or.inr (Or.inr (Or.inr (Or.inr (Or.inr (Or.inl h))))))))) (fun q => q.elim (fun h => hm (Or.inr (Or.inr (Or.inr (Or.inr (Or.inr (Or.inr (Or.inr (Or.inr (Or.inl h)))))))))) (fun h => hm (Or.inr (Or.inr (Or.inr (Or.inr (Or.inr (Or.inr (Or.inr (Or.inr (Or.inr h)))))))))))))))))))).trans ((hF_528 a j (fun h => hm (Or.inl h))).trans ((hF_519 a j (fun h => hm (Or.inl h))).trans ((hF_512 a j (fun h => hm (Or.inl h))).trans (hFc a j (fun q => q.elim (fun h => hm (Or.inl h)) (fun q => q.elim (fun h => hm (Or.inr (Or.inl h))) (fun q => q.elim (fun h => hm (Or.inr (Or.inr (Or.inl h)))) (fun q => q.elim (fun h => hm (Or.inr (Or.inr (Or.inr (Or.inl h))))) (fun q => q.elim (fun h => hm (Or.inr (Or.inr (Or.inr (Or.inr (Or.inl h)))))) (fun q => q.elim (fun h => hm (Or.inr (Or.inr (Or.inr (Or.inr (Or.inr (Or.inl h))))))) (fun q => q.elim (fun h => hm (Or.inr (Or.inr (Or.inr (Or.inr (Or.inr (Or.inr (Or.inl h)))))))) (fun q => q.elim (fun h => hm (Or.inr (Or.inr (Or.inr (Or.inr (Or.inr (Or.inr (Or.inr (Or.inl h))))))))) (fun q => q.elim (fun h => hm (Or.inr (Or.inr (Or.inr (Or.inr (Or.inr (Or.inr (Or.inr (Or.inr (Or.inl h)))))))))) (fun h => hm (Or.inr (Or.inr (Or.inr (Or.inr (Or.inr (Or.inr (Or.inr (Or.inr (Or.inr h))))))))))))))))))))))))) hI_499 (fun a j hm => (hF_500 a j (fun q => q.elim (fun h => hm (Or.inl h)) (fun q => q.elim (fun h => hm (Or.inr (Or.inl h))) (fun h => hm (Or.inr (Or.inr (Or.inl h))))))).trans ((hF_495 a j (fun q => q.elim (fun h => hm (Or.inl h)) (fun q => q.elim (fun h => hm (Or.inr (Or.inl h))) (fun q => q.elim (fun h => hm (Or.inr (Or.inr (Or.inl h)))) (fun q => q.elim (fun h => hm (Or.inr (Or.inr (Or.inr (Or.inl h))))) (fun q => q.elim (fun h => hm (Or.inr (Or.inr (Or.inr (Or.inr (Or.inl h)))))) (fun q => q.elim (fun h => hm (Or.inr (Or.inr (Or.inr (Or.inr (Or.inr (Or.inl h))))))) (fun q => q.elim (fun h => hm (Or.inr (Or.inr (Or.inr (Or.inr (Or.inr (Or.inr (Or.inl h)))))))) (fun q => q.elim (fun h => hm (Or.inr (Or.inr (Or.inr (Or.inr (Or.inr (Or.inr (Or.inr (Or.inl h))))))))) (fun q => q.elim (fun h => hm (Or.inr (Or.inr (Or.inr (Or.inr (Or.inr (Or.inr (Or.inr (Or.inr (Or.inl h)))))))))) (fun h => hm (Or.inr (Or.inr (Or.inr (Or.inr (Or.inr (Or.inr (Or.inr (Or.inr (Or.inr (Or.inl h))))))))))))))))))))).trans ((hF_87 a j (fun q => q.elim (fun h => hm (Or.inl h)) (fun q => q.elim (fun h => hm (Or.inr (Or.inl h))) (fun h => hm (Or.inr (Or.inr (Or.inl h))))))).trans ((hF_62 a j (fun h => hm (Or.inl h))).trans ((hF_26 a j (fun h => hm (Or.inl h))).trans (hFm a j (fun q => q.elim (fun h => hm (Or.inl h)) (fun q => q.elim (fun h => hm (Or.inr (Or.inl h))) (fun q => q.elim (fun h => hm (Or.inr (Or.inr (Or.inl h)))) (fun q => q.elim (fun h => hm (Or.inr (Or.inr (Or.inr (Or.inl h))))) (fun q => q.elim (fun h => hm (Or.inr (Or.inr (Or.inr (Or.inr (Or.inl h)))))) (fun q => q.elim (fun h => hm (Or.inr (Or.inr (Or.inr (Or.inr (Or.inr (Or.inl h))))))) (fun q => q.elim (fun h => hm (Or.inr (Or.inr (Or.inr (Or.inr (Or.inr (Or.inr (Or.inl h)))))))) (fun q => q.elim (fun h => hm (Or.inr (Or.inr (Or.inr (Or.inr (Or.inr (Or.inr (Or.inr (Or.inl h))))))))) (fun q => q.elim (fun h => hm (Or.inr (Or.inr (Or.inr (Or.inr (Or.inr (Or.inr (Or.inr (Or.inr (Or.inl h)))))))))) (fun q => q.elim (fun h => hm (Or.inr (Or.inr (Or.inr (Or.inr (Or.inr (Or.inr (Or.inr (Or.inr (Or.inr (Or.inl h))))))))))) (fun q => q.elim (fun h => hm (Or.inr (Or.inr (Or.inr (Or.inr (Or.inr (Or.inr (Or.inr (Or.inr (Or.inr (Or.inr (Or.inl h)))))))))))) (fun q => q.elim (fun h => hm (Or.inr (Or.inr (Or.inr (Or.inr (Or.inr (Or.inr (Or.inr (Or.inr (Or.inr (Or.inr (Or.inr (Or.inl h))))))))))))) (fun q => q.elim (fun h => hm (Or.inr (Or.inr (Or.inr (Or.inr (Or.inr (Or.inr (Or.inr (Or.inr (Or.inr (Or.inr (Or.inr (Or.inr (Or.inl h)))))))))))))) (fun h => hm (Or.inr (Or.inr (Or.inr (Or.inr (Or.inr (Or.inr (Or.inr (Or.inr (Or.inr (Or.inr (Or.inr (Or.inr (Or.inr h))))))))))))))))))))))))))))))))) ⟨by omega, by omega⟩ ⟨by omega, by omega⟩ ⟨by omega, by omega⟩ ⟨by omega, by omega⟩ ⟨by omega, by omega⟩ (rfl) (hro_hR_572.2.2.1) ((hid kn_580)) ((show _ = c_551 41 16 from (hid kn_581)).trans (by omega)) ((hid kn_582)) ((show _ = c_551 41 17 from (hid kn_583)).trans (by omega)) ((hid kn_584)) ((show _ = c_551 41 18 from (hid kn_585)).trans (by omega)) ((show _ = c_498 1 4 from rfl).trans (by omega)) (hro_hR_572.2.1) ((show _ = c_498 1 5 from rfl).trans (by omega)) hG_504 (by omega)
              · skip
                refine q_iload_n rfl rfl ?_
                refine v_bip rfl (by decide) ?_
                refine v_ic_gt_f (t := 85) rfl (by decide) (by omega) ?_
                refine q_aload_n rfl rfl ?_
                refine v_cv rfl rfl rfl rfl (by decide) ⟨⟨rfl, rfl⟩, by decide, rfl⟩ (Nat.le_of_ble_eq_true rfl) (Nat.le_of_ble_eq_true rfl) ?_
                refine q_aload_n rfl rfl ?_
                refine v_cv rfl rfl rfl rfl (by decide) ⟨⟨rfl, rfl⟩, by decide, rfl⟩ (Nat.le_of_ble_eq_true rfl) (Nat.le_of_ble_eq_true rfl) ?_
                refine q_aload_n rfl rfl ?_
                refine v_gi (z := 4) (v := c_498 1 4) rfl rfl rfl (by decide) rfl rfl rfl ?_
                refine v_if_ne_t (t := 11) rfl (by decide) (by omega) ?_
                refine q_iconst rfl ?_
                refine v_zret rfl rfl (by decide) ?_
                refine bk_inl ?_
                refine v_if_eq_t (t := 22) rfl (by decide) (by decide) ?_
                refine q_iconst rfl ?_
                refine v_zret rfl rfl (by decide) ?_
                refine bk_inl ?_
                refine v_if_eq_t (t := 85) rfl (by decide) (by decide) ?_
                refine q_vret rfl rfl ?_
                intro hE_586
                have hW : Wd P Q P P c_498 = Wd P Q P P m9 := (Prod.mk.inj (Prod.mk.inj hE_586).2).1
                have h_587 := ir_1_4 hJ9
                have h_588 : m9 1 4 = c_498 1 4 := wd_fv (z := 4) 4 rfl hW rfl rfl rfl rfl (by decide) rfl ⟨by omega, by omega⟩ ⟨by omega, by omega⟩
                have h_589 := ir_1_2 hI_499
                have h_590 := ir_1_2 hJ9
                have h_591 : m9 1 2 = c_498 1 2 := wd_fv (z := 2) 2 rfl hW rfl rfl rfl rfl (by decide) rfl ⟨by omega, by omega⟩ ⟨by omega, by omega⟩
                have h_592 := ir_1_5 hI_499
                have h_593 := ir_1_5 hJ9
                have h_594 : m9 1 5 = c_498 1 5 := wd_fv (z := 5) 5 rfl hW rfl rfl rfl rfl (by decide) rfl ⟨by omega, by omega⟩ ⟨by omega, by omega⟩
                have h_595 := ir_p0_0 hI_494 hA
                have kn_596 : Hid (c_498 A 0 = c_493 A 0) := hF_500 A 0 (fun q => q.elim (fun h => absurd h.1 (np0 hA rfl)) (fun q => q.elim (fun h => absurd h.1 (np0 hA rfl)) (fun h => absurd h.1 (np0 hA rfl))))
                have h_597 := ir_p0_0 hJ9 hA
                have h_598 : m9 A 0 = c_493 A 0 := wd_fv (z := 0) 0 rfl hW (ck_A hA) (ck_A hA) rfl rfl (by omega) (hid kn_596) ⟨by omega, by omega⟩ ⟨by omega, by omega⟩
                refine q_aload_n rfl rfl ?_
                refine v_cv rfl rfl rfl rfl (by decide) ⟨⟨rfl, rfl⟩, by decide, rfl⟩ (Nat.le_of_ble_eq_true rfl) (Nat.le_of_ble_eq_true rfl) ?_
                refine q_aload_n rfl rfl ?_
                refine v_gi (z := 5) (v := (-1)) rfl rfl rfl (by decide) rfl rfl (hc_1) ?_
                refine q_iconst rfl ?_
                refine v_ic_ne_f (t := 12) rfl (by decide) (by decide) ?_
                refine q_iconst rfl ?_
                refine q_goto (t := 13) rfl (by decide) ?_
                refine v_zret rfl rfl (by decide) ?_
                refine bk_inl ?_
                refine v_if_eq_f (t := 136) rfl (by decide) (by decide) ?_
                refine q_aload_n rfl rfl ?_
                refine v_cv rfl rfl rfl rfl (by decide) ⟨⟨rfl, rfl⟩, by decide, rfl⟩ (Nat.le_of_ble_eq_true rfl) (Nat.le_of_ble_eq_true rfl) ?_
                refine q_aload_n rfl rfl ?_
                have kn_599 : Hid (c2 41 3 = e1) := (hFc 41 3 (fun q => q.elim (fun h => absurd h.2 (ni rfl)) (fun q => q.elim (fun h => absurd h.2 (ni rfl)) (fun q => q.elim (fun h => absurd h.2 (ni rfl)) (fun q => q.elim (fun h => absurd h.2 (ni rfl)) (fun q => q.elim (fun h => absurd h.2 (ni rfl)) (fun q => q.elim (fun h => absurd h.2 (ni rfl)) (fun q => q.elim (fun h => absurd h.2 (ni rfl)) (fun q => q.elim (fun h => absurd h (nn rfl)) (fun q => q.elim (fun h => absurd h (nn rfl)) (fun h => absurd h (nn rfl)))))))))))).trans (hr_e1)
                have h_600 : -2147483648 ≤ (H (nx F e1 a)) ∧ (H (nx F e1 a)) ≤ 2147483647 := by rw [← hH (nx F e1 a)]; exact ir_43 hI (nx F e1 a)
                have h_601 := hU (nx F e1 a) (by omega) (by omega)
                have h_602 := hb_or (b := H) (e := e1) (r := (nx F e1 a))
                have h_603 := hb_bd (b := H) (e := e1) (r := (nx F e1 a)) (lo := -2147483648) (hi := 2147483647) ⟨by omega, by omega⟩ (by decide)
                refine v_cv rfl rfl rfl rfl (by decide) ⟨⟨rfl, rfl⟩, by decide, rfl⟩ (Nat.le_of_ble_eq_true rfl) (Nat.le_of_ble_eq_true rfl) (f_154 (e1 := e1) (a9 := a) (B := H) (r8 := (nx F e1 a)) (r := (hb H e1 (nx F e1 a))) hI2 ((hid kn_599)) ((hr_a)) (fun j => (hFc 43 j (fun q => q.elim (fun h => absurd h.1 (nn rfl)) (fun q => q.elim (fun h => absurd h.1 (nn rfl)) (fun q => q.elim (fun h => absurd h.1 (nn rfl)) (fun q => q.elim (fun h => absurd h.1 (nn rfl)) (fun q => q.elim (fun h => absurd h.1 (nn rfl)) (fun q => q.elim (fun h => absurd h.1 (nn rfl)) (fun q => q.elim (fun h => absurd h.1 (nn rfl)) (fun q => q.elim (fun h => absurd h (nn rfl)) (fun q => q.elim (fun h => absurd h (nn rfl)) (fun h => absurd h (nn rfl)))))))))))).trans (hH j)) ((nx_tr hU (by omega) (by omega)).trans (rfl)) rfl (fun c_604 hI_605 hF_606 h_607 => ?_))
                refine bk_inl ?_
                refine q_pop rfl rfl ?_
                refine q_aload_n rfl rfl ?_
                refine v_gi (z := 4) (v := (nx F e1 a)) rfl rfl rfl (by decide) rfl rfl (h_607) ?_
                refine q_aload_n rfl rfl ?_
                have kn_608 : Hid (c_604 41 3 = e1) := (hF_606 41 3 (fun h => absurd h.2 (ni rfl))).trans (hid kn_599)
                refine v_gi (z := 3) (v := e1) rfl rfl rfl (by decide) rfl rfl (hid kn_608) ?_
                refine v_ic_ge_f (t := 20) rfl (by decide) (by omega) ?_
                refine q_iconst rfl ?_
                refine q_goto (t := 21) rfl (by decide) ?_
                refine v_zret rfl rfl (by decide) ?_
                refine bk_inl ?_
                refine v_if_eq_f (t := 136) rfl (by decide) (by decide) ?_
                refine q_aload_n rfl rfl ?_
                have h_609 := wv_bd (b := F) (r := (nx F e1 a)) (l := (ln F e1 (nx F e1 a))) (fun j h1 h2 => ⟨(ln_in (e := e1) (a := (nx F e1 a)) h1 (by omega)).1, (ln_in (e := e1) (a := (nx F e1 a)) h1 (by omega)).2.1⟩)
                have h_610 := wr8_1 (b := F) (r := (nx F e1 a)) (l := (ln F e1 (nx F e1 a))) (by omega) (fun j h1 h2 => ⟨(ln_in (e := e1) (a := (nx F e1 a)) h1 (by omega)).1, (ln_in (e := e1) (a := (nx F e1 a)) h1 (by omega)).2.1⟩) (by omega)
                refine v_cv rfl rfl rfl rfl (by decide) ⟨⟨rfl, rfl⟩, by decide, rfl⟩ (Nat.le_of_ble_eq_true rfl) (Nat.le_of_ble_eq_true rfl) (f_157 (e1 := e1) (a9 := (nx F e1 a)) (B := H) (r8 := (nx F e1 a)) (L8 := (ln F e1 (nx F e1 a))) (W8 := (wv F (nx F e1 a) (ln F e1 (nx F e1 a)))) hI_605 ((hid kn_608)) ((h_607)) (fun j => ((hF_606 43 j (fun h => absurd h.1 (nn rfl))).trans (hFc 43 j (fun q => q.elim (fun h => absurd h.1 (nn rfl)) (fun q => q.elim (fun h => absurd h.1 (nn rfl)) (fun q => q.elim (fun h => absurd h.1 (nn rfl)) (fun q => q.elim (fun h => absurd h.1 (nn rfl)) (fun q => q.elim (fun h => absurd h.1 (nn rfl)) (fun q => q.elim (fun h => absurd h.1 (nn rfl)) (fun q => q.elim (fun h => absurd h.1 (nn rfl)) (fun q => q.elim (fun h => absurd h (nn rfl)) (fun q => q.elim (fun h => absurd h (nn rfl)) (fun h => absurd h (nn rfl))))))))))))).trans (hH j)) ((nx_tr hU (by omega) (by omega)).trans ((nx_z (by omega)))) ((ln_tr hU (by omega) (by omega)).trans (rfl)) ((wv_tr hU (by omega) (by omega) (fun j h1 h2 => ⟨(ln_in (e := e1) (a := (nx F e1 a)) h1 (by omega)).1, (ln_in (e := e1) (a := (nx F e1 a)) h1 (by omega)).2.1⟩)).trans (rfl)) (fun c_611 hI_612 hF_613 hz_614 => ?_))
                refine bk_inl ?_
                refine q_istore_n rfl (by decide) ?_
                refine q_iload_n rfl rfl ?_
                refine q_call rfl rfl rfl rfl ?_
                refine q_iload_n rfl rfl ?_
                refine q_ldc_s rfl rfl rfl (by decide) ?_
                refine q_call rfl rfl rfl rfl (s_158_16 ?_)
                refine bk_inl ?_
                refine v_ic_eq_f (t := 36) rfl (by decide) (by omega) ?_
                refine q_iload_n rfl rfl ?_
                refine q_ldc_s rfl rfl rfl (by decide) ?_
                refine q_call rfl rfl rfl rfl (s_158_17 ?_)
                refine bk_inl ?_
                refine v_ic_eq_t (t := 36) rfl (by decide) (by omega) ?_
                refine q_iconst rfl ?_
                refine q_goto (t := 41) rfl (by decide) ?_
                refine v_zret rfl rfl (by decide) ?_
                refine bk_inl ?_
                refine v_if_ne_t (t := 82) rfl (by decide) (by decide) ?_
                refine q_iload_n rfl rfl ?_
                refine v_bip rfl (by decide) ?_
                refine v_ic_eq_f (t := 96) rfl (by decide) (by omega) ?_
                refine q_aload_n rfl rfl ?_
                refine q_iload_n rfl rfl ?_
                refine v_cv rfl rfl rfl rfl (by decide) ⟨⟨rfl, rfl⟩, by decide, rfl⟩ (Nat.le_of_ble_eq_true rfl) (Nat.le_of_ble_eq_true rfl) ?_
                refine q_iload_n rfl rfl ?_
                refine q_ldc_s rfl rfl rfl (by decide) ?_
                refine q_call rfl rfl rfl rfl (s_158_16 ?_)
                refine bk_inl ?_
                refine v_ic_ne_t (t := 26) rfl (by decide) (by omega) ?_
                refine q_iload_n rfl rfl ?_
                refine q_ldc_s rfl rfl rfl (by decide) ?_
                refine q_call rfl rfl rfl rfl (s_158_17 ?_)
                refine bk_inl ?_
                refine v_ic_ne_f (t := 51) rfl (by decide) (by omega) ?_
                refine q_aload_n rfl rfl ?_
                have kn_615 : Hid (c_604 41 17 = st) := (hF_606 41 17 (fun h => absurd h.2 (ni rfl))).trans (hr_st)
                have kn_616 : Hid (c_611 41 17 = st) := (hF_613 41 17 (fun h => absurd h.2 (ni rfl))).trans (hid kn_615)
                refine v_gi (z := 17) (v := st) rfl rfl rfl (by decide) rfl rfl (hid kn_616) ?_
                refine q_iconst rfl ?_
                refine v_ic_ne_t (t := 47) rfl (by decide) (by omega) ?_
                refine q_iconst rfl ?_
                refine q_goto (t := 73) rfl (by decide) ?_
                refine v_zret rfl rfl (by decide) ?_
                refine bk_inl ?_
                refine v_if_eq_t (t := 105) rfl (by decide) (by decide) ?_
                refine q_aload_n rfl rfl ?_
                refine v_cv rfl rfl rfl rfl (by decide) ⟨⟨rfl, rfl⟩, by decide, rfl⟩ (Nat.le_of_ble_eq_true rfl) (Nat.le_of_ble_eq_true rfl) ?_
                refine q_aload_n rfl rfl ?_
                have kn_617 : Hid (c_604 41 5 = (-1)) := (hF_606 41 5 (fun h => absurd h.2 (ni rfl))).trans (hc_1)
                have kn_618 : Hid (c_611 41 5 = (-1)) := (hF_613 41 5 (fun h => absurd h.2 (ni rfl))).trans (hid kn_617)
                refine v_gi (z := 5) (v := (-1)) rfl rfl rfl (by decide) rfl rfl (hid kn_618) ?_
                refine q_iconst rfl ?_
                refine v_ic_ne_f (t := 12) rfl (by decide) (by decide) ?_
                refine q_iconst rfl ?_
                refine q_goto (t := 13) rfl (by decide) ?_
                refine v_zret rfl rfl (by decide) ?_
                refine bk_inl ?_
                refine v_if_ne_t (t := 115) rfl (by decide) (by decide) ?_
                refine q_aload_n rfl rfl ?_
                have kn_619 : Hid (c_611 41 3 = e1) := (hF_613 41 3 (fun h => absurd h.2 (ni rfl))).trans (hid kn_608)
                refine v_cv rfl rfl rfl rfl (by decide) ⟨⟨rfl, rfl⟩, by decide, rfl⟩ (Nat.le_of_ble_eq_true rfl) (Nat.le_of_ble_eq_true rfl) (f_159 (e1 := e1) (a9 := (nx F e1 a)) (B := H) (L8 := (ln F e1 (nx F e1 a))) hI_612 ((hid kn_619)) ((hz_614)) (fun j => ((hF_613 43 j (fun h => absurd h.1 (nn rfl))).trans ((hF_606 43 j (fun h => absurd h.1 (nn rfl))).trans (hFc 43 j (fun q => q.elim (fun h => absurd h.1 (nn rfl)) (fun q => q.elim (fun h => absurd h.1 (nn rfl)) (fun q => q.elim (fun h => absurd h.1 (nn rfl)) (fun q => q.elim (fun h => absurd h.1 (nn rfl)) (fun q => q.elim (fun h => absurd h.1 (nn rfl)) (fun q => q.elim (fun h => absurd h.1 (nn rfl)) (fun q => q.elim (fun h => absurd h.1 (nn rfl)) (fun q => q.elim (fun h => absurd h (nn rfl)) (fun q => q.elim (fun h => absurd h (nn rfl)) (fun h => absurd h (nn rfl)))))))))))))).trans (hH j)) ((ln_tr hU (by omega) (by omega)).trans (rfl)) (fun c_620 hI_621 hF_622 hz_623 => ?_))
                refine bk_inl ?_
                refine q_aload_n rfl rfl ?_
                refine q_iload_n rfl rfl ?_
                have hw_624 : (wv F (nx F e1 a) (ln F e1 (nx F e1 a))) = 20594117 := by omega
                rw [hw_624]
                have kn_625 : Hid (c_85 1 1 = e1) := (hF_87 1 1 (fun q => q.elim (fun h => absurd h.2 (ni rfl)) (fun q => q.elim (fun h => absurd h.2 (ni rfl)) (fun h => absurd h.2 (ni rfl))))).trans (hid kn_64)
                have kn_626 : Hid (c_620 41 3 = e1) := (hF_622 41 3 (fun h => absurd h.2 (ni rfl))).trans (hid kn_619)
                have kn_627 : Hid (c_604 41 16 = jr) := (hF_606 41 16 (fun h => absurd h.2 (ni rfl))).trans (hr_jr)
                have kn_628 : Hid (c_611 41 16 = jr) := (hF_613 41 16 (fun h => absurd h.2 (ni rfl))).trans (hid kn_627)
                have kn_629 : Hid (c_620 41 16 = jr) := (hF_622 41 16 (fun h => absurd h.2 (ni rfl))).trans (hid kn_628)
                have kn_630 : Hid (c_620 41 17 = st) := (hF_622 41 17 (fun h => absurd h.2 (ni rfl))).trans (hid kn_616)
                have kn_631 : Hid (c_604 41 18 = si) := (hF_606 41 18 (fun h => absurd h.2 (ni rfl))).trans (hr_si)
                have kn_632 : Hid (c_611 41 18 = si) := (hF_613 41 18 (fun h => absurd h.2 (ni rfl))).trans (hid kn_631)
                have kn_633 : Hid (c_620 41 18 = si) := (hF_622 41 18 (fun h => absurd h.2 (ni rfl))).trans (hid kn_632)
                have h_634 : c_85 1 4 = 0 := (hz_91)
                have h_635 : c_85 1 2 = (ln F e1 (nx F e1 a)) := (hz_90)
                have h_636 : c_85 1 5 = (-1) := (hz_92)
                have kn_637 : Hid (c_620 41 5 = (-1)) := (hF_622 41 5 (fun h => absurd h.2 (ni rfl))).trans (hid kn_618)
                have h_638 : c_620 41 5 = (-1) := (hid kn_637)
                have h_639 : c_620 41 4 = (ln F e1 (nx F e1 a)) := (hz_623)
                have h_640 := ir_41_6 hI2
                have kn_641 : Hid (c_604 41 6 = c2 41 6) := hF_606 41 6 (fun h => absurd h.2 (ni rfl))
                have kn_642 : Hid (c_611 41 6 = c2 41 6) := (hF_613 41 6 (fun h => absurd h.2 (ni rfl))).trans (hid kn_641)
                have kn_643 : Hid (c_620 41 6 = c2 41 6) := (hF_622 41 6 (fun h => absurd h.2 (ni rfl))).trans (hid kn_642)
                have h_644 : c_620 41 6 = c2 41 6 := (hid kn_643)
                refine v_cv rfl rfl rfl rfl (by decide) ⟨⟨rfl, rfl⟩, by decide, rfl⟩ (Nat.le_of_ble_eq_true rfl) (Nat.le_of_ble_eq_true rfl) (L_33_1 (m := c_85) (e1 := e1) (jr := jr) (st := st) (si := si) (F := F) (H := H) hI_621 hI_86 hI_494 hA (by omega) ((hid kn_625)) ((hid kn_626)) ((hid kn_486)) ((hid kn_629)) ((hid kn_481)) ((hid kn_630)) ((hid kn_491)) ((hid kn_633)) (fun j => ((hF_87 2 j (fun q => q.elim (fun h => absurd h.1 (nn rfl)) (fun q => q.elim (fun h => absurd h.1 (nn rfl)) (fun h => absurd h.1 (nn rfl))))).trans ((hF_62 2 j (fun h => absurd h.1 (nn rfl))).trans ((hF_26 2 j (fun h => absurd h.1 (nn rfl))).trans (hFm 2 j (fun q => q.elim (fun h => absurd h.1 (nn rfl)) (fun q => q.elim (fun h => absurd h.1 (nn rfl)) (fun q => q.elim (fun h => absurd h.1 (nn rfl)) (fun q => q.elim (fun h => absurd h.1 (pn0 hA rfl)) (fun q => q.elim (fun h => absurd h.1 (pn0 hA rfl)) (fun q => q.elim (fun h => absurd h.1 (pn0 hA rfl)) (fun q => q.elim (fun h => absurd h.1 (pn0 hA rfl)) (fun q => q.elim (fun h => absurd h (pn hA rfl rfl)) (fun q => q.elim (fun h => absurd h (pn hA rfl rfl)) (fun q => q.elim (fun h => absurd h (pn hA rfl rfl)) (fun q => q.elim (fun h => absurd h.1 (pn0 hA rfl)) (fun q => q.elim (fun h => absurd h.1 (pn0 hA rfl)) (fun q => q.elim (fun h => absurd h (pn hA rfl rfl)) (fun h => absurd h.1 (pn hA rfl rfl))))))))))))))))))).trans (hF j)) (fun j => ((hF_622 43 j (fun h => absurd h.1 (nn rfl))).trans ((hF_613 43 j (fun h => absurd h.1 (nn rfl))).trans ((hF_606 43 j (fun h => absurd h.1 (nn rfl))).trans (hFc 43 j (fun q => q.elim (fun h => absurd h.1 (nn rfl)) (fun q => q.elim (fun h => absurd h.1 (nn rfl)) (fun q => q.elim (fun h => absurd h.1 (nn rfl)) (fun q => q.elim (fun h => absurd h.1 (nn rfl)) (fun q => q.elim (fun h => absurd h.1 (nn rfl)) (fun q => q.elim (fun h => absurd h.1 (nn rfl)) (fun q => q.elim (fun h => absurd h.1 (nn rfl)) (fun q => q.elim (fun h => absurd h (nn rfl)) (fun q => q.elim (fun h => absurd h (nn rfl)) (fun h => absurd h (nn rfl))))))))))))))).trans (hH j)) hU (by unfold Rt; omega) hG_496 (fun c_645 hI_646 hF_647 hR_649 h_650 h_651 h_652 => ?_))
                refine bk_inl ?_
                have h_653 := ir_41_16 hI_646
                have h_654 := ir_41_17 hI_646
                have h_655 := ir_p0_1 hI_494 hA
                have h_656 := ir_41_18 hI_646
                have h_657 := ir_p0_2 hI_494 hA
                refine q_aload_n rfl rfl ?_
                refine v_bip rfl (by decide) ?_
                have kn_658 : Hid (c_493 1 1 = e1) := (hF_495 1 1 (fun q => q.elim (fun h => absurd h.2 (ni rfl)) (fun q => q.elim (fun h => absurd h.2 (ni rfl)) (fun q => q.elim (fun h => absurd h.2 (ni rfl)) (fun q => q.elim (fun h => absurd h.1 (pn0 hA rfl)) (fun q => q.elim (fun h => absurd h.1 (pn0 hA rfl)) (fun q => q.elim (fun h => absurd h.1 (pn0 hA rfl)) (fun q => q.elim (fun h => absurd h.1 (pn0 hA rfl)) (fun q => q.elim (fun h => absurd h (pn hA rfl rfl)) (fun q => q.elim (fun h => absurd h (pn hA rfl rfl)) (fun h => absurd h (pn hA rfl rfl)))))))))))).trans (hid kn_625)
                have kn_659 : Hid (c_645 41 3 = e1) := (hF_647 41 3 (fun q => q.elim (fun h => absurd h.2 (ni rfl)) (fun q => q.elim (fun h => absurd h.2 (ni rfl)) (fun q => q.elim (fun h => absurd h.2 (ni rfl)) (fun q => q.elim (fun h => absurd h.2 (ni rfl)) (fun q => q.elim (fun h => absurd h.2 (ni rfl)) (fun q => q.elim (fun h => absurd h.2 (ni rfl)) (fun q => q.elim (fun h => absurd h.2 (ni rfl)) (fun q => q.elim (fun h => absurd h (nn rfl)) (fun q => q.elim (fun h => absurd h (nn rfl)) (fun h => absurd h (nn rfl)))))))))))).trans (hid kn_626)
                have h_660 := ir_1_2 hI_494
                refine v_cv rfl rfl rfl rfl (by decide) ⟨⟨rfl, rfl⟩, by decide, rfl⟩ (Nat.le_of_ble_eq_true rfl) (Nat.le_of_ble_eq_true rfl) (L_11_9 (m := c_493) (e1 := e1) (a9 := c_493 1 2) (F := F) (H := H) hI_646 hI_494 hI_499 ((hid kn_658)) ((hid kn_659)) (rfl) (fun j => ((hF_495 2 j (fun q => q.elim (fun h => absurd h.1 (nn rfl)) (fun q => q.elim (fun h => absurd h.1 (nn rfl)) (fun q => q.elim (fun h => absurd h.1 (nn rfl)) (fun q => q.elim (fun h => absurd h.1 (pn0 hA rfl)) (fun q => q.elim (fun h => absurd h.1 (pn0 hA rfl)) (fun q => q.elim (fun h => absurd h.1 (pn0 hA rfl)) (fun q => q.elim (fun h => absurd h.1 (pn0 hA rfl)) (fun q => q.elim (fun h => absurd h (pn hA rfl rfl)) (fun q => q.elim (fun h => absurd h (pn hA rfl rfl)) (fun h => absurd h (pn hA rfl rfl)))))))))))).trans ((hF_87 2 j (fun q => q.elim (fun h => absurd h.1 (nn rfl)) (fun q => q.elim (fun h => absurd h.1 (nn rfl)) (fun h => absurd h.1 (nn rfl))))).trans ((hF_62 2 j (fun h => absurd h.1 (nn rfl))).trans ((hF_26 2 j (fun h => absurd h.1 (nn rfl))).trans (hFm 2 j (fun q => q.elim (fun h => absurd h.1 (nn rfl)) (fun q => q.elim (fun h => absurd h.1 (nn rfl)) (fun q => q.elim (fun h => absurd h.1 (nn rfl)) (fun q => q.elim (fun h => absurd h.1 (pn0 hA rfl)) (fun q => q.elim (fun h => absurd h.1 (pn0 hA rfl)) (fun q => q.elim (fun h => absurd h.1 (pn0 hA rfl)) (fun q => q.elim (fun h => absurd h.1 (pn0 hA rfl)) (fun q => q.elim (fun h => absurd h (pn hA rfl rfl)) (fun q => q.elim (fun h => absurd h (pn hA rfl rfl)) (fun q => q.elim (fun h => absurd h (pn hA rfl rfl)) (fun q => q.elim (fun h => absurd h.1 (pn0 hA rfl)) (fun q => q.elim (fun h => absurd h.1 (pn0 hA rfl)) (fun q => q.elim (fun h => absurd h (pn hA rfl rfl)) (fun h => absurd h.1 (pn hA rfl rfl)))))))))))))))))))).trans (hF j)) (fun j => ((hF_647 43 j (fun q => q.elim (fun h => absurd h.1 (nn rfl)) (fun q => q.elim (fun h => absurd h.1 (nn rfl)) (fun q => q.elim (fun h => absurd h.1 (nn rfl)) (fun q => q.elim (fun h => absurd h.1 (nn rfl)) (fun q => q.elim (fun h => absurd h.1 (nn rfl)) (fun q => q.elim (fun h => absurd h.1 (nn rfl)) (fun q => q.elim (fun h => absurd h.1 (nn rfl)) (fun q => q.elim (fun h => absurd h (nn rfl)) (fun q => q.elim (fun h => absurd h (nn rfl)) (fun h => absurd h (nn rfl)))))))))))).trans ((hF_622 43 j (fun h => absurd h.1 (nn rfl))).trans ((hF_613 43 j (fun h => absurd h.1 (nn rfl))).trans ((hF_606 43 j (fun h => absurd h.1 (nn rfl))).trans (hFc 43 j (fun q => q.elim (fun h => absurd h.1 (nn rfl)) (fun q => q.elim (fun h => absurd h.1 (nn rfl)) (fun q => q.elim (fun h => absurd h.1 (nn rfl)) (fun q => q.elim (fun h => absurd h.1 (nn rfl)) (fun q => q.elim (fun h => absurd h.1 (nn rfl)) (fun q => q.elim (fun h => absurd h.1 (nn rfl)) (fun q => q.elim (fun h => absurd h.1 (nn rfl)) (fun q => q.elim (fun h => absurd h (nn rfl)) (fun q => q.elim (fun h => absurd h (nn rfl)) (fun h => absurd h (nn rfl)))))))))))))))).trans (hH j)) hU hR_649 hG_501 (fun c_661 hI_662 hF_663 hR_665 h_666 => ?_))
                refine bk_inl ?_
                refine v_iinc (v := v + 1) rfl rfl (by decide) (by omega) ?_
                refine q_goto (t := 44) rfl (by decide) ?_
                refine q_aload_n rfl rfl ?_
                refine v_cv rfl rfl rfl rfl (by decide) ⟨⟨rfl, rfl⟩, by decide, rfl⟩ (Nat.le_of_ble_eq_true rfl) (Nat.le_of_ble_eq_true rfl) ?_
                refine q_aload_n rfl rfl ?_
                have h_667 := ir_41_5 hI_662
                have h_668 := ir_41_4 hI_662
                have h_669 := ir_41_6 hI_662
                have h_670 := rt_bad hR_665 (by omega)
                have hrb_hR_665 := rt_bad hR_665 (by omega)
                refine v_gi (z := 5) (v := c_498 1 5) rfl rfl rfl (by decide) rfl rfl hrb_hR_665.2.1 ?_
                refine q_iconst rfl ?_
                refine v_ic_ne_t (t := 12) rfl (by decide) (by omega) ?_
                refine q_iconst rfl ?_
                refine v_zret rfl rfl (by decide) ?_
                refine bk_inl ?_
                refine v_if_eq_t (t := 136) rfl (by decide) (by decide) ?_
                refine Wp_ls [(0, .ref 41), (1, vi a1)] (lsub_cons rfl (lsub_cons rfl lsub_nil)) ?_
                have h_671 : c_661 41 5 = c_498 1 5 := hrb_hR_665.2.1
                have h_672 : c_661 41 6 = c_498 1 4 := hrb_hR_665.2.2.2
                have kn_673 : Hid (c_661 41 16 = c_645 41 16) := hF_663 41 16 (fun q => q.elim (fun h => absurd h.2 (ni rfl)) (fun q => q.elim (fun h => absurd h.2 (ni rfl)) (fun h => absurd h.2 (ni rfl))))
                have h_674 : c_661 41 16 = c_645 41 16 := (hid kn_673)
                exact K c_661  hI_662 (fun a j hm => (hF_663 a j (fun q => q.elim (fun h => hm (Or.inl h)) (fun q => q.elim (fun h => hm (Or.inr (Or.inl h))) (fun h => hm (Or.inr (Or.inr (Or.inl h))))))).trans ((hF_647 a j (fun q => q.elim (fun h => hm (Or.inl h)) (fun q => q.elim (fun h => hm (Or.inr (Or.inl h))) (fun q => q.elim (fun h => hm (Or.inr (Or.inr (Or.inl h)))) (fun q => q.elim (fun h => hm (Or.inr (Or.inr (Or.inr (Or.inl h))))) (fun q => q.elim (fun h => hm (Or.inr (Or.inr (Or.inr (Or.inr (Or.inl h)))))) (fun q => q.elim (fun h => hm (Or.inr (Or.inr (Or.inr (Or.inr (Or.inr (Or.inl h))))))) (fun q => q.elim (fun h => hm (Or.inr (Or.inr (Or.inr (Or.inr (Or.inr (Or.inr (Or.inl h)))))))) (fun q => q.elim (fun h => hm (Or.inr (Or.inr (Or.inr (Or.inr (Or.inr (Or.inr (Or.inr (Or.inl h))))))))) (fun q => q.elim (fun h => hm (Or.inr (Or.inr (Or.inr (Or.inr (Or.inr (Or.inr (Or.inr (Or.inr (Or.inl h)))))))))) (fun h => hm (Or.inr (Or.inr (Or.inr (Or.inr (Or.inr (Or.inr (Or.inr (Or.inr (Or.inr h)))))))))))))))))))).trans ((hF_622 a j (fun h => hm (Or.inl h))).trans ((hF_613 a j (fun h => hm (Or.inl h))).trans ((hF_606 a j (fun h => hm (Or.inl h))).trans (hFc a j (fun q => q.elim (fun h => hm (Or.inl h)) (fun q => q.elim (fun h => hm (Or.inr (Or.inl h))) (fun q => q.elim (fun h => hm (Or.inr (Or.inr (Or.inl h)))) (fun q => q.elim (fun h => hm (Or.inr (Or.inr (Or.inr (Or.inl h))))) (fun q => q.elim (fun h => hm (Or.inr (Or.inr (Or.inr (Or.inr (Or.inl h)))))) (fun q => q.elim (fun h => hm (Or.inr (Or.inr (Or.inr (Or.inr (Or.inr (Or.inl h))))))) (fun q => q.elim (fun h => hm (Or.inr (Or.inr (Or.inr (Or.inr (Or.inr (Or.inr (Or.inl h)))))))) (fun q => q.elim (fun h => hm (Or.inr (Or.inr (Or.inr (Or.inr (Or.inr (Or.inr (Or.inr (Or.inl h))))))))) (fun q => q.elim (fun h => hm (Or.inr (Or.inr (Or.inr (Or.inr (Or.inr (Or.inr (Or.inr (Or.inr (Or.inl h)))))))))) (fun h => hm (Or.inr (Or.inr (Or.inr (Or.inr (Or.inr (Or.inr (Or.inr (Or.inr (Or.inr h))))))))))))))))))))))))) (by unfold Rt; omega) (by omega)
            · refine v_ic_ne_f (t := 55) rfl (by decide) (by omega) ?_
              refine q_iconst rfl ?_
              refine q_goto (t := 56) rfl (by decide) ?_
              refine v_zret rfl rfl (by decide) ?_
              refine bk_inl ?_
              refine v_if_eq_f (t := 59) rfl (by decide) (by decide) ?_
              refine q_aload_n rfl rfl ?_
              refine q_iconst rfl ?_
              refine q_iload_n rfl rfl ?_
              refine v_cv rfl rfl rfl rfl (by decide) ⟨⟨rfl, rfl⟩, by decide, rfl⟩ (Nat.le_of_ble_eq_true rfl) (Nat.le_of_ble_eq_true rfl) ?_
              refine q_aload_n rfl rfl ?_
              refine v_gi (z := 4) (v := 0) rfl rfl rfl (by decide) rfl rfl (hz_91) ?_
              refine v_if_ne_f (t := 17) rfl (by decide) (by decide) ?_
              refine q_aload_n rfl rfl ?_
              refine q_iload_n rfl rfl ?_
              refine v_pi (z := 4) rfl rfl rfl (by decide) rfl rfl rfl (by decide) ?_
              refine q_aload_n rfl rfl ?_
              refine q_iload_n rfl rfl ?_
              refine v_pi (z := 5) rfl rfl rfl (by decide) rfl rfl rfl (by decide) ?_
              refine q_vret rfl rfl ?_
              refine bk_inl ?_
              refine q_aload_n rfl rfl ?_
              refine v_cv rfl rfl rfl rfl (by decide) ⟨⟨rfl, rfl⟩, by decide, rfl⟩ (Nat.le_of_ble_eq_true rfl) (Nat.le_of_ble_eq_true rfl) ?_
              refine q_aload_n rfl rfl ?_
              refine v_gi (z := 4) (v := 3) rfl rfl rfl (by decide) rfl rfl ((up_n (by decide)).trans (up_e rfl)) ?_
              refine v_if_ne_t (t := 11) rfl (by decide) (by decide) ?_
              refine q_iconst rfl ?_
              refine v_zret rfl rfl (by decide) ?_
              refine bk_inl ?_
              refine v_if_eq_t (t := 73) rfl (by decide) (by decide) ?_
              refine q_aload_n rfl rfl ?_
              refine q_ldc_s rfl rfl rfl (by decide) ?_
              refine v_cv rfl rfl rfl rfl (by decide) ⟨⟨rfl, rfl⟩, by decide, rfl⟩ (Nat.le_of_ble_eq_true rfl) (Nat.le_of_ble_eq_true rfl) ?_
              refine q_aload_n rfl rfl ?_
              refine v_cv rfl rfl rfl rfl (by decide) ⟨⟨rfl, rfl⟩, by decide, rfl⟩ (Nat.le_of_ble_eq_true rfl) (Nat.le_of_ble_eq_true rfl) ?_
              refine q_aload_n rfl rfl ?_
              refine v_gi (z := 4) (v := 3) rfl rfl rfl (by decide) rfl rfl ((up_n (by decide)).trans (up_e rfl)) ?_
              refine v_if_ne_t (t := 11) rfl (by decide) (by decide) ?_
              refine q_iconst rfl ?_
              refine v_zret rfl rfl (by decide) ?_
              refine bk_inl ?_
              refine v_if_eq_t (t := 25) rfl (by decide) (by decide) ?_
              refine q_vret rfl rfl ?_
              refine bk_inl ?_
              refine v_iinc (v := v + 1) rfl rfl (by decide) (by omega) ?_
              refine q_goto (t := 6) rfl (by decide) ?_
              refine q_iload_n rfl rfl ?_
              refine v_bip rfl (by decide) ?_
              refine v_ic_gt_f (t := 85) rfl (by decide) (by omega) ?_
              refine q_aload_n rfl rfl ?_
              refine v_cv rfl rfl rfl rfl (by decide) ⟨⟨rfl, rfl⟩, by decide, rfl⟩ (Nat.le_of_ble_eq_true rfl) (Nat.le_of_ble_eq_true rfl) ?_
              refine q_aload_n rfl rfl ?_
              refine v_cv rfl rfl rfl rfl (by decide) ⟨⟨rfl, rfl⟩, by decide, rfl⟩ (Nat.le_of_ble_eq_true rfl) (Nat.le_of_ble_eq_true rfl) ?_
              refine q_aload_n rfl rfl ?_
              refine v_gi (z := 4) (v := 3) rfl rfl rfl (by decide) rfl rfl ((up_n (by decide)).trans (up_e rfl)) ?_
              refine v_if_ne_t (t := 11) rfl (by decide) (by decide) ?_
              refine q_iconst rfl ?_
              refine v_zret rfl rfl (by decide) ?_
              refine bk_inl ?_
              refine v_if_eq_t (t := 22) rfl (by decide) (by decide) ?_
              refine q_iconst rfl ?_
              refine v_zret rfl rfl (by decide) ?_
              refine bk_inl ?_
              refine v_if_eq_t (t := 85) rfl (by decide) (by decide) ?_
              refine q_vret rfl rfl ?_
              have hI_675 := iw_1_4 (v := 3) hI_86 ⟨by decide, by decide⟩
              have hI_676 := iw_1_5 (v := (nx F e1 a)) hI_675 ⟨by omega, by omega⟩
              intro hE_677
              have hW : Wd P Q P P (up (up c_85 1 4 3) 1 5 (nx F e1 a)) = Wd P Q P P m9 := (Prod.mk.inj (Prod.mk.inj hE_677).2).1
              have h_678 := ir_1_4 hJ9
              have h_679 : m9 1 4 = 3 := wd_fv (z := 4) 4 rfl hW rfl rfl rfl rfl (by decide) ((up_n (by decide)).trans (up_e rfl)) ⟨by omega, by omega⟩ ⟨by omega, by omega⟩
              have h_680 := ir_1_2 hJ9
              have h_681 : m9 1 2 = (ln F e1 (nx F e1 a)) := wd_fv (z := 2) 2 rfl hW rfl rfl rfl rfl (by decide) ((up_n (by decide)).trans ((up_n (by decide)).trans (hz_90))) ⟨by omega, by omega⟩ ⟨by omega, by omega⟩
              have h_682 := ir_1_5 hJ9
              have h_683 : m9 1 5 = (nx F e1 a) := wd_fv (z := 5) 5 rfl hW rfl rfl rfl rfl (by decide) (up_e rfl) ⟨by omega, by omega⟩ ⟨by omega, by omega⟩
              have kn_684 : Hid (c_24 A 0 = jr) := (hF_26 A 0 (fun h => absurd h.1 (np0 hA rfl))).trans (hg_jr)
              have kn_685 : Hid (c_60 A 0 = jr) := (hF_62 A 0 (fun h => absurd h.1 (np0 hA rfl))).trans (hid kn_684)
              have kn_686 : Hid (c_85 A 0 = jr) := (hF_87 A 0 (fun q => q.elim (fun h => absurd h.1 (np0 hA rfl)) (fun q => q.elim (fun h => absurd h.1 (np0 hA rfl)) (fun h => absurd h.1 (np0 hA rfl))))).trans (hid kn_685)
              have h_687 := ir_p0_0 hJ9 hA
              have h_688 : m9 A 0 = jr := wd_fv (z := 0) 0 rfl hW (ck_A hA) (ck_A hA) rfl rfl (by omega) ((up_c (np0 hA rfl)).trans ((up_c (np0 hA rfl)).trans (hid kn_686))) ⟨by omega, by omega⟩ ⟨by omega, by omega⟩
              refine q_aload_n rfl rfl ?_
              refine v_cv rfl rfl rfl rfl (by decide) ⟨⟨rfl, rfl⟩, by decide, rfl⟩ (Nat.le_of_ble_eq_true rfl) (Nat.le_of_ble_eq_true rfl) ?_
              refine q_aload_n rfl rfl ?_
              refine v_gi (z := 5) (v := (-1)) rfl rfl rfl (by decide) rfl rfl (hc_1) ?_
              refine q_iconst rfl ?_
              refine v_ic_ne_f (t := 12) rfl (by decide) (by decide) ?_
              refine q_iconst rfl ?_
              refine q_goto (t := 13) rfl (by decide) ?_
              refine v_zret rfl rfl (by decide) ?_
              refine bk_inl ?_
              refine v_if_eq_f (t := 136) rfl (by decide) (by decide) ?_
              refine q_aload_n rfl rfl ?_
              refine v_cv rfl rfl rfl rfl (by decide) ⟨⟨rfl, rfl⟩, by decide, rfl⟩ (Nat.le_of_ble_eq_true rfl) (Nat.le_of_ble_eq_true rfl) ?_
              refine q_aload_n rfl rfl ?_
              have kn_689 : Hid (c2 41 3 = e1) := (hFc 41 3 (fun q => q.elim (fun h => absurd h.2 (ni rfl)) (fun q => q.elim (fun h => absurd h.2 (ni rfl)) (fun q => q.elim (fun h => absurd h.2 (ni rfl)) (fun q => q.elim (fun h => absurd h.2 (ni rfl)) (fun q => q.elim (fun h => absurd h.2 (ni rfl)) (fun q => q.elim (fun h => absurd h.2 (ni rfl)) (fun q => q.elim (fun h => absurd h.2 (ni rfl)) (fun q => q.elim (fun h => absurd h (nn rfl)) (fun q => q.elim (fun h => absurd h (nn rfl)) (fun h => absurd h (nn rfl)))))))))))).trans (hr_e1)
              have h_690 : -2147483648 ≤ (H (nx F e1 a)) ∧ (H (nx F e1 a)) ≤ 2147483647 := by rw [← hH (nx F e1 a)]; exact ir_43 hI (nx F e1 a)
              have h_691 := hU (nx F e1 a) (by omega) (by omega)
              have h_692 := hb_or (b := H) (e := e1) (r := (nx F e1 a))
              have h_693 := hb_bd (b := H) (e := e1) (r := (nx F e1 a)) (lo := -2147483648) (hi := 2147483647) ⟨by omega, by omega⟩ (by decide)
              refine v_cv rfl rfl rfl rfl (by decide) ⟨⟨rfl, rfl⟩, by decide, rfl⟩ (Nat.le_of_ble_eq_true rfl) (Nat.le_of_ble_eq_true rfl) (f_154 (e1 := e1) (a9 := a) (B := H) (r8 := (nx F e1 a)) (r := (hb H e1 (nx F e1 a))) hI2 ((hid kn_689)) ((hr_a)) (fun j => (hFc 43 j (fun q => q.elim (fun h => absurd h.1 (nn rfl)) (fun q => q.elim (fun h => absurd h.1 (nn rfl)) (fun q => q.elim (fun h => absurd h.1 (nn rfl)) (fun q => q.elim (fun h => absurd h.1 (nn rfl)) (fun q => q.elim (fun h => absurd h.1 (nn rfl)) (fun q => q.elim (fun h => absurd h.1 (nn rfl)) (fun q => q.elim (fun h => absurd h.1 (nn rfl)) (fun q => q.elim (fun h => absurd h (nn rfl)) (fun q => q.elim (fun h => absurd h (nn rfl)) (fun h => absurd h (nn rfl)))))))))))).trans (hH j)) ((nx_tr hU (by omega) (by omega)).trans (rfl)) rfl (fun c_694 hI_695 hF_696 h_697 => ?_))
              refine bk_inl ?_
              refine q_pop rfl rfl ?_
              refine q_aload_n rfl rfl ?_
              refine v_gi (z := 4) (v := (nx F e1 a)) rfl rfl rfl (by decide) rfl rfl (h_697) ?_
              refine q_aload_n rfl rfl ?_
              have kn_698 : Hid (c_694 41 3 = e1) := (hF_696 41 3 (fun h => absurd h.2 (ni rfl))).trans (hid kn_689)
              refine v_gi (z := 3) (v := e1) rfl rfl rfl (by decide) rfl rfl (hid kn_698) ?_
              refine v_ic_ge_f (t := 20) rfl (by decide) (by omega) ?_
              refine q_iconst rfl ?_
              refine q_goto (t := 21) rfl (by decide) ?_
              refine v_zret rfl rfl (by decide) ?_
              refine bk_inl ?_
              refine v_if_eq_f (t := 136) rfl (by decide) (by decide) ?_
              refine q_aload_n rfl rfl ?_
              have h_699 := wv_bd (b := F) (r := (nx F e1 a)) (l := (ln F e1 (nx F e1 a))) (fun j h1 h2 => ⟨(ln_in (e := e1) (a := (nx F e1 a)) h1 (by omega)).1, (ln_in (e := e1) (a := (nx F e1 a)) h1 (by omega)).2.1⟩)
              have h_700 := wr8_1 (b := F) (r := (nx F e1 a)) (l := (ln F e1 (nx F e1 a))) (by omega) (fun j h1 h2 => ⟨(ln_in (e := e1) (a := (nx F e1 a)) h1 (by omega)).1, (ln_in (e := e1) (a := (nx F e1 a)) h1 (by omega)).2.1⟩) (by omega)
              refine v_cv rfl rfl rfl rfl (by decide) ⟨⟨rfl, rfl⟩, by decide, rfl⟩ (Nat.le_of_ble_eq_true rfl) (Nat.le_of_ble_eq_true rfl) (f_157 (e1 := e1) (a9 := (nx F e1 a)) (B := H) (r8 := (nx F e1 a)) (L8 := (ln F e1 (nx F e1 a))) (W8 := (wv F (nx F e1 a) (ln F e1 (nx F e1 a)))) hI_695 ((hid kn_698)) ((h_697)) (fun j => ((hF_696 43 j (fun h => absurd h.1 (nn rfl))).trans (hFc 43 j (fun q => q.elim (fun h => absurd h.1 (nn rfl)) (fun q => q.elim (fun h => absurd h.1 (nn rfl)) (fun q => q.elim (fun h => absurd h.1 (nn rfl)) (fun q => q.elim (fun h => absurd h.1 (nn rfl)) (fun q => q.elim (fun h => absurd h.1 (nn rfl)) (fun q => q.elim (fun h => absurd h.1 (nn rfl)) (fun q => q.elim (fun h => absurd h.1 (nn rfl)) (fun q => q.elim (fun h => absurd h (nn rfl)) (fun q => q.elim (fun h => absurd h (nn rfl)) (fun h => absurd h (nn rfl))))))))))))).trans (hH j)) ((nx_tr hU (by omega) (by omega)).trans ((nx_z (by omega)))) ((ln_tr hU (by omega) (by omega)).trans (rfl)) ((wv_tr hU (by omega) (by omega) (fun j h1 h2 => ⟨(ln_in (e := e1) (a := (nx F e1 a)) h1 (by omega)).1, (ln_in (e := e1) (a := (nx F e1 a)) h1 (by omega)).2.1⟩)).trans (rfl)) (fun c_701 hI_702 hF_703 hz_704 => ?_))
              refine bk_inl ?_
              refine q_istore_n rfl (by decide) ?_
              refine q_iload_n rfl rfl ?_
              refine q_call rfl rfl rfl rfl ?_
              refine q_iload_n rfl rfl ?_
              refine q_ldc_s rfl rfl rfl (by decide) ?_
              refine q_call rfl rfl rfl rfl (s_158_16 ?_)
              refine bk_inl ?_
              refine v_ic_eq_f (t := 36) rfl (by decide) (by omega) ?_
              refine q_iload_n rfl rfl ?_
              refine q_ldc_s rfl rfl rfl (by decide) ?_
              refine q_call rfl rfl rfl rfl (s_158_17 ?_)
              refine bk_inl ?_
              refine v_ic_eq_t (t := 36) rfl (by decide) (by omega) ?_
              refine q_iconst rfl ?_
              refine q_goto (t := 41) rfl (by decide) ?_
              refine v_zret rfl rfl (by decide) ?_
              refine bk_inl ?_
              refine v_if_ne_t (t := 82) rfl (by decide) (by decide) ?_
              refine q_iload_n rfl rfl ?_
              refine v_bip rfl (by decide) ?_
              refine v_ic_eq_f (t := 96) rfl (by decide) (by omega) ?_
              refine q_aload_n rfl rfl ?_
              refine q_iload_n rfl rfl ?_
              refine v_cv rfl rfl rfl rfl (by decide) ⟨⟨rfl, rfl⟩, by decide, rfl⟩ (Nat.le_of_ble_eq_true rfl) (Nat.le_of_ble_eq_true rfl) ?_
              refine q_iload_n rfl rfl ?_
              refine q_ldc_s rfl rfl rfl (by decide) ?_
              refine q_call rfl rfl rfl rfl (s_158_16 ?_)
              refine bk_inl ?_
              refine v_ic_ne_t (t := 26) rfl (by decide) (by omega) ?_
              refine q_iload_n rfl rfl ?_
              refine q_ldc_s rfl rfl rfl (by decide) ?_
              refine q_call rfl rfl rfl rfl (s_158_17 ?_)
              refine bk_inl ?_
              refine v_ic_ne_f (t := 51) rfl (by decide) (by omega) ?_
              refine q_aload_n rfl rfl ?_
              have kn_705 : Hid (c_694 41 17 = st) := (hF_696 41 17 (fun h => absurd h.2 (ni rfl))).trans (hr_st)
              have kn_706 : Hid (c_701 41 17 = st) := (hF_703 41 17 (fun h => absurd h.2 (ni rfl))).trans (hid kn_705)
              refine v_gi (z := 17) (v := st) rfl rfl rfl (by decide) rfl rfl (hid kn_706) ?_
              refine q_iconst rfl ?_
              refine v_ic_ne_f (t := 47) rfl (by decide) (by omega) ?_
              refine q_iconst rfl ?_
              refine q_goto (t := 73) rfl (by decide) ?_
              refine v_zret rfl rfl (by decide) ?_
              refine bk_inl ?_
              refine v_if_eq_f (t := 105) rfl (by decide) (by decide) ?_
              refine q_aload_n rfl rfl ?_
              refine q_iconst rfl ?_
              refine q_aload_n rfl rfl ?_
              refine v_gi (z := 4) (v := (nx F e1 a)) rfl rfl rfl (by decide) rfl rfl (hz_704) ?_
              refine v_cv rfl rfl rfl rfl (by decide) ⟨⟨rfl, rfl⟩, by decide, rfl⟩ (Nat.le_of_ble_eq_true rfl) (Nat.le_of_ble_eq_true rfl) ?_
              refine q_aload_n rfl rfl ?_
              have kn_707 : Hid (c_694 41 5 = (-1)) := (hF_696 41 5 (fun h => absurd h.2 (ni rfl))).trans (hc_1)
              have kn_708 : Hid (c_701 41 5 = (-1)) := (hF_703 41 5 (fun h => absurd h.2 (ni rfl))).trans (hid kn_707)
              refine v_gi (z := 5) (v := (-1)) rfl rfl rfl (by decide) rfl rfl (hid kn_708) ?_
              refine q_iconst rfl ?_
              refine v_ic_eq_t (t := 9) rfl (by decide) (by decide) ?_
              refine q_aload_n rfl rfl ?_
              refine q_iload_n rfl rfl ?_
              refine v_pi (z := 5) rfl rfl rfl (by decide) rfl rfl rfl (by decide) ?_
              refine q_aload_n rfl rfl ?_
              refine q_iload_n rfl rfl ?_
              refine v_pi (z := 6) rfl rfl rfl (by decide) rfl rfl rfl (by decide) ?_
              refine q_vret rfl rfl ?_
              refine bk_inl ?_
              refine q_aload_n rfl rfl ?_
              refine v_cv rfl rfl rfl rfl (by decide) ⟨⟨rfl, rfl⟩, by decide, rfl⟩ (Nat.le_of_ble_eq_true rfl) (Nat.le_of_ble_eq_true rfl) ?_
              refine q_aload_n rfl rfl ?_
              refine v_gi (z := 5) (v := (nx F e1 a)) rfl rfl rfl (by decide) rfl rfl ((up_n (by decide)).trans (up_e rfl)) ?_
              refine q_iconst rfl ?_
              refine v_ic_ne_t (t := 12) rfl (by decide) (by omega) ?_
              refine q_iconst rfl ?_
              refine v_zret rfl rfl (by decide) ?_
              refine bk_inl ?_
              refine v_if_ne_f (t := 115) rfl (by decide) (by decide) ?_
              refine q_goto (t := 136) rfl (by decide) ?_
              refine Wp_ls [(0, .ref 41), (1, vi a1)] (lsub_cons rfl (lsub_cons rfl lsub_nil)) ?_
              have hI_709 := iw_41_5 (v := (nx F e1 a)) hI_702 ⟨by omega, by omega⟩
              have hI_710 := iw_41_6 (v := 3) hI_709 ⟨by decide, by decide⟩
              have h_711 : (up (up c_701 41 5 (nx F e1 a)) 41 6 3) 41 5 = (nx F e1 a) := ((up_n (by decide)).trans (up_e rfl))
              have h_712 : (up (up c_701 41 5 (nx F e1 a)) 41 6 3) 41 4 = (nx F e1 a) := ((up_n (by decide)).trans ((up_n (by decide)).trans (hz_704)))
              have h_713 : (up (up c_701 41 5 (nx F e1 a)) 41 6 3) 41 6 = 3 := (up_e rfl)
              have kn_714 : Hid (c_694 41 16 = jr) := (hF_696 41 16 (fun h => absurd h.2 (ni rfl))).trans (hr_jr)
              have kn_715 : Hid (c_701 41 16 = jr) := (hF_703 41 16 (fun h => absurd h.2 (ni rfl))).trans (hid kn_714)
              have h_716 : (up (up c_701 41 5 (nx F e1 a)) 41 6 3) 41 16 = jr := ((up_n (by decide)).trans ((up_n (by decide)).trans (hid kn_715)))
              exact K (up (up c_701 41 5 (nx F e1 a)) 41 6 3)  hI_710 (fun a j hm => (up_b (Decidable.or_iff_not_imp_left.mpr (fun h1 h2 => hm (Or.inr (Or.inr (Or.inl ⟨Decidable.not_not.mp h1, h2⟩)))))).trans ((up_b (Decidable.or_iff_not_imp_left.mpr (fun h1 h2 => hm (Or.inr (Or.inl ⟨Decidable.not_not.mp h1, h2⟩))))).trans ((hF_703 a j (fun h => hm (Or.inl h))).trans ((hF_696 a j (fun h => hm (Or.inl h))).trans (hFc a j (fun q => q.elim (fun h => hm (Or.inl h)) (fun q => q.elim (fun h => hm (Or.inr (Or.inl h))) (fun q => q.elim (fun h => hm (Or.inr (Or.inr (Or.inl h)))) (fun q => q.elim (fun h => hm (Or.inr (Or.inr (Or.inr (Or.inl h))))) (fun q => q.elim (fun h => hm (Or.inr (Or.inr (Or.inr (Or.inr (Or.inl h)))))) (fun q => q.elim (fun h => hm (Or.inr (Or.inr (Or.inr (Or.inr (Or.inr (Or.inl h))))))) (fun q => q.elim (fun h => hm (Or.inr (Or.inr (Or.inr (Or.inr (Or.inr (Or.inr (Or.inl h)))))))) (fun q => q.elim (fun h => hm (Or.inr (Or.inr (Or.inr (Or.inr (Or.inr (Or.inr (Or.inr (Or.inl h))))))))) (fun q => q.elim (fun h => hm (Or.inr (Or.inr (Or.inr (Or.inr (Or.inr (Or.inr (Or.inr (Or.inr (Or.inl h)))))))))) (fun h => hm (Or.inr (Or.inr (Or.inr (Or.inr (Or.inr (Or.inr (Or.inr (Or.inr (Or.inr h)))))))))))))))))))))))) (by unfold Rt; omega) (by omega)
          by_cases h_717 : (wd8_0 F (nx F e1 a) (ln F e1 (nx F e1 a))) = 2
          · skip
            refine v_tsw_i (t := 57) 2 rfl (by omega) (by decide) rfl (by decide) ?_
            refine q_aload_n rfl rfl ?_
            have kn_718 : Hid (c_24 A 2 = si) := (hF_26 A 2 (fun h => absurd h.1 (np0 hA rfl))).trans (hg_si)
            have kn_719 : Hid (c_60 A 2 = si) := (hF_62 A 2 (fun h => absurd h.1 (np0 hA rfl))).trans (hid kn_718)
            have kn_720 : Hid (c_85 A 2 = si) := (hF_87 A 2 (fun q => q.elim (fun h => absurd h.1 (np0 hA rfl)) (fun q => q.elim (fun h => absurd h.1 (np0 hA rfl)) (fun h => absurd h.1 (np0 hA rfl))))).trans (hid kn_719)
            refine v_gi (z := 2) (v := si) rfl rfl (ck_p0 hA) (by omega) rfl rfl (hid kn_720) ?_
            refine q_iconst rfl ?_
            by_cases h_721 : si ≠ 4
            · refine v_ic_ne_t (t := 69) rfl (by decide) (by omega) ?_
              refine q_iconst rfl ?_
              refine v_zret rfl rfl (by decide) ?_
              refine bk_inl ?_
              refine v_if_eq_t (t := 59) rfl (by decide) (by decide) ?_
              refine q_aload_n rfl rfl ?_
              refine v_cv rfl rfl rfl rfl (by decide) ⟨⟨rfl, rfl⟩, by decide, rfl⟩ (Nat.le_of_ble_eq_true rfl) (Nat.le_of_ble_eq_true rfl) ?_
              refine q_aload_n rfl rfl ?_
              refine v_gi (z := 4) (v := 0) rfl rfl rfl (by decide) rfl rfl (hz_91) ?_
              refine v_if_ne_f (t := 11) rfl (by decide) (by decide) ?_
              refine q_iconst rfl ?_
              refine q_goto (t := 12) rfl (by decide) ?_
              refine v_zret rfl rfl (by decide) ?_
              refine bk_inl ?_
              refine v_if_eq_f (t := 73) rfl (by decide) (by decide) ?_
              refine q_aload_n rfl rfl ?_
              refine q_aload_n rfl rfl ?_
              refine q_iload rfl rfl ?_
              have hw_722 : (wd8_0 F (nx F e1 a) (ln F e1 (nx F e1 a))) = 2 := by omega
              rw [hw_722]
              have kn_723 : Hid (c_24 A 0 = jr) := (hF_26 A 0 (fun h => absurd h.1 (np0 hA rfl))).trans (hg_jr)
              have kn_724 : Hid (c_60 A 0 = jr) := (hF_62 A 0 (fun h => absurd h.1 (np0 hA rfl))).trans (hid kn_723)
              have kn_725 : Hid (c_85 A 0 = jr) := (hF_87 A 0 (fun q => q.elim (fun h => absurd h.1 (np0 hA rfl)) (fun q => q.elim (fun h => absurd h.1 (np0 hA rfl)) (fun h => absurd h.1 (np0 hA rfl))))).trans (hid kn_724)
              have h_726 : c_85 A 0 = jr := (hid kn_725)
              have kn_727 : Hid (c_24 A 1 = st) := (hF_26 A 1 (fun h => absurd h.1 (np0 hA rfl))).trans (hg_st)
              have kn_728 : Hid (c_60 A 1 = st) := (hF_62 A 1 (fun h => absurd h.1 (np0 hA rfl))).trans (hid kn_727)
              have kn_729 : Hid (c_85 A 1 = st) := (hF_87 A 1 (fun q => q.elim (fun h => absurd h.1 (np0 hA rfl)) (fun q => q.elim (fun h => absurd h.1 (np0 hA rfl)) (fun h => absurd h.1 (np0 hA rfl))))).trans (hid kn_728)
              have h_730 : c_85 A 1 = st := (hid kn_729)
              have h_731 : c_85 A 2 = si := (hid kn_720)
              refine v_cv rfl rfl rfl (ck_p0 hA) (by omega) ⟨⟨rfl, rfl⟩, by decide, rfl⟩ (Nat.le_of_ble_eq_true rfl) (Nat.le_of_ble_eq_true rfl) (fn_of (s_33 (a2 := 2) hI_86 hA (show 0 ≤ 2 ∧ 2 ≤ 100 from by omega) (by omega) (by omega) (by omega) (fun c_732 hI_733 hF_734 => ?_)))
              intro hG_735
              refine bk_inl ?_
              refine q_aload_n rfl rfl ?_
              refine q_ldc_s rfl rfl rfl (by decide) ?_
              have h_736 := ir_1_4 hI_733
              refine v_cv rfl rfl rfl rfl (by decide) ⟨⟨rfl, rfl⟩, by decide, rfl⟩ (Nat.le_of_ble_eq_true rfl) (Nat.le_of_ble_eq_true rfl) (fn_of (s_11 hI_733 (q := 9) (nt := 1) (by decide) (by decide) (by decide) (fun c_737 hI_738 hF_739 => ?_)))
              intro hG_740
              refine bk_inl ?_
              refine v_iinc (v := v + 1) rfl rfl (by decide) (by omega) ?_
              refine q_goto (t := 6) rfl (by decide) ?_
              have h_741 := ir_1_4 hI_738
              by_cases h_742 : c_737 1 4 = 0
              · skip
                refine Wp_ls [(0, .ref A), (1, .ref 1), (2, vi (v + 1))] (lsub_cons rfl (lsub_cons rfl (lsub_cons rfl lsub_nil))) ?_
                refine gh_stop (s_34_l (sc := sc) (d := dh + 18) (c := c_737) (Z := fun _ => True) hI_738 hA (fun _ _ _ => trivial) 124 c_737 (v + 1) hI_738 (fun a j hm => rfl) ⟨by omega, by omega⟩ (by omega)) (fun hG_743 => ?_)
                refine q_aload_n rfl rfl ?_
                refine v_cv rfl rfl rfl rfl (by decide) ⟨⟨rfl, rfl⟩, by decide, rfl⟩ (Nat.le_of_ble_eq_true rfl) (Nat.le_of_ble_eq_true rfl) ?_
                refine q_aload_n rfl rfl ?_
                refine v_gi (z := 5) (v := (-1)) rfl rfl rfl (by decide) rfl rfl (hc_1) ?_
                refine q_iconst rfl ?_
                refine v_ic_ne_f (t := 12) rfl (by decide) (by decide) ?_
                refine q_iconst rfl ?_
                refine q_goto (t := 13) rfl (by decide) ?_
                refine v_zret rfl rfl (by decide) ?_
                refine bk_inl ?_
                refine v_if_eq_f (t := 136) rfl (by decide) (by decide) ?_
                refine q_aload_n rfl rfl ?_
                refine v_cv rfl rfl rfl rfl (by decide) ⟨⟨rfl, rfl⟩, by decide, rfl⟩ (Nat.le_of_ble_eq_true rfl) (Nat.le_of_ble_eq_true rfl) ?_
                refine q_aload_n rfl rfl ?_
                have kn_744 : Hid (c2 41 3 = e1) := (hFc 41 3 (fun q => q.elim (fun h => absurd h.2 (ni rfl)) (fun q => q.elim (fun h => absurd h.2 (ni rfl)) (fun q => q.elim (fun h => absurd h.2 (ni rfl)) (fun q => q.elim (fun h => absurd h.2 (ni rfl)) (fun q => q.elim (fun h => absurd h.2 (ni rfl)) (fun q => q.elim (fun h => absurd h.2 (ni rfl)) (fun q => q.elim (fun h => absurd h.2 (ni rfl)) (fun q => q.elim (fun h => absurd h (nn rfl)) (fun q => q.elim (fun h => absurd h (nn rfl)) (fun h => absurd h (nn rfl)))))))))))).trans (hr_e1)
                have h_745 : -2147483648 ≤ (H (nx F e1 a)) ∧ (H (nx F e1 a)) ≤ 2147483647 := by rw [← hH (nx F e1 a)]; exact ir_43 hI (nx F e1 a)
                have h_746 := hU (nx F e1 a) (by omega) (by omega)
                have h_747 := hb_or (b := H) (e := e1) (r := (nx F e1 a))
                have h_748 := hb_bd (b := H) (e := e1) (r := (nx F e1 a)) (lo := -2147483648) (hi := 2147483647) ⟨by omega, by omega⟩ (by decide)
                refine v_cv rfl rfl rfl rfl (by decide) ⟨⟨rfl, rfl⟩, by decide, rfl⟩ (Nat.le_of_ble_eq_true rfl) (Nat.le_of_ble_eq_true rfl) (f_154 (e1 := e1) (a9 := a) (B := H) (r8 := (nx F e1 a)) (r := (hb H e1 (nx F e1 a))) hI2 ((hid kn_744)) ((hr_a)) (fun j => (hFc 43 j (fun q => q.elim (fun h => absurd h.1 (nn rfl)) (fun q => q.elim (fun h => absurd h.1 (nn rfl)) (fun q => q.elim (fun h => absurd h.1 (nn rfl)) (fun q => q.elim (fun h => absurd h.1 (nn rfl)) (fun q => q.elim (fun h => absurd h.1 (nn rfl)) (fun q => q.elim (fun h => absurd h.1 (nn rfl)) (fun q => q.elim (fun h => absurd h.1 (nn rfl)) (fun q => q.elim (fun h => absurd h (nn rfl)) (fun q => q.elim (fun h => absurd h (nn rfl)) (fun h => absurd h (nn rfl)))))))))))).trans (hH j)) ((nx_tr hU (by omega) (by omega)).trans (rfl)) rfl (fun c_749 hI_750 hF_751 h_752 => ?_))
                refine bk_inl ?_
                refine q_pop rfl rfl ?_
                refine q_aload_n rfl rfl ?_
                refine v_gi (z := 4) (v := (nx F e1 a)) rfl rfl rfl (by decide) rfl rfl (h_752) ?_
                refine q_aload_n rfl rfl ?_
                have kn_753 : Hid (c_749 41 3 = e1) := (hF_751 41 3 (fun h => absurd h.2 (ni rfl))).trans (hid kn_744)
                refine v_gi (z := 3) (v := e1) rfl rfl rfl (by decide) rfl rfl (hid kn_753) ?_
                refine v_ic_ge_f (t := 20) rfl (by decide) (by omega) ?_
                refine q_iconst rfl ?_
                refine q_goto (t := 21) rfl (by decide) ?_
                refine v_zret rfl rfl (by decide) ?_
                refine bk_inl ?_
                refine v_if_eq_f (t := 136) rfl (by decide) (by decide) ?_
                refine q_aload_n rfl rfl ?_
                have h_754 := wv_bd (b := F) (r := (nx F e1 a)) (l := (ln F e1 (nx F e1 a))) (fun j h1 h2 => ⟨(ln_in (e := e1) (a := (nx F e1 a)) h1 (by omega)).1, (ln_in (e := e1) (a := (nx F e1 a)) h1 (by omega)).2.1⟩)
                have h_755 := wr8_2 (b := F) (r := (nx F e1 a)) (l := (ln F e1 (nx F e1 a))) (by omega) (fun j h1 h2 => ⟨(ln_in (e := e1) (a := (nx F e1 a)) h1 (by omega)).1, (ln_in (e := e1) (a := (nx F e1 a)) h1 (by omega)).2.1⟩) (by omega)
                refine v_cv rfl rfl rfl rfl (by decide) ⟨⟨rfl, rfl⟩, by decide, rfl⟩ (Nat.le_of_ble_eq_true rfl) (Nat.le_of_ble_eq_true rfl) (f_157 (e1 := e1) (a9 := (nx F e1 a)) (B := H) (r8 := (nx F e1 a)) (L8 := (ln F e1 (nx F e1 a))) (W8 := (wv F (nx F e1 a) (ln F e1 (nx F e1 a)))) hI_750 ((hid kn_753)) ((h_752)) (fun j => ((hF_751 43 j (fun h => absurd h.1 (nn rfl))).trans (hFc 43 j (fun q => q.elim (fun h => absurd h.1 (nn rfl)) (fun q => q.elim (fun h => absurd h.1 (nn rfl)) (fun q => q.elim (fun h => absurd h.1 (nn rfl)) (fun q => q.elim (fun h => absurd h.1 (nn rfl)) (fun q => q.elim (fun h => absurd h.1 (nn rfl)) (fun q => q.elim (fun h => absurd h.1 (nn rfl)) (fun q => q.elim (fun h => absurd h.1 (nn rfl)) (fun q => q.elim (fun h => absurd h (nn rfl)) (fun q => q.elim (fun h => absurd h (nn rfl)) (fun h => absurd h (nn rfl))))))))))))).trans (hH j)) ((nx_tr hU (by omega) (by omega)).trans ((nx_z (by omega)))) ((ln_tr hU (by omega) (by omega)).trans (rfl)) ((wv_tr hU (by omega) (by omega) (fun j h1 h2 => ⟨(ln_in (e := e1) (a := (nx F e1 a)) h1 (by omega)).1, (ln_in (e := e1) (a := (nx F e1 a)) h1 (by omega)).2.1⟩)).trans (rfl)) (fun c_756 hI_757 hF_758 hz_759 => ?_))
                refine bk_inl ?_
                refine q_istore_n rfl (by decide) ?_
                refine q_iload_n rfl rfl ?_
                refine q_call rfl rfl rfl rfl ?_
                refine q_iload_n rfl rfl ?_
                refine q_ldc_s rfl rfl rfl (by decide) ?_
                refine q_call rfl rfl rfl rfl (s_158_16 ?_)
                refine bk_inl ?_
                refine v_ic_eq_f (t := 36) rfl (by decide) (by omega) ?_
                refine q_iload_n rfl rfl ?_
                refine q_ldc_s rfl rfl rfl (by decide) ?_
                refine q_call rfl rfl rfl rfl (s_158_17 ?_)
                refine bk_inl ?_
                refine v_ic_eq_f (t := 36) rfl (by decide) (by omega) ?_
                refine q_iload_n rfl rfl ?_
                refine q_ldc_s rfl rfl rfl (by decide) ?_
                refine q_call rfl rfl rfl rfl (s_158_18 ?_)
                refine bk_inl ?_
                refine v_ic_eq_t (t := 36) rfl (by decide) (by omega) ?_
                refine q_iconst rfl ?_
                refine q_goto (t := 41) rfl (by decide) ?_
                refine v_zret rfl rfl (by decide) ?_
                refine bk_inl ?_
                refine v_if_ne_t (t := 82) rfl (by decide) (by decide) ?_
                refine q_iload_n rfl rfl ?_
                refine v_bip rfl (by decide) ?_
                refine v_ic_eq_f (t := 96) rfl (by decide) (by omega) ?_
                refine q_aload_n rfl rfl ?_
                refine q_iload_n rfl rfl ?_
                refine v_cv rfl rfl rfl rfl (by decide) ⟨⟨rfl, rfl⟩, by decide, rfl⟩ (Nat.le_of_ble_eq_true rfl) (Nat.le_of_ble_eq_true rfl) ?_
                refine q_iload_n rfl rfl ?_
                refine q_ldc_s rfl rfl rfl (by decide) ?_
                refine q_call rfl rfl rfl rfl (s_158_16 ?_)
                refine bk_inl ?_
                refine v_ic_ne_t (t := 26) rfl (by decide) (by omega) ?_
                refine q_iload_n rfl rfl ?_
                refine q_ldc_s rfl rfl rfl (by decide) ?_
                refine q_call rfl rfl rfl rfl (s_158_17 ?_)
                refine bk_inl ?_
                refine v_ic_ne_t (t := 51) rfl (by decide) (by omega) ?_
                refine q_iload_n rfl rfl ?_
                refine q_ldc_s rfl rfl rfl (by decide) ?_
                refine q_call rfl rfl rfl rfl (s_158_18 ?_)
                refine bk_inl ?_
                refine v_ic_ne_f (t := 72) rfl (by decide) (by omega) ?_
                refine q_aload_n rfl rfl ?_
                have kn_760 : Hid (c_749 41 18 = si) := (hF_751 41 18 (fun h => absurd h.2 (ni rfl))).trans (hr_si)
                have kn_761 : Hid (c_756 41 18 = si) := (hF_758 41 18 (fun h => absurd h.2 (ni rfl))).trans (hid kn_760)
                refine v_gi (z := 18) (v := si) rfl rfl rfl (by decide) rfl rfl (hid kn_761) ?_
                refine q_iconst rfl ?_
                refine v_ic_ne_t (t := 72) rfl (by decide) (by omega) ?_
                refine q_iconst rfl ?_
                refine v_zret rfl rfl (by decide) ?_
                refine bk_inl ?_
                refine v_if_eq_t (t := 105) rfl (by decide) (by decide) ?_
                refine q_aload_n rfl rfl ?_
                refine v_cv rfl rfl rfl rfl (by decide) ⟨⟨rfl, rfl⟩, by decide, rfl⟩ (Nat.le_of_ble_eq_true rfl) (Nat.le_of_ble_eq_true rfl) ?_
                refine q_aload_n rfl rfl ?_
                have kn_762 : Hid (c_749 41 5 = (-1)) := (hF_751 41 5 (fun h => absurd h.2 (ni rfl))).trans (hc_1)
                have kn_763 : Hid (c_756 41 5 = (-1)) := (hF_758 41 5 (fun h => absurd h.2 (ni rfl))).trans (hid kn_762)
                refine v_gi (z := 5) (v := (-1)) rfl rfl rfl (by decide) rfl rfl (hid kn_763) ?_
                refine q_iconst rfl ?_
                refine v_ic_ne_f (t := 12) rfl (by decide) (by decide) ?_
                refine q_iconst rfl ?_
                refine q_goto (t := 13) rfl (by decide) ?_
                refine v_zret rfl rfl (by decide) ?_
                refine bk_inl ?_
                refine v_if_ne_t (t := 115) rfl (by decide) (by decide) ?_
                refine q_aload_n rfl rfl ?_
                have kn_764 : Hid (c_756 41 3 = e1) := (hF_758 41 3 (fun h => absurd h.2 (ni rfl))).trans (hid kn_753)
                refine v_cv rfl rfl rfl rfl (by decide) ⟨⟨rfl, rfl⟩, by decide, rfl⟩ (Nat.le_of_ble_eq_true rfl) (Nat.le_of_ble_eq_true rfl) (f_159 (e1 := e1) (a9 := (nx F e1 a)) (B := H) (L8 := (ln F e1 (nx F e1 a))) hI_757 ((hid kn_764)) ((hz_759)) (fun j => ((hF_758 43 j (fun h => absurd h.1 (nn rfl))).trans ((hF_751 43 j (fun h => absurd h.1 (nn rfl))).trans (hFc 43 j (fun q => q.elim (fun h => absurd h.1 (nn rfl)) (fun q => q.elim (fun h => absurd h.1 (nn rfl)) (fun q => q.elim (fun h => absurd h.1 (nn rfl)) (fun q => q.elim (fun h => absurd h.1 (nn rfl)) (fun q => q.elim (fun h => absurd h.1 (nn rfl)) (fun q => q.elim (fun h => absurd h.1 (nn rfl)) (fun q => q.elim (fun h => absurd h.1 (nn rfl)) (fun q => q.elim (fun h => absurd h (nn rfl)) (fun q => q.elim (fun h => absurd h (nn rfl)) (fun h => absurd h (nn rfl)))))))))))))).trans (hH j)) ((ln_tr hU (by omega) (by omega)).trans (rfl)) (fun c_765 hI_766 hF_767 hz_768 => ?_))
                refine bk_inl ?_
                refine q_aload_n rfl rfl ?_
                refine q_iload_n rfl rfl ?_
                have hw_769 : (wv F (nx F e1 a) (ln F e1 (nx F e1 a))) = 20223685 := by omega
                rw [hw_769]
                have kn_770 : Hid (c_85 1 1 = e1) := (hF_87 1 1 (fun q => q.elim (fun h => absurd h.2 (ni rfl)) (fun q => q.elim (fun h => absurd h.2 (ni rfl)) (fun h => absurd h.2 (ni rfl))))).trans (hid kn_64)
                have kn_771 : Hid (c_765 41 3 = e1) := (hF_767 41 3 (fun h => absurd h.2 (ni rfl))).trans (hid kn_764)
                have kn_772 : Hid (c_749 41 16 = jr) := (hF_751 41 16 (fun h => absurd h.2 (ni rfl))).trans (hr_jr)
                have kn_773 : Hid (c_756 41 16 = jr) := (hF_758 41 16 (fun h => absurd h.2 (ni rfl))).trans (hid kn_772)
                have kn_774 : Hid (c_765 41 16 = jr) := (hF_767 41 16 (fun h => absurd h.2 (ni rfl))).trans (hid kn_773)
                have kn_775 : Hid (c_749 41 17 = st) := (hF_751 41 17 (fun h => absurd h.2 (ni rfl))).trans (hr_st)
                have kn_776 : Hid (c_756 41 17 = st) := (hF_758 41 17 (fun h => absurd h.2 (ni rfl))).trans (hid kn_775)
                have kn_777 : Hid (c_765 41 17 = st) := (hF_767 41 17 (fun h => absurd h.2 (ni rfl))).trans (hid kn_776)
                have kn_778 : Hid (c_765 41 18 = si) := (hF_767 41 18 (fun h => absurd h.2 (ni rfl))).trans (hid kn_761)
                have h_779 : c_85 1 4 = 0 := (hz_91)
                have h_780 : c_85 1 2 = (ln F e1 (nx F e1 a)) := (hz_90)
                have h_781 : c_85 1 5 = (-1) := (hz_92)
                have kn_782 : Hid (c_765 41 5 = (-1)) := (hF_767 41 5 (fun h => absurd h.2 (ni rfl))).trans (hid kn_763)
                have h_783 : c_765 41 5 = (-1) := (hid kn_782)
                have h_784 : c_765 41 4 = (ln F e1 (nx F e1 a)) := (hz_768)
                have h_785 := ir_41_6 hI2
                have kn_786 : Hid (c_749 41 6 = c2 41 6) := hF_751 41 6 (fun h => absurd h.2 (ni rfl))
                have kn_787 : Hid (c_756 41 6 = c2 41 6) := (hF_758 41 6 (fun h => absurd h.2 (ni rfl))).trans (hid kn_786)
                have kn_788 : Hid (c_765 41 6 = c2 41 6) := (hF_767 41 6 (fun h => absurd h.2 (ni rfl))).trans (hid kn_787)
                have h_789 : c_765 41 6 = c2 41 6 := (hid kn_788)
                refine v_cv rfl rfl rfl rfl (by decide) ⟨⟨rfl, rfl⟩, by decide, rfl⟩ (Nat.le_of_ble_eq_true rfl) (Nat.le_of_ble_eq_true rfl) (L_33_2 (m := c_85) (e1 := e1) (jr := jr) (st := st) (si := si) (F := F) (H := H) hI_766 hI_86 hI_733 hA (by omega) ((hid kn_770)) ((hid kn_771)) ((hid kn_725)) ((hid kn_774)) ((hid kn_729)) ((hid kn_777)) ((hid kn_720)) ((hid kn_778)) (fun j => ((hF_87 2 j (fun q => q.elim (fun h => absurd h.1 (nn rfl)) (fun q => q.elim (fun h => absurd h.1 (nn rfl)) (fun h => absurd h.1 (nn rfl))))).trans ((hF_62 2 j (fun h => absurd h.1 (nn rfl))).trans ((hF_26 2 j (fun h => absurd h.1 (nn rfl))).trans (hFm 2 j (fun q => q.elim (fun h => absurd h.1 (nn rfl)) (fun q => q.elim (fun h => absurd h.1 (nn rfl)) (fun q => q.elim (fun h => absurd h.1 (nn rfl)) (fun q => q.elim (fun h => absurd h.1 (pn0 hA rfl)) (fun q => q.elim (fun h => absurd h.1 (pn0 hA rfl)) (fun q => q.elim (fun h => absurd h.1 (pn0 hA rfl)) (fun q => q.elim (fun h => absurd h.1 (pn0 hA rfl)) (fun q => q.elim (fun h => absurd h (pn hA rfl rfl)) (fun q => q.elim (fun h => absurd h (pn hA rfl rfl)) (fun q => q.elim (fun h => absurd h (pn hA rfl rfl)) (fun q => q.elim (fun h => absurd h.1 (pn0 hA rfl)) (fun q => q.elim (fun h => absurd h.1 (pn0 hA rfl)) (fun q => q.elim (fun h => absurd h (pn hA rfl rfl)) (fun h => absurd h.1 (pn hA rfl rfl))))))))))))))))))).trans (hF j)) (fun j => ((hF_767 43 j (fun h => absurd h.1 (nn rfl))).trans ((hF_758 43 j (fun h => absurd h.1 (nn rfl))).trans ((hF_751 43 j (fun h => absurd h.1 (nn rfl))).trans (hFc 43 j (fun q => q.elim (fun h => absurd h.1 (nn rfl)) (fun q => q.elim (fun h => absurd h.1 (nn rfl)) (fun q => q.elim (fun h => absurd h.1 (nn rfl)) (fun q => q.elim (fun h => absurd h.1 (nn rfl)) (fun q => q.elim (fun h => absurd h.1 (nn rfl)) (fun q => q.elim (fun h => absurd h.1 (nn rfl)) (fun q => q.elim (fun h => absurd h.1 (nn rfl)) (fun q => q.elim (fun h => absurd h (nn rfl)) (fun q => q.elim (fun h => absurd h (nn rfl)) (fun h => absurd h (nn rfl))))))))))))))).trans (hH j)) hU (by unfold Rt; omega) hG_735 (fun c_790 hI_791 hF_792 hR_794 h_795 h_796 h_797 => ?_))
                refine bk_inl ?_
                have h_798 := ir_41_16 hI_791
                have h_799 := ir_p0_0 hI_733 hA
                have h_800 := ir_41_17 hI_791
                have h_801 := ir_p0_1 hI_733 hA
                have h_802 := ir_41_18 hI_791
                have h_803 := ir_p0_2 hI_733 hA
                refine q_aload_n rfl rfl ?_
                refine v_bip rfl (by decide) ?_
                have kn_804 : Hid (c_732 1 1 = e1) := (hF_734 1 1 (fun q => q.elim (fun h => absurd h.2 (ni rfl)) (fun q => q.elim (fun h => absurd h.2 (ni rfl)) (fun q => q.elim (fun h => absurd h.2 (ni rfl)) (fun q => q.elim (fun h => absurd h.1 (pn0 hA rfl)) (fun q => q.elim (fun h => absurd h.1 (pn0 hA rfl)) (fun q => q.elim (fun h => absurd h.1 (pn0 hA rfl)) (fun q => q.elim (fun h => absurd h.1 (pn0 hA rfl)) (fun q => q.elim (fun h => absurd h (pn hA rfl rfl)) (fun q => q.elim (fun h => absurd h (pn hA rfl rfl)) (fun h => absurd h (pn hA rfl rfl)))))))))))).trans (hid kn_770)
                have kn_805 : Hid (c_790 41 3 = e1) := (hF_792 41 3 (fun q => q.elim (fun h => absurd h.2 (ni rfl)) (fun q => q.elim (fun h => absurd h.2 (ni rfl)) (fun q => q.elim (fun h => absurd h.2 (ni rfl)) (fun q => q.elim (fun h => absurd h.2 (ni rfl)) (fun q => q.elim (fun h => absurd h.2 (ni rfl)) (fun q => q.elim (fun h => absurd h.2 (ni rfl)) (fun q => q.elim (fun h => absurd h.2 (ni rfl)) (fun q => q.elim (fun h => absurd h (nn rfl)) (fun q => q.elim (fun h => absurd h (nn rfl)) (fun h => absurd h (nn rfl)))))))))))).trans (hid kn_771)
                have h_806 := ir_1_2 hI_733
                refine v_cv rfl rfl rfl rfl (by decide) ⟨⟨rfl, rfl⟩, by decide, rfl⟩ (Nat.le_of_ble_eq_true rfl) (Nat.le_of_ble_eq_true rfl) (L_11_9 (m := c_732) (e1 := e1) (a9 := c_732 1 2) (F := F) (H := H) hI_791 hI_733 hI_738 ((hid kn_804)) ((hid kn_805)) (rfl) (fun j => ((hF_734 2 j (fun q => q.elim (fun h => absurd h.1 (nn rfl)) (fun q => q.elim (fun h => absurd h.1 (nn rfl)) (fun q => q.elim (fun h => absurd h.1 (nn rfl)) (fun q => q.elim (fun h => absurd h.1 (pn0 hA rfl)) (fun q => q.elim (fun h => absurd h.1 (pn0 hA rfl)) (fun q => q.elim (fun h => absurd h.1 (pn0 hA rfl)) (fun q => q.elim (fun h => absurd h.1 (pn0 hA rfl)) (fun q => q.elim (fun h => absurd h (pn hA rfl rfl)) (fun q => q.elim (fun h => absurd h (pn hA rfl rfl)) (fun h => absurd h (pn hA rfl rfl)))))))))))).trans ((hF_87 2 j (fun q => q.elim (fun h => absurd h.1 (nn rfl)) (fun q => q.elim (fun h => absurd h.1 (nn rfl)) (fun h => absurd h.1 (nn rfl))))).trans ((hF_62 2 j (fun h => absurd h.1 (nn rfl))).trans ((hF_26 2 j (fun h => absurd h.1 (nn rfl))).trans (hFm 2 j (fun q => q.elim (fun h => absurd h.1 (nn rfl)) (fun q => q.elim (fun h => absurd h.1 (nn rfl)) (fun q => q.elim (fun h => absurd h.1 (nn rfl)) (fun q => q.elim (fun h => absurd h.1 (pn0 hA rfl)) (fun q => q.elim (fun h => absurd h.1 (pn0 hA rfl)) (fun q => q.elim (fun h => absurd h.1 (pn0 hA rfl)) (fun q => q.elim (fun h => absurd h.1 (pn0 hA rfl)) (fun q => q.elim (fun h => absurd h (pn hA rfl rfl)) (fun q => q.elim (fun h => absurd h (pn hA rfl rfl)) (fun q => q.elim (fun h => absurd h (pn hA rfl rfl)) (fun q => q.elim (fun h => absurd h.1 (pn0 hA rfl)) (fun q => q.elim (fun h => absurd h.1 (pn0 hA rfl)) (fun q => q.elim (fun h => absurd h (pn hA rfl rfl)) (fun h => absurd h.1 (pn hA rfl rfl)))))))))))))))))))).trans (hF j)) (fun j => ((hF_792 43 j (fun q => q.elim (fun h => absurd h.1 (nn rfl)) (fun q => q.elim (fun h => absurd h.1 (nn rfl)) (fun q => q.elim (fun h => absurd h.1 (nn rfl)) (fun q => q.elim (fun h => absurd h.1 (nn rfl)) (fun q => q.elim (fun h => absurd h.1 (nn rfl)) (fun q => q.elim (fun h => absurd h.1 (nn rfl)) (fun q => q.elim (fun h => absurd h.1 (nn rfl)) (fun q => q.elim (fun h => absurd h (nn rfl)) (fun q => q.elim (fun h => absurd h (nn rfl)) (fun h => absurd h (nn rfl)))))))))))).trans ((hF_767 43 j (fun h => absurd h.1 (nn rfl))).trans ((hF_758 43 j (fun h => absurd h.1 (nn rfl))).trans ((hF_751 43 j (fun h => absurd h.1 (nn rfl))).trans (hFc 43 j (fun q => q.elim (fun h => absurd h.1 (nn rfl)) (fun q => q.elim (fun h => absurd h.1 (nn rfl)) (fun q => q.elim (fun h => absurd h.1 (nn rfl)) (fun q => q.elim (fun h => absurd h.1 (nn rfl)) (fun q => q.elim (fun h => absurd h.1 (nn rfl)) (fun q => q.elim (fun h => absurd h.1 (nn rfl)) (fun q => q.elim (fun h => absurd h.1 (nn rfl)) (fun q => q.elim (fun h => absurd h (nn rfl)) (fun q => q.elim (fun h => absurd h (nn rfl)) (fun h => absurd h (nn rfl)))))))))))))))).trans (hH j)) hU hR_794 hG_740 (fun c_807 hI_808 hF_809 hR_811 h_812 => ?_))
                refine bk_inl ?_
                have h_813 := ir_1_2 hI_738
                refine v_iinc (v := v + 1) rfl rfl (by decide) (by omega) ?_
                refine q_goto (t := 44) rfl (by decide) ?_
                refine Wp_ls [(0, .ref 41), (1, vi a1), (2, vi (v + 1))] (lsub_cons rfl (lsub_cons rfl (lsub_cons rfl lsub_nil))) ?_
                have h_814 := ir_41_4 hI_808
                have h_815 := ir_1_5 hI_738
                have h_816 := ir_41_5 hI_808
                have h_817 := ir_41_6 hI_808
                have h_818 := rt_ok hR_811 (by omega)
                have hro_hR_811 := rt_ok hR_811 (by omega)
                have kn_819 : Hid (c_737 A 0 = c_732 A 0) := hF_739 A 0 (fun q => q.elim (fun h => absurd h.1 (np0 hA rfl)) (fun q => q.elim (fun h => absurd h.1 (np0 hA rfl)) (fun h => absurd h.1 (np0 hA rfl))))
                have kn_820 : Hid (c_807 41 16 = c_790 41 16) := hF_809 41 16 (fun q => q.elim (fun h => absurd h.2 (ni rfl)) (fun q => q.elim (fun h => absurd h.2 (ni rfl)) (fun h => absurd h.2 (ni rfl))))
                have kn_821 : Hid (c_737 A 1 = c_732 A 1) := hF_739 A 1 (fun q => q.elim (fun h => absurd h.1 (np0 hA rfl)) (fun q => q.elim (fun h => absurd h.1 (np0 hA rfl)) (fun h => absurd h.1 (np0 hA rfl))))
                have kn_822 : Hid (c_807 41 17 = c_790 41 17) := hF_809 41 17 (fun q => q.elim (fun h => absurd h.2 (ni rfl)) (fun q => q.elim (fun h => absurd h.2 (ni rfl)) (fun h => absurd h.2 (ni rfl))))
                have kn_823 : Hid (c_737 A 2 = c_732 A 2) := hF_739 A 2 (fun q => q.elim (fun h => absurd h.1 (np0 hA rfl)) (fun q => q.elim (fun h => absurd h.1 (np0 hA rfl)) (fun h => absurd h.1 (np0 hA rfl))))
                have kn_824 : Hid (c_807 41 18 = c_790 41 18) := hF_809 41 18 (fun q => q.elim (fun h => absurd h.2 (ni rfl)) (fun q => q.elim (fun h => absurd h.2 (ni rfl)) (fun h => absurd h.2 (ni rfl))))
                exact ih c_807 c_737 (v + 1) (c_737 1 2) (c_732 A 0) (c_732 A 1) (c_732 A 2) hI_808 (fun a j hm => (hF_809 a j (fun q => q.elim (fun h => hm (Or.inl h)) (fun q => q.elim (fun h => hm (Or.inr (Or.inl h))) (fun h => hm (Or.inr (Or.inr (Or.inl h))))))).trans ((hF_792 a j (fun q => q.elim (fun h => hm (Or.inl h)) (fun q => q.elim (fun h => hm (Or.inr (Or.inl h))) (fun q => q.elim (fun h => hm (Or.inr (Or.inr (Or.inl h)))) (fun q => q.elim (fun h => hm (Or.inr (Or.inr (Or.inr (Or.inl h))))) (fun q => q.elim (fun h => hm (Or.inr (Or.inr (Or.inr (Or.inr (Or.inl h)))))) (fun q => q.elim (fun h => hm (Or.inr (Or.inr (Or.inr (Or.inr (Or.inr (Or.inl h))))))) (fun q => q.elim (fun h => hm (Or.inr (Or.inr (Or.inr (Or.inr (Or.inr (Or.inr (Or.inl h)))))))) (fun q => q.elim (fun h => hm (Or.inr (Or.inr (Or.inr (Or.inr (Or.inr (Or.inr (Or.inr (Or.inl h))))))))) (fun q => q.elim (fun h => hm (Or.inr (Or.inr (Or.inr (Or.inr (Or.inr (Or.inr (Or.inr (Or.inr (Or.inl h)))))))))) (fun h => hm (Or.inr (Or.inr (Or.inr (Or.inr (Or.inr (Or.inr (Or.inr (Or.inr (Or.inr h)))))))))))))))))))).trans ((hF_767 a j (fun h => hm (Or.inl h))).trans ((hF_758 a j (fun h => hm (Or.inl h))).trans ((hF_751 a j (fun h => hm (Or.inl h))).trans (hFc a j (fun q => q.elim (fun h => hm (Or.inl h)) (fun q => q.elim (fun h => hm (Or.inr (Or.inl h))) (fun q => q.elim (fun h => hm (Or.inr (Or.inr (Or.inl h)))) (fun q => q.elim (fun h => hm (Or.inr (Or.inr (Or.inr (Or.inl h))))) (fun q => q.elim (fun h => hm (Or.inr (Or.inr (Or.inr (Or.inr (Or.inl h)))))) (fun q => q.elim (fun h => hm (Or.inr (Or.inr (Or.inr (Or.inr (Or.inr (Or.inl h))))))) (fun q => q.elim (fun h => hm (Or.inr (Or.inr (Or.inr (Or.inr (Or.inr (Or.inr (Or.inl h)))))))) (fun q => q.elim (fun h => hm (Or.inr (Or.inr (Or.inr (Or.inr (Or.inr (Or.inr (Or.inr (Or.inl h))))))))) (fun q => q.elim (fun h => hm (Or.inr (Or.inr (Or.inr (Or.inr (Or.inr (Or.inr (Or.inr (Or.inr (Or.inl h)))))))))) (fun h => hm (Or.inr (Or.inr (Or.inr (Or.inr (Or.inr (Or.inr (Or.inr (Or.inr (Or.inr h))))))))))))))))))))))))) hI_738 (fun a j hm => (hF_739 a j (fun q => q.elim (fun h => hm (Or.inl h)) (fun q => q.elim (fun h => hm (Or.inr (Or.inl h))) (fun h => hm (Or.inr (Or.inr (Or.inl h))))))).trans ((hF_734 a j (fun q => q.elim (fun h => hm (Or.inl h)) (fun q => q.elim (fun h => hm (Or.inr (Or.inl h))) (fun q => q.elim (fun h => hm (Or.inr (Or.inr (Or.inl h)))) (fun q => q.elim (fun h => hm (Or.inr (Or.inr (Or.inr (Or.inl h))))) (fun q => q.elim (fun h => hm (Or.inr (Or.inr (Or.inr (Or.inr (Or.inl h)))))) (fun q => q.elim (fun h => hm (Or.inr (Or.inr (Or.inr (Or.inr (Or.inr (Or.inl h))))))) (fun q => q.elim (fun h => hm (Or.inr (Or.inr (Or.inr (Or.inr (Or.inr (Or.inr (Or.inl h)))))))) (fun q => q.elim (fun h => hm (Or.inr (Or.inr (Or.inr (Or.inr (Or.inr (Or.inr (Or.inr (Or.inl h))))))))) (fun q => q.elim (fun h => hm (Or.inr (Or.inr (Or.inr (Or.inr (Or.inr (Or.inr (Or.inr (Or.inr (Or.inl h)))))))))) (fun h => hm (Or.inr (Or.inr (Or.inr (Or.inr (Or.inr (Or.inr (Or.inr (Or.inr (Or.inr (Or.inl h))))))))))))))))))))).trans ((hF_87 a j (fun q => q.elim (fun h => hm (Or.inl h)) (fun q => q.elim (fun h => hm (Or.inr (Or.inl h))) (fun h => hm (Or.inr (Or.inr (Or.inl h))))))).trans ((hF_62 a j (fun h => hm (Or.inl h))).trans ((hF_26 a j (fun h => hm (Or.inl h))).trans (hFm a j (fun q => q.elim (fun h => hm (Or.inl h)) (fun q => q.elim (fun h => hm (Or.inr (Or.inl h))) (fun q => q.elim (fun h => hm (Or.inr (Or.inr (Or.inl h)))) (fun q => q.elim (fun h => hm (Or.inr (Or.inr (Or.inr (Or.inl h))))) (fun q => q.elim (fun h => hm (Or.inr (Or.inr (Or.inr (Or.inr (Or.inl h)))))) (fun q => q.elim (fun h => hm (Or.inr (Or.inr (Or.inr (Or.inr (Or.inr (Or.inl h))))))) (fun q => q.elim (fun h => hm (Or.inr (Or.inr (Or.inr (Or.inr (Or.inr (Or.inr (Or.inl h)))))))) (fun q => q.elim (fun h => hm (Or.inr (Or.inr (Or.inr (Or.inr (Or.inr (Or.inr (Or.inr (Or.inl h))))))))) (fun q => q.elim (fun h => hm (Or.inr (Or.inr (Or.inr (Or.inr (Or.inr (Or.inr (Or.inr (Or.inr (Or.inl h)))))))))) (fun q => q.elim (fun h => hm (Or.inr (Or.inr (Or.inr (Or.inr (Or.inr (Or.inr (Or.inr (Or.inr (Or.inr (Or.inl h))))))))))) (fun q => q.elim (fun h => hm (Or.inr (Or.inr (Or.inr (Or.inr (Or.inr (Or.inr (Or.inr (Or.inr (Or.inr (Or.inr (Or.inl h)))))))))))) (fun q => q.elim (fun h => hm (Or.inr (Or.inr (Or.inr (Or.inr (Or.inr (Or.inr (Or.inr (Or.inr (Or.inr (Or.inr (Or.inr (Or.inl h))))))))))))) (fun q => q.elim (fun h => hm (Or.inr (Or.inr (Or.inr (Or.inr (Or.inr (Or.inr (Or.inr (Or.inr (Or.inr (Or.inr (Or.inr (Or.inr (Or.inl h)))))))))))))) (fun h => hm (Or.inr (Or.inr (Or.inr (Or.inr (Or.inr (Or.inr (Or.inr (Or.inr (Or.inr (Or.inr (Or.inr (Or.inr (Or.inr h))))))))))))))))))))))))))))))))) ⟨by omega, by omega⟩ ⟨by omega, by omega⟩ ⟨by omega, by omega⟩ ⟨by omega, by omega⟩ ⟨by omega, by omega⟩ (rfl) (hro_hR_811.2.2.1) ((hid kn_819)) ((show _ = c_790 41 16 from (hid kn_820)).trans (by omega)) ((hid kn_821)) ((show _ = c_790 41 17 from (hid kn_822)).trans (by omega)) ((hid kn_823)) ((show _ = c_790 41 18 from (hid kn_824)).trans (by omega)) ((show _ = c_737 1 4 from rfl).trans (by omega)) (hro_hR_811.2.1) ((show _ = c_737 1 5 from rfl).trans (by omega)) hG_743 (by omega)
              · skip
                refine q_iload_n rfl rfl ?_
                refine v_bip rfl (by decide) ?_
                refine v_ic_gt_f (t := 85) rfl (by decide) (by omega) ?_
                refine q_aload_n rfl rfl ?_
                refine v_cv rfl rfl rfl rfl (by decide) ⟨⟨rfl, rfl⟩, by decide, rfl⟩ (Nat.le_of_ble_eq_true rfl) (Nat.le_of_ble_eq_true rfl) ?_
                refine q_aload_n rfl rfl ?_
                refine v_cv rfl rfl rfl rfl (by decide) ⟨⟨rfl, rfl⟩, by decide, rfl⟩ (Nat.le_of_ble_eq_true rfl) (Nat.le_of_ble_eq_true rfl) ?_
                refine q_aload_n rfl rfl ?_
                refine v_gi (z := 4) (v := c_737 1 4) rfl rfl rfl (by decide) rfl rfl rfl ?_
                refine v_if_ne_t (t := 11) rfl (by decide) (by omega) ?_
                refine q_iconst rfl ?_
                refine v_zret rfl rfl (by decide) ?_
                refine bk_inl ?_
                refine v_if_eq_t (t := 22) rfl (by decide) (by decide) ?_
                refine q_iconst rfl ?_
                refine v_zret rfl rfl (by decide) ?_
                refine bk_inl ?_
                refine v_if_eq_t (t := 85) rfl (by decide) (by decide) ?_
                refine q_vret rfl rfl ?_
                intro hE_825
                have hW : Wd P Q P P c_737 = Wd P Q P P m9 := (Prod.mk.inj (Prod.mk.inj hE_825).2).1
                have h_826 := ir_1_4 hJ9
                have h_827 : m9 1 4 = c_737 1 4 := wd_fv (z := 4) 4 rfl hW rfl rfl rfl rfl (by decide) rfl ⟨by omega, by omega⟩ ⟨by omega, by omega⟩
                have h_828 := ir_1_2 hI_738
                have h_829 := ir_1_2 hJ9
                have h_830 : m9 1 2 = c_737 1 2 := wd_fv (z := 2) 2 rfl hW rfl rfl rfl rfl (by decide) rfl ⟨by omega, by omega⟩ ⟨by omega, by omega⟩
                have h_831 := ir_1_5 hI_738
                have h_832 := ir_1_5 hJ9
                have h_833 : m9 1 5 = c_737 1 5 := wd_fv (z := 5) 5 rfl hW rfl rfl rfl rfl (by decide) rfl ⟨by omega, by omega⟩ ⟨by omega, by omega⟩
                have h_834 := ir_p0_0 hI_733 hA
                have kn_835 : Hid (c_737 A 0 = c_732 A 0) := hF_739 A 0 (fun q => q.elim (fun h => absurd h.1 (np0 hA rfl)) (fun q => q.elim (fun h => absurd h.1 (np0 hA rfl)) (fun h => absurd h.1 (np0 hA rfl))))
                have h_836 := ir_p0_0 hJ9 hA
                have h_837 : m9 A 0 = c_732 A 0 := wd_fv (z := 0) 0 rfl hW (ck_A hA) (ck_A hA) rfl rfl (by omega) (hid kn_835) ⟨by omega, by omega⟩ ⟨by omega, by omega⟩
                refine q_aload_n rfl rfl ?_
                refine v_cv rfl rfl rfl rfl (by decide) ⟨⟨rfl, rfl⟩, by decide, rfl⟩ (Nat.le_of_ble_eq_true rfl) (Nat.le_of_ble_eq_true rfl) ?_
                refine q_aload_n rfl rfl ?_
                refine v_gi (z := 5) (v := (-1)) rfl rfl rfl (by decide) rfl rfl (hc_1) ?_
                refine q_iconst rfl ?_
                refine v_ic_ne_f (t := 12) rfl (by decide) (by decide) ?_
                refine q_iconst rfl ?_
                refine q_goto (t := 13) rfl (by decide) ?_
                refine v_zret rfl rfl (by decide) ?_
                refine bk_inl ?_
                refine v_if_eq_f (t := 136) rfl (by decide) (by decide) ?_
                refine q_aload_n rfl rfl ?_
                refine v_cv rfl rfl rfl rfl (by decide) ⟨⟨rfl, rfl⟩, by decide, rfl⟩ (Nat.le_of_ble_eq_true rfl) (Nat.le_of_ble_eq_true rfl) ?_
                refine q_aload_n rfl rfl ?_
                have kn_838 : Hid (c2 41 3 = e1) := (hFc 41 3 (fun q => q.elim (fun h => absurd h.2 (ni rfl)) (fun q => q.elim (fun h => absurd h.2 (ni rfl)) (fun q => q.elim (fun h => absurd h.2 (ni rfl)) (fun q => q.elim (fun h => absurd h.2 (ni rfl)) (fun q => q.elim (fun h => absurd h.2 (ni rfl)) (fun q => q.elim (fun h => absurd h.2 (ni rfl)) (fun q => q.elim (fun h => absurd h.2 (ni rfl)) (fun q => q.elim (fun h => absurd h (nn rfl)) (fun q => q.elim (fun h => absurd h (nn rfl)) (fun h => absurd h (nn rfl)))))))))))).trans (hr_e1)
                have h_839 : -2147483648 ≤ (H (nx F e1 a)) ∧ (H (nx F e1 a)) ≤ 2147483647 := by rw [← hH (nx F e1 a)]; exact ir_43 hI (nx F e1 a)
                have h_840 := hU (nx F e1 a) (by omega) (by omega)
                have h_841 := hb_or (b := H) (e := e1) (r := (nx F e1 a))
                have h_842 := hb_bd (b := H) (e := e1) (r := (nx F e1 a)) (lo := -2147483648) (hi := 2147483647) ⟨by omega, by omega⟩ (by decide)
                refine v_cv rfl rfl rfl rfl (by decide) ⟨⟨rfl, rfl⟩, by decide, rfl⟩ (Nat.le_of_ble_eq_true rfl) (Nat.le_of_ble_eq_true rfl) (f_154 (e1 := e1) (a9 := a) (B := H) (r8 := (nx F e1 a)) (r := (hb H e1 (nx F e1 a))) hI2 ((hid kn_838)) ((hr_a)) (fun j => (hFc 43 j (fun q => q.elim (fun h => absurd h.1 (nn rfl)) (fun q => q.elim (fun h => absurd h.1 (nn rfl)) (fun q => q.elim (fun h => absurd h.1 (nn rfl)) (fun q => q.elim (fun h => absurd h.1 (nn rfl)) (fun q => q.elim (fun h => absurd h.1 (nn rfl)) (fun q => q.elim (fun h => absurd h.1 (nn rfl)) (fun q => q.elim (fun h => absurd h.1 (nn rfl)) (fun q => q.elim (fun h => absurd h (nn rfl)) (fun q => q.elim (fun h => absurd h (nn rfl)) (fun h => absurd h (nn rfl)))))))))))).trans (hH j)) ((nx_tr hU (by omega) (by omega)).trans (rfl)) rfl (fun c_843 hI_844 hF_845 h_846 => ?_))
                refine bk_inl ?_
                refine q_pop rfl rfl ?_
                refine q_aload_n rfl rfl ?_
                refine v_gi (z := 4) (v := (nx F e1 a)) rfl rfl rfl (by decide) rfl rfl (h_846) ?_
                refine q_aload_n rfl rfl ?_
                have kn_847 : Hid (c_843 41 3 = e1) := (hF_845 41 3 (fun h => absurd h.2 (ni rfl))).trans (hid kn_838)
                refine v_gi (z := 3) (v := e1) rfl rfl rfl (by decide) rfl rfl (hid kn_847) ?_
                refine v_ic_ge_f (t := 20) rfl (by decide) (by omega) ?_
                refine q_iconst rfl ?_
                refine q_goto (t := 21) rfl (by decide) ?_
                refine v_zret rfl rfl (by decide) ?_
                refine bk_inl ?_
                refine v_if_eq_f (t := 136) rfl (by decide) (by decide) ?_
                refine q_aload_n rfl rfl ?_
                have h_848 := wv_bd (b := F) (r := (nx F e1 a)) (l := (ln F e1 (nx F e1 a))) (fun j h1 h2 => ⟨(ln_in (e := e1) (a := (nx F e1 a)) h1 (by omega)).1, (ln_in (e := e1) (a := (nx F e1 a)) h1 (by omega)).2.1⟩)
                have h_849 := wr8_2 (b := F) (r := (nx F e1 a)) (l := (ln F e1 (nx F e1 a))) (by omega) (fun j h1 h2 => ⟨(ln_in (e := e1) (a := (nx F e1 a)) h1 (by omega)).1, (ln_in (e := e1) (a := (nx F e1 a)) h1 (by omega)).2.1⟩) (by omega)
                refine v_cv rfl rfl rfl rfl (by decide) ⟨⟨rfl, rfl⟩, by decide, rfl⟩ (Nat.le_of_ble_eq_true rfl) (Nat.le_of_ble_eq_true rfl) (f_157 (e1 := e1) (a9 := (nx F e1 a)) (B := H) (r8 := (nx F e1 a)) (L8 := (ln F e1 (nx F e1 a))) (W8 := (wv F (nx F e1 a) (ln F e1 (nx F e1 a)))) hI_844 ((hid kn_847)) ((h_846)) (fun j => ((hF_845 43 j (fun h => absurd h.1 (nn rfl))).trans (hFc 43 j (fun q => q.elim (fun h => absurd h.1 (nn rfl)) (fun q => q.elim (fun h => absurd h.1 (nn rfl)) (fun q => q.elim (fun h => absurd h.1 (nn rfl)) (fun q => q.elim (fun h => absurd h.1 (nn rfl)) (fun q => q.elim (fun h => absurd h.1 (nn rfl)) (fun q => q.elim (fun h => absurd h.1 (nn rfl)) (fun q => q.elim (fun h => absurd h.1 (nn rfl)) (fun q => q.elim (fun h => absurd h (nn rfl)) (fun q => q.elim (fun h => absurd h (nn rfl)) (fun h => absurd h (nn rfl))))))))))))).trans (hH j)) ((nx_tr hU (by omega) (by omega)).trans ((nx_z (by omega)))) ((ln_tr hU (by omega) (by omega)).trans (rfl)) ((wv_tr hU (by omega) (by omega) (fun j h1 h2 => ⟨(ln_in (e := e1) (a := (nx F e1 a)) h1 (by omega)).1, (ln_in (e := e1) (a := (nx F e1 a)) h1 (by omega)).2.1⟩)).trans (rfl)) (fun c_850 hI_851 hF_852 hz_853 => ?_))
                refine bk_inl ?_
                refine q_istore_n rfl (by decide) ?_
                refine q_iload_n rfl rfl ?_
                refine q_call rfl rfl rfl rfl ?_
                refine q_iload_n rfl rfl ?_
                refine q_ldc_s rfl rfl rfl (by decide) ?_
                refine q_call rfl rfl rfl rfl (s_158_16 ?_)
                refine bk_inl ?_
                refine v_ic_eq_f (t := 36) rfl (by decide) (by omega) ?_
                refine q_iload_n rfl rfl ?_
                refine q_ldc_s rfl rfl rfl (by decide) ?_
                refine q_call rfl rfl rfl rfl (s_158_17 ?_)
                refine bk_inl ?_
                refine v_ic_eq_f (t := 36) rfl (by decide) (by omega) ?_
                refine q_iload_n rfl rfl ?_
                refine q_ldc_s rfl rfl rfl (by decide) ?_
                refine q_call rfl rfl rfl rfl (s_158_18 ?_)
                refine bk_inl ?_
                refine v_ic_eq_t (t := 36) rfl (by decide) (by omega) ?_
                refine q_iconst rfl ?_
                refine q_goto (t := 41) rfl (by decide) ?_
                refine v_zret rfl rfl (by decide) ?_
                refine bk_inl ?_
                refine v_if_ne_t (t := 82) rfl (by decide) (by decide) ?_
                refine q_iload_n rfl rfl ?_
                refine v_bip rfl (by decide) ?_
                refine v_ic_eq_f (t := 96) rfl (by decide) (by omega) ?_
                refine q_aload_n rfl rfl ?_
                refine q_iload_n rfl rfl ?_
                refine v_cv rfl rfl rfl rfl (by decide) ⟨⟨rfl, rfl⟩, by decide, rfl⟩ (Nat.le_of_ble_eq_true rfl) (Nat.le_of_ble_eq_true rfl) ?_
                refine q_iload_n rfl rfl ?_
                refine q_ldc_s rfl rfl rfl (by decide) ?_
                refine q_call rfl rfl rfl rfl (s_158_16 ?_)
                refine bk_inl ?_
                refine v_ic_ne_t (t := 26) rfl (by decide) (by omega) ?_
                refine q_iload_n rfl rfl ?_
                refine q_ldc_s rfl rfl rfl (by decide) ?_
                refine q_call rfl rfl rfl rfl (s_158_17 ?_)
                refine bk_inl ?_
                refine v_ic_ne_t (t := 51) rfl (by decide) (by omega) ?_
                refine q_iload_n rfl rfl ?_
                refine q_ldc_s rfl rfl rfl (by decide) ?_
                refine q_call rfl rfl rfl rfl (s_158_18 ?_)
                refine bk_inl ?_
                refine v_ic_ne_f (t := 72) rfl (by decide) (by omega) ?_
                refine q_aload_n rfl rfl ?_
                have kn_854 : Hid (c_843 41 18 = si) := (hF_845 41 18 (fun h => absurd h.2 (ni rfl))).trans (hr_si)
                have kn_855 : Hid (c_850 41 18 = si) := (hF_852 41 18 (fun h => absurd h.2 (ni rfl))).trans (hid kn_854)
                refine v_gi (z := 18) (v := si) rfl rfl rfl (by decide) rfl rfl (hid kn_855) ?_
                refine q_iconst rfl ?_
                refine v_ic_ne_t (t := 72) rfl (by decide) (by omega) ?_
                refine q_iconst rfl ?_
                refine v_zret rfl rfl (by decide) ?_
                refine bk_inl ?_
                refine v_if_eq_t (t := 105) rfl (by decide) (by decide) ?_
                refine q_aload_n rfl rfl ?_
                refine v_cv rfl rfl rfl rfl (by decide) ⟨⟨rfl, rfl⟩, by decide, rfl⟩ (Nat.le_of_ble_eq_true rfl) (Nat.le_of_ble_eq_true rfl) ?_
                refine q_aload_n rfl rfl ?_
                have kn_856 : Hid (c_843 41 5 = (-1)) := (hF_845 41 5 (fun h => absurd h.2 (ni rfl))).trans (hc_1)
                have kn_857 : Hid (c_850 41 5 = (-1)) := (hF_852 41 5 (fun h => absurd h.2 (ni rfl))).trans (hid kn_856)
                refine v_gi (z := 5) (v := (-1)) rfl rfl rfl (by decide) rfl rfl (hid kn_857) ?_
                refine q_iconst rfl ?_
                refine v_ic_ne_f (t := 12) rfl (by decide) (by decide) ?_
                refine q_iconst rfl ?_
                refine q_goto (t := 13) rfl (by decide) ?_
                refine v_zret rfl rfl (by decide) ?_
                refine bk_inl ?_
                refine v_if_ne_t (t := 115) rfl (by decide) (by decide) ?_
                refine q_aload_n rfl rfl ?_
                have kn_858 : Hid (c_850 41 3 = e1) := (hF_852 41 3 (fun h => absurd h.2 (ni rfl))).trans (hid kn_847)
                refine v_cv rfl rfl rfl rfl (by decide) ⟨⟨rfl, rfl⟩, by decide, rfl⟩ (Nat.le_of_ble_eq_true rfl) (Nat.le_of_ble_eq_true rfl) (f_159 (e1 := e1) (a9 := (nx F e1 a)) (B := H) (L8 := (ln F e1 (nx F e1 a))) hI_851 ((hid kn_858)) ((hz_853)) (fun j => ((hF_852 43 j (fun h => absurd h.1 (nn rfl))).trans ((hF_845 43 j (fun h => absurd h.1 (nn rfl))).trans (hFc 43 j (fun q => q.elim (fun h => absurd h.1 (nn rfl)) (fun q => q.elim (fun h => absurd h.1 (nn rfl)) (fun q => q.elim (fun h => absurd h.1 (nn rfl)) (fun q => q.elim (fun h => absurd h.1 (nn rfl)) (fun q => q.elim (fun h => absurd h.1 (nn rfl)) (fun q => q.elim (fun h => absurd h.1 (nn rfl)) (fun q => q.elim (fun h => absurd h.1 (nn rfl)) (fun q => q.elim (fun h => absurd h (nn rfl)) (fun q => q.elim (fun h => absurd h (nn rfl)) (fun h => absurd h (nn rfl)))))))))))))).trans (hH j)) ((ln_tr hU (by omega) (by omega)).trans (rfl)) (fun c_859 hI_860 hF_861 hz_862 => ?_))
                refine bk_inl ?_
                refine q_aload_n rfl rfl ?_
                refine q_iload_n rfl rfl ?_
                have hw_863 : (wv F (nx F e1 a) (ln F e1 (nx F e1 a))) = 20223685 := by omega
                rw [hw_863]
                have kn_864 : Hid (c_85 1 1 = e1) := (hF_87 1 1 (fun q => q.elim (fun h => absurd h.2 (ni rfl)) (fun q => q.elim (fun h => absurd h.2 (ni rfl)) (fun h => absurd h.2 (ni rfl))))).trans (hid kn_64)
                have kn_865 : Hid (c_859 41 3 = e1) := (hF_861 41 3 (fun h => absurd h.2 (ni rfl))).trans (hid kn_858)
                have kn_866 : Hid (c_843 41 16 = jr) := (hF_845 41 16 (fun h => absurd h.2 (ni rfl))).trans (hr_jr)
                have kn_867 : Hid (c_850 41 16 = jr) := (hF_852 41 16 (fun h => absurd h.2 (ni rfl))).trans (hid kn_866)
                have kn_868 : Hid (c_859 41 16 = jr) := (hF_861 41 16 (fun h => absurd h.2 (ni rfl))).trans (hid kn_867)
                have kn_869 : Hid (c_843 41 17 = st) := (hF_845 41 17 (fun h => absurd h.2 (ni rfl))).trans (hr_st)
                have kn_870 : Hid (c_850 41 17 = st) := (hF_852 41 17 (fun h => absurd h.2 (ni rfl))).trans (hid kn_869)
                have kn_871 : Hid (c_859 41 17 = st) := (hF_861 41 17 (fun h => absurd h.2 (ni rfl))).trans (hid kn_870)
                have kn_872 : Hid (c_859 41 18 = si) := (hF_861 41 18 (fun h => absurd h.2 (ni rfl))).trans (hid kn_855)
                have h_873 : c_85 1 4 = 0 := (hz_91)
                have h_874 : c_85 1 2 = (ln F e1 (nx F e1 a)) := (hz_90)
                have h_875 : c_85 1 5 = (-1) := (hz_92)
                have kn_876 : Hid (c_859 41 5 = (-1)) := (hF_861 41 5 (fun h => absurd h.2 (ni rfl))).trans (hid kn_857)
                have h_877 : c_859 41 5 = (-1) := (hid kn_876)
                have h_878 : c_859 41 4 = (ln F e1 (nx F e1 a)) := (hz_862)
                have h_879 := ir_41_6 hI2
                have kn_880 : Hid (c_843 41 6 = c2 41 6) := hF_845 41 6 (fun h => absurd h.2 (ni rfl))
                have kn_881 : Hid (c_850 41 6 = c2 41 6) := (hF_852 41 6 (fun h => absurd h.2 (ni rfl))).trans (hid kn_880)
                have kn_882 : Hid (c_859 41 6 = c2 41 6) := (hF_861 41 6 (fun h => absurd h.2 (ni rfl))).trans (hid kn_881)
                have h_883 : c_859 41 6 = c2 41 6 := (hid kn_882)
                refine v_cv rfl rfl rfl rfl (by decide) ⟨⟨rfl, rfl⟩, by decide, rfl⟩ (Nat.le_of_ble_eq_true rfl) (Nat.le_of_ble_eq_true rfl) (L_33_2 (m := c_85) (e1 := e1) (jr := jr) (st := st) (si := si) (F := F) (H := H) hI_860 hI_86 hI_733 hA (by omega) ((hid kn_864)) ((hid kn_865)) ((hid kn_725)) ((hid kn_868)) ((hid kn_729)) ((hid kn_871)) ((hid kn_720)) ((hid kn_872)) (fun j => ((hF_87 2 j (fun q => q.elim (fun h => absurd h.1 (nn rfl)) (fun q => q.elim (fun h => absurd h.1 (nn rfl)) (fun h => absurd h.1 (nn rfl))))).trans ((hF_62 2 j (fun h => absurd h.1 (nn rfl))).trans ((hF_26 2 j (fun h => absurd h.1 (nn rfl))).trans (hFm 2 j (fun q => q.elim (fun h => absurd h.1 (nn rfl)) (fun q => q.elim (fun h => absurd h.1 (nn rfl)) (fun q => q.elim (fun h => absurd h.1 (nn rfl)) (fun q => q.elim (fun h => absurd h.1 (pn0 hA rfl)) (fun q => q.elim (fun h => absurd h.1 (pn0 hA rfl)) (fun q => q.elim (fun h => absurd h.1 (pn0 hA rfl)) (fun q => q.elim (fun h => absurd h.1 (pn0 hA rfl)) (fun q => q.elim (fun h => absurd h (pn hA rfl rfl)) (fun q => q.elim (fun h => absurd h (pn hA rfl rfl)) (fun q => q.elim (fun h => absurd h (pn hA rfl rfl)) (fun q => q.elim (fun h => absurd h.1 (pn0 hA rfl)) (fun q => q.elim (fun h => absurd h.1 (pn0 hA rfl)) (fun q => q.elim (fun h => absurd h (pn hA rfl rfl)) (fun h => absurd h.1 (pn hA rfl rfl))))))))))))))))))).trans (hF j)) (fun j => ((hF_861 43 j (fun h => absurd h.1 (nn rfl))).trans ((hF_852 43 j (fun h => absurd h.1 (nn rfl))).trans ((hF_845 43 j (fun h => absurd h.1 (nn rfl))).trans (hFc 43 j (fun q => q.elim (fun h => absurd h.1 (nn rfl)) (fun q => q.elim (fun h => absurd h.1 (nn rfl)) (fun q => q.elim (fun h => absurd h.1 (nn rfl)) (fun q => q.elim (fun h => absurd h.1 (nn rfl)) (fun q => q.elim (fun h => absurd h.1 (nn rfl)) (fun q => q.elim (fun h => absurd h.1 (nn rfl)) (fun q => q.elim (fun h => absurd h.1 (nn rfl)) (fun q => q.elim (fun h => absurd h (nn rfl)) (fun q => q.elim (fun h => absurd h (nn rfl)) (fun h => absurd h (nn rfl))))))))))))))).trans (hH j)) hU (by unfold Rt; omega) hG_735 (fun c_884 hI_885 hF_886 hR_888 h_889 h_890 h_891 => ?_))
                refine bk_inl ?_
                have h_892 := ir_41_16 hI_885
                have h_893 := ir_41_17 hI_885
                have h_894 := ir_p0_1 hI_733 hA
                have h_895 := ir_41_18 hI_885
                have h_896 := ir_p0_2 hI_733 hA
                refine q_aload_n rfl rfl ?_
                refine v_bip rfl (by decide) ?_
                have kn_897 : Hid (c_732 1 1 = e1) := (hF_734 1 1 (fun q => q.elim (fun h => absurd h.2 (ni rfl)) (fun q => q.elim (fun h => absurd h.2 (ni rfl)) (fun q => q.elim (fun h => absurd h.2 (ni rfl)) (fun q => q.elim (fun h => absurd h.1 (pn0 hA rfl)) (fun q => q.elim (fun h => absurd h.1 (pn0 hA rfl)) (fun q => q.elim (fun h => absurd h.1 (pn0 hA rfl)) (fun q => q.elim (fun h => absurd h.1 (pn0 hA rfl)) (fun q => q.elim (fun h => absurd h (pn hA rfl rfl)) (fun q => q.elim (fun h => absurd h (pn hA rfl rfl)) (fun h => absurd h (pn hA rfl rfl)))))))))))).trans (hid kn_864)
                have kn_898 : Hid (c_884 41 3 = e1) := (hF_886 41 3 (fun q => q.elim (fun h => absurd h.2 (ni rfl)) (fun q => q.elim (fun h => absurd h.2 (ni rfl)) (fun q => q.elim (fun h => absurd h.2 (ni rfl)) (fun q => q.elim (fun h => absurd h.2 (ni rfl)) (fun q => q.elim (fun h => absurd h.2 (ni rfl)) (fun q => q.elim (fun h => absurd h.2 (ni rfl)) (fun q => q.elim (fun h => absurd h.2 (ni rfl)) (fun q => q.elim (fun h => absurd h (nn rfl)) (fun q => q.elim (fun h => absurd h (nn rfl)) (fun h => absurd h (nn rfl)))))))))))).trans (hid kn_865)
                have h_899 := ir_1_2 hI_733
                refine v_cv rfl rfl rfl rfl (by decide) ⟨⟨rfl, rfl⟩, by decide, rfl⟩ (Nat.le_of_ble_eq_true rfl) (Nat.le_of_ble_eq_true rfl) (L_11_9 (m := c_732) (e1 := e1) (a9 := c_732 1 2) (F := F) (H := H) hI_885 hI_733 hI_738 ((hid kn_897)) ((hid kn_898)) (rfl) (fun j => ((hF_734 2 j (fun q => q.elim (fun h => absurd h.1 (nn rfl)) (fun q => q.elim (fun h => absurd h.1 (nn rfl)) (fun q => q.elim (fun h => absurd h.1 (nn rfl)) (fun q => q.elim (fun h => absurd h.1 (pn0 hA rfl)) (fun q => q.elim (fun h => absurd h.1 (pn0 hA rfl)) (fun q => q.elim (fun h => absurd h.1 (pn0 hA rfl)) (fun q => q.elim (fun h => absurd h.1 (pn0 hA rfl)) (fun q => q.elim (fun h => absurd h (pn hA rfl rfl)) (fun q => q.elim (fun h => absurd h (pn hA rfl rfl)) (fun h => absurd h (pn hA rfl rfl)))))))))))).trans ((hF_87 2 j (fun q => q.elim (fun h => absurd h.1 (nn rfl)) (fun q => q.elim (fun h => absurd h.1 (nn rfl)) (fun h => absurd h.1 (nn rfl))))).trans ((hF_62 2 j (fun h => absurd h.1 (nn rfl))).trans ((hF_26 2 j (fun h => absurd h.1 (nn rfl))).trans (hFm 2 j (fun q => q.elim (fun h => absurd h.1 (nn rfl)) (fun q => q.elim (fun h => absurd h.1 (nn rfl)) (fun q => q.elim (fun h => absurd h.1 (nn rfl)) (fun q => q.elim (fun h => absurd h.1 (pn0 hA rfl)) (fun q => q.elim (fun h => absurd h.1 (pn0 hA rfl)) (fun q => q.elim (fun h => absurd h.1 (pn0 hA rfl)) (fun q => q.elim (fun h => absurd h.1 (pn0 hA rfl)) (fun q => q.elim (fun h => absurd h (pn hA rfl rfl)) (fun q => q.elim (fun h => absurd h (pn hA rfl rfl)) (fun q => q.elim (fun h => absurd h (pn hA rfl rfl)) (fun q => q.elim (fun h => absurd h.1 (pn0 hA rfl)) (fun q => q.elim (fun h => absurd h.1 (pn0 hA rfl)) (fun q => q.elim (fun h => absurd h (pn hA rfl rfl)) (fun h => absurd h.1 (pn hA rfl rfl)))))))))))))))))))).trans (hF j)) (fun j => ((hF_886 43 j (fun q => q.elim (fun h => absurd h.1 (nn rfl)) (fun q => q.elim (fun h => absurd h.1 (nn rfl)) (fun q => q.elim (fun h => absurd h.1 (nn rfl)) (fun q => q.elim (fun h => absurd h.1 (nn rfl)) (fun q => q.elim (fun h => absurd h.1 (nn rfl)) (fun q => q.elim (fun h => absurd h.1 (nn rfl)) (fun q => q.elim (fun h => absurd h.1 (nn rfl)) (fun q => q.elim (fun h => absurd h (nn rfl)) (fun q => q.elim (fun h => absurd h (nn rfl)) (fun h => absurd h (nn rfl)))))))))))).trans ((hF_861 43 j (fun h => absurd h.1 (nn rfl))).trans ((hF_852 43 j (fun h => absurd h.1 (nn rfl))).trans ((hF_845 43 j (fun h => absurd h.1 (nn rfl))).trans (hFc 43 j (fun q => q.elim (fun h => absurd h.1 (nn rfl)) (fun q => q.elim (fun h => absurd h.1 (nn rfl)) (fun q => q.elim (fun h => absurd h.1 (nn rfl)) (fun q => q.elim (fun h => absurd h.1 (nn rfl)) (fun q => q.elim (fun h => absurd h.1 (nn rfl)) (fun q => q.elim (fun h => absurd h.1 (nn rfl)) (fun q => q.elim (fun h => absurd h.1 (nn rfl)) (fun q => q.elim (fun h => absurd h (nn rfl)) (fun q => q.elim (fun h => absurd h (nn rfl)) (fun h => absurd h (nn rfl)))))))))))))))).trans (hH j)) hU hR_888 hG_740 (fun c_900 hI_901 hF_902 hR_904 h_905 => ?_))
                refine bk_inl ?_
                refine v_iinc (v := v + 1) rfl rfl (by decide) (by omega) ?_
                refine q_goto (t := 44) rfl (by decide) ?_
                refine q_aload_n rfl rfl ?_
                refine v_cv rfl rfl rfl rfl (by decide) ⟨⟨rfl, rfl⟩, by decide, rfl⟩ (Nat.le_of_ble_eq_true rfl) (Nat.le_of_ble_eq_true rfl) ?_
                refine q_aload_n rfl rfl ?_
                have h_906 := ir_41_5 hI_901
                have h_907 := ir_41_4 hI_901
                have h_908 := ir_41_6 hI_901
                have h_909 := rt_bad hR_904 (by omega)
                have hrb_hR_904 := rt_bad hR_904 (by omega)
                refine v_gi (z := 5) (v := c_737 1 5) rfl rfl rfl (by decide) rfl rfl hrb_hR_904.2.1 ?_
                refine q_iconst rfl ?_
                refine v_ic_ne_t (t := 12) rfl (by decide) (by omega) ?_
                refine q_iconst rfl ?_
                refine v_zret rfl rfl (by decide) ?_
                refine bk_inl ?_
                refine v_if_eq_t (t := 136) rfl (by decide) (by decide) ?_
                refine Wp_ls [(0, .ref 41), (1, vi a1)] (lsub_cons rfl (lsub_cons rfl lsub_nil)) ?_
                have h_910 : c_900 41 5 = c_737 1 5 := hrb_hR_904.2.1
                have h_911 : c_900 41 6 = c_737 1 4 := hrb_hR_904.2.2.2
                have kn_912 : Hid (c_900 41 16 = c_884 41 16) := hF_902 41 16 (fun q => q.elim (fun h => absurd h.2 (ni rfl)) (fun q => q.elim (fun h => absurd h.2 (ni rfl)) (fun h => absurd h.2 (ni rfl))))
                have h_913 : c_900 41 16 = c_884 41 16 := (hid kn_912)
                exact K c_900  hI_901 (fun a j hm => (hF_902 a j (fun q => q.elim (fun h => hm (Or.inl h)) (fun q => q.elim (fun h => hm (Or.inr (Or.inl h))) (fun h => hm (Or.inr (Or.inr (Or.inl h))))))).trans ((hF_886 a j (fun q => q.elim (fun h => hm (Or.inl h)) (fun q => q.elim (fun h => hm (Or.inr (Or.inl h))) (fun q => q.elim (fun h => hm (Or.inr (Or.inr (Or.inl h)))) (fun q => q.elim (fun h => hm (Or.inr (Or.inr (Or.inr (Or.inl h))))) (fun q => q.elim (fun h => hm (Or.inr (Or.inr (Or.inr (Or.inr (Or.inl h)))))) (fun q => q.elim (fun h => hm (Or.inr (Or.inr (Or.inr (Or.inr (Or.inr (Or.inl h))))))) (fun q => q.elim (fun h => hm (Or.inr (Or.inr (Or.inr (Or.inr (Or.inr (Or.inr (Or.inl h)))))))) (fun q => q.elim (fun h => hm (Or.inr (Or.inr (Or.inr (Or.inr (Or.inr (Or.inr (Or.inr (Or.inl h))))))))) (fun q => q.elim (fun h => hm (Or.inr (Or.inr (Or.inr (Or.inr (Or.inr (Or.inr (Or.inr (Or.inr (Or.inl h)))))))))) (fun h => hm (Or.inr (Or.inr (Or.inr (Or.inr (Or.inr (Or.inr (Or.inr (Or.inr (Or.inr h)))))))))))))))))))).trans ((hF_861 a j (fun h => hm (Or.inl h))).trans ((hF_852 a j (fun h => hm (Or.inl h))).trans ((hF_845 a j (fun h => hm (Or.inl h))).trans (hFc a j (fun q => q.elim (fun h => hm (Or.inl h)) (fun q => q.elim (fun h => hm (Or.inr (Or.inl h))) (fun q => q.elim (fun h => hm (Or.inr (Or.inr (Or.inl h)))) (fun q => q.elim (fun h => hm (Or.inr (Or.inr (Or.inr (Or.inl h))))) (fun q => q.elim (fun h => hm (Or.inr (Or.inr (Or.inr (Or.inr (Or.inl h)))))) (fun q => q.elim (fun h => hm (Or.inr (Or.inr (Or.inr (Or.inr (Or.inr (Or.inl h))))))) (fun q => q.elim (fun h => hm (Or.inr (Or.inr (Or.inr (Or.inr (Or.inr (Or.inr (Or.inl h)))))))) (fun q => q.elim (fun h => hm (Or.inr (Or.inr (Or.inr (Or.inr (Or.inr (Or.inr (Or.inr (Or.inl h))))))))) (fun q => q.elim (fun h => hm (Or.inr (Or.inr (Or.inr (Or.inr (Or.inr (Or.inr (Or.inr (Or.inr (Or.inl h)))))))))) (fun h => hm (Or.inr (Or.inr (Or.inr (Or.inr (Or.inr (Or.inr (Or.inr (Or.inr (Or.inr h))))))))))))))))))))))))) (by unfold Rt; omega) (by omega)
            · refine v_ic_ne_f (t := 69) rfl (by decide) (by omega) ?_
              refine q_iconst rfl ?_
              refine q_goto (t := 70) rfl (by decide) ?_
              refine v_zret rfl rfl (by decide) ?_
              refine bk_inl ?_
              refine v_if_eq_f (t := 59) rfl (by decide) (by decide) ?_
              refine q_aload_n rfl rfl ?_
              refine q_iconst rfl ?_
              refine q_iload_n rfl rfl ?_
              refine v_cv rfl rfl rfl rfl (by decide) ⟨⟨rfl, rfl⟩, by decide, rfl⟩ (Nat.le_of_ble_eq_true rfl) (Nat.le_of_ble_eq_true rfl) ?_
              refine q_aload_n rfl rfl ?_
              refine v_gi (z := 4) (v := 0) rfl rfl rfl (by decide) rfl rfl (hz_91) ?_
              refine v_if_ne_f (t := 17) rfl (by decide) (by decide) ?_
              refine q_aload_n rfl rfl ?_
              refine q_iload_n rfl rfl ?_
              refine v_pi (z := 4) rfl rfl rfl (by decide) rfl rfl rfl (by decide) ?_
              refine q_aload_n rfl rfl ?_
              refine q_iload_n rfl rfl ?_
              refine v_pi (z := 5) rfl rfl rfl (by decide) rfl rfl rfl (by decide) ?_
              refine q_vret rfl rfl ?_
              refine bk_inl ?_
              refine q_aload_n rfl rfl ?_
              refine v_cv rfl rfl rfl rfl (by decide) ⟨⟨rfl, rfl⟩, by decide, rfl⟩ (Nat.le_of_ble_eq_true rfl) (Nat.le_of_ble_eq_true rfl) ?_
              refine q_aload_n rfl rfl ?_
              refine v_gi (z := 4) (v := 3) rfl rfl rfl (by decide) rfl rfl ((up_n (by decide)).trans (up_e rfl)) ?_
              refine v_if_ne_t (t := 11) rfl (by decide) (by decide) ?_
              refine q_iconst rfl ?_
              refine v_zret rfl rfl (by decide) ?_
              refine bk_inl ?_
              refine v_if_eq_t (t := 73) rfl (by decide) (by decide) ?_
              refine q_aload_n rfl rfl ?_
              refine q_ldc_s rfl rfl rfl (by decide) ?_
              refine v_cv rfl rfl rfl rfl (by decide) ⟨⟨rfl, rfl⟩, by decide, rfl⟩ (Nat.le_of_ble_eq_true rfl) (Nat.le_of_ble_eq_true rfl) ?_
              refine q_aload_n rfl rfl ?_
              refine v_cv rfl rfl rfl rfl (by decide) ⟨⟨rfl, rfl⟩, by decide, rfl⟩ (Nat.le_of_ble_eq_true rfl) (Nat.le_of_ble_eq_true rfl) ?_
              refine q_aload_n rfl rfl ?_
              refine v_gi (z := 4) (v := 3) rfl rfl rfl (by decide) rfl rfl ((up_n (by decide)).trans (up_e rfl)) ?_
              refine v_if_ne_t (t := 11) rfl (by decide) (by decide) ?_
              refine q_iconst rfl ?_
              refine v_zret rfl rfl (by decide) ?_
              refine bk_inl ?_
              refine v_if_eq_t (t := 25) rfl (by decide) (by decide) ?_
              refine q_vret rfl rfl ?_
              refine bk_inl ?_
              refine v_iinc (v := v + 1) rfl rfl (by decide) (by omega) ?_
              refine q_goto (t := 6) rfl (by decide) ?_
              refine q_iload_n rfl rfl ?_
              refine v_bip rfl (by decide) ?_
              refine v_ic_gt_f (t := 85) rfl (by decide) (by omega) ?_
              refine q_aload_n rfl rfl ?_
              refine v_cv rfl rfl rfl rfl (by decide) ⟨⟨rfl, rfl⟩, by decide, rfl⟩ (Nat.le_of_ble_eq_true rfl) (Nat.le_of_ble_eq_true rfl) ?_
              refine q_aload_n rfl rfl ?_
              refine v_cv rfl rfl rfl rfl (by decide) ⟨⟨rfl, rfl⟩, by decide, rfl⟩ (Nat.le_of_ble_eq_true rfl) (Nat.le_of_ble_eq_true rfl) ?_
              refine q_aload_n rfl rfl ?_
              refine v_gi (z := 4) (v := 3) rfl rfl rfl (by decide) rfl rfl ((up_n (by decide)).trans (up_e rfl)) ?_
              refine v_if_ne_t (t := 11) rfl (by decide) (by decide) ?_
              refine q_iconst rfl ?_
              refine v_zret rfl rfl (by decide) ?_
              refine bk_inl ?_
              refine v_if_eq_t (t := 22) rfl (by decide) (by decide) ?_
              refine q_iconst rfl ?_
              refine v_zret rfl rfl (by decide) ?_
              refine bk_inl ?_
              refine v_if_eq_t (t := 85) rfl (by decide) (by decide) ?_
              refine q_vret rfl rfl ?_
              have hI_914 := iw_1_4 (v := 3) hI_86 ⟨by decide, by decide⟩
              have hI_915 := iw_1_5 (v := (nx F e1 a)) hI_914 ⟨by omega, by omega⟩
              intro hE_916
              have hW : Wd P Q P P (up (up c_85 1 4 3) 1 5 (nx F e1 a)) = Wd P Q P P m9 := (Prod.mk.inj (Prod.mk.inj hE_916).2).1
              have h_917 := ir_1_4 hJ9
              have h_918 : m9 1 4 = 3 := wd_fv (z := 4) 4 rfl hW rfl rfl rfl rfl (by decide) ((up_n (by decide)).trans (up_e rfl)) ⟨by omega, by omega⟩ ⟨by omega, by omega⟩
              have h_919 := ir_1_2 hJ9
              have h_920 : m9 1 2 = (ln F e1 (nx F e1 a)) := wd_fv (z := 2) 2 rfl hW rfl rfl rfl rfl (by decide) ((up_n (by decide)).trans ((up_n (by decide)).trans (hz_90))) ⟨by omega, by omega⟩ ⟨by omega, by omega⟩
              have h_921 := ir_1_5 hJ9
              have h_922 : m9 1 5 = (nx F e1 a) := wd_fv (z := 5) 5 rfl hW rfl rfl rfl rfl (by decide) (up_e rfl) ⟨by omega, by omega⟩ ⟨by omega, by omega⟩
              have kn_923 : Hid (c_24 A 0 = jr) := (hF_26 A 0 (fun h => absurd h.1 (np0 hA rfl))).trans (hg_jr)
              have kn_924 : Hid (c_60 A 0 = jr) := (hF_62 A 0 (fun h => absurd h.1 (np0 hA rfl))).trans (hid kn_923)
              have kn_925 : Hid (c_85 A 0 = jr) := (hF_87 A 0 (fun q => q.elim (fun h => absurd h.1 (np0 hA rfl)) (fun q => q.elim (fun h => absurd h.1 (np0 hA rfl)) (fun h => absurd h.1 (np0 hA rfl))))).trans (hid kn_924)
              have h_926 := ir_p0_0 hJ9 hA
              have h_927 : m9 A 0 = jr := wd_fv (z := 0) 0 rfl hW (ck_A hA) (ck_A hA) rfl rfl (by omega) ((up_c (np0 hA rfl)).trans ((up_c (np0 hA rfl)).trans (hid kn_925))) ⟨by omega, by omega⟩ ⟨by omega, by omega⟩
              refine q_aload_n rfl rfl ?_
              refine v_cv rfl rfl rfl rfl (by decide) ⟨⟨rfl, rfl⟩, by decide, rfl⟩ (Nat.le_of_ble_eq_true rfl) (Nat.le_of_ble_eq_true rfl) ?_
              refine q_aload_n rfl rfl ?_
              refine v_gi (z := 5) (v := (-1)) rfl rfl rfl (by decide) rfl rfl (hc_1) ?_
              refine q_iconst rfl ?_
              refine v_ic_ne_f (t := 12) rfl (by decide) (by decide) ?_
              refine q_iconst rfl ?_
              refine q_goto (t := 13) rfl (by decide) ?_
              refine v_zret rfl rfl (by decide) ?_
              refine bk_inl ?_
              refine v_if_eq_f (t := 136) rfl (by decide) (by decide) ?_
              refine q_aload_n rfl rfl ?_
              refine v_cv rfl rfl rfl rfl (by decide) ⟨⟨rfl, rfl⟩, by decide, rfl⟩ (Nat.le_of_ble_eq_true rfl) (Nat.le_of_ble_eq_true rfl) ?_
              refine q_aload_n rfl rfl ?_
              have kn_928 : Hid (c2 41 3 = e1) := (hFc 41 3 (fun q => q.elim (fun h => absurd h.2 (ni rfl)) (fun q => q.elim (fun h => absurd h.2 (ni rfl)) (fun q => q.elim (fun h => absurd h.2 (ni rfl)) (fun q => q.elim (fun h => absurd h.2 (ni rfl)) (fun q => q.elim (fun h => absurd h.2 (ni rfl)) (fun q => q.elim (fun h => absurd h.2 (ni rfl)) (fun q => q.elim (fun h => absurd h.2 (ni rfl)) (fun q => q.elim (fun h => absurd h (nn rfl)) (fun q => q.elim (fun h => absurd h (nn rfl)) (fun h => absurd h (nn rfl)))))))))))).trans (hr_e1)
              have h_929 : -2147483648 ≤ (H (nx F e1 a)) ∧ (H (nx F e1 a)) ≤ 2147483647 := by rw [← hH (nx F e1 a)]; exact ir_43 hI (nx F e1 a)
              have h_930 := hU (nx F e1 a) (by omega) (by omega)
              have h_931 := hb_or (b := H) (e := e1) (r := (nx F e1 a))
              have h_932 := hb_bd (b := H) (e := e1) (r := (nx F e1 a)) (lo := -2147483648) (hi := 2147483647) ⟨by omega, by omega⟩ (by decide)
              refine v_cv rfl rfl rfl rfl (by decide) ⟨⟨rfl, rfl⟩, by decide, rfl⟩ (Nat.le_of_ble_eq_true rfl) (Nat.le_of_ble_eq_true rfl) (f_154 (e1 := e1) (a9 := a) (B := H) (r8 := (nx F e1 a)) (r := (hb H e1 (nx F e1 a))) hI2 ((hid kn_928)) ((hr_a)) (fun j => (hFc 43 j (fun q => q.elim (fun h => absurd h.1 (nn rfl)) (fun q => q.elim (fun h => absurd h.1 (nn rfl)) (fun q => q.elim (fun h => absurd h.1 (nn rfl)) (fun q => q.elim (fun h => absurd h.1 (nn rfl)) (fun q => q.elim (fun h => absurd h.1 (nn rfl)) (fun q => q.elim (fun h => absurd h.1 (nn rfl)) (fun q => q.elim (fun h => absurd h.1 (nn rfl)) (fun q => q.elim (fun h => absurd h (nn rfl)) (fun q => q.elim (fun h => absurd h (nn rfl)) (fun h => absurd h (nn rfl)))))))))))).trans (hH j)) ((nx_tr hU (by omega) (by omega)).trans (rfl)) rfl (fun c_933 hI_934 hF_935 h_936 => ?_))
              refine bk_inl ?_
              refine q_pop rfl rfl ?_
              refine q_aload_n rfl rfl ?_
              refine v_gi (z := 4) (v := (nx F e1 a)) rfl rfl rfl (by decide) rfl rfl (h_936) ?_
              refine q_aload_n rfl rfl ?_
              have kn_937 : Hid (c_933 41 3 = e1) := (hF_935 41 3 (fun h => absurd h.2 (ni rfl))).trans (hid kn_928)
              refine v_gi (z := 3) (v := e1) rfl rfl rfl (by decide) rfl rfl (hid kn_937) ?_
              refine v_ic_ge_f (t := 20) rfl (by decide) (by omega) ?_
              refine q_iconst rfl ?_
              refine q_goto (t := 21) rfl (by decide) ?_
              refine v_zret rfl rfl (by decide) ?_
              refine bk_inl ?_
              refine v_if_eq_f (t := 136) rfl (by decide) (by decide) ?_
              refine q_aload_n rfl rfl ?_
              have h_938 := wv_bd (b := F) (r := (nx F e1 a)) (l := (ln F e1 (nx F e1 a))) (fun j h1 h2 => ⟨(ln_in (e := e1) (a := (nx F e1 a)) h1 (by omega)).1, (ln_in (e := e1) (a := (nx F e1 a)) h1 (by omega)).2.1⟩)
              have h_939 := wr8_2 (b := F) (r := (nx F e1 a)) (l := (ln F e1 (nx F e1 a))) (by omega) (fun j h1 h2 => ⟨(ln_in (e := e1) (a := (nx F e1 a)) h1 (by omega)).1, (ln_in (e := e1) (a := (nx F e1 a)) h1 (by omega)).2.1⟩) (by omega)
              refine v_cv rfl rfl rfl rfl (by decide) ⟨⟨rfl, rfl⟩, by decide, rfl⟩ (Nat.le_of_ble_eq_true rfl) (Nat.le_of_ble_eq_true rfl) (f_157 (e1 := e1) (a9 := (nx F e1 a)) (B := H) (r8 := (nx F e1 a)) (L8 := (ln F e1 (nx F e1 a))) (W8 := (wv F (nx F e1 a) (ln F e1 (nx F e1 a)))) hI_934 ((hid kn_937)) ((h_936)) (fun j => ((hF_935 43 j (fun h => absurd h.1 (nn rfl))).trans (hFc 43 j (fun q => q.elim (fun h => absurd h.1 (nn rfl)) (fun q => q.elim (fun h => absurd h.1 (nn rfl)) (fun q => q.elim (fun h => absurd h.1 (nn rfl)) (fun q => q.elim (fun h => absurd h.1 (nn rfl)) (fun q => q.elim (fun h => absurd h.1 (nn rfl)) (fun q => q.elim (fun h => absurd h.1 (nn rfl)) (fun q => q.elim (fun h => absurd h.1 (nn rfl)) (fun q => q.elim (fun h => absurd h (nn rfl)) (fun q => q.elim (fun h => absurd h (nn rfl)) (fun h => absurd h (nn rfl))))))))))))).trans (hH j)) ((nx_tr hU (by omega) (by omega)).trans ((nx_z (by omega)))) ((ln_tr hU (by omega) (by omega)).trans (rfl)) ((wv_tr hU (by omega) (by omega) (fun j h1 h2 => ⟨(ln_in (e := e1) (a := (nx F e1 a)) h1 (by omega)).1, (ln_in (e := e1) (a := (nx F e1 a)) h1 (by omega)).2.1⟩)).trans (rfl)) (fun c_940 hI_941 hF_942 hz_943 => ?_))
              refine bk_inl ?_
              refine q_istore_n rfl (by decide) ?_
              refine q_iload_n rfl rfl ?_
              refine q_call rfl rfl rfl rfl ?_
              refine q_iload_n rfl rfl ?_
              refine q_ldc_s rfl rfl rfl (by decide) ?_
              refine q_call rfl rfl rfl rfl (s_158_16 ?_)
              refine bk_inl ?_
              refine v_ic_eq_f (t := 36) rfl (by decide) (by omega) ?_
              refine q_iload_n rfl rfl ?_
              refine q_ldc_s rfl rfl rfl (by decide) ?_
              refine q_call rfl rfl rfl rfl (s_158_17 ?_)
              refine bk_inl ?_
              refine v_ic_eq_f (t := 36) rfl (by decide) (by omega) ?_
              refine q_iload_n rfl rfl ?_
              refine q_ldc_s rfl rfl rfl (by decide) ?_
              refine q_call rfl rfl rfl rfl (s_158_18 ?_)
              refine bk_inl ?_
              refine v_ic_eq_t (t := 36) rfl (by decide) (by omega) ?_
              refine q_iconst rfl ?_
              refine q_goto (t := 41) rfl (by decide) ?_
              refine v_zret rfl rfl (by decide) ?_
              refine bk_inl ?_
              refine v_if_ne_t (t := 82) rfl (by decide) (by decide) ?_
              refine q_iload_n rfl rfl ?_
              refine v_bip rfl (by decide) ?_
              refine v_ic_eq_f (t := 96) rfl (by decide) (by omega) ?_
              refine q_aload_n rfl rfl ?_
              refine q_iload_n rfl rfl ?_
              refine v_cv rfl rfl rfl rfl (by decide) ⟨⟨rfl, rfl⟩, by decide, rfl⟩ (Nat.le_of_ble_eq_true rfl) (Nat.le_of_ble_eq_true rfl) ?_
              refine q_iload_n rfl rfl ?_
              refine q_ldc_s rfl rfl rfl (by decide) ?_
              refine q_call rfl rfl rfl rfl (s_158_16 ?_)
              refine bk_inl ?_
              refine v_ic_ne_t (t := 26) rfl (by decide) (by omega) ?_
              refine q_iload_n rfl rfl ?_
              refine q_ldc_s rfl rfl rfl (by decide) ?_
              refine q_call rfl rfl rfl rfl (s_158_17 ?_)
              refine bk_inl ?_
              refine v_ic_ne_t (t := 51) rfl (by decide) (by omega) ?_
              refine q_iload_n rfl rfl ?_
              refine q_ldc_s rfl rfl rfl (by decide) ?_
              refine q_call rfl rfl rfl rfl (s_158_18 ?_)
              refine bk_inl ?_
              refine v_ic_ne_f (t := 72) rfl (by decide) (by omega) ?_
              refine q_aload_n rfl rfl ?_
              have kn_944 : Hid (c_933 41 18 = si) := (hF_935 41 18 (fun h => absurd h.2 (ni rfl))).trans (hr_si)
              have kn_945 : Hid (c_940 41 18 = si) := (hF_942 41 18 (fun h => absurd h.2 (ni rfl))).trans (hid kn_944)
              refine v_gi (z := 18) (v := si) rfl rfl rfl (by decide) rfl rfl (hid kn_945) ?_
              refine q_iconst rfl ?_
              refine v_ic_ne_f (t := 72) rfl (by decide) (by omega) ?_
              refine q_iconst rfl ?_
              refine q_goto (t := 73) rfl (by decide) ?_
              refine v_zret rfl rfl (by decide) ?_
              refine bk_inl ?_
              refine v_if_eq_f (t := 105) rfl (by decide) (by decide) ?_
              refine q_aload_n rfl rfl ?_
              refine q_iconst rfl ?_
              refine q_aload_n rfl rfl ?_
              refine v_gi (z := 4) (v := (nx F e1 a)) rfl rfl rfl (by decide) rfl rfl (hz_943) ?_
              refine v_cv rfl rfl rfl rfl (by decide) ⟨⟨rfl, rfl⟩, by decide, rfl⟩ (Nat.le_of_ble_eq_true rfl) (Nat.le_of_ble_eq_true rfl) ?_
              refine q_aload_n rfl rfl ?_
              have kn_946 : Hid (c_933 41 5 = (-1)) := (hF_935 41 5 (fun h => absurd h.2 (ni rfl))).trans (hc_1)
              have kn_947 : Hid (c_940 41 5 = (-1)) := (hF_942 41 5 (fun h => absurd h.2 (ni rfl))).trans (hid kn_946)
              refine v_gi (z := 5) (v := (-1)) rfl rfl rfl (by decide) rfl rfl (hid kn_947) ?_
              refine q_iconst rfl ?_
              refine v_ic_eq_t (t := 9) rfl (by decide) (by decide) ?_
              refine q_aload_n rfl rfl ?_
              refine q_iload_n rfl rfl ?_
              refine v_pi (z := 5) rfl rfl rfl (by decide) rfl rfl rfl (by decide) ?_
              refine q_aload_n rfl rfl ?_
              refine q_iload_n rfl rfl ?_
              refine v_pi (z := 6) rfl rfl rfl (by decide) rfl rfl rfl (by decide) ?_
              refine q_vret rfl rfl ?_
              refine bk_inl ?_
              refine q_aload_n rfl rfl ?_
              refine v_cv rfl rfl rfl rfl (by decide) ⟨⟨rfl, rfl⟩, by decide, rfl⟩ (Nat.le_of_ble_eq_true rfl) (Nat.le_of_ble_eq_true rfl) ?_
              refine q_aload_n rfl rfl ?_
              refine v_gi (z := 5) (v := (nx F e1 a)) rfl rfl rfl (by decide) rfl rfl ((up_n (by decide)).trans (up_e rfl)) ?_
              refine q_iconst rfl ?_
              refine v_ic_ne_t (t := 12) rfl (by decide) (by omega) ?_
              refine q_iconst rfl ?_
              refine v_zret rfl rfl (by decide) ?_
              refine bk_inl ?_
              refine v_if_ne_f (t := 115) rfl (by decide) (by decide) ?_
              refine q_goto (t := 136) rfl (by decide) ?_
              refine Wp_ls [(0, .ref 41), (1, vi a1)] (lsub_cons rfl (lsub_cons rfl lsub_nil)) ?_
              have hI_948 := iw_41_5 (v := (nx F e1 a)) hI_941 ⟨by omega, by omega⟩
              have hI_949 := iw_41_6 (v := 3) hI_948 ⟨by decide, by decide⟩
              have h_950 : (up (up c_940 41 5 (nx F e1 a)) 41 6 3) 41 5 = (nx F e1 a) := ((up_n (by decide)).trans (up_e rfl))
              have h_951 : (up (up c_940 41 5 (nx F e1 a)) 41 6 3) 41 4 = (nx F e1 a) := ((up_n (by decide)).trans ((up_n (by decide)).trans (hz_943)))
              have h_952 : (up (up c_940 41 5 (nx F e1 a)) 41 6 3) 41 6 = 3 := (up_e rfl)
              have kn_953 : Hid (c_933 41 16 = jr) := (hF_935 41 16 (fun h => absurd h.2 (ni rfl))).trans (hr_jr)
              have kn_954 : Hid (c_940 41 16 = jr) := (hF_942 41 16 (fun h => absurd h.2 (ni rfl))).trans (hid kn_953)
              have h_955 : (up (up c_940 41 5 (nx F e1 a)) 41 6 3) 41 16 = jr := ((up_n (by decide)).trans ((up_n (by decide)).trans (hid kn_954)))
              exact K (up (up c_940 41 5 (nx F e1 a)) 41 6 3)  hI_949 (fun a j hm => (up_b (Decidable.or_iff_not_imp_left.mpr (fun h1 h2 => hm (Or.inr (Or.inr (Or.inl ⟨Decidable.not_not.mp h1, h2⟩)))))).trans ((up_b (Decidable.or_iff_not_imp_left.mpr (fun h1 h2 => hm (Or.inr (Or.inl ⟨Decidable.not_not.mp h1, h2⟩))))).trans ((hF_942 a j (fun h => hm (Or.inl h))).trans ((hF_935 a j (fun h => hm (Or.inl h))).trans (hFc a j (fun q => q.elim (fun h => hm (Or.inl h)) (fun q => q.elim (fun h => hm (Or.inr (Or.inl h))) (fun q => q.elim (fun h => hm (Or.inr (Or.inr (Or.inl h)))) (fun q => q.elim (fun h => hm (Or.inr (Or.inr (Or.inr (Or.inl h))))) (fun q => q.elim (fun h => hm (Or.inr (Or.inr (Or.inr (Or.inr (Or.inl h)))))) (fun q => q.elim (fun h => hm (Or.inr (Or.inr (Or.inr (Or.inr (Or.inr (Or.inl h))))))) (fun q => q.elim (fun h => hm (Or.inr (Or.inr (Or.inr (Or.inr (Or.inr (Or.inr (Or.inl h)))))))) (fun q => q.elim (fun h => hm (Or.inr (Or.inr (Or.inr (Or.inr (Or.inr (Or.inr (Or.inr (Or.inl h))))))))) (fun q => q.elim (fun h => hm (Or.inr (Or.inr (Or.inr (Or.inr (Or.inr (Or.inr (Or.inr (Or.inr (Or.inl h)))))))))) (fun h => hm (Or.inr (Or.inr (Or.inr (Or.inr (Or.inr (Or.inr (Or.inr (Or.inr (Or.inr h)))))))))))))))))))))))) (by unfold Rt; omega) (by omega)
          refine v_tsw_o (t := 71) rfl (by omega) (by decide) ?_
          refine q_iconst rfl ?_
          refine v_zret rfl rfl (by decide) ?_
          refine bk_inl ?_
          refine v_if_eq_t (t := 59) rfl (by decide) (by decide) ?_
          refine q_aload_n rfl rfl ?_
          refine v_cv rfl rfl rfl rfl (by decide) ⟨⟨rfl, rfl⟩, by decide, rfl⟩ (Nat.le_of_ble_eq_true rfl) (Nat.le_of_ble_eq_true rfl) ?_
          refine q_aload_n rfl rfl ?_
          refine v_gi (z := 4) (v := 0) rfl rfl rfl (by decide) rfl rfl (hz_91) ?_
          refine v_if_ne_f (t := 11) rfl (by decide) (by decide) ?_
          refine q_iconst rfl ?_
          refine q_goto (t := 12) rfl (by decide) ?_
          refine v_zret rfl rfl (by decide) ?_
          refine bk_inl ?_
          refine v_if_eq_f (t := 73) rfl (by decide) (by decide) ?_
          refine q_aload_n rfl rfl ?_
          refine q_aload_n rfl rfl ?_
          refine q_iload rfl rfl ?_
          have hw_956 : (wd8_0 F (nx F e1 a) (ln F e1 (nx F e1 a))) = 3 := by omega
          rw [hw_956]
          have kn_957 : Hid (c_24 A 0 = jr) := (hF_26 A 0 (fun h => absurd h.1 (np0 hA rfl))).trans (hg_jr)
          have kn_958 : Hid (c_60 A 0 = jr) := (hF_62 A 0 (fun h => absurd h.1 (np0 hA rfl))).trans (hid kn_957)
          have kn_959 : Hid (c_85 A 0 = jr) := (hF_87 A 0 (fun q => q.elim (fun h => absurd h.1 (np0 hA rfl)) (fun q => q.elim (fun h => absurd h.1 (np0 hA rfl)) (fun h => absurd h.1 (np0 hA rfl))))).trans (hid kn_958)
          have h_960 : c_85 A 0 = jr := (hid kn_959)
          have kn_961 : Hid (c_24 A 1 = st) := (hF_26 A 1 (fun h => absurd h.1 (np0 hA rfl))).trans (hg_st)
          have kn_962 : Hid (c_60 A 1 = st) := (hF_62 A 1 (fun h => absurd h.1 (np0 hA rfl))).trans (hid kn_961)
          have kn_963 : Hid (c_85 A 1 = st) := (hF_87 A 1 (fun q => q.elim (fun h => absurd h.1 (np0 hA rfl)) (fun q => q.elim (fun h => absurd h.1 (np0 hA rfl)) (fun h => absurd h.1 (np0 hA rfl))))).trans (hid kn_962)
          have h_964 : c_85 A 1 = st := (hid kn_963)
          have kn_965 : Hid (c_24 A 2 = si) := (hF_26 A 2 (fun h => absurd h.1 (np0 hA rfl))).trans (hg_si)
          have kn_966 : Hid (c_60 A 2 = si) := (hF_62 A 2 (fun h => absurd h.1 (np0 hA rfl))).trans (hid kn_965)
          have kn_967 : Hid (c_85 A 2 = si) := (hF_87 A 2 (fun q => q.elim (fun h => absurd h.1 (np0 hA rfl)) (fun q => q.elim (fun h => absurd h.1 (np0 hA rfl)) (fun h => absurd h.1 (np0 hA rfl))))).trans (hid kn_966)
          have h_968 : c_85 A 2 = si := (hid kn_967)
          refine v_cv rfl rfl rfl (ck_p0 hA) (by omega) ⟨⟨rfl, rfl⟩, by decide, rfl⟩ (Nat.le_of_ble_eq_true rfl) (Nat.le_of_ble_eq_true rfl) (fn_of (s_33 (a2 := 3) hI_86 hA (show 0 ≤ 3 ∧ 3 ≤ 100 from by omega) (by omega) (by omega) (by omega) (fun c_969 hI_970 hF_971 => ?_)))
          intro hG_972
          refine bk_inl ?_
          refine q_aload_n rfl rfl ?_
          refine q_ldc_s rfl rfl rfl (by decide) ?_
          have h_973 := ir_1_4 hI_970
          refine v_cv rfl rfl rfl rfl (by decide) ⟨⟨rfl, rfl⟩, by decide, rfl⟩ (Nat.le_of_ble_eq_true rfl) (Nat.le_of_ble_eq_true rfl) (fn_of (s_11 hI_970 (q := 9) (nt := 1) (by decide) (by decide) (by decide) (fun c_974 hI_975 hF_976 => ?_)))
          intro hG_977
          refine bk_inl ?_
          refine v_iinc (v := v + 1) rfl rfl (by decide) (by omega) ?_
          refine q_goto (t := 6) rfl (by decide) ?_
          have h_978 := ir_1_4 hI_975
          by_cases h_979 : c_974 1 4 = 0
          · skip
            refine Wp_ls [(0, .ref A), (1, .ref 1), (2, vi (v + 1))] (lsub_cons rfl (lsub_cons rfl (lsub_cons rfl lsub_nil))) ?_
            refine gh_stop (s_34_l (sc := sc) (d := dh + 18) (c := c_974) (Z := fun _ => True) hI_975 hA (fun _ _ _ => trivial) 124 c_974 (v + 1) hI_975 (fun a j hm => rfl) ⟨by omega, by omega⟩ (by omega)) (fun hG_980 => ?_)
            refine q_aload_n rfl rfl ?_
            refine v_cv rfl rfl rfl rfl (by decide) ⟨⟨rfl, rfl⟩, by decide, rfl⟩ (Nat.le_of_ble_eq_true rfl) (Nat.le_of_ble_eq_true rfl) ?_
            refine q_aload_n rfl rfl ?_
            refine v_gi (z := 5) (v := (-1)) rfl rfl rfl (by decide) rfl rfl (hc_1) ?_
            refine q_iconst rfl ?_
            refine v_ic_ne_f (t := 12) rfl (by decide) (by decide) ?_
            refine q_iconst rfl ?_
            refine q_goto (t := 13) rfl (by decide) ?_
            refine v_zret rfl rfl (by decide) ?_
            refine bk_inl ?_
            refine v_if_eq_f (t := 136) rfl (by decide) (by decide) ?_
            refine q_aload_n rfl rfl ?_
            refine v_cv rfl rfl rfl rfl (by decide) ⟨⟨rfl, rfl⟩, by decide, rfl⟩ (Nat.le_of_ble_eq_true rfl) (Nat.le_of_ble_eq_true rfl) ?_
            refine q_aload_n rfl rfl ?_
            have kn_981 : Hid (c2 41 3 = e1) := (hFc 41 3 (fun q => q.elim (fun h => absurd h.2 (ni rfl)) (fun q => q.elim (fun h => absurd h.2 (ni rfl)) (fun q => q.elim (fun h => absurd h.2 (ni rfl)) (fun q => q.elim (fun h => absurd h.2 (ni rfl)) (fun q => q.elim (fun h => absurd h.2 (ni rfl)) (fun q => q.elim (fun h => absurd h.2 (ni rfl)) (fun q => q.elim (fun h => absurd h.2 (ni rfl)) (fun q => q.elim (fun h => absurd h (nn rfl)) (fun q => q.elim (fun h => absurd h (nn rfl)) (fun h => absurd h (nn rfl)))))))))))).trans (hr_e1)
            have h_982 : -2147483648 ≤ (H (nx F e1 a)) ∧ (H (nx F e1 a)) ≤ 2147483647 := by rw [← hH (nx F e1 a)]; exact ir_43 hI (nx F e1 a)
            have h_983 := hU (nx F e1 a) (by omega) (by omega)
            have h_984 := hb_or (b := H) (e := e1) (r := (nx F e1 a))
            have h_985 := hb_bd (b := H) (e := e1) (r := (nx F e1 a)) (lo := -2147483648) (hi := 2147483647) ⟨by omega, by omega⟩ (by decide)
            refine v_cv rfl rfl rfl rfl (by decide) ⟨⟨rfl, rfl⟩, by decide, rfl⟩ (Nat.le_of_ble_eq_true rfl) (Nat.le_of_ble_eq_true rfl) (f_154 (e1 := e1) (a9 := a) (B := H) (r8 := (nx F e1 a)) (r := (hb H e1 (nx F e1 a))) hI2 ((hid kn_981)) ((hr_a)) (fun j => (hFc 43 j (fun q => q.elim (fun h => absurd h.1 (nn rfl)) (fun q => q.elim (fun h => absurd h.1 (nn rfl)) (fun q => q.elim (fun h => absurd h.1 (nn rfl)) (fun q => q.elim (fun h => absurd h.1 (nn rfl)) (fun q => q.elim (fun h => absurd h.1 (nn rfl)) (fun q => q.elim (fun h => absurd h.1 (nn rfl)) (fun q => q.elim (fun h => absurd h.1 (nn rfl)) (fun q => q.elim (fun h => absurd h (nn rfl)) (fun q => q.elim (fun h => absurd h (nn rfl)) (fun h => absurd h (nn rfl)))))))))))).trans (hH j)) ((nx_tr hU (by omega) (by omega)).trans (rfl)) rfl (fun c_986 hI_987 hF_988 h_989 => ?_))
            refine bk_inl ?_
            refine q_pop rfl rfl ?_
            refine q_aload_n rfl rfl ?_
            refine v_gi (z := 4) (v := (nx F e1 a)) rfl rfl rfl (by decide) rfl rfl (h_989) ?_
            refine q_aload_n rfl rfl ?_
            have kn_990 : Hid (c_986 41 3 = e1) := (hF_988 41 3 (fun h => absurd h.2 (ni rfl))).trans (hid kn_981)
            refine v_gi (z := 3) (v := e1) rfl rfl rfl (by decide) rfl rfl (hid kn_990) ?_
            refine v_ic_ge_f (t := 20) rfl (by decide) (by omega) ?_
            refine q_iconst rfl ?_
            refine q_goto (t := 21) rfl (by decide) ?_
            refine v_zret rfl rfl (by decide) ?_
            refine bk_inl ?_
            refine v_if_eq_f (t := 136) rfl (by decide) (by decide) ?_
            refine q_aload_n rfl rfl ?_
            have h_991 := wv_bd (b := F) (r := (nx F e1 a)) (l := (ln F e1 (nx F e1 a))) (fun j h1 h2 => ⟨(ln_in (e := e1) (a := (nx F e1 a)) h1 (by omega)).1, (ln_in (e := e1) (a := (nx F e1 a)) h1 (by omega)).2.1⟩)
            have h_992 := wr8_3 (b := F) (r := (nx F e1 a)) (l := (ln F e1 (nx F e1 a))) (by omega) (fun j h1 h2 => ⟨(ln_in (e := e1) (a := (nx F e1 a)) h1 (by omega)).1, (ln_in (e := e1) (a := (nx F e1 a)) h1 (by omega)).2.1⟩) (by omega)
            refine v_cv rfl rfl rfl rfl (by decide) ⟨⟨rfl, rfl⟩, by decide, rfl⟩ (Nat.le_of_ble_eq_true rfl) (Nat.le_of_ble_eq_true rfl) (f_157 (e1 := e1) (a9 := (nx F e1 a)) (B := H) (r8 := (nx F e1 a)) (L8 := (ln F e1 (nx F e1 a))) (W8 := (wv F (nx F e1 a) (ln F e1 (nx F e1 a)))) hI_987 ((hid kn_990)) ((h_989)) (fun j => ((hF_988 43 j (fun h => absurd h.1 (nn rfl))).trans (hFc 43 j (fun q => q.elim (fun h => absurd h.1 (nn rfl)) (fun q => q.elim (fun h => absurd h.1 (nn rfl)) (fun q => q.elim (fun h => absurd h.1 (nn rfl)) (fun q => q.elim (fun h => absurd h.1 (nn rfl)) (fun q => q.elim (fun h => absurd h.1 (nn rfl)) (fun q => q.elim (fun h => absurd h.1 (nn rfl)) (fun q => q.elim (fun h => absurd h.1 (nn rfl)) (fun q => q.elim (fun h => absurd h (nn rfl)) (fun q => q.elim (fun h => absurd h (nn rfl)) (fun h => absurd h (nn rfl))))))))))))).trans (hH j)) ((nx_tr hU (by omega) (by omega)).trans ((nx_z (by omega)))) ((ln_tr hU (by omega) (by omega)).trans (rfl)) ((wv_tr hU (by omega) (by omega) (fun j h1 h2 => ⟨(ln_in (e := e1) (a := (nx F e1 a)) h1 (by omega)).1, (ln_in (e := e1) (a := (nx F e1 a)) h1 (by omega)).2.1⟩)).trans (rfl)) (fun c_993 hI_994 hF_995 hz_996 => ?_))
            refine bk_inl ?_
            refine q_istore_n rfl (by decide) ?_
            refine q_iload_n rfl rfl ?_
            refine q_call rfl rfl rfl rfl ?_
            refine q_iload_n rfl rfl ?_
            refine q_ldc_s rfl rfl rfl (by decide) ?_
            refine q_call rfl rfl rfl rfl (s_158_16 ?_)
            refine bk_inl ?_
            refine v_ic_eq_f (t := 36) rfl (by decide) (by omega) ?_
            refine q_iload_n rfl rfl ?_
            refine q_ldc_s rfl rfl rfl (by decide) ?_
            refine q_call rfl rfl rfl rfl (s_158_17 ?_)
            refine bk_inl ?_
            refine v_ic_eq_f (t := 36) rfl (by decide) (by omega) ?_
            refine q_iload_n rfl rfl ?_
            refine q_ldc_s rfl rfl rfl (by decide) ?_
            refine q_call rfl rfl rfl rfl (s_158_18 ?_)
            refine bk_inl ?_
            refine v_ic_eq_f (t := 36) rfl (by decide) (by omega) ?_
            refine q_iload_n rfl rfl ?_
            refine q_ldc_s rfl rfl rfl (by decide) ?_
            refine q_call rfl rfl rfl rfl (s_158_19 ?_)
            refine bk_inl ?_
            refine v_ic_ne_f (t := 40) rfl (by decide) (by omega) ?_
            refine q_iconst rfl ?_
            refine q_goto (t := 41) rfl (by decide) ?_
            refine v_zret rfl rfl (by decide) ?_
            refine bk_inl ?_
            refine v_if_ne_t (t := 82) rfl (by decide) (by decide) ?_
            refine q_iload_n rfl rfl ?_
            refine v_bip rfl (by decide) ?_
            refine v_ic_eq_f (t := 96) rfl (by decide) (by omega) ?_
            refine q_aload_n rfl rfl ?_
            refine q_iload_n rfl rfl ?_
            refine v_cv rfl rfl rfl rfl (by decide) ⟨⟨rfl, rfl⟩, by decide, rfl⟩ (Nat.le_of_ble_eq_true rfl) (Nat.le_of_ble_eq_true rfl) ?_
            refine q_iload_n rfl rfl ?_
            refine q_ldc_s rfl rfl rfl (by decide) ?_
            refine q_call rfl rfl rfl rfl (s_158_16 ?_)
            refine bk_inl ?_
            refine v_ic_ne_t (t := 26) rfl (by decide) (by omega) ?_
            refine q_iload_n rfl rfl ?_
            refine q_ldc_s rfl rfl rfl (by decide) ?_
            refine q_call rfl rfl rfl rfl (s_158_17 ?_)
            refine bk_inl ?_
            refine v_ic_ne_t (t := 51) rfl (by decide) (by omega) ?_
            refine q_iload_n rfl rfl ?_
            refine q_ldc_s rfl rfl rfl (by decide) ?_
            refine q_call rfl rfl rfl rfl (s_158_18 ?_)
            refine bk_inl ?_
            refine v_ic_ne_t (t := 72) rfl (by decide) (by omega) ?_
            refine q_iconst rfl ?_
            refine v_zret rfl rfl (by decide) ?_
            refine bk_inl ?_
            refine v_if_eq_t (t := 105) rfl (by decide) (by decide) ?_
            refine q_aload_n rfl rfl ?_
            refine v_cv rfl rfl rfl rfl (by decide) ⟨⟨rfl, rfl⟩, by decide, rfl⟩ (Nat.le_of_ble_eq_true rfl) (Nat.le_of_ble_eq_true rfl) ?_
            refine q_aload_n rfl rfl ?_
            have kn_997 : Hid (c_986 41 5 = (-1)) := (hF_988 41 5 (fun h => absurd h.2 (ni rfl))).trans (hc_1)
            have kn_998 : Hid (c_993 41 5 = (-1)) := (hF_995 41 5 (fun h => absurd h.2 (ni rfl))).trans (hid kn_997)
            refine v_gi (z := 5) (v := (-1)) rfl rfl rfl (by decide) rfl rfl (hid kn_998) ?_
            refine q_iconst rfl ?_
            refine v_ic_ne_f (t := 12) rfl (by decide) (by decide) ?_
            refine q_iconst rfl ?_
            refine q_goto (t := 13) rfl (by decide) ?_
            refine v_zret rfl rfl (by decide) ?_
            refine bk_inl ?_
            refine v_if_ne_t (t := 115) rfl (by decide) (by decide) ?_
            refine q_aload_n rfl rfl ?_
            have kn_999 : Hid (c_993 41 3 = e1) := (hF_995 41 3 (fun h => absurd h.2 (ni rfl))).trans (hid kn_990)
            refine v_cv rfl rfl rfl rfl (by decide) ⟨⟨rfl, rfl⟩, by decide, rfl⟩ (Nat.le_of_ble_eq_true rfl) (Nat.le_of_ble_eq_true rfl) (f_159 (e1 := e1) (a9 := (nx F e1 a)) (B := H) (L8 := (ln F e1 (nx F e1 a))) hI_994 ((hid kn_999)) ((hz_996)) (fun j => ((hF_995 43 j (fun h => absurd h.1 (nn rfl))).trans ((hF_988 43 j (fun h => absurd h.1 (nn rfl))).trans (hFc 43 j (fun q => q.elim (fun h => absurd h.1 (nn rfl)) (fun q => q.elim (fun h => absurd h.1 (nn rfl)) (fun q => q.elim (fun h => absurd h.1 (nn rfl)) (fun q => q.elim (fun h => absurd h.1 (nn rfl)) (fun q => q.elim (fun h => absurd h.1 (nn rfl)) (fun q => q.elim (fun h => absurd h.1 (nn rfl)) (fun q => q.elim (fun h => absurd h.1 (nn rfl)) (fun q => q.elim (fun h => absurd h (nn rfl)) (fun q => q.elim (fun h => absurd h (nn rfl)) (fun h => absurd h (nn rfl)))))))))))))).trans (hH j)) ((ln_tr hU (by omega) (by omega)).trans (rfl)) (fun c_1000 hI_1001 hF_1002 hz_1003 => ?_))
            refine bk_inl ?_
            refine q_aload_n rfl rfl ?_
            refine q_iload_n rfl rfl ?_
            have hw_1004 : (wv F (nx F e1 a) (ln F e1 (nx F e1 a))) = 153204 := by omega
            rw [hw_1004]
            have kn_1005 : Hid (c_85 1 1 = e1) := (hF_87 1 1 (fun q => q.elim (fun h => absurd h.2 (ni rfl)) (fun q => q.elim (fun h => absurd h.2 (ni rfl)) (fun h => absurd h.2 (ni rfl))))).trans (hid kn_64)
            have kn_1006 : Hid (c_1000 41 3 = e1) := (hF_1002 41 3 (fun h => absurd h.2 (ni rfl))).trans (hid kn_999)
            have kn_1007 : Hid (c_986 41 16 = jr) := (hF_988 41 16 (fun h => absurd h.2 (ni rfl))).trans (hr_jr)
            have kn_1008 : Hid (c_993 41 16 = jr) := (hF_995 41 16 (fun h => absurd h.2 (ni rfl))).trans (hid kn_1007)
            have kn_1009 : Hid (c_1000 41 16 = jr) := (hF_1002 41 16 (fun h => absurd h.2 (ni rfl))).trans (hid kn_1008)
            have kn_1010 : Hid (c_986 41 17 = st) := (hF_988 41 17 (fun h => absurd h.2 (ni rfl))).trans (hr_st)
            have kn_1011 : Hid (c_993 41 17 = st) := (hF_995 41 17 (fun h => absurd h.2 (ni rfl))).trans (hid kn_1010)
            have kn_1012 : Hid (c_1000 41 17 = st) := (hF_1002 41 17 (fun h => absurd h.2 (ni rfl))).trans (hid kn_1011)
            have kn_1013 : Hid (c_986 41 18 = si) := (hF_988 41 18 (fun h => absurd h.2 (ni rfl))).trans (hr_si)
            have kn_1014 : Hid (c_993 41 18 = si) := (hF_995 41 18 (fun h => absurd h.2 (ni rfl))).trans (hid kn_1013)
            have kn_1015 : Hid (c_1000 41 18 = si) := (hF_1002 41 18 (fun h => absurd h.2 (ni rfl))).trans (hid kn_1014)
            have h_1016 : c_85 1 4 = 0 := (hz_91)
            have h_1017 : c_85 1 2 = (ln F e1 (nx F e1 a)) := (hz_90)
            have h_1018 : c_85 1 5 = (-1) := (hz_92)
            have kn_1019 : Hid (c_1000 41 5 = (-1)) := (hF_1002 41 5 (fun h => absurd h.2 (ni rfl))).trans (hid kn_998)
            have h_1020 : c_1000 41 5 = (-1) := (hid kn_1019)
            have h_1021 : c_1000 41 4 = (ln F e1 (nx F e1 a)) := (hz_1003)
            have h_1022 := ir_41_6 hI2
            have kn_1023 : Hid (c_986 41 6 = c2 41 6) := hF_988 41 6 (fun h => absurd h.2 (ni rfl))
            have kn_1024 : Hid (c_993 41 6 = c2 41 6) := (hF_995 41 6 (fun h => absurd h.2 (ni rfl))).trans (hid kn_1023)
            have kn_1025 : Hid (c_1000 41 6 = c2 41 6) := (hF_1002 41 6 (fun h => absurd h.2 (ni rfl))).trans (hid kn_1024)
            have h_1026 : c_1000 41 6 = c2 41 6 := (hid kn_1025)
            refine v_cv rfl rfl rfl rfl (by decide) ⟨⟨rfl, rfl⟩, by decide, rfl⟩ (Nat.le_of_ble_eq_true rfl) (Nat.le_of_ble_eq_true rfl) (L_33_3 (m := c_85) (e1 := e1) (jr := jr) (st := st) (si := si) (F := F) (H := H) hI_1001 hI_86 hI_970 hA ((hid kn_1005)) ((hid kn_1006)) ((hid kn_959)) ((hid kn_1009)) ((hid kn_963)) ((hid kn_1012)) ((hid kn_967)) ((hid kn_1015)) (fun j => ((hF_87 2 j (fun q => q.elim (fun h => absurd h.1 (nn rfl)) (fun q => q.elim (fun h => absurd h.1 (nn rfl)) (fun h => absurd h.1 (nn rfl))))).trans ((hF_62 2 j (fun h => absurd h.1 (nn rfl))).trans ((hF_26 2 j (fun h => absurd h.1 (nn rfl))).trans (hFm 2 j (fun q => q.elim (fun h => absurd h.1 (nn rfl)) (fun q => q.elim (fun h => absurd h.1 (nn rfl)) (fun q => q.elim (fun h => absurd h.1 (nn rfl)) (fun q => q.elim (fun h => absurd h.1 (pn0 hA rfl)) (fun q => q.elim (fun h => absurd h.1 (pn0 hA rfl)) (fun q => q.elim (fun h => absurd h.1 (pn0 hA rfl)) (fun q => q.elim (fun h => absurd h.1 (pn0 hA rfl)) (fun q => q.elim (fun h => absurd h (pn hA rfl rfl)) (fun q => q.elim (fun h => absurd h (pn hA rfl rfl)) (fun q => q.elim (fun h => absurd h (pn hA rfl rfl)) (fun q => q.elim (fun h => absurd h.1 (pn0 hA rfl)) (fun q => q.elim (fun h => absurd h.1 (pn0 hA rfl)) (fun q => q.elim (fun h => absurd h (pn hA rfl rfl)) (fun h => absurd h.1 (pn hA rfl rfl))))))))))))))))))).trans (hF j)) (fun j => ((hF_1002 43 j (fun h => absurd h.1 (nn rfl))).trans ((hF_995 43 j (fun h => absurd h.1 (nn rfl))).trans ((hF_988 43 j (fun h => absurd h.1 (nn rfl))).trans (hFc 43 j (fun q => q.elim (fun h => absurd h.1 (nn rfl)) (fun q => q.elim (fun h => absurd h.1 (nn rfl)) (fun q => q.elim (fun h => absurd h.1 (nn rfl)) (fun q => q.elim (fun h => absurd h.1 (nn rfl)) (fun q => q.elim (fun h => absurd h.1 (nn rfl)) (fun q => q.elim (fun h => absurd h.1 (nn rfl)) (fun q => q.elim (fun h => absurd h.1 (nn rfl)) (fun q => q.elim (fun h => absurd h (nn rfl)) (fun q => q.elim (fun h => absurd h (nn rfl)) (fun h => absurd h (nn rfl))))))))))))))).trans (hH j)) hU (by unfold Rt; omega) hG_972 (fun c_1027 hI_1028 hF_1029 hR_1031 h_1032 h_1033 h_1034 => ?_))
            refine bk_inl ?_
            have h_1035 := ir_41_16 hI_1028
            have h_1036 := ir_p0_0 hI_970 hA
            have h_1037 := ir_41_17 hI_1028
            have h_1038 := ir_p0_1 hI_970 hA
            have h_1039 := ir_41_18 hI_1028
            have h_1040 := ir_p0_2 hI_970 hA
            refine q_aload_n rfl rfl ?_
            refine v_bip rfl (by decide) ?_
            have kn_1041 : Hid (c_969 1 1 = e1) := (hF_971 1 1 (fun q => q.elim (fun h => absurd h.2 (ni rfl)) (fun q => q.elim (fun h => absurd h.2 (ni rfl)) (fun q => q.elim (fun h => absurd h.2 (ni rfl)) (fun q => q.elim (fun h => absurd h.1 (pn0 hA rfl)) (fun q => q.elim (fun h => absurd h.1 (pn0 hA rfl)) (fun q => q.elim (fun h => absurd h.1 (pn0 hA rfl)) (fun q => q.elim (fun h => absurd h.1 (pn0 hA rfl)) (fun q => q.elim (fun h => absurd h (pn hA rfl rfl)) (fun q => q.elim (fun h => absurd h (pn hA rfl rfl)) (fun h => absurd h (pn hA rfl rfl)))))))))))).trans (hid kn_1005)
            have kn_1042 : Hid (c_1027 41 3 = e1) := (hF_1029 41 3 (fun q => q.elim (fun h => absurd h.2 (ni rfl)) (fun q => q.elim (fun h => absurd h.2 (ni rfl)) (fun q => q.elim (fun h => absurd h.2 (ni rfl)) (fun q => q.elim (fun h => absurd h.2 (ni rfl)) (fun q => q.elim (fun h => absurd h.2 (ni rfl)) (fun q => q.elim (fun h => absurd h.2 (ni rfl)) (fun q => q.elim (fun h => absurd h.2 (ni rfl)) (fun q => q.elim (fun h => absurd h (nn rfl)) (fun q => q.elim (fun h => absurd h (nn rfl)) (fun h => absurd h (nn rfl)))))))))))).trans (hid kn_1006)
            have h_1043 := ir_1_2 hI_970
            refine v_cv rfl rfl rfl rfl (by decide) ⟨⟨rfl, rfl⟩, by decide, rfl⟩ (Nat.le_of_ble_eq_true rfl) (Nat.le_of_ble_eq_true rfl) (L_11_9 (m := c_969) (e1 := e1) (a9 := c_969 1 2) (F := F) (H := H) hI_1028 hI_970 hI_975 ((hid kn_1041)) ((hid kn_1042)) (rfl) (fun j => ((hF_971 2 j (fun q => q.elim (fun h => absurd h.1 (nn rfl)) (fun q => q.elim (fun h => absurd h.1 (nn rfl)) (fun q => q.elim (fun h => absurd h.1 (nn rfl)) (fun q => q.elim (fun h => absurd h.1 (pn0 hA rfl)) (fun q => q.elim (fun h => absurd h.1 (pn0 hA rfl)) (fun q => q.elim (fun h => absurd h.1 (pn0 hA rfl)) (fun q => q.elim (fun h => absurd h.1 (pn0 hA rfl)) (fun q => q.elim (fun h => absurd h (pn hA rfl rfl)) (fun q => q.elim (fun h => absurd h (pn hA rfl rfl)) (fun h => absurd h (pn hA rfl rfl)))))))))))).trans ((hF_87 2 j (fun q => q.elim (fun h => absurd h.1 (nn rfl)) (fun q => q.elim (fun h => absurd h.1 (nn rfl)) (fun h => absurd h.1 (nn rfl))))).trans ((hF_62 2 j (fun h => absurd h.1 (nn rfl))).trans ((hF_26 2 j (fun h => absurd h.1 (nn rfl))).trans (hFm 2 j (fun q => q.elim (fun h => absurd h.1 (nn rfl)) (fun q => q.elim (fun h => absurd h.1 (nn rfl)) (fun q => q.elim (fun h => absurd h.1 (nn rfl)) (fun q => q.elim (fun h => absurd h.1 (pn0 hA rfl)) (fun q => q.elim (fun h => absurd h.1 (pn0 hA rfl)) (fun q => q.elim (fun h => absurd h.1 (pn0 hA rfl)) (fun q => q.elim (fun h => absurd h.1 (pn0 hA rfl)) (fun q => q.elim (fun h => absurd h (pn hA rfl rfl)) (fun q => q.elim (fun h => absurd h (pn hA rfl rfl)) (fun q => q.elim (fun h => absurd h (pn hA rfl rfl)) (fun q => q.elim (fun h => absurd h.1 (pn0 hA rfl)) (fun q => q.elim (fun h => absurd h.1 (pn0 hA rfl)) (fun q => q.elim (fun h => absurd h (pn hA rfl rfl)) (fun h => absurd h.1 (pn hA rfl rfl)))))))))))))))))))).trans (hF j)) (fun j => ((hF_1029 43 j (fun q => q.elim (fun h => absurd h.1 (nn rfl)) (fun q => q.elim (fun h => absurd h.1 (nn rfl)) (fun q => q.elim (fun h => absurd h.1 (nn rfl)) (fun q => q.elim (fun h => absurd h.1 (nn rfl)) (fun q => q.elim (fun h => absurd h.1 (nn rfl)) (fun q => q.elim (fun h => absurd h.1 (nn rfl)) (fun q => q.elim (fun h => absurd h.1 (nn rfl)) (fun q => q.elim (fun h => absurd h (nn rfl)) (fun q => q.elim (fun h => absurd h (nn rfl)) (fun h => absurd h (nn rfl)))))))))))).trans ((hF_1002 43 j (fun h => absurd h.1 (nn rfl))).trans ((hF_995 43 j (fun h => absurd h.1 (nn rfl))).trans ((hF_988 43 j (fun h => absurd h.1 (nn rfl))).trans (hFc 43 j (fun q => q.elim (fun h => absurd h.1 (nn rfl)) (fun q => q.elim (fun h => absurd h.1 (nn rfl)) (fun q => q.elim (fun h => absurd h.1 (nn rfl)) (fun q => q.elim (fun h => absurd h.1 (nn rfl)) (fun q => q.elim (fun h => absurd h.1 (nn rfl)) (fun q => q.elim (fun h => absurd h.1 (nn rfl)) (fun q => q.elim (fun h => absurd h.1 (nn rfl)) (fun q => q.elim (fun h => absurd h (nn rfl)) (fun q => q.elim (fun h => absurd h (nn rfl)) (fun h => absurd h (nn rfl)))))))))))))))).trans (hH j)) hU hR_1031 hG_977 (fun c_1044 hI_1045 hF_1046 hR_1048 h_1049 => ?_))
            refine bk_inl ?_
            have h_1050 := ir_1_2 hI_975
            refine v_iinc (v := v + 1) rfl rfl (by decide) (by omega) ?_
            refine q_goto (t := 44) rfl (by decide) ?_
            refine Wp_ls [(0, .ref 41), (1, vi a1), (2, vi (v + 1))] (lsub_cons rfl (lsub_cons rfl (lsub_cons rfl lsub_nil))) ?_
            have h_1051 := ir_41_4 hI_1045
            have h_1052 := ir_1_5 hI_975
            have h_1053 := ir_41_5 hI_1045
            have h_1054 := ir_41_6 hI_1045
            have h_1055 := rt_ok hR_1048 (by omega)
            have hro_hR_1048 := rt_ok hR_1048 (by omega)
            have kn_1056 : Hid (c_974 A 0 = c_969 A 0) := hF_976 A 0 (fun q => q.elim (fun h => absurd h.1 (np0 hA rfl)) (fun q => q.elim (fun h => absurd h.1 (np0 hA rfl)) (fun h => absurd h.1 (np0 hA rfl))))
            have kn_1057 : Hid (c_1044 41 16 = c_1027 41 16) := hF_1046 41 16 (fun q => q.elim (fun h => absurd h.2 (ni rfl)) (fun q => q.elim (fun h => absurd h.2 (ni rfl)) (fun h => absurd h.2 (ni rfl))))
            have kn_1058 : Hid (c_974 A 1 = c_969 A 1) := hF_976 A 1 (fun q => q.elim (fun h => absurd h.1 (np0 hA rfl)) (fun q => q.elim (fun h => absurd h.1 (np0 hA rfl)) (fun h => absurd h.1 (np0 hA rfl))))
            have kn_1059 : Hid (c_1044 41 17 = c_1027 41 17) := hF_1046 41 17 (fun q => q.elim (fun h => absurd h.2 (ni rfl)) (fun q => q.elim (fun h => absurd h.2 (ni rfl)) (fun h => absurd h.2 (ni rfl))))
            have kn_1060 : Hid (c_974 A 2 = c_969 A 2) := hF_976 A 2 (fun q => q.elim (fun h => absurd h.1 (np0 hA rfl)) (fun q => q.elim (fun h => absurd h.1 (np0 hA rfl)) (fun h => absurd h.1 (np0 hA rfl))))
            have kn_1061 : Hid (c_1044 41 18 = c_1027 41 18) := hF_1046 41 18 (fun q => q.elim (fun h => absurd h.2 (ni rfl)) (fun q => q.elim (fun h => absurd h.2 (ni rfl)) (fun h => absurd h.2 (ni rfl))))
            exact ih c_1044 c_974 (v + 1) (c_974 1 2) (c_969 A 0) (c_969 A 1) (c_969 A 2) hI_1045 (fun a j hm => (hF_1046 a j (fun q => q.elim (fun h => hm (Or.inl h)) (fun q => q.elim (fun h => hm (Or.inr (Or.inl h))) (fun h => hm (Or.inr (Or.inr (Or.inl h))))))).trans ((hF_1029 a j (fun q => q.elim (fun h => hm (Or.inl h)) (fun q => q.elim (fun h => hm (Or.inr (Or.inl h))) (fun q => q.elim (fun h => hm (Or.inr (Or.inr (Or.inl h)))) (fun q => q.elim (fun h => hm (Or.inr (Or.inr (Or.inr (Or.inl h))))) (fun q => q.elim (fun h => hm (Or.inr (Or.inr (Or.inr (Or.inr (Or.inl h)))))) (fun q => q.elim (fun h => hm (Or.inr (Or.inr (Or.inr (Or.inr (Or.inr (Or.inl h))))))) (fun q => q.elim (fun h => hm (Or.inr (Or.inr (Or.inr (Or.inr (Or.inr (Or.inr (Or.inl h)))))))) (fun q => q.elim (fun h => hm (Or.inr (Or.inr (Or.inr (Or.inr (Or.inr (Or.inr (Or.inr (Or.inl h))))))))) (fun q => q.elim (fun h => hm (Or.inr (Or.inr (Or.inr (Or.inr (Or.inr (Or.inr (Or.inr (Or.inr (Or.inl h)))))))))) (fun h => hm (Or.inr (Or.inr (Or.inr (Or.inr (Or.inr (Or.inr (Or.inr (Or.inr (Or.inr h)))))))))))))))))))).trans ((hF_1002 a j (fun h => hm (Or.inl h))).trans ((hF_995 a j (fun h => hm (Or.inl h))).trans ((hF_988 a j (fun h => hm (Or.inl h))).trans (hFc a j (fun q => q.elim (fun h => hm (Or.inl h)) (fun q => q.elim (fun h => hm (Or.inr (Or.inl h))) (fun q => q.elim (fun h => hm (Or.inr (Or.inr (Or.inl h)))) (fun q => q.elim (fun h => hm (Or.inr (Or.inr (Or.inr (Or.inl h))))) (fun q => q.elim (fun h => hm (Or.inr (Or.inr (Or.inr (Or.inr (Or.inl h)))))) (fun q => q.elim (fun h => hm (Or.inr (Or.inr (Or.inr (Or.inr (Or.inr (Or.inl h))))))) (fun q => q.elim (fun h => hm (Or.inr (Or.inr (Or.inr (Or.inr (Or.inr (Or.inr (Or.inl h)))))))) (fun q => q.elim (fun h => hm (Or.inr (Or.inr (Or.inr (Or.inr (Or.inr (Or.inr (Or.inr (Or.inl h))))))))) (fun q => q.elim (fun h => hm (Or.inr (Or.inr (Or.inr (Or.inr (Or.inr (Or.inr (Or.inr (Or.inr (Or.inl h)))))))))) (fun h => hm (Or.inr (Or.inr (Or.inr (Or.inr (Or.inr (Or.inr (Or.inr (Or.inr (Or.inr h))))))))))))))))))))))))) hI_975 (fun a j hm => (hF_976 a j (fun q => q.elim (fun h => hm (Or.inl h)) (fun q => q.elim (fun h => hm (Or.inr (Or.inl h))) (fun h => hm (Or.inr (Or.inr (Or.inl h))))))).trans ((hF_971 a j (fun q => q.elim (fun h => hm (Or.inl h)) (fun q => q.elim (fun h => hm (Or.inr (Or.inl h))) (fun q => q.elim (fun h => hm (Or.inr (Or.inr (Or.inl h)))) (fun q => q.elim (fun h => hm (Or.inr (Or.inr (Or.inr (Or.inl h))))) (fun q => q.elim (fun h => hm (Or.inr (Or.inr (Or.inr (Or.inr (Or.inl h)))))) (fun q => q.elim (fun h => hm (Or.inr (Or.inr (Or.inr (Or.inr (Or.inr (Or.inl h))))))) (fun q => q.elim (fun h => hm (Or.inr (Or.inr (Or.inr (Or.inr (Or.inr (Or.inr (Or.inl h)))))))) (fun q => q.elim (fun h => hm (Or.inr (Or.inr (Or.inr (Or.inr (Or.inr (Or.inr (Or.inr (Or.inl h))))))))) (fun q => q.elim (fun h => hm (Or.inr (Or.inr (Or.inr (Or.inr (Or.inr (Or.inr (Or.inr (Or.inr (Or.inl h)))))))))) (fun h => hm (Or.inr (Or.inr (Or.inr (Or.inr (Or.inr (Or.inr (Or.inr (Or.inr (Or.inr (Or.inl h))))))))))))))))))))).trans ((hF_87 a j (fun q => q.elim (fun h => hm (Or.inl h)) (fun q => q.elim (fun h => hm (Or.inr (Or.inl h))) (fun h => hm (Or.inr (Or.inr (Or.inl h))))))).trans ((hF_62 a j (fun h => hm (Or.inl h))).trans ((hF_26 a j (fun h => hm (Or.inl h))).trans (hFm a j (fun q => q.elim (fun h => hm (Or.inl h)) (fun q => q.elim (fun h => hm (Or.inr (Or.inl h))) (fun q => q.elim (fun h => hm (Or.inr (Or.inr (Or.inl h)))) (fun q => q.elim (fun h => hm (Or.inr (Or.inr (Or.inr (Or.inl h))))) (fun q => q.elim (fun h => hm (Or.inr (Or.inr (Or.inr (Or.inr (Or.inl h)))))) (fun q => q.elim (fun h => hm (Or.inr (Or.inr (Or.inr (Or.inr (Or.inr (Or.inl h))))))) (fun q => q.elim (fun h => hm (Or.inr (Or.inr (Or.inr (Or.inr (Or.inr (Or.inr (Or.inl h)))))))) (fun q => q.elim (fun h => hm (Or.inr (Or.inr (Or.inr (Or.inr (Or.inr (Or.inr (Or.inr (Or.inl h))))))))) (fun q => q.elim (fun h => hm (Or.inr (Or.inr (Or.inr (Or.inr (Or.inr (Or.inr (Or.inr (Or.inr (Or.inl h)))))))))) (fun q => q.elim (fun h => hm (Or.inr (Or.inr (Or.inr (Or.inr (Or.inr (Or.inr (Or.inr (Or.inr (Or.inr (Or.inl h))))))))))) (fun q => q.elim (fun h => hm (Or.inr (Or.inr (Or.inr (Or.inr (Or.inr (Or.inr (Or.inr (Or.inr (Or.inr (Or.inr (Or.inl h)))))))))))) (fun q => q.elim (fun h => hm (Or.inr (Or.inr (Or.inr (Or.inr (Or.inr (Or.inr (Or.inr (Or.inr (Or.inr (Or.inr (Or.inr (Or.inl h))))))))))))) (fun q => q.elim (fun h => hm (Or.inr (Or.inr (Or.inr (Or.inr (Or.inr (Or.inr (Or.inr (Or.inr (Or.inr (Or.inr (Or.inr (Or.inr (Or.inl h)))))))))))))) (fun h => hm (Or.inr (Or.inr (Or.inr (Or.inr (Or.inr (Or.inr (Or.inr (Or.inr (Or.inr (Or.inr (Or.inr (Or.inr (Or.inr h))))))))))))))))))))))))))))))))) ⟨by omega, by omega⟩ ⟨by omega, by omega⟩ ⟨by omega, by omega⟩ ⟨by omega, by omega⟩ ⟨by omega, by omega⟩ (rfl) (hro_hR_1048.2.2.1) ((hid kn_1056)) ((show _ = c_1027 41 16 from (hid kn_1057)).trans (by omega)) ((hid kn_1058)) ((show _ = c_1027 41 17 from (hid kn_1059)).trans (by omega)) ((hid kn_1060)) ((show _ = c_1027 41 18 from (hid kn_1061)).trans (by omega)) ((show _ = c_974 1 4 from rfl).trans (by omega)) (hro_hR_1048.2.1) ((show _ = c_974 1 5 from rfl).trans (by omega)) hG_980 (by omega)
          · skip
            refine q_iload_n rfl rfl ?_
            refine v_bip rfl (by decide) ?_
            refine v_ic_gt_f (t := 85) rfl (by decide) (by omega) ?_
            refine q_aload_n rfl rfl ?_
            refine v_cv rfl rfl rfl rfl (by decide) ⟨⟨rfl, rfl⟩, by decide, rfl⟩ (Nat.le_of_ble_eq_true rfl) (Nat.le_of_ble_eq_true rfl) ?_
            refine q_aload_n rfl rfl ?_
            refine v_cv rfl rfl rfl rfl (by decide) ⟨⟨rfl, rfl⟩, by decide, rfl⟩ (Nat.le_of_ble_eq_true rfl) (Nat.le_of_ble_eq_true rfl) ?_
            refine q_aload_n rfl rfl ?_
            refine v_gi (z := 4) (v := c_974 1 4) rfl rfl rfl (by decide) rfl rfl rfl ?_
            refine v_if_ne_t (t := 11) rfl (by decide) (by omega) ?_
            refine q_iconst rfl ?_
            refine v_zret rfl rfl (by decide) ?_
            refine bk_inl ?_
            refine v_if_eq_t (t := 22) rfl (by decide) (by decide) ?_
            refine q_iconst rfl ?_
            refine v_zret rfl rfl (by decide) ?_
            refine bk_inl ?_
            refine v_if_eq_t (t := 85) rfl (by decide) (by decide) ?_
            refine q_vret rfl rfl ?_
            intro hE_1062
            have hW : Wd P Q P P c_974 = Wd P Q P P m9 := (Prod.mk.inj (Prod.mk.inj hE_1062).2).1
            have h_1063 := ir_1_4 hJ9
            have h_1064 : m9 1 4 = c_974 1 4 := wd_fv (z := 4) 4 rfl hW rfl rfl rfl rfl (by decide) rfl ⟨by omega, by omega⟩ ⟨by omega, by omega⟩
            have h_1065 := ir_1_2 hI_975
            have h_1066 := ir_1_2 hJ9
            have h_1067 : m9 1 2 = c_974 1 2 := wd_fv (z := 2) 2 rfl hW rfl rfl rfl rfl (by decide) rfl ⟨by omega, by omega⟩ ⟨by omega, by omega⟩
            have h_1068 := ir_1_5 hI_975
            have h_1069 := ir_1_5 hJ9
            have h_1070 : m9 1 5 = c_974 1 5 := wd_fv (z := 5) 5 rfl hW rfl rfl rfl rfl (by decide) rfl ⟨by omega, by omega⟩ ⟨by omega, by omega⟩
            have h_1071 := ir_p0_0 hI_970 hA
            have kn_1072 : Hid (c_974 A 0 = c_969 A 0) := hF_976 A 0 (fun q => q.elim (fun h => absurd h.1 (np0 hA rfl)) (fun q => q.elim (fun h => absurd h.1 (np0 hA rfl)) (fun h => absurd h.1 (np0 hA rfl))))
            have h_1073 := ir_p0_0 hJ9 hA
            have h_1074 : m9 A 0 = c_969 A 0 := wd_fv (z := 0) 0 rfl hW (ck_A hA) (ck_A hA) rfl rfl (by omega) (hid kn_1072) ⟨by omega, by omega⟩ ⟨by omega, by omega⟩
            refine q_aload_n rfl rfl ?_
            refine v_cv rfl rfl rfl rfl (by decide) ⟨⟨rfl, rfl⟩, by decide, rfl⟩ (Nat.le_of_ble_eq_true rfl) (Nat.le_of_ble_eq_true rfl) ?_
            refine q_aload_n rfl rfl ?_
            refine v_gi (z := 5) (v := (-1)) rfl rfl rfl (by decide) rfl rfl (hc_1) ?_
            refine q_iconst rfl ?_
            refine v_ic_ne_f (t := 12) rfl (by decide) (by decide) ?_
            refine q_iconst rfl ?_
            refine q_goto (t := 13) rfl (by decide) ?_
            refine v_zret rfl rfl (by decide) ?_
            refine bk_inl ?_
            refine v_if_eq_f (t := 136) rfl (by decide) (by decide) ?_
            refine q_aload_n rfl rfl ?_
            refine v_cv rfl rfl rfl rfl (by decide) ⟨⟨rfl, rfl⟩, by decide, rfl⟩ (Nat.le_of_ble_eq_true rfl) (Nat.le_of_ble_eq_true rfl) ?_
            refine q_aload_n rfl rfl ?_
            have kn_1075 : Hid (c2 41 3 = e1) := (hFc 41 3 (fun q => q.elim (fun h => absurd h.2 (ni rfl)) (fun q => q.elim (fun h => absurd h.2 (ni rfl)) (fun q => q.elim (fun h => absurd h.2 (ni rfl)) (fun q => q.elim (fun h => absurd h.2 (ni rfl)) (fun q => q.elim (fun h => absurd h.2 (ni rfl)) (fun q => q.elim (fun h => absurd h.2 (ni rfl)) (fun q => q.elim (fun h => absurd h.2 (ni rfl)) (fun q => q.elim (fun h => absurd h (nn rfl)) (fun q => q.elim (fun h => absurd h (nn rfl)) (fun h => absurd h (nn rfl)))))))))))).trans (hr_e1)
            have h_1076 : -2147483648 ≤ (H (nx F e1 a)) ∧ (H (nx F e1 a)) ≤ 2147483647 := by rw [← hH (nx F e1 a)]; exact ir_43 hI (nx F e1 a)
            have h_1077 := hU (nx F e1 a) (by omega) (by omega)
            have h_1078 := hb_or (b := H) (e := e1) (r := (nx F e1 a))
            have h_1079 := hb_bd (b := H) (e := e1) (r := (nx F e1 a)) (lo := -2147483648) (hi := 2147483647) ⟨by omega, by omega⟩ (by decide)
            refine v_cv rfl rfl rfl rfl (by decide) ⟨⟨rfl, rfl⟩, by decide, rfl⟩ (Nat.le_of_ble_eq_true rfl) (Nat.le_of_ble_eq_true rfl) (f_154 (e1 := e1) (a9 := a) (B := H) (r8 := (nx F e1 a)) (r := (hb H e1 (nx F e1 a))) hI2 ((hid kn_1075)) ((hr_a)) (fun j => (hFc 43 j (fun q => q.elim (fun h => absurd h.1 (nn rfl)) (fun q => q.elim (fun h => absurd h.1 (nn rfl)) (fun q => q.elim (fun h => absurd h.1 (nn rfl)) (fun q => q.elim (fun h => absurd h.1 (nn rfl)) (fun q => q.elim (fun h => absurd h.1 (nn rfl)) (fun q => q.elim (fun h => absurd h.1 (nn rfl)) (fun q => q.elim (fun h => absurd h.1 (nn rfl)) (fun q => q.elim (fun h => absurd h (nn rfl)) (fun q => q.elim (fun h => absurd h (nn rfl)) (fun h => absurd h (nn rfl)))))))))))).trans (hH j)) ((nx_tr hU (by omega) (by omega)).trans (rfl)) rfl (fun c_1080 hI_1081 hF_1082 h_1083 => ?_))
            refine bk_inl ?_
            refine q_pop rfl rfl ?_
            refine q_aload_n rfl rfl ?_
            refine v_gi (z := 4) (v := (nx F e1 a)) rfl rfl rfl (by decide) rfl rfl (h_1083) ?_
            refine q_aload_n rfl rfl ?_
            have kn_1084 : Hid (c_1080 41 3 = e1) := (hF_1082 41 3 (fun h => absurd h.2 (ni rfl))).trans (hid kn_1075)
            refine v_gi (z := 3) (v := e1) rfl rfl rfl (by decide) rfl rfl (hid kn_1084) ?_
            refine v_ic_ge_f (t := 20) rfl (by decide) (by omega) ?_
            refine q_iconst rfl ?_
            refine q_goto (t := 21) rfl (by decide) ?_
            refine v_zret rfl rfl (by decide) ?_
            refine bk_inl ?_
            refine v_if_eq_f (t := 136) rfl (by decide) (by decide) ?_
            refine q_aload_n rfl rfl ?_
            have h_1085 := wv_bd (b := F) (r := (nx F e1 a)) (l := (ln F e1 (nx F e1 a))) (fun j h1 h2 => ⟨(ln_in (e := e1) (a := (nx F e1 a)) h1 (by omega)).1, (ln_in (e := e1) (a := (nx F e1 a)) h1 (by omega)).2.1⟩)
            have h_1086 := wr8_3 (b := F) (r := (nx F e1 a)) (l := (ln F e1 (nx F e1 a))) (by omega) (fun j h1 h2 => ⟨(ln_in (e := e1) (a := (nx F e1 a)) h1 (by omega)).1, (ln_in (e := e1) (a := (nx F e1 a)) h1 (by omega)).2.1⟩) (by omega)
            refine v_cv rfl rfl rfl rfl (by decide) ⟨⟨rfl, rfl⟩, by decide, rfl⟩ (Nat.le_of_ble_eq_true rfl) (Nat.le_of_ble_eq_true rfl) (f_157 (e1 := e1) (a9 := (nx F e1 a)) (B := H) (r8 := (nx F e1 a)) (L8 := (ln F e1 (nx F e1 a))) (W8 := (wv F (nx F e1 a) (ln F e1 (nx F e1 a)))) hI_1081 ((hid kn_1084)) ((h_1083)) (fun j => ((hF_1082 43 j (fun h => absurd h.1 (nn rfl))).trans (hFc 43 j (fun q => q.elim (fun h => absurd h.1 (nn rfl)) (fun q => q.elim (fun h => absurd h.1 (nn rfl)) (fun q => q.elim (fun h => absurd h.1 (nn rfl)) (fun q => q.elim (fun h => absurd h.1 (nn rfl)) (fun q => q.elim (fun h => absurd h.1 (nn rfl)) (fun q => q.elim (fun h => absurd h.1 (nn rfl)) (fun q => q.elim (fun h => absurd h.1 (nn rfl)) (fun q => q.elim (fun h => absurd h (nn rfl)) (fun q => q.elim (fun h => absurd h (nn rfl)) (fun h => absurd h (nn rfl))))))))))))).trans (hH j)) ((nx_tr hU (by omega) (by omega)).trans ((nx_z (by omega)))) ((ln_tr hU (by omega) (by omega)).trans (rfl)) ((wv_tr hU (by omega) (by omega) (fun j h1 h2 => ⟨(ln_in (e := e1) (a := (nx F e1 a)) h1 (by omega)).1, (ln_in (e := e1) (a := (nx F e1 a)) h1 (by omega)).2.1⟩)).trans (rfl)) (fun c_1087 hI_1088 hF_1089 hz_1090 => ?_))
            refine bk_inl ?_
            refine q_istore_n rfl (by decide) ?_
            refine q_iload_n rfl rfl ?_
            refine q_call rfl rfl rfl rfl ?_
            refine q_iload_n rfl rfl ?_
            refine q_ldc_s rfl rfl rfl (by decide) ?_
            refine q_call rfl rfl rfl rfl (s_158_16 ?_)
            refine bk_inl ?_
            refine v_ic_eq_f (t := 36) rfl (by decide) (by omega) ?_
            refine q_iload_n rfl rfl ?_
            refine q_ldc_s rfl rfl rfl (by decide) ?_
            refine q_call rfl rfl rfl rfl (s_158_17 ?_)
            refine bk_inl ?_
            refine v_ic_eq_f (t := 36) rfl (by decide) (by omega) ?_
            refine q_iload_n rfl rfl ?_
            refine q_ldc_s rfl rfl rfl (by decide) ?_
            refine q_call rfl rfl rfl rfl (s_158_18 ?_)
            refine bk_inl ?_
            refine v_ic_eq_f (t := 36) rfl (by decide) (by omega) ?_
            refine q_iload_n rfl rfl ?_
            refine q_ldc_s rfl rfl rfl (by decide) ?_
            refine q_call rfl rfl rfl rfl (s_158_19 ?_)
            refine bk_inl ?_
            refine v_ic_ne_f (t := 40) rfl (by decide) (by omega) ?_
            refine q_iconst rfl ?_
            refine q_goto (t := 41) rfl (by decide) ?_
            refine v_zret rfl rfl (by decide) ?_
            refine bk_inl ?_
            refine v_if_ne_t (t := 82) rfl (by decide) (by decide) ?_
            refine q_iload_n rfl rfl ?_
            refine v_bip rfl (by decide) ?_
            refine v_ic_eq_f (t := 96) rfl (by decide) (by omega) ?_
            refine q_aload_n rfl rfl ?_
            refine q_iload_n rfl rfl ?_
            refine v_cv rfl rfl rfl rfl (by decide) ⟨⟨rfl, rfl⟩, by decide, rfl⟩ (Nat.le_of_ble_eq_true rfl) (Nat.le_of_ble_eq_true rfl) ?_
            refine q_iload_n rfl rfl ?_
            refine q_ldc_s rfl rfl rfl (by decide) ?_
            refine q_call rfl rfl rfl rfl (s_158_16 ?_)
            refine bk_inl ?_
            refine v_ic_ne_t (t := 26) rfl (by decide) (by omega) ?_
            refine q_iload_n rfl rfl ?_
            refine q_ldc_s rfl rfl rfl (by decide) ?_
            refine q_call rfl rfl rfl rfl (s_158_17 ?_)
            refine bk_inl ?_
            refine v_ic_ne_t (t := 51) rfl (by decide) (by omega) ?_
            refine q_iload_n rfl rfl ?_
            refine q_ldc_s rfl rfl rfl (by decide) ?_
            refine q_call rfl rfl rfl rfl (s_158_18 ?_)
            refine bk_inl ?_
            refine v_ic_ne_t (t := 72) rfl (by decide) (by omega) ?_
            refine q_iconst rfl ?_
            refine v_zret rfl rfl (by decide) ?_
            refine bk_inl ?_
            refine v_if_eq_t (t := 105) rfl (by decide) (by decide) ?_
            refine q_aload_n rfl rfl ?_
            refine v_cv rfl rfl rfl rfl (by decide) ⟨⟨rfl, rfl⟩, by decide, rfl⟩ (Nat.le_of_ble_eq_true rfl) (Nat.le_of_ble_eq_true rfl) ?_
            refine q_aload_n rfl rfl ?_
            have kn_1091 : Hid (c_1080 41 5 = (-1)) := (hF_1082 41 5 (fun h => absurd h.2 (ni rfl))).trans (hc_1)
            have kn_1092 : Hid (c_1087 41 5 = (-1)) := (hF_1089 41 5 (fun h => absurd h.2 (ni rfl))).trans (hid kn_1091)
            refine v_gi (z := 5) (v := (-1)) rfl rfl rfl (by decide) rfl rfl (hid kn_1092) ?_
            refine q_iconst rfl ?_
            refine v_ic_ne_f (t := 12) rfl (by decide) (by decide) ?_
            refine q_iconst rfl ?_
            refine q_goto (t := 13) rfl (by decide) ?_
            refine v_zret rfl rfl (by decide) ?_
            refine bk_inl ?_
            refine v_if_ne_t (t := 115) rfl (by decide) (by decide) ?_
            refine q_aload_n rfl rfl ?_
            have kn_1093 : Hid (c_1087 41 3 = e1) := (hF_1089 41 3 (fun h => absurd h.2 (ni rfl))).trans (hid kn_1084)
            refine v_cv rfl rfl rfl rfl (by decide) ⟨⟨rfl, rfl⟩, by decide, rfl⟩ (Nat.le_of_ble_eq_true rfl) (Nat.le_of_ble_eq_true rfl) (f_159 (e1 := e1) (a9 := (nx F e1 a)) (B := H) (L8 := (ln F e1 (nx F e1 a))) hI_1088 ((hid kn_1093)) ((hz_1090)) (fun j => ((hF_1089 43 j (fun h => absurd h.1 (nn rfl))).trans ((hF_1082 43 j (fun h => absurd h.1 (nn rfl))).trans (hFc 43 j (fun q => q.elim (fun h => absurd h.1 (nn rfl)) (fun q => q.elim (fun h => absurd h.1 (nn rfl)) (fun q => q.elim (fun h => absurd h.1 (nn rfl)) (fun q => q.elim (fun h => absurd h.1 (nn rfl)) (fun q => q.elim (fun h => absurd h.1 (nn rfl)) (fun q => q.elim (fun h => absurd h.1 (nn rfl)) (fun q => q.elim (fun h => absurd h.1 (nn rfl)) (fun q => q.elim (fun h => absurd h (nn rfl)) (fun q => q.elim (fun h => absurd h (nn rfl)) (fun h => absurd h (nn rfl)))))))))))))).trans (hH j)) ((ln_tr hU (by omega) (by omega)).trans (rfl)) (fun c_1094 hI_1095 hF_1096 hz_1097 => ?_))
            refine bk_inl ?_
            refine q_aload_n rfl rfl ?_
            refine q_iload_n rfl rfl ?_
            have hw_1098 : (wv F (nx F e1 a) (ln F e1 (nx F e1 a))) = 153204 := by omega
            rw [hw_1098]
            have kn_1099 : Hid (c_85 1 1 = e1) := (hF_87 1 1 (fun q => q.elim (fun h => absurd h.2 (ni rfl)) (fun q => q.elim (fun h => absurd h.2 (ni rfl)) (fun h => absurd h.2 (ni rfl))))).trans (hid kn_64)
            have kn_1100 : Hid (c_1094 41 3 = e1) := (hF_1096 41 3 (fun h => absurd h.2 (ni rfl))).trans (hid kn_1093)
            have kn_1101 : Hid (c_1080 41 16 = jr) := (hF_1082 41 16 (fun h => absurd h.2 (ni rfl))).trans (hr_jr)
            have kn_1102 : Hid (c_1087 41 16 = jr) := (hF_1089 41 16 (fun h => absurd h.2 (ni rfl))).trans (hid kn_1101)
            have kn_1103 : Hid (c_1094 41 16 = jr) := (hF_1096 41 16 (fun h => absurd h.2 (ni rfl))).trans (hid kn_1102)
            have kn_1104 : Hid (c_1080 41 17 = st) := (hF_1082 41 17 (fun h => absurd h.2 (ni rfl))).trans (hr_st)
            have kn_1105 : Hid (c_1087 41 17 = st) := (hF_1089 41 17 (fun h => absurd h.2 (ni rfl))).trans (hid kn_1104)
            have kn_1106 : Hid (c_1094 41 17 = st) := (hF_1096 41 17 (fun h => absurd h.2 (ni rfl))).trans (hid kn_1105)
            have kn_1107 : Hid (c_1080 41 18 = si) := (hF_1082 41 18 (fun h => absurd h.2 (ni rfl))).trans (hr_si)
            have kn_1108 : Hid (c_1087 41 18 = si) := (hF_1089 41 18 (fun h => absurd h.2 (ni rfl))).trans (hid kn_1107)
            have kn_1109 : Hid (c_1094 41 18 = si) := (hF_1096 41 18 (fun h => absurd h.2 (ni rfl))).trans (hid kn_1108)
            have h_1110 : c_85 1 4 = 0 := (hz_91)
            have h_1111 : c_85 1 2 = (ln F e1 (nx F e1 a)) := (hz_90)
            have h_1112 : c_85 1 5 = (-1) := (hz_92)
            have kn_1113 : Hid (c_1094 41 5 = (-1)) := (hF_1096 41 5 (fun h => absurd h.2 (ni rfl))).trans (hid kn_1092)
            have h_1114 : c_1094 41 5 = (-1) := (hid kn_1113)
            have h_1115 : c_1094 41 4 = (ln F e1 (nx F e1 a)) := (hz_1097)
            have h_1116 := ir_41_6 hI2
            have kn_1117 : Hid (c_1080 41 6 = c2 41 6) := hF_1082 41 6 (fun h => absurd h.2 (ni rfl))
            have kn_1118 : Hid (c_1087 41 6 = c2 41 6) := (hF_1089 41 6 (fun h => absurd h.2 (ni rfl))).trans (hid kn_1117)
            have kn_1119 : Hid (c_1094 41 6 = c2 41 6) := (hF_1096 41 6 (fun h => absurd h.2 (ni rfl))).trans (hid kn_1118)
            have h_1120 : c_1094 41 6 = c2 41 6 := (hid kn_1119)
            refine v_cv rfl rfl rfl rfl (by decide) ⟨⟨rfl, rfl⟩, by decide, rfl⟩ (Nat.le_of_ble_eq_true rfl) (Nat.le_of_ble_eq_true rfl) (L_33_3 (m := c_85) (e1 := e1) (jr := jr) (st := st) (si := si) (F := F) (H := H) hI_1095 hI_86 hI_970 hA ((hid kn_1099)) ((hid kn_1100)) ((hid kn_959)) ((hid kn_1103)) ((hid kn_963)) ((hid kn_1106)) ((hid kn_967)) ((hid kn_1109)) (fun j => ((hF_87 2 j (fun q => q.elim (fun h => absurd h.1 (nn rfl)) (fun q => q.elim (fun h => absurd h.1 (nn rfl)) (fun h => absurd h.1 (nn rfl))))).trans ((hF_62 2 j (fun h => absurd h.1 (nn rfl))).trans ((hF_26 2 j (fun h => absurd h.1 (nn rfl))).trans (hFm 2 j (fun q => q.elim (fun h => absurd h.1 (nn rfl)) (fun q => q.elim (fun h => absurd h.1 (nn rfl)) (fun q => q.elim (fun h => absurd h.1 (nn rfl)) (fun q => q.elim (fun h => absurd h.1 (pn0 hA rfl)) (fun q => q.elim (fun h => absurd h.1 (pn0 hA rfl)) (fun q => q.elim (fun h => absurd h.1 (pn0 hA rfl)) (fun q => q.elim (fun h => absurd h.1 (pn0 hA rfl)) (fun q => q.elim (fun h => absurd h (pn hA rfl rfl)) (fun q => q.elim (fun h => absurd h (pn hA rfl rfl)) (fun q => q.elim (fun h => absurd h (pn hA rfl rfl)) (fun q => q.elim (fun h => absurd h.1 (pn0 hA rfl)) (fun q => q.elim (fun h => absurd h.1 (pn0 hA rfl)) (fun q => q.elim (fun h => absurd h (pn hA rfl rfl)) (fun h => absurd h.1 (pn hA rfl rfl))))))))))))))))))).trans (hF j)) (fun j => ((hF_1096 43 j (fun h => absurd h.1 (nn rfl))).trans ((hF_1089 43 j (fun h => absurd h.1 (nn rfl))).trans ((hF_1082 43 j (fun h => absurd h.1 (nn rfl))).trans (hFc 43 j (fun q => q.elim (fun h => absurd h.1 (nn rfl)) (fun q => q.elim (fun h => absurd h.1 (nn rfl)) (fun q => q.elim (fun h => absurd h.1 (nn rfl)) (fun q => q.elim (fun h => absurd h.1 (nn rfl)) (fun q => q.elim (fun h => absurd h.1 (nn rfl)) (fun q => q.elim (fun h => absurd h.1 (nn rfl)) (fun q => q.elim (fun h => absurd h.1 (nn rfl)) (fun q => q.elim (fun h => absurd h (nn rfl)) (fun q => q.elim (fun h => absurd h (nn rfl)) (fun h => absurd h (nn rfl))))))))))))))).trans (hH j)) hU (by unfold Rt; omega) hG_972 (fun c_1121 hI_1122 hF_1123 hR_1125 h_1126 h_1127 h_1128 => ?_))
            refine bk_inl ?_
            have h_1129 := ir_41_16 hI_1122
            have h_1130 := ir_41_17 hI_1122
            have h_1131 := ir_p0_1 hI_970 hA
            have h_1132 := ir_41_18 hI_1122
            have h_1133 := ir_p0_2 hI_970 hA
            refine q_aload_n rfl rfl ?_
            refine v_bip rfl (by decide) ?_
            have kn_1134 : Hid (c_969 1 1 = e1) := (hF_971 1 1 (fun q => q.elim (fun h => absurd h.2 (ni rfl)) (fun q => q.elim (fun h => absurd h.2 (ni rfl)) (fun q => q.elim (fun h => absurd h.2 (ni rfl)) (fun q => q.elim (fun h => absurd h.1 (pn0 hA rfl)) (fun q => q.elim (fun h => absurd h.1 (pn0 hA rfl)) (fun q => q.elim (fun h => absurd h.1 (pn0 hA rfl)) (fun q => q.elim (fun h => absurd h.1 (pn0 hA rfl)) (fun q => q.elim (fun h => absurd h (pn hA rfl rfl)) (fun q => q.elim (fun h => absurd h (pn hA rfl rfl)) (fun h => absurd h (pn hA rfl rfl)))))))))))).trans (hid kn_1099)
            have kn_1135 : Hid (c_1121 41 3 = e1) := (hF_1123 41 3 (fun q => q.elim (fun h => absurd h.2 (ni rfl)) (fun q => q.elim (fun h => absurd h.2 (ni rfl)) (fun q => q.elim (fun h => absurd h.2 (ni rfl)) (fun q => q.elim (fun h => absurd h.2 (ni rfl)) (fun q => q.elim (fun h => absurd h.2 (ni rfl)) (fun q => q.elim (fun h => absurd h.2 (ni rfl)) (fun q => q.elim (fun h => absurd h.2 (ni rfl)) (fun q => q.elim (fun h => absurd h (nn rfl)) (fun q => q.elim (fun h => absurd h (nn rfl)) (fun h => absurd h (nn rfl)))))))))))).trans (hid kn_1100)
            have h_1136 := ir_1_2 hI_970
            refine v_cv rfl rfl rfl rfl (by decide) ⟨⟨rfl, rfl⟩, by decide, rfl⟩ (Nat.le_of_ble_eq_true rfl) (Nat.le_of_ble_eq_true rfl) (L_11_9 (m := c_969) (e1 := e1) (a9 := c_969 1 2) (F := F) (H := H) hI_1122 hI_970 hI_975 ((hid kn_1134)) ((hid kn_1135)) (rfl) (fun j => ((hF_971 2 j (fun q => q.elim (fun h => absurd h.1 (nn rfl)) (fun q => q.elim (fun h => absurd h.1 (nn rfl)) (fun q => q.elim (fun h => absurd h.1 (nn rfl)) (fun q => q.elim (fun h => absurd h.1 (pn0 hA rfl)) (fun q => q.elim (fun h => absurd h.1 (pn0 hA rfl)) (fun q => q.elim (fun h => absurd h.1 (pn0 hA rfl)) (fun q => q.elim (fun h => absurd h.1 (pn0 hA rfl)) (fun q => q.elim (fun h => absurd h (pn hA rfl rfl)) (fun q => q.elim (fun h => absurd h (pn hA rfl rfl)) (fun h => absurd h (pn hA rfl rfl)))))))))))).trans ((hF_87 2 j (fun q => q.elim (fun h => absurd h.1 (nn rfl)) (fun q => q.elim (fun h => absurd h.1 (nn rfl)) (fun h => absurd h.1 (nn rfl))))).trans ((hF_62 2 j (fun h => absurd h.1 (nn rfl))).trans ((hF_26 2 j (fun h => absurd h.1 (nn rfl))).trans (hFm 2 j (fun q => q.elim (fun h => absurd h.1 (nn rfl)) (fun q => q.elim (fun h => absurd h.1 (nn rfl)) (fun q => q.elim (fun h => absurd h.1 (nn rfl)) (fun q => q.elim (fun h => absurd h.1 (pn0 hA rfl)) (fun q => q.elim (fun h => absurd h.1 (pn0 hA rfl)) (fun q => q.elim (fun h => absurd h.1 (pn0 hA rfl)) (fun q => q.elim (fun h => absurd h.1 (pn0 hA rfl)) (fun q => q.elim (fun h => absurd h (pn hA rfl rfl)) (fun q => q.elim (fun h => absurd h (pn hA rfl rfl)) (fun q => q.elim (fun h => absurd h (pn hA rfl rfl)) (fun q => q.elim (fun h => absurd h.1 (pn0 hA rfl)) (fun q => q.elim (fun h => absurd h.1 (pn0 hA rfl)) (fun q => q.elim (fun h => absurd h (pn hA rfl rfl)) (fun h => absurd h.1 (pn hA rfl rfl)))))))))))))))))))).trans (hF j)) (fun j => ((hF_1123 43 j (fun q => q.elim (fun h => absurd h.1 (nn rfl)) (fun q => q.elim (fun h => absurd h.1 (nn rfl)) (fun q => q.elim (fun h => absurd h.1 (nn rfl)) (fun q => q.elim (fun h => absurd h.1 (nn rfl)) (fun q => q.elim (fun h => absurd h.1 (nn rfl)) (fun q => q.elim (fun h => absurd h.1 (nn rfl)) (fun q => q.elim (fun h => absurd h.1 (nn rfl)) (fun q => q.elim (fun h => absurd h (nn rfl)) (fun q => q.elim (fun h => absurd h (nn rfl)) (fun h => absurd h (nn rfl)))))))))))).trans ((hF_1096 43 j (fun h => absurd h.1 (nn rfl))).trans ((hF_1089 43 j (fun h => absurd h.1 (nn rfl))).trans ((hF_1082 43 j (fun h => absurd h.1 (nn rfl))).trans (hFc 43 j (fun q => q.elim (fun h => absurd h.1 (nn rfl)) (fun q => q.elim (fun h => absurd h.1 (nn rfl)) (fun q => q.elim (fun h => absurd h.1 (nn rfl)) (fun q => q.elim (fun h => absurd h.1 (nn rfl)) (fun q => q.elim (fun h => absurd h.1 (nn rfl)) (fun q => q.elim (fun h => absurd h.1 (nn rfl)) (fun q => q.elim (fun h => absurd h.1 (nn rfl)) (fun q => q.elim (fun h => absurd h (nn rfl)) (fun q => q.elim (fun h => absurd h (nn rfl)) (fun h => absurd h (nn rfl)))))))))))))))).trans (hH j)) hU hR_1125 hG_977 (fun c_1137 hI_1138 hF_1139 hR_1141 h_1142 => ?_))
            refine bk_inl ?_
            refine v_iinc (v := v + 1) rfl rfl (by decide) (by omega) ?_
            refine q_goto (t := 44) rfl (by decide) ?_
            refine q_aload_n rfl rfl ?_
            refine v_cv rfl rfl rfl rfl (by decide) ⟨⟨rfl, rfl⟩, by decide, rfl⟩ (Nat.le_of_ble_eq_true rfl) (Nat.le_of_ble_eq_true rfl) ?_
            refine q_aload_n rfl rfl ?_
            have h_1143 := ir_41_5 hI_1138
            have h_1144 := ir_41_4 hI_1138
            have h_1145 := ir_41_6 hI_1138
            have h_1146 := rt_bad hR_1141 (by omega)
            have hrb_hR_1141 := rt_bad hR_1141 (by omega)
            refine v_gi (z := 5) (v := c_974 1 5) rfl rfl rfl (by decide) rfl rfl hrb_hR_1141.2.1 ?_
            refine q_iconst rfl ?_
            refine v_ic_ne_t (t := 12) rfl (by decide) (by omega) ?_
            refine q_iconst rfl ?_
            refine v_zret rfl rfl (by decide) ?_
            refine bk_inl ?_
            refine v_if_eq_t (t := 136) rfl (by decide) (by decide) ?_
            refine Wp_ls [(0, .ref 41), (1, vi a1)] (lsub_cons rfl (lsub_cons rfl lsub_nil)) ?_
            have h_1147 : c_1137 41 5 = c_974 1 5 := hrb_hR_1141.2.1
            have h_1148 : c_1137 41 6 = c_974 1 4 := hrb_hR_1141.2.2.2
            have kn_1149 : Hid (c_1137 41 16 = c_1121 41 16) := hF_1139 41 16 (fun q => q.elim (fun h => absurd h.2 (ni rfl)) (fun q => q.elim (fun h => absurd h.2 (ni rfl)) (fun h => absurd h.2 (ni rfl))))
            have h_1150 : c_1137 41 16 = c_1121 41 16 := (hid kn_1149)
            exact K c_1137  hI_1138 (fun a j hm => (hF_1139 a j (fun q => q.elim (fun h => hm (Or.inl h)) (fun q => q.elim (fun h => hm (Or.inr (Or.inl h))) (fun h => hm (Or.inr (Or.inr (Or.inl h))))))).trans ((hF_1123 a j (fun q => q.elim (fun h => hm (Or.inl h)) (fun q => q.elim (fun h => hm (Or.inr (Or.inl h))) (fun q => q.elim (fun h => hm (Or.inr (Or.inr (Or.inl h)))) (fun q => q.elim (fun h => hm (Or.inr (Or.inr (Or.inr (Or.inl h))))) (fun q => q.elim (fun h => hm (Or.inr (Or.inr (Or.inr (Or.inr (Or.inl h)))))) (fun q => q.elim (fun h => hm (Or.inr (Or.inr (Or.inr (Or.inr (Or.inr (Or.inl h))))))) (fun q => q.elim (fun h => hm (Or.inr (Or.inr (Or.inr (Or.inr (Or.inr (Or.inr (Or.inl h)))))))) (fun q => q.elim (fun h => hm (Or.inr (Or.inr (Or.inr (Or.inr (Or.inr (Or.inr (Or.inr (Or.inl h))))))))) (fun q => q.elim (fun h => hm (Or.inr (Or.inr (Or.inr (Or.inr (Or.inr (Or.inr (Or.inr (Or.inr (Or.inl h)))))))))) (fun h => hm (Or.inr (Or.inr (Or.inr (Or.inr (Or.inr (Or.inr (Or.inr (Or.inr (Or.inr h)))))))))))))))))))).trans ((hF_1096 a j (fun h => hm (Or.inl h))).trans ((hF_1089 a j (fun h => hm (Or.inl h))).trans ((hF_1082 a j (fun h => hm (Or.inl h))).trans (hFc a j (fun q => q.elim (fun h => hm (Or.inl h)) (fun q => q.elim (fun h => hm (Or.inr (Or.inl h))) (fun q => q.elim (fun h => hm (Or.inr (Or.inr (Or.inl h)))) (fun q => q.elim (fun h => hm (Or.inr (Or.inr (Or.inr (Or.inl h))))) (fun q => q.elim (fun h => hm (Or.inr (Or.inr (Or.inr (Or.inr (Or.inl h)))))) (fun q => q.elim (fun h => hm (Or.inr (Or.inr (Or.inr (Or.inr (Or.inr (Or.inl h))))))) (fun q => q.elim (fun h => hm (Or.inr (Or.inr (Or.inr (Or.inr (Or.inr (Or.inr (Or.inl h)))))))) (fun q => q.elim (fun h => hm (Or.inr (Or.inr (Or.inr (Or.inr (Or.inr (Or.inr (Or.inr (Or.inl h))))))))) (fun q => q.elim (fun h => hm (Or.inr (Or.inr (Or.inr (Or.inr (Or.inr (Or.inr (Or.inr (Or.inr (Or.inl h)))))))))) (fun h => hm (Or.inr (Or.inr (Or.inr (Or.inr (Or.inr (Or.inr (Or.inr (Or.inr (Or.inr h))))))))))))))))))))))))) (by unfold Rt; omega) (by omega)
set_option maxRecDepth 100000 in
set_option maxHeartbeats 4000000 in
theorem L_34 {sc : List Int32} {e eg : Int} {d dh u ug P Q P2 Q2 A : Nat} {c m m9 : ME} {a1 e1 f0 g0 z0 z1 z2 : Int} {F H : Int → Int} {Z : AR → Prop} (hI : Iv u e P2 Q2 c) (hJ : Iv ug eg P Q m) (hJ9 : Iv ug eg P Q m9) (hA : A = 13 ∨ A = 25) (ha1 : (-2147483648) ≤ a1 ∧ a1 ≤ 2147483647) (hq0 : (f0 = 0)) (hq1 : (g0 = (-1))) (hq2 : (z0 = 0)) (hq3 : (z1 = 0)) (hq4 : (z2 = 0)) (hg_e1 : m 1 1 = e1) (hr_e1 : c 41 3 = e1) (hg_f0 : m 1 4 = f0) (hg_g0 : m 1 5 = g0) (hr_z0 : c 41 16 = z0) (hr_z1 : c 41 17 = z1) (hr_z2 : c 41 18 = z2) (hF : ∀ j : Int, m 2 j = F j) (hH : ∀ j : Int, c 43 j = H j) (hU : Ub F H) (hRt : Rt m c) (hG : Wp sc (dh + 30) 34 0 [(0, .ref A), (1, .ref 1)] [] (Wd P Q P P m) 0 0 (fun q => q = (.inl (none), Wd P Q P P m9, 0, 0))) (K : ∀ (c2 : ME), Iv u e P2 Q2 c2 → (∀ (a : Nat) (j : Int), ¬ ((a = 41 ∧ j = 4) ∨ (a = 41 ∧ j = 5) ∨ (a = 41 ∧ j = 6) ∨ (a = 41 ∧ j = 16) ∨ (a = 41 ∧ j = 17) ∨ (a = 41 ∧ j = 18) ∨ (a = 41 ∧ j = 19) ∨ a = 44 ∨ a = 45 ∨ a = 46) → c2 a j = c a j) → (Rt m9 c2) → ((m9 1 4 < 0) ∨ (m9 1 4 > 0) ∨ (m9 A 0 = c2 41 16)) → Wp sc (d + 22) 169 136 [(0, .ref 41), (1, vi a1)] [] (Wd P2 Q2 P2 P2 c2) 0 0 Z) : Wp sc (d + 22) 169 44 [(0, .ref 41), (1, vi a1), (2, vi 0)] [] (Wd P2 Q2 P2 P2 c) 0 0 Z := by
  have hP := iv_P hJ
  have hQ := iv_Q hJ
  have h_1151 := ir_1_1 hJ
  have h_1152 := ir_41_3 hI
  have h_1153 := ir_1_4 hJ
  have h_1154 := ir_1_5 hJ
  have h_1155 := ir_41_16 hI
  have h_1156 := ir_41_17 hI
  have h_1157 := ir_41_18 hI
  refine gh hG ?_
  refine q_aload_n rfl rfl ?_
  refine v_cv rfl rfl rfl (ck_p0 hA) (by omega) ⟨⟨rfl, rfl⟩, by decide, rfl⟩ (Nat.le_of_ble_eq_true rfl) (Nat.le_of_ble_eq_true rfl) (s_30 hJ hA (fun c_1158 hI_1159 hF_1160 h_1161 => ?_))
  refine bk_inl ?_
  have h_1162 := ir_p0_0 hI_1159 hA
  have h_1163 := ir_p0_1 hI_1159 hA
  have h_1164 := ir_p0_2 hI_1159 hA
  refine q_iconst rfl ?_
  refine q_istore_n rfl (by decide) ?_
  have kn_1165 : Hid (c_1158 1 4 = f0) := (hF_1160 1 4 (fun q => q.elim (fun h => absurd h.1 (pn0 hA rfl)) (fun q => q.elim (fun h => absurd h.1 (pn0 hA rfl)) (fun q => q.elim (fun h => absurd h.1 (pn0 hA rfl)) (fun q => q.elim (fun h => absurd h.1 (pn0 hA rfl)) (fun q => q.elim (fun h => absurd h.1 (pn0 hA rfl)) (fun q => q.elim (fun h => absurd h.1 (pn0 hA rfl)) (fun q => q.elim (fun h => absurd h (pn hA rfl rfl)) (fun h => absurd h.1 (pn hA rfl rfl)))))))))).trans (hg_f0)
  refine Wp_ls [(0, .ref A), (1, .ref 1), (2, vi 0)] (lsub_cons rfl (lsub_cons rfl (lsub_cons rfl lsub_nil))) ?_
  refine gh_stop (s_34_l (sc := sc) (d := dh + 18) (c := c_1158) (Z := fun _ => True) hI_1159 hA (fun _ _ _ => trivial) 124 c_1158 0 hI_1159 (fun a j hm => rfl) ⟨by omega, by omega⟩ (by omega)) (fun hG_1166 => ?_)
  refine Wp_ls [(0, .ref 41), (1, vi a1), (2, vi 0)] (lsub_cons rfl (lsub_cons rfl (lsub_cons rfl lsub_nil))) ?_
  have h_1167 := ir_1_2 hJ
  have kn_1168 : Hid (c_1158 1 2 = m 1 2) := hF_1160 1 2 (fun q => q.elim (fun h => absurd h.1 (pn0 hA rfl)) (fun q => q.elim (fun h => absurd h.1 (pn0 hA rfl)) (fun q => q.elim (fun h => absurd h.1 (pn0 hA rfl)) (fun q => q.elim (fun h => absurd h.1 (pn0 hA rfl)) (fun q => q.elim (fun h => absurd h.1 (pn0 hA rfl)) (fun q => q.elim (fun h => absurd h.1 (pn0 hA rfl)) (fun q => q.elim (fun h => absurd h (pn hA rfl rfl)) (fun h => absurd h.1 (pn hA rfl rfl)))))))))
  have h_1169 := ir_41_4 hI
  have h_1170 := ir_41_5 hI
  have h_1171 := ir_41_6 hI
  have h_1172 := rt_ok hRt (by omega)
  have hro_hRt := rt_ok hRt (by omega)
  have kn_1173 : Hid (c_1158 1 5 = g0) := (hF_1160 1 5 (fun q => q.elim (fun h => absurd h.1 (pn0 hA rfl)) (fun q => q.elim (fun h => absurd h.1 (pn0 hA rfl)) (fun q => q.elim (fun h => absurd h.1 (pn0 hA rfl)) (fun q => q.elim (fun h => absurd h.1 (pn0 hA rfl)) (fun q => q.elim (fun h => absurd h.1 (pn0 hA rfl)) (fun q => q.elim (fun h => absurd h.1 (pn0 hA rfl)) (fun q => q.elim (fun h => absurd h (pn hA rfl rfl)) (fun h => absurd h.1 (pn hA rfl rfl)))))))))).trans (hg_g0)
  exact (L_34_l (sc := sc) (d := d) (dh := dh) hI hJ hJ9 hA ha1 hq0 hq1 hq2 hq3 hq4 hg_e1 hr_e1 hg_f0 hg_g0 hr_z0 hr_z1 hr_z2 hF hH hU hRt K 62) c c_1158 0 (m 1 2) (c_1158 A 0) (c_1158 A 1) (c_1158 A 2) hI (fun a j hm => rfl) hI_1159 (fun a j hm => hF_1160 a j (fun q => q.elim (fun h => hm (Or.inr (Or.inr (Or.inr (Or.inl h))))) (fun q => q.elim (fun h => hm (Or.inr (Or.inr (Or.inr (Or.inr (Or.inl h)))))) (fun q => q.elim (fun h => hm (Or.inr (Or.inr (Or.inr (Or.inr (Or.inr (Or.inl h))))))) (fun q => q.elim (fun h => hm (Or.inr (Or.inr (Or.inr (Or.inr (Or.inr (Or.inr (Or.inl h)))))))) (fun q => q.elim (fun h => hm (Or.inr (Or.inr (Or.inr (Or.inr (Or.inr (Or.inr (Or.inr (Or.inr (Or.inr (Or.inr (Or.inl h)))))))))))) (fun q => q.elim (fun h => hm (Or.inr (Or.inr (Or.inr (Or.inr (Or.inr (Or.inr (Or.inr (Or.inr (Or.inr (Or.inr (Or.inr (Or.inl h))))))))))))) (fun q => q.elim (fun h => hm (Or.inr (Or.inr (Or.inr (Or.inr (Or.inr (Or.inr (Or.inr (Or.inr (Or.inr (Or.inr (Or.inr (Or.inr (Or.inl h)))))))))))))) (fun h => hm (Or.inr (Or.inr (Or.inr (Or.inr (Or.inr (Or.inr (Or.inr (Or.inr (Or.inr (Or.inr (Or.inr (Or.inr (Or.inr h)))))))))))))))))))))) ⟨by omega, by omega⟩ ⟨by omega, by omega⟩ ⟨by omega, by omega⟩ ⟨by omega, by omega⟩ ⟨by omega, by omega⟩ ((hid kn_1168)) (hro_hRt.2.2.1) (rfl) ((show _ = z0 from (hr_z0)).trans (by omega)) (rfl) ((show _ = z1 from (hr_z1)).trans (by omega)) (rfl) ((show _ = z2 from (hr_z2)).trans (by omega)) ((show _ = f0 from (hid kn_1165)).trans (by omega)) (hro_hRt.2.1) ((show _ = g0 from (hid kn_1173)).trans (by omega)) hG_1166 (by omega)

set_option maxRecDepth 100000 in
set_option maxHeartbeats 4000000 in
theorem L_84 {sc : List Int32} {d dh P Q P2 Q2 P9 Q9 : Nat} {c m m9 : ME} {a1 yg t9 : Int} {F H : Int → Int} {Z : AR → Prop} (hI : Iv 0 (-1) P2 Q2 c) (hJ : Iv 0 (-1) P Q m) (hJ9 : Iv 0 (-1) P9 Q9 m9) (ha1 : (-2147483648) ≤ a1 ∧ a1 ≤ 2147483647) (hyg : (-2147483648) ≤ yg ∧ yg ≤ 2147483647) (hq0 : (a1 ≥ 0 ∧ a1 ≤ t9 ∧ a1 ≤ 600)) (hg_t9 : m 1 3 = t9) (hr_t9 : c 41 2 = t9) (hF : ∀ j : Int, m 2 j = F j) (hH : ∀ j : Int, c 43 j = H j) (hU : Ub F H) (hG : Wp sc (dh + 50) 84 0 [(0, .ref 0), (1, vi a1)] [] (Wd P Q P P m) 0 0 (fun q => q = (.inl (some (vi yg)), Wd P9 Q9 P9 P9 m9, 0, 0))) (K : ∀ (c2 : ME) (y : Int), Iv 0 (-1) P2 Q2 c2 → (∀ (a : Nat) (j : Int), ¬ ((a = 41 ∧ j = 0) ∨ a = 42 ∨ (a = 41 ∧ j = 2) ∨ (a = 41 ∧ j = 3) ∨ (a = 41 ∧ j = 4) ∨ (a = 41 ∧ j = 5) ∨ (a = 41 ∧ j = 6) ∨ (a = 41 ∧ j = 7) ∨ (a = 41 ∧ j = 8) ∨ (a = 41 ∧ j = 16) ∨ (a = 41 ∧ j = 17) ∨ (a = 41 ∧ j = 18) ∨ (a = 41 ∧ j = 19) ∨ a = 44 ∨ a = 45 ∨ a = 46 ∨ (a = 41 ∧ j = 20) ∨ (a = 41 ∧ j = 21) ∨ (a = 41 ∧ j = 22) ∨ (a = 41 ∧ j = 23) ∨ (a = 41 ∧ j = 30) ∨ (a = 41 ∧ j = 35) ∨ (a = 41 ∧ j = 36) ∨ (a = 41 ∧ j = 47) ∨ (a = 41 ∧ j = 48) ∨ (a = 41 ∧ j = 52) ∨ a = 47 ∨ a = 48 ∨ a = 49 ∨ a = 58 ∨ a = 64) → c2 a j = c a j) → (-2147483648) ≤ y ∧ y ≤ 2147483647 → ((y = yg)) → ((c2 41 2 = 0)) → ((c2 41 8 = m9 1 5)) → ((c2 41 0 = 0)) → Z (.inl (some (vi y)), Wd P2 Q2 P2 P2 c2, 0, 0)) : Wp sc (d + 40) 169 0 [(0, .ref 41), (1, vi a1)] [] (Wd P2 Q2 P2 P2 c) 0 0 Z := by
  have hP := iv_P hJ
  have hQ := iv_Q hJ
  have h_1 := ir_1_3 hJ
  have h_2 := ir_41_2 hI
  have hpq := iv_pq hJ
  unfold Pq at hpq
  refine gh hG ?_
  refine q_aload_n rfl rfl ?_
  refine q_iload_n rfl rfl ?_
  refine v_sip rfl (by decide) ?_
  refine v_cv rfl rfl rfl rfl (by decide) ⟨⟨rfl, rfl⟩, by decide, rfl⟩ (Nat.le_of_ble_eq_true rfl) (Nat.le_of_ble_eq_true rfl) ?_
  refine q_aload_n rfl rfl ?_
  refine q_iload_n rfl rfl ?_
  refine q_iconst rfl ?_
  refine q_iload_n rfl rfl ?_
  refine q_aload_n rfl rfl ?_
  refine v_gr (t := 1) rfl rfl rfl (by decide) rfl ?_
  refine v_gi (z := 3) (v := t9) rfl rfl rfl (by decide) rfl rfl (hg_t9) ?_
  refine v_min_g rfl rfl (by omega) (Nat.le_of_ble_eq_true rfl) (by omega) ?_
  refine q_call rfl rfl rfl rfl ?_
  refine q_iload_n rfl rfl ?_
  refine q_iload_n rfl rfl ?_
  refine v_ic_lt_f (t := 14) rfl (by decide) (by omega) ?_
  refine q_iload_n rfl rfl ?_
  refine q_iload_n rfl rfl ?_
  refine v_ic_gt_f (t := 14) rfl (by decide) (by omega) ?_
  refine q_iconst rfl ?_
  refine q_goto (t := 15) rfl (by decide) ?_
  refine v_zret rfl rfl (by decide) ?_
  refine bk_inl ?_
  refine v_cv rfl rfl rfl rfl (by decide) ⟨⟨rfl, rfl⟩, by decide, rfl⟩ (Nat.le_of_ble_eq_true rfl) (Nat.le_of_ble_eq_true rfl) ?_
  refine q_iload_n rfl rfl ?_
  refine v_if_ne_t (t := 25) rfl (by decide) (by decide) ?_
  refine q_vret rfl rfl ?_
  refine bk_inl ?_
  refine q_aload_n rfl rfl ?_
  refine v_gr (t := 1) rfl rfl rfl (by decide) rfl ?_
  refine q_iload_n rfl rfl ?_
  refine v_cv rfl rfl rfl rfl (by decide) ⟨⟨rfl, rfl⟩, by decide, rfl⟩ (Nat.le_of_ble_eq_true rfl) (Nat.le_of_ble_eq_true rfl) ?_
  refine q_aload_n rfl rfl ?_
  refine q_iload_n rfl rfl ?_
  refine q_aload_n rfl rfl ?_
  refine v_gi (z := 3) (v := t9) rfl rfl rfl (by decide) rfl rfl (hg_t9) ?_
  refine v_minx rfl rfl (by omega) (Nat.le_of_ble_eq_true rfl) ⟨by omega, by omega, by omega, by omega⟩ (fun y_3 hy_3 => ?_)
  refine v_pi (z := 1) rfl rfl rfl (by decide) rfl rfl rfl (by decide) ?_
  refine q_aload_n rfl rfl ?_
  refine q_iconst rfl ?_
  refine v_pi (z := 2) rfl rfl rfl (by decide) rfl rfl rfl (by decide) ?_
  refine q_aload_n rfl rfl ?_
  refine q_iconst rfl ?_
  refine v_pi (z := 3) rfl rfl rfl (by decide) rfl rfl rfl (by decide) ?_
  refine q_aload_n rfl rfl ?_
  refine q_iconst rfl ?_
  refine v_pi (z := 4) rfl rfl rfl (by decide) rfl rfl rfl (by decide) ?_
  refine q_aload_n rfl rfl ?_
  refine q_iconst rfl ?_
  refine v_pi (z := 5) rfl rfl rfl (by decide) rfl rfl rfl (by decide) ?_
  refine q_vret rfl rfl ?_
  refine bk_inl ?_
  refine q_vret rfl rfl ?_
  refine bk_inl ?_
  refine q_aload_n rfl rfl ?_
  refine v_gr (t := Q) rfl rfl rfl (by decide) rfl ?_
  refine q_aload_n rfl rfl ?_
  refine v_gr (t := 1) rfl rfl rfl (by decide) rfl ?_
  have hI_4 := iw_1_1 (v := y_3) hJ ⟨by omega, by omega⟩
  have hI_5 := iw_1_2 (v := 0) hI_4 ⟨by decide, by decide⟩
  have hI_6 := iw_1_3 (v := 0) hI_5 ⟨by decide, by decide⟩
  have hI_7 := iw_1_4 (v := 0) hI_6 ⟨by decide, by decide⟩
  have hI_8 := iw_1_5 (v := (-1)) hI_7 ⟨by decide, by decide⟩
  refine v_cv rfl rfl rfl (ck_p0 hQ) (by omega) ⟨⟨rfl, rfl⟩, by decide, rfl⟩ (Nat.le_of_ble_eq_true rfl) (Nat.le_of_ble_eq_true rfl) (fn_of (s_34 hI_8 hQ (fun c_9 hI_10 hF_11 => ?_)))
  intro hG_12
  refine bk_inl ?_
  refine q_aload_n rfl rfl ?_
  refine v_gr (t := 1) rfl rfl rfl (by decide) rfl ?_
  refine v_cv rfl rfl rfl rfl (by decide) ⟨⟨rfl, rfl⟩, by decide, rfl⟩ (Nat.le_of_ble_eq_true rfl) (Nat.le_of_ble_eq_true rfl) ?_
  refine q_aload_n rfl rfl ?_
  have h_13 := ir_1_4 hI_10
  refine v_gi (z := 4) (v := c_9 1 4) rfl rfl rfl (by decide) rfl rfl rfl ?_
  by_cases h_14 : c_9 1 4 ≠ 0
  · refine v_if_ne_t (t := 11) rfl (by decide) (by omega) ?_
    refine q_iconst rfl ?_
    refine v_zret rfl rfl (by decide) ?_
    refine bk_inl ?_
    refine v_if_eq_t (t := 81) rfl (by decide) (by decide) ?_
    refine q_aload_n rfl rfl ?_
    refine q_aload_n rfl rfl ?_
    refine v_gr (t := P) rfl rfl rfl (by decide) rfl ?_
    have h_15 := ir_p0_0 hJ hP
    have kn_16 : Hid (c_9 P 0 = m P 0) := (hF_11 P 0 (by omega)).trans ((up_c (np0 hP rfl)).trans ((up_c (np0 hP rfl)).trans ((up_c (np0 hP rfl)).trans ((up_c (np0 hP rfl)).trans (up_c (np0 hP rfl))))))
    refine v_gi (z := 0) (v := m P 0) rfl rfl (ck_p0 hP) (by omega) rfl rfl (hid kn_16) ?_
    refine v_cv rfl rfl rfl rfl (by decide) ⟨⟨rfl, rfl⟩, by decide, rfl⟩ (Nat.le_of_ble_eq_true rfl) (Nat.le_of_ble_eq_true rfl) ?_
    refine q_aload_n rfl rfl ?_
    refine v_gr (t := 1) rfl rfl rfl (by decide) rfl ?_
    refine v_cv rfl rfl rfl rfl (by decide) ⟨⟨rfl, rfl⟩, by decide, rfl⟩ (Nat.le_of_ble_eq_true rfl) (Nat.le_of_ble_eq_true rfl) ?_
    refine q_aload_n rfl rfl ?_
    refine v_gi (z := 4) (v := c_9 1 4) rfl rfl rfl (by decide) rfl rfl rfl ?_
    refine v_if_ne_t (t := 11) rfl (by decide) (by omega) ?_
    refine q_iconst rfl ?_
    refine v_zret rfl rfl (by decide) ?_
    refine bk_inl ?_
    refine v_if_eq_t (t := 14) rfl (by decide) (by decide) ?_
    refine q_aload_n rfl rfl ?_
    refine v_gr (t := 1) rfl rfl rfl (by decide) rfl ?_
    refine v_gi (z := 4) (v := c_9 1 4) rfl rfl rfl (by decide) rfl rfl rfl ?_
    refine v_bip rfl (by decide) ?_
    refine v_isub (v := c_9 1 4 - 10) rfl (by omega) ?_
    refine q_iret rfl rfl ?_
    refine bk_inl ?_
    refine q_iret rfl rfl ?_
    intro hE_17
    have h_18 : yg = c_9 1 4 - 10 := (vi_inj ⟨by omega, by omega⟩ ⟨by omega, by omega⟩ (Option.some.inj (Sum.inl.inj (Prod.mk.inj hE_17).1))).symm
    have hW : Wd P Q P P c_9 = Wd P9 Q9 P9 P9 m9 := (Prod.mk.inj (Prod.mk.inj hE_17).2).1
    have h_19 := ir_1_5 hI_10
    have h_20 := ir_1_5 hJ9
    have h_21 : m9 1 5 = c_9 1 5 := wd_fv (z := 5) 5 rfl hW rfl rfl rfl rfl (by decide) rfl ⟨by omega, by omega⟩ ⟨by omega, by omega⟩
    refine q_aload_n rfl rfl ?_
    refine q_iconst rfl ?_
    refine v_pi (z := 0) rfl rfl rfl (by decide) rfl rfl rfl (by decide) ?_
    refine q_aload_n rfl rfl ?_
    refine q_iload_n rfl rfl ?_
    refine v_if_lt_f (t := 22) rfl (by decide) (by omega) ?_
    refine q_iload_n rfl rfl ?_
    refine q_aload_n rfl rfl ?_
    refine v_gi (z := 2) (v := t9) rfl rfl rfl (by decide) rfl rfl ((up_n (by decide)).trans (hr_t9)) ?_
    refine v_ic_gt_f (t := 22) rfl (by decide) (by omega) ?_
    refine q_iconst rfl ?_
    refine q_goto (t := 23) rfl (by decide) ?_
    refine q_iconst rfl ?_
    refine q_iconst rfl ?_
    refine v_cv rfl rfl rfl rfl (by decide) ⟨⟨rfl, rfl⟩, by decide, rfl⟩ (Nat.le_of_ble_eq_true rfl) (Nat.le_of_ble_eq_true rfl) ?_
    refine q_iload_n rfl rfl ?_
    refine v_if_ne_t (t := 26) rfl (by decide) (by decide) ?_
    refine q_aload_n rfl rfl ?_
    refine v_gi (z := 0) (v := 0) rfl rfl rfl (by decide) rfl rfl (up_e rfl) ?_
    refine v_if_ne_f (t := 37) rfl (by decide) (by decide) ?_
    refine q_iconst rfl ?_
    refine q_goto (t := 38) rfl (by decide) ?_
    refine v_zret rfl rfl (by decide) ?_
    refine bk_inl ?_
    refine v_if_ne_t (t := 33) rfl (by decide) (by decide) ?_
    refine q_aload_n rfl rfl ?_
    refine q_iload_n rfl rfl ?_
    have hI_22 := iw_41_0 (v := 0) hI ⟨by decide, by decide⟩
    refine v_cv rfl rfl rfl rfl (by decide) ⟨⟨rfl, rfl⟩, by decide, rfl⟩ (Nat.le_of_ble_eq_true rfl) (Nat.le_of_ble_eq_true rfl) (s_163 (a1 := a1) hI_22 (show 0 ≤ a1 ∧ a1 ≤ 600 from by omega) (fun c_23 hI_24 hF_25 h_26 => ?_))
    refine bk_inl ?_
    have h_27 := ir_41_2 hI_24
    have h_28 := ir_41_3 hI_24
    have h_29 := ir_41_4 hI_24
    have h_30 := ir_41_5 hI_24
    have h_31 := ir_41_7 hI_24
    refine q_aload_n rfl rfl ?_
    refine v_cv rfl rfl rfl rfl (by decide) ⟨⟨rfl, rfl⟩, by decide, rfl⟩ (Nat.le_of_ble_eq_true rfl) (Nat.le_of_ble_eq_true rfl) (s_147 hI_24 (fun c_32 hI_33 hF_34 h_35 => ?_))
    refine bk_inl ?_
    have h_36 := ir_41_16 hI_33
    have h_37 := ir_41_17 hI_33
    have h_38 := ir_41_18 hI_33
    refine q_iconst rfl ?_
    refine q_istore_n rfl (by decide) ?_
    refine Wp_ls [(0, .ref 41), (1, vi a1), (2, vi 0)] (lsub_cons rfl (lsub_cons rfl (lsub_cons rfl lsub_nil))) ?_
    have kn_39 : Hid (c_32 41 3 = c_23 41 3) := hF_34 41 3 (fun q => q.elim (fun h => absurd h.2 (ni rfl)) (fun q => q.elim (fun h => absurd h.2 (ni rfl)) (fun q => q.elim (fun h => absurd h.2 (ni rfl)) (fun h => absurd h.2 (ni rfl)))))
    have h_40 : (up (up (up (up (up m 1 1 y_3) 1 2 0) 1 3 0) 1 4 0) 1 5 (-1)) 1 4 = 0 := ((up_n (by decide)).trans (up_e rfl))
    have h_41 : (up (up (up (up (up m 1 1 y_3) 1 2 0) 1 3 0) 1 4 0) 1 5 (-1)) 1 2 = 0 := ((up_n (by decide)).trans ((up_n (by decide)).trans ((up_n (by decide)).trans (up_e rfl))))
    have h_42 : (up (up (up (up (up m 1 1 y_3) 1 2 0) 1 3 0) 1 4 0) 1 5 (-1)) 1 5 = (-1) := (up_e rfl)
    have kn_43 : Hid (c_32 41 5 = c_23 41 5) := hF_34 41 5 (fun q => q.elim (fun h => absurd h.2 (ni rfl)) (fun q => q.elim (fun h => absurd h.2 (ni rfl)) (fun q => q.elim (fun h => absurd h.2 (ni rfl)) (fun h => absurd h.2 (ni rfl)))))
    have h_44 : c_32 41 5 = c_23 41 5 := (hid kn_43)
    have kn_45 : Hid (c_32 41 4 = c_23 41 4) := hF_34 41 4 (fun q => q.elim (fun h => absurd h.2 (ni rfl)) (fun q => q.elim (fun h => absurd h.2 (ni rfl)) (fun q => q.elim (fun h => absurd h.2 (ni rfl)) (fun h => absurd h.2 (ni rfl)))))
    have h_46 : c_32 41 4 = c_23 41 4 := (hid kn_45)
    have h_47 := ir_41_6 hI
    have kn_48 : Hid (c_23 41 6 = c 41 6) := (hF_25 41 6 (fun q => q.elim (fun h => absurd h.2 (ni rfl)) (fun q => q.elim (fun h => absurd h.2 (ni rfl)) (fun q => q.elim (fun h => absurd h.2 (ni rfl)) (fun q => q.elim (fun h => absurd h.2 (ni rfl)) (fun q => q.elim (fun h => absurd h.2 (ni rfl)) (fun h => absurd h.2 (ni rfl)))))))).trans (up_n (by decide))
    have kn_49 : Hid (c_32 41 6 = c 41 6) := (hF_34 41 6 (fun q => q.elim (fun h => absurd h.2 (ni rfl)) (fun q => q.elim (fun h => absurd h.2 (ni rfl)) (fun q => q.elim (fun h => absurd h.2 (ni rfl)) (fun h => absurd h.2 (ni rfl)))))).trans (hid kn_48)
    have h_50 : c_32 41 6 = c 41 6 := (hid kn_49)
    refine L_34 (m := up (up (up (up (up m 1 1 y_3) 1 2 0) 1 3 0) 1 4 0) 1 5 (-1)) (a1 := a1) (e1 := y_3) (f0 := 0) (g0 := (-1)) (z0 := c_32 41 16) (z1 := c_32 41 17) (z2 := c_32 41 18) (F := F) (H := H) hI_33 hI_8 hI_10 hQ (show (-2147483648) ≤ a1 ∧ a1 ≤ 2147483647 from by omega) (by omega) (by omega) (by omega) (by omega) (by omega) (((up_n (by decide)).trans ((up_n (by decide)).trans ((up_n (by decide)).trans ((up_n (by decide)).trans (up_e rfl)))))) (((show _ = c_23 41 3 from (hid kn_39)).trans (by omega))) (((up_n (by decide)).trans (up_e rfl))) ((up_e rfl)) (rfl) (rfl) (rfl) (fun j => ((up_c (nn rfl)).trans ((up_c (nn rfl)).trans ((up_c (nn rfl)).trans ((up_c (nn rfl)).trans (up_c (nn rfl)))))).trans (hF j)) (fun j => ((hF_34 43 j (fun q => q.elim (fun h => absurd h.1 (nn rfl)) (fun q => q.elim (fun h => absurd h.1 (nn rfl)) (fun q => q.elim (fun h => absurd h.1 (nn rfl)) (fun h => absurd h.1 (nn rfl)))))).trans ((hF_25 43 j (fun q => q.elim (fun h => absurd h.1 (nn rfl)) (fun q => q.elim (fun h => absurd h.1 (nn rfl)) (fun q => q.elim (fun h => absurd h.1 (nn rfl)) (fun q => q.elim (fun h => absurd h.1 (nn rfl)) (fun q => q.elim (fun h => absurd h.1 (nn rfl)) (fun h => absurd h.1 (nn rfl)))))))).trans (up_c (nn rfl)))).trans (hH j)) hU (by unfold Rt; omega) hG_12 (fun c_51 hI_52 hF_53 hR_55 h_56 => ?_)
    have h_57 := ir_41_16 hI_52
    have h_58 := ir_p0_0 hI_10 hQ
    refine q_aload_n rfl rfl ?_
    refine q_aload_n rfl rfl ?_
    refine v_gi (z := 16) (v := c_51 41 16) rfl rfl rfl (by decide) rfl rfl rfl ?_
    refine v_cv rfl rfl rfl rfl (by decide) ⟨⟨rfl, rfl⟩, by decide, rfl⟩ (Nat.le_of_ble_eq_true rfl) (Nat.le_of_ble_eq_true rfl) ?_
    refine q_aload_n rfl rfl ?_
    refine q_aload_n rfl rfl ?_
    have h_59 := ir_41_5 hI_52
    have h_60 := ir_1_2 hI_10
    have h_61 := ir_41_4 hI_52
    have h_62 := ir_41_6 hI_52
    have h_63 := rt_bad hR_55 (by omega)
    have hrb_hR_55 := rt_bad hR_55 (by omega)
    refine v_gi (z := 5) (v := c_9 1 5) rfl rfl rfl (by decide) rfl rfl hrb_hR_55.2.1 ?_
    refine v_pi (z := 8) rfl rfl rfl (by decide) rfl rfl rfl (by decide) ?_
    refine q_aload_n rfl rfl ?_
    refine v_cv rfl rfl rfl rfl (by decide) ⟨⟨rfl, rfl⟩, by decide, rfl⟩ (Nat.le_of_ble_eq_true rfl) (Nat.le_of_ble_eq_true rfl) ?_
    refine q_aload_n rfl rfl ?_
    refine v_gi (z := 5) (v := c_9 1 5) rfl rfl rfl (by decide) rfl rfl (((up_n (by decide))).trans (hrb_hR_55.2.1)) ?_
    refine q_iconst rfl ?_
    refine v_ic_ne_t (t := 12) rfl (by decide) (by omega) ?_
    refine q_iconst rfl ?_
    refine v_zret rfl rfl (by decide) ?_
    refine bk_inl ?_
    refine v_if_eq_t (t := 19) rfl (by decide) (by decide) ?_
    refine q_aload_n rfl rfl ?_
    refine v_gi (z := 6) (v := c_9 1 4) rfl rfl rfl (by decide) rfl rfl (((up_n (by decide))).trans (hrb_hR_55.2.2.2)) ?_
    refine v_bip rfl (by decide) ?_
    refine v_isub (v := c_9 1 4 - 10) rfl (by omega) ?_
    refine q_iret rfl rfl ?_
    refine bk_inl ?_
    refine q_istore_n rfl (by decide) ?_
    refine q_aload_n rfl rfl ?_
    refine v_gi (z := 5) (v := c_9 1 5) rfl rfl rfl (by decide) rfl rfl (((up_n (by decide))).trans (hrb_hR_55.2.1)) ?_
    refine q_iconst rfl ?_
    refine v_ic_ne_t (t := 157) rfl (by decide) (by omega) ?_
    refine q_iload_n rfl rfl ?_
    refine q_iret rfl rfl ?_
    have hI_64 := iw_41_8 (v := c_9 1 5) hI_52 ⟨by omega, by omega⟩
    have kn_65 : Hid (c_32 41 2 = c_23 41 2) := hF_34 41 2 (fun q => q.elim (fun h => absurd h.2 (ni rfl)) (fun q => q.elim (fun h => absurd h.2 (ni rfl)) (fun q => q.elim (fun h => absurd h.2 (ni rfl)) (fun h => absurd h.2 (ni rfl)))))
    have kn_66 : Hid (c_51 41 2 = c_23 41 2) := (hF_53 41 2 (fun q => q.elim (fun h => absurd h.2 (ni rfl)) (fun q => q.elim (fun h => absurd h.2 (ni rfl)) (fun q => q.elim (fun h => absurd h.2 (ni rfl)) (fun q => q.elim (fun h => absurd h.2 (ni rfl)) (fun q => q.elim (fun h => absurd h.2 (ni rfl)) (fun q => q.elim (fun h => absurd h.2 (ni rfl)) (fun q => q.elim (fun h => absurd h.2 (ni rfl)) (fun q => q.elim (fun h => absurd h (nn rfl)) (fun q => q.elim (fun h => absurd h (nn rfl)) (fun h => absurd h (nn rfl)))))))))))).trans (hid kn_65)
    have h_67 : (up c_51 41 8 (c_9 1 5)) 41 2 = c_23 41 2 := ((up_n (by decide)).trans (hid kn_66))
    have h_68 : (up c_51 41 8 (c_9 1 5)) 41 8 = c_9 1 5 := (up_e rfl)
    have kn_69 : Hid (c_23 41 0 = 0) := (hF_25 41 0 (fun q => q.elim (fun h => absurd h.2 (ni rfl)) (fun q => q.elim (fun h => absurd h.2 (ni rfl)) (fun q => q.elim (fun h => absurd h.2 (ni rfl)) (fun q => q.elim (fun h => absurd h.2 (ni rfl)) (fun q => q.elim (fun h => absurd h.2 (ni rfl)) (fun h => absurd h.2 (ni rfl)))))))).trans (up_e rfl)
    have kn_70 : Hid (c_32 41 0 = 0) := (hF_34 41 0 (fun q => q.elim (fun h => absurd h.2 (ni rfl)) (fun q => q.elim (fun h => absurd h.2 (ni rfl)) (fun q => q.elim (fun h => absurd h.2 (ni rfl)) (fun h => absurd h.2 (ni rfl)))))).trans (hid kn_69)
    have kn_71 : Hid (c_51 41 0 = 0) := (hF_53 41 0 (fun q => q.elim (fun h => absurd h.2 (ni rfl)) (fun q => q.elim (fun h => absurd h.2 (ni rfl)) (fun q => q.elim (fun h => absurd h.2 (ni rfl)) (fun q => q.elim (fun h => absurd h.2 (ni rfl)) (fun q => q.elim (fun h => absurd h.2 (ni rfl)) (fun q => q.elim (fun h => absurd h.2 (ni rfl)) (fun q => q.elim (fun h => absurd h.2 (ni rfl)) (fun q => q.elim (fun h => absurd h (nn rfl)) (fun q => q.elim (fun h => absurd h (nn rfl)) (fun h => absurd h (nn rfl)))))))))))).trans (hid kn_70)
    have h_72 : (up c_51 41 8 (c_9 1 5)) 41 0 = 0 := ((up_n (by decide)).trans (hid kn_71))
    exact K (up c_51 41 8 (c_9 1 5)) (c_9 1 4 - 10) hI_64 (fun a j hm => (up_b (Decidable.or_iff_not_imp_left.mpr (fun h1 h2 => hm (Or.inr (Or.inr (Or.inr (Or.inr (Or.inr (Or.inr (Or.inr (Or.inr (Or.inl ⟨Decidable.not_not.mp h1, h2⟩)))))))))))).trans ((hF_53 a j (fun q => q.elim (fun h => hm (Or.inr (Or.inr (Or.inr (Or.inr (Or.inl h)))))) (fun q => q.elim (fun h => hm (Or.inr (Or.inr (Or.inr (Or.inr (Or.inr (Or.inl h))))))) (fun q => q.elim (fun h => hm (Or.inr (Or.inr (Or.inr (Or.inr (Or.inr (Or.inr (Or.inl h)))))))) (fun q => q.elim (fun h => hm (Or.inr (Or.inr (Or.inr (Or.inr (Or.inr (Or.inr (Or.inr (Or.inr (Or.inr (Or.inl h))))))))))) (fun q => q.elim (fun h => hm (Or.inr (Or.inr (Or.inr (Or.inr (Or.inr (Or.inr (Or.inr (Or.inr (Or.inr (Or.inr (Or.inl h)))))))))))) (fun q => q.elim (fun h => hm (Or.inr (Or.inr (Or.inr (Or.inr (Or.inr (Or.inr (Or.inr (Or.inr (Or.inr (Or.inr (Or.inr (Or.inl h))))))))))))) (fun q => q.elim (fun h => hm (Or.inr (Or.inr (Or.inr (Or.inr (Or.inr (Or.inr (Or.inr (Or.inr (Or.inr (Or.inr (Or.inr (Or.inr (Or.inl h)))))))))))))) (fun q => q.elim (fun h => hm (Or.inr (Or.inr (Or.inr (Or.inr (Or.inr (Or.inr (Or.inr (Or.inr (Or.inr (Or.inr (Or.inr (Or.inr (Or.inr (Or.inl h))))))))))))))) (fun q => q.elim (fun h => hm (Or.inr (Or.inr (Or.inr (Or.inr (Or.inr (Or.inr (Or.inr (Or.inr (Or.inr (Or.inr (Or.inr (Or.inr (Or.inr (Or.inr (Or.inl h)))))))))))))))) (fun h => hm (Or.inr (Or.inr (Or.inr (Or.inr (Or.inr (Or.inr (Or.inr (Or.inr (Or.inr (Or.inr (Or.inr (Or.inr (Or.inr (Or.inr (Or.inr (Or.inl h))))))))))))))))))))))))))).trans ((hF_34 a j (fun q => q.elim (fun h => hm (Or.inr (Or.inr (Or.inr (Or.inr (Or.inr (Or.inr (Or.inr (Or.inr (Or.inr (Or.inl h))))))))))) (fun q => q.elim (fun h => hm (Or.inr (Or.inr (Or.inr (Or.inr (Or.inr (Or.inr (Or.inr (Or.inr (Or.inr (Or.inr (Or.inl h)))))))))))) (fun q => q.elim (fun h => hm (Or.inr (Or.inr (Or.inr (Or.inr (Or.inr (Or.inr (Or.inr (Or.inr (Or.inr (Or.inr (Or.inr (Or.inl h))))))))))))) (fun h => hm (Or.inr (Or.inr (Or.inr (Or.inr (Or.inr (Or.inr (Or.inr (Or.inr (Or.inr (Or.inr (Or.inr (Or.inr (Or.inl h)))))))))))))))))).trans ((hF_25 a j (fun q => q.elim (fun h => hm (Or.inr (Or.inr (Or.inl h)))) (fun q => q.elim (fun h => hm (Or.inr (Or.inr (Or.inr (Or.inl h))))) (fun q => q.elim (fun h => hm (Or.inr (Or.inr (Or.inr (Or.inr (Or.inl h)))))) (fun q => q.elim (fun h => hm (Or.inr (Or.inr (Or.inr (Or.inr (Or.inr (Or.inl h))))))) (fun q => q.elim (fun h => hm (Or.inr (Or.inr (Or.inr (Or.inr (Or.inr (Or.inr (Or.inr (Or.inl h))))))))) (fun h => hm (Or.inr (Or.inr (Or.inr (Or.inr (Or.inr (Or.inr (Or.inr (Or.inr (Or.inl h)))))))))))))))).trans (up_b (Decidable.or_iff_not_imp_left.mpr (fun h1 h2 => hm (Or.inl ⟨Decidable.not_not.mp h1, h2⟩)))))))) ⟨by omega, by omega⟩ (by omega) (by omega) (by omega) (by omega)
  · refine v_if_ne_f (t := 11) rfl (by decide) (by omega) ?_
    refine q_iconst rfl ?_
    refine q_goto (t := 12) rfl (by decide) ?_
    refine v_zret rfl rfl (by decide) ?_
    refine bk_inl ?_
    refine v_if_eq_f (t := 81) rfl (by decide) (by decide) ?_
    refine q_aload_n rfl rfl ?_
    refine v_gr (t := P) rfl rfl rfl (by decide) rfl ?_
    refine q_astore_n rfl (by decide) ?_
    refine q_aload_n rfl rfl ?_
    refine q_aload_n rfl rfl ?_
    refine v_gr (t := Q) rfl rfl rfl (by decide) rfl ?_
    refine v_pr (P' := Q) (Q' := Q) (N' := P) (T' := P) rfl rfl rfl rfl (by decide) (Nat.lt_of_succ_le (Nat.le_of_ble_eq_true rfl)) (fun c => rfl) rfl (by decide) (fun b hb => ck_x0 hb) ?_
    refine q_aload_n rfl rfl ?_
    refine q_aload_n rfl rfl ?_
    refine v_pr (P' := Q) (Q' := P) (N' := P) (T' := P) rfl rfl rfl rfl (by decide) (Nat.lt_of_succ_le (Nat.le_of_ble_eq_true rfl)) (fun c => rfl) rfl (by decide) (fun b hb => ck_x0 hb) ?_
    refine Wp_ls [(0, .ref 0)] (lsub_cons rfl lsub_nil) ?_
    have h_73 := ir_p0_0 hI_10 hQ
    refine s_84u (P := Q) (Q := P) (iv_swap hI_10) (fun c_74 y_75 hI_76 hF_77 hy_78 h_79 => ?_)
    intro hE_80
    have h_81 : yg = y_75 := (vi_inj ⟨by omega, by omega⟩ ⟨by omega, by omega⟩ (Option.some.inj (Sum.inl.inj (Prod.mk.inj hE_80).1))).symm
    have hW : Wd Q P Q Q c_74 = Wd P9 Q9 P9 P9 m9 := (Prod.mk.inj (Prod.mk.inj hE_80).2).1
    have h_82 := ir_1_5 hI_10
    have kn_83 : Hid (c_74 1 5 = c_9 1 5) := hF_77 1 5 (fun q => q.elim (fun h => absurd h (nn rfl)) (fun q => q.elim (fun h => absurd h (nn rfl)) (fun q => q.elim (fun h => absurd h.1 (nn rfl)) (fun q => q.elim (fun h => absurd h.1 (nn rfl)) (fun h => absurd h.1 (nn rfl))))))
    have h_84 := ir_1_5 hJ9
    have h_85 : m9 1 5 = c_9 1 5 := wd_fv (z := 5) 5 rfl hW rfl rfl rfl rfl (by decide) (hid kn_83) ⟨by omega, by omega⟩ ⟨by omega, by omega⟩
    refine q_aload_n rfl rfl ?_
    refine q_iconst rfl ?_
    refine v_pi (z := 0) rfl rfl rfl (by decide) rfl rfl rfl (by decide) ?_
    refine q_aload_n rfl rfl ?_
    refine q_iload_n rfl rfl ?_
    refine v_if_lt_f (t := 22) rfl (by decide) (by omega) ?_
    refine q_iload_n rfl rfl ?_
    refine q_aload_n rfl rfl ?_
    refine v_gi (z := 2) (v := t9) rfl rfl rfl (by decide) rfl rfl ((up_n (by decide)).trans (hr_t9)) ?_
    refine v_ic_gt_f (t := 22) rfl (by decide) (by omega) ?_
    refine q_iconst rfl ?_
    refine q_goto (t := 23) rfl (by decide) ?_
    refine q_iconst rfl ?_
    refine q_iconst rfl ?_
    refine v_cv rfl rfl rfl rfl (by decide) ⟨⟨rfl, rfl⟩, by decide, rfl⟩ (Nat.le_of_ble_eq_true rfl) (Nat.le_of_ble_eq_true rfl) ?_
    refine q_iload_n rfl rfl ?_
    refine v_if_ne_t (t := 26) rfl (by decide) (by decide) ?_
    refine q_aload_n rfl rfl ?_
    refine v_gi (z := 0) (v := 0) rfl rfl rfl (by decide) rfl rfl (up_e rfl) ?_
    refine v_if_ne_f (t := 37) rfl (by decide) (by decide) ?_
    refine q_iconst rfl ?_
    refine q_goto (t := 38) rfl (by decide) ?_
    refine v_zret rfl rfl (by decide) ?_
    refine bk_inl ?_
    refine v_if_ne_t (t := 33) rfl (by decide) (by decide) ?_
    refine q_aload_n rfl rfl ?_
    refine q_iload_n rfl rfl ?_
    have hI_86 := iw_41_0 (v := 0) hI ⟨by decide, by decide⟩
    refine v_cv rfl rfl rfl rfl (by decide) ⟨⟨rfl, rfl⟩, by decide, rfl⟩ (Nat.le_of_ble_eq_true rfl) (Nat.le_of_ble_eq_true rfl) (s_163 (a1 := a1) hI_86 (show 0 ≤ a1 ∧ a1 ≤ 600 from by omega) (fun c_87 hI_88 hF_89 h_90 => ?_))
    refine bk_inl ?_
    have h_91 := ir_41_2 hI_88
    have h_92 := ir_41_3 hI_88
    have h_93 := ir_41_4 hI_88
    have h_94 := ir_41_5 hI_88
    have h_95 := ir_41_7 hI_88
    refine q_aload_n rfl rfl ?_
    refine v_cv rfl rfl rfl rfl (by decide) ⟨⟨rfl, rfl⟩, by decide, rfl⟩ (Nat.le_of_ble_eq_true rfl) (Nat.le_of_ble_eq_true rfl) (s_147 hI_88 (fun c_96 hI_97 hF_98 h_99 => ?_))
    refine bk_inl ?_
    have h_100 := ir_41_16 hI_97
    have h_101 := ir_41_17 hI_97
    have h_102 := ir_41_18 hI_97
    refine q_iconst rfl ?_
    refine q_istore_n rfl (by decide) ?_
    refine Wp_ls [(0, .ref 41), (1, vi a1), (2, vi 0)] (lsub_cons rfl (lsub_cons rfl (lsub_cons rfl lsub_nil))) ?_
    have kn_103 : Hid (c_96 41 3 = c_87 41 3) := hF_98 41 3 (fun q => q.elim (fun h => absurd h.2 (ni rfl)) (fun q => q.elim (fun h => absurd h.2 (ni rfl)) (fun q => q.elim (fun h => absurd h.2 (ni rfl)) (fun h => absurd h.2 (ni rfl)))))
    have h_104 : (up (up (up (up (up m 1 1 y_3) 1 2 0) 1 3 0) 1 4 0) 1 5 (-1)) 1 4 = 0 := ((up_n (by decide)).trans (up_e rfl))
    have h_105 : (up (up (up (up (up m 1 1 y_3) 1 2 0) 1 3 0) 1 4 0) 1 5 (-1)) 1 2 = 0 := ((up_n (by decide)).trans ((up_n (by decide)).trans ((up_n (by decide)).trans (up_e rfl))))
    have h_106 : (up (up (up (up (up m 1 1 y_3) 1 2 0) 1 3 0) 1 4 0) 1 5 (-1)) 1 5 = (-1) := (up_e rfl)
    have kn_107 : Hid (c_96 41 5 = c_87 41 5) := hF_98 41 5 (fun q => q.elim (fun h => absurd h.2 (ni rfl)) (fun q => q.elim (fun h => absurd h.2 (ni rfl)) (fun q => q.elim (fun h => absurd h.2 (ni rfl)) (fun h => absurd h.2 (ni rfl)))))
    have h_108 : c_96 41 5 = c_87 41 5 := (hid kn_107)
    have kn_109 : Hid (c_96 41 4 = c_87 41 4) := hF_98 41 4 (fun q => q.elim (fun h => absurd h.2 (ni rfl)) (fun q => q.elim (fun h => absurd h.2 (ni rfl)) (fun q => q.elim (fun h => absurd h.2 (ni rfl)) (fun h => absurd h.2 (ni rfl)))))
    have h_110 : c_96 41 4 = c_87 41 4 := (hid kn_109)
    have h_111 := ir_41_6 hI
    have kn_112 : Hid (c_87 41 6 = c 41 6) := (hF_89 41 6 (fun q => q.elim (fun h => absurd h.2 (ni rfl)) (fun q => q.elim (fun h => absurd h.2 (ni rfl)) (fun q => q.elim (fun h => absurd h.2 (ni rfl)) (fun q => q.elim (fun h => absurd h.2 (ni rfl)) (fun q => q.elim (fun h => absurd h.2 (ni rfl)) (fun h => absurd h.2 (ni rfl)))))))).trans (up_n (by decide))
    have kn_113 : Hid (c_96 41 6 = c 41 6) := (hF_98 41 6 (fun q => q.elim (fun h => absurd h.2 (ni rfl)) (fun q => q.elim (fun h => absurd h.2 (ni rfl)) (fun q => q.elim (fun h => absurd h.2 (ni rfl)) (fun h => absurd h.2 (ni rfl)))))).trans (hid kn_112)
    have h_114 : c_96 41 6 = c 41 6 := (hid kn_113)
    refine L_34 (m := up (up (up (up (up m 1 1 y_3) 1 2 0) 1 3 0) 1 4 0) 1 5 (-1)) (a1 := a1) (e1 := y_3) (f0 := 0) (g0 := (-1)) (z0 := c_96 41 16) (z1 := c_96 41 17) (z2 := c_96 41 18) (F := F) (H := H) hI_97 hI_8 hI_10 hQ (show (-2147483648) ≤ a1 ∧ a1 ≤ 2147483647 from by omega) (by omega) (by omega) (by omega) (by omega) (by omega) (((up_n (by decide)).trans ((up_n (by decide)).trans ((up_n (by decide)).trans ((up_n (by decide)).trans (up_e rfl)))))) (((show _ = c_87 41 3 from (hid kn_103)).trans (by omega))) (((up_n (by decide)).trans (up_e rfl))) ((up_e rfl)) (rfl) (rfl) (rfl) (fun j => ((up_c (nn rfl)).trans ((up_c (nn rfl)).trans ((up_c (nn rfl)).trans ((up_c (nn rfl)).trans (up_c (nn rfl)))))).trans (hF j)) (fun j => ((hF_98 43 j (fun q => q.elim (fun h => absurd h.1 (nn rfl)) (fun q => q.elim (fun h => absurd h.1 (nn rfl)) (fun q => q.elim (fun h => absurd h.1 (nn rfl)) (fun h => absurd h.1 (nn rfl)))))).trans ((hF_89 43 j (fun q => q.elim (fun h => absurd h.1 (nn rfl)) (fun q => q.elim (fun h => absurd h.1 (nn rfl)) (fun q => q.elim (fun h => absurd h.1 (nn rfl)) (fun q => q.elim (fun h => absurd h.1 (nn rfl)) (fun q => q.elim (fun h => absurd h.1 (nn rfl)) (fun h => absurd h.1 (nn rfl)))))))).trans (up_c (nn rfl)))).trans (hH j)) hU (by unfold Rt; omega) hG_12 (fun c_115 hI_116 hF_117 hR_119 h_120 => ?_)
    have h_121 := ir_41_16 hI_116
    refine q_aload_n rfl rfl ?_
    refine q_aload_n rfl rfl ?_
    refine v_gi (z := 16) (v := c_115 41 16) rfl rfl rfl (by decide) rfl rfl rfl ?_
    refine v_cv rfl rfl rfl rfl (by decide) ⟨⟨rfl, rfl⟩, by decide, rfl⟩ (Nat.le_of_ble_eq_true rfl) (Nat.le_of_ble_eq_true rfl) ?_
    refine q_aload_n rfl rfl ?_
    refine q_aload_n rfl rfl ?_
    have h_122 := ir_41_5 hI_116
    have h_123 := ir_1_2 hI_10
    have h_124 := ir_41_4 hI_116
    have h_125 := ir_41_6 hI_116
    have h_126 := rt_ok hR_119 (by omega)
    have hro_hR_119 := rt_ok hR_119 (by omega)
    refine v_gi (z := 5) (v := (-1)) rfl rfl rfl (by decide) rfl rfl hro_hR_119.2.1 ?_
    refine v_pi (z := 8) rfl rfl rfl (by decide) rfl rfl rfl (by decide) ?_
    refine q_aload_n rfl rfl ?_
    refine v_cv rfl rfl rfl rfl (by decide) ⟨⟨rfl, rfl⟩, by decide, rfl⟩ (Nat.le_of_ble_eq_true rfl) (Nat.le_of_ble_eq_true rfl) ?_
    refine q_aload_n rfl rfl ?_
    refine v_gi (z := 5) (v := (-1)) rfl rfl rfl (by decide) rfl rfl (((up_n (by decide))).trans (hro_hR_119.2.1)) ?_
    refine q_iconst rfl ?_
    refine v_ic_ne_f (t := 12) rfl (by decide) (by decide) ?_
    refine q_iconst rfl ?_
    refine q_goto (t := 13) rfl (by decide) ?_
    refine v_zret rfl rfl (by decide) ?_
    refine bk_inl ?_
    refine v_if_eq_f (t := 19) rfl (by decide) (by decide) ?_
    refine q_iload_n rfl rfl ?_
    refine q_goto (t := 26) rfl (by decide) ?_
    refine q_iret rfl rfl ?_
    refine bk_inl ?_
    refine q_istore_n rfl (by decide) ?_
    refine q_aload_n rfl rfl ?_
    refine v_gi (z := 5) (v := (-1)) rfl rfl rfl (by decide) rfl rfl (((up_n (by decide))).trans (hro_hR_119.2.1)) ?_
    refine q_iconst rfl ?_
    refine v_ic_ne_f (t := 157) rfl (by decide) (by decide) ?_
    refine q_aload_n rfl rfl ?_
    have hI_127 := iw_41_8 (v := (-1)) hI_116 ⟨by decide, by decide⟩
    refine v_cv rfl rfl rfl rfl (by decide) ⟨⟨rfl, rfl⟩, by decide, rfl⟩ (Nat.le_of_ble_eq_true rfl) (Nat.le_of_ble_eq_true rfl) (s_149 (iv_open hI_127) (fun c_128 hI_129 hF_130 => ?_))
    refine bk_inl ?_
    refine q_iload_n rfl rfl ?_
    refine q_iret rfl rfl ?_
    have kn_131 : Hid (c_96 41 2 = c_87 41 2) := hF_98 41 2 (fun q => q.elim (fun h => absurd h.2 (ni rfl)) (fun q => q.elim (fun h => absurd h.2 (ni rfl)) (fun q => q.elim (fun h => absurd h.2 (ni rfl)) (fun h => absurd h.2 (ni rfl)))))
    have kn_132 : Hid (c_115 41 2 = c_87 41 2) := (hF_117 41 2 (fun q => q.elim (fun h => absurd h.2 (ni rfl)) (fun q => q.elim (fun h => absurd h.2 (ni rfl)) (fun q => q.elim (fun h => absurd h.2 (ni rfl)) (fun q => q.elim (fun h => absurd h.2 (ni rfl)) (fun q => q.elim (fun h => absurd h.2 (ni rfl)) (fun q => q.elim (fun h => absurd h.2 (ni rfl)) (fun q => q.elim (fun h => absurd h.2 (ni rfl)) (fun q => q.elim (fun h => absurd h (nn rfl)) (fun q => q.elim (fun h => absurd h (nn rfl)) (fun h => absurd h (nn rfl)))))))))))).trans (hid kn_131)
    have kn_133 : Hid (c_128 41 2 = c_87 41 2) := (hF_130 41 2 (fun q => q.elim (fun h => absurd h.2 (ni rfl)) (fun q => q.elim (fun h => absurd h.2 (ni rfl)) (fun q => q.elim (fun h => absurd h.2 (ni rfl)) (fun q => q.elim (fun h => absurd h.2 (ni rfl)) (fun q => q.elim (fun h => absurd h.2 (ni rfl)) (fun q => q.elim (fun h => absurd h.2 (ni rfl)) (fun q => q.elim (fun h => absurd h.2 (ni rfl)) (fun q => q.elim (fun h => absurd h.2 (ni rfl)) (fun q => q.elim (fun h => absurd h.2 (ni rfl)) (fun q => q.elim (fun h => absurd h.2 (ni rfl)) (fun q => q.elim (fun h => absurd h (nn rfl)) (fun q => q.elim (fun h => absurd h (nn rfl)) (fun q => q.elim (fun h => absurd h (nn rfl)) (fun q => q.elim (fun h => absurd h (nn rfl)) (fun h => absurd h (nn rfl))))))))))))))))).trans ((up_n (by decide)).trans (hid kn_132))
    have h_134 : c_128 41 2 = c_87 41 2 := (hid kn_133)
    have kn_135 : Hid (c_128 41 8 = (-1)) := (hF_130 41 8 (fun q => q.elim (fun h => absurd h.2 (ni rfl)) (fun q => q.elim (fun h => absurd h.2 (ni rfl)) (fun q => q.elim (fun h => absurd h.2 (ni rfl)) (fun q => q.elim (fun h => absurd h.2 (ni rfl)) (fun q => q.elim (fun h => absurd h.2 (ni rfl)) (fun q => q.elim (fun h => absurd h.2 (ni rfl)) (fun q => q.elim (fun h => absurd h.2 (ni rfl)) (fun q => q.elim (fun h => absurd h.2 (ni rfl)) (fun q => q.elim (fun h => absurd h.2 (ni rfl)) (fun q => q.elim (fun h => absurd h.2 (ni rfl)) (fun q => q.elim (fun h => absurd h (nn rfl)) (fun q => q.elim (fun h => absurd h (nn rfl)) (fun q => q.elim (fun h => absurd h (nn rfl)) (fun q => q.elim (fun h => absurd h (nn rfl)) (fun h => absurd h (nn rfl))))))))))))))))).trans (up_e rfl)
    have h_136 : c_128 41 8 = (-1) := (hid kn_135)
    have kn_137 : Hid (c_87 41 0 = 0) := (hF_89 41 0 (fun q => q.elim (fun h => absurd h.2 (ni rfl)) (fun q => q.elim (fun h => absurd h.2 (ni rfl)) (fun q => q.elim (fun h => absurd h.2 (ni rfl)) (fun q => q.elim (fun h => absurd h.2 (ni rfl)) (fun q => q.elim (fun h => absurd h.2 (ni rfl)) (fun h => absurd h.2 (ni rfl)))))))).trans (up_e rfl)
    have kn_138 : Hid (c_96 41 0 = 0) := (hF_98 41 0 (fun q => q.elim (fun h => absurd h.2 (ni rfl)) (fun q => q.elim (fun h => absurd h.2 (ni rfl)) (fun q => q.elim (fun h => absurd h.2 (ni rfl)) (fun h => absurd h.2 (ni rfl)))))).trans (hid kn_137)
    have kn_139 : Hid (c_115 41 0 = 0) := (hF_117 41 0 (fun q => q.elim (fun h => absurd h.2 (ni rfl)) (fun q => q.elim (fun h => absurd h.2 (ni rfl)) (fun q => q.elim (fun h => absurd h.2 (ni rfl)) (fun q => q.elim (fun h => absurd h.2 (ni rfl)) (fun q => q.elim (fun h => absurd h.2 (ni rfl)) (fun q => q.elim (fun h => absurd h.2 (ni rfl)) (fun q => q.elim (fun h => absurd h.2 (ni rfl)) (fun q => q.elim (fun h => absurd h (nn rfl)) (fun q => q.elim (fun h => absurd h (nn rfl)) (fun h => absurd h (nn rfl)))))))))))).trans (hid kn_138)
    have kn_140 : Hid (c_128 41 0 = 0) := (hF_130 41 0 (fun q => q.elim (fun h => absurd h.2 (ni rfl)) (fun q => q.elim (fun h => absurd h.2 (ni rfl)) (fun q => q.elim (fun h => absurd h.2 (ni rfl)) (fun q => q.elim (fun h => absurd h.2 (ni rfl)) (fun q => q.elim (fun h => absurd h.2 (ni rfl)) (fun q => q.elim (fun h => absurd h.2 (ni rfl)) (fun q => q.elim (fun h => absurd h.2 (ni rfl)) (fun q => q.elim (fun h => absurd h.2 (ni rfl)) (fun q => q.elim (fun h => absurd h.2 (ni rfl)) (fun q => q.elim (fun h => absurd h.2 (ni rfl)) (fun q => q.elim (fun h => absurd h (nn rfl)) (fun q => q.elim (fun h => absurd h (nn rfl)) (fun q => q.elim (fun h => absurd h (nn rfl)) (fun q => q.elim (fun h => absurd h (nn rfl)) (fun h => absurd h (nn rfl))))))))))))))))).trans ((up_n (by decide)).trans (hid kn_139))
    have h_141 : c_128 41 0 = 0 := (hid kn_140)
    exact K c_128 (c_115 41 16) hI_129 (fun a j hm => (hF_130 a j (fun q => q.elim (fun h => hm (Or.inr (Or.inr (Or.inr (Or.inr (Or.inr (Or.inr (Or.inr (Or.inr (Or.inr (Or.inr (Or.inr (Or.inr (Or.inr (Or.inr (Or.inr (Or.inr (Or.inl h)))))))))))))))))) (fun q => q.elim (fun h => hm (Or.inr (Or.inr (Or.inr (Or.inr (Or.inr (Or.inr (Or.inr (Or.inr (Or.inr (Or.inr (Or.inr (Or.inr (Or.inr (Or.inr (Or.inr (Or.inr (Or.inr (Or.inl h))))))))))))))))))) (fun q => q.elim (fun h => hm (Or.inr (Or.inr (Or.inr (Or.inr (Or.inr (Or.inr (Or.inr (Or.inr (Or.inr (Or.inr (Or.inr (Or.inr (Or.inr (Or.inr (Or.inr (Or.inr (Or.inr (Or.inr (Or.inl h)))))))))))))))))))) (fun q => q.elim (fun h => hm (Or.inr (Or.inr (Or.inr (Or.inr (Or.inr (Or.inr (Or.inr (Or.inr (Or.inr (Or.inr (Or.inr (Or.inr (Or.inr (Or.inr (Or.inr (Or.inr (Or.inr (Or.inr (Or.inr (Or.inl h))))))))))))))))))))) (fun q => q.elim (fun h => hm (Or.inr (Or.inr (Or.inr (Or.inr (Or.inr (Or.inr (Or.inr (Or.inr (Or.inr (Or.inr (Or.inr (Or.inr (Or.inr (Or.inr (Or.inr (Or.inr (Or.inr (Or.inr (Or.inr (Or.inr (Or.inl h)))))))))))))))))))))) (fun q => q.elim (fun h => hm (Or.inr (Or.inr (Or.inr (Or.inr (Or.inr (Or.inr (Or.inr (Or.inr (Or.inr (Or.inr (Or.inr (Or.inr (Or.inr (Or.inr (Or.inr (Or.inr (Or.inr (Or.inr (Or.inr (Or.inr (Or.inr (Or.inl h))))))))))))))))))))))) (fun q => q.elim (fun h => hm (Or.inr (Or.inr (Or.inr (Or.inr (Or.inr (Or.inr (Or.inr (Or.inr (Or.inr (Or.inr (Or.inr (Or.inr (Or.inr (Or.inr (Or.inr (Or.inr (Or.inr (Or.inr (Or.inr (Or.inr (Or.inr (Or.inr (Or.inl h)))))))))))))))))))))))) (fun q => q.elim (fun h => hm (Or.inr (Or.inr (Or.inr (Or.inr (Or.inr (Or.inr (Or.inr (Or.inr (Or.inr (Or.inr (Or.inr (Or.inr (Or.inr (Or.inr (Or.inr (Or.inr (Or.inr (Or.inr (Or.inr (Or.inr (Or.inr (Or.inr (Or.inr (Or.inl h))))))))))))))))))))))))) (fun q => q.elim (fun h => hm (Or.inr (Or.inr (Or.inr (Or.inr (Or.inr (Or.inr (Or.inr (Or.inr (Or.inr (Or.inr (Or.inr (Or.inr (Or.inr (Or.inr (Or.inr (Or.inr (Or.inr (Or.inr (Or.inr (Or.inr (Or.inr (Or.inr (Or.inr (Or.inr (Or.inl h)))))))))))))))))))))))))) (fun q => q.elim (fun h => hm (Or.inr (Or.inr (Or.inr (Or.inr (Or.inr (Or.inr (Or.inr (Or.inr (Or.inr (Or.inr (Or.inr (Or.inr (Or.inr (Or.inr (Or.inr (Or.inr (Or.inr (Or.inr (Or.inr (Or.inr (Or.inr (Or.inr (Or.inr (Or.inr (Or.inr (Or.inl h))))))))))))))))))))))))))) (fun q => q.elim (fun h => hm (Or.inr (Or.inr (Or.inr (Or.inr (Or.inr (Or.inr (Or.inr (Or.inr (Or.inr (Or.inr (Or.inr (Or.inr (Or.inr (Or.inr (Or.inr (Or.inr (Or.inr (Or.inr (Or.inr (Or.inr (Or.inr (Or.inr (Or.inr (Or.inr (Or.inr (Or.inr (Or.inl h)))))))))))))))))))))))))))) (fun q => q.elim (fun h => hm (Or.inr (Or.inr (Or.inr (Or.inr (Or.inr (Or.inr (Or.inr (Or.inr (Or.inr (Or.inr (Or.inr (Or.inr (Or.inr (Or.inr (Or.inr (Or.inr (Or.inr (Or.inr (Or.inr (Or.inr (Or.inr (Or.inr (Or.inr (Or.inr (Or.inr (Or.inr (Or.inr (Or.inl h))))))))))))))))))))))))))))) (fun q => q.elim (fun h => hm (Or.inr (Or.inr (Or.inr (Or.inr (Or.inr (Or.inr (Or.inr (Or.inr (Or.inr (Or.inr (Or.inr (Or.inr (Or.inr (Or.inr (Or.inr (Or.inr (Or.inr (Or.inr (Or.inr (Or.inr (Or.inr (Or.inr (Or.inr (Or.inr (Or.inr (Or.inr (Or.inr (Or.inr (Or.inl h)))))))))))))))))))))))))))))) (fun q => q.elim (fun h => hm (Or.inr (Or.inr (Or.inr (Or.inr (Or.inr (Or.inr (Or.inr (Or.inr (Or.inr (Or.inr (Or.inr (Or.inr (Or.inr (Or.inr (Or.inr (Or.inr (Or.inr (Or.inr (Or.inr (Or.inr (Or.inr (Or.inr (Or.inr (Or.inr (Or.inr (Or.inr (Or.inr (Or.inr (Or.inr (Or.inl h))))))))))))))))))))))))))))))) (fun h => hm (Or.inr (Or.inr (Or.inr (Or.inr (Or.inr (Or.inr (Or.inr (Or.inr (Or.inr (Or.inr (Or.inr (Or.inr (Or.inr (Or.inr (Or.inr (Or.inr (Or.inr (Or.inr (Or.inr (Or.inr (Or.inr (Or.inr (Or.inr (Or.inr (Or.inr (Or.inr (Or.inr (Or.inr (Or.inr (Or.inr h)))))))))))))))))))))))))))))))))))))))))))))).trans ((up_b (Decidable.or_iff_not_imp_left.mpr (fun h1 h2 => hm (Or.inr (Or.inr (Or.inr (Or.inr (Or.inr (Or.inr (Or.inr (Or.inr (Or.inl ⟨Decidable.not_not.mp h1, h2⟩)))))))))))).trans ((hF_117 a j (fun q => q.elim (fun h => hm (Or.inr (Or.inr (Or.inr (Or.inr (Or.inl h)))))) (fun q => q.elim (fun h => hm (Or.inr (Or.inr (Or.inr (Or.inr (Or.inr (Or.inl h))))))) (fun q => q.elim (fun h => hm (Or.inr (Or.inr (Or.inr (Or.inr (Or.inr (Or.inr (Or.inl h)))))))) (fun q => q.elim (fun h => hm (Or.inr (Or.inr (Or.inr (Or.inr (Or.inr (Or.inr (Or.inr (Or.inr (Or.inr (Or.inl h))))))))))) (fun q => q.elim (fun h => hm (Or.inr (Or.inr (Or.inr (Or.inr (Or.inr (Or.inr (Or.inr (Or.inr (Or.inr (Or.inr (Or.inl h)))))))))))) (fun q => q.elim (fun h => hm (Or.inr (Or.inr (Or.inr (Or.inr (Or.inr (Or.inr (Or.inr (Or.inr (Or.inr (Or.inr (Or.inr (Or.inl h))))))))))))) (fun q => q.elim (fun h => hm (Or.inr (Or.inr (Or.inr (Or.inr (Or.inr (Or.inr (Or.inr (Or.inr (Or.inr (Or.inr (Or.inr (Or.inr (Or.inl h)))))))))))))) (fun q => q.elim (fun h => hm (Or.inr (Or.inr (Or.inr (Or.inr (Or.inr (Or.inr (Or.inr (Or.inr (Or.inr (Or.inr (Or.inr (Or.inr (Or.inr (Or.inl h))))))))))))))) (fun q => q.elim (fun h => hm (Or.inr (Or.inr (Or.inr (Or.inr (Or.inr (Or.inr (Or.inr (Or.inr (Or.inr (Or.inr (Or.inr (Or.inr (Or.inr (Or.inr (Or.inl h)))))))))))))))) (fun h => hm (Or.inr (Or.inr (Or.inr (Or.inr (Or.inr (Or.inr (Or.inr (Or.inr (Or.inr (Or.inr (Or.inr (Or.inr (Or.inr (Or.inr (Or.inr (Or.inl h))))))))))))))))))))))))))).trans ((hF_98 a j (fun q => q.elim (fun h => hm (Or.inr (Or.inr (Or.inr (Or.inr (Or.inr (Or.inr (Or.inr (Or.inr (Or.inr (Or.inl h))))))))))) (fun q => q.elim (fun h => hm (Or.inr (Or.inr (Or.inr (Or.inr (Or.inr (Or.inr (Or.inr (Or.inr (Or.inr (Or.inr (Or.inl h)))))))))))) (fun q => q.elim (fun h => hm (Or.inr (Or.inr (Or.inr (Or.inr (Or.inr (Or.inr (Or.inr (Or.inr (Or.inr (Or.inr (Or.inr (Or.inl h))))))))))))) (fun h => hm (Or.inr (Or.inr (Or.inr (Or.inr (Or.inr (Or.inr (Or.inr (Or.inr (Or.inr (Or.inr (Or.inr (Or.inr (Or.inl h)))))))))))))))))).trans ((hF_89 a j (fun q => q.elim (fun h => hm (Or.inr (Or.inr (Or.inl h)))) (fun q => q.elim (fun h => hm (Or.inr (Or.inr (Or.inr (Or.inl h))))) (fun q => q.elim (fun h => hm (Or.inr (Or.inr (Or.inr (Or.inr (Or.inl h)))))) (fun q => q.elim (fun h => hm (Or.inr (Or.inr (Or.inr (Or.inr (Or.inr (Or.inl h))))))) (fun q => q.elim (fun h => hm (Or.inr (Or.inr (Or.inr (Or.inr (Or.inr (Or.inr (Or.inr (Or.inl h))))))))) (fun h => hm (Or.inr (Or.inr (Or.inr (Or.inr (Or.inr (Or.inr (Or.inr (Or.inr (Or.inl h)))))))))))))))).trans (up_b (Decidable.or_iff_not_imp_left.mpr (fun h1 h2 => hm (Or.inl ⟨Decidable.not_not.mp h1, h2⟩))))))))) ⟨by omega, by omega⟩ (by omega) (by omega) (by omega) (by omega)
